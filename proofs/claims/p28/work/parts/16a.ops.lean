/-! ROWS THAT THE LAW OF p28 NEEDS BESIDE: shifts, masks, dup_x2 -/
theorem ush1 (x : Int32) : (x.toUInt32 >>> ((nI 1).toUInt32 &&& Int32.toUInt32 31)).toInt32 = nI (x.toBitVec.toNat / 2) := by
  apply Int32.toBitVec_inj.mp
  show x.toBitVec >>> (((nI 1).toUInt32 &&& Int32.toUInt32 31).toBitVec % 32) = BitVec.ofNat 32 (x.toBitVec.toNat / 2)
  rw [show (((nI 1).toUInt32 &&& Int32.toUInt32 31).toBitVec % 32) = 1#32 by decide +kernel]
  apply BitVec.eq_of_toNat_eq
  have h := x.toBitVec.isLt
  rw [BitVec.ushiftRight_eq', BitVec.toNat_ushiftRight, Nat.shiftRight_eq_div_pow]
  show x.toBitVec.toNat / 2 = (x.toBitVec.toNat / 2) % 2 ^ 32
  rw [Nat.mod_eq_of_lt (Nat.lt_of_le_of_lt (Nat.div_le_self _ _) h)]
theorem ush1_lt (x : Int32) : x.toBitVec.toNat / 2 < 2 ^ 31 := by
  have h := x.toBitVec.isLt
  omega
theorem shr16 {a : Nat} (h : a < 2 ^ 31) : nI a >>> (nI 16 &&& 31) = nI (a / 65536) := by
  apply Int32.toInt_inj.mp
  show ((nI a).toBitVec.sshiftRight' ((nI 16 &&& 31).toBitVec.smod 32)).toInt = _
  rw [BitVec.toInt_sshiftRight', Int.shiftRight_eq_div_pow, show ((nI 16 &&& 31).toBitVec.smod 32).toNat = 16 by decide +kernel, show (nI a).toBitVec.toInt = (a : Int) from nI_toInt h, nI_toInt (by omega)]
  show (a : Int) / ((65536 : Nat) : Int) = ((a / 65536 : Nat) : Int)
  omega
theorem and31L (a : Nat) : lN a &&& lN 2147483647 = lN (a % 2147483648) := by
  apply Int64.toBitVec_inj.mp
  show BitVec.ofNat 64 a &&& BitVec.ofNat 64 2147483647 = BitVec.ofNat 64 (a % 2147483648)
  apply BitVec.eq_of_toNat_eq
  rw [BitVec.toNat_and, BitVec.toNat_ofNat, BitVec.toNat_ofNat, BitVec.toNat_ofNat, show 2147483647 % 2 ^ 64 = 2 ^ 31 - 1 by decide, Nat.and_two_pow_sub_one_eq_mod]
  omega
theorem and31I (y : Int32) : ∃ j, j < 2147483648 ∧ (y &&& nI 2147483647) = nI j := by
  refine ⟨(y.toBitVec &&& 2147483647#32).toNat, ?_, ?_⟩
  · rw [BitVec.toNat_and]
    exact Nat.lt_of_le_of_lt Nat.and_le_right (by decide)
  · apply Int32.toBitVec_inj.mp
    show y.toBitVec &&& 2147483647#32 = BitVec.ofNat 32 _
    rw [BitVec.ofNat_toNat, BitVec.setWidth_eq]
section Ops28
variable {G : GP} {σ : MS} {B : Bd} {pc k n : Nat} {L : List (Nat × Value)} {rest : List Value} {ws : va_W}
theorem a_iushr1 (hB : Bok G σ B) {x : Int32} (hd : decode σ.cc pc = .ok (.iushr, 1))
    (kk : aW G σ B (pc + 1) L (.int (nI (x.toBitVec.toNat / 2)) :: rest) ws k n) : aW G σ B pc L (.int (nI 1) :: .int x :: rest) ws k n :=
  fun H locs ls hP hD hS hl => lv_iushr hB.hx hB.hb hd (ush1 x) (kk H locs ls hP hD hS hl)
theorem a_ishr (hB : Bok G σ B) {x y : Int32} (hd : decode σ.cc pc = .ok (.ishr, 1))
    (kk : aW G σ B (pc + 1) L (.int (x >>> (y &&& 31)) :: rest) ws k n) : aW G σ B pc L (.int y :: .int x :: rest) ws k n :=
  fun H locs ls hP hD hS hl => lv_ishr hB.hx hB.hb hd (kk H locs ls hP hD hS hl)
theorem a_ishr16 (hB : Bok G σ B) {a : Nat} (hd : decode σ.cc pc = .ok (.ishr, 1)) (h : a < 2 ^ 31)
    (kk : aW G σ B (pc + 1) L (.int (nI (a / 65536)) :: rest) ws k n) : aW G σ B pc L (.int (nI 16) :: .int (nI a) :: rest) ws k n :=
  a_ishr hB hd (by rw [shr16 h]; exact kk)
theorem a_land31 (hB : Bok G σ B) {a : Nat} (hd : decode σ.cc pc = .ok (.land, 1))
    (kk : aW G σ B (pc + 1) L (.long (lN (a % 2147483648)) :: rest) ws k n) : aW G σ B pc L (.long (lN 2147483647) :: .long (lN a) :: rest) ws k n :=
  fun H locs ls hP hD hS hl => lv_land hB.hx hB.hb hd (by rw [and31L]; exact kk H locs ls hP hD hS hl)
theorem a_dup_x2 (hB : Bok G σ B) {va vb vd : Value} (hd : decode σ.cc pc = .ok (.dup_x2, 1)) (hva : va.category = 1) (hvb : vb.category = 1) (hvd : vd.category = 1)
    (kk : aW G σ B (pc + 1) L (va :: vb :: vd :: va :: rest) ws k n) : aW G σ B pc L (va :: vb :: vd :: rest) ws k n :=
  fun H locs ls hP hD hS hl => lv_dup_x2 hB.hx hB.hb hd hva hvb hvd (kk H locs ls hP hD hS hl)
/-- the law's script -/
theorem a_scrLen (hB : Bok G σ B) (hd : decode σ.cc pc = .ok (.arraylength, 1))
    (kk : aW G σ B (pc + 1) L (.int (nI G.sn) :: rest) ws k n) : aW G σ B pc L (.ref G.sb :: rest) ws k n := by
  obtain ⟨h1, h2⟩ := hB.hE.2.2.2.2.2.2.2.2.2
  exact a_slen hB h2 (Nat.lt_of_lt_of_le h1 hB.hb0) (fun h => absurd (hB.hAG _ h) (Nat.not_le.mpr h1)) hd kk
theorem a_scrGet (hB : Bok G σ B) {i : Nat} (hi : i < G.sn) (hLn : G.sn ≤ 2048) (hd : decode σ.cc pc = .ok (.iaload, 1))
    (kk : aW G σ B (pc + 1) L (.int (G.sx i) :: rest) ws k n) : aW G σ B pc L (.int (nI i) :: .ref G.sb :: rest) ws k n := by
  obtain ⟨h1, h2⟩ := hB.hE.2.2.2.2.2.2.2.2.2
  exact a_sld hB h2 (Nat.lt_of_lt_of_le h1 hB.hb0) (fun h => absurd (hB.hAG _ h) (Nat.not_le.mpr h1)) hi hLn hd kk
end Ops28
