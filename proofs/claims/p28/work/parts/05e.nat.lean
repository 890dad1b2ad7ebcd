section NatRows
variable {G : GP} {σ : MS} {B : Bd} {pc k n : Nat} {L : List (Nat × Value)} {rest : List Value} {ws : va_W}
def uN {α : Type} (w : Nat → α) (i : Nat) (v : α) : Nat → α := fun j => if j = i then v else w j
abbrev aN (G : GP) (n : Nat) (w : Nat → Nat) : va_E := aI G n (fun j => nI (w j))
abbrev aL (G : GP) (n : Nat) (w : Nat → Nat) : va_E := aJ G n (fun j => lN (w j))
theorem uN_upd (w : Nat → Nat) (i v : Nat) : upd (fun j => nI (w j)) i (nI v) = fun j => nI (uN w i v j) := by
  funext j
  unfold upd uN
  by_cases h : j = i <;> simp [h]
theorem uN_updL (w : Nat → Nat) (i v : Nat) : vp_updL (fun j => lN (w j)) i (lN v) = fun j => lN (uN w i v j) := by
  funext j
  unfold vp_updL uN
  by_cases h : j = i <;> simp [h]
theorem nI_neg {a : Nat} (h : a < 2 ^ 31) : ¬ nI a < 0 := nI_pos h
theorem nI_eq0 {a : Nat} (h : a < 2 ^ 31) : nI a = 0 ↔ a = 0 := by rw [← nI_0, nI_eq h (by decide)]
theorem nI_lt0 {a : Nat} (h : a < 2 ^ 31) : 0 < nI a ↔ 0 < a := by rw [← nI_0, nI_ltI (by decide) h]
theorem nI_le0 {a : Nat} (h : a < 2 ^ 31) : nI a ≤ 0 ↔ a = 0 := by
  rw [← nI_0, nI_leI h (by decide)]
  omega
theorem a_iconstN (hB : Bok G σ B) {j : Int} (v : Nat) (hd : decode σ.cc pc = .ok (.iconst j, 1)) (hv : Int32.ofInt j = nI v)
    (kk : aW G σ B (pc + 1) L (.int (nI v) :: rest) ws k n) : aW G σ B pc L (rest) ws k n := a_iconst hB hd hv kk
theorem a_bipushN (hB : Bok G σ B) {j : Int} (v : Nat) (hd : decode σ.cc pc = .ok (.bipush j, 2)) (hv : (Int8.ofInt j).toInt32 = nI v)
    (kk : aW G σ B (pc + 2) L (.int (nI v) :: rest) ws k n) : aW G σ B pc L (rest) ws k n := a_bipush hB hd hv kk
theorem a_sipushN (hB : Bok G σ B) {j : Int} (v : Nat) (hd : decode σ.cc pc = .ok (.sipush j, 3)) (hv : (Int16.ofInt j).toInt32 = nI v)
    (kk : aW G σ B (pc + 3) L (.int (nI v) :: rest) ws k n) : aW G σ B pc L (rest) ws k n := a_sipush hB hd hv kk
theorem a_lconstN (hB : Bok G σ B) {j : Fin 2} (v : Nat) (hd : decode σ.cc pc = .ok (.lconst j, 1)) (hv : Int64.ofNat (j : Nat) = lN v)
    (kk : aW G σ B (pc + 1) L (.long (lN v) :: rest) ws k n) : aW G σ B pc L (rest) ws k n := a_lconst hB hd hv kk
theorem a_ldcN (hB : Bok G σ B) {index : Nat} {x : Int32} (v : Nat) (hd : decode σ.cc pc = .ok (.ldc index, 2)) (hw : Cond.constant σ.own index x ∈ gw) (hv : x = nI v)
    (kk : aW G σ B (pc + 2) L (.int (nI v) :: rest) ws k n) : aW G σ B pc L (rest) ws k n := a_ldc hB hd hw (by rw [hv]; exact kk)
theorem a_ldc2N (hB : Bok G σ B) {index : Nat} {x : Int64} (v : Nat) (hd : decode σ.cc pc = .ok (.ldc2_w index, 3)) (hw : Cond.constantLong σ.own index x ∈ gw) (hv : x = lN v)
    (kk : aW G σ B (pc + 3) L (.long (lN v) :: rest) ws k n) : aW G σ B pc L (rest) ws k n := a_ldc2 hB hd hw (by rw [hv]; exact kk)
theorem a_iaddN (hB : Bok G σ B) {a b : Nat} (hd : decode σ.cc pc = .ok (.iadd, 1)) 
    (kk : aW G σ B (pc + 1) L (.int (nI (a + b)) :: rest) ws k n) : aW G σ B pc L (.int (nI b) :: .int (nI a) :: rest) ws k n := a_iadd hB hd  (by rw [nI_add]; exact kk)
theorem a_isubN (hB : Bok G σ B) {a b : Nat} (hd : decode σ.cc pc = .ok (.isub, 1)) (h : b ≤ a)
    (kk : aW G σ B (pc + 1) L (.int (nI (a - b)) :: rest) ws k n) : aW G σ B pc L (.int (nI b) :: .int (nI a) :: rest) ws k n := a_isub hB hd  (by rw [pk_sub h]; exact kk)
theorem a_imulN (hB : Bok G σ B) {a b : Nat} (hd : decode σ.cc pc = .ok (.imul, 1)) 
    (kk : aW G σ B (pc + 1) L (.int (nI (a * b)) :: rest) ws k n) : aW G σ B pc L (.int (nI b) :: .int (nI a) :: rest) ws k n := a_imul hB hd  (by rw [pk_mul]; exact kk)
theorem a_idivN (hB : Bok G σ B) {a b : Nat} (hd : decode σ.cc pc = .ok (.idiv, 1)) (ha : a < 2 ^ 31) (h0 : 0 < b) (hb : b < 2 ^ 31)
    (kk : aW G σ B (pc + 1) L (.int (nI (a / b)) :: rest) ws k n) : aW G σ B pc L (.int (nI b) :: .int (nI a) :: rest) ws k n := a_idiv hB hd (fun h => by rw [nI_eq0 hb] at h; omega) (by rw [pk_div ha h0 hb]; exact kk)
theorem a_iremN (hB : Bok G σ B) {a b : Nat} (hd : decode σ.cc pc = .ok (.irem, 1)) (ha : a < 2 ^ 31) (h0 : 0 < b) (hb : b < 2 ^ 31)
    (kk : aW G σ B (pc + 1) L (.int (nI (a % b)) :: rest) ws k n) : aW G σ B pc L (.int (nI b) :: .int (nI a) :: rest) ws k n := a_irem hB hd (fun h => by rw [nI_eq0 hb] at h; omega) (by rw [pk_rem ha h0 hb]; exact kk)
theorem a_laddN (hB : Bok G σ B) {a b : Nat} (hd : decode σ.cc pc = .ok (.ladd, 1)) 
    (kk : aW G σ B (pc + 1) L (.long (lN (a + b)) :: rest) ws k n) : aW G σ B pc L (.long (lN b) :: .long (lN a) :: rest) ws k n := a_ladd hB hd  (by rw [lN_add]; exact kk)
theorem a_lmulN (hB : Bok G σ B) {a b : Nat} (hd : decode σ.cc pc = .ok (.lmul, 1)) 
    (kk : aW G σ B (pc + 1) L (.long (lN (a * b)) :: rest) ws k n) : aW G σ B pc L (.long (lN b) :: .long (lN a) :: rest) ws k n := a_lmul hB hd  (by rw [lN_mul]; exact kk)
theorem a_lremN (hB : Bok G σ B) {a b : Nat} (hd : decode σ.cc pc = .ok (.lrem, 1)) (ha : a < 2 ^ 63) (h0 : 0 < b) (hb : b < 2 ^ 63)
    (kk : aW G σ B (pc + 1) L (.long (lN (a % b)) :: rest) ws k n) : aW G σ B pc L (.long (lN b) :: .long (lN a) :: rest) ws k n := a_lrem hB hd (fun h => by rw [show (0 : Int64) = lN 0 from rfl, pk_lEQ hb (by decide)] at h; omega) (by rw [pk_lRem ha h0 hb]; exact kk)
theorem a_i2lN (hB : Bok G σ B) {a : Nat} (hd : decode σ.cc pc = .ok (.i2l, 1)) (ha : a < 2 ^ 31)
    (kk : aW G σ B (pc + 1) L (.long (lN a) :: rest) ws k n) : aW G σ B pc L (.int (nI a) :: rest) ws k n := a_i2l hB hd (by rw [nI_l ha]; exact kk)
theorem a_l2iN (hB : Bok G σ B) {a : Nat} (hd : decode σ.cc pc = .ok (.l2i, 1))
    (kk : aW G σ B (pc + 1) L (.int (nI a) :: rest) ws k n) : aW G σ B pc L (.long (lN a) :: rest) ws k n := a_l2i hB hd (by rw [lN_i]; exact kk)
theorem a_iincN (hB : Bok G σ B) {i a b : Nat} {j : Int} (hd : decode σ.cc pc = .ok (.iinc i j, 3)) (hl0 : lget L i = some (.int (nI a))) (hv : Int32.ofInt j = nI b) (hn : i < σ.nL)
    (kk : aW G σ B (pc + 3) (lput1 L i (.int (nI (a + b)))) (rest) ws k n) : aW G σ B pc L (rest) ws k n := a_iinc hB hd hl0 hv hn (by rw [nI_add]; exact kk)
theorem a_iincD (hB : Bok G σ B) {i a : Nat} {j : Int} (hd : decode σ.cc pc = .ok (.iinc i j, 3)) (hl0 : lget L i = some (.int (nI (a + 1)))) (hv : Int32.ofInt j = -1) (hn : i < σ.nL)
    (kk : aW G σ B (pc + 3) (lput1 L i (.int (nI a))) (rest) ws k n) : aW G σ B pc L (rest) ws k n := a_iinc hB hd hl0 hv hn (by rw [pk_m1]; exact kk)
theorem a_if_eqN (hB : Bok G σ B) {a : Nat} {off : Int} {tgt : Nat} (hd : decode σ.cc pc = .ok (.ifCond .eq off, 3)) (ht : (pc : Int) + off = (tgt : Int)) (ha : a < 2 ^ 31) (kt : a = 0 → aW G σ B tgt L (rest) ws k n) (kf : ¬ a = 0 → aW G σ B (pc + 3) L (rest) ws k n) : aW G σ B pc L (.int (nI a) :: rest) ws k n :=
  a_if_eq hB hd ht (fun h => kt (by rw [nI_eq0 ha] at h; exact h)) (fun h => kf (by rw [nI_eq0 ha] at h; exact h))
theorem a_if_eqN_t (hB : Bok G σ B) {a : Nat} {off : Int} {tgt : Nat} (hd : decode σ.cc pc = .ok (.ifCond .eq off, 3)) (ht : (pc : Int) + off = (tgt : Int)) (ha : a < 2 ^ 31) (h0 : a = 0) (kt : aW G σ B tgt L (rest) ws k n) : aW G σ B pc L (.int (nI a) :: rest) ws k n :=
  a_if_eqN hB hd ht ha (fun _ => kt) (fun h => by first | exact absurd h0 h | exact absurd h h0)
theorem a_if_eqN_f (hB : Bok G σ B) {a : Nat} {off : Int} {tgt : Nat} (hd : decode σ.cc pc = .ok (.ifCond .eq off, 3)) (ht : (pc : Int) + off = (tgt : Int)) (ha : a < 2 ^ 31) (h0 : ¬ a = 0) (kf : aW G σ B (pc + 3) L (rest) ws k n) : aW G σ B pc L (.int (nI a) :: rest) ws k n :=
  a_if_eqN hB hd ht ha (fun h => by first | exact absurd h0 h | exact absurd h h0) (fun _ => kf)
theorem a_if_neN (hB : Bok G σ B) {a : Nat} {off : Int} {tgt : Nat} (hd : decode σ.cc pc = .ok (.ifCond .ne off, 3)) (ht : (pc : Int) + off = (tgt : Int)) (ha : a < 2 ^ 31) (kt : ¬ a = 0 → aW G σ B tgt L (rest) ws k n) (kf : a = 0 → aW G σ B (pc + 3) L (rest) ws k n) : aW G σ B pc L (.int (nI a) :: rest) ws k n :=
  a_if_ne hB hd ht (fun h => kt (by rw [nI_eq0 ha] at h; exact h)) (fun h => kf (by rw [nI_eq0 ha] at h; exact h))
theorem a_if_neN_t (hB : Bok G σ B) {a : Nat} {off : Int} {tgt : Nat} (hd : decode σ.cc pc = .ok (.ifCond .ne off, 3)) (ht : (pc : Int) + off = (tgt : Int)) (ha : a < 2 ^ 31) (h0 : ¬ a = 0) (kt : aW G σ B tgt L (rest) ws k n) : aW G σ B pc L (.int (nI a) :: rest) ws k n :=
  a_if_neN hB hd ht ha (fun _ => kt) (fun h => by first | exact absurd h0 h | exact absurd h h0)
theorem a_if_neN_f (hB : Bok G σ B) {a : Nat} {off : Int} {tgt : Nat} (hd : decode σ.cc pc = .ok (.ifCond .ne off, 3)) (ht : (pc : Int) + off = (tgt : Int)) (ha : a < 2 ^ 31) (h0 : a = 0) (kf : aW G σ B (pc + 3) L (rest) ws k n) : aW G σ B pc L (.int (nI a) :: rest) ws k n :=
  a_if_neN hB hd ht ha (fun h => by first | exact absurd h0 h | exact absurd h h0) (fun _ => kf)
theorem a_if_gtN (hB : Bok G σ B) {a : Nat} {off : Int} {tgt : Nat} (hd : decode σ.cc pc = .ok (.ifCond .gt off, 3)) (ht : (pc : Int) + off = (tgt : Int)) (ha : a < 2 ^ 31) (kt : 0 < a → aW G σ B tgt L (rest) ws k n) (kf : ¬ 0 < a → aW G σ B (pc + 3) L (rest) ws k n) : aW G σ B pc L (.int (nI a) :: rest) ws k n :=
  a_if_gt hB hd ht (fun h => kt (by rw [nI_lt0 ha] at h; exact h)) (fun h => kf (by rw [nI_lt0 ha] at h; exact h))
theorem a_if_gtN_t (hB : Bok G σ B) {a : Nat} {off : Int} {tgt : Nat} (hd : decode σ.cc pc = .ok (.ifCond .gt off, 3)) (ht : (pc : Int) + off = (tgt : Int)) (ha : a < 2 ^ 31) (h0 : 0 < a) (kt : aW G σ B tgt L (rest) ws k n) : aW G σ B pc L (.int (nI a) :: rest) ws k n :=
  a_if_gtN hB hd ht ha (fun _ => kt) (fun h => by first | exact absurd h0 h | exact absurd h h0)
theorem a_if_gtN_f (hB : Bok G σ B) {a : Nat} {off : Int} {tgt : Nat} (hd : decode σ.cc pc = .ok (.ifCond .gt off, 3)) (ht : (pc : Int) + off = (tgt : Int)) (ha : a < 2 ^ 31) (h0 : ¬ 0 < a) (kf : aW G σ B (pc + 3) L (rest) ws k n) : aW G σ B pc L (.int (nI a) :: rest) ws k n :=
  a_if_gtN hB hd ht ha (fun h => by first | exact absurd h0 h | exact absurd h h0) (fun _ => kf)
theorem a_if_leN (hB : Bok G σ B) {a : Nat} {off : Int} {tgt : Nat} (hd : decode σ.cc pc = .ok (.ifCond .le off, 3)) (ht : (pc : Int) + off = (tgt : Int)) (ha : a < 2 ^ 31) (kt : a = 0 → aW G σ B tgt L (rest) ws k n) (kf : ¬ a = 0 → aW G σ B (pc + 3) L (rest) ws k n) : aW G σ B pc L (.int (nI a) :: rest) ws k n :=
  a_if_le hB hd ht (fun h => kt (by rw [nI_le0 ha] at h; exact h)) (fun h => kf (by rw [nI_le0 ha] at h; exact h))
theorem a_if_leN_t (hB : Bok G σ B) {a : Nat} {off : Int} {tgt : Nat} (hd : decode σ.cc pc = .ok (.ifCond .le off, 3)) (ht : (pc : Int) + off = (tgt : Int)) (ha : a < 2 ^ 31) (h0 : a = 0) (kt : aW G σ B tgt L (rest) ws k n) : aW G σ B pc L (.int (nI a) :: rest) ws k n :=
  a_if_leN hB hd ht ha (fun _ => kt) (fun h => by first | exact absurd h0 h | exact absurd h h0)
theorem a_if_leN_f (hB : Bok G σ B) {a : Nat} {off : Int} {tgt : Nat} (hd : decode σ.cc pc = .ok (.ifCond .le off, 3)) (ht : (pc : Int) + off = (tgt : Int)) (ha : a < 2 ^ 31) (h0 : ¬ a = 0) (kf : aW G σ B (pc + 3) L (rest) ws k n) : aW G σ B pc L (.int (nI a) :: rest) ws k n :=
  a_if_leN hB hd ht ha (fun h => by first | exact absurd h0 h | exact absurd h h0) (fun _ => kf)
theorem a_if_ltN_f (hB : Bok G σ B) {a : Nat} {off : Int} {tgt : Nat} (hd : decode σ.cc pc = .ok (.ifCond .lt off, 3)) (ht : (pc : Int) + off = (tgt : Int)) (ha : a < 2 ^ 31) (kf : aW G σ B (pc + 3) L (rest) ws k n) : aW G σ B pc L (.int (nI a) :: rest) ws k n :=
  a_if_lt_f hB hd ht (nI_neg ha) kf
theorem a_if_geN_t (hB : Bok G σ B) {a : Nat} {off : Int} {tgt : Nat} (hd : decode σ.cc pc = .ok (.ifCond .ge off, 3)) (ht : (pc : Int) + off = (tgt : Int)) (ha : a < 2 ^ 31) (kt : aW G σ B tgt L (rest) ws k n) : aW G σ B pc L (.int (nI a) :: rest) ws k n :=
  a_if_ge_t hB hd ht (nI_pos' ha) kt
theorem a_icmp_eqN (hB : Bok G σ B) {a b : Nat} {off : Int} {tgt : Nat} (hd : decode σ.cc pc = .ok (.if_icmp .eq off, 3)) (ht : (pc : Int) + off = (tgt : Int)) (ha : a < 2 ^ 31) (hb : b < 2 ^ 31) (kt : a = b → aW G σ B tgt L (rest) ws k n) (kf : ¬ a = b → aW G σ B (pc + 3) L (rest) ws k n) : aW G σ B pc L (.int (nI b) :: .int (nI a) :: rest) ws k n :=
  a_icmp_eq hB hd ht (fun h => kt (by rw [nI_eq ha hb] at h; exact h)) (fun h => kf (by rw [nI_eq ha hb] at h; exact h))
theorem a_icmp_eqN_t (hB : Bok G σ B) {a b : Nat} {off : Int} {tgt : Nat} (hd : decode σ.cc pc = .ok (.if_icmp .eq off, 3)) (ht : (pc : Int) + off = (tgt : Int)) (ha : a < 2 ^ 31) (hb : b < 2 ^ 31) (h0 : a = b) (kt : aW G σ B tgt L (rest) ws k n) : aW G σ B pc L (.int (nI b) :: .int (nI a) :: rest) ws k n :=
  a_icmp_eqN hB hd ht ha hb (fun _ => kt) (fun h => by first | exact absurd h0 h | exact absurd h h0)
theorem a_icmp_eqN_f (hB : Bok G σ B) {a b : Nat} {off : Int} {tgt : Nat} (hd : decode σ.cc pc = .ok (.if_icmp .eq off, 3)) (ht : (pc : Int) + off = (tgt : Int)) (ha : a < 2 ^ 31) (hb : b < 2 ^ 31) (h0 : ¬ a = b) (kf : aW G σ B (pc + 3) L (rest) ws k n) : aW G σ B pc L (.int (nI b) :: .int (nI a) :: rest) ws k n :=
  a_icmp_eqN hB hd ht ha hb (fun h => by first | exact absurd h0 h | exact absurd h h0) (fun _ => kf)
theorem a_icmp_neN (hB : Bok G σ B) {a b : Nat} {off : Int} {tgt : Nat} (hd : decode σ.cc pc = .ok (.if_icmp .ne off, 3)) (ht : (pc : Int) + off = (tgt : Int)) (ha : a < 2 ^ 31) (hb : b < 2 ^ 31) (kt : ¬ a = b → aW G σ B tgt L (rest) ws k n) (kf : a = b → aW G σ B (pc + 3) L (rest) ws k n) : aW G σ B pc L (.int (nI b) :: .int (nI a) :: rest) ws k n :=
  a_icmp_ne hB hd ht (fun h => kt (by rw [nI_eq ha hb] at h; exact h)) (fun h => kf (by rw [nI_eq ha hb] at h; exact h))
theorem a_icmp_neN_t (hB : Bok G σ B) {a b : Nat} {off : Int} {tgt : Nat} (hd : decode σ.cc pc = .ok (.if_icmp .ne off, 3)) (ht : (pc : Int) + off = (tgt : Int)) (ha : a < 2 ^ 31) (hb : b < 2 ^ 31) (h0 : ¬ a = b) (kt : aW G σ B tgt L (rest) ws k n) : aW G σ B pc L (.int (nI b) :: .int (nI a) :: rest) ws k n :=
  a_icmp_neN hB hd ht ha hb (fun _ => kt) (fun h => by first | exact absurd h0 h | exact absurd h h0)
theorem a_icmp_neN_f (hB : Bok G σ B) {a b : Nat} {off : Int} {tgt : Nat} (hd : decode σ.cc pc = .ok (.if_icmp .ne off, 3)) (ht : (pc : Int) + off = (tgt : Int)) (ha : a < 2 ^ 31) (hb : b < 2 ^ 31) (h0 : a = b) (kf : aW G σ B (pc + 3) L (rest) ws k n) : aW G σ B pc L (.int (nI b) :: .int (nI a) :: rest) ws k n :=
  a_icmp_neN hB hd ht ha hb (fun h => by first | exact absurd h0 h | exact absurd h h0) (fun _ => kf)
theorem a_icmp_ltN (hB : Bok G σ B) {a b : Nat} {off : Int} {tgt : Nat} (hd : decode σ.cc pc = .ok (.if_icmp .lt off, 3)) (ht : (pc : Int) + off = (tgt : Int)) (ha : a < 2 ^ 31) (hb : b < 2 ^ 31) (kt : a < b → aW G σ B tgt L (rest) ws k n) (kf : ¬ a < b → aW G σ B (pc + 3) L (rest) ws k n) : aW G σ B pc L (.int (nI b) :: .int (nI a) :: rest) ws k n :=
  a_icmp_lt hB hd ht (fun h => kt (by rw [nI_ltI ha hb] at h; exact h)) (fun h => kf (by rw [nI_ltI ha hb] at h; exact h))
theorem a_icmp_ltN_t (hB : Bok G σ B) {a b : Nat} {off : Int} {tgt : Nat} (hd : decode σ.cc pc = .ok (.if_icmp .lt off, 3)) (ht : (pc : Int) + off = (tgt : Int)) (ha : a < 2 ^ 31) (hb : b < 2 ^ 31) (h0 : a < b) (kt : aW G σ B tgt L (rest) ws k n) : aW G σ B pc L (.int (nI b) :: .int (nI a) :: rest) ws k n :=
  a_icmp_ltN hB hd ht ha hb (fun _ => kt) (fun h => by first | exact absurd h0 h | exact absurd h h0)
theorem a_icmp_ltN_f (hB : Bok G σ B) {a b : Nat} {off : Int} {tgt : Nat} (hd : decode σ.cc pc = .ok (.if_icmp .lt off, 3)) (ht : (pc : Int) + off = (tgt : Int)) (ha : a < 2 ^ 31) (hb : b < 2 ^ 31) (h0 : ¬ a < b) (kf : aW G σ B (pc + 3) L (rest) ws k n) : aW G σ B pc L (.int (nI b) :: .int (nI a) :: rest) ws k n :=
  a_icmp_ltN hB hd ht ha hb (fun h => by first | exact absurd h0 h | exact absurd h h0) (fun _ => kf)
theorem a_icmp_geN (hB : Bok G σ B) {a b : Nat} {off : Int} {tgt : Nat} (hd : decode σ.cc pc = .ok (.if_icmp .ge off, 3)) (ht : (pc : Int) + off = (tgt : Int)) (ha : a < 2 ^ 31) (hb : b < 2 ^ 31) (kt : b ≤ a → aW G σ B tgt L (rest) ws k n) (kf : ¬ b ≤ a → aW G σ B (pc + 3) L (rest) ws k n) : aW G σ B pc L (.int (nI b) :: .int (nI a) :: rest) ws k n :=
  a_icmp_ge hB hd ht (fun h => kt (by rw [nI_leI hb ha] at h; exact h)) (fun h => kf (by rw [nI_leI hb ha] at h; exact h))
theorem a_icmp_geN_t (hB : Bok G σ B) {a b : Nat} {off : Int} {tgt : Nat} (hd : decode σ.cc pc = .ok (.if_icmp .ge off, 3)) (ht : (pc : Int) + off = (tgt : Int)) (ha : a < 2 ^ 31) (hb : b < 2 ^ 31) (h0 : b ≤ a) (kt : aW G σ B tgt L (rest) ws k n) : aW G σ B pc L (.int (nI b) :: .int (nI a) :: rest) ws k n :=
  a_icmp_geN hB hd ht ha hb (fun _ => kt) (fun h => by first | exact absurd h0 h | exact absurd h h0)
theorem a_icmp_geN_f (hB : Bok G σ B) {a b : Nat} {off : Int} {tgt : Nat} (hd : decode σ.cc pc = .ok (.if_icmp .ge off, 3)) (ht : (pc : Int) + off = (tgt : Int)) (ha : a < 2 ^ 31) (hb : b < 2 ^ 31) (h0 : ¬ b ≤ a) (kf : aW G σ B (pc + 3) L (rest) ws k n) : aW G σ B pc L (.int (nI b) :: .int (nI a) :: rest) ws k n :=
  a_icmp_geN hB hd ht ha hb (fun h => by first | exact absurd h0 h | exact absurd h h0) (fun _ => kf)
theorem a_icmp_gtN (hB : Bok G σ B) {a b : Nat} {off : Int} {tgt : Nat} (hd : decode σ.cc pc = .ok (.if_icmp .gt off, 3)) (ht : (pc : Int) + off = (tgt : Int)) (ha : a < 2 ^ 31) (hb : b < 2 ^ 31) (kt : b < a → aW G σ B tgt L (rest) ws k n) (kf : ¬ b < a → aW G σ B (pc + 3) L (rest) ws k n) : aW G σ B pc L (.int (nI b) :: .int (nI a) :: rest) ws k n :=
  a_icmp_gt hB hd ht (fun h => kt (by rw [nI_ltI hb ha] at h; exact h)) (fun h => kf (by rw [nI_ltI hb ha] at h; exact h))
theorem a_icmp_gtN_t (hB : Bok G σ B) {a b : Nat} {off : Int} {tgt : Nat} (hd : decode σ.cc pc = .ok (.if_icmp .gt off, 3)) (ht : (pc : Int) + off = (tgt : Int)) (ha : a < 2 ^ 31) (hb : b < 2 ^ 31) (h0 : b < a) (kt : aW G σ B tgt L (rest) ws k n) : aW G σ B pc L (.int (nI b) :: .int (nI a) :: rest) ws k n :=
  a_icmp_gtN hB hd ht ha hb (fun _ => kt) (fun h => by first | exact absurd h0 h | exact absurd h h0)
theorem a_icmp_gtN_f (hB : Bok G σ B) {a b : Nat} {off : Int} {tgt : Nat} (hd : decode σ.cc pc = .ok (.if_icmp .gt off, 3)) (ht : (pc : Int) + off = (tgt : Int)) (ha : a < 2 ^ 31) (hb : b < 2 ^ 31) (h0 : ¬ b < a) (kf : aW G σ B (pc + 3) L (rest) ws k n) : aW G σ B pc L (.int (nI b) :: .int (nI a) :: rest) ws k n :=
  a_icmp_gtN hB hd ht ha hb (fun h => by first | exact absurd h0 h | exact absurd h h0) (fun _ => kf)
theorem a_icmp_leN (hB : Bok G σ B) {a b : Nat} {off : Int} {tgt : Nat} (hd : decode σ.cc pc = .ok (.if_icmp .le off, 3)) (ht : (pc : Int) + off = (tgt : Int)) (ha : a < 2 ^ 31) (hb : b < 2 ^ 31) (kt : a ≤ b → aW G σ B tgt L (rest) ws k n) (kf : ¬ a ≤ b → aW G σ B (pc + 3) L (rest) ws k n) : aW G σ B pc L (.int (nI b) :: .int (nI a) :: rest) ws k n :=
  a_icmp_le hB hd ht (fun h => kt (by rw [nI_leI ha hb] at h; exact h)) (fun h => kf (by rw [nI_leI ha hb] at h; exact h))
theorem a_icmp_leN_t (hB : Bok G σ B) {a b : Nat} {off : Int} {tgt : Nat} (hd : decode σ.cc pc = .ok (.if_icmp .le off, 3)) (ht : (pc : Int) + off = (tgt : Int)) (ha : a < 2 ^ 31) (hb : b < 2 ^ 31) (h0 : a ≤ b) (kt : aW G σ B tgt L (rest) ws k n) : aW G σ B pc L (.int (nI b) :: .int (nI a) :: rest) ws k n :=
  a_icmp_leN hB hd ht ha hb (fun _ => kt) (fun h => by first | exact absurd h0 h | exact absurd h h0)
theorem a_icmp_leN_f (hB : Bok G σ B) {a b : Nat} {off : Int} {tgt : Nat} (hd : decode σ.cc pc = .ok (.if_icmp .le off, 3)) (ht : (pc : Int) + off = (tgt : Int)) (ha : a < 2 ^ 31) (hb : b < 2 ^ 31) (h0 : ¬ a ≤ b) (kf : aW G σ B (pc + 3) L (rest) ws k n) : aW G σ B pc L (.int (nI b) :: .int (nI a) :: rest) ws k n :=
  a_icmp_leN hB hd ht ha hb (fun h => by first | exact absurd h0 h | exact absurd h h0) (fun _ => kf)
theorem a_if_leL (hB : Bok G σ B) {a b : Nat} {off : Int} {tgt : Nat} (hd : decode σ.cc pc = .ok (.ifCond .le off, 3)) (ht : (pc : Int) + off = (tgt : Int)) (ha : a < 2 ^ 63) (hb : b < 2 ^ 63) (kt : a ≤ b → aW G σ B tgt L (rest) ws k n) (kf : ¬ a ≤ b → aW G σ B (pc + 3) L (rest) ws k n) : aW G σ B pc L (.int (lg_cmp (lN a) (lN b)) :: rest) ws k n :=
  a_if_le hB hd ht (fun h => kt (by rw [lg_cmp_le, pk_lLE ha hb] at h; exact h)) (fun h => kf (by rw [lg_cmp_le, pk_lLE ha hb] at h; exact h))
theorem a_if_leL_t (hB : Bok G σ B) {a b : Nat} {off : Int} {tgt : Nat} (hd : decode σ.cc pc = .ok (.ifCond .le off, 3)) (ht : (pc : Int) + off = (tgt : Int)) (ha : a < 2 ^ 63) (hb : b < 2 ^ 63) (h0 : a ≤ b) (kt : aW G σ B tgt L (rest) ws k n) : aW G σ B pc L (.int (lg_cmp (lN a) (lN b)) :: rest) ws k n :=
  a_if_leL hB hd ht ha hb (fun _ => kt) (fun h => by first | exact absurd h0 h | exact absurd h h0)
theorem a_if_leL_f (hB : Bok G σ B) {a b : Nat} {off : Int} {tgt : Nat} (hd : decode σ.cc pc = .ok (.ifCond .le off, 3)) (ht : (pc : Int) + off = (tgt : Int)) (ha : a < 2 ^ 63) (hb : b < 2 ^ 63) (h0 : ¬ a ≤ b) (kf : aW G σ B (pc + 3) L (rest) ws k n) : aW G σ B pc L (.int (lg_cmp (lN a) (lN b)) :: rest) ws k n :=
  a_if_leL hB hd ht ha hb (fun h => by first | exact absurd h0 h | exact absurd h h0) (fun _ => kf)
theorem a_if_geL (hB : Bok G σ B) {a b : Nat} {off : Int} {tgt : Nat} (hd : decode σ.cc pc = .ok (.ifCond .ge off, 3)) (ht : (pc : Int) + off = (tgt : Int)) (ha : a < 2 ^ 63) (hb : b < 2 ^ 63) (kt : b ≤ a → aW G σ B tgt L (rest) ws k n) (kf : ¬ b ≤ a → aW G σ B (pc + 3) L (rest) ws k n) : aW G σ B pc L (.int (lg_cmp (lN a) (lN b)) :: rest) ws k n :=
  a_if_ge hB hd ht (fun h => kt (by rw [lg_cmp_ge, pk_lLE hb ha] at h; exact h)) (fun h => kf (by rw [lg_cmp_ge, pk_lLE hb ha] at h; exact h))
theorem a_if_geL_t (hB : Bok G σ B) {a b : Nat} {off : Int} {tgt : Nat} (hd : decode σ.cc pc = .ok (.ifCond .ge off, 3)) (ht : (pc : Int) + off = (tgt : Int)) (ha : a < 2 ^ 63) (hb : b < 2 ^ 63) (h0 : b ≤ a) (kt : aW G σ B tgt L (rest) ws k n) : aW G σ B pc L (.int (lg_cmp (lN a) (lN b)) :: rest) ws k n :=
  a_if_geL hB hd ht ha hb (fun _ => kt) (fun h => by first | exact absurd h0 h | exact absurd h h0)
theorem a_if_geL_f (hB : Bok G σ B) {a b : Nat} {off : Int} {tgt : Nat} (hd : decode σ.cc pc = .ok (.ifCond .ge off, 3)) (ht : (pc : Int) + off = (tgt : Int)) (ha : a < 2 ^ 63) (hb : b < 2 ^ 63) (h0 : ¬ b ≤ a) (kf : aW G σ B (pc + 3) L (rest) ws k n) : aW G σ B pc L (.int (lg_cmp (lN a) (lN b)) :: rest) ws k n :=
  a_if_geL hB hd ht ha hb (fun h => by first | exact absurd h0 h | exact absurd h h0) (fun _ => kf)
theorem a_if_gtL (hB : Bok G σ B) {a b : Nat} {off : Int} {tgt : Nat} (hd : decode σ.cc pc = .ok (.ifCond .gt off, 3)) (ht : (pc : Int) + off = (tgt : Int)) (ha : a < 2 ^ 63) (hb : b < 2 ^ 63) (kt : b < a → aW G σ B tgt L (rest) ws k n) (kf : ¬ b < a → aW G σ B (pc + 3) L (rest) ws k n) : aW G σ B pc L (.int (lg_cmp (lN a) (lN b)) :: rest) ws k n :=
  a_if_gt hB hd ht (fun h => kt (by rw [lg_cmp_gt, pk_lLT hb ha] at h; exact h)) (fun h => kf (by rw [lg_cmp_gt, pk_lLT hb ha] at h; exact h))
theorem a_if_gtL_t (hB : Bok G σ B) {a b : Nat} {off : Int} {tgt : Nat} (hd : decode σ.cc pc = .ok (.ifCond .gt off, 3)) (ht : (pc : Int) + off = (tgt : Int)) (ha : a < 2 ^ 63) (hb : b < 2 ^ 63) (h0 : b < a) (kt : aW G σ B tgt L (rest) ws k n) : aW G σ B pc L (.int (lg_cmp (lN a) (lN b)) :: rest) ws k n :=
  a_if_gtL hB hd ht ha hb (fun _ => kt) (fun h => by first | exact absurd h0 h | exact absurd h h0)
theorem a_if_gtL_f (hB : Bok G σ B) {a b : Nat} {off : Int} {tgt : Nat} (hd : decode σ.cc pc = .ok (.ifCond .gt off, 3)) (ht : (pc : Int) + off = (tgt : Int)) (ha : a < 2 ^ 63) (hb : b < 2 ^ 63) (h0 : ¬ b < a) (kf : aW G σ B (pc + 3) L (rest) ws k n) : aW G σ B pc L (.int (lg_cmp (lN a) (lN b)) :: rest) ws k n :=
  a_if_gtL hB hd ht ha hb (fun h => by first | exact absurd h0 h | exact absurd h h0) (fun _ => kf)
theorem a_if_ltL (hB : Bok G σ B) {a b : Nat} {off : Int} {tgt : Nat} (hd : decode σ.cc pc = .ok (.ifCond .lt off, 3)) (ht : (pc : Int) + off = (tgt : Int)) (ha : a < 2 ^ 63) (hb : b < 2 ^ 63) (kt : a < b → aW G σ B tgt L (rest) ws k n) (kf : ¬ a < b → aW G σ B (pc + 3) L (rest) ws k n) : aW G σ B pc L (.int (lg_cmp (lN a) (lN b)) :: rest) ws k n :=
  a_if_lt hB hd ht (fun h => kt (by rw [lg_cmp_lt, pk_lLT ha hb] at h; exact h)) (fun h => kf (by rw [lg_cmp_lt, pk_lLT ha hb] at h; exact h))
theorem a_if_ltL_t (hB : Bok G σ B) {a b : Nat} {off : Int} {tgt : Nat} (hd : decode σ.cc pc = .ok (.ifCond .lt off, 3)) (ht : (pc : Int) + off = (tgt : Int)) (ha : a < 2 ^ 63) (hb : b < 2 ^ 63) (h0 : a < b) (kt : aW G σ B tgt L (rest) ws k n) : aW G σ B pc L (.int (lg_cmp (lN a) (lN b)) :: rest) ws k n :=
  a_if_ltL hB hd ht ha hb (fun _ => kt) (fun h => by first | exact absurd h0 h | exact absurd h h0)
theorem a_if_ltL_f (hB : Bok G σ B) {a b : Nat} {off : Int} {tgt : Nat} (hd : decode σ.cc pc = .ok (.ifCond .lt off, 3)) (ht : (pc : Int) + off = (tgt : Int)) (ha : a < 2 ^ 63) (hb : b < 2 ^ 63) (h0 : ¬ a < b) (kf : aW G σ B (pc + 3) L (rest) ws k n) : aW G σ B pc L (.int (lg_cmp (lN a) (lN b)) :: rest) ws k n :=
  a_if_ltL hB hd ht ha hb (fun h => by first | exact absurd h0 h | exact absurd h h0) (fun _ => kf)
theorem a_if_eqL (hB : Bok G σ B) {a b : Nat} {off : Int} {tgt : Nat} (hd : decode σ.cc pc = .ok (.ifCond .eq off, 3)) (ht : (pc : Int) + off = (tgt : Int)) (ha : a < 2 ^ 63) (hb : b < 2 ^ 63) (kt : a = b → aW G σ B tgt L (rest) ws k n) (kf : ¬ a = b → aW G σ B (pc + 3) L (rest) ws k n) : aW G σ B pc L (.int (lg_cmp (lN a) (lN b)) :: rest) ws k n :=
  a_if_eq hB hd ht (fun h => kt (by rw [lg_cmp_eq, pk_lEQ ha hb] at h; exact h)) (fun h => kf (by rw [lg_cmp_eq, pk_lEQ ha hb] at h; exact h))
theorem a_if_eqL_t (hB : Bok G σ B) {a b : Nat} {off : Int} {tgt : Nat} (hd : decode σ.cc pc = .ok (.ifCond .eq off, 3)) (ht : (pc : Int) + off = (tgt : Int)) (ha : a < 2 ^ 63) (hb : b < 2 ^ 63) (h0 : a = b) (kt : aW G σ B tgt L (rest) ws k n) : aW G σ B pc L (.int (lg_cmp (lN a) (lN b)) :: rest) ws k n :=
  a_if_eqL hB hd ht ha hb (fun _ => kt) (fun h => by first | exact absurd h0 h | exact absurd h h0)
theorem a_if_eqL_f (hB : Bok G σ B) {a b : Nat} {off : Int} {tgt : Nat} (hd : decode σ.cc pc = .ok (.ifCond .eq off, 3)) (ht : (pc : Int) + off = (tgt : Int)) (ha : a < 2 ^ 63) (hb : b < 2 ^ 63) (h0 : ¬ a = b) (kf : aW G σ B (pc + 3) L (rest) ws k n) : aW G σ B pc L (.int (lg_cmp (lN a) (lN b)) :: rest) ws k n :=
  a_if_eqL hB hd ht ha hb (fun h => by first | exact absurd h0 h | exact absurd h h0) (fun _ => kf)
theorem a_if_neL (hB : Bok G σ B) {a b : Nat} {off : Int} {tgt : Nat} (hd : decode σ.cc pc = .ok (.ifCond .ne off, 3)) (ht : (pc : Int) + off = (tgt : Int)) (ha : a < 2 ^ 63) (hb : b < 2 ^ 63) (kt : ¬ a = b → aW G σ B tgt L (rest) ws k n) (kf : a = b → aW G σ B (pc + 3) L (rest) ws k n) : aW G σ B pc L (.int (lg_cmp (lN a) (lN b)) :: rest) ws k n :=
  a_if_ne hB hd ht (fun h => kt (by rw [lg_cmp_eq, pk_lEQ ha hb] at h; exact h)) (fun h => kf (by rw [lg_cmp_eq, pk_lEQ ha hb] at h; exact h))
theorem a_if_neL_t (hB : Bok G σ B) {a b : Nat} {off : Int} {tgt : Nat} (hd : decode σ.cc pc = .ok (.ifCond .ne off, 3)) (ht : (pc : Int) + off = (tgt : Int)) (ha : a < 2 ^ 63) (hb : b < 2 ^ 63) (h0 : ¬ a = b) (kt : aW G σ B tgt L (rest) ws k n) : aW G σ B pc L (.int (lg_cmp (lN a) (lN b)) :: rest) ws k n :=
  a_if_neL hB hd ht ha hb (fun _ => kt) (fun h => by first | exact absurd h0 h | exact absurd h h0)
theorem a_if_neL_f (hB : Bok G σ B) {a b : Nat} {off : Int} {tgt : Nat} (hd : decode σ.cc pc = .ok (.ifCond .ne off, 3)) (ht : (pc : Int) + off = (tgt : Int)) (ha : a < 2 ^ 63) (hb : b < 2 ^ 63) (h0 : a = b) (kf : aW G σ B (pc + 3) L (rest) ws k n) : aW G σ B pc L (.int (lg_cmp (lN a) (lN b)) :: rest) ws k n :=
  a_if_neL hB hd ht ha hb (fun h => by first | exact absurd h0 h | exact absurd h h0) (fun _ => kf)
theorem vp_inN {i N : Nat} (h : i < N) (hN : N < 2 ^ 31) : vp_in (nI i) N := vp_in_nI h hN
theorem a_ialoadN (hB : Bok G σ B) {a N i : Nat} {w : Nat → Nat} (hd : decode σ.cc pc = .ok (.iaload, 1)) (q0 : Nat) (he : ws[q0]? = some (a, aN G N w)) (hi : i < N) (hN : N < 2 ^ 31)
    (kk : aW G σ B (pc + 1) L (.int (nI (w i)) :: rest) ws k n) : aW G σ B pc L (.int (nI i) :: .ref a :: rest) ws k n :=
  a_iaload hB hd q0 he (vp_inN hi hN) (by rw [nI_clamp (Nat.lt_trans hi hN)]; exact kk)
theorem a_laloadN (hB : Bok G σ B) {a N i : Nat} {w : Nat → Nat} (hd : decode σ.cc pc = .ok (.laload, 1)) (q0 : Nat) (he : ws[q0]? = some (a, aL G N w)) (hi : i < N) (hN : N < 2 ^ 31)
    (kk : aW G σ B (pc + 1) L (.long (lN (w i)) :: rest) ws k n) : aW G σ B pc L (.int (nI i) :: .ref a :: rest) ws k n :=
  a_laload hB hd q0 he (vp_inN hi hN) (by rw [nI_clamp (Nat.lt_trans hi hN)]; exact kk)
theorem a_daloadN (hB : Bok G σ B) {a N i : Nat} {w : Nat → UInt64} (hd : decode σ.cc pc = .ok (.daload, 1)) (q0 : Nat) (he : ws[q0]? = some (a, aD G N w)) (hi : i < N) (hN : N < 2 ^ 31)
    (kk : aW G σ B (pc + 1) L (.double (w i) :: rest) ws k n) : aW G σ B pc L (.int (nI i) :: .ref a :: rest) ws k n :=
  a_daload hB hd q0 he (vp_inN hi hN) (by rw [nI_clamp (Nat.lt_trans hi hN)]; exact kk)
theorem a_iastoreN (hB : Bok G σ B) {a N i v : Nat} {w : Nat → Nat} (hd : decode σ.cc pc = .ok (.iastore, 1)) (q0 : Nat) (he : ws[q0]? = some (a, aN G N w)) (hi : i < N) (hN : N < 2 ^ 31)
    (kk : aW G σ B (pc + 1) L (rest) (ws.set q0 (a, aN G N (uN w i v))) k n) : aW G σ B pc L (.int (nI v) :: .int (nI i) :: .ref a :: rest) ws k n :=
  a_iastore hB hd q0 he (vp_inN hi hN) (by rw [nI_clamp (Nat.lt_trans hi hN), uN_upd]; exact kk)
theorem a_lastoreN (hB : Bok G σ B) {a N i v : Nat} {w : Nat → Nat} (hd : decode σ.cc pc = .ok (.lastore, 1)) (q0 : Nat) (he : ws[q0]? = some (a, aL G N w)) (hi : i < N) (hN : N < 2 ^ 31)
    (kk : aW G σ B (pc + 1) L (rest) (ws.set q0 (a, aL G N (uN w i v))) k n) : aW G σ B pc L (.long (lN v) :: .int (nI i) :: .ref a :: rest) ws k n :=
  a_lastore hB hd q0 he (vp_inN hi hN) (by rw [nI_clamp (Nat.lt_trans hi hN), uN_updL]; exact kk)
theorem a_dastoreN (hB : Bok G σ B) {a N i : Nat} {v : UInt64} {w : Nat → UInt64} (hd : decode σ.cc pc = .ok (.dastore, 1)) (q0 : Nat) (he : ws[q0]? = some (a, aD G N w)) (hi : i < N) (hN : N < 2 ^ 31)
    (kk : aW G σ B (pc + 1) L (rest) (ws.set q0 (a, aD G N (uN w i v))) k n) : aW G σ B pc L (.double v :: .int (nI i) :: .ref a :: rest) ws k n :=
  a_dastore hB hd q0 he (vp_inN hi hN) (by rw [nI_clamp (Nat.lt_trans hi hN)]; exact kk)
theorem a_maxN (hB : Bok G σ B) {idx a b : Nat} (hw : Cond.methodLink σ.own idx Lib.Math.max.name ∈ gw) (hd : decode σ.cc pc = .ok (.invokestatic idx, 3)) (ha : a < 2 ^ 31) (hb : b < 2 ^ 31) (hf : 1 ≤ B.R.frames) (hlo : (rest.map fun v => v.category).sum + 13 ≤ B.R.locals) (hk : k ≤ B.R.cells) (hn : n ≤ B.R.slots)
    (kk : aW G σ B (pc + 3) L (.int (nI (max a b)) :: rest) ws k n) : aW G σ B pc L (.int (nI b) :: .int (nI a) :: rest) ws k n :=
  a_max hB hw hd hf hlo hk hn (by
    have e : (if nI a < nI b then nI b else nI a) = nI (max a b) := by
      by_cases h : a < b
      · rw [if_pos ((nI_ltI ha hb).mpr h), Nat.max_eq_right (by omega)]
      · rw [if_neg (fun z => h ((nI_ltI ha hb).mp z)), Nat.max_eq_left (by omega)]
    rw [e]; exact kk)
theorem a_minN (hB : Bok G σ B) {idx a b : Nat} (hw : Cond.methodLink σ.own idx Lib.Math.min.name ∈ gw) (hd : decode σ.cc pc = .ok (.invokestatic idx, 3)) (ha : a < 2 ^ 31) (hb : b < 2 ^ 31) (hf : 1 ≤ B.R.frames) (hlo : (rest.map fun v => v.category).sum + 13 ≤ B.R.locals) (hk : k ≤ B.R.cells) (hn : n ≤ B.R.slots)
    (kk : aW G σ B (pc + 3) L (.int (nI (min a b)) :: rest) ws k n) : aW G σ B pc L (.int (nI b) :: .int (nI a) :: rest) ws k n :=
  a_min hB hw hd hf hlo hk hn (by
    have e : (if nI b < nI a then nI b else nI a) = nI (min a b) := by
      by_cases h : b < a
      · rw [if_pos ((nI_ltI hb ha).mpr h), Nat.min_eq_right (by omega)]
      · rw [if_neg (fun z => h ((nI_ltI hb ha).mp z)), Nat.min_eq_left (by omega)]
    rw [e]; exact kk)
theorem a_maxSub (hB : Bok G σ B) {idx a b : Nat} (hw : Cond.methodLink σ.own idx Lib.Math.max.name ∈ gw) (hd : decode σ.cc pc = .ok (.invokestatic idx, 3)) (ha : a < 2 ^ 30) (hb : b < 2 ^ 30) (hf : 1 ≤ B.R.frames) (hlo : (rest.map fun v => v.category).sum + 13 ≤ B.R.locals) (hk : k ≤ B.R.cells) (hn : n ≤ B.R.slots)
    (kk : aW G σ B (pc + 3) L (.int (nI (a - b)) :: rest) ws k n) : aW G σ B pc L (.int (nI 0) :: .int (nI a - nI b) :: rest) ws k n :=
  a_max hB hw hd hf hlo hk hn (by
    have e : (if nI a - nI b < nI 0 then nI 0 else nI a - nI b) = nI (a - b) := by
      by_cases h : a < b
      · rw [if_pos (by rw [nI_0]; exact pk_sneg hb h), Nat.sub_eq_zero_of_le (Nat.le_of_lt h)]
      · rw [pk_sub (by omega), if_neg (by rw [nI_0]; exact nI_pos (by omega))]
    rw [e]; exact kk)
theorem a_aaloadS (hB : Bok G σ B) {a N i : Nat} {f : Nat → Option Nat} {v : Option Nat} (hd : decode σ.cc pc = .ok (.aaload, 1)) (q0 : Nat) (he : ws[q0]? = some (a, aP G N f)) (hi : i < N) (hN : N < 2 ^ 31) (hv : f i = v)
    (kk : aW G σ B (pc + 1) L (va_rf v :: rest) ws k n) : aW G σ B pc L (.int (nI i) :: .ref a :: rest) ws k n :=
  a_aaload hB hd q0 he (vp_inN hi hN) (by rw [nI_clamp (Nat.lt_trans hi hN), hv]; exact kk)
theorem a_aastoreN (hB : Bok G σ B) {a N i v : Nat} {f : Nat → Option Nat} {vs : List Value} (hd : decode σ.cc pc = .ok (.aastore, 1)) (q0 qk : Nat) (he : ws[q0]? = some (a, aP G N f)) (hv : ws[qk]? = some (v, .inr (4, vs))) (hi : i < N) (hN : N < 2 ^ 31)
    (kk : aW G σ B (pc + 1) L (rest) (ws.set q0 (a, aP G N (va_up f i (some v)))) k n) : aW G σ B pc L (.ref v :: .int (nI i) :: .ref a :: rest) ws k n :=
  a_aastore hB hd q0 qk he hv (vp_inN hi hN) (by rw [nI_clamp (Nat.lt_trans hi hN)]; exact kk)
end NatRows

