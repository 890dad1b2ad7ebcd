def tbZ (z : Nat → Nat) (b p : Nat) : Nat → Nat → Nat
  | 0 => z
  | l + 1 => uN (tbZ z b p l) (47 + 6 * p + l) (min (gt (wq (tbZ z b p l)) p l * (1 + l * b)) 99)
def tbA (z : Nat → Nat) (b : Nat) : Nat → Nat → Nat
  | 0 => z
  | p + 1 => tbZ (tbA z b p) b p 6
def tsA (z : Nat → Nat) (b : Nat) : Nat → Nat
  | 0 => 0
  | p + 1 => tsA z b p + tot (tq (tbA z b (p + 1))) p
theorem tbZ_lo {z : Nat → Nat} {b p j : Nat} (h : j < 47) : ∀ l, tbZ z b p l j = z j
  | 0 => rfl
  | l + 1 => by
    show (if j = 47 + 6 * p + l then _ else tbZ z b p l j) = z j
    rw [if_neg (by omega)]
    exact tbZ_lo h l
theorem tbA_lo {z : Nat → Nat} {b j : Nat} (h : j < 47) : ∀ p, tbA z b p j = z j
  | 0 => rfl
  | p + 1 => (tbZ_lo h 6).trans (tbA_lo h p)
theorem gt_lo {z y : Nat → Nat} {p l : Nat} (hl : l < 6) (h : ∀ j, j < 47 → y j = z j) : gt (wq y) p l = gt (wq z) p l := by
  unfold gt wq
  by_cases hp : p < 6
  · rw [if_pos hp, if_pos hp, h _ (by omega)]
  · rw [if_neg hp, if_neg hp]
theorem tq_uN {z : Nat → Nat} {j x : Nat} (h : j < 47) : tq (uN z j x) = tq z := by
  funext k
  show (if 47 + k = j then x else z (47 + k)) = z (47 + k)
  exact if_neg (by omega)
theorem wq_uN {z : Nat → Nat} {j x : Nat} (h : j < 11) : wq (uN z j x) = wq z := by
  funext k
  show (if 11 + k = j then x else z (11 + k)) = z (11 + k)
  exact if_neg (by omega)
theorem sumN_pos {f : Nat → Nat} : ∀ {n l : Nat}, l < n → 0 < f l → 0 < sumN f n := fun h hp => Nat.lt_of_lt_of_le hp (sumN_ge h)
theorem sumN_leN {f : Nat → Nat} {c : Nat} : ∀ n, (∀ l, l < n → f l ≤ c) → sumN f n ≤ n * c
  | 0, _ => Nat.zero_le _
  | n + 1, h => by
    have h1 := sumN_leN n (fun l hl => h l (Nat.lt_succ_of_lt hl))
    have h2 := h n (Nat.lt_succ_self n)
    show sumN f n + f n ≤ (n + 1) * c
    rw [Nat.succ_mul]
    omega
theorem dload_sp4 {tl : Nat → Nat} {p s : Nat} (hpos : ∃ l, l < 6 ∧ 0 < gt tl p l) : dload tl p s < 6 ∧ s / 65536 % tot tl p < sumN (fun l => gt tl p l) (dload tl p s + 1) ∧ (∀ l, l < dload tl p s → sumN (fun l => gt tl p l) (l + 1) ≤ s / 65536 % tot tl p) ∧ 0 < gt tl p (dload tl p s) := by
  obtain ⟨l, hl, hp⟩ := hpos
  have ht : 0 < tot tl p := sumN_pos (f := fun l => gt tl p l) hl hp
  have h := dl6_spec (f := fun l => gt tl p l) (num := s / 65536 % tot tl p) (Nat.mod_lt _ ht)
  refine ⟨h.1, h.2.1, h.2.2, ?_⟩
  have h2 := h.2.1
  show 0 < gt tl p (dl6 (fun l => gt tl p l) (s / 65536 % tot tl p))
  generalize dl6 (fun l => gt tl p l) (s / 65536 % tot tl p) = d at h h2 ⊢
  have h3 : s / 65536 % tot tl p < sumN (fun l => gt tl p l) d + gt tl p d := h2
  rcases d with _ | d
  · have : sumN (fun l => gt tl p l) 0 = 0 := rfl
    omega
  · have h4 := h.2.2 d (Nat.lt_succ_self d)
    omega
/-- what a drawn row asks for, but the bound of the weights' cells -/
def PV.rowOK2 (P : PV) : Prop := P.parts ≤ 6 ∧ P.limit ≤ 99 ∧ True ∧ (∀ j, P.tl j ≤ 99) ∧ (∀ p, p < P.parts → ∃ l, l < 6 ∧ 0 < gt P.tl p l) ∧ P.seed < 2147483648 ∧ (∀ i, i < P.parts → P.corOK (rowS P i).2.2.2 i (dload P.tl i (nxt (rowS P i).1))) ∧ (vf_n64 (FP.dadd P.sv.sm (rowS P P.parts).2.2.2) ∧ vf_n64 (FP.dmul (rowS P P.parts).2.2.2 (rowS P P.parts).2.2.2) ∧ vf_n64 (FP.dadd P.sv.sq (FP.dmul (rowS P P.parts).2.2.2 (rowS P P.parts).2.2.2)) ∧ vf_n64 (FP.dadd P.sv.fs (rowS P P.parts).2.2.2))
/-- the state's first cells out of a plant -/
def zP (z : Nat → Nat) (P : PV) (j : Nat) : Nat := if j = 0 then P.parts else if j = 1 then P.limit else if j = 2 then P.seed else if j = 3 then P.sv.num else if j = 4 then P.sv.flt else if j < 11 then P.sv.ll (j - 5) else z j
def sfP (sf : Nat → UInt64) (P : PV) (j : Nat) : UInt64 := if j = 0 then P.sv.fs else if j = 1 then P.sv.sm else if j = 2 then P.sv.sq else if j = 3 then P.sv.lc else sf j
theorem rowS_ll {P : PV} {p : Nat} : ∀ i, i ≤ p → (rowS P i).2.1 p = P.sv.ll p
  | 0, _ => rfl
  | i + 1, h => by
    show uN (rowS P i).2.1 i _ p = P.sv.ll p
    exact (if_neg (by omega)).trans (rowS_ll i (by omega))
theorem rowS_sd {P : PV} (h : P.seed < 2147483648) : ∀ i, (rowS P i).1 < 2147483648
  | 0 => h
  | i + 1 => nxt_lt _
