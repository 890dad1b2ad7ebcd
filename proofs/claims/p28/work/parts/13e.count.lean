theorem sumN_add (f g : Nat → Nat) : ∀ n, sumN (fun i => f i + g i) n = sumN f n + sumN g n
  | 0 => rfl
  | n + 1 => by
    show sumN (fun i => f i + g i) n + (f n + g n) = sumN f n + f n + (sumN g n + g n)
    rw [sumN_add f g n]
    omega
theorem sumN_mul (c : Nat) (f : Nat → Nat) : ∀ n, sumN (fun i => c * f i) n = c * sumN f n
  | 0 => rfl
  | n + 1 => by
    show sumN (fun i => c * f i) n + c * f n = c * (sumN f n + f n)
    rw [sumN_mul c f n, Nat.mul_add]
theorem sumN_mulr (c : Nat) (f : Nat → Nat) (n : Nat) : sumN (fun i => f i * c) n = sumN f n * c := by
  rw [Nat.mul_comm, ← sumN_mul]
  exact sumN_eq n (fun j _ => Nat.mul_comm _ _)
theorem sumN_z : ∀ n, sumN (fun _ => 0) n = 0
  | 0 => rfl
  | n + 1 => sumN_z n
theorem sumN_swap (g : Nat → Nat → Nat) (a : Nat) : ∀ b, sumN (fun i => sumN (fun l => g i l) a) b = sumN (fun l => sumN (fun i => g i l) b) a
  | 0 => (sumN_z a).symm
  | b + 1 => by
    show sumN (fun i => sumN (fun l => g i l) a) b + sumN (fun l => g b l) a = sumN (fun l => sumN (fun i => g i l) b + g b l) a
    rw [sumN_swap g a b, sumN_add]
theorem sumN_mon {f : Nat → Nat} {a : Nat} : ∀ b, a ≤ b → sumN f a ≤ sumN f b
  | 0, h => by rw [show a = 0 by omega]; exact Nat.le_refl _
  | b + 1, h => by
    rcases Nat.lt_or_ge b a with q | q
    · rw [show a = b + 1 by omega]; exact Nat.le_refl _
    · exact Nat.le_trans (sumN_mon b q) (Nat.le_add_right _ _)
theorem sumN_leF {f g : Nat → Nat} : ∀ n, (∀ j, j < n → f j ≤ g j) → sumN f n ≤ sumN g n
  | 0, _ => Nat.le_refl _
  | n + 1, h => Nat.add_le_add (sumN_leF n (fun j hj => h j (Nat.lt_succ_of_lt hj))) (h n (Nat.lt_succ_self n))
theorem sum_wv (f : Nat → Nat) (l : Nat) : ∀ n, sumN (fun i => wv f i l) n = sumN f (n - l)
  | 0 => by rw [Nat.zero_sub]; rfl
  | n + 1 => by
    show sumN (fun i => wv f i l) n + wv f n l = sumN f (n + 1 - l)
    rw [sum_wv f l n]
    unfold wv
    by_cases h : l ≤ n
    · rw [if_pos h, show n + 1 - l = (n - l) + 1 by omega]; rfl
    · rw [if_neg h, show n - l = 0 by omega, show n + 1 - l = 0 by omega]; rfl
theorem apP_lt {wt : Nat → Nat} {p : Nat} {f : Nat → Nat} {j : Nat} (h : j < 31) : apP wt p f j = apS wt p f j := if_neg (by omega)
theorem cn_S0 (wt : Nat → Nat) (wo : Int32) (f : Nat → Nat) : sumN (cnF wt wo f 0) 31 = 1 := by
  have e : sumN (cnF wt wo f 0) 31 = sumN (fun j => if j = 0 then 1 else 0) 31 := sumN_eq 31 (fun j hj => if_pos hj)
  rw [e]
  rfl
theorem cn_S (wt : Nat → Nat) (wo : Int32) (f : Nat → Nat) {n : Nat} (h54 : ∀ p, p < n → tot wt p ≤ 54) : ∀ m, m ≤ n → sumN (cnF wt wo f m) 31 ≤ 54 ^ m
  | 0, _ => by rw [cn_S0]; exact Nat.le_refl _
  | m + 1, hm => by
    have h1 := cn_S wt wo f h54 m (by omega)
    by_cases q : nI m = wo
    · rw [cnF_y q]
      exact Nat.le_trans h1 (Nat.pow_le_pow_right (by decide) (Nat.le_succ m))
    · rw [cnF_n q]
      generalize cnF wt wo f m = c at h1
      have e1 : sumN (apP wt m c) 31 = sumN (fun j => sumN (fun l => gt wt m l * wv c j l) 6) 31 := sumN_eq 31 (fun j hj => apP_lt hj)
      rw [e1, sumN_swap (fun j l => gt wt m l * wv c j l) 6 31]
      have e2 : sumN (fun l => sumN (fun j => gt wt m l * wv c j l) 31) 6 ≤ sumN (fun l => gt wt m l * sumN c 31) 6 := sumN_leF 6 (fun l _ => by
        show sumN (fun j => gt wt m l * wv c j l) 31 ≤ _
        rw [sumN_mul (gt wt m l) (fun j => wv c j l) 31, sum_wv]
        exact Nat.mul_le_mul_left _ (sumN_mon 31 (Nat.sub_le _ _)))
      rw [sumN_mulr] at e2
      refine Nat.le_trans e2 ?_
      rw [Nat.pow_succ, Nat.mul_comm]
      exact Nat.mul_le_mul h1 (h54 m (by omega))
theorem cn_pos (wt : Nat → Nat) (wo : Int32) (f : Nat → Nat) {n : Nat} (h6 : n ≤ 6) (hp : ∀ p, p < n → ∃ l, l < 6 ∧ 0 < gt wt p l) : ∀ m, m ≤ n → ∃ j, j ≤ 5 * m ∧ 0 < cnF wt wo f m j
  | 0, _ => ⟨0, Nat.le_refl _, by show 0 < oneF f 31 0; unfold oneF; rw [if_pos (by decide), if_pos rfl]; decide⟩
  | m + 1, hm => by
    obtain ⟨j, hj, hc⟩ := cn_pos wt wo f h6 hp m (by omega)
    by_cases q : nI m = wo
    · rw [cnF_y q]; exact ⟨j, by omega, hc⟩
    · rw [cnF_n q]
      obtain ⟨l, hl, hg⟩ := hp m (by omega)
      refine ⟨j + l, by omega, ?_⟩
      rw [apP_lt (by omega)]
      unfold apS
      refine sumN_pos (f := fun t => gt wt m t * wv (cnF wt wo f m) (j + l) t) (l := l) hl ?_
      show 0 < gt wt m l * wv (cnF wt wo f m) (j + l) l
      unfold wv
      rw [if_pos (by omega), show j + l - l = j by omega]
      exact Nat.mul_pos hg hc
theorem wfrom_S (c : Nat → Nat) : wfrom c 0 = sumN c 31 := sumN_eq 31 (fun j _ => by rw [Nat.zero_add])
theorem wfr_le (c : Nat → Nat) (x : Nat) : ∀ n, wfr c x n ≤ sumN c (x + n)
  | 0 => Nat.zero_le _
  | n + 1 => by
    show wfr c x n + c (x + n) ≤ sumN c (x + n) + c (x + n)
    exact Nat.add_le_add_right (wfr_le c x n) _
theorem wfrom_le (c : Nat → Nat) (x : Nat) : wfrom c x ≤ sumN c 31 := by
  by_cases h : x ≤ 31
  · refine Nat.le_trans (wfr_le c x (31 - x)) (sumN_mon 31 (by omega))
  · show wfr c x (31 - x) ≤ _
    rw [show 31 - x = 0 by omega]
    exact Nat.zero_le _
/-- what a plant's weights are -/
def PV.wok (P : PV) : Prop := P.parts ≤ 6 ∧ (∀ p l, p < 6 → l < 6 → gt P.wt p l ≤ 9) ∧ (∀ p, p < P.parts → ∃ l, l < 6 ∧ 0 < gt P.wt p l)
theorem PV.wok.t54 {P : PV} (h : P.wok) {p : Nat} (hp : p < 6) : tot P.wt p ≤ 54 := sumN_leN 6 (fun l hl => h.2.1 p l hp hl)
theorem cnt_le {P : PV} (h : P.wok) (wo : Int32) (x : Nat) : wfrom (cnt P wo) x ≤ 24794911296 := by
  refine Nat.le_trans (wfrom_le _ x) (Nat.le_trans (cn_S P.wt wo zN (n := P.parts) (fun p hp => h.t54 (by have := h.1; omega)) P.parts (Nat.le_refl _)) ?_)
  exact Nat.le_trans (Nat.pow_le_pow_right (by decide) h.1) (by decide)
theorem cnt_pos {P : PV} (h : P.wok) (wo : Int32) : 0 < wfrom (cnt P wo) 0 := by
  obtain ⟨j, hj, hc⟩ := cn_pos P.wt wo zN h.1 h.2.2 P.parts (Nat.le_refl _)
  rw [wfrom_S]
  exact sumN_pos (l := j) (by have := h.1; omega) hc
theorem cnt_99 (P : PV) (wo : Int32) : wfrom (cnt P wo) 99 = 0 := rfl
theorem vO_Z {P : PV} (h : P.wok) (wo : Int32) (x : Nat) : dZ 987 1060 (vO P wo x) := by
  have h0 := cnt_pos h wo
  have h1 := cnt_le h wo 0
  have h2 := cnt_le h wo x
  unfold vO odds
  rw [if_neg (by omega)]
  exact odds_Z h0 (by omega) (by omega)
theorem cnt_OK {P : PV} (h : P.wok) (wo : Int32) (x : Nat) : oddOK (cnt P wo) x := by
  have h1 := cnt_le h wo 0
  refine ⟨by omega, fun q => ?_⟩
  have e : FP.ddiv (FP.l2d (lN (wfrom (cnt P wo) x))) (FP.l2d (lN (wfrom (cnt P wo) 0))) = vO P wo x := by
    unfold vO odds
    rw [if_neg q]
  rw [e]
  exact ((vO_Z h wo x).P (by decide)).nn

