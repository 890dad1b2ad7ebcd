/-! ALL ROWS GONE THROUGH: ways by sums, the likeliest fault -/
/-- the ways of row k of the d parts from p0 on, the last part's load the lowest digit; its sum -/
def wyS (W : Nat → Nat → Nat) (p0 : Nat) : Nat → Nat → Nat
  | 0, _ => 1
  | d + 1, k => W (p0 + d) (k % 6) * wyS W p0 d (k / 6)
def ldS : Nat → Nat → Nat
  | 0, _ => 0
  | d + 1, k => k % 6 + ldS d (k / 6)
theorem ldS_le : ∀ d k, ldS d k ≤ 5 * d
  | 0, _ => Nat.le_refl _
  | d + 1, k => by
    show k % 6 + ldS d (k / 6) ≤ 5 * (d + 1)
    have := ldS_le d (k / 6)
    omega
theorem wyS_le {W : Nat → Nat → Nat} {p0 : Nat} : ∀ d, (∀ p l, p < p0 + d → l < 6 → W p l ≤ 9) → ∀ k, wyS W p0 d k ≤ 9 ^ d
  | 0, _, _ => Nat.le_refl _
  | d + 1, h, k => by
    show W (p0 + d) (k % 6) * wyS W p0 d (k / 6) ≤ 9 ^ (d + 1)
    rw [Nat.pow_succ, Nat.mul_comm (9 ^ d)]
    exact Nat.mul_le_mul (h _ _ (by omega) (Nat.mod_lt _ (by decide))) (wyS_le d (fun p l hp hl => h p l (by omega) hl) _)
theorem wyS_ext {W V : Nat → Nat → Nat} {p0 : Nat} : ∀ d, (∀ p l, p < p0 + d → l < 6 → W p l = V p l) → ∀ k, wyS W p0 d k = wyS V p0 d k
  | 0, _, _ => rfl
  | d + 1, h, k => by
    show W (p0 + d) (k % 6) * wyS W p0 d (k / 6) = V (p0 + d) (k % 6) * wyS V p0 d (k / 6)
    rw [h _ _ (by omega) (Nat.mod_lt _ (by decide)), wyS_ext d (fun p l hp hl => h p l (by omega) hl)]
/-- a row by its highest digit -/
theorem top_mod {m d l k : Nat} (hm : m = 6 ^ d) : (l * (6 * m) + k) % 6 = k % 6 ∧ (l * (6 * m) + k) / 6 = l * m + k / 6 := by
  have e : l * (6 * m) = 6 * (l * m) := by rw [← Nat.mul_assoc, Nat.mul_comm l 6, Nat.mul_assoc]
  rw [e]
  constructor
  · omega
  · omega
theorem wyS_top {W : Nat → Nat → Nat} : ∀ (d p0 l k : Nat), l < 6 → k < 6 ^ d → wyS W p0 (d + 1) (l * 6 ^ d + k) = W p0 l * wyS W (p0 + 1) d k
  | 0, p0, l, k, hl, hk => by
    have hk : k < 1 := hk
    show W (p0 + 0) ((l * 1 + k) % 6) * 1 = W p0 l * 1
    rw [show (l * 1 + k) % 6 = l by omega]
    rfl
  | d + 1, p0, l, k, hl, hk => by
    obtain ⟨h1, h2⟩ := top_mod (l := l) (k := k) (d := d) (m := 6 ^ d) rfl
    rw [Nat.pow_succ, Nat.mul_comm (6 ^ d) 6] at hk ⊢
    show W (p0 + (d + 1)) ((l * (6 * 6 ^ d) + k) % 6) * wyS W p0 (d + 1) ((l * (6 * 6 ^ d) + k) / 6) = W p0 l * (W (p0 + 1 + d) (k % 6) * wyS W (p0 + 1) d (k / 6))
    rw [h1, h2, wyS_top d p0 l (k / 6) hl (by omega), show p0 + (d + 1) = p0 + 1 + d by omega]
    rw [← Nat.mul_assoc, ← Nat.mul_assoc, Nat.mul_comm (W (p0 + 1 + d) (k % 6))]
theorem ldS_top : ∀ (d l k : Nat), l < 6 → k < 6 ^ d → ldS (d + 1) (l * 6 ^ d + k) = l + ldS d k
  | 0, l, k, hl, hk => by
    have hk : k < 1 := hk
    show (l * 1 + k) % 6 + 0 = l + 0
    omega
  | d + 1, l, k, hl, hk => by
    obtain ⟨h1, h2⟩ := top_mod (l := l) (k := k) (d := d) (m := 6 ^ d) rfl
    rw [Nat.pow_succ, Nat.mul_comm (6 ^ d) 6] at hk ⊢
    show (l * (6 * 6 ^ d) + k) % 6 + ldS (d + 1) ((l * (6 * 6 ^ d) + k) / 6) = l + (k % 6 + ldS d (k / 6))
    rw [h1, h2, ldS_top d l (k / 6) hl (by omega)]
    omega
/-- a sum over all rows, by the last part's load -/
theorem sumN_6 (f : Nat → Nat) : ∀ m, sumN f (6 * m) = sumN (fun k => sumN (fun l => f (6 * k + l)) 6) m
  | 0 => rfl
  | m + 1 => by
    show sumN f (6 * m) + f (6 * m) + f (6 * m + 1) + f (6 * m + 2) + f (6 * m + 3) + f (6 * m + 4) + f (6 * m + 5) = sumN (fun k => sumN (fun l => f (6 * k + l)) 6) m + (0 + f (6 * m + 0) + f (6 * m + 1) + f (6 * m + 2) + f (6 * m + 3) + f (6 * m + 4) + f (6 * m + 5))
    rw [sumN_6 f m, show 6 * m + 0 = 6 * m from rfl]
    omega
theorem sumN_iteA (c : Nat) (f : Nat → Nat) (q : Nat → Prop) [DecidablePred q] (n : Nat) : sumN (fun k => if q k then c * f k else 0) n = c * sumN (fun k => if q k then f k else 0) n := by
  rw [← sumN_mul]
  refine sumN_eq n (fun j _ => ?_)
  by_cases h : q j
  · rw [if_pos h, if_pos h]
  · rw [if_neg h, if_neg h]; rfl
/-- the ways of the rows with the sum s -/
def cntR (W : Nat → Nat → Nat) (n s : Nat) : Nat := sumN (fun k => if ldS n k = s then wyS W 0 n k else 0) (6 ^ n)
theorem cntR_S (W : Nat → Nat → Nat) (n s : Nat) : cntR W (n + 1) s = sumN (fun l => W n l * wv (cntR W n) s l) 6 := by
  unfold cntR
  rw [Nat.pow_succ, Nat.mul_comm (6 ^ n) 6, sumN_6]
  rw [sumN_swap (fun k l => (fun k => if ldS (n + 1) k = s then wyS W 0 (n + 1) k else 0) (6 * k + l)) 6 (6 ^ n)]
  refine sumN_eq 6 (fun l hl => ?_)
  have e : ∀ k, (if ldS (n + 1) (6 * k + l) = s then wyS W 0 (n + 1) (6 * k + l) else 0) = if l + ldS n k = s then W n l * wyS W 0 n k else 0 := fun k => by
    show (if (6 * k + l) % 6 + ldS n ((6 * k + l) / 6) = s then W (0 + n) ((6 * k + l) % 6) * wyS W 0 n ((6 * k + l) / 6) else 0) = _
    rw [show (6 * k + l) % 6 = l by omega, show (6 * k + l) / 6 = k by omega, Nat.zero_add]
  rw [sumN_eq (6 ^ n) (fun k _ => e k), sumN_iteA (W n l) (fun k => wyS W 0 n k) (fun k => l + ldS n k = s)]
  congr 1
  unfold wv
  by_cases h : l ≤ s
  · rw [if_pos h]
    refine sumN_eq (6 ^ n) (fun k _ => ?_)
    by_cases g : l + ldS n k = s
    · rw [if_pos g, if_pos (by omega)]
    · rw [if_neg g, if_neg (by omega)]
  · rw [if_neg h]
    exact (sumN_eq (g := fun _ => 0) (6 ^ n) (fun k _ => if_neg (by omega))).trans (sumN_z _)
theorem cntR_cnF {wt : Nat → Nat} : ∀ n, n ≤ 6 → ∀ s, s < 31 → cntR (gt wt) n s = cnF wt (-1) zN n s
  | 0, _, s, hs => by
    show 0 + (if 0 = s then 1 else 0) = oneF zN 31 s
    unfold oneF
    rw [if_pos hs]
    by_cases h : s = 0
    · rw [if_pos h.symm, if_pos h]
    · rw [if_neg (fun e => h e.symm), if_neg h]
  | n + 1, hn, s, hs => by
    have ne : ¬ nI n = -1 := by
      intro q
      have e := congrArg Int32.toInt q
      rw [nI_toInt (by omega)] at e
      have : (-1 : Int32).toInt = -1 := rfl
      omega
    rw [cnF_n ne, apP_lt hs, cntR_S]
    unfold apS
    refine sumN_eq 6 (fun l _ => ?_)
    unfold wv
    by_cases h : l ≤ s
    · rw [if_pos h, if_pos h, cntR_cnF n (by omega) (s - l) (by omega)]
    · rw [if_neg h, if_neg h]
theorem sumN_one {a : Nat} {v : Nat} : ∀ n, a < n → sumN (fun t => if t = a then v else 0) n = v
  | 0, h => absurd h (Nat.not_lt_zero a)
  | n + 1, h => by
    show sumN (fun t => if t = a then v else 0) n + (if n = a then v else 0) = v
    by_cases q : n = a
    · rw [if_pos q, sumN_eq (g := fun _ => 0) n (fun t ht => if_neg (by omega)), sumN_z, Nat.zero_add]
    · rw [if_neg q, sumN_one n (by omega), Nat.add_zero]
/-- the rows with at least the sum s -/
theorem cntR_from (W : Nat → Nat → Nat) {n : Nat} (hn : n ≤ 6) (s : Nat) : sumN (fun k => if s ≤ ldS n k then wyS W 0 n k else 0) (6 ^ n) = wfrom (cntR W n) s := by
  show _ = sumN (fun t => sumN (fun k => if ldS n k = s + t then wyS W 0 n k else 0) (6 ^ n)) (31 - s)
  rw [sumN_swap (fun t k => if ldS n k = s + t then wyS W 0 n k else 0) (6 ^ n) (31 - s)]
  refine sumN_eq (6 ^ n) (fun k _ => ?_)
  have hb := ldS_le n k
  by_cases h : s ≤ ldS n k
  · rw [if_pos h]
    rw [sumN_eq (g := fun t => if t = ldS n k - s then wyS W 0 n k else 0) (31 - s) (fun t _ => ?_)]
    · exact (sumN_one _ (by omega)).symm
    · by_cases q : ldS n k = s + t
      · rw [if_pos q, if_pos (by omega)]
      · rw [if_neg q, if_neg (by omega)]
  · rw [if_neg h, sumN_eq (g := fun _ => 0) (31 - s) (fun t _ => if_neg (by omega)), sumN_z]
section RowsOf
variable {P : PV} {W : Nat → Nat → Nat}
theorem rows_same (h6 : P.parts ≤ 6) (hW : ∀ p l, p < P.parts → l < 6 → W p l = gt P.wt p l) {s : Nat} (hs : s < 31) : sumN (fun k => if ldS P.parts k = s then wyS W 0 P.parts k else 0) (6 ^ P.parts) = vW P s 0 := by
  have e : vW P s 0 = cnt P (-1) s := by
    show (if (0 : Nat) = 0 then (if s < 31 then cnt P (-1) s else 0) else wfrom (cnt P (-1)) s) = _
    rw [if_pos rfl, if_pos hs]
  rw [e]
  refine Eq.trans ?_ (cntR_cnF P.parts h6 s hs)
  refine sumN_eq _ (fun k _ => ?_)
  rw [wyS_ext P.parts (fun p l hp hl => hW p l (by omega) hl) k]
theorem rows_from (h6 : P.parts ≤ 6) (hW : ∀ p l, p < P.parts → l < 6 → W p l = gt P.wt p l) (s : Nat) : sumN (fun k => if s ≤ ldS P.parts k then wyS W 0 P.parts k else 0) (6 ^ P.parts) = wfrom (cnt P (-1)) s := by
  rw [cntR_from W h6 s]
  refine sumN_eq _ (fun t ht => ?_)
  have e := cntR_cnF (wt := P.wt) P.parts h6 (s + t) (by omega)
  show cntR W P.parts (s + t) = cnF P.wt (-1) zN P.parts (s + t)
  rw [← e]
  exact sumN_eq _ (fun k _ => by rw [wyS_ext P.parts (fun p l hp hl => hW p l (by omega) hl) k])
theorem rows_all (h6 : P.parts ≤ 6) (hW : ∀ p l, p < P.parts → l < 6 → W p l = gt P.wt p l) : sumN (wyS W 0 P.parts) (6 ^ P.parts) = wfrom (cnt P (-1)) 0 := by
  rw [← rows_from h6 hW 0]
  exact sumN_eq _ (fun k _ => (if_pos (Nat.zero_le _)).symm)
end RowsOf
/-! the most ways -/
/-- the most ways of d parts from p0 = parts - d on, with the need n -/
theorem bs_up {wt : Nat → Nat} {parts : Nat} : ∀ d, d ≤ parts → ∀ (n k : Nat), n < 31 → k < 6 ^ d → n ≤ ldS d k → wyS (gt wt) (parts - d) d k ≤ bs wt parts d n
  | 0, _, n, k, _, _, hl => by
    have hl : n ≤ 0 := hl
    show 1 ≤ (if n = 0 then 1 else 0)
    rw [if_pos (by omega)]
    exact Nat.le_refl _
  | d + 1, hd, n, k, hn, hk, hl => by
    have hp : 0 < 6 ^ d := Nat.pow_pos (by decide)
    have hk6 : k < 6 * 6 ^ d := by rw [Nat.pow_succ, Nat.mul_comm] at hk; exact hk
    have ha : k / 6 ^ d < 6 := (Nat.div_lt_iff_lt_mul hp).mpr hk6
    have hb : k % 6 ^ d < 6 ^ d := Nat.mod_lt _ hp
    have e : k = (k / 6 ^ d) * 6 ^ d + k % 6 ^ d := by rw [Nat.mul_comm]; exact (Nat.div_add_mod k (6 ^ d)).symm
    generalize k / 6 ^ d = a at ha e
    generalize k % 6 ^ d = b at hb e
    subst e
    rw [ldS_top d a b ha hb] at hl
    rw [wyS_top d _ a b ha hb, show parts - (d + 1) + 1 = parts - d by omega]
    have h1 := bs_up (wt := wt) (parts := parts) d (by omega) (n - a) b (by omega) hb (by omega)
    have h2 : gt wt (parts - (d + 1)) a * (if n - a < 31 then bs wt parts d (n - a) else 0) ≤ bs wt parts (d + 1) n := mxN_ge (f := fun l => gt wt (parts - (d + 1)) l * (if n - l < 31 then bs wt parts d (n - l) else 0)) ha
    rw [if_pos (by omega)] at h2
    exact Nat.le_trans (Nat.mul_le_mul_left _ h1) h2
theorem bs_hit {wt : Nat → Nat} {parts : Nat} : ∀ d, d ≤ parts → ∀ n, n < 31 → 0 < bs wt parts d n → ∃ k, k < 6 ^ d ∧ n ≤ ldS d k ∧ wyS (gt wt) (parts - d) d k = bs wt parts d n
  | 0, _, n, _, h => by
    have h : 0 < (if n = 0 then 1 else 0) := h
    by_cases q : n = 0
    · refine ⟨0, by decide, by omega, ?_⟩
      show 1 = (if n = 0 then 1 else 0)
      rw [if_pos q]
    · rw [if_neg q] at h
      exact absurd h (Nat.lt_irrefl 0)
  | d + 1, hd, n, hn, h => by
    obtain ⟨a, ha, he⟩ := mxN_ex (fun l => gt wt (parts - (d + 1)) l * (if n - l < 31 then bs wt parts d (n - l) else 0))
    have he : gt wt (parts - (d + 1)) a * (if n - a < 31 then bs wt parts d (n - a) else 0) = bs wt parts (d + 1) n := he
    rw [if_pos (by omega)] at he
    have hp : 0 < bs wt parts d (n - a) := by
      rcases Nat.eq_zero_or_pos (bs wt parts d (n - a)) with q | q
      · rw [q, Nat.mul_zero] at he; omega
      · exact q
    obtain ⟨b, hb, hl, hw⟩ := bs_hit (wt := wt) (parts := parts) d (by omega) (n - a) (by omega) hp
    refine ⟨a * 6 ^ d + b, ?_, ?_, ?_⟩
    · rw [Nat.pow_succ]
      have : a * 6 ^ d ≤ 5 * 6 ^ d := Nat.mul_le_mul_right _ (by omega)
      omega
    · rw [ldS_top d a b ha hb]; omega
    · rw [wyS_top d _ a b ha hb, show parts - (d + 1) + 1 = parts - d by omega, hw, he]
/-- k is the first of the rows with the most ways -/
def FM (wt : Nat → Nat) (parts d n k : Nat) : Prop := k < 6 ^ d ∧ n ≤ ldS d k ∧ wyS (gt wt) (parts - d) d k = bs wt parts d n ∧ 0 < bs wt parts d n ∧ ∀ j, j < k → n ≤ ldS d j → wyS (gt wt) (parts - d) d j < bs wt parts d n
theorem FM.step {wt : Nat → Nat} {parts d n k : Nat} (hd : d + 1 ≤ parts) (hn : n < 31) (h : FM wt parts (d + 1) n k) :
    k / 6 ^ d < 6 ∧ gt wt (parts - (d + 1)) (k / 6 ^ d) * bs wt parts d (n - k / 6 ^ d) = bs wt parts (d + 1) n ∧ (∀ l, l < k / 6 ^ d → ¬ gt wt (parts - (d + 1)) l * bs wt parts d (n - l) = bs wt parts (d + 1) n) ∧ FM wt parts d (n - k / 6 ^ d) (k % 6 ^ d) := by
  obtain ⟨hk, hl, hw, hp, hf⟩ := h
  have h6 : 0 < 6 ^ d := Nat.pow_pos (by decide)
  have hk6 : k < 6 * 6 ^ d := by rw [Nat.pow_succ, Nat.mul_comm] at hk; exact hk
  have ha : k / 6 ^ d < 6 := (Nat.div_lt_iff_lt_mul h6).mpr hk6
  have hb : k % 6 ^ d < 6 ^ d := Nat.mod_lt _ h6
  have e : k = (k / 6 ^ d) * 6 ^ d + k % 6 ^ d := by rw [Nat.mul_comm]; exact (Nat.div_add_mod k (6 ^ d)).symm
  generalize k / 6 ^ d = a at ha e ⊢
  generalize k % 6 ^ d = b at hb e ⊢
  subst e
  have e1 : parts - (d + 1) + 1 = parts - d := by omega
  rw [ldS_top d a b ha hb] at hl
  rw [wyS_top d _ a b ha hb, e1] at hw
  have up : ∀ l, l < 6 → gt wt (parts - (d + 1)) l * bs wt parts d (n - l) ≤ bs wt parts (d + 1) n := fun l hl6 => by
    have h2 : gt wt (parts - (d + 1)) l * (if n - l < 31 then bs wt parts d (n - l) else 0) ≤ bs wt parts (d + 1) n := mxN_ge (f := fun l => gt wt (parts - (d + 1)) l * (if n - l < 31 then bs wt parts d (n - l) else 0)) hl6
    rw [if_pos (by omega)] at h2
    exact h2
  have ub := bs_up (wt := wt) (parts := parts) d (by omega) (n - a) b (by omega) hb (by omega)
  have m1 := Nat.mul_le_mul_left (gt wt (parts - (d + 1)) a) ub
  have m2 := up a ha
  have eq1 : gt wt (parts - (d + 1)) a * bs wt parts d (n - a) = bs wt parts (d + 1) n := by omega
  have gpos : 0 < gt wt (parts - (d + 1)) a := by
    rcases Nat.eq_zero_or_pos (gt wt (parts - (d + 1)) a) with q | q
    · rw [q, Nat.zero_mul] at eq1; omega
    · exact q
  have bpos : 0 < bs wt parts d (n - a) := by
    rcases Nat.eq_zero_or_pos (bs wt parts d (n - a)) with q | q
    · rw [q, Nat.mul_zero] at eq1; omega
    · exact q
  refine ⟨ha, eq1, fun l hlt hl2 => ?_, hb, by omega, ?_, bpos, fun j hj hlj => ?_⟩
  · have q0 : 0 < bs wt parts d (n - l) := by
      rcases Nat.eq_zero_or_pos (bs wt parts d (n - l)) with q | q
      · rw [q, Nat.mul_zero] at hl2; omega
      · exact q
    obtain ⟨c, hc, hcl, hcw⟩ := bs_hit (wt := wt) (parts := parts) d (by omega) (n - l) (by omega) q0
    have lt : l * 6 ^ d + c < a * 6 ^ d + b := by
      have : (l + 1) * 6 ^ d ≤ a * 6 ^ d := Nat.mul_le_mul_right _ hlt
      rw [Nat.succ_mul] at this
      omega
    have key := hf (l * 6 ^ d + c) lt (by rw [ldS_top d l c (by omega) hc]; omega)
    rw [wyS_top d _ l c (by omega) hc, e1, hcw, hl2] at key
    exact absurd key (Nat.lt_irrefl _)
  · exact Nat.eq_of_mul_eq_mul_left gpos (hw.trans eq1.symm)
  · have key := hf (a * 6 ^ d + j) (by omega) (by rw [ldS_top d a j ha (by omega)]; omega)
    rw [wyS_top d _ a j ha (by omega), e1, ← eq1] at key
    exact Nat.lt_of_mul_lt_mul_left key
theorem gm_bs {P : PV} {p n : Nat} (hp : p ≤ P.parts) (hn : n < 31) : gm (lkF P zN) p n = bs P.wt P.parts (P.parts - p) n := by
  unfold lkF
  rw [gm_lk hp (Nat.zero_le _), if_pos hn]
theorem fe6_uniq {f : Nat → Nat} {t a : Nat} (ha : a < 6) (h : f a = t) (hf : ∀ l, l < a → ¬ f l = t) : fe6 f t = a := by
  obtain ⟨h1, h2, h3⟩ := fe6_spec (f := f) (t := t) ⟨a, ha, h⟩
  rcases Nat.lt_trichotomy (fe6 f t) a with q | q | q
  · exact absurd h2 (hf _ q)
  · exact q
  · exact absurd h (h3 a q)
theorem FM.floE {P : PV} {p n k : Nat} (hp : p < P.parts) (hn : n < 31) (h : FM P.wt P.parts (P.parts - p) n k) : flo P.wt (lkF P zN) p n = k / 6 ^ (P.parts - (p + 1)) ∧ FM P.wt P.parts (P.parts - (p + 1)) (n - k / 6 ^ (P.parts - (p + 1))) (k % 6 ^ (P.parts - (p + 1))) := by
  have e : P.parts - p = (P.parts - (p + 1)) + 1 := by omega
  rw [e] at h
  obtain ⟨h1, h2, h3, h4⟩ := h.step (by omega) hn
  refine ⟨?_, h4⟩
  have e2 : P.parts - (P.parts - (p + 1) + 1) = p := by omega
  rw [e2] at h2 h3
  unfold flo
  have g : gm (lkF P zN) p n = bs P.wt P.parts (P.parts - (p + 1) + 1) n := by rw [gm_bs (by omega) hn, e]
  have w : ∀ l, wwi P.wt (lkF P zN) p n l = gt P.wt p l * bs P.wt P.parts (P.parts - (p + 1)) (n - l) := fun l => by
    unfold wwi
    rw [gm_bs (by omega) (by omega)]
  rw [g]
  exact fe6_uniq h1 (by rw [w]; exact h2) (fun l hl => by rw [w]; exact h3 l hl)
/-- what is left of the row behind the first p parts -/
theorem FM.neeE {P : PV} {lim k : Nat} (hn : lim < 31) (h : FM P.wt P.parts P.parts lim k) : ∀ p, p ≤ P.parts → nee P.wt (lkF P zN) lim p < 31 ∧ FM P.wt P.parts (P.parts - p) (nee P.wt (lkF P zN) lim p) (k % 6 ^ (P.parts - p))
  | 0, _ => by
    refine ⟨hn, ?_⟩
    show FM P.wt P.parts P.parts lim (k % 6 ^ P.parts)
    rw [Nat.mod_eq_of_lt h.1]
    exact h
  | p + 1, hp => by
    obtain ⟨a, b⟩ := FM.neeE hn h p (by omega)
    obtain ⟨c, d⟩ := b.floE (by omega) a
    have e : nee P.wt (lkF P zN) lim (p + 1) = nee P.wt (lkF P zN) lim p - flo P.wt (lkF P zN) p (nee P.wt (lkF P zN) lim p) := rfl
    have e6 : 6 ^ (P.parts - p) = 6 ^ (P.parts - (p + 1)) * 6 := by rw [← Nat.pow_succ]; congr 1; omega
    rw [e, c]
    refine ⟨by omega, ?_⟩
    rw [e6, Nat.mod_mul_right_mod] at d
    rw [e6]
    exact d
/-- the load of part p in the first likeliest fault: that digit of the row -/
theorem FM.vLE {P : PV} {k p : Nat} (hn : P.limit < 31) (h : FM P.wt P.parts P.parts P.limit k) (hp : p < P.parts) : vL P p = nI (k / 6 ^ (P.parts - (p + 1)) % 6) := by
  obtain ⟨a, b⟩ := FM.neeE hn h p (by omega)
  obtain ⟨c, -⟩ := b.floE hp a
  unfold vL lik
  have g : gm (lkF P zN) 0 P.limit = bs P.wt P.parts P.parts P.limit := gm_bs (Nat.zero_le _) hn
  have hpos := h.2.2.2.1
  rw [g, if_neg (by omega), c]
  congr 1
  have e6 : 6 ^ (P.parts - p) = 6 ^ (P.parts - (p + 1)) * 6 := by rw [← Nat.pow_succ]; congr 1; omega
  rw [e6, Nat.mod_mul_right_div_self]
theorem vL_none {P : PV} {p : Nat} (hn : P.limit < 31) (h : bs P.wt P.parts P.parts P.limit = 0) : vL P p = -1 := by
  unfold vL lik
  rw [show gm (lkF P zN) 0 P.limit = bs P.wt P.parts P.parts P.limit from gm_bs (Nat.zero_le _) hn, if_pos h]
theorem vC7 {P : PV} {num : Nat} (hn : P.limit < 31) : vC P num 7 = bs P.wt P.parts P.parts P.limit := gm_bs (P := P) (p := 0) (Nat.zero_le _) hn
/-- the scan of the rows: the most ways yet, the first row with them -/
def scS (W : Nat → Nat → Nat) (n lim : Nat) : Nat → Nat × Nat
  | 0 => (0, 0)
  | k + 1 => if lim ≤ ldS n k ∧ (scS W n lim k).1 < wyS W 0 n k then (wyS W 0 n k, k) else scS W n lim k
theorem scS_sp {W : Nat → Nat → Nat} {n lim : Nat} : ∀ K, (∀ k, k < K → lim ≤ ldS n k → wyS W 0 n k ≤ (scS W n lim K).1) ∧ ((scS W n lim K).1 = 0 ∨ ((scS W n lim K).2 < K ∧ lim ≤ ldS n (scS W n lim K).2 ∧ wyS W 0 n (scS W n lim K).2 = (scS W n lim K).1 ∧ ∀ j, j < (scS W n lim K).2 → lim ≤ ldS n j → wyS W 0 n j < (scS W n lim K).1))
  | 0 => ⟨fun k hk => absurd hk (Nat.not_lt_zero k), Or.inl rfl⟩
  | K + 1 => by
    obtain ⟨h1, h2⟩ := scS_sp (W := W) (n := n) (lim := lim) K
    by_cases q : lim ≤ ldS n K ∧ (scS W n lim K).1 < wyS W 0 n K
    · have e : scS W n lim (K + 1) = (wyS W 0 n K, K) := if_pos q
      rw [e]
      refine ⟨fun k hk hl => ?_, Or.inr ⟨Nat.lt_succ_self K, q.1, rfl, fun j hj hl => ?_⟩⟩
      · rcases Nat.lt_or_ge k K with x | x
        · exact Nat.le_trans (h1 k x hl) (Nat.le_of_lt q.2)
        · rw [show k = K by omega]; exact Nat.le_refl _
      · exact Nat.lt_of_le_of_lt (h1 j hj hl) q.2
    · have e : scS W n lim (K + 1) = scS W n lim K := if_neg q
      rw [e]
      refine ⟨fun k hk hl => ?_, h2.imp id (fun x => ⟨Nat.lt_succ_of_lt x.1, x.2⟩)⟩
      rcases Nat.lt_or_ge k K with x | x
      · exact h1 k x hl
      · have : k = K := by omega
        subst this
        exact Nat.not_lt.mp (fun z => q ⟨hl, z⟩)
theorem scS_bs {P : PV} {W : Nat → Nat → Nat} (hn : P.limit < 31) (hW : ∀ p l, p < P.parts → l < 6 → W p l = gt P.wt p l) : (scS W P.parts P.limit (6 ^ P.parts)).1 = bs P.wt P.parts P.parts P.limit ∧ (0 < bs P.wt P.parts P.parts P.limit → FM P.wt P.parts P.parts P.limit (scS W P.parts P.limit (6 ^ P.parts)).2) := by
  have we : ∀ k, wyS W 0 P.parts k = wyS (gt P.wt) (P.parts - P.parts) P.parts k := fun k => by
    rw [Nat.sub_self]
    exact wyS_ext P.parts (fun p l hp hl => hW p l (by omega) hl) k
  obtain ⟨h1, h2⟩ := scS_sp (W := W) (n := P.parts) (lim := P.limit) (6 ^ P.parts)
  have up : ∀ k, k < 6 ^ P.parts → P.limit ≤ ldS P.parts k → wyS W 0 P.parts k ≤ bs P.wt P.parts P.parts P.limit := fun k hk hl => by
    rw [we]
    exact bs_up P.parts (Nat.le_refl _) P.limit k hn hk hl
  have eq : (scS W P.parts P.limit (6 ^ P.parts)).1 = bs P.wt P.parts P.parts P.limit := by
    refine Nat.le_antisymm ?_ ?_
    · rcases h2 with z | ⟨a, b, c, -⟩
      · rw [z]; exact Nat.zero_le _
      · rw [← c]; exact up _ a b
    · rcases Nat.eq_zero_or_pos (bs P.wt P.parts P.parts P.limit) with z | z
      · rw [z]; exact Nat.zero_le _
      · obtain ⟨k, hk, hl, hw⟩ := bs_hit P.parts (Nat.le_refl _) P.limit hn z
        rw [← hw, ← we]
        exact h1 k hk hl
  refine ⟨eq, fun hpos => ?_⟩
  rcases h2 with z | ⟨a, b, c, d⟩
  · rw [eq] at z; omega
  · exact ⟨a, b, by rw [← we, c, eq], hpos, fun j hj hl => by rw [← we, ← eq]; exact d j hj hl⟩
