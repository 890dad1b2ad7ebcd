/-- the digits of k, the last one first -/
def dig : Nat → Nat → Nat
  | k, 0 => k % 6
  | k, t + 1 => dig (k / 6) t
/-- how many of the last n digits are 5 -/
def tf : Nat → Nat → Nat
  | _, 0 => 0
  | k, n + 1 => if k % 6 = 5 then tf (k / 6) n + 1 else 0
theorem dig_lt : ∀ (t k : Nat), dig k t < 6
  | 0, k => Nat.mod_lt _ (by decide)
  | t + 1, k => dig_lt t (k / 6)
theorem dig_0 : ∀ t : Nat, dig 0 t = 0
  | 0 => rfl
  | t + 1 => dig_0 t
theorem tf_le : ∀ (n k : Nat), tf k n ≤ n
  | 0, _ => Nat.le_refl _
  | n + 1, k => by
    unfold tf
    split
    · exact Nat.succ_le_succ (tf_le n (k / 6))
    · exact Nat.zero_le _
theorem tf_dig : ∀ (n k t : Nat), t < tf k n → dig k t = 5
  | 0, k, t, h => absurd h (Nat.not_lt_zero _)
  | n + 1, k, t, h => by
    unfold tf at h
    by_cases q : k % 6 = 5
    · rw [if_pos q] at h
      rcases t with _ | t
      · exact q
      · exact tf_dig n (k / 6) t (by omega)
    · rw [if_neg q] at h
      exact absurd h (Nat.not_lt_zero _)
theorem tf_ne : ∀ (n k : Nat), tf k n < n → ¬ dig k (tf k n) = 5
  | 0, k, h => absurd h (Nat.not_lt_zero _)
  | n + 1, k, h => by
    unfold tf at h ⊢
    by_cases q : k % 6 = 5
    · rw [if_pos q] at h ⊢
      exact tf_ne n (k / 6) (by omega)
    · rw [if_neg q]
      exact q
theorem tf_succ : ∀ (n k t : Nat), tf k n < n → dig (k + 1) t = if t < tf k n then 0 else if t = tf k n then dig k t + 1 else dig k t
  | 0, k, t, h => absurd h (Nat.not_lt_zero _)
  | n + 1, k, t, h => by
    unfold tf at h ⊢
    by_cases q : k % 6 = 5
    · rw [if_pos q] at h ⊢
      rcases t with _ | t
      · rw [if_pos (Nat.succ_pos _)]
        show (k + 1) % 6 = 0
        omega
      · have e := tf_succ n (k / 6) t (by omega)
        show dig ((k + 1) / 6) t = _
        rw [show (k + 1) / 6 = k / 6 + 1 by omega, e]
        by_cases q1 : t < tf (k / 6) n
        · rw [if_pos q1, if_pos (by omega)]
        · rw [if_neg q1]
          by_cases q2 : t = tf (k / 6) n
          · rw [if_pos q2, if_neg (by omega), if_pos (by omega)]; rfl
          · rw [if_neg q2, if_neg (by omega), if_neg (by omega)]; rfl
    · rw [if_neg q, if_neg (Nat.not_lt_zero _)]
      rcases t with _ | t
      · rw [if_pos rfl]
        show (k + 1) % 6 = k % 6 + 1
        omega
      · rw [if_neg (by omega)]
        show dig ((k + 1) / 6) t = dig (k / 6) t
        rw [show (k + 1) / 6 = k / 6 by omega]
theorem tf_full : ∀ (n k : Nat), k < 6 ^ n → (tf k n = n ↔ k + 1 = 6 ^ n)
  | 0, k, h => by
    have : k < 1 := h
    show (0 = 0 ↔ k + 1 = 1)
    omega
  | n + 1, k, h => by
    rw [Nat.pow_succ] at h ⊢
    have e := tf_full n (k / 6) (by omega)
    unfold tf
    by_cases q : k % 6 = 5
    · rw [if_pos q]; omega
    · rw [if_neg q]; omega
def RWf (n k : Nat) (b : Nat → Nat) (j : Nat) : Nat := if j < n then dig k (n - 1 - j) else if j < 6 then 0 else b j
def RZf (n k t : Nat) (b : Nat → Nat) (j : Nat) : Nat := if n ≤ j + t ∧ j < n then 0 else RWf n k b j
theorem RWf_lt {n k : Nat} {b : Nat → Nat} {j : Nat} (h : j < n) : RWf n k b j < 6 := by
  unfold RWf
  rw [if_pos h]
  exact dig_lt _ _
theorem RZ_0 (n k : Nat) (b : Nat → Nat) : RZf n k 0 b = RWf n k b := by
  funext j
  exact if_neg (by omega)
theorem RZ_at {n k : Nat} {b : Nat → Nat} {j : Nat} (h : j < n) : RZf n k (n - 1 - j) b j = dig k (n - 1 - j) := by
  unfold RZf RWf
  rw [if_neg (by omega), if_pos h]
theorem RZ_step {n k : Nat} {b : Nat → Nat} {j t : Nat} (h : j < n) (ht : t = n - 1 - j) : uN (RZf n k t b) j 0 = RZf n k (t + 1) b := by
  subst ht
  funext x
  unfold uN RZf
  by_cases q : x = j
  · rw [if_pos q, if_pos (by omega)]
  · rw [if_neg q]
    by_cases q2 : n ≤ x + (n - 1 - j) ∧ x < n
    · rw [if_pos q2, if_pos (by omega)]
    · rw [if_neg q2, if_neg (by omega)]
theorem RZ_full (n k : Nat) (b : Nat → Nat) : RZf n k n b = RWf n 0 b := by
  funext j
  unfold RZf RWf
  by_cases q : j < n
  · rw [if_pos (by omega), if_pos q, dig_0]
  · rw [if_neg (by omega), if_neg q, if_neg q]
theorem RZ_inc {n k : Nat} {b : Nat → Nat} {j t : Nat} (h : tf k n < n) (ht : t = tf k n) (hj : j + t + 1 = n) : uN (RZf n k t b) j (RZf n k t b j + 1) = RWf n (k + 1) b := by
  subst ht
  have e : RZf n k (tf k n) b j = dig k (tf k n) := by
    have := RZ_at (n := n) (k := k) (b := b) (j := j) (by omega)
    rw [show n - 1 - j = tf k n by omega] at this
    exact this
  rw [e]
  funext x
  unfold uN
  by_cases q : x = j
  · rw [if_pos q]
    unfold RWf
    rw [if_pos (by omega), show n - 1 - x = tf k n by omega, tf_succ n k _ h, if_neg (Nat.lt_irrefl _), if_pos rfl]
  · rw [if_neg q]
    unfold RZf RWf
    by_cases q1 : x < n
    · rw [if_pos q1, if_pos q1, tf_succ n k _ h]
      by_cases q2 : n - 1 - x < tf k n
      · rw [if_pos q2, if_pos (by omega)]
      · rw [if_neg q2, if_neg (by omega), if_neg (by omega)]
    · rw [if_neg (by omega), if_neg q1, if_neg q1]
def zf6 (b : Nat → Nat) (i j : Nat) : Nat := if j < i then 0 else b j
theorem zf6_0 (b : Nat → Nat) : zf6 b 0 = b := funext fun j => if_neg (Nat.not_lt_zero j)
theorem zf6_step (b : Nat → Nat) (i : Nat) : uN (zf6 b i) i 0 = zf6 b (i + 1) := by
  funext j
  unfold uN zf6
  by_cases q : j = i
  · rw [if_pos q, if_pos (by omega)]
  · rw [if_neg q]
    by_cases q2 : j < i
    · rw [if_pos q2, if_pos (by omega)]
    · rw [if_neg q2, if_neg (by omega)]
theorem zf6_6 {n : Nat} (b : Nat → Nat) (h : n ≤ 6) : zf6 b 6 = RWf n 0 b := by
  funext j
  unfold zf6 RWf
  by_cases q : j < n
  · rw [if_pos (by omega), if_pos q, dig_0]
  · rw [if_neg q]
theorem lfr_eq {p q : Nat → Prop} [DecidablePred p] [DecidablePred q] : ∀ k x, (∀ i, i < x + k → (p i ↔ q i)) → lfr p k x = lfr q k x
  | 0, x, _ => rfl
  | k + 1, x, h => by
    unfold lfr
    have e := lfr_eq (p := p) (q := q) k (x + 1) (fun i hi => h i (by omega))
    have hx := h x (by omega)
    by_cases h1 : p x
    · rw [if_pos h1, if_pos (hx.mp h1)]
    · rw [if_neg h1, if_neg (fun y => h1 (hx.mpr y)), e]
theorem crS_ext {P : PV} {v w : Nat → Nat} : ∀ i, (∀ j, j < i → v j = w j) → crS P v i = crS P w i
  | 0, _ => rfl
  | i + 1, h => by
    show ((crS P v i).1 + v i, corr (crS P v i).2 (gt P.wt i (v i)) (tot P.tl i) (tot P.wt i) (gt P.tl i (v i))) = ((crS P w i).1 + w i, corr (crS P w i).2 (gt P.wt i (w i)) (tot P.tl i) (tot P.wt i) (gt P.tl i (w i)))
    rw [crS_ext i (fun j hj => h j (by omega)), h i (by omega)]
theorem crV_ext {P : PV} {v w : Nat → Nat} {b : Nat} (h : ∀ j, j < P.parts → v j = w j) : crV P v b = crV P w b := by
  have e : crF P v = crF P w := lfr_eq P.parts 0 (fun i hi => by rw [h i (by omega)])
  unfold crV
  rw [e, crS_ext P.parts h]
/-- the greatest correction of the rows 0 .. k -/
def mxR (P : PV) (b : Nat) : Nat → UInt64
  | 0 => crV P (RWf P.parts 0 zN) b
  | k + 1 => dmx (mxR P b k) (crV P (RWf P.parts (k + 1) zN) b)
theorem crV_z {P : PV} {k b : Nat} {f : Nat → Nat} : crV P (RWf P.parts k f) b = crV P (RWf P.parts k zN) b := crV_ext (fun j hj => by
  unfold RWf
  rw [if_pos hj, if_pos hj])
theorem mxR_n {P : PV} {b k : Nat} (h : Op.cmpValue (FP.dcmp (crV P (RWf P.parts (k + 1) zN) b) (mxR P b k)) .l ≤ 0) : mxR P b (k + 1) = mxR P b k := if_pos h
theorem mxR_y {P : PV} {b k : Nat} (h : ¬ Op.cmpValue (FP.dcmp (crV P (RWf P.parts (k + 1) zN) b) (mxR P b k)) .l ≤ 0) : mxR P b (k + 1) = crV P (RWf P.parts (k + 1) zN) b := if_neg h
set_option maxHeartbeats 4000000 in
set_option maxRecDepth 100000 in
theorem c_X10_goesOn_t {G : GP} {ma z : Nat → Nat} {sf : Nat → UInt64} {st : Nat} {hh : Nat → Nat} {sh : Nat → UInt64} {len : Nat} {tx : Nat → Nat} {th : Nat} {wy mo td : Nat → Nat} {re lo to : Nat} {rw : Nat → Nat} {ha : Int64} {k9 : Nat} (h6 : z 0 ≤ 6) (ht : tf k9 (z 0) < z 0) : AMd G sX10_goesOn [.ref (ma 0)] (wM G ma z sf st hh sh len tx th wy mo td re lo to (RWf (z 0) k9 rw) ha) (some (.int (nI 1))) (wM G ma z sf st hh sh len tx th wy mo td re lo to (RWf (z 0) (k9 + 1) rw) ha) := by
  refine AM.of (σ := sX10_goesOn) (by decide +kernel) (by decide +kernel) (Nat.le_of_ble_eq_true rfl) (fun B hB hR hE0 hN => ?_)
  have hE := BE.of hE0
  refine a_aload_n hB dX10_goesOn_0 rfl ?_
  refine a_get (T := TX10) (ci := 10) hB dX10_goesOn_1 0 fl_X10_7 lay_X10 rfl (by decide) rfl 0 rfl rfl ?_
  refine a_iconstN (v := 0) hB dX10_goesOn_4 (by decide) ?_
  refine a_ialoadN hB dX10_goesOn_5 1 rfl (by omega) (by decide) ?_
  refine a_iconstN (v := 1) hB dX10_goesOn_6 (by decide) ?_
  refine a_isubN hB dX10_goesOn_7 (by omega) ?_
  refine a_istore_n hB dX10_goesOn_8 (by decide) ?_
  have lp9 : ∀ (j9 i : Nat), i + (tf k9 (z 0) + 1) = z 0 + j9 ∧ i < z 0 → aW G sX10_goesOn B 9 [(0, .ref (ma 0)), (1, .int (nI i))] [] (wM G ma z sf st hh sh len tx th wy mo td re lo to (RZf (z 0) k9 (z 0 - 1 - i) rw) ha) 0 0 := by
    intro j9
    induction j9 with
    | zero =>
      intro i hi
      have et : z 0 - 1 - i = tf k9 (z 0) := by omega
      have e5 : ¬ RZf (z 0) k9 (z 0 - 1 - i) rw i = 5 := by rw [RZ_at (by omega), et]; exact tf_ne _ _ ht
      have e6 : RZf (z 0) k9 (z 0 - 1 - i) rw i < 6 := by rw [RZ_at (by omega)]; exact dig_lt _ _
      refine a_iload_n hB dX10_goesOn_9 rfl ?_
      refine a_if_ltN_f (tgt := 36) hB dX10_goesOn_10 (by decide) (by omega) ?_
      refine a_aload_n hB dX10_goesOn_13 rfl ?_
      refine a_get (T := TX10) (ci := 10) hB dX10_goesOn_14 14 fl_X10_36 lay_X10 rfl (by decide) rfl 0 rfl rfl ?_
      refine a_iload_n hB dX10_goesOn_17 rfl ?_
      refine a_ialoadN hB dX10_goesOn_18 9 rfl (by omega) (by decide) ?_
      refine a_iconstN (v := 5) hB dX10_goesOn_19 (by decide) ?_
      refine a_icmp_neN_t (tgt := 36) hB dX10_goesOn_20 (by decide) (by omega) (by omega) e5 ?_
      refine a_iload_n hB dX10_goesOn_36 rfl ?_
      refine a_if_ltN_f (tgt := 50) hB dX10_goesOn_37 (by decide) (by omega) ?_
      refine a_aload_n hB dX10_goesOn_40 rfl ?_
      refine a_get (T := TX10) (ci := 10) hB dX10_goesOn_41 14 fl_X10_36 lay_X10 rfl (by decide) rfl 0 rfl rfl ?_
      refine a_iload_n hB dX10_goesOn_44 rfl ?_
      refine a_dup2_11 hB dX10_goesOn_45 rfl rfl ?_
      refine a_ialoadN hB dX10_goesOn_46 9 rfl (by omega) (by decide) ?_
      refine a_iconstN (v := 1) hB dX10_goesOn_47 (by decide) ?_
      refine a_iaddN hB dX10_goesOn_48 ?_
      refine a_iastoreN hB dX10_goesOn_49 9 rfl (by omega) (by decide) ?_
      refine a_iload_n hB dX10_goesOn_50 rfl ?_
      refine a_if_ltN_f (tgt := 58) hB dX10_goesOn_51 (by decide) (by omega) ?_
      refine a_iconstN (v := 1) hB dX10_goesOn_54 (by decide) ?_
      refine a_goto (tgt := 59) hB dX10_goesOn_55 (by decide) ?_
      exact a_zret hB hE rfl (by decide) dX10_goesOn_59 (Nat.le_of_ble_eq_true rfl) (Nat.le_of_ble_eq_true rfl) (AKeep.of rfl) ⟨rfl, by rw [← RZ_inc (n := z 0) (k := k9) (b := rw) (j := i) ht et (by omega)]; rfl⟩
    | succ j9 ih9 =>
      intro i hi
      have e5 : RZf (z 0) k9 (z 0 - 1 - i) rw i = 5 := by rw [RZ_at (by omega)]; exact tf_dig (z 0) _ _ (by omega)
      have e6 : RZf (z 0) k9 (z 0 - 1 - i) rw i < 6 := by omega
      have e9 := RZ_step (n := z 0) (k := k9) (b := rw) (j := i) (by omega) rfl
      refine a_iload_n hB dX10_goesOn_9 rfl ?_
      refine a_if_ltN_f (tgt := 36) hB dX10_goesOn_10 (by decide) (by omega) ?_
      refine a_aload_n hB dX10_goesOn_13 rfl ?_
      refine a_get (T := TX10) (ci := 10) hB dX10_goesOn_14 14 fl_X10_36 lay_X10 rfl (by decide) rfl 0 rfl rfl ?_
      refine a_iload_n hB dX10_goesOn_17 rfl ?_
      refine a_ialoadN hB dX10_goesOn_18 9 rfl (by omega) (by decide) ?_
      refine a_iconstN (v := 5) hB dX10_goesOn_19 (by decide) ?_
      refine a_icmp_neN_f (tgt := 36) hB dX10_goesOn_20 (by decide) (by omega) (by omega) e5 ?_
      refine a_aload_n hB dX10_goesOn_23 rfl ?_
      refine a_get (T := TX10) (ci := 10) hB dX10_goesOn_24 14 fl_X10_36 lay_X10 rfl (by decide) rfl 0 rfl rfl ?_
      refine a_iload_n hB dX10_goesOn_27 rfl ?_
      refine a_iconstN (v := 0) hB dX10_goesOn_28 (by decide) ?_
      refine a_iastoreN hB dX10_goesOn_29 9 rfl (by omega) (by decide) ?_
      refine a_iincD hB dX10_goesOn_30 (congrArg (fun x => some (Value.int (nI x))) (show i = i - 1 + 1 by omega)) (by decide) (by decide) ?_
      refine a_goto (tgt := 9) hB dX10_goesOn_33 (by decide) ?_
      exact aW_at [0, 1] rfl rfl (by rw [show z 0 - 1 - (i - 1) = z 0 - 1 - i + 1 by omega, ← e9]; rfl) (ih9 (i - 1) (by omega))
  exact aW_at [0, 1] rfl rfl (by rw [show z 0 - 1 - (z 0 - 1) = 0 by omega, RZ_0]) (lp9 (tf k9 (z 0)) (z 0 - 1) (by omega))
set_option maxHeartbeats 4000000 in
set_option maxRecDepth 100000 in
theorem c_X10_goesOn_f {G : GP} {ma z : Nat → Nat} {sf : Nat → UInt64} {st : Nat} {hh : Nat → Nat} {sh : Nat → UInt64} {len : Nat} {tx : Nat → Nat} {th : Nat} {wy mo td : Nat → Nat} {re lo to : Nat} {rw : Nat → Nat} {ha : Int64} {k9 : Nat} (h6 : z 0 ≤ 6) (ht : tf k9 (z 0) = z 0) : AMd G sX10_goesOn [.ref (ma 0)] (wM G ma z sf st hh sh len tx th wy mo td re lo to (RWf (z 0) k9 rw) ha) (some (.int (nI 0))) (wM G ma z sf st hh sh len tx th wy mo td re lo to (RWf (z 0) 0 rw) ha) := by
  refine AM.of (σ := sX10_goesOn) (by decide +kernel) (by decide +kernel) (Nat.le_of_ble_eq_true rfl) (fun B hB hR hE0 hN => ?_)
  have hE := BE.of hE0
  refine a_aload_n hB dX10_goesOn_0 rfl ?_
  refine a_get (T := TX10) (ci := 10) hB dX10_goesOn_1 0 fl_X10_7 lay_X10 rfl (by decide) rfl 0 rfl rfl ?_
  refine a_iconstN (v := 0) hB dX10_goesOn_4 (by decide) ?_
  refine a_ialoadN hB dX10_goesOn_5 1 rfl (by omega) (by decide) ?_
  refine a_iconstN (v := 1) hB dX10_goesOn_6 (by decide) ?_
  refine a_isub hB dX10_goesOn_7 ?_
  refine a_istore_n hB dX10_goesOn_8 (by decide) ?_
  have lp9 : ∀ (j9 i : Nat), i = j9 ∧ i ≤ z 0 → aW G sX10_goesOn B 9 [(0, .ref (ma 0)), (1, .int (nI i + (-1)))] [] (wM G ma z sf st hh sh len tx th wy mo td re lo to (RZf (z 0) k9 (z 0 - i) rw) ha) 0 0 := by
    intro j9
    induction j9 with
    | zero =>
      intro i hi
      obtain ⟨rfl, hb⟩ := hi
      refine a_iload_n hB dX10_goesOn_9 rfl ?_
      refine a_if_lt_t (tgt := 36) hB dX10_goesOn_10 (by decide) (by decide) ?_
      refine a_iload_n hB dX10_goesOn_36 rfl ?_
      refine a_if_lt_t (tgt := 50) hB dX10_goesOn_37 (by decide) (by decide) ?_
      refine a_iload_n hB dX10_goesOn_50 rfl ?_
      refine a_if_lt_t (tgt := 58) hB dX10_goesOn_51 (by decide) (by decide) ?_
      refine a_iconstN (v := 0) hB dX10_goesOn_58 (by decide) ?_
      exact a_zret hB hE rfl (by decide) dX10_goesOn_59 (Nat.le_of_ble_eq_true rfl) (Nat.le_of_ble_eq_true rfl) (AKeep.of rfl) ⟨rfl, by rw [Nat.sub_zero, RZ_full]⟩
    | succ j9 ih9 =>
      intro i hi
      obtain ⟨rfl, hb⟩ := hi
      rw [pk_m1]
      have et : z 0 - (j9 + 1) = z 0 - 1 - j9 := by omega
      have e5 : RZf (z 0) k9 (z 0 - (j9 + 1)) rw j9 = 5 := by rw [et, RZ_at (by omega)]; exact tf_dig (z 0) _ _ (by omega)
      have e6 : RZf (z 0) k9 (z 0 - (j9 + 1)) rw j9 < 6 := by omega
      have e9 := RZ_step (n := z 0) (k := k9) (b := rw) (j := j9) (t := z 0 - (j9 + 1)) (by omega) (by omega)
      refine a_iload_n hB dX10_goesOn_9 rfl ?_
      refine a_if_ltN_f (tgt := 36) hB dX10_goesOn_10 (by decide) (by omega) ?_
      refine a_aload_n hB dX10_goesOn_13 rfl ?_
      refine a_get (T := TX10) (ci := 10) hB dX10_goesOn_14 14 fl_X10_36 lay_X10 rfl (by decide) rfl 0 rfl rfl ?_
      refine a_iload_n hB dX10_goesOn_17 rfl ?_
      refine a_ialoadN hB dX10_goesOn_18 9 rfl (by omega) (by decide) ?_
      refine a_iconstN (v := 5) hB dX10_goesOn_19 (by decide) ?_
      refine a_icmp_neN_f (tgt := 36) hB dX10_goesOn_20 (by decide) (by omega) (by omega) e5 ?_
      refine a_aload_n hB dX10_goesOn_23 rfl ?_
      refine a_get (T := TX10) (ci := 10) hB dX10_goesOn_24 14 fl_X10_36 lay_X10 rfl (by decide) rfl 0 rfl rfl ?_
      refine a_iload_n hB dX10_goesOn_27 rfl ?_
      refine a_iconstN (v := 0) hB dX10_goesOn_28 (by decide) ?_
      refine a_iastoreN hB dX10_goesOn_29 9 rfl (by omega) (by decide) ?_
      refine a_iinc (v := -1) hB dX10_goesOn_30 rfl (by decide) (by decide) ?_
      refine a_goto (tgt := 9) hB dX10_goesOn_33 (by decide) ?_
      exact aW_at [0, 1] rfl rfl (by rw [show z 0 - j9 = z 0 - (j9 + 1) + 1 by omega, ← e9]; rfl) (ih9 j9 ⟨rfl, by omega⟩)
  exact aW_at [0, 1] (by rw [lim1 (z 0)]; rfl) rfl (by rw [Nat.sub_self, RZ_0]) (lp9 (z 0) (z 0) ⟨rfl, Nat.le_refl _⟩)
set_option maxHeartbeats 4000000 in
set_option maxRecDepth 100000 in
theorem c_X10_greatestNow {G : GP} {ma z : Nat → Nat} {sf : Nat → UInt64} {st : Nat} {hh : Nat → Nat} {sh : Nat → UInt64} {len : Nat} {tx : Nat → Nat} {th : Nat} {wy mo td : Nat → Nat} {re lo to : Nat} {rw : Nat → Nat} {ha : Int64} {b : Nat} (hb : b ≤ 1) (h6 : z 0 ≤ 6) (hw : ∀ p l, p < 6 → l < 6 → gt (wq z) p l ≤ 9) (hl : z 1 ≤ 99) (hc : (ZP z sf).crOK)  : AMd G sX10_greatestNow [.ref (ma 0), .int (nI b)] (wM G ma z sf st hh sh len tx th wy mo td re lo to rw ha) (some (.double (mxR (ZP z sf) b (6 ^ z 0 - 1)))) (wM G ma z sf st hh sh len tx th wy mo td re lo to (RWf (z 0) 0 rw) ha) := by
  refine AM.of (σ := sX10_greatestNow) (by decide +kernel) (by decide +kernel) (Nat.le_of_ble_eq_true rfl) (fun B hB hR hE0 hN => ?_)
  have hE := BE.of hE0
  refine a_iconstN (v := 0) hB dX10_greatestNow_0 (by decide) ?_
  refine a_istore_n hB dX10_greatestNow_1 (by decide) ?_
  have lp2 : ∀ (j2 i : Nat), i + j2 = 6 → aW G sX10_greatestNow B 2 [(0, .ref (ma 0)), (1, .int (nI b)), (2, .int (nI i))] [] (wM G ma z sf st hh sh len tx th wy mo td re lo to (zf6 rw i) ha) 0 0 := by
    intro j2
    induction j2 with
    | zero =>
      intro i hi
      refine a_iload_n hB dX10_greatestNow_2 rfl ?_
      refine a_bipushN (v := 6) hB dX10_greatestNow_3 (by decide) ?_
      refine a_icmp_geN_t (tgt := 21) hB dX10_greatestNow_5 (by decide) (by omega) (by omega) (by omega) ?_
      refine aW_w (ws' := wM G ma z sf st hh sh len tx th wy mo td re lo to (RWf (z 0) 0 rw) ha) (by rw [show i = 6 by omega, zf6_6 rw h6]) ?_
      refine a_aload_n hB dX10_greatestNow_21 rfl ?_
      refine a_iload_n hB dX10_greatestNow_22 rfl ?_
      refine a_callVr (q0 := 0) hB (c_X10_correctionOf (rw := (RWf (z 0) 0 rw)) hb hl h6 hw (fun j hj => RWf_lt hj) hc) mk_X10_correctionOf ml_X10_195 dX10_greatestNow_23 rfl rfl [0, 1, 2, 3, 4, 5, 6, 7, 8, 9] rfl (by decide) rfl rfl (fit_of hR (by decide)) (Nat.le_of_ble_eq_true rfl) ?_
      rw [show crV (ZP z sf) (RWf (z 0) 0 rw) b = mxR (ZP z sf) b 0 from crV_z (P := ZP z sf)]
      refine a_dstore_n hB dX10_greatestNow_26 (by decide) ?_
      have lp27 : ∀ (j27 i : Nat), i + j27 = 6 ^ z 0 - 1 → aW G sX10_greatestNow B 27 [(0, .ref (ma 0)), (1, .int (nI b)), (2, .double (mxR (ZP z sf) b i))] [] (wM G ma z sf st hh sh len tx th wy mo td re lo to (RWf (z 0) i rw) ha) 0 0 := by
        intro j27
        induction j27 with
        | zero =>
          intro i hi
          have hp6 : 0 < 6 ^ z 0 := Nat.pow_pos (by decide)
          refine a_aload_n hB dX10_greatestNow_27 rfl ?_
          refine a_callVd (w2 := wM G ma z sf st hh sh len tx th wy mo td re lo to (RWf (z 0) 0 rw) ha) (q0 := 0) hB (c_X10_goesOn_f (k9 := i) (rw := rw) h6 ((tf_full (z 0) i (by omega)).mpr (by omega))) mk_X10_goesOn ml_X10_199 dX10_greatestNow_28 rfl rfl [0, 1, 2, 3, 4, 5, 6, 7, 8, 9] rfl (by decide) rfl rfl (fit_of hR (by decide)) (Nat.le_of_ble_eq_true rfl) (wput_all rfl rfl) ?_
          refine a_if_eqN_t (tgt := 58) hB dX10_greatestNow_31 (by decide) (by omega) (by omega) ?_
          refine a_dload_n hB dX10_greatestNow_58 rfl ?_
          exact a_dret hB hE rfl dX10_greatestNow_59 (Nat.le_of_ble_eq_true rfl) (Nat.le_of_ble_eq_true rfl) (AKeep.of rfl) ⟨by rw [show i = 6 ^ z 0 - 1 by omega], rfl⟩
        | succ j27 ih27 =>
          intro i hi
          have hp6 : 0 < 6 ^ z 0 := Nat.pow_pos (by decide)
          refine a_aload_n hB dX10_greatestNow_27 rfl ?_
          refine a_callVd (w2 := wM G ma z sf st hh sh len tx th wy mo td re lo to (RWf (z 0) (i + 1) rw) ha) (q0 := 0) hB (c_X10_goesOn_t (k9 := i) (rw := rw) h6 (Nat.lt_of_le_of_ne (tf_le _ _) (fun q => absurd ((tf_full (z 0) i (by omega)).mp q) (by omega)))) mk_X10_goesOn ml_X10_199 dX10_greatestNow_28 rfl rfl [0, 1, 2, 3, 4, 5, 6, 7, 8, 9] rfl (by decide) rfl rfl (fit_of hR (by decide)) (Nat.le_of_ble_eq_true rfl) (wput_all rfl rfl) ?_
          refine a_if_eqN_f (tgt := 58) hB dX10_greatestNow_31 (by decide) (by omega) (by omega) ?_
          refine a_aload_n hB dX10_greatestNow_34 rfl ?_
          refine a_iload_n hB dX10_greatestNow_35 rfl ?_
          refine a_callVr (q0 := 0) hB (c_X10_correctionOf (rw := (RWf (z 0) (i + 1) rw)) hb hl h6 hw (fun j hj => RWf_lt hj) hc) mk_X10_correctionOf ml_X10_195 dX10_greatestNow_36 rfl rfl [0, 1, 2, 3, 4, 5, 6, 7, 8, 9] rfl (by decide) rfl rfl (fit_of hR (by decide)) (Nat.le_of_ble_eq_true rfl) ?_
          rw [show crV (ZP z sf) (RWf (z 0) (i + 1) rw) b = crV (ZP z sf) (RWf (z 0) (i + 1) zN) b from crV_z (P := ZP z sf)]
          refine a_dstore hB dX10_greatestNow_39 (by decide) ?_
          refine a_dload hB dX10_greatestNow_41 rfl ?_
          refine a_dload_n hB dX10_greatestNow_43 rfl ?_
          refine a_dcmp hB dX10_greatestNow_44 ?_
          refine a_if_le (tgt := 53) hB dX10_greatestNow_45 (by decide) (fun c45 => ?_) (fun c45 => ?_)
          · refine a_dload_n hB dX10_greatestNow_53 rfl ?_
            refine a_dstore_n hB dX10_greatestNow_54 (by decide) ?_
            refine a_goto (tgt := 27) hB dX10_greatestNow_55 (by decide) ?_
            first | (have e9 := mxR_n (P := ZP z sf) c45) | (have e9 := mxR_y (P := ZP z sf) c45)
            exact aW_at [0, 1, 2] (by rw [e9]; rfl) rfl rfl (ih27 (i + 1) (by omega))
          · refine a_dload hB dX10_greatestNow_48 rfl ?_
            refine a_goto (tgt := 54) hB dX10_greatestNow_50 (by decide) ?_
            refine a_dstore_n hB dX10_greatestNow_54 (by decide) ?_
            refine a_goto (tgt := 27) hB dX10_greatestNow_55 (by decide) ?_
            first | (have e9 := mxR_n (P := ZP z sf) c45) | (have e9 := mxR_y (P := ZP z sf) c45)
            exact aW_at [0, 1, 2] (by rw [e9]; rfl) rfl rfl (ih27 (i + 1) (by omega))
      exact aW_at [0, 1, 2] rfl rfl rfl (lp27 (6 ^ z 0 - 1) 0 (by omega))
    | succ j2 ih2 =>
      intro i hi
      refine a_iload_n hB dX10_greatestNow_2 rfl ?_
      refine a_bipushN (v := 6) hB dX10_greatestNow_3 (by decide) ?_
      refine a_icmp_geN_f (tgt := 21) hB dX10_greatestNow_5 (by decide) (by omega) (by omega) (by omega) ?_
      refine a_aload_n hB dX10_greatestNow_8 rfl ?_
      refine a_get (T := TX10) (ci := 10) hB dX10_greatestNow_9 14 fl_X10_36 lay_X10 rfl (by decide) rfl 0 rfl rfl ?_
      refine a_iload_n hB dX10_greatestNow_12 rfl ?_
      refine a_iconstN (v := 0) hB dX10_greatestNow_13 (by decide) ?_
      refine a_iastoreN hB dX10_greatestNow_14 9 rfl (by omega) (by decide) ?_
      refine a_iincN (b := 1) hB dX10_greatestNow_15 rfl (by decide) (by decide) ?_
      refine a_goto (tgt := 2) hB dX10_greatestNow_18 (by decide) ?_
      exact aW_at [0, 1, 2] rfl rfl (by rw [← zf6_step]; rfl) (ih2 (i + 1) (by omega))
  exact aW_at [0, 1, 2] rfl rfl (by rw [zf6_0]) (lp2 (6) 0 (by omega))
set_option maxHeartbeats 4000000 in
set_option maxRecDepth 100000 in
theorem c_X10_greatest_v {G : GP} {ma z : Nat → Nat} {sf : Nat → UInt64} {st : Nat} {hh : Nat → Nat} {sh : Nat → UInt64} {len : Nat} {tx : Nat → Nat} {th : Nat} {wy mo td : Nat → Nat} {re lo to : Nat} {rw : Nat → Nat} {ha : Int64} {b : Nat} (hb : b ≤ 1) (h6 : z 0 ≤ 6) (hw : ∀ p l, p < 6 → l < 6 → gt (wq z) p l ≤ 9) (hl : z 1 ≤ 99) (hc : (ZP z sf).crOK) (hG : mxR (ZP z sf) b (6 ^ z 0 - 1) = vG (ZP z sf) b) : AMd G sX10_greatest [.ref (ma 0), .int (nI b)] (wM G ma z sf st hh sh len tx th wy mo td re lo to rw ha) (some (.double (vG (ZP z sf) b))) (wM G ma z sf st hh sh len tx 0 wy mo td re lo to (RWf (z 0) 0 rw) ha) := by
  refine AM.of (σ := sX10_greatest) (by decide +kernel) (by decide +kernel) (Nat.le_of_ble_eq_true rfl) (fun B hB hR hE0 hN => ?_)
  have hE := BE.of hE0
  refine a_aload_n hB dX10_greatest_0 rfl ?_
  refine a_iconstN (v := 0) hB dX10_greatest_1 (by decide) ?_
  refine a_put (T := TX10) (ci := 10) hB dX10_greatest_2 7 fl_X10_39 lay_X10 tyX10 tyX10_ok nmX10 rfl (by decide) rfl rfl 0 rfl rfl rfl rfl (Nat.le_of_ble_eq_true rfl) ?_
  refine a_aload_n hB dX10_greatest_5 rfl ?_
  refine a_iload_n hB dX10_greatest_6 rfl ?_
  refine a_callVd (w2 := wM G ma z sf st hh sh len tx 0 wy mo td re lo to (RWf (z 0) 0 rw) ha) (q0 := 0) hB (c_X10_greatestNow hb h6 hw hl hc) mk_X10_greatestNow ml_X10_203 dX10_greatest_7 rfl rfl [0, 1, 2, 3, 4, 5, 6, 7, 8, 9] rfl (by decide) rfl rfl (fit_of hR (by decide)) (Nat.le_of_ble_eq_true rfl) (wput_all rfl rfl) ?_
  rw [hG]
  exact a_dret hB hE rfl dX10_greatest_10 (Nat.le_of_ble_eq_true rfl) (Nat.le_of_ble_eq_true rfl) (AKeep.of rfl) ⟨rfl, rfl⟩
def slM (P : PV) : Nat → Int32 × UInt64
  | 0 => (-1, FP.dconst0)
  | i + 1 => if (slM P i).1 = -1 ∨ ¬ Op.cmpValue (FP.dcmp (vO P (nI i) P.limit) (slM P i).2) .l ≤ 0 then (nI i, vO P (nI i) P.limit) else slM P i
theorem slM_y {P : PV} {i : Nat} (h : (slM P i).1 = -1 ∨ ¬ Op.cmpValue (FP.dcmp (vO P (nI i) P.limit) (slM P i).2) .l ≤ 0) : slM P (i + 1) = (nI i, vO P (nI i) P.limit) := if_pos h
theorem slM_n {P : PV} {i : Nat} (h : ¬ (slM P i).1 = -1) (h2 : Op.cmpValue (FP.dcmp (vO P (nI i) P.limit) (slM P i).2) .l ≤ 0) : slM P (i + 1) = slM P i := if_neg (fun q => q.elim h (fun y => y h2))
set_option maxHeartbeats 4000000 in
set_option maxRecDepth 100000 in
theorem c_X10_slightestNow {G : GP} {ma z : Nat → Nat} {sf : Nat → UInt64} {st : Nat} {hh : Nat → Nat} {sh : Nat → UInt64} {len : Nat} {tx : Nat → Nat} {th : Nat} {wy mo td : Nat → Nat} {re lo to : Nat} {rw : Nat → Nat} {ha : Int64} (h6 : z 0 ≤ 6) (hw : ∀ p, p < z 0 → ∀ l, l < 6 → gt (wq z) p l < 2 ^ 31) (hl : z 1 ≤ 99) (hoi : ∀ i, i < z 0 → oddOK (cnt (ZP z sf) (nI i)) (z 1)) (h0i : ∀ i, i < z 0 → ¬ wfrom (cnt (ZP z sf) (nI i)) 0 = 0) (hS : (slM (ZP z sf) (z 0)).1 = vSl (ZP z sf)) : AM G sX10_slightestNow 0 0 [.ref (ma 0)] (wM G ma z sf st hh sh len tx th wy mo td re lo to rw ha) (fun rv w => rv = some (.int (vSl (ZP z sf))) ∧ ∃ (wy mo rw : Nat → Nat), w = wM G ma z sf st hh sh len tx th wy mo td re lo to rw ha) := by
  refine AM.of (σ := sX10_slightestNow) (by decide +kernel) (by decide +kernel) (Nat.le_of_ble_eq_true rfl) (fun B hB hR hE0 hN => ?_)
  have hE := BE.of hE0
  refine a_iconst (v := -1) hB dX10_slightestNow_0 (by decide) ?_
  refine a_istore_n hB dX10_slightestNow_1 (by decide) ?_
  refine a_dconst0 hB dX10_slightestNow_2 ?_
  refine a_dstore_n hB dX10_slightestNow_3 (by decide) ?_
  refine a_iconstN (v := 0) hB dX10_slightestNow_4 (by decide) ?_
  refine a_istore hB dX10_slightestNow_5 (by decide) ?_
  have lp7 : ∀ (j7 i : Nat) (wy : Nat → Nat), i + j7 = z 0 → aW G sX10_slightestNow B 7 [(0, .ref (ma 0)), (1, .int (slM (ZP z sf) i).1), (2, .double (slM (ZP z sf) i).2), (4, .int (nI i))] [] (wM G ma z sf st hh sh len tx th wy mo td re lo to rw ha) 0 0 := by
    intro j7
    induction j7 with
    | zero =>
      intro i wy hi
      refine a_iload hB dX10_slightestNow_7 rfl ?_
      refine a_aload_n hB dX10_slightestNow_9 rfl ?_
      refine a_get (T := TX10) (ci := 10) hB dX10_slightestNow_10 0 fl_X10_7 lay_X10 rfl (by decide) rfl 0 rfl rfl ?_
      refine a_iconstN (v := 0) hB dX10_slightestNow_13 (by decide) ?_
      refine a_ialoadN hB dX10_slightestNow_14 1 rfl (by omega) (by decide) ?_
      refine a_icmp_geN_t (tgt := 81) hB dX10_slightestNow_15 (by decide) (by omega) (by omega) (by omega) ?_
      refine a_iload_n hB dX10_slightestNow_81 rfl ?_
      exact a_iret hB hE rfl dX10_slightestNow_82 (Nat.le_of_ble_eq_true rfl) (Nat.le_of_ble_eq_true rfl) (AKeep.of rfl) ⟨by rw [show i = z 0 by omega, hS], _, _, _, rfl⟩
    | succ j7 ih7 =>
      intro i wy hi
      have hi0 : i < z 0 := by omega
      refine a_iload hB dX10_slightestNow_7 rfl ?_
      refine a_aload_n hB dX10_slightestNow_9 rfl ?_
      refine a_get (T := TX10) (ci := 10) hB dX10_slightestNow_10 0 fl_X10_7 lay_X10 rfl (by decide) rfl 0 rfl rfl ?_
      refine a_iconstN (v := 0) hB dX10_slightestNow_13 (by decide) ?_
      refine a_ialoadN hB dX10_slightestNow_14 1 rfl (by omega) (by decide) ?_
      refine a_icmp_geN_f (tgt := 81) hB dX10_slightestNow_15 (by decide) (by omega) (by omega) (by omega) ?_
      refine a_aload_n hB dX10_slightestNow_18 rfl ?_
      refine a_aload_n hB dX10_slightestNow_19 rfl ?_
      refine a_get (T := TX10) (ci := 10) hB dX10_slightestNow_20 0 fl_X10_7 lay_X10 rfl (by decide) rfl 0 rfl rfl ?_
      refine a_iconstN (v := 1) hB dX10_slightestNow_23 (by decide) ?_
      refine a_ialoadN hB dX10_slightestNow_24 1 rfl (by omega) (by decide) ?_
      refine a_iload hB dX10_slightestNow_25 rfl ?_
      refine a_callVd (w2 := wM G ma z sf st hh sh len tx th (cnF (wq z) (nI i) wy (z 0)) mo td re lo to rw ha) (q0 := 0) hB (c_X10_odds (s := z 1) (wo := nI i) h6 hw (by omega) (hoi i hi0) (h0i i hi0)) mk_X10_oddsBy ml_X10_174 dX10_slightestNow_27 rfl rfl [0, 1, 2, 3, 4, 5, 6, 7, 8, 9] rfl (by decide) rfl rfl (fit_of hR (by decide)) (Nat.le_of_ble_eq_true rfl) (wput_all rfl rfl) ?_
      refine a_dstore hB dX10_slightestNow_30 (by decide) ?_
      refine a_iload_n hB dX10_slightestNow_32 rfl ?_
      refine a_iconst (v := -1) hB dX10_slightestNow_33 (by decide) ?_
      refine a_icmp_eq (tgt := 44) hB dX10_slightestNow_34 (by decide) (fun c34 => ?_) (fun c34 => ?_)
      · refine a_iconstN (v := 1) hB dX10_slightestNow_44 (by decide) ?_
        refine a_goto (tgt := 49) hB dX10_slightestNow_45 (by decide) ?_
        refine a_istore hB dX10_slightestNow_49 (by decide) ?_
        refine a_iload hB dX10_slightestNow_51 rfl ?_
        refine a_if_eqN_f (tgt := 61) hB dX10_slightestNow_53 (by decide) (by omega) (by omega) ?_
        refine a_iload hB dX10_slightestNow_56 rfl ?_
        refine a_goto (tgt := 62) hB dX10_slightestNow_58 (by decide) ?_
        refine a_istore_n hB dX10_slightestNow_62 (by decide) ?_
        refine a_iload hB dX10_slightestNow_63 rfl ?_
        refine a_if_eqN_f (tgt := 73) hB dX10_slightestNow_65 (by decide) (by omega) (by omega) ?_
        refine a_dload hB dX10_slightestNow_68 rfl ?_
        refine a_goto (tgt := 74) hB dX10_slightestNow_70 (by decide) ?_
        refine a_dstore_n hB dX10_slightestNow_74 (by decide) ?_
        refine a_iincN (b := 1) hB dX10_slightestNow_75 rfl (by decide) (by decide) ?_
        refine a_goto (tgt := 7) hB dX10_slightestNow_78 (by decide) ?_
        first | (have e9 := slM_y (P := ZP z sf) (i := i) (Or.inl c34)) | (have e9 := slM_y (P := ZP z sf) (i := i) (Or.inr c41)) | (have e9 := slM_n (P := ZP z sf) (i := i) c34 c41)
        exact aW_at [0, 1, 2, 3] (by rw [e9]; rfl) rfl rfl (ih7 (i + 1) (cnF (wq z) (nI i) wy (z 0)) (by omega))
      · refine a_dload hB dX10_slightestNow_37 rfl ?_
        refine a_dload_n hB dX10_slightestNow_39 rfl ?_
        refine a_dcmp hB dX10_slightestNow_40 ?_
        refine a_if_le (tgt := 48) hB dX10_slightestNow_41 (by decide) (fun c41 => ?_) (fun c41 => ?_)
        · refine a_iconstN (v := 0) hB dX10_slightestNow_48 (by decide) ?_
          refine a_istore hB dX10_slightestNow_49 (by decide) ?_
          refine a_iload hB dX10_slightestNow_51 rfl ?_
          refine a_if_eqN_t (tgt := 61) hB dX10_slightestNow_53 (by decide) (by omega) (by omega) ?_
          refine a_iload_n hB dX10_slightestNow_61 rfl ?_
          refine a_istore_n hB dX10_slightestNow_62 (by decide) ?_
          refine a_iload hB dX10_slightestNow_63 rfl ?_
          refine a_if_eqN_t (tgt := 73) hB dX10_slightestNow_65 (by decide) (by omega) (by omega) ?_
          refine a_dload_n hB dX10_slightestNow_73 rfl ?_
          refine a_dstore_n hB dX10_slightestNow_74 (by decide) ?_
          refine a_iincN (b := 1) hB dX10_slightestNow_75 rfl (by decide) (by decide) ?_
          refine a_goto (tgt := 7) hB dX10_slightestNow_78 (by decide) ?_
          first | (have e9 := slM_y (P := ZP z sf) (i := i) (Or.inl c34)) | (have e9 := slM_y (P := ZP z sf) (i := i) (Or.inr c41)) | (have e9 := slM_n (P := ZP z sf) (i := i) c34 c41)
          exact aW_at [0, 1, 2, 3] (by rw [e9]; rfl) rfl rfl (ih7 (i + 1) (cnF (wq z) (nI i) wy (z 0)) (by omega))
        · refine a_iconstN (v := 1) hB dX10_slightestNow_44 (by decide) ?_
          refine a_goto (tgt := 49) hB dX10_slightestNow_45 (by decide) ?_
          refine a_istore hB dX10_slightestNow_49 (by decide) ?_
          refine a_iload hB dX10_slightestNow_51 rfl ?_
          refine a_if_eqN_f (tgt := 61) hB dX10_slightestNow_53 (by decide) (by omega) (by omega) ?_
          refine a_iload hB dX10_slightestNow_56 rfl ?_
          refine a_goto (tgt := 62) hB dX10_slightestNow_58 (by decide) ?_
          refine a_istore_n hB dX10_slightestNow_62 (by decide) ?_
          refine a_iload hB dX10_slightestNow_63 rfl ?_
          refine a_if_eqN_f (tgt := 73) hB dX10_slightestNow_65 (by decide) (by omega) (by omega) ?_
          refine a_dload hB dX10_slightestNow_68 rfl ?_
          refine a_goto (tgt := 74) hB dX10_slightestNow_70 (by decide) ?_
          refine a_dstore_n hB dX10_slightestNow_74 (by decide) ?_
          refine a_iincN (b := 1) hB dX10_slightestNow_75 rfl (by decide) (by decide) ?_
          refine a_goto (tgt := 7) hB dX10_slightestNow_78 (by decide) ?_
          first | (have e9 := slM_y (P := ZP z sf) (i := i) (Or.inl c34)) | (have e9 := slM_y (P := ZP z sf) (i := i) (Or.inr c41)) | (have e9 := slM_n (P := ZP z sf) (i := i) c34 c41)
          exact aW_at [0, 1, 2, 3] (by rw [e9]; rfl) rfl rfl (ih7 (i + 1) (cnF (wq z) (nI i) wy (z 0)) (by omega))
  exact aW_at [0, 1, 2, 3] rfl rfl rfl (lp7 (z 0) 0 wy (by omega))
set_option maxHeartbeats 4000000 in
set_option maxRecDepth 100000 in
theorem c_X10_slightest_v {G : GP} {ma z : Nat → Nat} {sf : Nat → UInt64} {st : Nat} {hh : Nat → Nat} {sh : Nat → UInt64} {len : Nat} {tx : Nat → Nat} {th : Nat} {wy mo td : Nat → Nat} {re lo to : Nat} {rw : Nat → Nat} {ha : Int64} (h6 : z 0 ≤ 6) (hw : ∀ p, p < z 0 → ∀ l, l < 6 → gt (wq z) p l < 2 ^ 31) (hl : z 1 ≤ 99) (hoi : ∀ i, i < z 0 → oddOK (cnt (ZP z sf) (nI i)) (z 1)) (h0i : ∀ i, i < z 0 → ¬ wfrom (cnt (ZP z sf) (nI i)) 0 = 0) (hS : (slM (ZP z sf) (z 0)).1 = vSl (ZP z sf)) : AM G sX10_slightest 0 0 [.ref (ma 0)] (wM G ma z sf st hh sh len tx th wy mo td re lo to rw ha) (fun rv w => rv = some (.int (vSl (ZP z sf))) ∧ ∃ (wy mo rw : Nat → Nat), w = wM G ma z sf st hh sh len tx 0 wy mo td re lo to rw ha) := by
  refine AM.of (σ := sX10_slightest) (by decide +kernel) (by decide +kernel) (Nat.le_of_ble_eq_true rfl) (fun B hB hR hE0 hN => ?_)
  have hE := BE.of hE0
  refine a_aload_n hB dX10_slightest_0 rfl ?_
  refine a_iconstN (v := 0) hB dX10_slightest_1 (by decide) ?_
  refine a_put (T := TX10) (ci := 10) hB dX10_slightest_2 7 fl_X10_39 lay_X10 tyX10 tyX10_ok nmX10 rfl (by decide) rfl rfl 0 rfl rfl rfl rfl (Nat.le_of_ble_eq_true rfl) ?_
  refine a_aload_n hB dX10_slightest_5 rfl ?_
  refine a_callV (q0 := 0) hB (c_X10_slightestNow h6 hw hl hoi h0i hS) mk_X10_slightestNow ml_X10_206 dX10_slightest_6 rfl rfl [0, 1, 2, 3, 4, 5, 6, 7, 8, 9] rfl (by decide) rfl rfl (fit_of hR (by decide)) (Nat.le_of_ble_eq_true rfl) (fun v6 w6 hq6 hk6 => ?_)
  obtain ⟨rfl, wy, mo, rw, rfl⟩ := hq6
  refine aW_w (ws' := wM G ma z sf st hh sh len tx 0 wy mo td re lo to rw ha) (wput_all rfl rfl) ?_
  exact a_iret hB hE rfl dX10_slightest_9 (Nat.le_of_ble_eq_true rfl) (Nat.le_of_ble_eq_true rfl) (AKeep.of rfl) ⟨rfl, _, _, _, rfl⟩
