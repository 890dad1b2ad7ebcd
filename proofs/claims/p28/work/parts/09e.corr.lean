abbrev wC (G : GP) (k a : Nat) (g : Nat → UInt64) : va_W := [(k, ob 0 [.ref a]), (a, aD G 31 g)]
def rd (g : Nat → UInt64) (s l : Nat) : UInt64 := if l ≤ s then g (s - l) else FP.dconst0
/-- the greater one, the first where dcmpl doesn't tell the second as greater -/
def dmx (x y : UInt64) : UInt64 := if Op.cmpValue (FP.dcmp y x) .l ≤ 0 then x else y
def mxD (f : Nat → UInt64) : Nat → UInt64
  | 0 => FP.dconst0
  | n + 1 => dmx (mxD f n) (f n)
def caS (P : PV) (p : Nat) (g : Nat → UInt64) (s : Nat) : UInt64 := mxD (fun l => P.cor (rd g s l) p l) 6
def caI (P : PV) (p : Nat) (g : Nat → UInt64) (i j : Nat) : UInt64 := if j < i ∨ 31 ≤ j then g j else caS P p g j
def caP (P : PV) (p : Nat) (g : Nat → UInt64) : Nat → UInt64 := caI P p g 0
def oneD (f : Nat → UInt64) (i j : Nat) : UInt64 := if j < i then (if j = 0 then FP.dconst1 else FP.dconst0) else f j
def cfF (P : PV) (g : Nat → UInt64) : Nat → Nat → UInt64
  | 0 => oneD g 31
  | p + 1 => caP P p (cfF P g p)
set_option maxHeartbeats 4000000 in
set_option maxRecDepth 100000 in
theorem c_X0_init {G : GP} {k : Nat} : AM G sX0_init 1 31 [.ref k] [(k, ob 0 [.null])] (fun v w => v = none ∧ ∃ a, w = wC G k a (fun _ => FP.dconst0)) := by
  refine AM.of (σ := sX0_init) (by decide +kernel) (by decide +kernel) (Nat.le_of_ble_eq_true rfl) (fun B hB hR hE0 hN => ?_)
  have hE := BE.of hE0
  have hN : B.meth.name = "<init>" := hN
  refine a_aload_n hB dX0_init_0 rfl ?_
  refine a_objInit hB ml_X0_3 dX0_init_1 (roomF hR (Nat.le_of_ble_eq_true rfl)) (room12 hR (Nat.le_of_ble_eq_true rfl)) ?_
  refine a_aload_n hB dX0_init_4 rfl ?_
  refine a_bipushN (v := 31) hB dX0_init_5 (by decide) ?_
  refine a_newD (N := 31) hB dX0_init_7 (nI_pos (by decide)) (nI_clamp (by decide)) (by decide) (roomc hR (Nat.le_of_ble_eq_true rfl)) (rooms hR (Nat.le_of_ble_eq_true rfl)) (fun q1 => ?_)
  refine a_putF (T := TX0) (ci := 0) hB hN dX0_init_9 0 fl_X0_9 lay_X0 tyX0 tyX0_ok nmX0 rfl (by decide) rfl rfl rfl 0 rfl rfl rfl rfl (Nat.le_of_ble_eq_true rfl) ?_
  exact a_vret hB hE rfl dX0_init_12 (Nat.le_of_ble_eq_true rfl) (Nat.le_of_ble_eq_true rfl) (AKeep.of rfl) ⟨rfl, q1, rfl⟩
