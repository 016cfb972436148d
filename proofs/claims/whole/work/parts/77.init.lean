/-! what the constructors lay -/
def gearF (E : Nat → ClassId) (a : Nat) : Nat → va_E
  | 0 => .inr (0, [.int 0, .int 0, .ref (a + 1)])
  | 1 => .inl (E 4, 3, .inr (.inr (.inr (.inr (fun i => if i < 3 then some (a + 1 + 1 + i) else none)))))
  | _ => .inl (E 0, 31, .inl (fun _ => 0))
def lineF (E : Nat → ClassId) (a : Nat) : Nat → va_E
  | 0 => .inr (1, [.int 0, .int 0, .int 0, .long 0, .long 0, .long 0, .long 0, .ref (a + 1)])
  | _ => .inl (E 0, 12, .inl (fun _ => 0))
/-- a state, i1 of its gears made, i2 of its lines -/
def stG (E : Nat → ClassId) (a i1 i2 j : Nat) : va_E :=
  if j = 0 then .inr (3, [.int 0, .int 0, .ref (a + 1), .ref (a + 2)]) else
  if j = 1 then .inl (E 1, 6, .inr (.inr (.inr (.inr (fun q => if q < i1 then some (a + 3 + 5 * q) else none))))) else
  if j = 2 then .inl (E 2, 10, .inr (.inr (.inr (.inr (fun q => if q < i2 then some (a + 33 + 2 * q) else none))))) else
  if j < 33 then gearF E (a + 3 + 5 * ((j - 3) / 5)) ((j - 3) % 5) else lineF E (a + 33 + 2 * ((j - 33) / 2)) ((j - 33) % 2)
/-- a gauge up to its saved states, i of them made -/
def ggG (E : Nat → ClassId) (a i j : Nat) : va_E :=
  if j = 0 then .inr (5, [.ref (a + 1), .ref (a + 54), .ref (a + 107), .int 0, .null, .null, .null, .null, .null]) else
  if j < 54 then stG E (a + 1) 6 10 (j - 1) else
  if j < 107 then stG E (a + 54) 6 10 (j - 54) else
  if j = 107 then .inl (E 3, 4, .inr (.inr (.inr (.inr (fun q => if q < i then some (a + 108 + 53 * q) else none))))) else
  stG E (a + 108 + 53 * ((j - 108) / 53)) 6 10 ((j - 108) % 53)
def textF (E : Nat → ClassId) (a : Nat) : Nat → va_E
  | 0 => .inr (4, [.ref (a + 1), .int 0, .int 0, .int 0, .ref (a + 2), .int 0, .int 0, .int 0])
  | _ => .inl (E 0, 160, .inl (fun _ => 0))
def meshF (E : Nat → ClassId) (a : Nat) : Nat → va_E
  | 0 => .inr (2, [.int 1, .ref (a + 1), .ref (a + 2), .ref (a + 3), .ref (a + 4)])
  | _ => .inl (E 0, 30, .inl (fun _ => 0))
def modF (E : Nat → ClassId) (a : Nat) : Nat → va_E
  | 0 => .inr (6, [.ref (a + 1), .ref (a + 2), .ref (a + 3), .int 0, .ref (a + 4), .int 0, .int 0, .long 0, .long 0, .long 0, .long 0, .ref (a + 5), .ref (a + 6), .int 0, .int 0, .ref (a + 7), .int 0, .long 0])
  | 1 => .inl (E 0, 722, .inl (fun _ => 0))
  | 2 => .inl (E 0, 2888, .inl (fun _ => 0))
  | 3 => .inl (E 0, 722, .inl (fun _ => 0))
  | 4 => .inl (E 0, 160, .inl (fun _ => 0))
  | 5 => .inl (E 0, 30, .inl (fun _ => 0))
  | 6 => .inl (E 0, 30, .inl (fun _ => 0))
  | _ => .inl (E 0, 80, .inl (fun _ => 0))
/-- the gauge -/
def gaF (E : Nat → ClassId) (a j : Nat) : va_E :=
  if j = 0 then .inr (5, [.ref (a + 1), .ref (a + 54), .ref (a + 107), .int 0, .ref (a + 320), .ref (a + 323), .ref (a + 328), .ref (a + 333), .ref (a + 334)]) else
  if j < 320 then ggG E a 4 j else
  if j < 323 then textF E (a + 320) (j - 320) else
  if j < 328 then meshF E (a + 323) (j - 323) else
  if j < 333 then gearF E (a + 328) (j - 328) else .inl (E 0, 6, .inl (fun _ => 0))
def bl0 : va_E := .inr (0, [.int 0, .int 0, .null])
def bl1 : va_E := .inr (1, [.int 0, .int 0, .int 0, .long 0, .long 0, .long 0, .long 0, .null])
def bl2 : va_E := .inr (2, [.int 0, .null, .null, .null, .null])
def bl3 : va_E := .inr (3, [.int 0, .int 0, .null, .null])
def bl4 : va_E := .inr (4, [.null, .int 0, .int 0, .int 0, .null, .int 0, .int 0, .int 0])
def bl5 : va_E := .inr (5, [.null, .null, .null, .int 0, .null, .null, .null, .null, .null])
def bl6 : va_E := .inr (6, [.null, .null, .null, .int 0, .null, .int 0, .int 0, .long 0, .long 0, .long 0, .long 0, .null, .null, .int 0, .int 0, .null, .int 0, .long 0])
def rmI_X0 : Room := { frames := 1, cells := 4, slots := 96, locals := 20 }
def rmI_X1 : Room := { frames := 1, cells := 1, slots := 12, locals := 20 }
def rmI_X2 : Room := { frames := 1, cells := 4, slots := 120, locals := 20 }
def rmI_X3 : Room := { frames := 2, cells := 52, slots := 810, locals := 40 }
def rmI_X4 : Room := { frames := 1, cells := 2, slots := 320, locals := 20 }
def rmI_X5 : Room := { frames := 3, cells := 334, slots := 5452, locals := 61 }
def rmI_X6 : Room := { frames := 1, cells := 7, slots := 4632, locals := 20 }
theorem fc_int {G : Gs} (U : State) (h : St G U) : U.vm.findClass ("[" ++ FieldType.int.toString) = some (G.2.2 0) := (h.1.2 0 _ rfl).2
theorem w_mna : Cond.classLink RX0 9 ("[" ++ (FieldType.array .int).toString) ∈ tG := by
  rw [show "[" ++ (FieldType.array .int).toString = "[[I" from by decide +kernel]
  exact q_39
/-- what is laid behind d by the shape g -/
def lay (f : Nat → va_E) (d : Nat) (g : Nat → va_E) : Nat → va_E := fun j => if j < d then f j else g (j - d)
theorem lay_lt {f g : Nat → va_E} {d j : Nat} (h : j < d) : lay f d g j = f j := if_pos h
theorem lay_ge {f g : Nat → va_E} {d j : Nat} (h : d ≤ j) : lay f d g j = g (j - d) := if_neg (by omega)
theorem lay_at {f g : Nat → va_E} {d c : Nat} : lay f d g (d + c) = g c := by rw [lay_ge (Nat.le_add_right _ _), Nat.add_sub_cancel_left]
theorem lay_at0 {f g : Nat → va_E} {d : Nat} : lay f d g d = g 0 := lay_at (c := 0)
set_option maxRecDepth 100000 in
set_option maxHeartbeats 4000000 in
theorem cI_X0 (l : Launch) (G : Gs) (d : Nat) (f : Nat → va_E) (h0 : f d = bl0) : CtE l G yX0_init cX0_init 1 rmI_X0 [.ref (G.1 + d)] (d + 1) f (d + 5) (lay f d (gearF G.2.2 (G.1 + d))) 4 96 := by
  refine CtE.of (by decide +kernel) rfl (Nat.le_of_ble_eq_true rfl) [(0, .ref (G.1 + d))] rfl ?_
  intro X B hin
  refine e_aload_n B 0 dX0_init_0 rfl ?_
  refine e_obj B q_38 q_22 q_23 rfl ⟨Nat.le_of_ble_eq_true rfl, Nat.le_of_ble_eq_true rfl⟩ dX0_init_1 ?_
  refine e_aload_n B 0 dX0_init_4 rfl ?_
  refine e_iconst B dX0_init_5 ?_
  refine e_bipush B (z := 31) dX0_init_6 (by decide) ?_
  refine e_mna B w_mna q_56 ⟨Nat.le_of_ble_eq_true rfl, Nat.le_of_ble_eq_true rfl⟩ dX0_init_8 ?_
  refine e_putF B hin (ci := 0) (a := d) tyX0 rfl 2 (by decide) inG0 tyX0_ok nmX0 rfl rfl rfl (tyX0_ok 2 (by decide)) rfl rfl (by omega) (by rw [upE_ne (by omega), upE_ne (by omega), upE_ne (by omega), upE_ne (by omega)]; exact h0) (Nat.le_of_ble_eq_true rfl) q_46 dX0_init_12 ?_
  refine e_vret B (fun j hj => ?_) dX0_init_15
  by_cases w : j < d
  · rw [lay_lt w, upE_ne (by omega), upE_ne (by omega), upE_ne (by omega), upE_ne (by omega), upE_ne (by omega)]
  · have h5 : j = d ∨ j = d + 1 ∨ j = d + 1 + 1 ∨ j = d + 1 + 2 ∨ j = d + 1 + 3 := by omega
    rcases h5 with rfl | rfl | rfl | rfl | rfl
    · rw [upE_eq, lay_at0]; rfl
    · rw [upE_ne (by omega), upE_ne (by omega), upE_ne (by omega), upE_ne (by omega), upE_eq]; exact lay_at (c := 1)
    · rw [upE_ne (by omega), upE_ne (by omega), upE_ne (by omega), upE_eq]; exact lay_at (c := 2)
    · rw [upE_ne (by omega), upE_ne (by omega), upE_eq]; exact lay_at (c := 3)
    · rw [upE_ne (by omega), upE_eq]; exact lay_at (c := 4)
set_option maxRecDepth 100000 in
set_option maxHeartbeats 4000000 in
theorem cI_X1 (l : Launch) (G : Gs) (d : Nat) (f : Nat → va_E) (h0 : f d = bl1) : CtE l G yX1_init cX1_init 1 rmI_X1 [.ref (G.1 + d)] (d + 1) f (d + 2) (lay f d (lineF G.2.2 (G.1 + d))) 1 12 := by
  refine CtE.of (by decide +kernel) rfl (Nat.le_of_ble_eq_true rfl) [(0, .ref (G.1 + d))] rfl ?_
  intro X B hin
  refine e_aload_n B 0 dX1_init_0 rfl ?_
  refine e_obj B q_61 q_22 q_23 rfl ⟨Nat.le_of_ble_eq_true rfl, Nat.le_of_ble_eq_true rfl⟩ dX1_init_1 ?_
  refine e_aload_n B 0 dX1_init_4 rfl ?_
  refine e_bipush B (z := 12) dX1_init_5 (by decide) ?_
  refine e_newa B (z := 12) (N' := 12) (atype := .int) (cA := G.2.2 0) (a0 := (12, .inl (fun _ => 0))) rfl fc_int q_56 (vp_cell_i _ _ _) ⟨by omega, by omega⟩ rfl (Nat.le_of_ble_eq_true rfl) ⟨Nat.le_of_ble_eq_true rfl, Nat.le_of_ble_eq_true rfl⟩ dX1_init_7 ?_
  refine e_putF B hin (ci := 1) (a := d) tyX1 rfl 7 (by decide) inG1 tyX1_ok nmX1 rfl rfl rfl (tyX1_ok 7 (by decide)) rfl rfl (by omega) (by rw [upE_ne (by omega)]; exact h0) (Nat.le_of_ble_eq_true rfl) q_74 dX1_init_9 ?_
  refine e_vret B (fun j hj => ?_) dX1_init_12
  by_cases w : j < d
  · rw [lay_lt w, upE_ne (by omega), upE_ne (by omega)]
  · have h5 : j = d ∨ j = d + 1 := by omega
    rcases h5 with rfl | rfl
    · rw [upE_eq, lay_at0]; rfl
    · rw [upE_ne (by omega), upE_eq]; exact lay_at (c := 1)
set_option maxRecDepth 100000 in
set_option maxHeartbeats 4000000 in
theorem cI_X4 (l : Launch) (G : Gs) (d : Nat) (f : Nat → va_E) (h0 : f d = bl4) : CtE l G yX4_init cX4_init 1 rmI_X4 [.ref (G.1 + d)] (d + 1) f (d + 3) (lay f d (textF G.2.2 (G.1 + d))) 2 320 := by
  refine CtE.of (by decide +kernel) rfl (Nat.le_of_ble_eq_true rfl) [(0, .ref (G.1 + d))] rfl ?_
  intro X B hin
  refine e_aload_n B 0 dX4_init_0 rfl ?_
  refine e_obj B q_116 q_22 q_23 rfl ⟨Nat.le_of_ble_eq_true rfl, Nat.le_of_ble_eq_true rfl⟩ dX4_init_1 ?_
  refine e_aload_n B 0 dX4_init_4 rfl ?_
  refine e_sipush B (z := 160) dX4_init_5 (by decide) ?_
  refine e_newa B (z := 160) (N' := 160) (atype := .int) (cA := G.2.2 0) (a0 := (160, .inl (fun _ => 0))) rfl fc_int q_56 (vp_cell_i _ _ _) ⟨by omega, by omega⟩ rfl (Nat.le_of_ble_eq_true rfl) ⟨Nat.le_of_ble_eq_true rfl, Nat.le_of_ble_eq_true rfl⟩ dX4_init_8 ?_
  refine e_putF B hin (ci := 4) (a := d) tyX4 rfl 0 (by decide) inG4 tyX4_ok nmX4 rfl rfl rfl (tyX4_ok 0 (by decide)) rfl rfl (by omega) (by rw [upE_ne (by omega)]; exact h0) (Nat.le_of_ble_eq_true rfl) q_117 dX4_init_10 ?_
  refine e_aload_n B 0 dX4_init_13 rfl ?_
  refine e_sipush B (z := 160) dX4_init_14 (by decide) ?_
  refine e_newa B (z := 160) (N' := 160) (atype := .int) (cA := G.2.2 0) (a0 := (160, .inl (fun _ => 0))) rfl fc_int q_56 (vp_cell_i _ _ _) ⟨by omega, by omega⟩ rfl (Nat.le_of_ble_eq_true rfl) ⟨Nat.le_of_ble_eq_true rfl, Nat.le_of_ble_eq_true rfl⟩ dX4_init_17 ?_
  refine e_putF B hin (ci := 4) (a := d) tyX4 rfl 4 (by decide) inG4 tyX4_ok nmX4 rfl rfl rfl (tyX4_ok 4 (by decide)) rfl rfl (by omega) (by rw [upE_ne (by omega), upE_eq] <;> rfl) (Nat.le_of_ble_eq_true rfl) q_125 dX4_init_19 ?_
  refine e_vret B (fun j hj => ?_) dX4_init_22
  by_cases w : j < d
  · rw [lay_lt w, upE_ne (by omega), upE_ne (by omega), upE_ne (by omega), upE_ne (by omega)]
  · have h5 : j = d ∨ j = d + 1 ∨ j = d + 1 + 1 := by omega
    rcases h5 with rfl | rfl | rfl
    · rw [upE_eq, lay_at0]; rfl
    · rw [upE_ne (by omega), upE_ne (by omega), upE_ne (by omega), upE_eq]; exact lay_at (c := 1)
    · rw [upE_ne (by omega), upE_eq]; exact lay_at (c := 2)
set_option maxRecDepth 100000 in
set_option maxHeartbeats 4000000 in
theorem cI_X2 (l : Launch) (G : Gs) (d : Nat) (f : Nat → va_E) (h0 : f d = bl2) : CtE l G yX2_init cX2_init 1 rmI_X2 [.ref (G.1 + d)] (d + 1) f (d + 5) (lay f d (meshF G.2.2 (G.1 + d))) 4 120 := by
  refine CtE.of (by decide +kernel) rfl (Nat.le_of_ble_eq_true rfl) [(0, .ref (G.1 + d))] rfl ?_
  intro X B hin
  refine e_aload_n B 0 dX2_init_0 rfl ?_
  refine e_obj B q_152 q_22 q_23 rfl ⟨Nat.le_of_ble_eq_true rfl, Nat.le_of_ble_eq_true rfl⟩ dX2_init_1 ?_
  refine e_aload_n B 0 dX2_init_4 rfl ?_
  refine e_iconst B dX2_init_5 ?_
  refine e_put B (ci := 2) (a := d) tyX2 rfl 0 (by decide) inG2 tyX2_ok nmX2 rfl rfl (tyX2_ok 0 (by decide)) rfl rfl (by omega) (by exact h0) (Nat.le_of_ble_eq_true rfl) q_153 dX2_init_6 ?_
  refine e_aload_n B 0 dX2_init_9 rfl ?_
  refine e_bipush B (z := 30) dX2_init_10 (by decide) ?_
  refine e_newa B (z := 30) (N' := 30) (atype := .int) (cA := G.2.2 0) (a0 := (30, .inl (fun _ => 0))) rfl fc_int q_56 (vp_cell_i _ _ _) ⟨by omega, by omega⟩ rfl (Nat.le_of_ble_eq_true rfl) ⟨Nat.le_of_ble_eq_true rfl, Nat.le_of_ble_eq_true rfl⟩ dX2_init_12 ?_
  refine e_putF B hin (ci := 2) (a := d) tyX2 rfl 1 (by decide) inG2 tyX2_ok nmX2 rfl rfl rfl (tyX2_ok 1 (by decide)) rfl rfl (by omega) (by rw [upE_ne (by omega), upE_eq] <;> rfl) (Nat.le_of_ble_eq_true rfl) q_154 dX2_init_14 ?_
  refine e_aload_n B 0 dX2_init_17 rfl ?_
  refine e_bipush B (z := 30) dX2_init_18 (by decide) ?_
  refine e_newa B (z := 30) (N' := 30) (atype := .int) (cA := G.2.2 0) (a0 := (30, .inl (fun _ => 0))) rfl fc_int q_56 (vp_cell_i _ _ _) ⟨by omega, by omega⟩ rfl (Nat.le_of_ble_eq_true rfl) ⟨Nat.le_of_ble_eq_true rfl, Nat.le_of_ble_eq_true rfl⟩ dX2_init_20 ?_
  refine e_putF B hin (ci := 2) (a := d) tyX2 rfl 2 (by decide) inG2 tyX2_ok nmX2 rfl rfl rfl (tyX2_ok 2 (by decide)) rfl rfl (by omega) (by rw [upE_ne (by omega), upE_eq] <;> rfl) (Nat.le_of_ble_eq_true rfl) q_155 dX2_init_22 ?_
  refine e_aload_n B 0 dX2_init_25 rfl ?_
  refine e_bipush B (z := 30) dX2_init_26 (by decide) ?_
  refine e_newa B (z := 30) (N' := 30) (atype := .int) (cA := G.2.2 0) (a0 := (30, .inl (fun _ => 0))) rfl fc_int q_56 (vp_cell_i _ _ _) ⟨by omega, by omega⟩ rfl (Nat.le_of_ble_eq_true rfl) ⟨Nat.le_of_ble_eq_true rfl, Nat.le_of_ble_eq_true rfl⟩ dX2_init_28 ?_
  refine e_putF B hin (ci := 2) (a := d) tyX2 rfl 3 (by decide) inG2 tyX2_ok nmX2 rfl rfl rfl (tyX2_ok 3 (by decide)) rfl rfl (by omega) (by rw [upE_ne (by omega), upE_eq] <;> rfl) (Nat.le_of_ble_eq_true rfl) q_156 dX2_init_30 ?_
  refine e_aload_n B 0 dX2_init_33 rfl ?_
  refine e_bipush B (z := 30) dX2_init_34 (by decide) ?_
  refine e_newa B (z := 30) (N' := 30) (atype := .int) (cA := G.2.2 0) (a0 := (30, .inl (fun _ => 0))) rfl fc_int q_56 (vp_cell_i _ _ _) ⟨by omega, by omega⟩ rfl (Nat.le_of_ble_eq_true rfl) ⟨Nat.le_of_ble_eq_true rfl, Nat.le_of_ble_eq_true rfl⟩ dX2_init_36 ?_
  refine e_putF B hin (ci := 2) (a := d) tyX2 rfl 4 (by decide) inG2 tyX2_ok nmX2 rfl rfl rfl (tyX2_ok 4 (by decide)) rfl rfl (by omega) (by rw [upE_ne (by omega), upE_eq] <;> rfl) (Nat.le_of_ble_eq_true rfl) q_157 dX2_init_38 ?_
  refine e_vret B (fun j hj => ?_) dX2_init_41
  by_cases w : j < d
  · rw [lay_lt w, upE_ne (by omega), upE_ne (by omega), upE_ne (by omega), upE_ne (by omega), upE_ne (by omega), upE_ne (by omega), upE_ne (by omega), upE_ne (by omega), upE_ne (by omega)]
  · have h5 : j = d ∨ j = d + 1 ∨ j = d + 1 + 1 ∨ j = d + 1 + 1 + 1 ∨ j = d + 1 + 1 + 1 + 1 := by omega
    rcases h5 with rfl | rfl | rfl | rfl | rfl
    · rw [upE_eq, lay_at0]; rfl
    · rw [upE_ne (by omega), upE_ne (by omega), upE_ne (by omega), upE_ne (by omega), upE_ne (by omega), upE_ne (by omega), upE_ne (by omega), upE_eq]; exact lay_at (c := 1)
    · rw [upE_ne (by omega), upE_ne (by omega), upE_ne (by omega), upE_ne (by omega), upE_ne (by omega), upE_eq]; exact lay_at (c := 2)
    · rw [upE_ne (by omega), upE_ne (by omega), upE_ne (by omega), upE_eq]; exact lay_at (c := 3)
    · rw [upE_ne (by omega), upE_eq]; exact lay_at (c := 4)
set_option maxRecDepth 100000 in
set_option maxHeartbeats 4000000 in
theorem cI_X6 (l : Launch) (G : Gs) (d : Nat) (f : Nat → va_E) (h0 : f d = bl6) : CtE l G yX6_init cX6_init 1 rmI_X6 [.ref (G.1 + d)] (d + 1) f (d + 8) (lay f d (modF G.2.2 (G.1 + d))) 7 4632 := by
  refine CtE.of (by decide +kernel) rfl (Nat.le_of_ble_eq_true rfl) [(0, .ref (G.1 + d))] rfl ?_
  intro X B hin
  refine e_aload_n B 0 dX6_init_0 rfl ?_
  refine e_obj B q_891 q_22 q_23 rfl ⟨Nat.le_of_ble_eq_true rfl, Nat.le_of_ble_eq_true rfl⟩ dX6_init_1 ?_
  refine e_aload_n B 0 dX6_init_4 rfl ?_
  refine e_sipush B (z := 722) dX6_init_5 (by decide) ?_
  refine e_newa B (z := 722) (N' := 722) (atype := .int) (cA := G.2.2 0) (a0 := (722, .inl (fun _ => 0))) rfl fc_int q_56 (vp_cell_i _ _ _) ⟨by omega, by omega⟩ rfl (Nat.le_of_ble_eq_true rfl) ⟨Nat.le_of_ble_eq_true rfl, Nat.le_of_ble_eq_true rfl⟩ dX6_init_8 ?_
  refine e_putF B hin (ci := 6) (a := d) tyX6 rfl 0 (by decide) inG6 tyX6_ok nmX6 rfl rfl rfl (tyX6_ok 0 (by decide)) rfl rfl (by omega) (by rw [upE_ne (by omega)]; exact h0) (Nat.le_of_ble_eq_true rfl) q_892 dX6_init_10 ?_
  refine e_aload_n B 0 dX6_init_13 rfl ?_
  refine e_sipush B (z := 2888) dX6_init_14 (by decide) ?_
  refine e_newa B (z := 2888) (N' := 2888) (atype := .int) (cA := G.2.2 0) (a0 := (2888, .inl (fun _ => 0))) rfl fc_int q_56 (vp_cell_i _ _ _) ⟨by omega, by omega⟩ rfl (Nat.le_of_ble_eq_true rfl) ⟨Nat.le_of_ble_eq_true rfl, Nat.le_of_ble_eq_true rfl⟩ dX6_init_17 ?_
  refine e_putF B hin (ci := 6) (a := d) tyX6 rfl 1 (by decide) inG6 tyX6_ok nmX6 rfl rfl rfl (tyX6_ok 1 (by decide)) rfl rfl (by omega) (by rw [upE_ne (by omega), upE_eq] <;> rfl) (Nat.le_of_ble_eq_true rfl) q_893 dX6_init_19 ?_
  refine e_aload_n B 0 dX6_init_22 rfl ?_
  refine e_sipush B (z := 722) dX6_init_23 (by decide) ?_
  refine e_newa B (z := 722) (N' := 722) (atype := .int) (cA := G.2.2 0) (a0 := (722, .inl (fun _ => 0))) rfl fc_int q_56 (vp_cell_i _ _ _) ⟨by omega, by omega⟩ rfl (Nat.le_of_ble_eq_true rfl) ⟨Nat.le_of_ble_eq_true rfl, Nat.le_of_ble_eq_true rfl⟩ dX6_init_26 ?_
  refine e_putF B hin (ci := 6) (a := d) tyX6 rfl 2 (by decide) inG6 tyX6_ok nmX6 rfl rfl rfl (tyX6_ok 2 (by decide)) rfl rfl (by omega) (by rw [upE_ne (by omega), upE_eq] <;> rfl) (Nat.le_of_ble_eq_true rfl) q_894 dX6_init_28 ?_
  refine e_aload_n B 0 dX6_init_31 rfl ?_
  refine e_sipush B (z := 160) dX6_init_32 (by decide) ?_
  refine e_newa B (z := 160) (N' := 160) (atype := .int) (cA := G.2.2 0) (a0 := (160, .inl (fun _ => 0))) rfl fc_int q_56 (vp_cell_i _ _ _) ⟨by omega, by omega⟩ rfl (Nat.le_of_ble_eq_true rfl) ⟨Nat.le_of_ble_eq_true rfl, Nat.le_of_ble_eq_true rfl⟩ dX6_init_35 ?_
  refine e_putF B hin (ci := 6) (a := d) tyX6 rfl 4 (by decide) inG6 tyX6_ok nmX6 rfl rfl rfl (tyX6_ok 4 (by decide)) rfl rfl (by omega) (by rw [upE_ne (by omega), upE_eq] <;> rfl) (Nat.le_of_ble_eq_true rfl) q_896 dX6_init_37 ?_
  refine e_aload_n B 0 dX6_init_40 rfl ?_
  refine e_bipush B (z := 30) dX6_init_41 (by decide) ?_
  refine e_newa B (z := 30) (N' := 30) (atype := .int) (cA := G.2.2 0) (a0 := (30, .inl (fun _ => 0))) rfl fc_int q_56 (vp_cell_i _ _ _) ⟨by omega, by omega⟩ rfl (Nat.le_of_ble_eq_true rfl) ⟨Nat.le_of_ble_eq_true rfl, Nat.le_of_ble_eq_true rfl⟩ dX6_init_43 ?_
  refine e_putF B hin (ci := 6) (a := d) tyX6 rfl 11 (by decide) inG6 tyX6_ok nmX6 rfl rfl rfl (tyX6_ok 11 (by decide)) rfl rfl (by omega) (by rw [upE_ne (by omega), upE_eq] <;> rfl) (Nat.le_of_ble_eq_true rfl) q_903 dX6_init_45 ?_
  refine e_aload_n B 0 dX6_init_48 rfl ?_
  refine e_bipush B (z := 30) dX6_init_49 (by decide) ?_
  refine e_newa B (z := 30) (N' := 30) (atype := .int) (cA := G.2.2 0) (a0 := (30, .inl (fun _ => 0))) rfl fc_int q_56 (vp_cell_i _ _ _) ⟨by omega, by omega⟩ rfl (Nat.le_of_ble_eq_true rfl) ⟨Nat.le_of_ble_eq_true rfl, Nat.le_of_ble_eq_true rfl⟩ dX6_init_51 ?_
  refine e_putF B hin (ci := 6) (a := d) tyX6 rfl 12 (by decide) inG6 tyX6_ok nmX6 rfl rfl rfl (tyX6_ok 12 (by decide)) rfl rfl (by omega) (by rw [upE_ne (by omega), upE_eq] <;> rfl) (Nat.le_of_ble_eq_true rfl) q_904 dX6_init_53 ?_
  refine e_aload_n B 0 dX6_init_56 rfl ?_
  refine e_bipush B (z := 80) dX6_init_57 (by decide) ?_
  refine e_newa B (z := 80) (N' := 80) (atype := .int) (cA := G.2.2 0) (a0 := (80, .inl (fun _ => 0))) rfl fc_int q_56 (vp_cell_i _ _ _) ⟨by omega, by omega⟩ rfl (Nat.le_of_ble_eq_true rfl) ⟨Nat.le_of_ble_eq_true rfl, Nat.le_of_ble_eq_true rfl⟩ dX6_init_59 ?_
  refine e_putF B hin (ci := 6) (a := d) tyX6 rfl 15 (by decide) inG6 tyX6_ok nmX6 rfl rfl rfl (tyX6_ok 15 (by decide)) rfl rfl (by omega) (by rw [upE_ne (by omega), upE_eq] <;> rfl) (Nat.le_of_ble_eq_true rfl) q_907 dX6_init_61 ?_
  refine e_aload_n B 0 dX6_init_64 rfl ?_
  refine e_iconst B dX6_init_65 ?_
  refine e_put B (ci := 6) (a := d) tyX6 rfl 5 (by decide) inG6 tyX6_ok nmX6 rfl rfl (tyX6_ok 5 (by decide)) rfl rfl (by omega) (by rw [upE_eq] <;> rfl) (Nat.le_of_ble_eq_true rfl) q_897 dX6_init_66 ?_
  refine e_vret B (fun j hj => ?_) dX6_init_69
  by_cases w : j < d
  · rw [lay_lt w, upE_ne (by omega), upE_ne (by omega), upE_ne (by omega), upE_ne (by omega), upE_ne (by omega), upE_ne (by omega), upE_ne (by omega), upE_ne (by omega), upE_ne (by omega), upE_ne (by omega), upE_ne (by omega), upE_ne (by omega), upE_ne (by omega), upE_ne (by omega), upE_ne (by omega)]
  · have h5 : j = d ∨ j = d + 1 ∨ j = d + 1 + 1 ∨ j = d + 1 + 1 + 1 ∨ j = d + 1 + 1 + 1 + 1 ∨ j = d + 1 + 1 + 1 + 1 + 1 ∨ j = d + 1 + 1 + 1 + 1 + 1 + 1 ∨ j = d + 1 + 1 + 1 + 1 + 1 + 1 + 1 := by omega
    rcases h5 with rfl | rfl | rfl | rfl | rfl | rfl | rfl | rfl
    · rw [upE_eq, lay_at0]; rfl
    · rw [upE_ne (by omega), upE_ne (by omega), upE_ne (by omega), upE_ne (by omega), upE_ne (by omega), upE_ne (by omega), upE_ne (by omega), upE_ne (by omega), upE_ne (by omega), upE_ne (by omega), upE_ne (by omega), upE_ne (by omega), upE_ne (by omega), upE_ne (by omega), upE_eq]; exact lay_at (c := 1)
    · rw [upE_ne (by omega), upE_ne (by omega), upE_ne (by omega), upE_ne (by omega), upE_ne (by omega), upE_ne (by omega), upE_ne (by omega), upE_ne (by omega), upE_ne (by omega), upE_ne (by omega), upE_ne (by omega), upE_ne (by omega), upE_eq]; exact lay_at (c := 2)
    · rw [upE_ne (by omega), upE_ne (by omega), upE_ne (by omega), upE_ne (by omega), upE_ne (by omega), upE_ne (by omega), upE_ne (by omega), upE_ne (by omega), upE_ne (by omega), upE_ne (by omega), upE_eq]; exact lay_at (c := 3)
    · rw [upE_ne (by omega), upE_ne (by omega), upE_ne (by omega), upE_ne (by omega), upE_ne (by omega), upE_ne (by omega), upE_ne (by omega), upE_ne (by omega), upE_eq]; exact lay_at (c := 4)
    · rw [upE_ne (by omega), upE_ne (by omega), upE_ne (by omega), upE_ne (by omega), upE_ne (by omega), upE_ne (by omega), upE_eq]; exact lay_at (c := 5)
    · rw [upE_ne (by omega), upE_ne (by omega), upE_ne (by omega), upE_ne (by omega), upE_eq]; exact lay_at (c := 6)
    · rw [upE_ne (by omega), upE_ne (by omega), upE_eq]; exact lay_at (c := 7)
theorem upR {i q : Nat} {b : Nat → Nat} {z : Nat} (h : z = b i) : (if q < i + 1 then some (b q) else none) = va_up (fun q => if q < i then some (b q) else none) (i : Int).toNat (some z) q := by
  unfold va_up
  rw [Int.toNat_natCast]
  by_cases e : q = i
  · subst e
    simp [h]
  · by_cases w : q < i
    · simp [e, w, Nat.lt_succ_of_lt w]
    · simp [e, w, show ¬ q < i + 1 by omega]
set_option maxRecDepth 100000 in
set_option maxHeartbeats 4000000 in
theorem cI_X3 (l : Launch) (G : Gs) (d : Nat) (f : Nat → va_E) (h0 : f d = bl3) : CtE l G yX3_init cX3_init 2 rmI_X3 [.ref (G.1 + d)] (d + 1) f (d + 53) (lay f d (stG G.2.2 (G.1 + d) 6 10)) 52 810 := by
  refine CtE.of (by decide +kernel) rfl (Nat.le_of_ble_eq_true rfl) [(0, .ref (G.1 + d))] rfl ?_
  intro X B hin
  refine e_aload_n B 0 dX3_init_0 rfl ?_
  refine e_obj B q_29 q_22 q_23 rfl ⟨Nat.le_of_ble_eq_true rfl, Nat.le_of_ble_eq_true rfl⟩ dX3_init_1 ?_
  refine e_aload_n B 0 dX3_init_4 rfl ?_
  refine e_bipush B (z := 6) dX3_init_5 (by decide) ?_
  refine e_newq B (C := RX0) (t0 := 1) (N' := 6) (z := 6) rfl B.2.1.1 q_30 ⟨by omega, by omega⟩ rfl (Nat.le_of_ble_eq_true rfl) ⟨Nat.le_of_ble_eq_true rfl, Nat.le_of_ble_eq_true rfl⟩ dX3_init_7 ?_
  refine e_putF B hin (ci := 3) (a := d) tyX3 rfl 2 (by decide) inG3 tyX3_ok nmX3 rfl rfl rfl (tyX3_ok 2 (by decide)) rfl rfl (by omega) (by rw [upE_ne (by omega)]; exact h0) (Nat.le_of_ble_eq_true rfl) q_97 dX3_init_10 ?_
  refine e_aload_n B 0 dX3_init_13 rfl ?_
  refine e_bipush B (z := 10) dX3_init_14 (by decide) ?_
  refine e_newq B (C := RX1) (t0 := 2) (N' := 10) (z := 10) rfl B.2.1.2.1 q_32 ⟨by omega, by omega⟩ rfl (Nat.le_of_ble_eq_true rfl) ⟨Nat.le_of_ble_eq_true rfl, Nat.le_of_ble_eq_true rfl⟩ dX3_init_16 ?_
  refine e_putF B hin (ci := 3) (a := d) tyX3 rfl 3 (by decide) inG3 tyX3_ok nmX3 rfl rfl rfl (tyX3_ok 3 (by decide)) rfl rfl (by omega) (by rw [upE_ne (by omega), upE_eq] <;> rfl) (Nat.le_of_ble_eq_true rfl) q_99 dX3_init_19 ?_
  have hB : ∀ r i : Nat, i + r = 10 → WE G X (32 + 2 * i) (610 + 20 * i) (bM X (QE G (d + 53) (lay f d (stG G.2.2 (G.1 + d) 6 10))) 52 810 G) (d + 33 + 2 * i) (lay f d (stG G.2.2 (G.1 + d) 6 i)) 51 [(1, .int (iI (i : Int))), (0, .ref (G.1 + d))] [] := by
    intro r
    induction r with
    | zero =>
      intro i hi
      have e : i = 10 := by omega
      subst e
      refine e_iload_n B 0 dX3_init_51 rfl ?_
      refine e_bipush B (z := 10) dX3_init_52 (by decide) ?_
      refine e_icmp_ge B dX3_init_54 rfl ⟨by omega, by omega⟩ ⟨by omega, by omega⟩ (fun h => ?_) (fun h => by omega)
      exact e_vret B (fun j hj => rfl) dX3_init_76
    | succ r ih =>
      intro i hi
      refine e_iload_n B 0 dX3_init_51 rfl ?_
      refine e_bipush B (z := 10) dX3_init_52 (by decide) ?_
      refine e_icmp_ge B dX3_init_54 rfl ⟨by omega, by omega⟩ ⟨by omega, by omega⟩ (fun h => by omega) (fun h => ?_)
      refine e_aload_n B 1 dX3_init_57 rfl ?_
      refine e_get B (ci := 3) (a := d) rfl 3 (by decide) inG3 rfl (by omega) lay_at0 rfl q_99 dX3_init_58 ?_
      refine e_iload_n B 0 dX3_init_61 rfl ?_
      refine e_new B (ci := 1) tyX1 rfl inG1 tyX1_ok (fs := [.int 0, .int 0, .int 0, .long 0, .long 0, .long 0, .long 0, .null]) (by decide +kernel) q_32 q_57 q_4 ⟨by rw [show rmI_X3.cells = 52 from rfl]; omega, by rw [show rmI_X3.slots = 810 from rfl]; omega⟩ dX3_init_62 ?_
      refine e_dup B dX3_init_65 rfl ?_
      refine e_IN B (host := "GearGauge") (cI_X1 l G (d + 33 + 2 * i) _ (by rw [upE_eq] <;> rfl)) ⟨rfl, rfl⟩ ok_X1_init rfl q_59 (by decide +kernel) ⟨Nat.le_of_ble_eq_true rfl, Nat.le_of_ble_eq_true rfl, Nat.le_of_ble_eq_true rfl⟩ ⟨by rw [show rmI_X3.cells = 52 from rfl]; omega, by rw [show rmI_X3.slots = 810 from rfl]; omega⟩ dX3_init_66 ?_
      refine e_aast B (ci := 1) (t0 := 2) (N' := 10) (a := d + 2) (v := d + 33 + 2 * i) (z := (i : Int)) rfl rfl (by omega) (by rw [lay_lt (by omega), upE_ne (by omega)]; exact lay_at (c := 2)) (by omega) lay_at0 ⟨by omega, by omega⟩ (by decide) dX3_init_69 ?_
      refine e_iinc B (lv' := [(1, .int (iI ((i : Int) + 1))), (0, .ref (G.1 + d))]) dX3_init_70 (j := 0) rfl (by decide) rfl ?_
      refine e_goto B dX3_init_73 rfl ?_
      refine WE.congr (f' := lay f d (stG G.2.2 (G.1 + d) 6 (i + 1))) (fun j hj => ?_) (ih (i + 1) (by omega))
      by_cases w0 : j < d
      · rw [lay_lt w0, upE_ne (by omega), lay_lt (by omega), upE_ne (by omega), lay_lt w0]
      · by_cases w2 : j = d + 2
        · subst w2
          rw [upE_eq, lay_at]
          exact congrArg (fun g => (Sum.inl (G.2.2 2, 10, .inr (.inr (.inr (.inr g)))) : va_E)) (funext fun q => upR (b := fun q => G.1 + d + 33 + 2 * q) (z := G.1 + (d + 33 + 2 * i)) (by show G.1 + (d + 33 + 2 * i) = G.1 + d + 33 + 2 * i; omega))
        · rw [upE_ne w2, lay_ge (by omega)]
          by_cases w3 : j < d + 33 + 2 * i
          · rw [lay_lt w3, upE_ne (by omega), lay_ge (by omega)]
            have w4 : j - d ≠ 2 := by omega
            unfold stG
            rw [if_neg w4, if_neg w4]
          · rw [lay_ge (by omega)]
            unfold stG
            rw [if_neg (by omega), if_neg (by omega), if_neg (by omega), if_neg (by omega), show (j - d - 33) / 2 = i by omega, show (j - d - 33) % 2 = j - (d + 33 + 2 * i) by omega, show G.1 + (d + 33 + 2 * i) = G.1 + d + 33 + 2 * i by omega]
  have hA : ∀ r i : Nat, i + r = 6 → WE G X (2 + 5 * i) (16 + 99 * i) (bM X (QE G (d + 53) (lay f d (stG G.2.2 (G.1 + d) 6 10))) 52 810 G) (d + 3 + 5 * i) (lay f d (stG G.2.2 (G.1 + d) i 0)) 24 [(1, .int (iI (i : Int))), (0, .ref (G.1 + d))] [] := by
    intro r
    induction r with
    | zero =>
      intro i hi
      have e : i = 6 := by omega
      subst e
      refine e_iload_n B 0 dX3_init_24 rfl ?_
      refine e_bipush B (z := 6) dX3_init_25 (by decide) ?_
      refine e_icmp_ge B dX3_init_27 rfl ⟨by omega, by omega⟩ ⟨by omega, by omega⟩ (fun h => ?_) (fun h => by omega)
      refine e_iconst B dX3_init_49 ?_
      refine e_istore_n B (lv' := [(1, .int (iI 0)), (0, .ref (G.1 + d))]) dX3_init_50 (by decide) rfl ?_
      exact hB 10 0 rfl
    | succ r ih =>
      intro i hi
      refine e_iload_n B 0 dX3_init_24 rfl ?_
      refine e_bipush B (z := 6) dX3_init_25 (by decide) ?_
      refine e_icmp_ge B dX3_init_27 rfl ⟨by omega, by omega⟩ ⟨by omega, by omega⟩ (fun h => by omega) (fun h => ?_)
      refine e_aload_n B 1 dX3_init_30 rfl ?_
      refine e_get B (ci := 3) (a := d) rfl 2 (by decide) inG3 rfl (by omega) lay_at0 rfl q_97 dX3_init_31 ?_
      refine e_iload_n B 0 dX3_init_34 rfl ?_
      refine e_new B (ci := 0) tyX0 rfl inG0 tyX0_ok (fs := [.int 0, .int 0, .null]) (by decide +kernel) q_30 q_34 q_3 ⟨by rw [show rmI_X3.cells = 52 from rfl]; omega, by rw [show rmI_X3.slots = 810 from rfl]; omega⟩ dX3_init_35 ?_
      refine e_dup B dX3_init_38 rfl ?_
      refine e_IN B (host := "GearGauge") (cI_X0 l G (d + 3 + 5 * i) _ (by rw [upE_eq] <;> rfl)) ⟨rfl, rfl⟩ ok_X0_init rfl q_36 (by decide +kernel) ⟨Nat.le_of_ble_eq_true rfl, Nat.le_of_ble_eq_true rfl, Nat.le_of_ble_eq_true rfl⟩ ⟨by rw [show rmI_X3.cells = 52 from rfl]; omega, by rw [show rmI_X3.slots = 810 from rfl]; omega⟩ dX3_init_39 ?_
      refine e_aast B (ci := 0) (t0 := 1) (N' := 6) (a := d + 1) (v := d + 3 + 5 * i) (z := (i : Int)) rfl rfl (by omega) (by rw [lay_lt (by omega), upE_ne (by omega)]; exact lay_at (c := 1)) (by omega) lay_at0 ⟨by omega, by omega⟩ (by decide) dX3_init_42 ?_
      refine e_iinc B (lv' := [(1, .int (iI ((i : Int) + 1))), (0, .ref (G.1 + d))]) dX3_init_43 (j := 0) rfl (by decide) rfl ?_
      refine e_goto B dX3_init_46 rfl ?_
      refine WE.congr (f' := lay f d (stG G.2.2 (G.1 + d) (i + 1) 0)) (fun j hj => ?_) (ih (i + 1) (by omega))
      by_cases w0 : j < d
      · rw [lay_lt w0, upE_ne (by omega), lay_lt (by omega), upE_ne (by omega), lay_lt w0]
      · by_cases w2 : j = d + 1
        · subst w2
          rw [upE_eq, lay_at]
          exact congrArg (fun g => (Sum.inl (G.2.2 1, 6, .inr (.inr (.inr (.inr g)))) : va_E)) (funext fun q => upR (b := fun q => G.1 + d + 3 + 5 * q) (z := G.1 + (d + 3 + 5 * i)) (by show G.1 + (d + 3 + 5 * i) = G.1 + d + 3 + 5 * i; omega))
        · rw [upE_ne w2, lay_ge (by omega)]
          by_cases w3 : j < d + 3 + 5 * i
          · rw [lay_lt w3, upE_ne (by omega), lay_ge (by omega)]
            have w4 : j - d ≠ 1 := by omega
            unfold stG
            rw [if_neg w4, if_neg w4]
          · rw [lay_ge (by omega)]
            unfold stG
            rw [if_neg (by omega), if_neg (by omega), if_neg (by omega), if_pos (by omega), show (j - d - 3) / 5 = i by omega, show (j - d - 3) % 5 = j - (d + 3 + 5 * i) by omega, show G.1 + (d + 3 + 5 * i) = G.1 + d + 3 + 5 * i by omega]
  refine e_iconst B dX3_init_22 ?_
  refine e_istore_n B (lv' := [(1, .int (iI 0)), (0, .ref (G.1 + d))]) dX3_init_23 (by decide) rfl ?_
  refine WE.congr (f' := lay f d (stG G.2.2 (G.1 + d) 0 0)) (fun j hj => ?_) (hA 6 0 rfl)
  by_cases w : j < d
  · rw [lay_lt w, upE_ne (by omega), upE_ne (by omega), upE_ne (by omega), upE_ne (by omega)]
  · have h5 : j = d ∨ j = d + 1 ∨ j = d + 1 + 1 := by omega
    rcases h5 with rfl | rfl | rfl
    · rw [upE_eq, lay_at0]; rfl
    · rw [upE_ne (by omega), upE_ne (by omega), upE_ne (by omega), upE_eq]; exact lay_at (c := 1)
    · rw [upE_ne (by omega), upE_eq]; exact lay_at (c := 2)
set_option maxRecDepth 100000 in
set_option maxHeartbeats 4000000 in
theorem cI_X5 (l : Launch) (G : Gs) (f : Nat → va_E) (h0 : f 0 = bl5) : CtE l G yX5_init cX5_init 2 rmI_X5 [.ref (G.1 + 0)] 1 f 335 (gaF G.2.2 (G.1 + 0)) 334 5452 := by
  refine CtE.of (by decide +kernel) rfl (Nat.le_of_ble_eq_true rfl) [(0, .ref (G.1 + 0))] rfl ?_
  intro X B hin
  refine e_aload_n B 0 dX5_init_0 rfl ?_
  refine e_obj B q_21 q_22 q_23 rfl ⟨Nat.le_of_ble_eq_true rfl, Nat.le_of_ble_eq_true rfl⟩ dX5_init_1 ?_
  refine e_aload_n B 0 dX5_init_4 rfl ?_
  refine e_new B (ci := 3) tyX3 rfl inG3 tyX3_ok (fs := [.int 0, .int 0, .null, .null]) (by decide +kernel) q_24 q_25 q_2 ⟨Nat.le_of_ble_eq_true rfl, Nat.le_of_ble_eq_true rfl⟩ dX5_init_5 ?_
  refine e_dup B dX5_init_8 rfl ?_
  refine e_I B (cI_X3 l G 1 _ (by rw [upE_eq] <;> rfl)) ⟨rfl, rfl⟩ ok_X3_init rfl q_27 q_26 ⟨Nat.le_of_ble_eq_true rfl, Nat.le_of_ble_eq_true rfl, Nat.le_of_ble_eq_true rfl⟩ ⟨Nat.le_of_ble_eq_true rfl, Nat.le_of_ble_eq_true rfl⟩ dX5_init_9 ?_
  refine e_putF B hin (ci := 5) (a := 0) tyX5 rfl 0 (by decide) inG5 tyX5_ok nmX5 rfl rfl rfl (tyX5_ok 0 (by decide)) rfl rfl (by omega) (by rw [lay_lt (by omega), upE_ne (by omega)]; exact h0) (Nat.le_of_ble_eq_true rfl) q_171 dX5_init_12 ?_
  refine e_aload_n B 0 dX5_init_15 rfl ?_
  refine e_new B (ci := 3) tyX3 rfl inG3 tyX3_ok (fs := [.int 0, .int 0, .null, .null]) (by decide +kernel) q_24 q_25 q_2 ⟨Nat.le_of_ble_eq_true rfl, Nat.le_of_ble_eq_true rfl⟩ dX5_init_16 ?_
  refine e_dup B dX5_init_19 rfl ?_
  refine e_I B (cI_X3 l G 54 _ (by rw [upE_eq] <;> rfl)) ⟨rfl, rfl⟩ ok_X3_init rfl q_27 q_26 ⟨Nat.le_of_ble_eq_true rfl, Nat.le_of_ble_eq_true rfl, Nat.le_of_ble_eq_true rfl⟩ ⟨Nat.le_of_ble_eq_true rfl, Nat.le_of_ble_eq_true rfl⟩ dX5_init_20 ?_
  refine e_putF B hin (ci := 5) (a := 0) tyX5 rfl 1 (by decide) inG5 tyX5_ok nmX5 rfl rfl rfl (tyX5_ok 1 (by decide)) rfl rfl (by omega) (by rw [lay_lt (by omega), upE_ne (by omega), upE_eq] <;> rfl) (Nat.le_of_ble_eq_true rfl) q_172 dX5_init_23 ?_
  refine e_aload_n B 0 dX5_init_26 rfl ?_
  refine e_iconst B dX5_init_27 ?_
  refine e_newq B (C := RX3) (t0 := 3) (N' := 4) (z := 4) rfl B.2.1.2.2.1 q_24 ⟨by omega, by omega⟩ rfl (Nat.le_of_ble_eq_true rfl) ⟨Nat.le_of_ble_eq_true rfl, Nat.le_of_ble_eq_true rfl⟩ dX5_init_28 ?_
  refine e_putF B hin (ci := 5) (a := 0) tyX5 rfl 2 (by decide) inG5 tyX5_ok nmX5 rfl rfl rfl (tyX5_ok 2 (by decide)) rfl rfl (by omega) (by rw [upE_ne (by omega), upE_eq] <;> rfl) (Nat.le_of_ble_eq_true rfl) q_173 dX5_init_31 ?_
  have hA : ∀ r i : Nat, i + r = 4 → WE G X (107 + 53 * i) (1632 + 814 * i) (bM X (QE G 335 (gaF G.2.2 (G.1 + 0))) 334 5452 G) (108 + 53 * i) (ggG G.2.2 (G.1 + 0) i) 36 [(1, .int (iI (i : Int))), (0, .ref (G.1 + 0))] [] := by
    intro r
    induction r with
    | zero =>
      intro i hi
      have e : i = 4 := by omega
      subst e
      refine e_iload_n B 0 dX5_init_36 rfl ?_
      refine e_iconst B dX5_init_37 ?_
      refine e_icmp_ge B dX5_init_38 rfl ⟨by omega, by omega⟩ ⟨by omega, by omega⟩ (fun h => ?_) (fun h => by omega)
      refine e_aload_n B 1 dX5_init_60 rfl ?_
      refine e_new B (ci := 4) tyX4 rfl inG4 tyX4_ok (fs := [.null, .int 0, .int 0, .int 0, .null, .int 0, .int 0, .int 0]) (by decide +kernel) q_111 q_112 q_5 ⟨Nat.le_of_ble_eq_true rfl, Nat.le_of_ble_eq_true rfl⟩ dX5_init_61 ?_
      refine e_dup B dX5_init_64 rfl ?_
      refine e_IN B (host := "GearGauge") (cI_X4 l G 320 _ (by rw [upE_eq] <;> rfl)) ⟨rfl, rfl⟩ ok_X4_init rfl q_114 (by decide +kernel) ⟨Nat.le_of_ble_eq_true rfl, Nat.le_of_ble_eq_true rfl, Nat.le_of_ble_eq_true rfl⟩ ⟨Nat.le_of_ble_eq_true rfl, Nat.le_of_ble_eq_true rfl⟩ dX5_init_65 ?_
      refine e_putF B hin (ci := 5) (a := 0) tyX5 rfl 4 (by decide) inG5 tyX5_ok nmX5 rfl rfl rfl (tyX5_ok 4 (by decide)) rfl rfl (by omega) (by rw [lay_lt (by omega), upE_ne (by omega)] <;> rfl) (Nat.le_of_ble_eq_true rfl) q_175 dX5_init_68 ?_
      refine e_aload_n B 1 dX5_init_71 rfl ?_
      refine e_new B (ci := 2) tyX2 rfl inG2 tyX2_ok (fs := [.int 0, .null, .null, .null, .null]) (by decide +kernel) q_147 q_148 q_6 ⟨Nat.le_of_ble_eq_true rfl, Nat.le_of_ble_eq_true rfl⟩ dX5_init_72 ?_
      refine e_dup B dX5_init_75 rfl ?_
      refine e_IN B (host := "GearGauge") (cI_X2 l G 323 _ (by rw [upE_eq] <;> rfl)) ⟨rfl, rfl⟩ ok_X2_init rfl q_150 (by decide +kernel) ⟨Nat.le_of_ble_eq_true rfl, Nat.le_of_ble_eq_true rfl, Nat.le_of_ble_eq_true rfl⟩ ⟨Nat.le_of_ble_eq_true rfl, Nat.le_of_ble_eq_true rfl⟩ dX5_init_76 ?_
      refine e_putF B hin (ci := 5) (a := 0) tyX5 rfl 5 (by decide) inG5 tyX5_ok nmX5 rfl rfl rfl (tyX5_ok 5 (by decide)) rfl rfl (by omega) (by rw [lay_lt (by omega), upE_ne (by omega), upE_eq] <;> rfl) (Nat.le_of_ble_eq_true rfl) q_176 dX5_init_79 ?_
      refine e_aload_n B 1 dX5_init_82 rfl ?_
      refine e_new B (ci := 0) tyX0 rfl inG0 tyX0_ok (fs := [.int 0, .int 0, .null]) (by decide +kernel) q_169 q_34 q_3 ⟨Nat.le_of_ble_eq_true rfl, Nat.le_of_ble_eq_true rfl⟩ dX5_init_83 ?_
      refine e_dup B dX5_init_86 rfl ?_
      refine e_IN B (host := "GearGauge") (cI_X0 l G 328 _ (by rw [upE_eq] <;> rfl)) ⟨rfl, rfl⟩ ok_X0_init rfl q_36 (by decide +kernel) ⟨Nat.le_of_ble_eq_true rfl, Nat.le_of_ble_eq_true rfl, Nat.le_of_ble_eq_true rfl⟩ ⟨Nat.le_of_ble_eq_true rfl, Nat.le_of_ble_eq_true rfl⟩ dX5_init_87 ?_
      refine e_putF B hin (ci := 5) (a := 0) tyX5 rfl 6 (by decide) inG5 tyX5_ok nmX5 rfl rfl rfl (tyX5_ok 6 (by decide)) rfl rfl (by omega) (by rw [lay_lt (by omega), upE_ne (by omega), upE_eq] <;> rfl) (Nat.le_of_ble_eq_true rfl) q_177 dX5_init_90 ?_
      refine e_aload_n B 1 dX5_init_93 rfl ?_
      refine e_bipush B (z := 6) dX5_init_94 (by decide) ?_
      refine e_newa B (z := 6) (N' := 6) (atype := .int) (cA := G.2.2 0) (a0 := (6, .inl (fun _ => 0))) rfl fc_int q_56 (vp_cell_i _ _ _) ⟨by omega, by omega⟩ rfl (Nat.le_of_ble_eq_true rfl) ⟨Nat.le_of_ble_eq_true rfl, Nat.le_of_ble_eq_true rfl⟩ dX5_init_96 ?_
      refine e_putF B hin (ci := 5) (a := 0) tyX5 rfl 7 (by decide) inG5 tyX5_ok nmX5 rfl rfl rfl (tyX5_ok 7 (by decide)) rfl rfl (by omega) (by rw [upE_ne (by omega), upE_eq] <;> rfl) (Nat.le_of_ble_eq_true rfl) q_178 dX5_init_98 ?_
      refine e_aload_n B 1 dX5_init_101 rfl ?_
      refine e_bipush B (z := 6) dX5_init_102 (by decide) ?_
      refine e_newa B (z := 6) (N' := 6) (atype := .int) (cA := G.2.2 0) (a0 := (6, .inl (fun _ => 0))) rfl fc_int q_56 (vp_cell_i _ _ _) ⟨by omega, by omega⟩ rfl (Nat.le_of_ble_eq_true rfl) ⟨Nat.le_of_ble_eq_true rfl, Nat.le_of_ble_eq_true rfl⟩ dX5_init_104 ?_
      refine e_putF B hin (ci := 5) (a := 0) tyX5 rfl 8 (by decide) inG5 tyX5_ok nmX5 rfl rfl rfl (tyX5_ok 8 (by decide)) rfl rfl (by omega) (by rw [upE_ne (by omega), upE_eq] <;> rfl) (Nat.le_of_ble_eq_true rfl) q_179 dX5_init_106 ?_
      refine e_vret B (fun j hj => ?_) dX5_init_109
      by_cases w0 : j = 0
      · rw [w0, upE_eq]; rfl
      rw [upE_ne w0]
      by_cases w1 : j = 334
      · rw [w1, upE_eq]; rfl
      rw [upE_ne w1, upE_ne w0]
      by_cases w2 : j = 333
      · rw [w2, upE_eq]; rfl
      rw [upE_ne w2, upE_ne w0]
      unfold gaF
      rw [if_neg w0]
      by_cases w3 : j < 328
      · rw [lay_lt w3, upE_ne (by omega), upE_ne w0]
        by_cases w4 : j < 323
        · rw [lay_lt w4, upE_ne (by omega), upE_ne w0]
          by_cases w5 : j < 320
          · rw [lay_lt w5, upE_ne (by omega), if_pos w5]
          · rw [lay_ge (by omega), if_neg w5, if_pos w4] <;> rfl
        · rw [lay_ge (by omega), if_neg (by omega), if_neg w4, if_pos w3] <;> rfl
      · rw [lay_ge (by omega), if_neg (by omega), if_neg (by omega), if_neg w3, if_pos (by omega)] <;> rfl
    | succ r ih =>
      intro i hi
      refine e_iload_n B 0 dX5_init_36 rfl ?_
      refine e_iconst B dX5_init_37 ?_
      refine e_icmp_ge B dX5_init_38 rfl ⟨by omega, by omega⟩ ⟨by omega, by omega⟩ (fun h => by omega) (fun h => ?_)
      refine e_aload_n B 1 dX5_init_41 rfl ?_
      refine e_get B (ci := 5) (a := 0) rfl 2 (by decide) inG5 rfl (by omega) rfl rfl q_173 dX5_init_42 ?_
      refine e_iload_n B 0 dX5_init_45 rfl ?_
      refine e_new B (ci := 3) tyX3 rfl inG3 tyX3_ok (fs := [.int 0, .int 0, .null, .null]) (by decide +kernel) q_24 q_25 q_2 ⟨by rw [show rmI_X5.cells = 334 from rfl]; omega, by rw [show rmI_X5.slots = 5452 from rfl]; omega⟩ dX5_init_46 ?_
      refine e_dup B dX5_init_49 rfl ?_
      refine e_I B (cI_X3 l G (108 + 53 * i) _ (by rw [upE_eq] <;> rfl)) ⟨rfl, rfl⟩ ok_X3_init rfl q_27 q_26 ⟨Nat.le_of_ble_eq_true rfl, Nat.le_of_ble_eq_true rfl, Nat.le_of_ble_eq_true rfl⟩ ⟨by rw [show rmI_X5.cells = 334 from rfl]; omega, by rw [show rmI_X5.slots = 5452 from rfl]; omega⟩ dX5_init_50 ?_
      refine e_aast B (ci := 3) (t0 := 3) (N' := 4) (a := 107) (v := 108 + 53 * i) (z := (i : Int)) rfl rfl (by omega) (by rw [lay_lt (by omega), upE_ne (by omega)] <;> rfl) (by omega) lay_at0 ⟨by omega, by omega⟩ (by decide) dX5_init_53 ?_
      refine e_iinc B (lv' := [(1, .int (iI ((i : Int) + 1))), (0, .ref (G.1 + 0))]) dX5_init_54 (j := 0) rfl (by decide) rfl ?_
      refine e_goto B dX5_init_57 rfl ?_
      refine WE.congr (f' := ggG G.2.2 (G.1 + 0) (i + 1)) (fun j hj => ?_) (ih (i + 1) (by omega))
      by_cases w2 : j = 107
      · subst w2
        rw [upE_eq]
        exact congrArg (fun g => (Sum.inl (G.2.2 3, 4, .inr (.inr (.inr (.inr g)))) : va_E)) (funext fun q => upR (b := fun q => G.1 + 0 + 108 + 53 * q) (z := G.1 + (108 + 53 * i)) (by show G.1 + (108 + 53 * i) = G.1 + 0 + 108 + 53 * i; omega))
      · rw [upE_ne w2]
        by_cases w3 : j < 108 + 53 * i
        · rw [lay_lt w3, upE_ne (by omega)]
          unfold ggG
          rw [if_neg w2, if_neg w2]
        · rw [lay_ge (by omega)]
          unfold ggG
          rw [if_neg (by omega), if_neg (by omega), if_neg (by omega), if_neg (by omega), show (j - 108) / 53 = i by omega, show (j - 108) % 53 = j - (108 + 53 * i) by omega, show G.1 + (108 + 53 * i) = G.1 + 0 + 108 + 53 * i by omega]
  refine e_iconst B dX5_init_34 ?_
  refine e_istore_n B (lv' := [(1, .int (iI 0)), (0, .ref (G.1 + 0))]) dX5_init_35 (by decide) rfl ?_
  refine WE.congr (f' := ggG G.2.2 (G.1 + 0) 0) (fun j hj => ?_) (hA 4 0 rfl)
  by_cases w0 : j = 0
  · rw [w0, upE_eq]; rfl
  rw [upE_ne w0]
  by_cases w1 : j = 107
  · rw [w1, upE_eq]; rfl
  rw [upE_ne w1, upE_ne w0]
  unfold ggG
  rw [if_neg w0]
  by_cases w3 : j < 54
  · rw [lay_lt w3, upE_ne (by omega), upE_ne w0, lay_ge (by omega), if_pos w3]
  · rw [lay_ge (by omega), if_neg w3, if_pos (by omega)] <;> rfl
