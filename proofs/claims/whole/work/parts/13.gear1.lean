set_option maxRecDepth 100000 in
set_option maxHeartbeats 4000000 in
theorem c_X0_sizeOf (l : Launch) (G : Gs) (M : Mem) (g : Nat) (z : Int) (hg : IsGear G g) (hz : gI M g 0 = z) (s : Int)  (hs0 : 0 ≤ s) (hs1 : s < 3) : Ct l G yX0_sizeOf cX0_sizeOf 2 (some .int) rm_X0_sizeOf [.ref g, .int (iI s)] M (PoI G (Rd (szS z s) M)) 0 0 := by
  refine Ct.of (by decide +kernel) (Nat.le_of_ble_eq_true rfl) [(0, .ref g), (1, .int (iI s))] rfl ?_
  intro X B
  refine r_iload_n B 1 dX0_sizeOf_0 rfl ?_
  refine r_iconst B dX0_sizeOf_1 ?_
  refine r_icmp_ne B dX0_sizeOf_2 rfl ⟨by omega, by omega⟩ ⟨by omega, by omega⟩ (fun h1 => ?_) (fun h1 => ?_)
  · refine r_aload_n B 0 dX0_sizeOf_12 rfl ?_
    refine rg0_teeth B hg.1 q_41 dX0_sizeOf_13 ?_
    refine r_vi (y := z) hz ?_
    refine r_iconst B dX0_sizeOf_16 ?_
    refine r_iadd B dX0_sizeOf_17 ?_
    exact r_iret B dX0_sizeOf_18 ⟨by unfold szS; rw [if_neg h1], rfl⟩
  · refine r_aload_n B 0 dX0_sizeOf_5 rfl ?_
    refine rg0_teeth B hg.1 q_41 dX0_sizeOf_6 ?_
    refine r_vi (y := z) hz ?_
    refine r_goto B dX0_sizeOf_9 rfl ?_
    exact r_iret B dX0_sizeOf_18 ⟨by unfold szS; rw [if_pos h1], rfl⟩

set_option maxRecDepth 100000 in
set_option maxHeartbeats 4000000 in
theorem c_X0_closingError (l : Launch) (G : Gs) (M : Mem) (g : Nat) (z m : Int) (rd : Int → Int → Int) (hg : IsGear G g) (hA : GearIs M g z m rd) (hok : GearOk z m rd) (fl : Int) (hf0 : 0 ≤ fl) (hf1 : fl < 2) : Ct l G yX0_closingError cX0_closingError 2 (some .int) rm_X0_closingError [.ref g, .int (iI fl)] M (PoI G (Rd (rd fl z - rd fl 0) M)) 0 0 := by
  refine Ct.of (by decide +kernel) (Nat.le_of_ble_eq_true rfl) [(0, .ref g), (1, .int (iI fl))] rfl ?_
  intro X B
  have hz1 := hok.1
  have hz2 := hok.2.1
  refine r_aload_n B 0 dX0_closingError_0 rfl ?_
  refine rg0_readings B hg.1 q_46 dX0_closingError_1 ?_
  refine r_iload_n B 1 dX0_closingError_4 rfl ?_
  refine r_aaload11 B dX0_closingError_5 hg.2.1 (by omega) (by omega) ?_
  refine r_aload_n B 0 dX0_closingError_6 rfl ?_
  refine rg0_teeth B hg.1 q_41 dX0_closingError_7 ?_
  refine r_vi (y := z) hA.1 ?_
  refine r_iaload B dX0_closingError_10 (hg.row (by omega) (by omega)) (by omega) (by omega) ?_
  have b_1 := hok.fl (s := fl) (by omega) (by omega) z (by omega) (by omega)
  refine r_vi (y := rd fl z) (hA.fl (by omega) (by omega) (by omega) (by omega)) ?_
  refine r_aload_n B 0 dX0_closingError_11 rfl ?_
  refine rg0_readings B hg.1 q_46 dX0_closingError_12 ?_
  refine r_iload_n B 1 dX0_closingError_15 rfl ?_
  refine r_aaload11 B dX0_closingError_16 hg.2.1 (by omega) (by omega) ?_
  refine r_iconst B dX0_closingError_17 ?_
  refine r_iaload B dX0_closingError_18 (hg.row (by omega) (by omega)) (by omega) (by omega) ?_
  have b_2 := hok.fl (s := fl) (by omega) (by omega) 0 (by omega) (by omega)
  refine r_vi (y := rd fl 0) (hA.fl (by omega) (by omega) (by omega) (by omega)) ?_
  refine r_isub B dX0_closingError_19 ?_
  exact r_iret B dX0_closingError_20 ⟨rfl, rfl⟩

set_option maxRecDepth 100000 in
set_option maxHeartbeats 4000000 in
theorem c_X0_around (l : Launch) (G : Gs) (M : Mem) (g : Nat) (z m : Int) (rd : Int → Int → Int) (hg : IsGear G g) (hA : GearIs M g z m rd) (hok : GearOk z m rd) (t : Int) (ht0 : 0 ≤ t) (ht1 : t ≤ 100) : Ct l G yX0_around cX0_around 2 (some .int) rm_X0_around [.ref g, .int (iI t)] M (PoI G (Rd (if t < z then t else t - z) M)) 0 0 := by
  refine Ct.of (by decide +kernel) (Nat.le_of_ble_eq_true rfl) [(0, .ref g), (1, .int (iI t))] rfl ?_
  intro X B
  have hz1 := hok.1
  have hz2 := hok.2.1
  refine r_iload_n B 1 dX0_around_0 rfl ?_
  refine r_aload_n B 0 dX0_around_1 rfl ?_
  refine rg0_teeth B hg.1 q_41 dX0_around_2 ?_
  refine r_vi (y := z) hA.1 ?_
  refine r_icmp_ge B dX0_around_5 rfl ⟨by omega, by omega⟩ ⟨by omega, by omega⟩ (fun h1 => ?_) (fun h1 => ?_)
  · refine r_iload_n B 1 dX0_around_12 rfl ?_
    refine r_aload_n B 0 dX0_around_13 rfl ?_
    refine rg0_teeth B hg.1 q_41 dX0_around_14 ?_
    refine r_vi (y := z) hA.1 ?_
    refine r_isub B dX0_around_17 ?_
    exact r_iret B dX0_around_18 ⟨by rw [if_neg (by omega)], rfl⟩
  · refine r_iload_n B 1 dX0_around_8 rfl ?_
    refine r_goto B dX0_around_9 rfl ?_
    exact r_iret B dX0_around_18 ⟨by rw [if_pos (by omega)], rfl⟩

set_option maxRecDepth 100000 in
set_option maxHeartbeats 4000000 in
theorem c_X0_indexAt (l : Launch) (G : Gs) (M : Mem) (g : Nat) (z m : Int) (rd : Int → Int → Int) (hg : IsGear G g) (hA : GearIs M g z m rd) (hok : GearOk z m rd) (fl t : Int) (hf0 : 0 ≤ fl) (hf1 : fl < 2) (ht0 : 0 ≤ t) (ht1 : t ≤ z) : Ct l G yX0_indexAt cX0_indexAt 4 (some .int) rm_X0_indexAt [.ref g, .int (iI fl), .int (iI t)] M (PoI G (Rd (ixS z (rd fl) t) M)) 0 0 := by
  refine Ct.of (by decide +kernel) (Nat.le_of_ble_eq_true rfl) [(0, .ref g), (1, .int (iI fl)), (2, .int (iI t))] rfl ?_
  intro X B
  have hz1 := hok.1
  have hz2 := hok.2.1
  have b1 := hok.fl hf0 hf1 z (by omega) (by omega)
  have b2 := hok.fl hf0 hf1 0 (by omega) (by omega)
  have b3 := mul_in (x := rd fl z - rd fl 0) (A := 10000) (by omega) (by omega) (by omega) ht0 ht1
  refine r_aload_n B 0 dX0_indexAt_0 rfl ?_
  refine rg0_readings B hg.1 q_46 dX0_indexAt_1 ?_
  refine r_iload_n B 1 dX0_indexAt_4 rfl ?_
  refine r_aaload11 B dX0_indexAt_5 hg.2.1 (by omega) (by omega) ?_
  refine r_astore_n B (lv' := [(3, .ref (g + 1 + 1 + Int.toNat fl)), (0, .ref g), (1, .int (iI fl)), (2, .int (iI t))]) dX0_indexAt_6 (by decide) rfl ?_
  refine r_aload_n B 0 dX0_indexAt_7 rfl ?_
  refine r_iload_n B 3 dX0_indexAt_8 rfl ?_
  refine r_iaload B dX0_indexAt_9 (hg.row (by omega) (by omega)) (by omega) (by omega) ?_
  have b_3 := hok.fl (s := fl) (by omega) (by omega) t (by omega) (by omega)
  refine r_vi (y := rd fl t) (hA.fl (by omega) (by omega) (by omega) (by omega)) ?_
  refine r_aload_n B 0 dX0_indexAt_10 rfl ?_
  refine r_iconst B dX0_indexAt_11 ?_
  refine r_iaload B dX0_indexAt_12 (hg.row (by omega) (by omega)) (by omega) (by omega) ?_
  have b_4 := hok.fl (s := fl) (by omega) (by omega) 0 (by omega) (by omega)
  refine r_vi (y := rd fl 0) (hA.fl (by omega) (by omega) (by omega) (by omega)) ?_
  refine r_isub B dX0_indexAt_13 ?_
  refine r_aload_n B 1 dX0_indexAt_14 rfl ?_
  refine r_iload_n B 2 dX0_indexAt_15 rfl ?_
  refine r_pVi1 B (c_X0_closingError l G M g z m rd hg hA hok fl (by omega) (by omega)) ⟨rfl, rfl⟩ ok_X0_closingError vi_X0_closingError q_350 hg.1 rfl (fun _ => rfl) ⟨Nat.le_of_ble_eq_true rfl, Nat.le_of_ble_eq_true rfl, Nat.le_of_ble_eq_true rfl⟩ ⟨Nat.le_of_ble_eq_true rfl, Nat.le_of_ble_eq_true rfl⟩ dX0_indexAt_16 ?_
  refine r_i2l B dX0_indexAt_19 ⟨by omega, by omega⟩ ?_
  refine r_iload_n B 3 dX0_indexAt_20 rfl ?_
  refine r_i2l B dX0_indexAt_21 ⟨by omega, by omega⟩ ?_
  refine r_lmul B dX0_indexAt_22 ?_
  refine r_aload_n B 1 dX0_indexAt_23 rfl ?_
  refine rg0_teeth B hg.1 q_41 dX0_indexAt_24 ?_
  refine r_vi (y := z) hA.1 ?_
  refine r_i2l B dX0_indexAt_27 ⟨by omega, by omega⟩ ?_
  refine r_pNi2 B (host := "GearGauge") (c_X5_rounded l G M ((rd fl z - rd fl 0) * t) z (by omega) (by omega) (by omega) (by omega)) ⟨rfl, rfl⟩ ok_X5_rounded q_355 (by decide) ⟨Nat.le_of_ble_eq_true rfl, Nat.le_of_ble_eq_true rfl, Nat.le_of_ble_eq_true rfl⟩ ⟨Nat.le_of_ble_eq_true rfl, Nat.le_of_ble_eq_true rfl⟩ dX0_indexAt_28 ?_
  refine r_isub B dX0_indexAt_31 ?_
  exact r_iret B dX0_indexAt_32 ⟨rfl, rfl⟩

set_option maxRecDepth 100000 in
set_option maxHeartbeats 4000000 in
theorem c_X0_thicknessAt (l : Launch) (G : Gs) (M : Mem) (g : Nat) (z m : Int) (rd : Int → Int → Int) (hg : IsGear G g) (hA : GearIs M g z m rd) (hok : GearOk z m rd) (t : Int) (ht0 : 0 ≤ t) (ht1 : t ≤ z) : Ct l G yX0_thicknessAt cX0_thicknessAt 2 (some .int) rm_X0_thicknessAt [.ref g, .int (iI t)] M (PoI G (Rd (ixS z (rd 0) t - ixS z (rd 1) t) M)) 0 0 := by
  refine Ct.of (by decide +kernel) (Nat.le_of_ble_eq_true rfl) [(0, .ref g), (1, .int (iI t))] rfl ?_
  intro X B
  have hz1 := hok.1
  have hz2 := hok.2.1
  refine r_aload_n B 0 dX0_thicknessAt_0 rfl ?_
  refine r_iconst B dX0_thicknessAt_1 ?_
  refine r_iload_n B 1 dX0_thicknessAt_2 rfl ?_
  refine r_pVi2 B (c_X0_indexAt l G M g z m rd hg hA hok 0 t (by omega) (by omega) (by omega) (by omega)) ⟨rfl, rfl⟩ ok_X0_indexAt vi_X0_indexAt q_346 hg.1 rfl (fun _ => rfl) ⟨Nat.le_of_ble_eq_true rfl, Nat.le_of_ble_eq_true rfl, Nat.le_of_ble_eq_true rfl⟩ ⟨Nat.le_of_ble_eq_true rfl, Nat.le_of_ble_eq_true rfl⟩ dX0_thicknessAt_3 ?_
  refine r_aload_n B 0 dX0_thicknessAt_6 rfl ?_
  refine r_iconst B dX0_thicknessAt_7 ?_
  refine r_iload_n B 1 dX0_thicknessAt_8 rfl ?_
  refine r_pVi2 B (c_X0_indexAt l G M g z m rd hg hA hok 1 t (by omega) (by omega) (by omega) (by omega)) ⟨rfl, rfl⟩ ok_X0_indexAt vi_X0_indexAt q_346 hg.1 rfl (fun _ => rfl) ⟨Nat.le_of_ble_eq_true rfl, Nat.le_of_ble_eq_true rfl, Nat.le_of_ble_eq_true rfl⟩ ⟨Nat.le_of_ble_eq_true rfl, Nat.le_of_ble_eq_true rfl⟩ dX0_thicknessAt_9 ?_
  refine r_isub B dX0_thicknessAt_12 ?_
  exact r_iret B dX0_thicknessAt_13 ⟨rfl, rfl⟩
