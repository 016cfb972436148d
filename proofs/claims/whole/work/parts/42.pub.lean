set_option maxRecDepth 100000 in
set_option maxHeartbeats 4000000 in
theorem c_X5_reading (l : Launch) (hst : l.stackTraces = false) (G : Gs) (M : Mem) (N : Nat) (s : Ast) (hG : IsGg G N) (hA : StateIs M (N + 1) s) (hok : StateOk s) (ge se ix : Int) (hge : In32 ge) (hse : In32 se) (hix : In32 ix) : CtX l G yX5_reading cX5_reading 5 (some .int) rx_X5_reading [.ref N, .int (iI ge), .int (iI se), .int (iI ix)] M (PoI G (fun r M' => oReading s ge se ix = (0, r) ∧ M' = M)) (fun E M' => (E = eIOB ∧ oReading s ge se ix = (1, 0)) ∧ M' = M) 2 12 := by
  refine CtX.of (by decide +kernel) (Nat.le_of_ble_eq_true rfl) [(0, .ref N), (1, .int (iI ge)), (2, .int (iI se)), (3, .int (iI ix))] rfl ?_
  intro X B Tx
  have hs1 := hok.1
  have hs2 := hok.2.1
  have hs3 := hok.2.2.1
  have hs4 := hok.2.2.2.1
  obtain ⟨hge1, hge2⟩ := hge
  obtain ⟨hse1, hse2⟩ := hse
  obtain ⟨hix1, hix2⟩ := hix
  refine r_aload_n B 0 dX5_reading_0 rfl ?_
  refine r_iload_n B 1 dX5_reading_1 rfl ?_
  refine r_xVa1 B Tx (c_X5_requireGear l hst G M N s hG hA hok ge ⟨by omega, by omega⟩) ⟨rfl, rfl⟩ ok_X5_requireGear vi_X5_requireGear q_535 hG.1 rfl (fun _ => rfl) ⟨Nat.le_of_ble_eq_true rfl, Nat.le_of_ble_eq_true rfl, Nat.le_of_ble_eq_true rfl⟩ ⟨Nat.le_of_ble_eq_true rfl, Nat.le_of_ble_eq_true rfl⟩ dX5_reading_2 ⟨Nat.le_of_ble_eq_true rfl, Nat.le_of_ble_eq_true rfl⟩ (fun E M2 hx => ⟨⟨hx.1, by unfold oReading; rw [if_neg (by omega)]⟩, hx.2.2⟩) (fun rq1 M2 hq1 => ?_)
  obtain ⟨hrq1, hgq1, hmq1⟩ := hq1
  rw [hrq1, hmq1]
  clear hrq1 hmq1
  refine r_astore B (lv' := [(4, .ref (gP M (N + 1 + 1) ge)), (0, .ref N), (1, .int (iI ge)), (2, .int (iI se)), (3, .int (iI ix))]) dX5_reading_5 (by decide) rfl ?_
  have hgk := hok.2.2.2.2.1 ge (by omega) (by omega)
  obtain ⟨hgk1, hgk2, hgk3, hgk4, hgk5⟩ := id hgk
  have hsz := szS_le (s.2.2.1 ge).1 se
  refine r_aload B 0 dX5_reading_7 rfl ?_
  refine r_iload_n B 3 dX5_reading_9 rfl ?_
  refine r_iload_n B 4 dX5_reading_10 rfl ?_
  refine r_xSv3 B Tx (c_X5_requireReading l hst G M (gP M (N + 1 + 1) ge) ((s.2.2.1 ge).1) (RowG.gear hG.2.1 hA.2.2.1 (i := ge) (by omega) (by omega)) (hA.2.2.2.2.1 ge (by omega) (by omega)).1 (by omega) (by omega) se ix ⟨by omega, by omega⟩ ⟨by omega, by omega⟩) ⟨rfl, rfl⟩ ok_X5_requireReading q_571 q_570 ⟨Nat.le_of_ble_eq_true rfl, Nat.le_of_ble_eq_true rfl, Nat.le_of_ble_eq_true rfl⟩ ⟨Nat.le_of_ble_eq_true rfl, Nat.le_of_ble_eq_true rfl⟩ dX5_reading_11 ⟨Nat.le_of_ble_eq_true rfl, Nat.le_of_ble_eq_true rfl⟩ (fun E M2 hx => ⟨⟨hx.1, by unfold oReading; rw [if_neg (by omega)]⟩, hx.2.2⟩) (fun M4 hq3 => ?_)
  obtain ⟨hgq3, hmq3⟩ := hq3
  rw [hmq3]
  clear hmq3
  refine r_aload B 0 dX5_reading_14 rfl ?_
  refine rg0_readings B (RowG.gear hG.2.1 hA.2.2.1 (i := ge) (by omega) (by omega)).1 q_47 dX5_reading_16 ?_
  refine r_iload_n B 3 dX5_reading_19 rfl ?_
  refine r_aaload11 B dX5_reading_20 (RowG.gear hG.2.1 hA.2.2.1 (i := ge) (by omega) (by omega)).2.1 (by omega) (by omega) ?_
  refine r_iload_n B 4 dX5_reading_21 rfl ?_
  refine r_iaload B dX5_reading_22 ((RowG.gear hG.2.1 hA.2.2.1 (i := ge) (by omega) (by omega)).row (s := se) (by omega) (by omega)) (by omega) (by omega) ?_
  refine r_vi (y := (s.2.2.1 ge).2.2 se ix) ((hA.2.2.2.2.1 ge (by omega) (by omega)).2.2 se ix (by omega) (by omega) (by omega) (by omega)) ?_
  exact WM.xret (Nat.le_of_ble_eq_true rfl) (Nat.le_of_ble_eq_true rfl) (r_iret B dX5_reading_23 ⟨by unfold oReading; rw [if_pos (by omega)], rfl⟩)

set_option maxRecDepth 100000 in
set_option maxHeartbeats 4000000 in
theorem c_X5_index (l : Launch) (hst : l.stackTraces = false) (G : Gs) (M : Mem) (N : Nat) (s : Ast) (hG : IsGg G N) (hA : StateIs M (N + 1) s) (hok : StateOk s) (ge fl tt : Int) (hge : In32 ge) (hfl : In32 fl) (htt : In32 tt) : CtX l G yX5_index cX5_index 5 (some .int) rx_X5_index [.ref N, .int (iI ge), .int (iI fl), .int (iI tt)] M (PoI G (fun r M' => oIndex s ge fl tt = (0, r) ∧ M' = M)) (fun E M' => (E = eIOB ∧ oIndex s ge fl tt = (1, 0)) ∧ M' = M) 3 18 := by
  refine CtX.of (by decide +kernel) (Nat.le_of_ble_eq_true rfl) [(0, .ref N), (1, .int (iI ge)), (2, .int (iI fl)), (3, .int (iI tt))] rfl ?_
  intro X B Tx
  have hs1 := hok.1
  have hs2 := hok.2.1
  have hs3 := hok.2.2.1
  have hs4 := hok.2.2.2.1
  obtain ⟨hge1, hge2⟩ := hge
  obtain ⟨hfl1, hfl2⟩ := hfl
  obtain ⟨htt1, htt2⟩ := htt
  refine r_aload_n B 0 dX5_index_0 rfl ?_
  refine r_iload_n B 1 dX5_index_1 rfl ?_
  refine r_xVa1 B Tx (c_X5_requireGear l hst G M N s hG hA hok ge ⟨by omega, by omega⟩) ⟨rfl, rfl⟩ ok_X5_requireGear vi_X5_requireGear q_535 hG.1 rfl (fun _ => rfl) ⟨Nat.le_of_ble_eq_true rfl, Nat.le_of_ble_eq_true rfl, Nat.le_of_ble_eq_true rfl⟩ ⟨Nat.le_of_ble_eq_true rfl, Nat.le_of_ble_eq_true rfl⟩ dX5_index_2 ⟨Nat.le_of_ble_eq_true rfl, Nat.le_of_ble_eq_true rfl⟩ (fun E M2 hx => ⟨⟨hx.1, by unfold oIndex; rw [if_neg (by omega)]⟩, hx.2.2⟩) (fun rq1 M2 hq1 => ?_)
  obtain ⟨hrq1, hgq1, hmq1⟩ := hq1
  rw [hrq1, hmq1]
  clear hrq1 hmq1
  refine r_astore B (lv' := [(4, .ref (gP M (N + 1 + 1) ge)), (0, .ref N), (1, .int (iI ge)), (2, .int (iI fl)), (3, .int (iI tt))]) dX5_index_5 (by decide) rfl ?_
  have hgk := hok.2.2.2.2.1 ge (by omega) (by omega)
  obtain ⟨hgk1, hgk2, hgk3, hgk4, hgk5⟩ := id hgk
  refine r_iload_n B 3 dX5_index_7 rfl ?_
  refine r_xSv1 B Tx (c_X5_requireFlank l hst G M fl ⟨by omega, by omega⟩) ⟨rfl, rfl⟩ ok_X5_requireFlank q_637 q_636 ⟨Nat.le_of_ble_eq_true rfl, Nat.le_of_ble_eq_true rfl, Nat.le_of_ble_eq_true rfl⟩ ⟨Nat.le_of_ble_eq_true rfl, Nat.le_of_ble_eq_true rfl⟩ dX5_index_8 ⟨Nat.le_of_ble_eq_true rfl, Nat.le_of_ble_eq_true rfl⟩ (fun E M2 hx => ⟨⟨hx.1, by unfold oIndex; rw [if_neg (by omega)]⟩, hx.2.2⟩) (fun M4 hq3 => ?_)
  obtain ⟨hgq3, hmq3⟩ := hq3
  rw [hmq3]
  clear hmq3
  refine r_iload_n B 4 dX5_index_11 rfl ?_
  refine r_if_lt B dX5_index_12 rfl ⟨by omega, by omega⟩ (fun h5 => ?_) (fun h5 => ?_)
  · exact r_thrO B Tx hst (is := 115) (text := "no such tooth") (by decide +kernel) dX5_index_24 dX5_index_27 dX5_index_28 dX5_index_30 dX5_index_33 ⟨Nat.le_of_ble_eq_true rfl, Nat.le_of_ble_eq_true rfl, Nat.le_of_ble_eq_true rfl, Nat.le_of_ble_eq_true rfl⟩ ⟨Nat.le_of_ble_eq_true rfl, Nat.le_of_ble_eq_true rfl⟩ ⟨⟨rfl, by unfold oIndex; rw [if_neg (by omega)]⟩, rfl⟩
  · refine r_iload_n B 4 dX5_index_15 rfl ?_
    refine r_aload B 0 dX5_index_16 rfl ?_
    refine rg0_teeth B (RowG.gear hG.2.1 hA.2.2.1 (i := ge) (by omega) (by omega)).1 q_43 dX5_index_18 ?_
    refine r_vi (y := (s.2.2.1 ge).1) (hA.2.2.2.2.1 ge (by omega) (by omega)).1 ?_
    refine r_icmp_le B dX5_index_21 rfl ⟨by omega, by omega⟩ ⟨by omega, by omega⟩ (fun h6 => ?_) (fun h6 => ?_)
    · refine r_aload B 0 dX5_index_34 rfl ?_
      refine r_iload_n B 3 dX5_index_36 rfl ?_
      refine r_iload_n B 4 dX5_index_37 rfl ?_
      refine r_pVi2 B (c_X0_indexAt l G M (gP M (N + 1 + 1) ge) (s.2.2.1 ge).1 (s.2.2.1 ge).2.1 (s.2.2.1 ge).2.2 (RowG.gear hG.2.1 hA.2.2.1 (i := ge) (by omega) (by omega)) (hA.2.2.2.2.1 ge (by omega) (by omega)) (hok.2.2.2.2.1 ge (by omega) (by omega)) fl tt (by omega) (by omega) (by omega) (by omega)) ⟨rfl, rfl⟩ ok_X0_indexAt vi_X0_indexAt q_640 (RowG.gear hG.2.1 hA.2.2.1 (i := ge) (by omega) (by omega)).1 rfl (fun _ => rfl) ⟨Nat.le_of_ble_eq_true rfl, Nat.le_of_ble_eq_true rfl, Nat.le_of_ble_eq_true rfl⟩ ⟨Nat.le_of_ble_eq_true rfl, Nat.le_of_ble_eq_true rfl⟩ dX5_index_38 ?_
      exact WM.xret (Nat.le_of_ble_eq_true rfl) (Nat.le_of_ble_eq_true rfl) (r_iret B dX5_index_41 ⟨by unfold oIndex; rw [if_pos (by omega)], rfl⟩)
    · exact r_thrO B Tx hst (is := 115) (text := "no such tooth") (by decide +kernel) dX5_index_24 dX5_index_27 dX5_index_28 dX5_index_30 dX5_index_33 ⟨Nat.le_of_ble_eq_true rfl, Nat.le_of_ble_eq_true rfl, Nat.le_of_ble_eq_true rfl, Nat.le_of_ble_eq_true rfl⟩ ⟨Nat.le_of_ble_eq_true rfl, Nat.le_of_ble_eq_true rfl⟩ ⟨⟨rfl, by unfold oIndex; rw [if_neg (by omega)]⟩, rfl⟩

set_option maxRecDepth 100000 in
set_option maxHeartbeats 4000000 in
theorem c_X5_pitch (l : Launch) (hst : l.stackTraces = false) (G : Gs) (M : Mem) (N : Nat) (s : Ast) (hG : IsGg G N) (hA : StateIs M (N + 1) s) (hok : StateOk s) (ge fl tt : Int) (hge : In32 ge) (hfl : In32 fl) (htt : In32 tt) : CtX l G yX5_pitch cX5_pitch 5 (some .int) rx_X5_pitch [.ref N, .int (iI ge), .int (iI fl), .int (iI tt)] M (PoI G (fun r M' => oPitch s ge fl tt = (0, r) ∧ M' = M)) (fun E M' => (E = eIOB ∧ oPitch s ge fl tt = (1, 0)) ∧ M' = M) 3 18 := by
  refine CtX.of (by decide +kernel) (Nat.le_of_ble_eq_true rfl) [(0, .ref N), (1, .int (iI ge)), (2, .int (iI fl)), (3, .int (iI tt))] rfl ?_
  intro X B Tx
  have hs1 := hok.1
  have hs2 := hok.2.1
  have hs3 := hok.2.2.1
  have hs4 := hok.2.2.2.1
  obtain ⟨hge1, hge2⟩ := hge
  obtain ⟨hfl1, hfl2⟩ := hfl
  obtain ⟨htt1, htt2⟩ := htt
  refine r_aload_n B 0 dX5_pitch_0 rfl ?_
  refine r_iload_n B 1 dX5_pitch_1 rfl ?_
  refine r_xVa1 B Tx (c_X5_requireGear l hst G M N s hG hA hok ge ⟨by omega, by omega⟩) ⟨rfl, rfl⟩ ok_X5_requireGear vi_X5_requireGear q_535 hG.1 rfl (fun _ => rfl) ⟨Nat.le_of_ble_eq_true rfl, Nat.le_of_ble_eq_true rfl, Nat.le_of_ble_eq_true rfl⟩ ⟨Nat.le_of_ble_eq_true rfl, Nat.le_of_ble_eq_true rfl⟩ dX5_pitch_2 ⟨Nat.le_of_ble_eq_true rfl, Nat.le_of_ble_eq_true rfl⟩ (fun E M2 hx => ⟨⟨hx.1, by unfold oPitch; rw [if_neg (by omega)]⟩, hx.2.2⟩) (fun rq1 M2 hq1 => ?_)
  obtain ⟨hrq1, hgq1, hmq1⟩ := hq1
  rw [hrq1, hmq1]
  clear hrq1 hmq1
  refine r_astore B (lv' := [(4, .ref (gP M (N + 1 + 1) ge)), (0, .ref N), (1, .int (iI ge)), (2, .int (iI fl)), (3, .int (iI tt))]) dX5_pitch_5 (by decide) rfl ?_
  have hgk := hok.2.2.2.2.1 ge (by omega) (by omega)
  obtain ⟨hgk1, hgk2, hgk3, hgk4, hgk5⟩ := id hgk
  refine r_iload_n B 3 dX5_pitch_7 rfl ?_
  refine r_xSv1 B Tx (c_X5_requireFlank l hst G M fl ⟨by omega, by omega⟩) ⟨rfl, rfl⟩ ok_X5_requireFlank q_637 q_636 ⟨Nat.le_of_ble_eq_true rfl, Nat.le_of_ble_eq_true rfl, Nat.le_of_ble_eq_true rfl⟩ ⟨Nat.le_of_ble_eq_true rfl, Nat.le_of_ble_eq_true rfl⟩ dX5_pitch_8 ⟨Nat.le_of_ble_eq_true rfl, Nat.le_of_ble_eq_true rfl⟩ (fun E M2 hx => ⟨⟨hx.1, by unfold oPitch; rw [if_neg (by omega)]⟩, hx.2.2⟩) (fun M4 hq3 => ?_)
  obtain ⟨hgq3, hmq3⟩ := hq3
  rw [hmq3]
  clear hmq3
  refine r_iload_n B 4 dX5_pitch_11 rfl ?_
  refine r_iconst B dX5_pitch_12 ?_
  refine r_icmp_lt B dX5_pitch_13 rfl ⟨by omega, by omega⟩ ⟨by omega, by omega⟩ (fun h5 => ?_) (fun h5 => ?_)
  · exact r_thrO B Tx hst (is := 115) (text := "no such tooth") (by decide +kernel) dX5_pitch_25 dX5_pitch_28 dX5_pitch_29 dX5_pitch_31 dX5_pitch_34 ⟨Nat.le_of_ble_eq_true rfl, Nat.le_of_ble_eq_true rfl, Nat.le_of_ble_eq_true rfl, Nat.le_of_ble_eq_true rfl⟩ ⟨Nat.le_of_ble_eq_true rfl, Nat.le_of_ble_eq_true rfl⟩ ⟨⟨rfl, by unfold oPitch; rw [if_neg (by omega)]⟩, rfl⟩
  · refine r_iload_n B 4 dX5_pitch_16 rfl ?_
    refine r_aload B 0 dX5_pitch_17 rfl ?_
    refine rg0_teeth B (RowG.gear hG.2.1 hA.2.2.1 (i := ge) (by omega) (by omega)).1 q_43 dX5_pitch_19 ?_
    refine r_vi (y := (s.2.2.1 ge).1) (hA.2.2.2.2.1 ge (by omega) (by omega)).1 ?_
    refine r_icmp_le B dX5_pitch_22 rfl ⟨by omega, by omega⟩ ⟨by omega, by omega⟩ (fun h6 => ?_) (fun h6 => ?_)
    · refine r_aload B 0 dX5_pitch_35 rfl ?_
      refine r_iload_n B 3 dX5_pitch_37 rfl ?_
      refine r_iload_n B 4 dX5_pitch_38 rfl ?_
      refine r_pVi2 B (c_X0_indexAt l G M (gP M (N + 1 + 1) ge) (s.2.2.1 ge).1 (s.2.2.1 ge).2.1 (s.2.2.1 ge).2.2 (RowG.gear hG.2.1 hA.2.2.1 (i := ge) (by omega) (by omega)) (hA.2.2.2.2.1 ge (by omega) (by omega)) (hok.2.2.2.2.1 ge (by omega) (by omega)) fl tt (by omega) (by omega) (by omega) (by omega)) ⟨rfl, rfl⟩ ok_X0_indexAt vi_X0_indexAt q_640 (RowG.gear hG.2.1 hA.2.2.1 (i := ge) (by omega) (by omega)).1 rfl (fun _ => rfl) ⟨Nat.le_of_ble_eq_true rfl, Nat.le_of_ble_eq_true rfl, Nat.le_of_ble_eq_true rfl⟩ ⟨Nat.le_of_ble_eq_true rfl, Nat.le_of_ble_eq_true rfl⟩ dX5_pitch_39 ?_
      refine r_aload B 0 dX5_pitch_42 rfl ?_
      refine r_iload_n B 3 dX5_pitch_44 rfl ?_
      refine r_iload_n B 4 dX5_pitch_45 rfl ?_
      refine r_iconst B dX5_pitch_46 ?_
      refine r_isub B dX5_pitch_47 ?_
      refine r_pVi2 B (c_X0_indexAt l G M (gP M (N + 1 + 1) ge) (s.2.2.1 ge).1 (s.2.2.1 ge).2.1 (s.2.2.1 ge).2.2 (RowG.gear hG.2.1 hA.2.2.1 (i := ge) (by omega) (by omega)) (hA.2.2.2.2.1 ge (by omega) (by omega)) (hok.2.2.2.2.1 ge (by omega) (by omega)) fl (tt - 1) (by omega) (by omega) (by omega) (by omega)) ⟨rfl, rfl⟩ ok_X0_indexAt vi_X0_indexAt q_640 (RowG.gear hG.2.1 hA.2.2.1 (i := ge) (by omega) (by omega)).1 rfl (fun _ => rfl) ⟨Nat.le_of_ble_eq_true rfl, Nat.le_of_ble_eq_true rfl, Nat.le_of_ble_eq_true rfl⟩ ⟨Nat.le_of_ble_eq_true rfl, Nat.le_of_ble_eq_true rfl⟩ dX5_pitch_48 ?_
      refine r_isub B dX5_pitch_51 ?_
      exact WM.xret (Nat.le_of_ble_eq_true rfl) (Nat.le_of_ble_eq_true rfl) (r_iret B dX5_pitch_52 ⟨by unfold oPitch; rw [if_pos (by omega)], rfl⟩)
    · exact r_thrO B Tx hst (is := 115) (text := "no such tooth") (by decide +kernel) dX5_pitch_25 dX5_pitch_28 dX5_pitch_29 dX5_pitch_31 dX5_pitch_34 ⟨Nat.le_of_ble_eq_true rfl, Nat.le_of_ble_eq_true rfl, Nat.le_of_ble_eq_true rfl, Nat.le_of_ble_eq_true rfl⟩ ⟨Nat.le_of_ble_eq_true rfl, Nat.le_of_ble_eq_true rfl⟩ ⟨⟨rfl, by unfold oPitch; rw [if_neg (by omega)]⟩, rfl⟩

set_option maxRecDepth 100000 in
set_option maxHeartbeats 4000000 in
theorem c_X5_span (l : Launch) (hst : l.stackTraces = false) (G : Gs) (M : Mem) (N : Nat) (s : Ast) (hG : IsGg G N) (hA : StateIs M (N + 1) s) (hok : StateOk s) (ge fl tt : Int) (hge : In32 ge) (hfl : In32 fl) (htt : In32 tt) : CtX l G yX5_span cX5_span 5 (some .int) rx_X5_span [.ref N, .int (iI ge), .int (iI fl), .int (iI tt)] M (PoI G (fun r M' => oSpan s ge fl tt = (0, r) ∧ M' = M)) (fun E M' => (E = eIOB ∧ oSpan s ge fl tt = (1, 0) ∨ E = eIAE ∧ oSpan s ge fl tt = (2, 0)) ∧ M' = M) 3 18 := by
  refine CtX.of (by decide +kernel) (Nat.le_of_ble_eq_true rfl) [(0, .ref N), (1, .int (iI ge)), (2, .int (iI fl)), (3, .int (iI tt))] rfl ?_
  intro X B Tx
  have hs1 := hok.1
  have hs2 := hok.2.1
  have hs3 := hok.2.2.1
  have hs4 := hok.2.2.2.1
  obtain ⟨hge1, hge2⟩ := hge
  obtain ⟨hfl1, hfl2⟩ := hfl
  obtain ⟨htt1, htt2⟩ := htt
  refine r_aload_n B 0 dX5_span_0 rfl ?_
  refine r_iload_n B 1 dX5_span_1 rfl ?_
  refine r_xVa1 B Tx (c_X5_requireGear l hst G M N s hG hA hok ge ⟨by omega, by omega⟩) ⟨rfl, rfl⟩ ok_X5_requireGear vi_X5_requireGear q_535 hG.1 rfl (fun _ => rfl) ⟨Nat.le_of_ble_eq_true rfl, Nat.le_of_ble_eq_true rfl, Nat.le_of_ble_eq_true rfl⟩ ⟨Nat.le_of_ble_eq_true rfl, Nat.le_of_ble_eq_true rfl⟩ dX5_span_2 ⟨Nat.le_of_ble_eq_true rfl, Nat.le_of_ble_eq_true rfl⟩ (fun E M2 hx => ⟨Or.inl (⟨hx.1, by unfold oSpan; rw [if_pos (by omega)]⟩), hx.2.2⟩) (fun rq1 M2 hq1 => ?_)
  obtain ⟨hrq1, hgq1, hmq1⟩ := hq1
  rw [hrq1, hmq1]
  clear hrq1 hmq1
  refine r_astore B (lv' := [(4, .ref (gP M (N + 1 + 1) ge)), (0, .ref N), (1, .int (iI ge)), (2, .int (iI fl)), (3, .int (iI tt))]) dX5_span_5 (by decide) rfl ?_
  have hgk := hok.2.2.2.2.1 ge (by omega) (by omega)
  obtain ⟨hgk1, hgk2, hgk3, hgk4, hgk5⟩ := id hgk
  refine r_iload_n B 3 dX5_span_7 rfl ?_
  refine r_xSv1 B Tx (c_X5_requireFlank l hst G M fl ⟨by omega, by omega⟩) ⟨rfl, rfl⟩ ok_X5_requireFlank q_637 q_636 ⟨Nat.le_of_ble_eq_true rfl, Nat.le_of_ble_eq_true rfl, Nat.le_of_ble_eq_true rfl⟩ ⟨Nat.le_of_ble_eq_true rfl, Nat.le_of_ble_eq_true rfl⟩ dX5_span_8 ⟨Nat.le_of_ble_eq_true rfl, Nat.le_of_ble_eq_true rfl⟩ (fun E M2 hx => ⟨Or.inl (⟨hx.1, by unfold oSpan; rw [if_pos (by omega)]⟩), hx.2.2⟩) (fun M4 hq3 => ?_)
  obtain ⟨hgq3, hmq3⟩ := hq3
  rw [hmq3]
  clear hmq3
  refine r_iload_n B 4 dX5_span_11 rfl ?_
  refine r_iconst B dX5_span_12 ?_
  refine r_icmp_lt B dX5_span_13 rfl ⟨by omega, by omega⟩ ⟨by omega, by omega⟩ (fun h5 => ?_) (fun h5 => ?_)
  · exact r_thrA B Tx hst (is := 150) (text := "k out of range") (by decide +kernel) dX5_span_25 dX5_span_28 dX5_span_29 dX5_span_31 dX5_span_34 ⟨Nat.le_of_ble_eq_true rfl, Nat.le_of_ble_eq_true rfl, Nat.le_of_ble_eq_true rfl, Nat.le_of_ble_eq_true rfl⟩ ⟨Nat.le_of_ble_eq_true rfl, Nat.le_of_ble_eq_true rfl⟩ ⟨Or.inr (⟨rfl, by unfold oSpan; rw [if_neg (by omega), if_pos (by omega)]⟩), rfl⟩
  · refine r_iload_n B 4 dX5_span_16 rfl ?_
    refine r_aload B 0 dX5_span_17 rfl ?_
    refine rg0_teeth B (RowG.gear hG.2.1 hA.2.2.1 (i := ge) (by omega) (by omega)).1 q_43 dX5_span_19 ?_
    refine r_vi (y := (s.2.2.1 ge).1) (hA.2.2.2.2.1 ge (by omega) (by omega)).1 ?_
    refine r_icmp_le B dX5_span_22 rfl ⟨by omega, by omega⟩ ⟨by omega, by omega⟩ (fun h6 => ?_) (fun h6 => ?_)
    · refine r_aload B 0 dX5_span_35 rfl ?_
      refine r_iload_n B 3 dX5_span_37 rfl ?_
      refine r_iload_n B 4 dX5_span_38 rfl ?_
      refine r_pVi2 B (c_X0_greatestSpan l G M (gP M (N + 1 + 1) ge) (s.2.2.1 ge).1 (s.2.2.1 ge).2.1 (s.2.2.1 ge).2.2 (RowG.gear hG.2.1 hA.2.2.1 (i := ge) (by omega) (by omega)) (hA.2.2.2.2.1 ge (by omega) (by omega)) (hok.2.2.2.2.1 ge (by omega) (by omega)) fl tt (by omega) (by omega) (by omega) (by omega)) ⟨rfl, rfl⟩ ok_X0_greatestSpan vi_X0_greatestSpan q_656 (RowG.gear hG.2.1 hA.2.2.1 (i := ge) (by omega) (by omega)).1 rfl (fun _ => rfl) ⟨Nat.le_of_ble_eq_true rfl, Nat.le_of_ble_eq_true rfl, Nat.le_of_ble_eq_true rfl⟩ ⟨Nat.le_of_ble_eq_true rfl, Nat.le_of_ble_eq_true rfl⟩ dX5_span_39 ?_
      exact WM.xret (Nat.le_of_ble_eq_true rfl) (Nat.le_of_ble_eq_true rfl) (r_iret B dX5_span_42 ⟨by unfold oSpan; rw [if_neg (by omega), if_neg (by omega)], rfl⟩)
    · exact r_thrA B Tx hst (is := 150) (text := "k out of range") (by decide +kernel) dX5_span_25 dX5_span_28 dX5_span_29 dX5_span_31 dX5_span_34 ⟨Nat.le_of_ble_eq_true rfl, Nat.le_of_ble_eq_true rfl, Nat.le_of_ble_eq_true rfl, Nat.le_of_ble_eq_true rfl⟩ ⟨Nat.le_of_ble_eq_true rfl, Nat.le_of_ble_eq_true rfl⟩ ⟨Or.inr (⟨rfl, by unfold oSpan; rw [if_neg (by omega), if_pos (by omega)]⟩), rfl⟩

set_option maxRecDepth 100000 in
set_option maxHeartbeats 4000000 in
theorem c_X5_thickness (l : Launch) (hst : l.stackTraces = false) (G : Gs) (M : Mem) (N : Nat) (s : Ast) (hG : IsGg G N) (hA : StateIs M (N + 1) s) (hok : StateOk s) (ge tt : Int) (hge : In32 ge) (htt : In32 tt) : CtX l G yX5_thickness cX5_thickness 4 (some .int) rx_X5_thickness [.ref N, .int (iI ge), .int (iI tt)] M (PoI G (fun r M' => oThick s ge tt = (0, r) ∧ M' = M)) (fun E M' => (E = eIOB ∧ oThick s ge tt = (1, 0)) ∧ M' = M) 2 12 := by
  refine CtX.of (by decide +kernel) (Nat.le_of_ble_eq_true rfl) [(0, .ref N), (1, .int (iI ge)), (2, .int (iI tt))] rfl ?_
  intro X B Tx
  have hs1 := hok.1
  have hs2 := hok.2.1
  have hs3 := hok.2.2.1
  have hs4 := hok.2.2.2.1
  obtain ⟨hge1, hge2⟩ := hge
  obtain ⟨htt1, htt2⟩ := htt
  refine r_aload_n B 0 dX5_thickness_0 rfl ?_
  refine r_iload_n B 1 dX5_thickness_1 rfl ?_
  refine r_xVa1 B Tx (c_X5_requireGear l hst G M N s hG hA hok ge ⟨by omega, by omega⟩) ⟨rfl, rfl⟩ ok_X5_requireGear vi_X5_requireGear q_535 hG.1 rfl (fun _ => rfl) ⟨Nat.le_of_ble_eq_true rfl, Nat.le_of_ble_eq_true rfl, Nat.le_of_ble_eq_true rfl⟩ ⟨Nat.le_of_ble_eq_true rfl, Nat.le_of_ble_eq_true rfl⟩ dX5_thickness_2 ⟨Nat.le_of_ble_eq_true rfl, Nat.le_of_ble_eq_true rfl⟩ (fun E M2 hx => ⟨⟨hx.1, by unfold oThick; rw [if_pos (by omega)]⟩, hx.2.2⟩) (fun rq1 M2 hq1 => ?_)
  obtain ⟨hrq1, hgq1, hmq1⟩ := hq1
  rw [hrq1, hmq1]
  clear hrq1 hmq1
  refine r_astore_n B (lv' := [(3, .ref (gP M (N + 1 + 1) ge)), (0, .ref N), (1, .int (iI ge)), (2, .int (iI tt))]) dX5_thickness_5 (by decide) rfl ?_
  have hgk := hok.2.2.2.2.1 ge (by omega) (by omega)
  obtain ⟨hgk1, hgk2, hgk3, hgk4, hgk5⟩ := id hgk
  refine r_iload_n B 3 dX5_thickness_6 rfl ?_
  refine r_iconst B dX5_thickness_7 ?_
  refine r_icmp_ne B dX5_thickness_8 rfl ⟨by omega, by omega⟩ ⟨by omega, by omega⟩ (fun h3 => ?_) (fun h3 => ?_)
  · refine r_iload_n B 3 dX5_thickness_16 rfl ?_
    refine r_if_lt B dX5_thickness_17 rfl ⟨by omega, by omega⟩ (fun h4 => ?_) (fun h4 => ?_)
    · exact r_thrO B Tx hst (is := 115) (text := "no such tooth") (by decide +kernel) dX5_thickness_28 dX5_thickness_31 dX5_thickness_32 dX5_thickness_34 dX5_thickness_37 ⟨Nat.le_of_ble_eq_true rfl, Nat.le_of_ble_eq_true rfl, Nat.le_of_ble_eq_true rfl, Nat.le_of_ble_eq_true rfl⟩ ⟨Nat.le_of_ble_eq_true rfl, Nat.le_of_ble_eq_true rfl⟩ ⟨⟨rfl, by unfold oThick; rw [if_neg (by omega), if_neg (by omega), if_neg (by omega)]⟩, rfl⟩
    · refine r_iload_n B 3 dX5_thickness_20 rfl ?_
      refine r_aload_n B 0 dX5_thickness_21 rfl ?_
      refine rg0_teeth B (RowG.gear hG.2.1 hA.2.2.1 (i := ge) (by omega) (by omega)).1 q_43 dX5_thickness_22 ?_
      refine r_vi (y := (s.2.2.1 ge).1) (hA.2.2.2.2.1 ge (by omega) (by omega)).1 ?_
      refine r_icmp_lt B dX5_thickness_25 rfl ⟨by omega, by omega⟩ ⟨by omega, by omega⟩ (fun h5 => ?_) (fun h5 => ?_)
      · refine r_aload_n B 0 dX5_thickness_38 rfl ?_
        refine r_iload_n B 3 dX5_thickness_39 rfl ?_
        refine r_pVi1 B (c_X0_thicknessAt l G M (gP M (N + 1 + 1) ge) (s.2.2.1 ge).1 (s.2.2.1 ge).2.1 (s.2.2.1 ge).2.2 (RowG.gear hG.2.1 hA.2.2.1 (i := ge) (by omega) (by omega)) (hA.2.2.2.2.1 ge (by omega) (by omega)) (hok.2.2.2.2.1 ge (by omega) (by omega)) tt (by omega) (by omega)) ⟨rfl, rfl⟩ ok_X0_thicknessAt vi_X0_thicknessAt q_679 (RowG.gear hG.2.1 hA.2.2.1 (i := ge) (by omega) (by omega)).1 rfl (fun _ => rfl) ⟨Nat.le_of_ble_eq_true rfl, Nat.le_of_ble_eq_true rfl, Nat.le_of_ble_eq_true rfl⟩ ⟨Nat.le_of_ble_eq_true rfl, Nat.le_of_ble_eq_true rfl⟩ dX5_thickness_40 ?_
        exact WM.xret (Nat.le_of_ble_eq_true rfl) (Nat.le_of_ble_eq_true rfl) (r_iret B dX5_thickness_43 ⟨by unfold oThick; rw [if_neg (by omega), if_neg (by omega), if_pos (by omega)]; rfl, rfl⟩)
      · exact r_thrO B Tx hst (is := 115) (text := "no such tooth") (by decide +kernel) dX5_thickness_28 dX5_thickness_31 dX5_thickness_32 dX5_thickness_34 dX5_thickness_37 ⟨Nat.le_of_ble_eq_true rfl, Nat.le_of_ble_eq_true rfl, Nat.le_of_ble_eq_true rfl, Nat.le_of_ble_eq_true rfl⟩ ⟨Nat.le_of_ble_eq_true rfl, Nat.le_of_ble_eq_true rfl⟩ ⟨⟨rfl, by unfold oThick; rw [if_neg (by omega), if_neg (by omega), if_neg (by omega)]⟩, rfl⟩
  · refine r_aload_n B 0 dX5_thickness_11 rfl ?_
    refine r_pVi0 B (c_X0_thicknessRange l G M (gP M (N + 1 + 1) ge) (s.2.2.1 ge).1 (s.2.2.1 ge).2.1 (s.2.2.1 ge).2.2 (RowG.gear hG.2.1 hA.2.2.1 (i := ge) (by omega) (by omega)) (hA.2.2.2.2.1 ge (by omega) (by omega)) (hok.2.2.2.2.1 ge (by omega) (by omega))  ) ⟨rfl, rfl⟩ ok_X0_thicknessRange vi_X0_thicknessRange q_671 (RowG.gear hG.2.1 hA.2.2.1 (i := ge) (by omega) (by omega)).1 rfl (fun _ => rfl) ⟨Nat.le_of_ble_eq_true rfl, Nat.le_of_ble_eq_true rfl, Nat.le_of_ble_eq_true rfl⟩ ⟨Nat.le_of_ble_eq_true rfl, Nat.le_of_ble_eq_true rfl⟩ dX5_thickness_12 ?_
    exact WM.xret (Nat.le_of_ble_eq_true rfl) (Nat.le_of_ble_eq_true rfl) (r_iret B dX5_thickness_15 ⟨by unfold oThick; rw [if_neg (by omega), if_pos (by omega)], rfl⟩)

set_option maxRecDepth 100000 in
set_option maxHeartbeats 4000000 in
theorem c_X5_deviation (l : Launch) (hst : l.stackTraces = false) (G : Gs) (M : Mem) (N : Nat) (s : Ast) (hG : IsGg G N) (hA : StateIs M (N + 1) s) (hok : StateOk s) (ge wh : Int) (hge : In32 ge) (hwh : In32 wh) : CtX l G yX5_deviation cX5_deviation 3 (some .int) rx_X5_deviation [.ref N, .int (iI ge), .int (iI wh)] M (PoI G (fun r M' => oDev s ge wh = (0, r) ∧ M' = M)) (fun E M' => (E = eIOB ∧ oDev s ge wh = (1, 0) ∨ E = eIAE ∧ oDev s ge wh = (2, 0)) ∧ M' = M) 2 12 := by
  refine CtX.of (by decide +kernel) (Nat.le_of_ble_eq_true rfl) [(0, .ref N), (1, .int (iI ge)), (2, .int (iI wh))] rfl ?_
  intro X B Tx
  have hs1 := hok.1
  have hs2 := hok.2.1
  have hs3 := hok.2.2.1
  have hs4 := hok.2.2.2.1
  obtain ⟨hge1, hge2⟩ := hge
  obtain ⟨hwh1, hwh2⟩ := hwh
  refine r_aload_n B 0 dX5_deviation_0 rfl ?_
  refine r_iload_n B 1 dX5_deviation_1 rfl ?_
  refine r_xVa1 B Tx (c_X5_requireGear l hst G M N s hG hA hok ge ⟨by omega, by omega⟩) ⟨rfl, rfl⟩ ok_X5_requireGear vi_X5_requireGear q_535 hG.1 rfl (fun _ => rfl) ⟨Nat.le_of_ble_eq_true rfl, Nat.le_of_ble_eq_true rfl, Nat.le_of_ble_eq_true rfl⟩ ⟨Nat.le_of_ble_eq_true rfl, Nat.le_of_ble_eq_true rfl⟩ dX5_deviation_2 ⟨Nat.le_of_ble_eq_true rfl, Nat.le_of_ble_eq_true rfl⟩ (fun E M2 hx => ⟨Or.inl (⟨hx.1, by unfold oDev; rw [if_pos (by omega)]⟩), hx.2.2⟩) (fun rq1 M2 hq1 => ?_)
  obtain ⟨hrq1, hgq1, hmq1⟩ := hq1
  rw [hrq1, hmq1]
  clear hrq1 hmq1
  refine r_pop B dX5_deviation_5 rfl ?_
  refine r_iload_n B 2 dX5_deviation_6 rfl ?_
  refine r_xSv1 B Tx (c_X5_requireWhat l hst G M wh ⟨by omega, by omega⟩) ⟨rfl, rfl⟩ ok_X5_requireWhat q_700 q_699 ⟨Nat.le_of_ble_eq_true rfl, Nat.le_of_ble_eq_true rfl, Nat.le_of_ble_eq_true rfl⟩ ⟨Nat.le_of_ble_eq_true rfl, Nat.le_of_ble_eq_true rfl⟩ dX5_deviation_7 ⟨Nat.le_of_ble_eq_true rfl, Nat.le_of_ble_eq_true rfl⟩ (fun E M2 hx => ⟨Or.inr (⟨hx.1, by unfold oDev; rw [if_neg (by omega), if_pos (by omega)]⟩), hx.2.2⟩) (fun M4 hq3 => ?_)
  obtain ⟨hgq3, hmq3⟩ := hq3
  rw [hmq3]
  clear hmq3
  refine r_aload_n B 0 dX5_deviation_10 rfl ?_
  refine rg5_now B hG.1 q_171 dX5_deviation_11 ?_
  refine r_iload_n B 1 dX5_deviation_14 rfl ?_
  refine r_iload_n B 2 dX5_deviation_15 rfl ?_
  refine r_pVi2 B (c_X3_deviationOf l G M (N + 1) s hG.2.1 hA hok ge wh (by omega) (by omega) (by omega) (by omega)) ⟨rfl, rfl⟩ ok_X3_deviationOf vi_X3_deviationOf q_338 hG.2.1.1 rfl (fun _ => rfl) ⟨Nat.le_of_ble_eq_true rfl, Nat.le_of_ble_eq_true rfl, Nat.le_of_ble_eq_true rfl⟩ ⟨Nat.le_of_ble_eq_true rfl, Nat.le_of_ble_eq_true rfl⟩ dX5_deviation_16 ?_
  exact WM.xret (Nat.le_of_ble_eq_true rfl) (Nat.le_of_ble_eq_true rfl) (r_iret B dX5_deviation_19 ⟨by unfold oDev; rw [if_neg (by omega), if_neg (by omega)], rfl⟩)

set_option maxRecDepth 100000 in
set_option maxHeartbeats 4000000 in
theorem c_X5_gear (l : Launch) (hst : l.stackTraces = false) (G : Gs) (M : Mem) (N : Nat) (s : Ast) (hG : IsGg G N) (hA : StateIs M (N + 1) s) (hok : StateOk s) (ge wh : Int) (hge : In32 ge) (hwh : In32 wh) : CtX l G yX5_gear cX5_gear 4 (some .int) rx_X5_gear [.ref N, .int (iI ge), .int (iI wh)] M (PoI G (fun r M' => oGear s ge wh = (0, r) ∧ M' = M)) (fun E M' => (E = eIOB ∧ oGear s ge wh = (1, 0) ∨ E = eIAE ∧ oGear s ge wh = (2, 0)) ∧ M' = M) 2 12 := by
  refine CtX.of (by decide +kernel) (Nat.le_of_ble_eq_true rfl) [(0, .ref N), (1, .int (iI ge)), (2, .int (iI wh))] rfl ?_
  intro X B Tx
  have hs1 := hok.1
  have hs2 := hok.2.1
  have hs3 := hok.2.2.1
  have hs4 := hok.2.2.2.1
  obtain ⟨hge1, hge2⟩ := hge
  obtain ⟨hwh1, hwh2⟩ := hwh
  refine r_aload_n B 0 dX5_gear_0 rfl ?_
  refine r_iload_n B 1 dX5_gear_1 rfl ?_
  refine r_xVa1 B Tx (c_X5_requireGear l hst G M N s hG hA hok ge ⟨by omega, by omega⟩) ⟨rfl, rfl⟩ ok_X5_requireGear vi_X5_requireGear q_535 hG.1 rfl (fun _ => rfl) ⟨Nat.le_of_ble_eq_true rfl, Nat.le_of_ble_eq_true rfl, Nat.le_of_ble_eq_true rfl⟩ ⟨Nat.le_of_ble_eq_true rfl, Nat.le_of_ble_eq_true rfl⟩ dX5_gear_2 ⟨Nat.le_of_ble_eq_true rfl, Nat.le_of_ble_eq_true rfl⟩ (fun E M2 hx => ⟨Or.inl (⟨hx.1, by unfold oGear; rw [if_pos (by omega)]⟩), hx.2.2⟩) (fun rq1 M2 hq1 => ?_)
  obtain ⟨hrq1, hgq1, hmq1⟩ := hq1
  rw [hrq1, hmq1]
  clear hrq1 hmq1
  refine r_astore_n B (lv' := [(3, .ref (gP M (N + 1 + 1) ge)), (0, .ref N), (1, .int (iI ge)), (2, .int (iI wh))]) dX5_gear_5 (by decide) rfl ?_
  have hgk := hok.2.2.2.2.1 ge (by omega) (by omega)
  obtain ⟨hgk1, hgk2, hgk3, hgk4, hgk5⟩ := id hgk
  refine r_iload_n B 3 dX5_gear_6 rfl ?_
  rcases (show wh = 0 ∨ wh = 1 ∨ wh = 2 ∨ wh = 3 ∨ wh = 4 ∨ wh = 5 ∨ (wh < 0 ∨ 5 < wh) by omega) with w | w | w | w | w | w | w
  · subst w
    refine r_tabIn B dX5_gear_7 ⟨by omega, by omega⟩ (off := 37) (tgt := 44) (by omega) (by omega) rfl rfl ?_
    refine r_aload_n B 0 dX5_gear_44 rfl ?_
    refine rg0_teeth B (RowG.gear hG.2.1 hA.2.2.1 (i := ge) (by omega) (by omega)).1 q_43 dX5_gear_45 ?_
    refine r_vi (y := (s.2.2.1 ge).1) (hA.2.2.2.2.1 ge (by omega) (by omega)).1 ?_
    exact WM.xret (Nat.le_of_ble_eq_true rfl) (Nat.le_of_ble_eq_true rfl) (r_iret B dX5_gear_48 ⟨by unfold oGear; rw [if_neg (by omega), if_pos rfl], rfl⟩)
  · subst w
    refine r_tabIn B dX5_gear_7 ⟨by omega, by omega⟩ (off := 42) (tgt := 49) (by omega) (by omega) rfl rfl ?_
    refine r_aload_n B 0 dX5_gear_49 rfl ?_
    refine rg0_module B (RowG.gear hG.2.1 hA.2.2.1 (i := ge) (by omega) (by omega)).1 q_45 dX5_gear_50 ?_
    refine r_vi (y := (s.2.2.1 ge).2.1) (hA.2.2.2.2.1 ge (by omega) (by omega)).2.1 ?_
    exact WM.xret (Nat.le_of_ble_eq_true rfl) (Nat.le_of_ble_eq_true rfl) (r_iret B dX5_gear_53 ⟨by unfold oGear; rw [if_neg (by omega), if_neg (by omega), if_pos rfl], rfl⟩)
  · subst w
    refine r_tabIn B dX5_gear_7 ⟨by omega, by omega⟩ (off := 47) (tgt := 54) (by omega) (by omega) rfl rfl ?_
    refine r_aload_n B 1 dX5_gear_54 rfl ?_
    refine rg5_now B hG.1 q_171 dX5_gear_55 ?_
    refine r_iload_n B 2 dX5_gear_58 rfl ?_
    refine r_pVi1 B (c_X3_linesOf l G M (N + 1) s hG.2.1 hA hok ge (by omega) (by omega)) ⟨rfl, rfl⟩ ok_X3_linesOf vi_X3_linesOf q_324 hG.2.1.1 rfl (fun _ => rfl) ⟨Nat.le_of_ble_eq_true rfl, Nat.le_of_ble_eq_true rfl, Nat.le_of_ble_eq_true rfl⟩ ⟨Nat.le_of_ble_eq_true rfl, Nat.le_of_ble_eq_true rfl⟩ dX5_gear_59 ?_
    exact WM.xret (Nat.le_of_ble_eq_true rfl) (Nat.le_of_ble_eq_true rfl) (r_iret B dX5_gear_62 ⟨by unfold oGear; rw [if_neg (by omega), if_neg (by omega), if_neg (by omega), if_pos rfl], rfl⟩)
  · subst w
    refine r_tabIn B dX5_gear_7 ⟨by omega, by omega⟩ (off := 56) (tgt := 63) (by omega) (by omega) rfl rfl ?_
    refine r_aload_n B 1 dX5_gear_63 rfl ?_
    refine r_iload_n B 2 dX5_gear_64 rfl ?_
    refine r_pVi1 B (c_X5_classOfGear l G M N s hG hA hok ge (by omega) (by omega)) ⟨rfl, rfl⟩ ok_X5_classOfGear vi_X5_classOfGear q_328 hG.1 rfl (fun _ => rfl) ⟨Nat.le_of_ble_eq_true rfl, Nat.le_of_ble_eq_true rfl, Nat.le_of_ble_eq_true rfl⟩ ⟨Nat.le_of_ble_eq_true rfl, Nat.le_of_ble_eq_true rfl⟩ dX5_gear_65 ?_
    exact WM.xret (Nat.le_of_ble_eq_true rfl) (Nat.le_of_ble_eq_true rfl) (r_iret B dX5_gear_68 ⟨by unfold oGear; rw [if_neg (by omega), if_neg (by omega), if_neg (by omega), if_neg (by omega), if_pos rfl], rfl⟩)
  · subst w
    refine r_tabIn B dX5_gear_7 ⟨by omega, by omega⟩ (off := 62) (tgt := 69) (by omega) (by omega) rfl rfl ?_
    refine r_aload_n B 0 dX5_gear_69 rfl ?_
    refine r_iconst B dX5_gear_70 ?_
    refine r_pVi1 B (c_X0_closingError l G M (gP M (N + 1 + 1) ge) (s.2.2.1 ge).1 (s.2.2.1 ge).2.1 (s.2.2.1 ge).2.2 (RowG.gear hG.2.1 hA.2.2.1 (i := ge) (by omega) (by omega)) (hA.2.2.2.2.1 ge (by omega) (by omega)) (hok.2.2.2.2.1 ge (by omega) (by omega)) 0 (by omega) (by omega)) ⟨rfl, rfl⟩ ok_X0_closingError vi_X0_closingError q_428 (RowG.gear hG.2.1 hA.2.2.1 (i := ge) (by omega) (by omega)).1 rfl (fun _ => rfl) ⟨Nat.le_of_ble_eq_true rfl, Nat.le_of_ble_eq_true rfl, Nat.le_of_ble_eq_true rfl⟩ ⟨Nat.le_of_ble_eq_true rfl, Nat.le_of_ble_eq_true rfl⟩ dX5_gear_71 ?_
    exact WM.xret (Nat.le_of_ble_eq_true rfl) (Nat.le_of_ble_eq_true rfl) (r_iret B dX5_gear_74 ⟨by unfold oGear; rw [if_neg (by omega), if_neg (by omega), if_neg (by omega), if_neg (by omega), if_neg (by omega), if_pos rfl], rfl⟩)
  · subst w
    refine r_tabIn B dX5_gear_7 ⟨by omega, by omega⟩ (off := 68) (tgt := 75) (by omega) (by omega) rfl rfl ?_
    refine r_aload_n B 0 dX5_gear_75 rfl ?_
    refine r_iconst B dX5_gear_76 ?_
    refine r_pVi1 B (c_X0_closingError l G M (gP M (N + 1 + 1) ge) (s.2.2.1 ge).1 (s.2.2.1 ge).2.1 (s.2.2.1 ge).2.2 (RowG.gear hG.2.1 hA.2.2.1 (i := ge) (by omega) (by omega)) (hA.2.2.2.2.1 ge (by omega) (by omega)) (hok.2.2.2.2.1 ge (by omega) (by omega)) 1 (by omega) (by omega)) ⟨rfl, rfl⟩ ok_X0_closingError vi_X0_closingError q_428 (RowG.gear hG.2.1 hA.2.2.1 (i := ge) (by omega) (by omega)).1 rfl (fun _ => rfl) ⟨Nat.le_of_ble_eq_true rfl, Nat.le_of_ble_eq_true rfl, Nat.le_of_ble_eq_true rfl⟩ ⟨Nat.le_of_ble_eq_true rfl, Nat.le_of_ble_eq_true rfl⟩ dX5_gear_77 ?_
    exact WM.xret (Nat.le_of_ble_eq_true rfl) (Nat.le_of_ble_eq_true rfl) (r_iret B dX5_gear_80 ⟨by unfold oGear; rw [if_neg (by omega), if_neg (by omega), if_neg (by omega), if_neg (by omega), if_neg (by omega), if_neg (by omega), if_pos rfl], rfl⟩)
  · refine r_tabOut B dX5_gear_7 ⟨by omega, by omega⟩ (tgt := 81) (by omega) rfl ?_
    exact r_thrA B Tx hst (is := 141) (text := "what out of range") (by decide +kernel) dX5_gear_81 dX5_gear_84 dX5_gear_85 dX5_gear_87 dX5_gear_90 ⟨Nat.le_of_ble_eq_true rfl, Nat.le_of_ble_eq_true rfl, Nat.le_of_ble_eq_true rfl, Nat.le_of_ble_eq_true rfl⟩ ⟨Nat.le_of_ble_eq_true rfl, Nat.le_of_ble_eq_true rfl⟩ ⟨Or.inr ⟨rfl, by unfold oGear; rw [if_neg (by omega), if_neg (by omega), if_neg (by omega), if_neg (by omega), if_neg (by omega), if_neg (by omega), if_neg (by omega)]⟩, rfl⟩

set_option maxRecDepth 100000 in
set_option maxHeartbeats 4000000 in
theorem c_X5_line (l : Launch) (hst : l.stackTraces = false) (G : Gs) (M : Mem) (N : Nat) (s : Ast) (hG : IsGg G N) (hA : StateIs M (N + 1) s) (hok : StateOk s) (li wh : Int) (hli : In32 li) (hwh : In32 wh) : CtX l G yX5_line cX5_line 4 (some .int) rx_X5_line [.ref N, .int (iI li), .int (iI wh)] M (PoI G (fun r M' => oLine s li wh = (0, r) ∧ M' = M)) (fun E M' => (E = eIOB ∧ oLine s li wh = (1, 0) ∨ E = eIAE ∧ oLine s li wh = (2, 0)) ∧ M' = M) 2 12 := by
  refine CtX.of (by decide +kernel) (Nat.le_of_ble_eq_true rfl) [(0, .ref N), (1, .int (iI li)), (2, .int (iI wh))] rfl ?_
  intro X B Tx
  have hs1 := hok.1
  have hs2 := hok.2.1
  have hs3 := hok.2.2.1
  have hs4 := hok.2.2.2.1
  obtain ⟨hli1, hli2⟩ := hli
  obtain ⟨hwh1, hwh2⟩ := hwh
  refine r_aload_n B 0 dX5_line_0 rfl ?_
  refine r_iload_n B 1 dX5_line_1 rfl ?_
  refine r_xVa1 B Tx (c_X5_requireLine l hst G M N s hG hA hok li ⟨by omega, by omega⟩) ⟨rfl, rfl⟩ ok_X5_requireLine vi_X5_requireLine q_719 hG.1 rfl (fun _ => rfl) ⟨Nat.le_of_ble_eq_true rfl, Nat.le_of_ble_eq_true rfl, Nat.le_of_ble_eq_true rfl⟩ ⟨Nat.le_of_ble_eq_true rfl, Nat.le_of_ble_eq_true rfl⟩ dX5_line_2 ⟨Nat.le_of_ble_eq_true rfl, Nat.le_of_ble_eq_true rfl⟩ (fun E M2 hx => ⟨Or.inl (⟨hx.1, by unfold oLine; rw [if_pos (by omega)]⟩), hx.2.2⟩) (fun rq1 M2 hq1 => ?_)
  obtain ⟨hrq1, hgq1, hmq1⟩ := hq1
  rw [hrq1, hmq1]
  clear hrq1 hmq1
  refine r_astore_n B (lv' := [(3, .ref (gP M (N + 1 + 2) li)), (0, .ref N), (1, .int (iI li)), (2, .int (iI wh))]) dX5_line_5 (by decide) rfl ?_
  refine r_iload_n B 3 dX5_line_6 rfl ?_
  rcases (show wh = 0 ∨ wh = 1 ∨ wh = 2 ∨ (wh < 0 ∨ 2 < wh) by omega) with w | w | w | w
  · subst w
    refine r_tabIn B dX5_line_7 ⟨by omega, by omega⟩ (off := 25) (tgt := 32) (by omega) (by omega) rfl rfl ?_
    refine r_aload_n B 0 dX5_line_32 rfl ?_
    refine rg1_gear B (RowL.line hG.2.1 hA.2.2.2.1 (i := li) (by omega) (by omega)).1 q_64 dX5_line_33 ?_
    refine r_vi (y := (s.2.2.2 li).1) (hA.2.2.2.2.2 li (by omega) (by omega)).1 ?_
    exact WM.xret (Nat.le_of_ble_eq_true rfl) (Nat.le_of_ble_eq_true rfl) (r_iret B dX5_line_36 ⟨by unfold oLine; rw [if_neg (by omega), if_pos rfl], rfl⟩)
  · subst w
    refine r_tabIn B dX5_line_7 ⟨by omega, by omega⟩ (off := 30) (tgt := 37) (by omega) (by omega) rfl rfl ?_
    refine r_aload_n B 0 dX5_line_37 rfl ?_
    refine rg1_kind B (RowL.line hG.2.1 hA.2.2.2.1 (i := li) (by omega) (by omega)).1 q_67 dX5_line_38 ?_
    refine r_vi (y := (s.2.2.2 li).2.1) (hA.2.2.2.2.2 li (by omega) (by omega)).2.1 ?_
    exact WM.xret (Nat.le_of_ble_eq_true rfl) (Nat.le_of_ble_eq_true rfl) (r_iret B dX5_line_41 ⟨by unfold oLine; rw [if_neg (by omega), if_neg (by omega), if_pos rfl], rfl⟩)
  · subst w
    refine r_tabIn B dX5_line_7 ⟨by omega, by omega⟩ (off := 35) (tgt := 42) (by omega) (by omega) rfl rfl ?_
    refine r_aload_n B 0 dX5_line_42 rfl ?_
    refine rg1_count B (RowL.line hG.2.1 hA.2.2.2.1 (i := li) (by omega) (by omega)).1 q_69 dX5_line_43 ?_
    refine r_vi (y := (s.2.2.2 li).2.2.1) (hA.2.2.2.2.2 li (by omega) (by omega)).2.2.1 ?_
    exact WM.xret (Nat.le_of_ble_eq_true rfl) (Nat.le_of_ble_eq_true rfl) (r_iret B dX5_line_46 ⟨by unfold oLine; rw [if_neg (by omega), if_neg (by omega), if_neg (by omega), if_pos rfl], rfl⟩)
  · refine r_tabOut B dX5_line_7 ⟨by omega, by omega⟩ (tgt := 47) (by omega) rfl ?_
    exact r_thrA B Tx hst (is := 141) (text := "what out of range") (by decide +kernel) dX5_line_47 dX5_line_50 dX5_line_51 dX5_line_53 dX5_line_56 ⟨Nat.le_of_ble_eq_true rfl, Nat.le_of_ble_eq_true rfl, Nat.le_of_ble_eq_true rfl, Nat.le_of_ble_eq_true rfl⟩ ⟨Nat.le_of_ble_eq_true rfl, Nat.le_of_ble_eq_true rfl⟩ ⟨Or.inr ⟨rfl, by unfold oLine; rw [if_neg (by omega), if_neg (by omega), if_neg (by omega), if_neg (by omega)]⟩, rfl⟩

set_option maxRecDepth 100000 in
set_option maxHeartbeats 4000000 in
theorem c_X5_point (l : Launch) (hst : l.stackTraces = false) (G : Gs) (M : Mem) (N : Nat) (s : Ast) (hG : IsGg G N) (hA : StateIs M (N + 1) s) (hok : StateOk s) (li pt : Int) (hli : In32 li) (hpt : In32 pt) : CtX l G yX5_point cX5_point 4 (some .int) rx_X5_point [.ref N, .int (iI li), .int (iI pt)] M (PoI G (fun r M' => oPoint s li pt = (0, r) ∧ M' = M)) (fun E M' => (E = eIOB ∧ oPoint s li pt = (1, 0)) ∧ M' = M) 2 12 := by
  refine CtX.of (by decide +kernel) (Nat.le_of_ble_eq_true rfl) [(0, .ref N), (1, .int (iI li)), (2, .int (iI pt))] rfl ?_
  intro X B Tx
  have hs1 := hok.1
  have hs2 := hok.2.1
  have hs3 := hok.2.2.1
  have hs4 := hok.2.2.2.1
  obtain ⟨hli1, hli2⟩ := hli
  obtain ⟨hpt1, hpt2⟩ := hpt
  refine r_aload_n B 0 dX5_point_0 rfl ?_
  refine r_iload_n B 1 dX5_point_1 rfl ?_
  refine r_xVa1 B Tx (c_X5_requireLine l hst G M N s hG hA hok li ⟨by omega, by omega⟩) ⟨rfl, rfl⟩ ok_X5_requireLine vi_X5_requireLine q_719 hG.1 rfl (fun _ => rfl) ⟨Nat.le_of_ble_eq_true rfl, Nat.le_of_ble_eq_true rfl, Nat.le_of_ble_eq_true rfl⟩ ⟨Nat.le_of_ble_eq_true rfl, Nat.le_of_ble_eq_true rfl⟩ dX5_point_2 ⟨Nat.le_of_ble_eq_true rfl, Nat.le_of_ble_eq_true rfl⟩ (fun E M2 hx => ⟨⟨hx.1, by unfold oPoint; rw [if_neg (by omega)]⟩, hx.2.2⟩) (fun rq1 M2 hq1 => ?_)
  obtain ⟨hrq1, hgq1, hmq1⟩ := hq1
  rw [hrq1, hmq1]
  clear hrq1 hmq1
  refine r_astore_n B (lv' := [(3, .ref (gP M (N + 1 + 2) li)), (0, .ref N), (1, .int (iI li)), (2, .int (iI pt))]) dX5_point_5 (by decide) rfl ?_
  have hlk := hok.2.2.2.2.2 li (by omega) (by omega)
  obtain ⟨⟨hln0, hln1, hlv⟩, hlg0, hlg1, hlk0, hlk1⟩ := id hlk
  refine r_iload_n B 3 dX5_point_6 rfl ?_
  refine r_if_lt B dX5_point_7 rfl ⟨by omega, by omega⟩ (fun h3 => ?_) (fun h3 => ?_)
  · exact r_thrO B Tx hst (is := 206) (text := "no such point") (by decide +kernel) dX5_point_18 dX5_point_21 dX5_point_22 dX5_point_24 dX5_point_27 ⟨Nat.le_of_ble_eq_true rfl, Nat.le_of_ble_eq_true rfl, Nat.le_of_ble_eq_true rfl, Nat.le_of_ble_eq_true rfl⟩ ⟨Nat.le_of_ble_eq_true rfl, Nat.le_of_ble_eq_true rfl⟩ ⟨⟨rfl, by unfold oPoint; rw [if_neg (by omega)]⟩, rfl⟩
  · refine r_iload_n B 3 dX5_point_10 rfl ?_
    refine r_aload_n B 0 dX5_point_11 rfl ?_
    refine rg1_count B (RowL.line hG.2.1 hA.2.2.2.1 (i := li) (by omega) (by omega)).1 q_69 dX5_point_12 ?_
    refine r_vi (y := (s.2.2.2 li).2.2.1) (hA.2.2.2.2.2 li (by omega) (by omega)).2.2.1 ?_
    refine r_icmp_lt B dX5_point_15 rfl ⟨by omega, by omega⟩ ⟨by omega, by omega⟩ (fun h4 => ?_) (fun h4 => ?_)
    · refine r_aload_n B 0 dX5_point_28 rfl ?_
      refine rg1_points B (RowL.line hG.2.1 hA.2.2.2.1 (i := li) (by omega) (by omega)).1 q_75 dX5_point_29 ?_
      refine r_iload_n B 3 dX5_point_32 rfl ?_
      refine r_iaload B dX5_point_33 (RowL.line hG.2.1 hA.2.2.2.1 (i := li) (by omega) (by omega)).2 (by omega) (by omega) ?_
      refine r_vi (y := (s.2.2.2 li).2.2.2 pt) ((hA.2.2.2.2.2 li (by omega) (by omega)).2.2.2.2.2.2.2 pt (by omega) (by omega)) ?_
      exact WM.xret (Nat.le_of_ble_eq_true rfl) (Nat.le_of_ble_eq_true rfl) (r_iret B dX5_point_34 ⟨by unfold oPoint; rw [if_pos (by omega)], rfl⟩)
    · exact r_thrO B Tx hst (is := 206) (text := "no such point") (by decide +kernel) dX5_point_18 dX5_point_21 dX5_point_22 dX5_point_24 dX5_point_27 ⟨Nat.le_of_ble_eq_true rfl, Nat.le_of_ble_eq_true rfl, Nat.le_of_ble_eq_true rfl, Nat.le_of_ble_eq_true rfl⟩ ⟨Nat.le_of_ble_eq_true rfl, Nat.le_of_ble_eq_true rfl⟩ ⟨⟨rfl, by unfold oPoint; rw [if_neg (by omega)]⟩, rfl⟩

set_option maxRecDepth 100000 in
set_option maxHeartbeats 4000000 in
theorem c_X5_lineDeviation (l : Launch) (hst : l.stackTraces = false) (G : Gs) (M : Mem) (N : Nat) (s : Ast) (hG : IsGg G N) (hA : StateIs M (N + 1) s) (hok : StateOk s) (li wh : Int) (hli : In32 li) (hwh : In32 wh) : CtX l G yX5_lineDeviation cX5_lineDeviation 4 (some .int) rx_X5_lineDeviation [.ref N, .int (iI li), .int (iI wh)] M (PoI G (fun r M' => oLdev s li wh = (0, r) ∧ M' = M)) (fun E M' => (E = eIOB ∧ oLdev s li wh = (1, 0) ∨ E = eIAE ∧ oLdev s li wh = (2, 0) ∨ E = eISE ∧ oLdev s li wh = (3, 0)) ∧ M' = M) 3 18 := by
  refine CtX.of (by decide +kernel) (Nat.le_of_ble_eq_true rfl) [(0, .ref N), (1, .int (iI li)), (2, .int (iI wh))] rfl ?_
  intro X B Tx
  have hs1 := hok.1
  have hs2 := hok.2.1
  have hs3 := hok.2.2.1
  have hs4 := hok.2.2.2.1
  obtain ⟨hli1, hli2⟩ := hli
  obtain ⟨hwh1, hwh2⟩ := hwh
  refine r_aload_n B 0 dX5_lineDeviation_0 rfl ?_
  refine r_iload_n B 1 dX5_lineDeviation_1 rfl ?_
  refine r_xVa1 B Tx (c_X5_requireLine l hst G M N s hG hA hok li ⟨by omega, by omega⟩) ⟨rfl, rfl⟩ ok_X5_requireLine vi_X5_requireLine q_719 hG.1 rfl (fun _ => rfl) ⟨Nat.le_of_ble_eq_true rfl, Nat.le_of_ble_eq_true rfl, Nat.le_of_ble_eq_true rfl⟩ ⟨Nat.le_of_ble_eq_true rfl, Nat.le_of_ble_eq_true rfl⟩ dX5_lineDeviation_2 ⟨Nat.le_of_ble_eq_true rfl, Nat.le_of_ble_eq_true rfl⟩ (fun E M2 hx => ⟨Or.inl (⟨hx.1, by unfold oLdev; rw [if_pos (by omega)]⟩), hx.2.2⟩) (fun rq1 M2 hq1 => ?_)
  obtain ⟨hrq1, hgq1, hmq1⟩ := hq1
  rw [hrq1, hmq1]
  clear hrq1 hmq1
  refine r_astore_n B (lv' := [(3, .ref (gP M (N + 1 + 2) li)), (0, .ref N), (1, .int (iI li)), (2, .int (iI wh))]) dX5_lineDeviation_5 (by decide) rfl ?_
  have hlk := hok.2.2.2.2.2 li (by omega) (by omega)
  obtain ⟨⟨hln0, hln1, hlv⟩, hlg0, hlg1, hlk0, hlk1⟩ := id hlk
  refine r_iload_n B 3 dX5_lineDeviation_6 rfl ?_
  refine r_if_lt B dX5_lineDeviation_7 rfl ⟨by omega, by omega⟩ (fun h3 => ?_) (fun h3 => ?_)
  · exact r_thrA B Tx hst (is := 141) (text := "what out of range") (by decide +kernel) dX5_lineDeviation_15 dX5_lineDeviation_18 dX5_lineDeviation_19 dX5_lineDeviation_21 dX5_lineDeviation_24 ⟨Nat.le_of_ble_eq_true rfl, Nat.le_of_ble_eq_true rfl, Nat.le_of_ble_eq_true rfl, Nat.le_of_ble_eq_true rfl⟩ ⟨Nat.le_of_ble_eq_true rfl, Nat.le_of_ble_eq_true rfl⟩ ⟨Or.inr (Or.inl (⟨rfl, by unfold oLdev; rw [if_neg (by omega), if_pos (by omega)]⟩)), rfl⟩
  · refine r_iload_n B 3 dX5_lineDeviation_10 rfl ?_
    refine r_iconst B dX5_lineDeviation_11 ?_
    refine r_icmp_lt B dX5_lineDeviation_12 rfl ⟨by omega, by omega⟩ ⟨by omega, by omega⟩ (fun h4 => ?_) (fun h4 => ?_)
    · refine r_aload_n B 0 dX5_lineDeviation_25 rfl ?_
      refine r_xSv1 B Tx (c_X5_requirePoints l hst G M (gP M (N + 1 + 2) li) ((s.2.2.2 li).1) ((s.2.2.2 li).2.1) ((s.2.2.2 li).2.2.1) ((s.2.2.2 li).2.2.2) (RowL.line hG.2.1 hA.2.2.2.1 (i := li) (by omega) (by omega)) (hA.2.2.2.2.2 li (by omega) (by omega)) (hok.2.2.2.2.2 li (by omega) (by omega)).1) ⟨rfl, rfl⟩ ok_X5_requirePoints q_757 q_756 ⟨Nat.le_of_ble_eq_true rfl, Nat.le_of_ble_eq_true rfl, Nat.le_of_ble_eq_true rfl⟩ ⟨Nat.le_of_ble_eq_true rfl, Nat.le_of_ble_eq_true rfl⟩ dX5_lineDeviation_26 ⟨Nat.le_of_ble_eq_true rfl, Nat.le_of_ble_eq_true rfl⟩ (fun E M2 hx => ⟨Or.inr (Or.inr (⟨hx.1, by unfold oLdev; rw [if_neg (by omega), if_neg (by omega), if_pos (by omega)]⟩)), hx.2.2⟩) (fun M6 hq5 => ?_)
      obtain ⟨hgq5, hmq5⟩ := hq5
      rw [hmq5]
      clear hmq5
      refine r_aload_n B 0 dX5_lineDeviation_29 rfl ?_
      refine r_iload_n B 3 dX5_lineDeviation_30 rfl ?_
      refine r_pVi1 B (c_X1_deviationOf l G M (gP M (N + 1 + 2) li) (s.2.2.2 li).1 (s.2.2.2 li).2.1 (s.2.2.2 li).2.2.1 (s.2.2.2 li).2.2.2 (RowL.line hG.2.1 hA.2.2.2.1 (i := li) (by omega) (by omega)) (hA.2.2.2.2.2 li (by omega) (by omega)) (hok.2.2.2.2.2 li (by omega) (by omega)).1 wh (by omega) (by omega) (by omega)) ⟨rfl, rfl⟩ ok_X1_deviationOf vi_X1_deviationOf q_431 (RowL.line hG.2.1 hA.2.2.2.1 (i := li) (by omega) (by omega)).1 rfl (fun _ => rfl) ⟨Nat.le_of_ble_eq_true rfl, Nat.le_of_ble_eq_true rfl, Nat.le_of_ble_eq_true rfl⟩ ⟨Nat.le_of_ble_eq_true rfl, Nat.le_of_ble_eq_true rfl⟩ dX5_lineDeviation_31 ?_
      exact WM.xret (Nat.le_of_ble_eq_true rfl) (Nat.le_of_ble_eq_true rfl) (r_iret B dX5_lineDeviation_34 ⟨by unfold oLdev; rw [if_neg (by omega), if_neg (by omega), if_neg (by omega)], rfl⟩)
    · exact r_thrA B Tx hst (is := 141) (text := "what out of range") (by decide +kernel) dX5_lineDeviation_15 dX5_lineDeviation_18 dX5_lineDeviation_19 dX5_lineDeviation_21 dX5_lineDeviation_24 ⟨Nat.le_of_ble_eq_true rfl, Nat.le_of_ble_eq_true rfl, Nat.le_of_ble_eq_true rfl, Nat.le_of_ble_eq_true rfl⟩ ⟨Nat.le_of_ble_eq_true rfl, Nat.le_of_ble_eq_true rfl⟩ ⟨Or.inr (Or.inl (⟨rfl, by unfold oLdev; rw [if_neg (by omega), if_pos (by omega)]⟩)), rfl⟩

set_option maxRecDepth 100000 in
set_option maxHeartbeats 4000000 in
theorem c_X5_tolerance (l : Launch) (hst : l.stackTraces = false) (G : Gs) (M : Mem) (N : Nat) (s : Ast) (hG : IsGg G N) (hA : StateIs M (N + 1) s) (hok : StateOk s) (ge wh qu : Int) (hge : In32 ge) (hwh : In32 wh) (hqu : In32 qu) : CtX l G yX5_tolerance cX5_tolerance 5 (some .int) rx_X5_tolerance [.ref N, .int (iI ge), .int (iI wh), .int (iI qu)] M (PoI G (fun r M' => oTol s ge wh qu = (0, r) ∧ M' = M)) (fun E M' => (E = eIOB ∧ oTol s ge wh qu = (1, 0) ∨ E = eIAE ∧ oTol s ge wh qu = (2, 0)) ∧ M' = M) 3 18 := by
  refine CtX.of (by decide +kernel) (Nat.le_of_ble_eq_true rfl) [(0, .ref N), (1, .int (iI ge)), (2, .int (iI wh)), (3, .int (iI qu))] rfl ?_
  intro X B Tx
  have hs1 := hok.1
  have hs2 := hok.2.1
  have hs3 := hok.2.2.1
  have hs4 := hok.2.2.2.1
  obtain ⟨hge1, hge2⟩ := hge
  obtain ⟨hwh1, hwh2⟩ := hwh
  obtain ⟨hqu1, hqu2⟩ := hqu
  refine r_aload_n B 0 dX5_tolerance_0 rfl ?_
  refine r_iload_n B 1 dX5_tolerance_1 rfl ?_
  refine r_xVa1 B Tx (c_X5_requireGear l hst G M N s hG hA hok ge ⟨by omega, by omega⟩) ⟨rfl, rfl⟩ ok_X5_requireGear vi_X5_requireGear q_535 hG.1 rfl (fun _ => rfl) ⟨Nat.le_of_ble_eq_true rfl, Nat.le_of_ble_eq_true rfl, Nat.le_of_ble_eq_true rfl⟩ ⟨Nat.le_of_ble_eq_true rfl, Nat.le_of_ble_eq_true rfl⟩ dX5_tolerance_2 ⟨Nat.le_of_ble_eq_true rfl, Nat.le_of_ble_eq_true rfl⟩ (fun E M2 hx => ⟨Or.inl (⟨hx.1, by unfold oTol; rw [if_pos (by omega)]⟩), hx.2.2⟩) (fun rq1 M2 hq1 => ?_)
  obtain ⟨hrq1, hgq1, hmq1⟩ := hq1
  rw [hrq1, hmq1]
  clear hrq1 hmq1
  refine r_astore B (lv' := [(4, .ref (gP M (N + 1 + 1) ge)), (0, .ref N), (1, .int (iI ge)), (2, .int (iI wh)), (3, .int (iI qu))]) dX5_tolerance_5 (by decide) rfl ?_
  have hgk := hok.2.2.2.2.1 ge (by omega) (by omega)
  obtain ⟨hgk1, hgk2, hgk3, hgk4, hgk5⟩ := id hgk
  have hbt := btS_in (t := (s.2.2.1 ge).1) (m := (s.2.2.1 ge).2.1) (w := wh) hgk3 hgk4
  refine r_iload_n B 3 dX5_tolerance_7 rfl ?_
  refine r_xSv1 B Tx (c_X5_requireWhat l hst G M wh ⟨by omega, by omega⟩) ⟨rfl, rfl⟩ ok_X5_requireWhat q_700 q_699 ⟨Nat.le_of_ble_eq_true rfl, Nat.le_of_ble_eq_true rfl, Nat.le_of_ble_eq_true rfl⟩ ⟨Nat.le_of_ble_eq_true rfl, Nat.le_of_ble_eq_true rfl⟩ dX5_tolerance_8 ⟨Nat.le_of_ble_eq_true rfl, Nat.le_of_ble_eq_true rfl⟩ (fun E M2 hx => ⟨Or.inr (⟨hx.1, by unfold oTol; rw [if_neg (by omega), if_pos (by omega)]⟩), hx.2.2⟩) (fun M4 hq3 => ?_)
  obtain ⟨hgq3, hmq3⟩ := hq3
  rw [hmq3]
  clear hmq3
  refine r_iload_n B 4 dX5_tolerance_11 rfl ?_
  refine r_xSv1 B Tx (c_X5_requireClass l hst G M qu ⟨by omega, by omega⟩) ⟨rfl, rfl⟩ ok_X5_requireClass q_786 q_785 ⟨Nat.le_of_ble_eq_true rfl, Nat.le_of_ble_eq_true rfl, Nat.le_of_ble_eq_true rfl⟩ ⟨Nat.le_of_ble_eq_true rfl, Nat.le_of_ble_eq_true rfl⟩ dX5_tolerance_12 ⟨Nat.le_of_ble_eq_true rfl, Nat.le_of_ble_eq_true rfl⟩ (fun E M2 hx => ⟨Or.inr (⟨hx.1, by unfold oTol; rw [if_neg (by omega), if_pos (by omega)]⟩), hx.2.2⟩) (fun M6 hq5 => ?_)
  obtain ⟨hgq5, hmq5⟩ := hq5
  rw [hmq5]
  clear hmq5
  refine r_aload B 0 dX5_tolerance_15 rfl ?_
  refine r_iload_n B 3 dX5_tolerance_17 rfl ?_
  refine r_pSi2 B (c_X5_baseTolerance l G M (gP M (N + 1 + 1) ge) ((s.2.2.1 ge).1) ((s.2.2.1 ge).2.1) wh ((s.2.2.1 ge).2.2) (RowG.gear hG.2.1 hA.2.2.1 (i := ge) (by omega) (by omega)) (hA.2.2.2.2.1 ge (by omega) (by omega)) (by omega) (by omega) (by omega) (by omega) (by omega) (by omega)) ⟨rfl, rfl⟩ ok_X5_baseTolerance q_333 q_332 ⟨Nat.le_of_ble_eq_true rfl, Nat.le_of_ble_eq_true rfl, Nat.le_of_ble_eq_true rfl⟩ ⟨Nat.le_of_ble_eq_true rfl, Nat.le_of_ble_eq_true rfl⟩ dX5_tolerance_18 ?_
  refine r_iload_n B 4 dX5_tolerance_21 rfl ?_
  refine r_pSi2 B (c_X5_ofClass l G M (btS ((s.2.2.1 ge).1) ((s.2.2.1 ge).2.1) wh) qu (by omega) (by omega) (by omega) (by omega)) ⟨rfl, rfl⟩ ok_X5_ofClass q_425 q_424 ⟨Nat.le_of_ble_eq_true rfl, Nat.le_of_ble_eq_true rfl, Nat.le_of_ble_eq_true rfl⟩ ⟨Nat.le_of_ble_eq_true rfl, Nat.le_of_ble_eq_true rfl⟩ dX5_tolerance_22 ?_
  exact WM.xret (Nat.le_of_ble_eq_true rfl) (Nat.le_of_ble_eq_true rfl) (r_iret B dX5_tolerance_25 ⟨by unfold oTol; rw [if_neg (by omega), if_neg (by omega)], rfl⟩)

set_option maxRecDepth 100000 in
set_option maxHeartbeats 4000000 in
theorem c_X5_quality (l : Launch) (hst : l.stackTraces = false) (G : Gs) (M : Mem) (N : Nat) (s : Ast) (hG : IsGg G N) (hA : StateIs M (N + 1) s) (hok : StateOk s) (ge wh : Int) (hge : In32 ge) (hwh : In32 wh) : CtX l G yX5_quality cX5_quality 4 (some .int) rx_X5_quality [.ref N, .int (iI ge), .int (iI wh)] M (PoI G (fun r M' => oQual s ge wh = (0, r) ∧ M' = M)) (fun E M' => (E = eIOB ∧ oQual s ge wh = (1, 0) ∨ E = eIAE ∧ oQual s ge wh = (2, 0)) ∧ M' = M) 2 12 := by
  refine CtX.of (by decide +kernel) (Nat.le_of_ble_eq_true rfl) [(0, .ref N), (1, .int (iI ge)), (2, .int (iI wh))] rfl ?_
  intro X B Tx
  have hs1 := hok.1
  have hs2 := hok.2.1
  have hs3 := hok.2.2.1
  have hs4 := hok.2.2.2.1
  obtain ⟨hge1, hge2⟩ := hge
  obtain ⟨hwh1, hwh2⟩ := hwh
  refine r_aload_n B 0 dX5_quality_0 rfl ?_
  refine r_iload_n B 1 dX5_quality_1 rfl ?_
  refine r_xVa1 B Tx (c_X5_requireGear l hst G M N s hG hA hok ge ⟨by omega, by omega⟩) ⟨rfl, rfl⟩ ok_X5_requireGear vi_X5_requireGear q_535 hG.1 rfl (fun _ => rfl) ⟨Nat.le_of_ble_eq_true rfl, Nat.le_of_ble_eq_true rfl, Nat.le_of_ble_eq_true rfl⟩ ⟨Nat.le_of_ble_eq_true rfl, Nat.le_of_ble_eq_true rfl⟩ dX5_quality_2 ⟨Nat.le_of_ble_eq_true rfl, Nat.le_of_ble_eq_true rfl⟩ (fun E M2 hx => ⟨Or.inl ⟨hx.1, by unfold oQual; rw [if_pos (by omega)]⟩, hx.2.2⟩) (fun rq1 M2 hq1 => ?_)
  obtain ⟨hrq1, hgq1, hmq1⟩ := hq1
  rw [hrq1, hmq1]
  clear hrq1 hmq1
  refine r_astore_n B (lv' := [(3, .ref (gP M (N + 1 + 1) ge)), (0, .ref N), (1, .int (iI ge)), (2, .int (iI wh))]) dX5_quality_5 (by decide) rfl ?_
  have hgk := hok.2.2.2.2.1 ge (by omega) (by omega)
  obtain ⟨hgk1, hgk2, hgk3, hgk4, hgk5⟩ := id hgk
  have hbt := btS_in (t := (s.2.2.1 ge).1) (m := (s.2.2.1 ge).2.1) (w := wh) hgk3 hgk4
  have hdv := dvS_in hok (g := ge) (w := wh) (by omega) (by omega)
  refine r_iload_n B 3 dX5_quality_6 rfl ?_
  refine r_iconst B dX5_quality_7 ?_
  refine r_icmp_ne B dX5_quality_8 rfl ⟨by omega, by omega⟩ ⟨by omega, by omega⟩ (fun h3 => ?_) (fun h3 => ?_)
  · refine r_iload_n B 3 dX5_quality_17 rfl ?_
    refine r_xSv1 B Tx (c_X5_requireWhat l hst G M wh ⟨by omega, by omega⟩) ⟨rfl, rfl⟩ ok_X5_requireWhat q_700 q_699 ⟨Nat.le_of_ble_eq_true rfl, Nat.le_of_ble_eq_true rfl, Nat.le_of_ble_eq_true rfl⟩ ⟨Nat.le_of_ble_eq_true rfl, Nat.le_of_ble_eq_true rfl⟩ dX5_quality_18 ⟨Nat.le_of_ble_eq_true rfl, Nat.le_of_ble_eq_true rfl⟩ (fun E M2 hx => ⟨Or.inr ⟨hx.1, by unfold oQual; rw [if_neg (by omega), if_neg (by omega), if_pos (by omega)]⟩, hx.2.2⟩) (fun M5 hq4 => ?_)
    obtain ⟨hgq4, hmq4⟩ := hq4
    rw [hmq4]
    clear hmq4
    refine r_aload_n B 0 dX5_quality_21 rfl ?_
    refine r_iload_n B 3 dX5_quality_22 rfl ?_
    refine r_pSi2 B (c_X5_baseTolerance l G M (gP M (N + 1 + 1) ge) ((s.2.2.1 ge).1) ((s.2.2.1 ge).2.1) wh ((s.2.2.1 ge).2.2) (RowG.gear hG.2.1 hA.2.2.1 (i := ge) (by omega) (by omega)) (hA.2.2.2.2.1 ge (by omega) (by omega)) (by omega) (by omega) (by omega) (by omega) (by omega) (by omega)) ⟨rfl, rfl⟩ ok_X5_baseTolerance q_333 q_332 ⟨Nat.le_of_ble_eq_true rfl, Nat.le_of_ble_eq_true rfl, Nat.le_of_ble_eq_true rfl⟩ ⟨Nat.le_of_ble_eq_true rfl, Nat.le_of_ble_eq_true rfl⟩ dX5_quality_23 ?_
    refine r_aload_n B 1 dX5_quality_26 rfl ?_
    refine rg5_now B hG.1 q_171 dX5_quality_27 ?_
    refine r_iload_n B 2 dX5_quality_30 rfl ?_
    refine r_iload_n B 3 dX5_quality_31 rfl ?_
    refine r_pVi2 B (c_X3_deviationOf l G M (N + 1) s hG.2.1 hA hok ge wh (by omega) (by omega) (by omega) (by omega)) ⟨rfl, rfl⟩ ok_X3_deviationOf vi_X3_deviationOf q_338 hG.2.1.1 rfl (fun _ => rfl) ⟨Nat.le_of_ble_eq_true rfl, Nat.le_of_ble_eq_true rfl, Nat.le_of_ble_eq_true rfl⟩ ⟨Nat.le_of_ble_eq_true rfl, Nat.le_of_ble_eq_true rfl⟩ dX5_quality_32 ?_
    refine r_pSi2 B (c_X5_classOf l G M (btS ((s.2.2.1 ge).1) ((s.2.2.1 ge).2.1) wh) (dvS s ge wh) (by omega) (by omega) ⟨by omega, by omega⟩) ⟨rfl, rfl⟩ ok_X5_classOf q_422 q_421 ⟨Nat.le_of_ble_eq_true rfl, Nat.le_of_ble_eq_true rfl, Nat.le_of_ble_eq_true rfl⟩ ⟨Nat.le_of_ble_eq_true rfl, Nat.le_of_ble_eq_true rfl⟩ dX5_quality_35 ?_
    exact WM.xret (Nat.le_of_ble_eq_true rfl) (Nat.le_of_ble_eq_true rfl) (r_iret B dX5_quality_38 ⟨by unfold oQual; rw [if_neg (by omega), if_neg (by omega), if_neg (by omega)]; rfl, rfl⟩)
  · refine r_aload_n B 1 dX5_quality_11 rfl ?_
    refine r_iload_n B 2 dX5_quality_12 rfl ?_
    refine r_pVi1 B (c_X5_classOfGear l G M N s hG hA hok ge (by omega) (by omega)) ⟨rfl, rfl⟩ ok_X5_classOfGear vi_X5_classOfGear q_328 hG.1 rfl (fun _ => rfl) ⟨Nat.le_of_ble_eq_true rfl, Nat.le_of_ble_eq_true rfl, Nat.le_of_ble_eq_true rfl⟩ ⟨Nat.le_of_ble_eq_true rfl, Nat.le_of_ble_eq_true rfl⟩ dX5_quality_13 ?_
    exact WM.xret (Nat.le_of_ble_eq_true rfl) (Nat.le_of_ble_eq_true rfl) (r_iret B dX5_quality_16 ⟨by unfold oQual; rw [if_neg (by omega), if_pos (by omega)], rfl⟩)
