set_option maxRecDepth 100000 in
set_option maxHeartbeats 4000000 in
theorem c_X5_mesh (l : Launch) (hst : l.stackTraces = false) (G : Gs) (M : Mem) (N : Nat) (s : Ast) (hG : IsGg G N) (hA : StateIs M (N + 1) s) (hok : StateOk s) (ge he fl ph : Int) (hge : In32 ge) (hhe : In32 he) (hfl : In32 fl) (hph : In32 ph) : CtX l G yX5_mesh cX5_mesh 7 (some .int) rx_X5_mesh [.ref N, .int (iI ge), .int (iI he), .int (iI fl), .int (iI ph)] M (PoI G (fun r M' => (oMesh s ge he fl ph = (0, r)) ∧ Only M M' (N + 323) (N + 328))) (fun E M' => (E = eIOB ∧ oMesh s ge he fl ph = (1, 0) ∨ E = eIAE ∧ oMesh s ge he fl ph = (2, 0)) ∧ M' = M) 4 24 := by
  refine CtX.of (by decide +kernel) (Nat.le_of_ble_eq_true rfl) [(0, .ref N), (1, .int (iI ge)), (2, .int (iI he)), (3, .int (iI fl)), (4, .int (iI ph))] rfl ?_
  intro X B Tx
  have hs1 := hok.1
  have hs2 := hok.2.1
  have hs3 := hok.2.2.1
  have hs4 := hok.2.2.2.1
  obtain ⟨hge1, hge2⟩ := hge
  obtain ⟨hhe1, hhe2⟩ := hhe
  obtain ⟨hfl1, hfl2⟩ := hfl
  obtain ⟨hph1, hph2⟩ := hph
  refine r_aload_n B 0 dX5_mesh_0 rfl ?_
  refine r_iload_n B 1 dX5_mesh_1 rfl ?_
  refine r_xVa1 B Tx (c_X5_requireGear l hst G M N s hG hA hok ge ⟨by omega, by omega⟩) ⟨rfl, rfl⟩ ok_X5_requireGear vi_X5_requireGear q_535 hG.1 rfl (fun _ => rfl) ⟨Nat.le_of_ble_eq_true rfl, Nat.le_of_ble_eq_true rfl, Nat.le_of_ble_eq_true rfl⟩ ⟨Nat.le_of_ble_eq_true rfl, Nat.le_of_ble_eq_true rfl⟩ dX5_mesh_2 ⟨Nat.le_of_ble_eq_true rfl, Nat.le_of_ble_eq_true rfl⟩ (fun E M2 hx => ⟨Or.inl (⟨hx.1, by unfold oMesh; rw [if_pos (by omega)]⟩), hx.2.2⟩) (fun rq1 M2 hq1 => ?_)
  obtain ⟨hrq1, hgq1, hmq1⟩ := hq1
  rw [hrq1, hmq1]
  clear hrq1 hmq1
  refine r_astore B (lv' := [(5, .ref (gP M (N + 1 + 1) ge)), (0, .ref N), (1, .int (iI ge)), (2, .int (iI he)), (3, .int (iI fl)), (4, .int (iI ph))]) dX5_mesh_5 (by decide) rfl ?_
  refine r_aload_n B 1 dX5_mesh_7 rfl ?_
  refine r_iload_n B 3 dX5_mesh_8 rfl ?_
  refine r_xVa1 B Tx (c_X5_requireGear l hst G M N s hG hA hok he ⟨by omega, by omega⟩) ⟨rfl, rfl⟩ ok_X5_requireGear vi_X5_requireGear q_535 hG.1 rfl (fun _ => rfl) ⟨Nat.le_of_ble_eq_true rfl, Nat.le_of_ble_eq_true rfl, Nat.le_of_ble_eq_true rfl⟩ ⟨Nat.le_of_ble_eq_true rfl, Nat.le_of_ble_eq_true rfl⟩ dX5_mesh_9 ⟨Nat.le_of_ble_eq_true rfl, Nat.le_of_ble_eq_true rfl⟩ (fun E M2 hx => ⟨Or.inl (⟨hx.1, by unfold oMesh; rw [if_pos (by omega)]⟩), hx.2.2⟩) (fun rq3 M4 hq3 => ?_)
  obtain ⟨hrq3, hgq3, hmq3⟩ := hq3
  rw [hrq3, hmq3]
  clear hrq3 hmq3
  refine r_astore B (lv' := [(6, .ref (gP M (N + 1 + 1) he)), (5, .ref (gP M (N + 1 + 1) ge)), (0, .ref N), (1, .int (iI ge)), (2, .int (iI he)), (3, .int (iI fl)), (4, .int (iI ph))]) dX5_mesh_12 (by decide) rfl ?_
  have hgk := hok.2.2.2.2.1 ge (by omega) (by omega)
  obtain ⟨hgk1, hgk2, hgk3, hgk4, hgk5⟩ := id hgk
  have hhk := hok.2.2.2.2.1 he (by omega) (by omega)
  obtain ⟨hhk1, hhk2, -⟩ := id hhk
  have hbge := hA.2.2.1.in (i := ge) (by omega) (by omega)
  have hbhe := hA.2.2.1.in (i := he) (by omega) (by omega)
  refine r_iload_n B 5 dX5_mesh_14 rfl ?_
  refine r_xSv1 B Tx (c_X5_requireFlank l hst G M fl ⟨by omega, by omega⟩) ⟨rfl, rfl⟩ ok_X5_requireFlank q_637 q_636 ⟨Nat.le_of_ble_eq_true rfl, Nat.le_of_ble_eq_true rfl, Nat.le_of_ble_eq_true rfl⟩ ⟨Nat.le_of_ble_eq_true rfl, Nat.le_of_ble_eq_true rfl⟩ dX5_mesh_15 ⟨Nat.le_of_ble_eq_true rfl, Nat.le_of_ble_eq_true rfl⟩ (fun E M2 hx => ⟨Or.inl (⟨hx.1, by unfold oMesh; rw [if_pos (by omega)]⟩), hx.2.2⟩) (fun M6 hq5 => ?_)
  obtain ⟨hgq5, hmq5⟩ := hq5
  rw [hmq5]
  clear hmq5
  refine r_iload B 6 dX5_mesh_18 rfl ?_
  refine r_if_lt B dX5_mesh_20 rfl ⟨by omega, by omega⟩ (fun h7 => ?_) (fun h7 => ?_)
  · exact r_thrA B Tx hst (is := 253) (text := "phase out of range") (by decide +kernel) dX5_mesh_33 dX5_mesh_36 dX5_mesh_37 dX5_mesh_39 dX5_mesh_42 ⟨Nat.le_of_ble_eq_true rfl, Nat.le_of_ble_eq_true rfl, Nat.le_of_ble_eq_true rfl, Nat.le_of_ble_eq_true rfl⟩ ⟨Nat.le_of_ble_eq_true rfl, Nat.le_of_ble_eq_true rfl⟩ ⟨Or.inr (⟨rfl, by unfold oMesh; rw [if_neg (by omega), if_pos (by omega)]⟩), rfl⟩
  · refine r_iload B 6 dX5_mesh_23 rfl ?_
    refine r_aload B 0 dX5_mesh_25 rfl ?_
    refine rg0_teeth B (RowG.gear hG.2.1 hA.2.2.1 (i := he) (by omega) (by omega)).1 q_43 dX5_mesh_27 ?_
    refine r_vi (y := (s.2.2.1 he).1) (hA.2.2.2.2.1 he (by omega) (by omega)).1 ?_
    refine r_icmp_lt B dX5_mesh_30 rfl ⟨by omega, by omega⟩ ⟨by omega, by omega⟩ (fun h8 => ?_) (fun h8 => ?_)
    · refine r_aload_n B 2 dX5_mesh_43 rfl ?_
      refine rg5_pair B hG.1 q_176 dX5_mesh_44 ?_
      refine r_aload B 1 dX5_mesh_47 rfl ?_
      refine r_aload B 0 dX5_mesh_49 rfl ?_
      refine r_iload_n B 5 dX5_mesh_51 rfl ?_
      refine r_Vv3 B (c_X2_engage l G M (N + 323) (gP M (N + 1 + 1) ge) (gP M (N + 1 + 1) he) ((s.2.2.1 ge).1) ((s.2.2.1 ge).2.1) ((s.2.2.1 he).1) ((s.2.2.1 he).2.1) fl ((s.2.2.1 ge).2.2) ((s.2.2.1 he).2.2) hG.2.2.2.2.2.2.1 (RowG.gear hG.2.1 hA.2.2.1 (i := ge) (by omega) (by omega)) (RowG.gear hG.2.1 hA.2.2.1 (i := he) (by omega) (by omega)) (hA.2.2.2.2.1 ge (by omega) (by omega)) (hA.2.2.2.2.1 he (by omega) (by omega)) (hok.2.2.2.2.1 ge (by omega) (by omega)) (hok.2.2.2.2.1 he (by omega) (by omega)) (by omega) (by omega) (by omega) (by omega)) ⟨rfl, rfl⟩ ok_X2_engage vi_X2_engage q_812 hG.2.2.2.2.2.2.1.1 rfl (fun _ => rfl) ⟨Nat.le_of_ble_eq_true rfl, Nat.le_of_ble_eq_true rfl, Nat.le_of_ble_eq_true rfl⟩ ⟨Nat.le_of_ble_eq_true rfl, Nat.le_of_ble_eq_true rfl⟩ dX5_mesh_52 (fun Me hen => ?_)
      refine r_aload_n B 2 dX5_mesh_55 rfl ?_
      refine rg5_pair B hG.1 q_176 dX5_mesh_56 ?_
      refine r_iload B 6 dX5_mesh_59 rfl ?_
      refine r_pVi1 B (c_X2_errorAt l G Me (N + 323) _ _ _ _ _ hG.2.2.2.2.2.2.1 hen.1 (meshOk hok (g := ge) (k := he) (f := fl) (by omega) (by omega) (by omega) (by omega) (by omega) (by omega)) ph (by omega) (by omega)) ⟨rfl, rfl⟩ ok_X2_errorAt vi_X2_errorAt q_824 hG.2.2.2.2.2.2.1.1 rfl (fun _ => rfl) ⟨Nat.le_of_ble_eq_true rfl, Nat.le_of_ble_eq_true rfl, Nat.le_of_ble_eq_true rfl⟩ ⟨Nat.le_of_ble_eq_true rfl, Nat.le_of_ble_eq_true rfl⟩ dX5_mesh_61 ?_
      exact WM.xret (Nat.le_of_ble_eq_true rfl) (Nat.le_of_ble_eq_true rfl) (r_iret B dX5_mesh_64 ⟨by unfold oMesh; rw [if_neg (by omega), if_neg (by omega)]; rfl, hen.2⟩)
    · exact r_thrA B Tx hst (is := 253) (text := "phase out of range") (by decide +kernel) dX5_mesh_33 dX5_mesh_36 dX5_mesh_37 dX5_mesh_39 dX5_mesh_42 ⟨Nat.le_of_ble_eq_true rfl, Nat.le_of_ble_eq_true rfl, Nat.le_of_ble_eq_true rfl, Nat.le_of_ble_eq_true rfl⟩ ⟨Nat.le_of_ble_eq_true rfl, Nat.le_of_ble_eq_true rfl⟩ ⟨Or.inr (⟨rfl, by unfold oMesh; rw [if_neg (by omega), if_pos (by omega)]⟩), rfl⟩

set_option maxRecDepth 100000 in
set_option maxHeartbeats 4000000 in
theorem c_X5_bestPhase (l : Launch) (hst : l.stackTraces = false) (G : Gs) (M : Mem) (N : Nat) (s : Ast) (hG : IsGg G N) (hA : StateIs M (N + 1) s) (hok : StateOk s) (ge he fl : Int) (hge : In32 ge) (hhe : In32 he) (hfl : In32 fl) : CtX l G yX5_bestPhase cX5_bestPhase 6 (some .int) rx_X5_bestPhase [.ref N, .int (iI ge), .int (iI he), .int (iI fl)] M (PoI G (fun r M' => (oBph s ge he fl = (0, r)) ∧ Only M M' (N + 323) (N + 328))) (fun E M' => (E = eIOB ∧ oBph s ge he fl = (1, 0)) ∧ M' = M) 3 18 := by
  refine CtX.of (by decide +kernel) (Nat.le_of_ble_eq_true rfl) [(0, .ref N), (1, .int (iI ge)), (2, .int (iI he)), (3, .int (iI fl))] rfl ?_
  intro X B Tx
  have hs1 := hok.1
  have hs2 := hok.2.1
  have hs3 := hok.2.2.1
  have hs4 := hok.2.2.2.1
  obtain ⟨hge1, hge2⟩ := hge
  obtain ⟨hhe1, hhe2⟩ := hhe
  obtain ⟨hfl1, hfl2⟩ := hfl
  refine r_aload_n B 0 dX5_bestPhase_0 rfl ?_
  refine r_iload_n B 1 dX5_bestPhase_1 rfl ?_
  refine r_xVa1 B Tx (c_X5_requireGear l hst G M N s hG hA hok ge ⟨by omega, by omega⟩) ⟨rfl, rfl⟩ ok_X5_requireGear vi_X5_requireGear q_535 hG.1 rfl (fun _ => rfl) ⟨Nat.le_of_ble_eq_true rfl, Nat.le_of_ble_eq_true rfl, Nat.le_of_ble_eq_true rfl⟩ ⟨Nat.le_of_ble_eq_true rfl, Nat.le_of_ble_eq_true rfl⟩ dX5_bestPhase_2 ⟨Nat.le_of_ble_eq_true rfl, Nat.le_of_ble_eq_true rfl⟩ (fun E M2 hx => ⟨⟨hx.1, by unfold oBph; rw [if_pos (by omega)]⟩, hx.2.2⟩) (fun rq1 M2 hq1 => ?_)
  obtain ⟨hrq1, hgq1, hmq1⟩ := hq1
  rw [hrq1, hmq1]
  clear hrq1 hmq1
  refine r_astore B (lv' := [(4, .ref (gP M (N + 1 + 1) ge)), (0, .ref N), (1, .int (iI ge)), (2, .int (iI he)), (3, .int (iI fl))]) dX5_bestPhase_5 (by decide) rfl ?_
  refine r_aload_n B 1 dX5_bestPhase_7 rfl ?_
  refine r_iload_n B 3 dX5_bestPhase_8 rfl ?_
  refine r_xVa1 B Tx (c_X5_requireGear l hst G M N s hG hA hok he ⟨by omega, by omega⟩) ⟨rfl, rfl⟩ ok_X5_requireGear vi_X5_requireGear q_535 hG.1 rfl (fun _ => rfl) ⟨Nat.le_of_ble_eq_true rfl, Nat.le_of_ble_eq_true rfl, Nat.le_of_ble_eq_true rfl⟩ ⟨Nat.le_of_ble_eq_true rfl, Nat.le_of_ble_eq_true rfl⟩ dX5_bestPhase_9 ⟨Nat.le_of_ble_eq_true rfl, Nat.le_of_ble_eq_true rfl⟩ (fun E M2 hx => ⟨⟨hx.1, by unfold oBph; rw [if_pos (by omega)]⟩, hx.2.2⟩) (fun rq3 M4 hq3 => ?_)
  obtain ⟨hrq3, hgq3, hmq3⟩ := hq3
  rw [hrq3, hmq3]
  clear hrq3 hmq3
  refine r_astore B (lv' := [(5, .ref (gP M (N + 1 + 1) he)), (4, .ref (gP M (N + 1 + 1) ge)), (0, .ref N), (1, .int (iI ge)), (2, .int (iI he)), (3, .int (iI fl))]) dX5_bestPhase_12 (by decide) rfl ?_
  have hgk := hok.2.2.2.2.1 ge (by omega) (by omega)
  obtain ⟨hgk1, hgk2, hgk3, hgk4, hgk5⟩ := id hgk
  have hhk := hok.2.2.2.2.1 he (by omega) (by omega)
  have hbge := hA.2.2.1.in (i := ge) (by omega) (by omega)
  have hbhe := hA.2.2.1.in (i := he) (by omega) (by omega)
  refine r_iload_n B 5 dX5_bestPhase_14 rfl ?_
  refine r_xSv1 B Tx (c_X5_requireFlank l hst G M fl ⟨by omega, by omega⟩) ⟨rfl, rfl⟩ ok_X5_requireFlank q_637 q_636 ⟨Nat.le_of_ble_eq_true rfl, Nat.le_of_ble_eq_true rfl, Nat.le_of_ble_eq_true rfl⟩ ⟨Nat.le_of_ble_eq_true rfl, Nat.le_of_ble_eq_true rfl⟩ dX5_bestPhase_15 ⟨Nat.le_of_ble_eq_true rfl, Nat.le_of_ble_eq_true rfl⟩ (fun E M2 hx => ⟨⟨hx.1, by unfold oBph; rw [if_pos (by omega)]⟩, hx.2.2⟩) (fun M6 hq5 => ?_)
  obtain ⟨hgq5, hmq5⟩ := hq5
  rw [hmq5]
  clear hmq5
  refine r_aload_n B 2 dX5_bestPhase_18 rfl ?_
  refine rg5_pair B hG.1 q_176 dX5_bestPhase_19 ?_
  refine r_aload B 1 dX5_bestPhase_22 rfl ?_
  refine r_aload B 0 dX5_bestPhase_24 rfl ?_
  refine r_iload_n B 5 dX5_bestPhase_26 rfl ?_
  refine r_Vv3 B (c_X2_engage l G M (N + 323) (gP M (N + 1 + 1) ge) (gP M (N + 1 + 1) he) ((s.2.2.1 ge).1) ((s.2.2.1 ge).2.1) ((s.2.2.1 he).1) ((s.2.2.1 he).2.1) fl ((s.2.2.1 ge).2.2) ((s.2.2.1 he).2.2) hG.2.2.2.2.2.2.1 (RowG.gear hG.2.1 hA.2.2.1 (i := ge) (by omega) (by omega)) (RowG.gear hG.2.1 hA.2.2.1 (i := he) (by omega) (by omega)) (hA.2.2.2.2.1 ge (by omega) (by omega)) (hA.2.2.2.2.1 he (by omega) (by omega)) (hok.2.2.2.2.1 ge (by omega) (by omega)) (hok.2.2.2.2.1 he (by omega) (by omega)) (by omega) (by omega) (by omega) (by omega)) ⟨rfl, rfl⟩ ok_X2_engage vi_X2_engage q_812 hG.2.2.2.2.2.2.1.1 rfl (fun _ => rfl) ⟨Nat.le_of_ble_eq_true rfl, Nat.le_of_ble_eq_true rfl, Nat.le_of_ble_eq_true rfl⟩ ⟨Nat.le_of_ble_eq_true rfl, Nat.le_of_ble_eq_true rfl⟩ dX5_bestPhase_27 (fun Me hen => ?_)
  refine r_aload_n B 2 dX5_bestPhase_30 rfl ?_
  refine rg5_pair B hG.1 q_176 dX5_bestPhase_31 ?_
  refine r_pVi0 B (c_X2_phaseOfSmallest l G Me (N + 323) _ _ _ _ _ hG.2.2.2.2.2.2.1 hen.1 (meshOk hok (g := ge) (k := he) (f := fl) (by omega) (by omega) (by omega) (by omega) (by omega) (by omega))) ⟨rfl, rfl⟩ ok_X2_phaseOfSmallest vi_X2_phaseOfSmallest q_835 hG.2.2.2.2.2.2.1.1 rfl (fun _ => rfl) ⟨Nat.le_of_ble_eq_true rfl, Nat.le_of_ble_eq_true rfl, Nat.le_of_ble_eq_true rfl⟩ ⟨Nat.le_of_ble_eq_true rfl, Nat.le_of_ble_eq_true rfl⟩ dX5_bestPhase_34 ?_
  exact WM.xret (Nat.le_of_ble_eq_true rfl) (Nat.le_of_ble_eq_true rfl) (r_iret B dX5_bestPhase_37 ⟨by unfold oBph; rw [if_neg (by omega)]; rfl, hen.2⟩)

set_option maxRecDepth 100000 in
set_option maxHeartbeats 4000000 in
theorem c_X5_partner (l : Launch) (hst : l.stackTraces = false) (G : Gs) (M : Mem) (N : Nat) (s : Ast) (hG : IsGg G N) (hA : StateIs M (N + 1) s) (hok : StateOk s) (ge fl : Int) (hge : In32 ge) (hfl : In32 fl) : CtX l G yX5_partner cX5_partner 8 (some .int) rx_X5_partner [.ref N, .int (iI ge), .int (iI fl)] M (PoI G (fun r M' => (oPart s ge fl = (0, r)) ∧ Only M M' (N + 323) (N + 328))) (fun E M' => (E = eIOB ∧ oPart s ge fl = (1, 0)) ∧ M' = M) 2 12 := by
  refine CtX.of (by decide +kernel) (Nat.le_of_ble_eq_true rfl) [(0, .ref N), (1, .int (iI ge)), (2, .int (iI fl))] rfl ?_
  intro X B Tx
  have hs1 := hok.1
  have hs2 := hok.2.1
  have hs3 := hok.2.2.1
  have hs4 := hok.2.2.2.1
  obtain ⟨hge1, hge2⟩ := hge
  obtain ⟨hfl1, hfl2⟩ := hfl
  refine r_aload_n B 0 dX5_partner_0 rfl ?_
  refine r_iload_n B 1 dX5_partner_1 rfl ?_
  refine r_xVa1 B Tx (c_X5_requireGear l hst G M N s hG hA hok ge ⟨by omega, by omega⟩) ⟨rfl, rfl⟩ ok_X5_requireGear vi_X5_requireGear q_535 hG.1 rfl (fun _ => rfl) ⟨Nat.le_of_ble_eq_true rfl, Nat.le_of_ble_eq_true rfl, Nat.le_of_ble_eq_true rfl⟩ ⟨Nat.le_of_ble_eq_true rfl, Nat.le_of_ble_eq_true rfl⟩ dX5_partner_2 ⟨Nat.le_of_ble_eq_true rfl, Nat.le_of_ble_eq_true rfl⟩ (fun E M2 hx => ⟨⟨hx.1, by unfold oPart; rw [if_pos (by omega)]⟩, hx.2.2⟩) (fun rq1 M2 hq1 => ?_)
  obtain ⟨hrq1, hgq1, hmq1⟩ := hq1
  rw [hrq1, hmq1]
  clear hrq1 hmq1
  refine r_astore_n B (lv' := [(3, .ref (gP M (N + 1 + 1) ge)), (0, .ref N), (1, .int (iI ge)), (2, .int (iI fl))]) dX5_partner_5 (by decide) rfl ?_
  have hgk := hok.2.2.2.2.1 ge (by omega) (by omega)
  obtain ⟨hgk1, hgk2, hgk3, hgk4, hgk5⟩ := id hgk
  have hbge := hA.2.2.1.in (i := ge) (by omega) (by omega)
  refine r_iload_n B 3 dX5_partner_6 rfl ?_
  refine r_xSv1 B Tx (c_X5_requireFlank l hst G M fl ⟨by omega, by omega⟩) ⟨rfl, rfl⟩ ok_X5_requireFlank q_637 q_636 ⟨Nat.le_of_ble_eq_true rfl, Nat.le_of_ble_eq_true rfl, Nat.le_of_ble_eq_true rfl⟩ ⟨Nat.le_of_ble_eq_true rfl, Nat.le_of_ble_eq_true rfl⟩ dX5_partner_7 ⟨Nat.le_of_ble_eq_true rfl, Nat.le_of_ble_eq_true rfl⟩ (fun E M2 hx => ⟨⟨hx.1, by unfold oPart; rw [if_pos (by omega)]⟩, hx.2.2⟩) (fun M4 hq3 => ?_)
  obtain ⟨hgq3, hmq3⟩ := hq3
  rw [hmq3]
  clear hmq3
  refine r_iconst B dX5_partner_10 ?_
  refine r_istore B (lv' := [(4, .int (iI (-1))), (3, .ref (gP M (N + 1 + 1) ge)), (0, .ref N), (1, .int (iI ge)), (2, .int (iI fl))]) dX5_partner_11 (by decide) rfl ?_
  refine r_iconst B dX5_partner_13 ?_
  refine r_istore B (lv' := [(5, .int (iI 0)), (4, .int (iI (-1))), (3, .ref (gP M (N + 1 + 1) ge)), (0, .ref N), (1, .int (iI ge)), (2, .int (iI fl))]) dX5_partner_14 (by decide) rfl ?_
  refine r_iconst B dX5_partner_16 ?_
  refine r_istore B (lv' := [(6, .int (iI 0)), (5, .int (iI 0)), (4, .int (iI (-1))), (3, .ref (gP M (N + 1 + 1) ge)), (0, .ref N), (1, .int (iI ge)), (2, .int (iI fl))]) dX5_partner_17 (by decide) rfl ?_
  have lp5 : ∀ (nlp5 : Nat) (i : Int) (fo : Int) (le : Int) (Mc : Mem) (hi0 : 0 ≤ i) (hi1 : i ≤ s.1) (hfo : fo = (ptF s ge fl i.toNat).1) (hle : le = (ptF s ge fl i.toNat).2) (hff : Only M Mc (N + 323) (N + 328)), (s.1 - i).toNat < nlp5 → WM G X 2 12 (bX X (PoI G (fun r M' => (oPart s ge fl = (0, r)) ∧ Only M M' (N + 323) (N + 328))) (fun E M' => (E = eIOB ∧ oPart s ge fl = (1, 0)) ∧ M' = M) 2 12 G) Mc 19 [(0, .ref N), (1, .int (iI ge)), (2, .int (iI fl)), (3, .ref (gP M (N + 1 + 1) ge)), (4, .int (iI fo)), (5, .int (iI le)), (6, .int (iI i))] [] := by
    intro nlp5
    induction nlp5 with
    | zero => intro i fo le Mc hi0 hi1 hfo hle hff hm; omega
    | succ nlp5 ihlp5 =>
      intro i fo le Mc hi0 hi1 hfo hle hff hm
      have hAc := hA.only hok hff (by omega)
      have hpt := ptF_in hok (g := ge) (f := fl) (by omega) (by omega) (by omega) (by omega) i.toNat (by omega)
      refine r_iload B 6 dX5_partner_19 rfl ?_
      refine r_aload_n B 0 dX5_partner_21 rfl ?_
      refine rg5_now B hG.1 q_171 dX5_partner_22 ?_
      refine rg3_gearCount B hG.2.1.1 q_94 dX5_partner_25 ?_
      refine r_vi (y := s.1) hAc.1 ?_
      refine r_icmp_ge B dX5_partner_28 rfl ⟨by omega, by omega⟩ ⟨by omega, by omega⟩ (fun h6 => ?_) (fun h6 => ?_)
      · refine r_iload B 4 dX5_partner_99 rfl ?_
        exact WM.xret (Nat.le_of_ble_eq_true rfl) (Nat.le_of_ble_eq_true rfl) (r_iret B dX5_partner_101 ⟨by unfold oPart; rw [if_neg (by omega), hfo, show i = s.1 by omega], hff⟩)
      · refine r_iload B 6 dX5_partner_31 rfl ?_
        refine r_iload_n B 1 dX5_partner_33 rfl ?_
        refine r_icmp_eq B dX5_partner_34 rfl ⟨by omega, by omega⟩ ⟨by omega, by omega⟩ (fun h7 => ?_) (fun h7 => ?_)
        · refine r_iinc B (lv' := [(6, .int (iI (i + 1))), (0, .ref N), (1, .int (iI ge)), (2, .int (iI fl)), (3, .ref (gP M (N + 1 + 1) ge)), (4, .int (iI fo)), (5, .int (iI le))]) dX5_partner_93 (j := 6) rfl (by decide) rfl ?_
          refine r_goto B dX5_partner_96 rfl ?_
          refine WM.pick [1, 2, 3, 4, 5, 6, 0] rfl ?_
          exact ihlp5 (i + 1) _ _ Mc (by omega) (by omega) (by rw [ptF_s _ _ _ hi0, if_pos h7]; exact hfo) (by rw [ptF_s _ _ _ hi0, if_pos h7]; exact hle) hff (by omega)
        · have hik := hok.2.2.2.2.1 i (by omega) (by omega)
          obtain ⟨hik1, hik2, -⟩ := id hik
          have hbi := hAc.2.2.1.in (i := i) (by omega) (by omega)
          have hgi := gcG_in hok (g := ge) (k := i) (by omega) (by omega) (by omega) (by omega)
          have hph : 0 ≤ phG s ge i fl ∧ phG s ge i fl ≤ 100 := by have w := psF_in (erG s ge i fl) (gcG s ge i - 1).toNat; unfold phG; omega
          have her := erG_in hok (g := ge) (k := i) (f := fl) (by omega) (by omega) (by omega) (by omega) (by omega) (by omega) (phG s ge i fl)
          refine r_aload_n B 0 dX5_partner_37 rfl ?_
          refine rg5_pair B hG.1 q_176 dX5_partner_38 ?_
          refine r_aload_n B 3 dX5_partner_41 rfl ?_
          refine r_aload_n B 0 dX5_partner_42 rfl ?_
          refine rg5_now B hG.1 q_171 dX5_partner_43 ?_
          refine rg3_gearRow B hG.2.1.1 q_98 dX5_partner_46 ?_
          refine r_iload B 6 dX5_partner_49 rfl ?_
          refine r_aaload8 B dX5_partner_51 hG.2.1.2.1 (by omega) (by omega) ?_
          refine r_iload_n B 2 dX5_partner_52 rfl ?_
          refine r_Vv3 B (c_X2_engage l G Mc (N + 323) (gP M (N + 1 + 1) ge) (gP Mc (N + 1 + 1) i) ((s.2.2.1 ge).1) ((s.2.2.1 ge).2.1) ((s.2.2.1 i).1) ((s.2.2.1 i).2.1) fl ((s.2.2.1 ge).2.2) ((s.2.2.1 i).2.2) hG.2.2.2.2.2.2.1 (RowG.gear hG.2.1 hA.2.2.1 (i := ge) (by omega) (by omega)) (RowG.gear hG.2.1 hAc.2.2.1 (i := i) (by omega) (by omega)) ((hA.2.2.2.2.1 ge (by omega) (by omega)).only hff (by omega)) (hAc.2.2.2.2.1 i (by omega) (by omega)) (hok.2.2.2.2.1 ge (by omega) (by omega)) (hok.2.2.2.2.1 i (by omega) (by omega)) (by omega) (by omega) (by omega) (by omega)) ⟨rfl, rfl⟩ ok_X2_engage vi_X2_engage q_812 hG.2.2.2.2.2.2.1.1 rfl (fun _ => rfl) ⟨Nat.le_of_ble_eq_true rfl, Nat.le_of_ble_eq_true rfl, Nat.le_of_ble_eq_true rfl⟩ ⟨Nat.le_of_ble_eq_true rfl, Nat.le_of_ble_eq_true rfl⟩ dX5_partner_53 (fun Me hen => ?_)
          refine r_aload_n B 0 dX5_partner_56 rfl ?_
          refine rg5_pair B hG.1 q_176 dX5_partner_57 ?_
          refine r_aload_n B 0 dX5_partner_60 rfl ?_
          refine rg5_pair B hG.1 q_176 dX5_partner_61 ?_
          refine r_pVi0 B (c_X2_phaseOfSmallest l G Me (N + 323) _ _ _ _ _ hG.2.2.2.2.2.2.1 hen.1 (meshOk hok (g := ge) (k := i) (f := fl) (by omega) (by omega) (by omega) (by omega) (by omega) (by omega))) ⟨rfl, rfl⟩ ok_X2_phaseOfSmallest vi_X2_phaseOfSmallest q_835 hG.2.2.2.2.2.2.1.1 rfl (fun _ => rfl) ⟨Nat.le_of_ble_eq_true rfl, Nat.le_of_ble_eq_true rfl, Nat.le_of_ble_eq_true rfl⟩ ⟨Nat.le_of_ble_eq_true rfl, Nat.le_of_ble_eq_true rfl⟩ dX5_partner_64 ?_
          refine r_vi (y := phG s ge i fl) rfl ?_
          refine r_pVi1 B (c_X2_errorAt l G Me (N + 323) _ _ _ _ _ hG.2.2.2.2.2.2.1 hen.1 (meshOk hok (g := ge) (k := i) (f := fl) (by omega) (by omega) (by omega) (by omega) (by omega) (by omega)) (phG s ge i fl) (by omega) (by omega)) ⟨rfl, rfl⟩ ok_X2_errorAt vi_X2_errorAt q_824 hG.2.2.2.2.2.2.1.1 rfl (fun _ => rfl) ⟨Nat.le_of_ble_eq_true rfl, Nat.le_of_ble_eq_true rfl, Nat.le_of_ble_eq_true rfl⟩ ⟨Nat.le_of_ble_eq_true rfl, Nat.le_of_ble_eq_true rfl⟩ dX5_partner_67 ?_
          refine r_vi (y := erG s ge i fl (phG s ge i fl)) rfl ?_
          refine r_istore B (lv' := [(7, .int (iI (erG s ge i fl (phG s ge i fl)))), (0, .ref N), (1, .int (iI ge)), (2, .int (iI fl)), (3, .ref (gP M (N + 1 + 1) ge)), (4, .int (iI fo)), (5, .int (iI le)), (6, .int (iI i))]) dX5_partner_70 (by decide) rfl ?_
          refine r_iload B 5 dX5_partner_72 rfl ?_
          refine r_iconst B dX5_partner_74 ?_
          refine r_icmp_eq B dX5_partner_75 rfl ⟨by omega, by omega⟩ ⟨by omega, by omega⟩ (fun h8 => ?_) (fun h8 => ?_)
          · refine r_iload B 7 dX5_partner_85 rfl ?_
            refine r_istore B (lv' := [(4, .int (iI i)), (7, .int (iI (erG s ge i fl (phG s ge i fl)))), (0, .ref N), (1, .int (iI ge)), (2, .int (iI fl)), (3, .ref (gP M (N + 1 + 1) ge)), (5, .int (iI le)), (6, .int (iI i))]) dX5_partner_87 (by decide) rfl ?_
            refine r_iload B 1 dX5_partner_89 rfl ?_
            refine r_istore B (lv' := [(5, .int (iI (erG s ge i fl (phG s ge i fl)))), (4, .int (iI i)), (7, .int (iI (erG s ge i fl (phG s ge i fl)))), (0, .ref N), (1, .int (iI ge)), (2, .int (iI fl)), (3, .ref (gP M (N + 1 + 1) ge)), (6, .int (iI i))]) dX5_partner_91 (by decide) rfl ?_
            refine r_iinc B (lv' := [(6, .int (iI (i + 1))), (5, .int (iI (erG s ge i fl (phG s ge i fl)))), (4, .int (iI i)), (7, .int (iI (erG s ge i fl (phG s ge i fl)))), (0, .ref N), (1, .int (iI ge)), (2, .int (iI fl)), (3, .ref (gP M (N + 1 + 1) ge))]) dX5_partner_93 (j := 7) rfl (by decide) rfl ?_
            refine r_goto B dX5_partner_96 rfl ?_
            refine WM.pick [4, 5, 6, 7, 2, 1, 0] rfl ?_
            exact ihlp5 (i + 1) i _ Me (by omega) (by omega) (by rw [ptF_s _ _ _ hi0, if_neg h7, if_pos (by omega)]) (by rw [ptF_s _ _ _ hi0, if_neg h7, if_pos (by omega)]) (hff.tr hen.2) (by omega)
          · refine r_iload B 0 dX5_partner_78 rfl ?_
            refine r_iload B 6 dX5_partner_80 rfl ?_
            refine r_icmp_ge B dX5_partner_82 rfl ⟨by omega, by omega⟩ ⟨by omega, by omega⟩ (fun h9 => ?_) (fun h9 => ?_)
            · refine r_iinc B (lv' := [(6, .int (iI (i + 1))), (7, .int (iI (erG s ge i fl (phG s ge i fl)))), (0, .ref N), (1, .int (iI ge)), (2, .int (iI fl)), (3, .ref (gP M (N + 1 + 1) ge)), (4, .int (iI fo)), (5, .int (iI le))]) dX5_partner_93 (j := 7) rfl (by decide) rfl ?_
              refine r_goto B dX5_partner_96 rfl ?_
              refine WM.pick [2, 3, 4, 5, 6, 7, 0] rfl ?_
              exact ihlp5 (i + 1) _ _ Me (by omega) (by omega) (by rw [ptF_s _ _ _ hi0, if_neg h7, if_neg (by omega)]; exact hfo) (by rw [ptF_s _ _ _ hi0, if_neg h7, if_neg (by omega)]; exact hle) (hff.tr hen.2) (by omega)
            · refine r_iload B 7 dX5_partner_85 rfl ?_
              refine r_istore B (lv' := [(4, .int (iI i)), (7, .int (iI (erG s ge i fl (phG s ge i fl)))), (0, .ref N), (1, .int (iI ge)), (2, .int (iI fl)), (3, .ref (gP M (N + 1 + 1) ge)), (5, .int (iI le)), (6, .int (iI i))]) dX5_partner_87 (by decide) rfl ?_
              refine r_iload B 1 dX5_partner_89 rfl ?_
              refine r_istore B (lv' := [(5, .int (iI (erG s ge i fl (phG s ge i fl)))), (4, .int (iI i)), (7, .int (iI (erG s ge i fl (phG s ge i fl)))), (0, .ref N), (1, .int (iI ge)), (2, .int (iI fl)), (3, .ref (gP M (N + 1 + 1) ge)), (6, .int (iI i))]) dX5_partner_91 (by decide) rfl ?_
              refine r_iinc B (lv' := [(6, .int (iI (i + 1))), (5, .int (iI (erG s ge i fl (phG s ge i fl)))), (4, .int (iI i)), (7, .int (iI (erG s ge i fl (phG s ge i fl)))), (0, .ref N), (1, .int (iI ge)), (2, .int (iI fl)), (3, .ref (gP M (N + 1 + 1) ge))]) dX5_partner_93 (j := 7) rfl (by decide) rfl ?_
              refine r_goto B dX5_partner_96 rfl ?_
              refine WM.pick [4, 5, 6, 7, 2, 1, 0] rfl ?_
              exact ihlp5 (i + 1) i _ Me (by omega) (by omega) (by rw [ptF_s _ _ _ hi0, if_neg h7, if_pos (by omega)]) (by rw [ptF_s _ _ _ hi0, if_neg h7, if_pos (by omega)]) (hff.tr hen.2) (by omega)
  refine WM.pick [4, 5, 6, 3, 2, 1, 0] rfl ?_
  exact lp5 _ 0 (-1) 0 M (by omega) (by omega) rfl rfl Only.rf (Nat.lt_succ_self _)

set_option maxRecDepth 100000 in
set_option maxHeartbeats 4000000 in
theorem c_X5_ranked (l : Launch) (hst : l.stackTraces = false) (G : Gs) (M : Mem) (N : Nat) (s : Ast) (hG : IsGg G N) (hA : StateIs M (N + 1) s) (hok : StateOk s) (pl : Int) (hpl : In32 pl) : CtX l G yX5_ranked cX5_ranked 4 (some .int) rx_X5_ranked [.ref N, .int (iI pl)] M (PoI G (fun r M' => (oRank s pl = (0, r)) ∧ Only M M' (N + 333) (N + 335))) (fun E M' => (E = eIOB ∧ oRank s pl = (1, 0)) ∧ M' = M) 1 6 := by
  refine CtX.of (by decide +kernel) (Nat.le_of_ble_eq_true rfl) [(0, .ref N), (1, .int (iI pl))] rfl ?_
  intro X B Tx
  have hs1 := hok.1
  have hs2 := hok.2.1
  have hs3 := hok.2.2.1
  have hs4 := hok.2.2.2.1
  obtain ⟨hpl1, hpl2⟩ := hpl
  refine r_iload_n B 1 dX5_ranked_0 rfl ?_
  refine r_if_lt B dX5_ranked_1 rfl ⟨by omega, by omega⟩ (fun h1 => ?_) (fun h1 => ?_)
  · exact r_thrOW B Tx hst (is := 269) (text := "no such place") (by decide +kernel) dX5_ranked_15 dX5_ranked_18 dX5_ranked_19 dX5_ranked_22 dX5_ranked_25 ⟨Nat.le_of_ble_eq_true rfl, Nat.le_of_ble_eq_true rfl, Nat.le_of_ble_eq_true rfl, Nat.le_of_ble_eq_true rfl⟩ ⟨Nat.le_of_ble_eq_true rfl, Nat.le_of_ble_eq_true rfl⟩ ⟨⟨rfl, by unfold oRank; rw [if_pos (by omega)]⟩, rfl⟩
  · refine r_iload_n B 1 dX5_ranked_4 rfl ?_
    refine r_aload_n B 0 dX5_ranked_5 rfl ?_
    refine rg5_now B hG.1 q_171 dX5_ranked_6 ?_
    refine rg3_gearCount B hG.2.1.1 q_94 dX5_ranked_9 ?_
    refine r_vi (y := s.1) hA.1 ?_
    refine r_icmp_lt B dX5_ranked_12 rfl ⟨by omega, by omega⟩ ⟨by omega, by omega⟩ (fun h2 => ?_) (fun h2 => ?_)
    · refine r_iconst B dX5_ranked_26 ?_
      refine r_istore_n B (lv' := [(2, .int (iI 0)), (0, .ref N), (1, .int (iI pl))]) dX5_ranked_27 (by decide) rfl ?_
      have lp3 : ∀ (nlp3 : Nat) (i : Int) (Mc : Mem) (hi0 : 0 ≤ i) (hi1 : i ≤ s.1) (hr : ∀ k : Int, 0 ≤ k → k < i → gI Mc (N + 333) k = cgS s k ∧ gI Mc (N + 334) k = dvS s k 1) (hff : Only M Mc (N + 333) (N + 335)), (s.1 - i).toNat < nlp3 → WM G X 0 0 (bX X (PoI G (fun r M' => (oRank s pl = (0, r)) ∧ Only M M' (N + 333) (N + 335))) (fun E M' => (E = eIOB ∧ oRank s pl = (1, 0)) ∧ M' = M) 1 6 G) Mc 28 [(0, .ref N), (1, .int (iI pl)), (2, .int (iI i))] [] := by
        intro nlp3
        induction nlp3 with
        | zero => intro i Mc hi0 hi1 hr hff hm; omega
        | succ nlp3 ihlp3 =>
          intro i Mc hi0 hi1 hr hff hm
          have hAc := hA.only hok hff (by omega)
          have hcg := cgS_in s i
          refine r_iload_n B 2 dX5_ranked_28 rfl ?_
          refine r_aload_n B 0 dX5_ranked_29 rfl ?_
          refine rg5_now B hG.1 q_171 dX5_ranked_30 ?_
          refine rg3_gearCount B hG.2.1.1 q_94 dX5_ranked_33 ?_
          refine r_vi (y := s.1) hAc.1 ?_
          refine r_icmp_ge B dX5_ranked_36 rfl ⟨by omega, by omega⟩ ⟨by omega, by omega⟩ (fun h4 => ?_) (fun h4 => ?_)
          · have hp : ∀ k : Int, 0 ≤ k → k < s.1 → gI Mc (N + 333) k = cgS s k ∧ In32 (cgS s k) := fun k p q => ⟨(hr k p (by omega)).1, by have w := cgS_in s k; exact ⟨by omega, by omega⟩⟩
            have hx : ∀ k : Int, 0 ≤ k → k < s.1 → gI Mc (N + 334) k = (fun g => dvS s g 1) k ∧ In32 ((fun g => dvS s g 1) k) := fun k p q => ⟨(hr k p (by omega)).2, by have w := dvS_in hok (w := 1) p q; exact ⟨by show -2147483648 ≤ dvS s k 1; omega, by show dvS s k 1 ≤ 2147483647; omega⟩⟩
            refine r_iconst B dX5_ranked_71 ?_
            refine r_istore_n B (lv' := [(2, .int (iI 0)), (0, .ref N), (1, .int (iI pl))]) dX5_ranked_72 (by decide) rfl ?_
            refine r_iconst B dX5_ranked_73 ?_
            refine r_istore_n B (lv' := [(3, .int (iI 0)), (2, .int (iI 0)), (0, .ref N), (1, .int (iI pl))]) dX5_ranked_74 (by decide) rfl ?_
            have lp5 : ∀ (nlp5 : Nat) (j : Int) (fo : Int) (hj0 : 0 ≤ j) (hj1 : j ≤ s.1) (hfo : fo = rnF s pl j.toNat), (s.1 - j).toNat < nlp5 → WM G X 0 0 (bX X (PoI G (fun r M' => (oRank s pl = (0, r)) ∧ Only M M' (N + 333) (N + 335))) (fun E M' => (E = eIOB ∧ oRank s pl = (1, 0)) ∧ M' = M) 1 6 G) Mc 75 [(0, .ref N), (1, .int (iI pl)), (2, .int (iI fo)), (3, .int (iI j))] [] := by
              intro nlp5
              induction nlp5 with
              | zero => intro j fo hj0 hj1 hfo hm; omega
              | succ nlp5 ihlp5 =>
                intro j fo hj0 hj1 hfo hm
                have hrn := rkN_in (cgS s) (fun g => dvS s g 1) j s.1.toNat
                refine r_iload_n B 3 dX5_ranked_75 rfl ?_
                refine r_aload_n B 0 dX5_ranked_76 rfl ?_
                refine rg5_now B hG.1 q_171 dX5_ranked_77 ?_
                refine rg3_gearCount B hG.2.1.1 q_94 dX5_ranked_80 ?_
                refine r_vi (y := s.1) hAc.1 ?_
                refine r_icmp_ge B dX5_ranked_83 rfl ⟨by omega, by omega⟩ ⟨by omega, by omega⟩ (fun h6 => ?_) (fun h6 => ?_)
                · refine r_iload_n B 2 dX5_ranked_103 rfl ?_
                  exact WM.xret (Nat.le_of_ble_eq_true rfl) (Nat.le_of_ble_eq_true rfl) (r_iret B dX5_ranked_104 ⟨by unfold oRank; rw [if_neg (by omega), hfo, show j = s.1 by omega], hff⟩)
                · refine r_aload_n B 0 dX5_ranked_86 rfl ?_
                  refine r_iload_n B 3 dX5_ranked_87 rfl ?_
                  refine r_pVi1 B (c_X5_placeOf l G Mc N s hG hAc hok (cgS s) (fun g => dvS s g 1) hp hx j (by omega) (by omega)) ⟨rfl, rfl⟩ ok_X5_placeOf vi_X5_placeOf q_862 hG.1 rfl (fun _ => rfl) ⟨Nat.le_of_ble_eq_true rfl, Nat.le_of_ble_eq_true rfl, Nat.le_of_ble_eq_true rfl⟩ ⟨Nat.le_of_ble_eq_true rfl, Nat.le_of_ble_eq_true rfl⟩ dX5_ranked_88 ?_
                  refine r_iload_n B 1 dX5_ranked_91 rfl ?_
                  refine r_icmp_ne B dX5_ranked_92 rfl ⟨by omega, by omega⟩ ⟨by omega, by omega⟩ (fun h7 => ?_) (fun h7 => ?_)
                  · refine r_iinc B (lv' := [(3, .int (iI (j + 1))), (0, .ref N), (1, .int (iI pl)), (2, .int (iI fo))]) dX5_ranked_97 (j := 3) rfl (by decide) rfl ?_
                    refine r_goto B dX5_ranked_100 rfl ?_
                    refine WM.pick [1, 2, 3, 0] rfl ?_
                    exact ihlp5 (j + 1) _ (by omega) (by omega) (by rw [rnF_s _ _ hj0, if_neg h7]; exact hfo) (by omega)
                  · refine r_iload_n B 3 dX5_ranked_95 rfl ?_
                    refine r_istore_n B (lv' := [(2, .int (iI j)), (0, .ref N), (1, .int (iI pl)), (3, .int (iI j))]) dX5_ranked_96 (by decide) rfl ?_
                    refine r_iinc B (lv' := [(3, .int (iI (j + 1))), (2, .int (iI j)), (0, .ref N), (1, .int (iI pl))]) dX5_ranked_97 (j := 3) rfl (by decide) rfl ?_
                    refine r_goto B dX5_ranked_100 rfl ?_
                    refine WM.pick [2, 3, 1, 0] rfl ?_
                    exact ihlp5 (j + 1) j (by omega) (by omega) (by rw [rnF_s _ _ hj0, if_pos (by omega)]) (by omega)
            refine WM.pick [2, 3, 1, 0] rfl ?_
            exact lp5 _ 0 0 (by omega) (by omega) rfl (Nat.lt_succ_self _)
          · have hdv := dvS_in hok (g := i) (w := 1) (by omega) (by omega)
            refine r_aload_n B 0 dX5_ranked_39 rfl ?_
            refine rg5_rankClass B hG.1 q_178 dX5_ranked_40 ?_
            refine r_iload_n B 2 dX5_ranked_43 rfl ?_
            refine r_aload_n B 0 dX5_ranked_44 rfl ?_
            refine r_iload_n B 2 dX5_ranked_45 rfl ?_
            refine r_pVi1 B (c_X5_classOfGear l G Mc N s hG hAc hok i (by omega) (by omega)) ⟨rfl, rfl⟩ ok_X5_classOfGear vi_X5_classOfGear q_328 hG.1 rfl (fun _ => rfl) ⟨Nat.le_of_ble_eq_true rfl, Nat.le_of_ble_eq_true rfl, Nat.le_of_ble_eq_true rfl⟩ ⟨Nat.le_of_ble_eq_true rfl, Nat.le_of_ble_eq_true rfl⟩ dX5_ranked_46 ?_
            refine r_iastore B dX5_ranked_49 hG.2.2.2.2.2.2.2.2.1 (by omega) (by omega) ?_
            refine WM.nm (fun M8 eM8 => ?_)
            have hA1 : StateIs M8 (N + 1) s := hAc.only hok (a := N + 333) (b := N + 335) (by rw [eM8]; exact Only.sI (by omega) (by omega)) (by omega)
            refine r_aload_n B 0 dX5_ranked_50 rfl ?_
            refine rg5_rankRange B hG.1 q_179 dX5_ranked_51 ?_
            refine r_iload_n B 2 dX5_ranked_54 rfl ?_
            refine r_aload_n B 0 dX5_ranked_55 rfl ?_
            refine rg5_now B hG.1 q_171 dX5_ranked_56 ?_
            refine r_iload_n B 2 dX5_ranked_59 rfl ?_
            refine r_iconst B dX5_ranked_60 ?_
            refine r_pVi2 B (c_X3_deviationOf l G M8 (N + 1) s hG.2.1 hA1 hok i 1 (by omega) (by omega) (by omega) (by omega)) ⟨rfl, rfl⟩ ok_X3_deviationOf vi_X3_deviationOf q_338 hG.2.1.1 rfl (fun _ => rfl) ⟨Nat.le_of_ble_eq_true rfl, Nat.le_of_ble_eq_true rfl, Nat.le_of_ble_eq_true rfl⟩ ⟨Nat.le_of_ble_eq_true rfl, Nat.le_of_ble_eq_true rfl⟩ dX5_ranked_61 ?_
            refine r_iastore B dX5_ranked_64 hG.2.2.2.2.2.2.2.2.2 (by omega) (by omega) ?_
            refine WM.nm (fun M9 eM9 => ?_)
            refine r_iinc B (lv' := [(2, .int (iI (i + 1))), (0, .ref N), (1, .int (iI pl))]) dX5_ranked_65 (j := 2) rfl (by decide) rfl ?_
            refine r_goto B dX5_ranked_68 rfl ?_
            refine WM.pick [1, 2, 0] rfl ?_
            refine ihlp3 (i + 1) M9 (by omega) (by omega) ?_ (hff.tr ((by rw [eM8]; exact Only.sI (by omega) (by omega) : Only Mc M8 (N + 333) (N + 335)).tr (by rw [eM9]; exact Only.sI (by omega) (by omega)))) (by omega)
            · intro k p q
              rw [eM9, gI_ne (by omega), eM8]
              refine ⟨?_, ?_⟩
              · by_cases w : k = i
                · rw [w, gI_eq]
                · rw [gI_nk w]; exact (hr k p (by omega)).1
              · by_cases w : k = i
                · rw [w, ← eM8, gI_eq]
                · rw [← eM8, gI_nk w, eM8, gI_ne (by omega)]; exact (hr k p (by omega)).2
      refine WM.pick [1, 2, 0] rfl ?_
      exact lp3 _ 0 M (by omega) (by omega) (fun k p q => by omega) Only.rf (Nat.lt_succ_self _)
    · exact r_thrOW B Tx hst (is := 269) (text := "no such place") (by decide +kernel) dX5_ranked_15 dX5_ranked_18 dX5_ranked_19 dX5_ranked_22 dX5_ranked_25 ⟨Nat.le_of_ble_eq_true rfl, Nat.le_of_ble_eq_true rfl, Nat.le_of_ble_eq_true rfl, Nat.le_of_ble_eq_true rfl⟩ ⟨Nat.le_of_ble_eq_true rfl, Nat.le_of_ble_eq_true rfl⟩ ⟨⟨rfl, by unfold oRank; rw [if_pos (by omega)]⟩, rfl⟩
