set_option maxRecDepth 100000 in
set_option maxHeartbeats 4000000 in
theorem c_X6_quality (l : Launch) (G : Gs) (M : Mem) (md : Nat) (hM : IsMd G md) (s : Ast) (hS_M : MdS M md s) (hok : StateOk s) (ge wh : Int) (hge : In32 ge) (hwh : In32 wh) : Ct l G yX6_quality cX6_quality 3 (some .int) rm_X6_quality [.ref md, .int (iI ge), .int (iI wh)] M (PoI G (fun r M' => r = (oQual s ge wh).2 ∧ ∃ M1 : Mem, FL M M1 md ∧ M' = sI M1 md 6 (oQual s ge wh).1)) 0 0 := by
  refine Ct.of (by decide +kernel) (Nat.le_of_ble_eq_true rfl) [(0, .ref md), (1, .int (iI ge)), (2, .int (iI wh))] rfl ?_
  intro X B
  have hs1 := hok.1
  have hs2 := hok.2.1
  have hs3 := hok.2.2.1
  have hs4 := hok.2.2.2.1
  have hF_M : FL M M md := FL.rf
  obtain ⟨hge1, hge2⟩ := hge
  obtain ⟨hwh1, hwh2⟩ := hwh
  have i1 := inF_in ge 0 (s.1 - 1)
  have i2 := inF_in wh (-1) 8
  refine r_aload_n B 0 dX6_quality_0 rfl ?_
  refine r_iload_n B 1 dX6_quality_1 rfl ?_
  refine r_pVz1 B (c_X6_isGear l G M md hM s hS_M hok ge ⟨by omega, by omega⟩) ⟨rfl, rfl⟩ ok_X6_isGear vi_X6_isGear q_988 hM.1 rfl (fun _ => rfl) ⟨Nat.le_of_ble_eq_true rfl, Nat.le_of_ble_eq_true rfl, Nat.le_of_ble_eq_true rfl⟩ ⟨Nat.le_of_ble_eq_true rfl, Nat.le_of_ble_eq_true rfl⟩ dX6_quality_2 ?_
  refine r_if_ne B dX6_quality_5 rfl ⟨by omega, by omega⟩ (fun h1 => ?_) (fun h1 => ?_)
  · have q_h1 := inF_1 h1
    refine r_iload_n B 2 dX6_quality_14 rfl ?_
    refine r_i2l B dX6_quality_15 ⟨by omega, by omega⟩ ?_
    refine r_ldc2 B (z := (-1)) dX6_quality_16 q_1158 (by decide) ?_
    refine r_ldc2 B (z := 8) dX6_quality_19 q_1175 (by decide) ?_
    refine r_pSz3 B (c_X6_in l G M  wh (-1) 8 ⟨by omega, by omega⟩ ⟨by omega, by omega⟩ ⟨by omega, by omega⟩) ⟨rfl, rfl⟩ ok_X6_in q_961 q_960 ⟨Nat.le_of_ble_eq_true rfl, Nat.le_of_ble_eq_true rfl, Nat.le_of_ble_eq_true rfl⟩ ⟨Nat.le_of_ble_eq_true rfl, Nat.le_of_ble_eq_true rfl⟩ dX6_quality_22 ?_
    refine r_if_eq B dX6_quality_25 rfl ⟨by omega, by omega⟩ (fun h2 => ?_) (fun h2 => ?_)
    · have q_h2 := inF_0 h2
      refine r_aload_n B 0 dX6_quality_41 rfl ?_
      refine r_iconst B dX6_quality_42 ?_
      refine r_Vi1 B (c_X6_fails l G M md hM 2) ⟨rfl, rfl⟩ ok_X6_fails vi_X6_fails q_964 hM.1 rfl (fun _ => rfl) ⟨Nat.le_of_ble_eq_true rfl, Nat.le_of_ble_eq_true rfl, Nat.le_of_ble_eq_true rfl⟩ ⟨Nat.le_of_ble_eq_true rfl, Nat.le_of_ble_eq_true rfl⟩ dX6_quality_43 (fun rf Mf hff => ?_)
      obtain ⟨hf1, hf2⟩ := hff
      rw [hf1, hf2]
      clear hf1 hf2
      have ho : oQual s ge wh = (2, 0) := by unfold oQual; rw [if_neg (by omega), if_neg (by omega), if_pos (by omega)]
      exact r_iret B dX6_quality_46 ⟨by rw [ho], _, hF_M, by rw [ho]⟩
    · have q_h2 := inF_1 h2
      have hcl := claS_in s ge wh
      refine r_aload_n B 0 dX6_quality_28 rfl ?_
      refine r_aload_n B 0 dX6_quality_29 rfl ?_
      refine r_iload_n B 1 dX6_quality_30 rfl ?_
      refine r_iload_n B 2 dX6_quality_31 rfl ?_
      refine r_Vi2 B (c_X6_classOf l G M md hM s hS_M hok ge wh (by omega) (by omega) (by omega) (by omega)) ⟨rfl, rfl⟩ ok_X6_classOf vi_X6_classOf q_1074 hM.1 rfl (fun _ => rfl) ⟨Nat.le_of_ble_eq_true rfl, Nat.le_of_ble_eq_true rfl, Nat.le_of_ble_eq_true rfl⟩ ⟨Nat.le_of_ble_eq_true rfl, Nat.le_of_ble_eq_true rfl⟩ dX6_quality_32 (fun rQ3 Q3 h_Q3 => ?_)
      obtain ⟨hv_Q3, hf_Q3⟩ := h_Q3
      rw [hv_Q3]
      clear hv_Q3
      have hS_Q3 := hf_Q3.mds hS_M
      have hF_Q3 := hF_M.tr hf_Q3
      refine r_Vi1 B (c_X6_tells l G Q3 md hM (claS s ge wh)) ⟨rfl, rfl⟩ ok_X6_tells vi_X6_tells q_980 hM.1 rfl (fun _ => rfl) ⟨Nat.le_of_ble_eq_true rfl, Nat.le_of_ble_eq_true rfl, Nat.le_of_ble_eq_true rfl⟩ ⟨Nat.le_of_ble_eq_true rfl, Nat.le_of_ble_eq_true rfl⟩ dX6_quality_35 (fun rf Mf hff => ?_)
      obtain ⟨hf1, hf2⟩ := hff
      rw [hf1, hf2]
      clear hf1 hf2
      refine r_goto B dX6_quality_38 rfl ?_
      have ho : oQual s ge wh = (0, claS s ge wh) := by unfold oQual claS; rw [if_neg (by omega)]; by_cases w : wh = -1; rw [if_pos w, if_pos w]; rw [if_neg w, if_neg w, if_neg (by omega)]
      exact r_iret B dX6_quality_46 ⟨by rw [ho], _, hF_Q3, by rw [ho]⟩
  · have q_h1 := inF_0 h1
    refine r_aload_n B 0 dX6_quality_8 rfl ?_
    refine r_iconst B dX6_quality_9 ?_
    refine r_Vi1 B (c_X6_fails l G M md hM 1) ⟨rfl, rfl⟩ ok_X6_fails vi_X6_fails q_964 hM.1 rfl (fun _ => rfl) ⟨Nat.le_of_ble_eq_true rfl, Nat.le_of_ble_eq_true rfl, Nat.le_of_ble_eq_true rfl⟩ ⟨Nat.le_of_ble_eq_true rfl, Nat.le_of_ble_eq_true rfl⟩ dX6_quality_10 (fun rf Mf hff => ?_)
    obtain ⟨hf1, hf2⟩ := hff
    rw [hf1, hf2]
    clear hf1 hf2
    have ho : oQual s ge wh = (1, 0) := by unfold oQual; rw [if_pos (by omega)]
    exact r_iret B dX6_quality_13 ⟨by rw [ho], _, hF_M, by rw [ho]⟩

set_option maxRecDepth 100000 in
set_option maxHeartbeats 4000000 in
theorem c_X6_told (l : Launch) (G : Gs) (M : Mem) (md : Nat) (hM : IsMd G md) (s : Ast) (hS_M : MdS M md s) (hok : StateOk s) (ge w : Int) (h0 : 0 ≤ ge) (h1 : ge < s.1) (w0 : 0 ≤ w) (w1 : w < 6) : Ct l G yX6_told cX6_told 3 (some .int) rm_X6_told [.ref md, .int (iI ge), .int (iI w)] M (PoI G (fun r M' => r = tdS s ge w ∧ FL M M' md)) 0 0 := by
  refine Ct.of (by decide +kernel) (Nat.le_of_ble_eq_true rfl) [(0, .ref md), (1, .int (iI ge)), (2, .int (iI w))] rfl ?_
  intro X B
  have hs1 := hok.1
  have hs2 := hok.2.1
  have hs3 := hok.2.2.1
  have hs4 := hok.2.2.2.1
  have hF_M : FL M M md := FL.rf
  have hgk := hok.2.2.2.2.1 ge (by omega) (by omega)
  obtain ⟨hgk1, hgk2, hgk3, hgk4, hgk5⟩ := id hgk
  refine r_iload_n B 2 dX6_told_0 rfl ?_
  rcases (show w = 0 ∨ w = 1 ∨ w = 2 ∨ w = 3 ∨ w = 4 ∨ w = 5 by omega) with hw | hw | hw | hw | hw | hw
  · refine r_vi (y := 0) hw ?_
    refine r_tabIn B dX6_told_1 ⟨by omega, by omega⟩ (off := 31) (tgt := 32) (by omega) (by omega) rfl rfl ?_
    refine r_aload_n B 0 dX6_told_32 rfl ?_
    refine r_iload_n B 1 dX6_told_33 rfl ?_
    refine r_pVi1 B (c_X6_teeth l G M md hM ge (by omega) (by omega)) ⟨rfl, rfl⟩ ok_X6_teeth vi_X6_teeth q_1013 hM.1 rfl (fun _ => rfl) ⟨Nat.le_of_ble_eq_true rfl, Nat.le_of_ble_eq_true rfl, Nat.le_of_ble_eq_true rfl⟩ ⟨Nat.le_of_ble_eq_true rfl, Nat.le_of_ble_eq_true rfl⟩ dX6_told_34 ?_
    refine r_vi (y := (s.2.2.1 ge).1) (hS_M.2.2.1 ge (by omega) (by omega)).1 ?_
    exact r_iret B dX6_told_37 ⟨by unfold tdS; rw [if_pos hw], hF_M⟩
  · refine r_vi (y := 1) hw ?_
    refine r_tabIn B dX6_told_1 ⟨by omega, by omega⟩ (off := 37) (tgt := 38) (by omega) (by omega) rfl rfl ?_
    refine r_aload_n B 0 dX6_told_38 rfl ?_
    refine r_iload_n B 1 dX6_told_39 rfl ?_
    refine r_pVi1 B (c_X6_moduleOf l G M md hM ge (by omega) (by omega)) ⟨rfl, rfl⟩ ok_X6_moduleOf vi_X6_moduleOf q_1066 hM.1 rfl (fun _ => rfl) ⟨Nat.le_of_ble_eq_true rfl, Nat.le_of_ble_eq_true rfl, Nat.le_of_ble_eq_true rfl⟩ ⟨Nat.le_of_ble_eq_true rfl, Nat.le_of_ble_eq_true rfl⟩ dX6_told_40 ?_
    refine r_vi (y := (s.2.2.1 ge).2.1) (hS_M.2.2.1 ge (by omega) (by omega)).2.1 ?_
    exact r_iret B dX6_told_43 ⟨by unfold tdS; rw [if_neg (by omega), if_pos hw], hF_M⟩
  · refine r_vi (y := 2) hw ?_
    refine r_tabIn B dX6_told_1 ⟨by omega, by omega⟩ (off := 43) (tgt := 44) (by omega) (by omega) rfl rfl ?_
    refine r_aload_n B 0 dX6_told_44 rfl ?_
    refine r_iload_n B 1 dX6_told_45 rfl ?_
    refine r_pVi1 B (c_X6_linesOf l G M md hM s hS_M hok ge (by omega) (by omega)) ⟨rfl, rfl⟩ ok_X6_linesOf vi_X6_linesOf q_1070 hM.1 rfl (fun _ => rfl) ⟨Nat.le_of_ble_eq_true rfl, Nat.le_of_ble_eq_true rfl, Nat.le_of_ble_eq_true rfl⟩ ⟨Nat.le_of_ble_eq_true rfl, Nat.le_of_ble_eq_true rfl⟩ dX6_told_46 ?_
    exact r_iret B dX6_told_49 ⟨by unfold tdS; rw [if_neg (by omega), if_neg (by omega), if_pos hw], hF_M⟩
  · refine r_vi (y := 3) hw ?_
    refine r_tabIn B dX6_told_1 ⟨by omega, by omega⟩ (off := 49) (tgt := 50) (by omega) (by omega) rfl rfl ?_
    refine r_aload_n B 0 dX6_told_50 rfl ?_
    refine r_iload_n B 1 dX6_told_51 rfl ?_
    refine r_iconst B dX6_told_52 ?_
    refine r_Vi2 B (c_X6_classOf l G M md hM s hS_M hok ge (-1) (by omega) (by omega) (by omega) (by omega)) ⟨rfl, rfl⟩ ok_X6_classOf vi_X6_classOf q_1074 hM.1 rfl (fun _ => rfl) ⟨Nat.le_of_ble_eq_true rfl, Nat.le_of_ble_eq_true rfl, Nat.le_of_ble_eq_true rfl⟩ ⟨Nat.le_of_ble_eq_true rfl, Nat.le_of_ble_eq_true rfl⟩ dX6_told_53 (fun rQ1 Q1 h_Q1 => ?_)
    obtain ⟨hv_Q1, hf_Q1⟩ := h_Q1
    rw [hv_Q1]
    clear hv_Q1
    have hS_Q1 := hf_Q1.mds hS_M
    have hF_Q1 := hF_M.tr hf_Q1
    exact r_iret B dX6_told_56 ⟨by unfold tdS; rw [if_neg (by omega), if_neg (by omega), if_neg (by omega), if_pos hw]; rfl, hF_Q1⟩
  · refine r_tabOut B dX6_told_1 ⟨by omega, by omega⟩ (tgt := 57) (Or.inr (by omega)) rfl ?_
    refine r_aload_n B 0 dX6_told_57 rfl ?_
    refine r_iload_n B 1 dX6_told_58 rfl ?_
    refine r_iload_n B 2 dX6_told_59 rfl ?_
    refine r_iconst B dX6_told_60 ?_
    refine r_isub B dX6_told_61 ?_
    refine r_vi (y := 0) (by omega) ?_
    refine r_pVi2 B (c_X6_closing l G M md hM s hS_M hok ge 0 (by omega) (by omega) (by omega) (by omega)) ⟨rfl, rfl⟩ ok_X6_closing vi_X6_closing q_1038 hM.1 rfl (fun _ => rfl) ⟨Nat.le_of_ble_eq_true rfl, Nat.le_of_ble_eq_true rfl, Nat.le_of_ble_eq_true rfl⟩ ⟨Nat.le_of_ble_eq_true rfl, Nat.le_of_ble_eq_true rfl⟩ dX6_told_62 ?_
    exact r_iret B dX6_told_65 ⟨by unfold tdS; rw [if_neg (by omega), if_neg (by omega), if_neg (by omega), if_neg (by omega), if_pos hw], hF_M⟩
  · refine r_tabOut B dX6_told_1 ⟨by omega, by omega⟩ (tgt := 57) (Or.inr (by omega)) rfl ?_
    refine r_aload_n B 0 dX6_told_57 rfl ?_
    refine r_iload_n B 1 dX6_told_58 rfl ?_
    refine r_iload_n B 2 dX6_told_59 rfl ?_
    refine r_iconst B dX6_told_60 ?_
    refine r_isub B dX6_told_61 ?_
    refine r_vi (y := 1) (by omega) ?_
    refine r_pVi2 B (c_X6_closing l G M md hM s hS_M hok ge 1 (by omega) (by omega) (by omega) (by omega)) ⟨rfl, rfl⟩ ok_X6_closing vi_X6_closing q_1038 hM.1 rfl (fun _ => rfl) ⟨Nat.le_of_ble_eq_true rfl, Nat.le_of_ble_eq_true rfl, Nat.le_of_ble_eq_true rfl⟩ ⟨Nat.le_of_ble_eq_true rfl, Nat.le_of_ble_eq_true rfl⟩ dX6_told_62 ?_
    exact r_iret B dX6_told_65 ⟨by unfold tdS; rw [if_neg (by omega), if_neg (by omega), if_neg (by omega), if_neg (by omega), if_neg (by omega)], hF_M⟩

set_option maxRecDepth 100000 in
set_option maxHeartbeats 4000000 in
theorem c_X6_gear (l : Launch) (G : Gs) (M : Mem) (md : Nat) (hM : IsMd G md) (s : Ast) (hS_M : MdS M md s) (hok : StateOk s) (ge wh : Int) (hge : In32 ge) (hwh : In32 wh) : Ct l G yX6_gear cX6_gear 3 (some .int) rm_X6_gear [.ref md, .int (iI ge), .int (iI wh)] M (PoI G (fun r M' => r = (oGear s ge wh).2 ∧ ∃ M1 : Mem, FL M M1 md ∧ M' = sI M1 md 6 (oGear s ge wh).1)) 0 0 := by
  refine Ct.of (by decide +kernel) (Nat.le_of_ble_eq_true rfl) [(0, .ref md), (1, .int (iI ge)), (2, .int (iI wh))] rfl ?_
  intro X B
  have hs1 := hok.1
  have hs2 := hok.2.1
  have hs3 := hok.2.2.1
  have hs4 := hok.2.2.2.1
  have hF_M : FL M M md := FL.rf
  obtain ⟨hge1, hge2⟩ := hge
  obtain ⟨hwh1, hwh2⟩ := hwh
  have i1 := inF_in ge 0 (s.1 - 1)
  have i2 := inF_in wh 0 5
  refine r_aload_n B 0 dX6_gear_0 rfl ?_
  refine r_iload_n B 1 dX6_gear_1 rfl ?_
  refine r_pVz1 B (c_X6_isGear l G M md hM s hS_M hok ge ⟨by omega, by omega⟩) ⟨rfl, rfl⟩ ok_X6_isGear vi_X6_isGear q_988 hM.1 rfl (fun _ => rfl) ⟨Nat.le_of_ble_eq_true rfl, Nat.le_of_ble_eq_true rfl, Nat.le_of_ble_eq_true rfl⟩ ⟨Nat.le_of_ble_eq_true rfl, Nat.le_of_ble_eq_true rfl⟩ dX6_gear_2 ?_
  refine r_if_ne B dX6_gear_5 rfl ⟨by omega, by omega⟩ (fun h1 => ?_) (fun h1 => ?_)
  · have q_h1 := inF_1 h1
    refine r_iload_n B 2 dX6_gear_14 rfl ?_
    refine r_i2l B dX6_gear_15 ⟨by omega, by omega⟩ ?_
    refine r_lconst0 B dX6_gear_16 ?_
    refine r_ldc2 B (z := 5) dX6_gear_17 q_958 (by decide) ?_
    refine r_pSz3 B (c_X6_in l G M  wh 0 5 ⟨by omega, by omega⟩ ⟨by omega, by omega⟩ ⟨by omega, by omega⟩) ⟨rfl, rfl⟩ ok_X6_in q_961 q_960 ⟨Nat.le_of_ble_eq_true rfl, Nat.le_of_ble_eq_true rfl, Nat.le_of_ble_eq_true rfl⟩ ⟨Nat.le_of_ble_eq_true rfl, Nat.le_of_ble_eq_true rfl⟩ dX6_gear_20 ?_
    refine r_if_eq B dX6_gear_23 rfl ⟨by omega, by omega⟩ (fun h2 => ?_) (fun h2 => ?_)
    · have q_h2 := inF_0 h2
      refine r_aload_n B 0 dX6_gear_39 rfl ?_
      refine r_iconst B dX6_gear_40 ?_
      refine r_Vi1 B (c_X6_fails l G M md hM 2) ⟨rfl, rfl⟩ ok_X6_fails vi_X6_fails q_964 hM.1 rfl (fun _ => rfl) ⟨Nat.le_of_ble_eq_true rfl, Nat.le_of_ble_eq_true rfl, Nat.le_of_ble_eq_true rfl⟩ ⟨Nat.le_of_ble_eq_true rfl, Nat.le_of_ble_eq_true rfl⟩ dX6_gear_41 (fun rf Mf hff => ?_)
      obtain ⟨hf1, hf2⟩ := hff
      rw [hf1, hf2]
      clear hf1 hf2
      have ho : oGear s ge wh = (2, 0) := by unfold oGear; rw [if_neg (by omega), if_neg (by omega), if_neg (by omega), if_neg (by omega), if_neg (by omega), if_neg (by omega), if_neg (by omega)]
      exact r_iret B dX6_gear_44 ⟨by rw [ho], _, hF_M, by rw [ho]⟩
    · have q_h2 := inF_1 h2
      refine r_aload_n B 0 dX6_gear_26 rfl ?_
      refine r_aload_n B 0 dX6_gear_27 rfl ?_
      refine r_iload_n B 1 dX6_gear_28 rfl ?_
      refine r_iload_n B 2 dX6_gear_29 rfl ?_
      refine r_Vi2 B (c_X6_told l G M md hM s hS_M hok ge wh (by omega) (by omega) (by omega) (by omega)) ⟨rfl, rfl⟩ ok_X6_told vi_X6_told q_1062 hM.1 rfl (fun _ => rfl) ⟨Nat.le_of_ble_eq_true rfl, Nat.le_of_ble_eq_true rfl, Nat.le_of_ble_eq_true rfl⟩ ⟨Nat.le_of_ble_eq_true rfl, Nat.le_of_ble_eq_true rfl⟩ dX6_gear_30 (fun rQ3 Q3 h_Q3 => ?_)
      obtain ⟨hv_Q3, hf_Q3⟩ := h_Q3
      rw [hv_Q3]
      clear hv_Q3
      have hS_Q3 := hf_Q3.mds hS_M
      have hF_Q3 := hF_M.tr hf_Q3
      refine r_Vi1 B (c_X6_tells l G Q3 md hM (tdS s ge wh)) ⟨rfl, rfl⟩ ok_X6_tells vi_X6_tells q_980 hM.1 rfl (fun _ => rfl) ⟨Nat.le_of_ble_eq_true rfl, Nat.le_of_ble_eq_true rfl, Nat.le_of_ble_eq_true rfl⟩ ⟨Nat.le_of_ble_eq_true rfl, Nat.le_of_ble_eq_true rfl⟩ dX6_gear_33 (fun rf Mf hff => ?_)
      obtain ⟨hf1, hf2⟩ := hff
      rw [hf1, hf2]
      clear hf1 hf2
      refine r_goto B dX6_gear_36 rfl ?_
      have ho : oGear s ge wh = (0, tdS s ge wh) := by unfold oGear tdS; rw [if_neg (by omega)]; rcases (show wh = 0 ∨ wh = 1 ∨ wh = 2 ∨ wh = 3 ∨ wh = 4 ∨ wh = 5 by omega) with w | w | w | w | w | w <;> rw [w] <;> rfl
      exact r_iret B dX6_gear_44 ⟨by rw [ho], _, hF_Q3, by rw [ho]⟩
  · have q_h1 := inF_0 h1
    refine r_aload_n B 0 dX6_gear_8 rfl ?_
    refine r_iconst B dX6_gear_9 ?_
    refine r_Vi1 B (c_X6_fails l G M md hM 1) ⟨rfl, rfl⟩ ok_X6_fails vi_X6_fails q_964 hM.1 rfl (fun _ => rfl) ⟨Nat.le_of_ble_eq_true rfl, Nat.le_of_ble_eq_true rfl, Nat.le_of_ble_eq_true rfl⟩ ⟨Nat.le_of_ble_eq_true rfl, Nat.le_of_ble_eq_true rfl⟩ dX6_gear_10 (fun rf Mf hff => ?_)
    obtain ⟨hf1, hf2⟩ := hff
    rw [hf1, hf2]
    clear hf1 hf2
    have ho : oGear s ge wh = (1, 0) := by unfold oGear; rw [if_pos (by omega)]
    exact r_iret B dX6_gear_13 ⟨by rw [ho], _, hF_M, by rw [ho]⟩

set_option maxRecDepth 100000 in
set_option maxHeartbeats 4000000 in
theorem c_X6_decide (l : Launch) (G : Gs) (M : Mem) (md : Nat) (hM : IsMd G md) (s : Ast) (hS_M : MdS M md s) (hok : StateOk s) (ge qu u : Int) (hge : In32 ge) (hqu : In32 qu) (hu : In32 u) : Ct l G yX6_decide cX6_decide 9 (some .int) rm_X6_decide [.ref md, .int (iI ge), .int (iI qu), .int (iI u)] M (PoI G (fun r M' => r = (oDec s ge qu u).2 ∧ ∃ M1 : Mem, FL M M1 md ∧ M' = sI M1 md 6 (oDec s ge qu u).1)) 0 0 := by
  refine Ct.of (by decide +kernel) (Nat.le_of_ble_eq_true rfl) [(0, .ref md), (1, .int (iI ge)), (2, .int (iI qu)), (3, .int (iI u))] rfl ?_
  intro X B
  have hs1 := hok.1
  have hs2 := hok.2.1
  have hs3 := hok.2.2.1
  have hs4 := hok.2.2.2.1
  have hF_M : FL M M md := FL.rf
  obtain ⟨hge1, hge2⟩ := hge
  obtain ⟨hqu1, hqu2⟩ := hqu
  obtain ⟨hu1, hu2⟩ := hu
  have i1 := inF_in ge 0 (s.1 - 1)
  have i2 := inF_in qu 1 12
  have i3 := inF_in u 0 1000
  refine r_aload_n B 0 dX6_decide_0 rfl ?_
  refine r_iload_n B 1 dX6_decide_1 rfl ?_
  refine r_pVz1 B (c_X6_isGear l G M md hM s hS_M hok ge ⟨by omega, by omega⟩) ⟨rfl, rfl⟩ ok_X6_isGear vi_X6_isGear q_988 hM.1 rfl (fun _ => rfl) ⟨Nat.le_of_ble_eq_true rfl, Nat.le_of_ble_eq_true rfl, Nat.le_of_ble_eq_true rfl⟩ ⟨Nat.le_of_ble_eq_true rfl, Nat.le_of_ble_eq_true rfl⟩ dX6_decide_2 ?_
  refine r_if_ne B dX6_decide_5 rfl ⟨by omega, by omega⟩ (fun h1 => ?_) (fun h1 => ?_)
  · have q_h1 := inF_1 h1
    have hgk := hok.2.2.2.2.1 ge (by omega) (by omega)
    obtain ⟨hgk1, hgk2, hgk3, hgk4, hgk5⟩ := id hgk
    refine r_iload_n B 2 dX6_decide_14 rfl ?_
    refine r_i2l B dX6_decide_15 ⟨by omega, by omega⟩ ?_
    refine r_lconst1 B dX6_decide_16 ?_
    refine r_ldc2 B (z := 12) dX6_decide_17 q_1227 (by decide) ?_
    refine r_pSz3 B (c_X6_in l G M  qu 1 12 ⟨by omega, by omega⟩ ⟨by omega, by omega⟩ ⟨by omega, by omega⟩) ⟨rfl, rfl⟩ ok_X6_in q_961 q_960 ⟨Nat.le_of_ble_eq_true rfl, Nat.le_of_ble_eq_true rfl, Nat.le_of_ble_eq_true rfl⟩ ⟨Nat.le_of_ble_eq_true rfl, Nat.le_of_ble_eq_true rfl⟩ dX6_decide_20 ?_
    refine r_if_eq B dX6_decide_23 rfl ⟨by omega, by omega⟩ (fun h2 => ?_) (fun h2 => ?_)
    · have q_h2 := inF_0 h2
      refine r_aload_n B 0 dX6_decide_38 rfl ?_
      refine r_iconst B dX6_decide_39 ?_
      refine r_Vi1 B (c_X6_fails l G M md hM 2) ⟨rfl, rfl⟩ ok_X6_fails vi_X6_fails q_964 hM.1 rfl (fun _ => rfl) ⟨Nat.le_of_ble_eq_true rfl, Nat.le_of_ble_eq_true rfl, Nat.le_of_ble_eq_true rfl⟩ ⟨Nat.le_of_ble_eq_true rfl, Nat.le_of_ble_eq_true rfl⟩ dX6_decide_40 (fun rf Mf hff => ?_)
      obtain ⟨hf1, hf2⟩ := hff
      rw [hf1, hf2]
      clear hf1 hf2
      have ho : oDec s ge qu u = (2, 0) := by unfold oDec; rw [if_neg (by omega), if_pos (by omega)]
      exact r_iret B dX6_decide_43 ⟨by rw [ho], _, hF_M, by rw [ho]⟩
    · have q_h2 := inF_1 h2
      refine r_iload_n B 3 dX6_decide_26 rfl ?_
      refine r_i2l B dX6_decide_27 ⟨by omega, by omega⟩ ?_
      refine r_lconst0 B dX6_decide_28 ?_
      refine r_ldc2 B (z := 1000) dX6_decide_29 q_1236 (by decide) ?_
      refine r_pSz3 B (c_X6_in l G M  u 0 1000 ⟨by omega, by omega⟩ ⟨by omega, by omega⟩ ⟨by omega, by omega⟩) ⟨rfl, rfl⟩ ok_X6_in q_961 q_960 ⟨Nat.le_of_ble_eq_true rfl, Nat.le_of_ble_eq_true rfl, Nat.le_of_ble_eq_true rfl⟩ ⟨Nat.le_of_ble_eq_true rfl, Nat.le_of_ble_eq_true rfl⟩ dX6_decide_32 ?_
      refine r_if_ne B dX6_decide_35 rfl ⟨by omega, by omega⟩ (fun h3 => ?_) (fun h3 => ?_)
      · have q_h3 := inF_1 h3
        refine r_iconst B dX6_decide_44 ?_
        refine r_istore B (lv' := [(4, .int (iI 0)), (0, .ref md), (1, .int (iI ge)), (2, .int (iI qu)), (3, .int (iI u))]) dX6_decide_45 (by decide) rfl ?_
        refine r_iconst B dX6_decide_47 ?_
        refine r_istore B (lv' := [(5, .int (iI 0)), (4, .int (iI 0)), (0, .ref md), (1, .int (iI ge)), (2, .int (iI qu)), (3, .int (iI u))]) dX6_decide_48 (by decide) rfl ?_
        have lp4 : ∀ (nlp4 : Nat) (d : Int) (fo : Int) (Mc : Mem) (hd0 : 0 ≤ d) (hd1 : d ≤ 9) (hfo : fo = dcF s ge qu u d.toNat) (hF_Mc : FL M Mc md), (9 - d).toNat < nlp4 → WM G X 0 0 (bM X (PoI G (fun r M' => r = (oDec s ge qu u).2 ∧ ∃ M1 : Mem, FL M M1 md ∧ M' = sI M1 md 6 (oDec s ge qu u).1)) 0 0 G) Mc 50 [(0, .ref md), (1, .int (iI ge)), (2, .int (iI qu)), (3, .int (iI u)), (4, .int (iI fo)), (5, .int (iI d))] [] := by
          intro nlp4
          induction nlp4 with
          | zero => intro d fo Mc hd0 hd1 hfo hF_Mc hm; omega
          | succ nlp4 ihlp4 =>
            intro d fo Mc hd0 hd1 hfo hF_Mc hm
            have hS_Mc := hF_Mc.mds hS_M
            have hdc := dcF_in s ge qu u d.toNat
            have hbt := btS_in (t := (s.2.2.1 ge).1) (m := (s.2.2.1 ge).2.1) (w := d) hgk3 hgk4
            have hdv := dvS_in hok (g := ge) (w := d) (by omega) (by omega)
            have hoc := ocS_in (v := btS (s.2.2.1 ge).1 (s.2.2.1 ge).2.1 d) hbt.1 hbt.2 (q := qu) (by omega)
            refine r_iload B 5 dX6_decide_50 rfl ?_
            refine r_bipush B (z := 9) dX6_decide_52 (by decide) ?_
            refine r_icmp_ge B dX6_decide_54 rfl ⟨by omega, by omega⟩ ⟨by omega, by omega⟩ (fun h5 => ?_) (fun h5 => ?_)
            · refine r_aload_n B 0 dX6_decide_127 rfl ?_
              refine r_iload B 4 dX6_decide_128 rfl ?_
              refine r_Vi1 B (c_X6_tells l G Mc md hM fo) ⟨rfl, rfl⟩ ok_X6_tells vi_X6_tells q_980 hM.1 rfl (fun _ => rfl) ⟨Nat.le_of_ble_eq_true rfl, Nat.le_of_ble_eq_true rfl, Nat.le_of_ble_eq_true rfl⟩ ⟨Nat.le_of_ble_eq_true rfl, Nat.le_of_ble_eq_true rfl⟩ dX6_decide_130 (fun rf Mf hff => ?_)
              obtain ⟨hf1, hf2⟩ := hff
              rw [hf1, hf2]
              clear hf1 hf2
              have ho : oDec s ge qu u = (0, fo) := by unfold oDec; rw [if_neg (by omega), if_neg (by omega), hfo, show d = 9 by omega]; rfl
              exact r_iret B dX6_decide_133 ⟨by rw [ho], _, hF_Mc, by rw [ho]⟩
            · have hds := dcS_in s ge qu u d
              refine r_aload_n B 0 dX6_decide_57 rfl ?_
              refine r_iload_n B 1 dX6_decide_58 rfl ?_
              refine r_iload B 5 dX6_decide_59 rfl ?_
              refine r_Vi2 B (c_X6_deviationOf l G Mc md hM s hS_Mc hok ge d (by omega) (by omega) (by omega) (by omega)) ⟨rfl, rfl⟩ ok_X6_deviationOf vi_X6_deviationOf q_1078 hM.1 rfl (fun _ => rfl) ⟨Nat.le_of_ble_eq_true rfl, Nat.le_of_ble_eq_true rfl, Nat.le_of_ble_eq_true rfl⟩ ⟨Nat.le_of_ble_eq_true rfl, Nat.le_of_ble_eq_true rfl⟩ dX6_decide_61 (fun rQ6 Q6 h_Q6 => ?_)
              obtain ⟨hv_Q6, hf_Q6⟩ := h_Q6
              rw [hv_Q6]
              clear hv_Q6
              have hS_Q6 := hf_Q6.mds hS_Mc
              have hF_Q6 := hF_Mc.tr hf_Q6
              refine r_istore B (lv' := [(6, .int (iI (dvS s ge d))), (0, .ref md), (1, .int (iI ge)), (2, .int (iI qu)), (3, .int (iI u)), (4, .int (iI fo)), (5, .int (iI d))]) dX6_decide_64 (by decide) rfl ?_
              refine r_aload_n B 1 dX6_decide_66 rfl ?_
              refine r_iload_n B 2 dX6_decide_67 rfl ?_
              refine r_iload B 6 dX6_decide_68 rfl ?_
              refine r_iload_n B 3 dX6_decide_70 rfl ?_
              refine r_pVi3 B (c_X6_toleranceOf l G Q6 md hM s hS_Q6 hok ge d qu (by omega) (by omega) (by omega) (by omega) (by omega) (by omega)) ⟨rfl, rfl⟩ ok_X6_toleranceOf vi_X6_toleranceOf q_1123 hM.1 rfl (fun _ => rfl) ⟨Nat.le_of_ble_eq_true rfl, Nat.le_of_ble_eq_true rfl, Nat.le_of_ble_eq_true rfl⟩ ⟨Nat.le_of_ble_eq_true rfl, Nat.le_of_ble_eq_true rfl⟩ dX6_decide_71 ?_
              refine r_istore B (lv' := [(7, .int (iI (ocS (btS (s.2.2.1 ge).1 (s.2.2.1 ge).2.1 d) qu))), (6, .int (iI (dvS s ge d))), (0, .ref md), (1, .int (iI ge)), (2, .int (iI qu)), (3, .int (iI u)), (4, .int (iI fo)), (5, .int (iI d))]) dX6_decide_74 (by decide) rfl ?_
              refine r_iload B 1 dX6_decide_76 rfl ?_
              refine r_iload_n B 5 dX6_decide_78 rfl ?_
              refine r_iadd B dX6_decide_79 ?_
              refine r_iload B 0 dX6_decide_80 rfl ?_
              have J7 : ∀ here : Int, (here = dcS s ge qu u d) → WM G X 0 0 (bM X (PoI G (fun r M' => r = (oDec s ge qu u).2 ∧ ∃ M1 : Mem, FL M M1 md ∧ M' = sI M1 md 6 (oDec s ge qu u).1)) 0 0 G) Q6 103 [(7, .int (iI (ocS (btS (s.2.2.1 ge).1 (s.2.2.1 ge).2.1 d) qu))), (6, .int (iI (dvS s ge d))), (0, .ref md), (1, .int (iI ge)), (2, .int (iI qu)), (3, .int (iI u)), (4, .int (iI fo)), (5, .int (iI d))] [.int (iI here)] := by
                intro here hhere
                have hhb : 0 ≤ here ∧ here ≤ 2 := by omega
                refine r_istore B (lv' := [(8, .int (iI here)), (7, .int (iI (ocS (btS (s.2.2.1 ge).1 (s.2.2.1 ge).2.1 d) qu))), (6, .int (iI (dvS s ge d))), (0, .ref md), (1, .int (iI ge)), (2, .int (iI qu)), (3, .int (iI u)), (4, .int (iI fo)), (5, .int (iI d))]) dX6_decide_103 (by decide) rfl ?_
                refine r_iload B 0 dX6_decide_105 rfl ?_
                refine r_iload B 7 dX6_decide_107 rfl ?_
                have J8 : ∀ w1 : Int, (w1 = max fo here) → WM G X 0 0 (bM X (PoI G (fun r M' => r = (oDec s ge qu u).2 ∧ ∃ M1 : Mem, FL M M1 md ∧ M' = sI M1 md 6 (oDec s ge qu u).1)) 0 0 G) Q6 119 [(8, .int (iI here)), (7, .int (iI (ocS (btS (s.2.2.1 ge).1 (s.2.2.1 ge).2.1 d) qu))), (6, .int (iI (dvS s ge d))), (0, .ref md), (1, .int (iI ge)), (2, .int (iI qu)), (3, .int (iI u)), (4, .int (iI fo)), (5, .int (iI d))] [.int (iI w1)] := by
                  intro w1 hw1
                  refine r_istore B (lv' := [(4, .int (iI w1)), (8, .int (iI here)), (7, .int (iI (ocS (btS (s.2.2.1 ge).1 (s.2.2.1 ge).2.1 d) qu))), (6, .int (iI (dvS s ge d))), (0, .ref md), (1, .int (iI ge)), (2, .int (iI qu)), (3, .int (iI u)), (5, .int (iI d))]) dX6_decide_119 (by decide) rfl ?_
                  refine r_iinc B (lv' := [(5, .int (iI (d + 1))), (4, .int (iI w1)), (8, .int (iI here)), (7, .int (iI (ocS (btS (s.2.2.1 ge).1 (s.2.2.1 ge).2.1 d) qu))), (6, .int (iI (dvS s ge d))), (0, .ref md), (1, .int (iI ge)), (2, .int (iI qu)), (3, .int (iI u))]) dX6_decide_121 (j := 8) rfl (by decide) rfl ?_
                  refine r_goto B dX6_decide_124 rfl ?_
                  refine WM.pick [5, 6, 7, 8, 1, 0] rfl ?_
                  exact ihlp4 (d + 1) _ Q6 (by omega) (by omega) (by rw [dcF_s _ _ _ _ hd0, ← hfo, ← hhere]; exact hw1) hF_Q6 (by omega)
                refine r_icmp_le B dX6_decide_109 rfl ⟨by omega, by omega⟩ ⟨by omega, by omega⟩ (fun h9 => ?_) (fun h9 => ?_)
                · refine r_iload B 7 dX6_decide_117 rfl ?_
                  exact J8 _ (by omega)
                · refine r_iload B 0 dX6_decide_112 rfl ?_
                  refine r_goto B dX6_decide_114 rfl ?_
                  exact J8 _ (by omega)
              refine r_icmp_gt B dX6_decide_82 rfl ⟨by omega, by omega⟩ ⟨by omega, by omega⟩ (fun h10 => ?_) (fun h10 => ?_)
              · refine r_iload B 1 dX6_decide_89 rfl ?_
                refine r_iload_n B 5 dX6_decide_91 rfl ?_
                refine r_isub B dX6_decide_92 ?_
                refine r_iload B 0 dX6_decide_93 rfl ?_
                refine r_icmp_le B dX6_decide_95 rfl ⟨by omega, by omega⟩ ⟨by omega, by omega⟩ (fun h11 => ?_) (fun h11 => ?_)
                · refine r_iconst B dX6_decide_102 ?_
                  exact J7 _ (by unfold dcS; rw [if_neg (by omega), if_pos (by omega)])
                · refine r_iconst B dX6_decide_98 ?_
                  refine r_goto B dX6_decide_99 rfl ?_
                  exact J7 _ (by unfold dcS; rw [if_pos (by omega)])
              · refine r_iconst B dX6_decide_85 ?_
                refine r_goto B dX6_decide_86 rfl ?_
                exact J7 _ (by unfold dcS; rw [if_neg (by omega), if_neg (by omega)])
        refine WM.pick [2, 3, 4, 5, 1, 0] rfl ?_
        exact lp4 _ 0 0 M (by omega) (by omega) rfl FL.rf (Nat.lt_succ_self _)
      · have q_h3 := inF_0 h3
        refine r_aload_n B 0 dX6_decide_38 rfl ?_
        refine r_iconst B dX6_decide_39 ?_
        refine r_Vi1 B (c_X6_fails l G M md hM 2) ⟨rfl, rfl⟩ ok_X6_fails vi_X6_fails q_964 hM.1 rfl (fun _ => rfl) ⟨Nat.le_of_ble_eq_true rfl, Nat.le_of_ble_eq_true rfl, Nat.le_of_ble_eq_true rfl⟩ ⟨Nat.le_of_ble_eq_true rfl, Nat.le_of_ble_eq_true rfl⟩ dX6_decide_40 (fun rf Mf hff => ?_)
        obtain ⟨hf1, hf2⟩ := hff
        rw [hf1, hf2]
        clear hf1 hf2
        have ho : oDec s ge qu u = (2, 0) := by unfold oDec; rw [if_neg (by omega), if_pos (by omega)]
        exact r_iret B dX6_decide_43 ⟨by rw [ho], _, hF_M, by rw [ho]⟩
  · have q_h1 := inF_0 h1
    refine r_aload_n B 0 dX6_decide_8 rfl ?_
    refine r_iconst B dX6_decide_9 ?_
    refine r_Vi1 B (c_X6_fails l G M md hM 1) ⟨rfl, rfl⟩ ok_X6_fails vi_X6_fails q_964 hM.1 rfl (fun _ => rfl) ⟨Nat.le_of_ble_eq_true rfl, Nat.le_of_ble_eq_true rfl, Nat.le_of_ble_eq_true rfl⟩ ⟨Nat.le_of_ble_eq_true rfl, Nat.le_of_ble_eq_true rfl⟩ dX6_decide_10 (fun rf Mf hff => ?_)
    obtain ⟨hf1, hf2⟩ := hff
    rw [hf1, hf2]
    clear hf1 hf2
    have ho : oDec s ge qu u = (1, 0) := by unfold oDec; rw [if_pos (by omega)]
    exact r_iret B dX6_decide_13 ⟨by rw [ho], _, hF_M, by rw [ho]⟩

set_option maxRecDepth 100000 in
set_option maxHeartbeats 4000000 in
theorem c_X6_mean (l : Launch) (G : Gs) (M : Mem) (md : Nat) (hM : IsMd G md) (s : Ast) (hS_M : MdS M md s) (hok : StateOk s) (wh : Int) (hwh : In32 wh) : Ct l G yX6_mean cX6_mean 4 (some .double) rm_X6_mean [.ref md, .int (iI wh)] M (PoD G (fun r M' => ((oMean s wh).1 = 0 → r = meanD s wh) ∧ ∃ M1 : Mem, FL M M1 md ∧ M' = sI M1 md 6 (oMean s wh).1)) 0 0 := by
  refine Ct.of (by decide +kernel) (Nat.le_of_ble_eq_true rfl) [(0, .ref md), (1, .int (iI wh))] rfl ?_
  intro X B
  have hs1 := hok.1
  have hs2 := hok.2.1
  have hs3 := hok.2.2.1
  have hs4 := hok.2.2.2.1
  have hF_M : FL M M md := FL.rf
  obtain ⟨hwh1, hwh2⟩ := hwh
  have i1 := inF_in wh 0 8
  refine r_iload_n B 1 dX6_mean_0 rfl ?_
  refine r_pSz1 B (c_X6_isDeviation l G M  wh ⟨by omega, by omega⟩) ⟨rfl, rfl⟩ ok_X6_isDeviation q_1173 q_1172 ⟨Nat.le_of_ble_eq_true rfl, Nat.le_of_ble_eq_true rfl, Nat.le_of_ble_eq_true rfl⟩ ⟨Nat.le_of_ble_eq_true rfl, Nat.le_of_ble_eq_true rfl⟩ dX6_mean_1 ?_
  refine r_if_ne B dX6_mean_4 rfl ⟨by omega, by omega⟩ (fun h1 => ?_) (fun h1 => ?_)
  · have q_h1 := inF_1 h1
    refine r_iconst B dX6_mean_14 ?_
    refine r_istore_n B (lv' := [(2, .int (iI 0)), (0, .ref md), (1, .int (iI wh))]) dX6_mean_15 (by decide) rfl ?_
    refine r_iconst B dX6_mean_16 ?_
    refine r_istore_n B (lv' := [(3, .int (iI 0)), (2, .int (iI 0)), (0, .ref md), (1, .int (iI wh))]) dX6_mean_17 (by decide) rfl ?_
    have lp2 : ∀ (nlp2 : Nat) (i : Int) (fo : Int) (Mc : Mem) (hi0 : 0 ≤ i) (hi1 : i ≤ s.1) (hfo : fo = smF s wh i.toNat) (hF_Mc : FL M Mc md), (s.1 - i).toNat < nlp2 → WM G X 0 0 (bM X (PoD G (fun r M' => ((oMean s wh).1 = 0 → r = meanD s wh) ∧ ∃ M1 : Mem, FL M M1 md ∧ M' = sI M1 md 6 (oMean s wh).1)) 0 0 G) Mc 18 [(0, .ref md), (1, .int (iI wh)), (2, .int (iI fo)), (3, .int (iI i))] [] := by
      intro nlp2
      induction nlp2 with
      | zero => intro i fo Mc hi0 hi1 hfo hF_Mc hm; omega
      | succ nlp2 ihlp2 =>
        intro i fo Mc hi0 hi1 hfo hF_Mc hm
        have hS_Mc := hF_Mc.mds hS_M
        refine r_iload_n B 3 dX6_mean_18 rfl ?_
        refine r_aload_n B 0 dX6_mean_19 rfl ?_
        refine rg6_s B hM.1 q_892 dX6_mean_20 ?_
        refine r_iconst B dX6_mean_23 ?_
        refine r_iaload B dX6_mean_24 hM.2.1 (by omega) (by omega) ?_
        refine r_vi (y := s.1) hS_Mc.1 ?_
        refine r_icmp_ge B dX6_mean_25 rfl ⟨by omega, by omega⟩ ⟨by omega, by omega⟩ (fun h3 => ?_) (fun h3 => ?_)
        · refine r_aload_n B 0 dX6_mean_43 rfl ?_
          refine r_iconst B dX6_mean_44 ?_
          refine rp6_thrown B hM.1 q_898 dX6_mean_45 ?_
          refine WM.nm (fun M4 eM4 => ?_)
          have hS_M4 : MdS M4 md s := by unfold MdS; rw [show gI M4 (md + 1) = gI Mc (md + 1) by rw [eM4]; exact (Same.sI (by omega)).1]; exact hS_Mc
          have ho : oMean s wh = (0, smF s wh s.1.toNat) := by unfold oMean; rw [if_neg (by omega)]
          refine r_aload_n B 0 dX6_mean_48 rfl ?_
          refine rg6_s B hM.1 q_892 dX6_mean_49 ?_
          refine r_iconst B dX6_mean_52 ?_
          refine r_iaload B dX6_mean_53 hM.2.1 (by omega) (by omega) ?_
          refine r_vi (y := s.1) hS_M4.1 ?_
          refine r_if_ne B dX6_mean_54 rfl ⟨by omega, by omega⟩ (fun h5 => ?_) (fun h5 => ?_)
          · refine r_iload_n B 2 dX6_mean_61 rfl ?_
            refine r_i2d B dX6_mean_62 ?_
            refine r_aload_n B 0 dX6_mean_63 rfl ?_
            refine rg6_s B hM.1 q_892 dX6_mean_64 ?_
            refine r_iconst B dX6_mean_67 ?_
            refine r_iaload B dX6_mean_68 hM.2.1 (by omega) (by omega) ?_
            refine r_vi (y := s.1) hS_M4.1 ?_
            refine r_i2d B dX6_mean_69 ?_
            refine r_ddiv B dX6_mean_70 (n64_small (by omega) (by omega)) ?_
            exact r_dret B dX6_mean_71 ⟨fun _ => by unfold meanD; rw [if_neg (by omega), hfo, show i = s.1 by omega]; rfl, _, hF_Mc, by rw [ho, eM4]⟩
          · refine r_dconst0 B dX6_mean_57 ?_
            refine r_goto B dX6_mean_58 rfl ?_
            exact r_dret B dX6_mean_71 ⟨fun _ => by unfold meanD; rw [if_pos (by omega)], _, hF_Mc, by rw [ho, eM4]⟩
        · refine r_iload_n B 2 dX6_mean_28 rfl ?_
          refine r_aload_n B 0 dX6_mean_29 rfl ?_
          refine r_iload_n B 3 dX6_mean_30 rfl ?_
          refine r_iload_n B 1 dX6_mean_31 rfl ?_
          refine r_Vi2 B (c_X6_deviationOf l G Mc md hM s hS_Mc hok i wh (by omega) (by omega) (by omega) (by omega)) ⟨rfl, rfl⟩ ok_X6_deviationOf vi_X6_deviationOf q_1078 hM.1 rfl (fun _ => rfl) ⟨Nat.le_of_ble_eq_true rfl, Nat.le_of_ble_eq_true rfl, Nat.le_of_ble_eq_true rfl⟩ ⟨Nat.le_of_ble_eq_true rfl, Nat.le_of_ble_eq_true rfl⟩ dX6_mean_32 (fun rQ6 Q6 h_Q6 => ?_)
          obtain ⟨hv_Q6, hf_Q6⟩ := h_Q6
          rw [hv_Q6]
          clear hv_Q6
          have hS_Q6 := hf_Q6.mds hS_Mc
          have hF_Q6 := hF_Mc.tr hf_Q6
          refine r_iadd B dX6_mean_35 ?_
          refine r_istore_n B (lv' := [(2, .int (iI (fo + (dvS s i wh)))), (0, .ref md), (1, .int (iI wh)), (3, .int (iI i))]) dX6_mean_36 (by decide) rfl ?_
          refine r_iinc B (lv' := [(3, .int (iI (i + 1))), (2, .int (iI (fo + (dvS s i wh)))), (0, .ref md), (1, .int (iI wh))]) dX6_mean_37 (j := 3) rfl (by decide) rfl ?_
          refine r_goto B dX6_mean_40 rfl ?_
          refine WM.pick [2, 3, 1, 0] rfl ?_
          exact ihlp2 (i + 1) _ Q6 (by omega) (by omega) (by rw [smF_s _ _ hi0, ← hfo]) hF_Q6 (by omega)
    refine WM.pick [2, 3, 1, 0] rfl ?_
    exact lp2 _ 0 0 M (by omega) (by omega) rfl FL.rf (Nat.lt_succ_self _)
  · have q_h1 := inF_0 h1
    refine r_aload_n B 0 dX6_mean_7 rfl ?_
    refine r_iconst B dX6_mean_8 ?_
    refine r_Vi1 B (c_X6_fails l G M md hM 1) ⟨rfl, rfl⟩ ok_X6_fails vi_X6_fails q_964 hM.1 rfl (fun _ => rfl) ⟨Nat.le_of_ble_eq_true rfl, Nat.le_of_ble_eq_true rfl, Nat.le_of_ble_eq_true rfl⟩ ⟨Nat.le_of_ble_eq_true rfl, Nat.le_of_ble_eq_true rfl⟩ dX6_mean_9 (fun rf Mf hff => ?_)
    obtain ⟨hf1, hf2⟩ := hff
    rw [hf1, hf2]
    clear hf1 hf2
    refine r_i2d B dX6_mean_12 ?_
    have ho : oMean s wh = (1, 0) := by unfold oMean; rw [if_pos (by omega)]
    exact r_dret B dX6_mean_13 ⟨by rw [ho]; intro w; exact absurd w (by decide), _, hF_M, by rw [ho]⟩

set_option maxRecDepth 100000 in
set_option maxHeartbeats 4000000 in
theorem c_X6_isAhead (l : Launch) (G : Gs) (M : Mem) (md : Nat) (hM : IsMd G md) (s : Ast) (hS_M : MdS M md s) (hok : StateOk s) (a b : Int) (a0 : 0 ≤ a) (a1 : a < s.1) (b0 : 0 ≤ b) (b1 : b < s.1) : Ct l G yX6_isAhead cX6_isAhead 7 (some .boolean) rm_X6_isAhead [.ref md, .int (iI a), .int (iI b)] M (PoI G (fun r M' => r = rkD (cgS s) (fun g => dvS s g 1) a b ∧ FL M M' md)) 0 0 := by
  refine Ct.of (by decide +kernel) (Nat.le_of_ble_eq_true rfl) [(0, .ref md), (1, .int (iI a)), (2, .int (iI b))] rfl ?_
  intro X B
  have hs1 := hok.1
  have hs2 := hok.2.1
  have hs3 := hok.2.2.1
  have hs4 := hok.2.2.2.1
  have hF_M : FL M M md := FL.rf
  have hca := cgS_in s a
  have hda := dvS_in hok (g := a) (w := 1) (by omega) (by omega)
  have hcb := cgS_in s b
  have hdb := dvS_in hok (g := b) (w := 1) (by omega) (by omega)
  refine r_aload_n B 0 dX6_isAhead_0 rfl ?_
  refine r_iload_n B 1 dX6_isAhead_1 rfl ?_
  refine r_iconst B dX6_isAhead_2 ?_
  refine r_Vi2 B (c_X6_classOf l G M md hM s hS_M hok a (-1) (by omega) (by omega) (by omega) (by omega)) ⟨rfl, rfl⟩ ok_X6_classOf vi_X6_classOf q_1074 hM.1 rfl (fun _ => rfl) ⟨Nat.le_of_ble_eq_true rfl, Nat.le_of_ble_eq_true rfl, Nat.le_of_ble_eq_true rfl⟩ ⟨Nat.le_of_ble_eq_true rfl, Nat.le_of_ble_eq_true rfl⟩ dX6_isAhead_3 (fun rQ1 Q1 h_Q1 => ?_)
  obtain ⟨hv_Q1, hf_Q1⟩ := h_Q1
  rw [hv_Q1]
  clear hv_Q1
  have hS_Q1 := hf_Q1.mds hS_M
  have hF_Q1 := hF_M.tr hf_Q1
  refine r_vi (y := cgS s a) rfl ?_
  refine r_istore_n B (lv' := [(3, .int (iI (cgS s a))), (0, .ref md), (1, .int (iI a)), (2, .int (iI b))]) dX6_isAhead_6 (by decide) rfl ?_
  refine r_aload_n B 1 dX6_isAhead_7 rfl ?_
  refine r_iload_n B 3 dX6_isAhead_8 rfl ?_
  refine r_iconst B dX6_isAhead_9 ?_
  refine r_Vi2 B (c_X6_classOf l G Q1 md hM s hS_Q1 hok b (-1) (by omega) (by omega) (by omega) (by omega)) ⟨rfl, rfl⟩ ok_X6_classOf vi_X6_classOf q_1074 hM.1 rfl (fun _ => rfl) ⟨Nat.le_of_ble_eq_true rfl, Nat.le_of_ble_eq_true rfl, Nat.le_of_ble_eq_true rfl⟩ ⟨Nat.le_of_ble_eq_true rfl, Nat.le_of_ble_eq_true rfl⟩ dX6_isAhead_10 (fun rQ2 Q2 h_Q2 => ?_)
  obtain ⟨hv_Q2, hf_Q2⟩ := h_Q2
  rw [hv_Q2]
  clear hv_Q2
  have hS_Q2 := hf_Q2.mds hS_Q1
  have hF_Q2 := hF_Q1.tr hf_Q2
  refine r_vi (y := cgS s b) rfl ?_
  refine r_istore B (lv' := [(4, .int (iI (cgS s b))), (3, .int (iI (cgS s a))), (0, .ref md), (1, .int (iI a)), (2, .int (iI b))]) dX6_isAhead_13 (by decide) rfl ?_
  refine r_aload_n B 2 dX6_isAhead_15 rfl ?_
  refine r_iload_n B 3 dX6_isAhead_16 rfl ?_
  refine r_iconst B dX6_isAhead_17 ?_
  refine r_Vi2 B (c_X6_deviationOf l G Q2 md hM s hS_Q2 hok a 1 (by omega) (by omega) (by omega) (by omega)) ⟨rfl, rfl⟩ ok_X6_deviationOf vi_X6_deviationOf q_1078 hM.1 rfl (fun _ => rfl) ⟨Nat.le_of_ble_eq_true rfl, Nat.le_of_ble_eq_true rfl, Nat.le_of_ble_eq_true rfl⟩ ⟨Nat.le_of_ble_eq_true rfl, Nat.le_of_ble_eq_true rfl⟩ dX6_isAhead_18 (fun rQ3 Q3 h_Q3 => ?_)
  obtain ⟨hv_Q3, hf_Q3⟩ := h_Q3
  rw [hv_Q3]
  clear hv_Q3
  have hS_Q3 := hf_Q3.mds hS_Q2
  have hF_Q3 := hF_Q2.tr hf_Q3
  refine r_istore B (lv' := [(5, .int (iI (dvS s a 1))), (4, .int (iI (cgS s b))), (3, .int (iI (cgS s a))), (0, .ref md), (1, .int (iI a)), (2, .int (iI b))]) dX6_isAhead_21 (by decide) rfl ?_
  refine r_aload_n B 3 dX6_isAhead_23 rfl ?_
  refine r_iload_n B 5 dX6_isAhead_24 rfl ?_
  refine r_iconst B dX6_isAhead_25 ?_
  refine r_Vi2 B (c_X6_deviationOf l G Q3 md hM s hS_Q3 hok b 1 (by omega) (by omega) (by omega) (by omega)) ⟨rfl, rfl⟩ ok_X6_deviationOf vi_X6_deviationOf q_1078 hM.1 rfl (fun _ => rfl) ⟨Nat.le_of_ble_eq_true rfl, Nat.le_of_ble_eq_true rfl, Nat.le_of_ble_eq_true rfl⟩ ⟨Nat.le_of_ble_eq_true rfl, Nat.le_of_ble_eq_true rfl⟩ dX6_isAhead_26 (fun rQ4 Q4 h_Q4 => ?_)
  obtain ⟨hv_Q4, hf_Q4⟩ := h_Q4
  rw [hv_Q4]
  clear hv_Q4
  have hS_Q4 := hf_Q4.mds hS_Q3
  have hF_Q4 := hF_Q3.tr hf_Q4
  refine r_istore B (lv' := [(6, .int (iI (dvS s b 1))), (5, .int (iI (dvS s a 1))), (4, .int (iI (cgS s b))), (3, .int (iI (cgS s a))), (0, .ref md), (1, .int (iI a)), (2, .int (iI b))]) dX6_isAhead_29 (by decide) rfl ?_
  refine r_iload_n B 3 dX6_isAhead_31 rfl ?_
  refine r_iload B 2 dX6_isAhead_32 rfl ?_
  refine r_icmp_lt B dX6_isAhead_34 rfl ⟨by omega, by omega⟩ ⟨by omega, by omega⟩ (fun h5 => ?_) (fun h5 => ?_)
  · refine r_iconst B dX6_isAhead_62 ?_
    refine r_goto B dX6_isAhead_63 rfl ?_
    exact r_zret B dX6_isAhead_67 (by omega) ⟨by show _ = (if cgS s a < cgS s b then (1 : Int) else if cgS s b < cgS s a then 0 else if dvS s a 1 < dvS s b 1 then 1 else if dvS s b 1 < dvS s a 1 then 0 else if a < b then 1 else 0); rw [if_pos (by omega)], hF_Q4⟩
  · refine r_iload_n B 3 dX6_isAhead_37 rfl ?_
    refine r_iload B 2 dX6_isAhead_38 rfl ?_
    refine r_icmp_ne B dX6_isAhead_40 rfl ⟨by omega, by omega⟩ ⟨by omega, by omega⟩ (fun h6 => ?_) (fun h6 => ?_)
    · refine r_iconst B dX6_isAhead_66 ?_
      exact r_zret B dX6_isAhead_67 (by omega) ⟨by show _ = (if cgS s a < cgS s b then (1 : Int) else if cgS s b < cgS s a then 0 else if dvS s a 1 < dvS s b 1 then 1 else if dvS s b 1 < dvS s a 1 then 0 else if a < b then 1 else 0); rw [if_neg (by omega), if_pos (by omega)], hF_Q4⟩
    · refine r_iload B 1 dX6_isAhead_43 rfl ?_
      refine r_iload B 0 dX6_isAhead_45 rfl ?_
      refine r_icmp_lt B dX6_isAhead_47 rfl ⟨by omega, by omega⟩ ⟨by omega, by omega⟩ (fun h7 => ?_) (fun h7 => ?_)
      · refine r_iconst B dX6_isAhead_62 ?_
        refine r_goto B dX6_isAhead_63 rfl ?_
        exact r_zret B dX6_isAhead_67 (by omega) ⟨by show _ = (if cgS s a < cgS s b then (1 : Int) else if cgS s b < cgS s a then 0 else if dvS s a 1 < dvS s b 1 then 1 else if dvS s b 1 < dvS s a 1 then 0 else if a < b then 1 else 0); rw [if_neg (by omega), if_neg (by omega), if_pos (by omega)], hF_Q4⟩
      · refine r_iload B 1 dX6_isAhead_50 rfl ?_
        refine r_iload B 0 dX6_isAhead_52 rfl ?_
        refine r_icmp_ne B dX6_isAhead_54 rfl ⟨by omega, by omega⟩ ⟨by omega, by omega⟩ (fun h8 => ?_) (fun h8 => ?_)
        · refine r_iconst B dX6_isAhead_66 ?_
          exact r_zret B dX6_isAhead_67 (by omega) ⟨by show _ = (if cgS s a < cgS s b then (1 : Int) else if cgS s b < cgS s a then 0 else if dvS s a 1 < dvS s b 1 then 1 else if dvS s b 1 < dvS s a 1 then 0 else if a < b then 1 else 0); rw [if_neg (by omega), if_neg (by omega), if_neg (by omega), if_pos (by omega)], hF_Q4⟩
        · refine r_iload_n B 5 dX6_isAhead_57 rfl ?_
          refine r_iload_n B 6 dX6_isAhead_58 rfl ?_
          refine r_icmp_ge B dX6_isAhead_59 rfl ⟨by omega, by omega⟩ ⟨by omega, by omega⟩ (fun h9 => ?_) (fun h9 => ?_)
          · refine r_iconst B dX6_isAhead_66 ?_
            exact r_zret B dX6_isAhead_67 (by omega) ⟨by show _ = (if cgS s a < cgS s b then (1 : Int) else if cgS s b < cgS s a then 0 else if dvS s a 1 < dvS s b 1 then 1 else if dvS s b 1 < dvS s a 1 then 0 else if a < b then 1 else 0); rw [if_neg (by omega), if_neg (by omega), if_neg (by omega), if_neg (by omega), if_neg (by omega)], hF_Q4⟩
          · refine r_iconst B dX6_isAhead_62 ?_
            refine r_goto B dX6_isAhead_63 rfl ?_
            exact r_zret B dX6_isAhead_67 (by omega) ⟨by show _ = (if cgS s a < cgS s b then (1 : Int) else if cgS s b < cgS s a then 0 else if dvS s a 1 < dvS s b 1 then 1 else if dvS s b 1 < dvS s a 1 then 0 else if a < b then 1 else 0); rw [if_neg (by omega), if_neg (by omega), if_neg (by omega), if_neg (by omega), if_pos (by omega)], hF_Q4⟩

set_option maxRecDepth 100000 in
set_option maxHeartbeats 4000000 in
theorem c_X6_ranked (l : Launch) (G : Gs) (M : Mem) (md : Nat) (hM : IsMd G md) (s : Ast) (hS_M : MdS M md s) (hok : StateOk s) (pl : Int) (hpl : In32 pl) : Ct l G yX6_ranked cX6_ranked 6 (some .int) rm_X6_ranked [.ref md, .int (iI pl)] M (PoI G (fun r M' => r = (oRank s pl).2 ∧ ∃ M1 : Mem, FL M M1 md ∧ M' = sI M1 md 6 (oRank s pl).1)) 0 0 := by
  refine Ct.of (by decide +kernel) (Nat.le_of_ble_eq_true rfl) [(0, .ref md), (1, .int (iI pl))] rfl ?_
  intro X B
  have hs1 := hok.1
  have hs2 := hok.2.1
  have hs3 := hok.2.2.1
  have hs4 := hok.2.2.2.1
  have hF_M : FL M M md := FL.rf
  obtain ⟨hpl1, hpl2⟩ := hpl
  have i1 := inF_in pl 0 (s.1 - 1)
  refine r_aload_n B 0 dX6_ranked_0 rfl ?_
  refine r_iload_n B 1 dX6_ranked_1 rfl ?_
  refine r_pVz1 B (c_X6_isGear l G M md hM s hS_M hok pl ⟨by omega, by omega⟩) ⟨rfl, rfl⟩ ok_X6_isGear vi_X6_isGear q_988 hM.1 rfl (fun _ => rfl) ⟨Nat.le_of_ble_eq_true rfl, Nat.le_of_ble_eq_true rfl, Nat.le_of_ble_eq_true rfl⟩ ⟨Nat.le_of_ble_eq_true rfl, Nat.le_of_ble_eq_true rfl⟩ dX6_ranked_2 ?_
  refine r_if_ne B dX6_ranked_5 rfl ⟨by omega, by omega⟩ (fun h1 => ?_) (fun h1 => ?_)
  · have q_h1 := inF_1 h1
    refine r_iconst B dX6_ranked_14 ?_
    refine r_istore_n B (lv' := [(2, .int (iI (-1))), (0, .ref md), (1, .int (iI pl))]) dX6_ranked_15 (by decide) rfl ?_
    refine r_iconst B dX6_ranked_16 ?_
    refine r_istore_n B (lv' := [(3, .int (iI 0)), (2, .int (iI (-1))), (0, .ref md), (1, .int (iI pl))]) dX6_ranked_17 (by decide) rfl ?_
    have lp2 : ∀ (nlp2 : Nat) (i : Int) (fo : Int) (Mc : Mem) (hi0 : 0 ≤ i) (hi1 : i ≤ s.1) (hfo : fo = rqF s pl i.toNat) (hF_Mc : FL M Mc md), (s.1 - i).toNat < nlp2 → WM G X 0 0 (bM X (PoI G (fun r M' => r = (oRank s pl).2 ∧ ∃ M1 : Mem, FL M M1 md ∧ M' = sI M1 md 6 (oRank s pl).1)) 0 0 G) Mc 18 [(0, .ref md), (1, .int (iI pl)), (2, .int (iI fo)), (3, .int (iI i))] [] := by
      intro nlp2
      induction nlp2 with
      | zero => intro i fo Mc hi0 hi1 hfo hF_Mc hm; omega
      | succ nlp2 ihlp2 =>
        intro i fo Mc hi0 hi1 hfo hF_Mc hm
        have hS_Mc := hF_Mc.mds hS_M
        have hrq := rqF_in s pl i.toNat
        refine r_iload_n B 3 dX6_ranked_18 rfl ?_
        refine r_aload_n B 0 dX6_ranked_19 rfl ?_
        refine rg6_s B hM.1 q_892 dX6_ranked_20 ?_
        refine r_iconst B dX6_ranked_23 ?_
        refine r_iaload B dX6_ranked_24 hM.2.1 (by omega) (by omega) ?_
        refine r_vi (y := s.1) hS_Mc.1 ?_
        refine r_icmp_ge B dX6_ranked_25 rfl ⟨by omega, by omega⟩ ⟨by omega, by omega⟩ (fun h3 => ?_) (fun h3 => ?_)
        · refine r_aload_n B 0 dX6_ranked_95 rfl ?_
          refine r_iload_n B 2 dX6_ranked_96 rfl ?_
          refine r_Vi1 B (c_X6_tells l G Mc md hM fo) ⟨rfl, rfl⟩ ok_X6_tells vi_X6_tells q_980 hM.1 rfl (fun _ => rfl) ⟨Nat.le_of_ble_eq_true rfl, Nat.le_of_ble_eq_true rfl, Nat.le_of_ble_eq_true rfl⟩ ⟨Nat.le_of_ble_eq_true rfl, Nat.le_of_ble_eq_true rfl⟩ dX6_ranked_97 (fun rf Mf hff => ?_)
          obtain ⟨hf1, hf2⟩ := hff
          rw [hf1, hf2]
          clear hf1 hf2
          have ho : oRank s pl = (0, fo) := by unfold oRank; rw [if_neg (by omega), hfo, show i = s.1 by omega, rqF_rnF s pl s.1.toNat (by rw [show ((s.1.toNat : Nat) : Int) = s.1 by omega]; obtain ⟨k, k0, k1, k2⟩ := rk_all (p := cgS s) (x := fun g => dvS s g 1) (n := s.1.toNat) (q := pl) (by omega) (by omega); exact ⟨k, k0, by omega, k2⟩)]
          exact r_iret B dX6_ranked_100 ⟨by rw [ho], _, hF_Mc, by rw [ho]⟩
        · refine r_iconst B dX6_ranked_28 ?_
          refine r_istore B (lv' := [(4, .int (iI 0)), (0, .ref md), (1, .int (iI pl)), (2, .int (iI fo)), (3, .int (iI i))]) dX6_ranked_29 (by decide) rfl ?_
          refine r_iconst B dX6_ranked_31 ?_
          refine r_istore B (lv' := [(5, .int (iI 0)), (4, .int (iI 0)), (0, .ref md), (1, .int (iI pl)), (2, .int (iI fo)), (3, .int (iI i))]) dX6_ranked_32 (by decide) rfl ?_
          have lp4 : ∀ (nlp4 : Nat) (j : Int) (ah : Int) (Md : Mem) (hj0 : 0 ≤ j) (hj1 : j ≤ s.1) (hah : ah = rkN (cgS s) (fun g => dvS s g 1) i j.toNat) (hF_Md : FL M Md md), (s.1 - j).toNat < nlp4 → WM G X 0 0 (bM X (PoI G (fun r M' => r = (oRank s pl).2 ∧ ∃ M1 : Mem, FL M M1 md ∧ M' = sI M1 md 6 (oRank s pl).1)) 0 0 G) Md 34 [(0, .ref md), (1, .int (iI pl)), (2, .int (iI fo)), (3, .int (iI i)), (4, .int (iI ah)), (5, .int (iI j))] [] := by
            intro nlp4
            induction nlp4 with
            | zero => intro j ah Md hj0 hj1 hah hF_Md hm; omega
            | succ nlp4 ihlp4 =>
              intro j ah Md hj0 hj1 hah hF_Md hm
              have hS_Md := hF_Md.mds hS_M
              have hrn := rkN_in (cgS s) (fun g => dvS s g 1) i j.toNat
              refine r_iload B 5 dX6_ranked_34 rfl ?_
              refine r_aload_n B 0 dX6_ranked_36 rfl ?_
              refine rg6_s B hM.1 q_892 dX6_ranked_37 ?_
              refine r_iconst B dX6_ranked_40 ?_
              refine r_iaload B dX6_ranked_41 hM.2.1 (by omega) (by omega) ?_
              refine r_vi (y := s.1) hS_Md.1 ?_
              refine r_icmp_ge B dX6_ranked_42 rfl ⟨by omega, by omega⟩ ⟨by omega, by omega⟩ (fun h5 => ?_) (fun h5 => ?_)
              · refine r_iload B 4 dX6_ranked_77 rfl ?_
                refine r_iload_n B 1 dX6_ranked_79 rfl ?_
                have J6 : ∀ w1 : Int, ((ah = pl ∧ w1 = i) ∨ (¬ ah = pl ∧ w1 = fo)) → WM G X 0 0 (bM X (PoI G (fun r M' => r = (oRank s pl).2 ∧ ∃ M1 : Mem, FL M M1 md ∧ M' = sI M1 md 6 (oRank s pl).1)) 0 0 G) Md 88 [(0, .ref md), (1, .int (iI pl)), (2, .int (iI fo)), (3, .int (iI i)), (4, .int (iI ah)), (5, .int (iI j))] [.int (iI w1)] := by
                  intro w1 hw1
                  refine r_istore_n B (lv' := [(2, .int (iI w1)), (0, .ref md), (1, .int (iI pl)), (3, .int (iI i)), (4, .int (iI ah)), (5, .int (iI j))]) dX6_ranked_88 (by decide) rfl ?_
                  refine r_iinc B (lv' := [(3, .int (iI (i + 1))), (2, .int (iI w1)), (0, .ref md), (1, .int (iI pl)), (4, .int (iI ah)), (5, .int (iI j))]) dX6_ranked_89 (j := 3) rfl (by decide) rfl ?_
                  refine r_goto B dX6_ranked_92 rfl ?_
                  refine WM.pick [2, 3, 1, 0] rfl ?_
                  exact ihlp2 (i + 1) _ Md (by omega) (by omega) (by rw [rqF_s _ _ hi0]; have hj : j = s.1 := (by omega); rw [hah, hj] at hw1; rcases hw1 with ⟨x1, x2⟩ | ⟨x1, x2⟩; rw [if_pos x1, x2]; rw [if_neg x1, x2]; exact hfo) hF_Md (by omega)
                refine r_icmp_ne B dX6_ranked_80 rfl ⟨by omega, by omega⟩ ⟨by omega, by omega⟩ (fun h7 => ?_) (fun h7 => ?_)
                · refine r_iload_n B 2 dX6_ranked_87 rfl ?_
                  exact J6 _ (Or.inr ⟨h7, rfl⟩)
                · refine r_iload_n B 3 dX6_ranked_83 rfl ?_
                  refine r_goto B dX6_ranked_84 rfl ?_
                  exact J6 _ (Or.inl ⟨h7, rfl⟩)
              · refine r_iload B 4 dX6_ranked_45 rfl ?_
                refine r_iload B 5 dX6_ranked_47 rfl ?_
                refine r_iload_n B 3 dX6_ranked_49 rfl ?_
                have J8 : ∀ (w2 : Int) (Me : Mem), w2 = rkD (cgS s) (fun g => dvS s g 1) j i → FL M Me md → WM G X 0 0 (bM X (PoI G (fun r M' => r = (oRank s pl).2 ∧ ∃ M1 : Mem, FL M M1 md ∧ M' = sI M1 md 6 (oRank s pl).1)) 0 0 G) Me 68 [(0, .ref md), (1, .int (iI pl)), (2, .int (iI fo)), (3, .int (iI i)), (4, .int (iI ah)), (5, .int (iI j))] [.int (iI w2), .int (iI ah)] := by
                  intro w2 Me hw2 hF_Me
                  have hrd := rkD_in (cgS s) (fun g => dvS s g 1) j i
                  refine r_iadd B dX6_ranked_68 ?_
                  refine r_istore B (lv' := [(4, .int (iI (ah + w2))), (0, .ref md), (1, .int (iI pl)), (2, .int (iI fo)), (3, .int (iI i)), (5, .int (iI j))]) dX6_ranked_69 (by decide) rfl ?_
                  refine r_iinc B (lv' := [(5, .int (iI (j + 1))), (4, .int (iI (ah + w2))), (0, .ref md), (1, .int (iI pl)), (2, .int (iI fo)), (3, .int (iI i))]) dX6_ranked_71 (j := 5) rfl (by decide) rfl ?_
                  refine r_goto B dX6_ranked_74 rfl ?_
                  refine WM.pick [2, 3, 4, 5, 1, 0] rfl ?_
                  exact ihlp4 (j + 1) _ Me (by omega) (by omega) (by rw [rkN_s _ _ _ hj0, ← hah, hw2]) hF_Me (by omega)
                refine r_icmp_eq B dX6_ranked_50 rfl ⟨by omega, by omega⟩ ⟨by omega, by omega⟩ (fun h9 => ?_) (fun h9 => ?_)
                · refine r_iconst B dX6_ranked_67 ?_
                  exact J8 _ Md (by rw [h9, rkD_refl]) hF_Md
                · have hrd := rkD_in (cgS s) (fun g => dvS s g 1) j i
                  refine r_aload_n B 0 dX6_ranked_53 rfl ?_
                  refine r_iload B 5 dX6_ranked_54 rfl ?_
                  refine r_iload_n B 3 dX6_ranked_56 rfl ?_
                  refine r_Vz2 B (c_X6_isAhead l G Md md hM s hS_Md hok j i (by omega) (by omega) (by omega) (by omega)) ⟨rfl, rfl⟩ ok_X6_isAhead vi_X6_isAhead q_1272 hM.1 rfl (fun _ => rfl) ⟨Nat.le_of_ble_eq_true rfl, Nat.le_of_ble_eq_true rfl, Nat.le_of_ble_eq_true rfl⟩ ⟨Nat.le_of_ble_eq_true rfl, Nat.le_of_ble_eq_true rfl⟩ dX6_ranked_57 (fun rQ10 Q10 h_Q10 => ?_)
                  obtain ⟨hv_Q10, hf_Q10⟩ := h_Q10
                  rw [hv_Q10]
                  clear hv_Q10
                  have hS_Q10 := hf_Q10.mds hS_Md
                  have hF_Q10 := hF_Md.tr hf_Q10
                  refine r_if_eq B dX6_ranked_60 rfl ⟨by omega, by omega⟩ (fun h11 => ?_) (fun h11 => ?_)
                  · refine r_iconst B dX6_ranked_67 ?_
                    exact J8 _ Q10 h11.symm hF_Q10
                  · refine r_iconst B dX6_ranked_63 ?_
                    refine r_goto B dX6_ranked_64 rfl ?_
                    exact J8 _ Q10 (by omega) hF_Q10
          refine WM.pick [2, 3, 4, 5, 1, 0] rfl ?_
          exact lp4 _ 0 0 Mc (by omega) (by omega) rfl hF_Mc (Nat.lt_succ_self _)
    refine WM.pick [2, 3, 1, 0] rfl ?_
    exact lp2 _ 0 (-1) M (by omega) (by omega) rfl FL.rf (Nat.lt_succ_self _)
  · have q_h1 := inF_0 h1
    refine r_aload_n B 0 dX6_ranked_8 rfl ?_
    refine r_iconst B dX6_ranked_9 ?_
    refine r_Vi1 B (c_X6_fails l G M md hM 1) ⟨rfl, rfl⟩ ok_X6_fails vi_X6_fails q_964 hM.1 rfl (fun _ => rfl) ⟨Nat.le_of_ble_eq_true rfl, Nat.le_of_ble_eq_true rfl, Nat.le_of_ble_eq_true rfl⟩ ⟨Nat.le_of_ble_eq_true rfl, Nat.le_of_ble_eq_true rfl⟩ dX6_ranked_10 (fun rf Mf hff => ?_)
    obtain ⟨hf1, hf2⟩ := hff
    rw [hf1, hf2]
    clear hf1 hf2
    have ho : oRank s pl = (1, 0) := by unfold oRank; rw [if_pos (by omega)]
    exact r_iret B dX6_ranked_13 ⟨by rw [ho], _, hF_M, by rw [ho]⟩

set_option maxRecDepth 100000 in
set_option maxHeartbeats 4000000 in
theorem c_X6_divisor (l : Launch) (G : Gs) (M : Mem) (a b : Int) (ha1 : -1000000000000 ≤ a) (ha2 : a ≤ 1000000000000) (hb1 : 0 ≤ b) (hb2 : b ≤ 1000000000000) : Ct l G yX6_divisor cX6_divisor 10 (some .long) rm_X6_divisor [.long (lI a), .long (lI b)] M (PoL G (Rd ((Int.gcd a b : Nat) : Int) M)) 0 0 := by
  refine Ct.of (by decide +kernel) (Nat.le_of_ble_eq_true rfl) [(0, .long (lI a)), (2, .long (lI b))] rfl ?_
  intro X B
  refine r_lload_n B 0 dX6_divisor_0 rfl ?_
  refine r_lconst0 B dX6_divisor_1 ?_
  have J1 : ∀ xa : Int, (xa = max a (-a)) → WM G X 0 0 (bM X (PoL G (Rd ((Int.gcd a b : Nat) : Int) M)) 0 0 G) M 12 [(0, .long (lI a)), (2, .long (lI b))] [.long (lI xa)] := by
    intro xa hxa
    refine r_lstore B (lv' := [(4, .long (lI xa)), (0, .long (lI a)), (2, .long (lI b))]) dX6_divisor_12 (by decide) rfl ?_
    refine r_lload_n B 2 dX6_divisor_14 rfl ?_
    refine r_lstore B (lv' := [(6, .long (lI b)), (4, .long (lI xa)), (0, .long (lI a)), (2, .long (lI b))]) dX6_divisor_15 (by decide) rfl ?_
    have lp2 : ∀ (nlp2 : Nat) (x : Int) (y : Int) (hx0 : 0 ≤ x) (hx1 : x ≤ 1000000000000) (hy0 : 0 ≤ y) (hy1 : y ≤ 1000000000000) (hgc : ((Int.gcd x y : Nat) : Int) = ((Int.gcd a b : Nat) : Int)), (y).toNat < nlp2 → WM G X 0 0 (bM X (PoL G (Rd ((Int.gcd a b : Nat) : Int) M)) 0 0 G) M 17 [(0, .long (lI a)), (2, .long (lI b)), (4, .long (lI x)), (6, .long (lI y))] [] := by
      intro nlp2
      induction nlp2 with
      | zero => intro x y hx0 hx1 hy0 hy1 hgc hm; omega
      | succ nlp2 ihlp2 =>
        intro x y hx0 hx1 hy0 hy1 hgc hm
        refine r_lload B 3 dX6_divisor_17 rfl ?_
        refine r_lconst0 B dX6_divisor_19 ?_
        refine r_lcmp_eq B dX6_divisor_20 dX6_divisor_21 rfl ⟨by omega, by omega⟩ ⟨by omega, by omega⟩ (fun h3 => ?_) (fun h3 => ?_)
        · refine r_lload B 2 dX6_divisor_42 rfl ?_
          exact r_lret B dX6_divisor_44 ⟨by rw [← hgc, h3]; exact (gcd_0 hx0).symm, rfl⟩
        · have hyp : 0 < y := by omega
          have hmod := Int.emod_lt_of_pos x hyp
          have hmod0 := Int.emod_nonneg x (show y ≠ 0 by omega)
          refine r_lload B 2 dX6_divisor_24 rfl ?_
          refine r_lload B 3 dX6_divisor_26 rfl ?_
          refine r_lrem B dX6_divisor_28 ⟨by omega, by omega⟩ ⟨by omega, by omega⟩ (by omega) ?_
          refine r_vl (y := x % y) (Int.tmod_eq_emod_of_nonneg hx0) ?_
          refine r_lstore B (lv' := [(8, .long (lI (x % y))), (0, .long (lI a)), (2, .long (lI b)), (4, .long (lI x)), (6, .long (lI y))]) dX6_divisor_29 (by decide) rfl ?_
          refine r_lload B 4 dX6_divisor_31 rfl ?_
          refine r_lstore B (lv' := [(4, .long (lI y)), (8, .long (lI (x % y))), (0, .long (lI a)), (2, .long (lI b)), (6, .long (lI y))]) dX6_divisor_33 (by decide) rfl ?_
          refine r_lload B 1 dX6_divisor_35 rfl ?_
          refine r_lstore B (lv' := [(6, .long (lI (x % y))), (4, .long (lI y)), (8, .long (lI (x % y))), (0, .long (lI a)), (2, .long (lI b))]) dX6_divisor_37 (by decide) rfl ?_
          refine r_goto B dX6_divisor_39 rfl ?_
          refine WM.pick [3, 4, 1, 0] rfl ?_
          exact ihlp2 y (x % y) (by omega) (by omega) (by omega) (by omega) (by rw [gcd_step hx0 hyp]; exact hgc) (by omega)
    refine WM.pick [2, 3, 1, 0] rfl ?_
    exact lp2 _ _ _ (by omega) (by omega) (by omega) (by omega) (by rw [hxa, show Int.gcd (max a (-a)) b = Int.gcd a b by have w := gcd_abs a b; rw [show max b (-b) = b by omega] at w; exact w]) (Nat.lt_succ_self _)
  refine r_lcmp_ge B dX6_divisor_2 dX6_divisor_3 rfl ⟨by omega, by omega⟩ ⟨by omega, by omega⟩ (fun h4 => ?_) (fun h4 => ?_)
  · refine r_lload_n B 0 dX6_divisor_11 rfl ?_
    exact J1 _ (by omega)
  · refine r_lload_n B 0 dX6_divisor_6 rfl ?_
    refine r_lneg B dX6_divisor_7 ?_
    refine r_goto B dX6_divisor_8 rfl ?_
    exact J1 _ (by omega)
