set_option maxRecDepth 100000 in
set_option maxHeartbeats 4000000 in
theorem c_X5_eccentricity (l : Launch) (hst : l.stackTraces = false) (G : Gs) (M : Mem) (N : Nat) (s : Ast) (hG : IsGg G N) (hA : StateIs M (N + 1) s) (hok : StateOk s) (ge : Int) (hge : In32 ge) : CtX l G yX5_eccentricity cX5_eccentricity 3 (some .double) rx_X5_eccentricity [.ref N, .int (iI ge)] M (PoD G (fun r M' => (∃ v : Int, oEcc s ge = (0, v) ∧ r = halfD v) ∧ M' = M)) (fun E M' => (E = eIOB ∧ oEcc s ge = (1, 0)) ∧ M' = M) 1 6 := by
  refine CtX.of (by decide +kernel) (Nat.le_of_ble_eq_true rfl) [(0, .ref N), (1, .int (iI ge))] rfl ?_
  intro X B Tx
  have hs1 := hok.1
  have hs2 := hok.2.1
  have hs3 := hok.2.2.1
  have hs4 := hok.2.2.2.1
  obtain ⟨hge1, hge2⟩ := hge
  refine r_aload_n B 0 dX5_eccentricity_0 rfl ?_
  refine r_iload_n B 1 dX5_eccentricity_1 rfl ?_
  refine r_xVa1 B Tx (c_X5_requireGear l hst G M N s hG hA hok ge ⟨by omega, by omega⟩) ⟨rfl, rfl⟩ ok_X5_requireGear vi_X5_requireGear q_535 hG.1 rfl (fun _ => rfl) ⟨Nat.le_of_ble_eq_true rfl, Nat.le_of_ble_eq_true rfl, Nat.le_of_ble_eq_true rfl⟩ ⟨Nat.le_of_ble_eq_true rfl, Nat.le_of_ble_eq_true rfl⟩ dX5_eccentricity_2 ⟨Nat.le_of_ble_eq_true rfl, Nat.le_of_ble_eq_true rfl⟩ (fun E M2 hx => ⟨⟨hx.1, by unfold oEcc; rw [if_pos (by omega)]⟩, hx.2.2⟩) (fun rq1 M2 hq1 => ?_)
  obtain ⟨hrq1, hgq1, hmq1⟩ := hq1
  rw [hrq1, hmq1]
  clear hrq1 hmq1
  refine r_astore_n B (lv' := [(2, .ref (gP M (N + 1 + 1) ge)), (0, .ref N), (1, .int (iI ge))]) dX5_eccentricity_5 (by decide) rfl ?_
  have hgk := hok.2.2.2.2.1 ge (by omega) (by omega)
  obtain ⟨hgk1, hgk2, hgk3, hgk4, hgk5⟩ := id hgk
  refine r_aload_n B 0 dX5_eccentricity_6 rfl ?_
  refine r_pVi0 B (c_X0_greatestOpposite l G M (gP M (N + 1 + 1) ge) (s.2.2.1 ge).1 (s.2.2.1 ge).2.1 (s.2.2.1 ge).2.2 (RowG.gear hG.2.1 hA.2.2.1 (i := ge) (by omega) (by omega)) (hA.2.2.2.2.1 ge (by omega) (by omega)) (hok.2.2.2.2.1 ge (by omega) (by omega))  ) ⟨rfl, rfl⟩ ok_X0_greatestOpposite vi_X0_greatestOpposite q_687 (RowG.gear hG.2.1 hA.2.2.1 (i := ge) (by omega) (by omega)).1 rfl (fun _ => rfl) ⟨Nat.le_of_ble_eq_true rfl, Nat.le_of_ble_eq_true rfl, Nat.le_of_ble_eq_true rfl⟩ ⟨Nat.le_of_ble_eq_true rfl, Nat.le_of_ble_eq_true rfl⟩ dX5_eccentricity_7 ?_
  refine r_i2d B dX5_eccentricity_10 ?_
  refine r_ldc2d B (v := 4611686018427387904) dX5_eccentricity_11 q_691 ?_
  refine r_ddiv B dX5_eccentricity_14 (n64_half _) ?_
  exact WM.xret (Nat.le_of_ble_eq_true rfl) (Nat.le_of_ble_eq_true rfl) (r_dret B dX5_eccentricity_15 ⟨⟨_, by unfold oEcc; rw [if_neg (by omega)], rfl⟩, rfl⟩)

set_option maxRecDepth 100000 in
set_option maxHeartbeats 4000000 in
theorem c_X5_mean (l : Launch) (hst : l.stackTraces = false) (G : Gs) (M : Mem) (N : Nat) (s : Ast) (hG : IsGg G N) (hA : StateIs M (N + 1) s) (hok : StateOk s) (wh : Int) (hwh : In32 wh) : CtX l G yX5_mean cX5_mean 4 (some .double) rx_X5_mean [.ref N, .int (iI wh)] M (PoD G (fun r M' => (oMean s wh = (0, smF s wh s.1.toNat) ∧ r = meanD s wh) ∧ M' = M)) (fun E M' => (E = eIAE ∧ oMean s wh = (1, 0)) ∧ M' = M) 1 6 := by
  refine CtX.of (by decide +kernel) (Nat.le_of_ble_eq_true rfl) [(0, .ref N), (1, .int (iI wh))] rfl ?_
  intro X B Tx
  have hs1 := hok.1
  have hs2 := hok.2.1
  have hs3 := hok.2.2.1
  have hs4 := hok.2.2.2.1
  obtain ⟨hwh1, hwh2⟩ := hwh
  refine r_iload_n B 1 dX5_mean_0 rfl ?_
  refine r_xSv1 B Tx (c_X5_requireWhat l hst G M wh ⟨by omega, by omega⟩) ⟨rfl, rfl⟩ ok_X5_requireWhat q_700 q_699 ⟨Nat.le_of_ble_eq_true rfl, Nat.le_of_ble_eq_true rfl, Nat.le_of_ble_eq_true rfl⟩ ⟨Nat.le_of_ble_eq_true rfl, Nat.le_of_ble_eq_true rfl⟩ dX5_mean_1 ⟨Nat.le_of_ble_eq_true rfl, Nat.le_of_ble_eq_true rfl⟩ (fun E M2 hx => ⟨⟨hx.1, by unfold oMean; rw [if_pos (by omega)]⟩, hx.2.2⟩) (fun M2 hq1 => ?_)
  obtain ⟨hgq1, hmq1⟩ := hq1
  rw [hmq1]
  clear hmq1
  refine r_aload_n B 0 dX5_mean_4 rfl ?_
  refine rg5_now B hG.1 q_171 dX5_mean_5 ?_
  refine rg3_gearCount B hG.2.1.1 q_94 dX5_mean_8 ?_
  refine r_vi (y := s.1) hA.1 ?_
  refine r_iconst B dX5_mean_11 ?_
  refine r_icmp_ge B dX5_mean_12 rfl ⟨by omega, by omega⟩ ⟨by omega, by omega⟩ (fun h3 => ?_) (fun h3 => ?_)
  · refine r_iconst B dX5_mean_17 ?_
    refine r_istore_n B (lv' := [(2, .int (iI 0)), (0, .ref N), (1, .int (iI wh))]) dX5_mean_18 (by decide) rfl ?_
    refine r_iconst B dX5_mean_19 ?_
    refine r_istore_n B (lv' := [(3, .int (iI 0)), (2, .int (iI 0)), (0, .ref N), (1, .int (iI wh))]) dX5_mean_20 (by decide) rfl ?_
    have lp4 : ∀ (nlp4 : Nat) (i : Int) (fo : Int) (hi0 : 0 ≤ i) (hi1 : i ≤ s.1) (hfo : fo = smF s wh i.toNat), (s.1 - i).toNat < nlp4 → WM G X 1 6 (bX X (PoD G (fun r M' => (oMean s wh = (0, smF s wh s.1.toNat) ∧ r = meanD s wh) ∧ M' = M)) (fun E M' => (E = eIAE ∧ oMean s wh = (1, 0)) ∧ M' = M) 1 6 G) M 21 [(0, .ref N), (1, .int (iI wh)), (2, .int (iI fo)), (3, .int (iI i))] [] := by
      intro nlp4
      induction nlp4 with
      | zero => intro i fo hi0 hi1 hfo hm; omega
      | succ nlp4 ihlp4 =>
        intro i fo hi0 hi1 hfo hm
        refine r_iload_n B 3 dX5_mean_21 rfl ?_
        refine r_aload_n B 0 dX5_mean_22 rfl ?_
        refine rg5_now B hG.1 q_171 dX5_mean_23 ?_
        refine rg3_gearCount B hG.2.1.1 q_94 dX5_mean_26 ?_
        refine r_vi (y := s.1) hA.1 ?_
        refine r_icmp_ge B dX5_mean_29 rfl ⟨by omega, by omega⟩ ⟨by omega, by omega⟩ (fun h5 => ?_) (fun h5 => ?_)
        · refine r_iload_n B 2 dX5_mean_50 rfl ?_
          refine r_i2d B dX5_mean_51 ?_
          refine r_aload_n B 0 dX5_mean_52 rfl ?_
          refine rg5_now B hG.1 q_171 dX5_mean_53 ?_
          refine rg3_gearCount B hG.2.1.1 q_94 dX5_mean_56 ?_
          refine r_vi (y := s.1) hA.1 ?_
          refine r_i2d B dX5_mean_59 ?_
          refine r_ddiv B dX5_mean_60 (n64_small (by omega) (by omega)) ?_
          exact WM.xret (Nat.le_of_ble_eq_true rfl) (Nat.le_of_ble_eq_true rfl) (r_dret B dX5_mean_61 ⟨⟨by unfold oMean; rw [if_neg (by omega)], by unfold meanD; rw [if_neg (by omega), hfo, show i = s.1 by omega]; rfl⟩, rfl⟩)
        · refine r_iload_n B 2 dX5_mean_32 rfl ?_
          refine r_aload_n B 0 dX5_mean_33 rfl ?_
          refine rg5_now B hG.1 q_171 dX5_mean_34 ?_
          refine r_iload_n B 3 dX5_mean_37 rfl ?_
          refine r_iload_n B 1 dX5_mean_38 rfl ?_
          refine r_pVi2 B (c_X3_deviationOf l G M (N + 1) s hG.2.1 hA hok i wh (by omega) (by omega) (by omega) (by omega)) ⟨rfl, rfl⟩ ok_X3_deviationOf vi_X3_deviationOf q_338 hG.2.1.1 rfl (fun _ => rfl) ⟨Nat.le_of_ble_eq_true rfl, Nat.le_of_ble_eq_true rfl, Nat.le_of_ble_eq_true rfl⟩ ⟨Nat.le_of_ble_eq_true rfl, Nat.le_of_ble_eq_true rfl⟩ dX5_mean_39 ?_
          refine r_iadd B dX5_mean_42 ?_
          refine r_istore_n B (lv' := [(2, .int (iI (fo + (dvS s i wh)))), (0, .ref N), (1, .int (iI wh)), (3, .int (iI i))]) dX5_mean_43 (by decide) rfl ?_
          refine r_iinc B (lv' := [(3, .int (iI (i + 1))), (2, .int (iI (fo + (dvS s i wh)))), (0, .ref N), (1, .int (iI wh))]) dX5_mean_44 (j := 3) rfl (by decide) rfl ?_
          refine r_goto B dX5_mean_47 rfl ?_
          refine WM.pick [2, 3, 1, 0] rfl ?_
          exact ihlp4 (i + 1) _ (by omega) (by omega) (by rw [smF_s _ _ hi0, ← hfo]) (by omega)
    refine WM.pick [2, 3, 1, 0] rfl ?_
    exact lp4 _ 0 0 (by omega) (by omega) rfl (Nat.lt_succ_self _)
  · refine r_dconst0 B dX5_mean_15 ?_
    exact WM.xret (Nat.le_of_ble_eq_true rfl) (Nat.le_of_ble_eq_true rfl) (r_dret B dX5_mean_16 ⟨⟨by unfold oMean; rw [if_neg (by omega)], by unfold meanD; rw [if_pos (by omega)]⟩, rfl⟩)

set_option maxRecDepth 100000 in
set_option maxHeartbeats 4000000 in
theorem c_X5_decide (l : Launch) (hst : l.stackTraces = false) (G : Gs) (M : Mem) (N : Nat) (s : Ast) (hG : IsGg G N) (hA : StateIs M (N + 1) s) (hok : StateOk s) (ge qu u : Int) (hge : In32 ge) (hqu : In32 qu) (hu : In32 u) : CtX l G yX5_decide cX5_decide 8 (some .int) rx_X5_decide [.ref N, .int (iI ge), .int (iI qu), .int (iI u)] M (PoI G (fun r M' => oDec s ge qu u = (0, r) ∧ M' = M)) (fun E M' => (E = eIOB ∧ oDec s ge qu u = (1, 0) ∨ E = eIAE ∧ oDec s ge qu u = (2, 0)) ∧ M' = M) 3 18 := by
  refine CtX.of (by decide +kernel) (Nat.le_of_ble_eq_true rfl) [(0, .ref N), (1, .int (iI ge)), (2, .int (iI qu)), (3, .int (iI u))] rfl ?_
  intro X B Tx
  have hs1 := hok.1
  have hs2 := hok.2.1
  have hs3 := hok.2.2.1
  have hs4 := hok.2.2.2.1
  obtain ⟨hge1, hge2⟩ := hge
  obtain ⟨hqu1, hqu2⟩ := hqu
  obtain ⟨hu1, hu2⟩ := hu
  refine r_aload_n B 0 dX5_decide_0 rfl ?_
  refine r_iload_n B 1 dX5_decide_1 rfl ?_
  refine r_xVa1 B Tx (c_X5_requireGear l hst G M N s hG hA hok ge ⟨by omega, by omega⟩) ⟨rfl, rfl⟩ ok_X5_requireGear vi_X5_requireGear q_535 hG.1 rfl (fun _ => rfl) ⟨Nat.le_of_ble_eq_true rfl, Nat.le_of_ble_eq_true rfl, Nat.le_of_ble_eq_true rfl⟩ ⟨Nat.le_of_ble_eq_true rfl, Nat.le_of_ble_eq_true rfl⟩ dX5_decide_2 ⟨Nat.le_of_ble_eq_true rfl, Nat.le_of_ble_eq_true rfl⟩ (fun E M2 hx => ⟨Or.inl (⟨hx.1, by unfold oDec; rw [if_pos (by omega)]⟩), hx.2.2⟩) (fun rq1 M2 hq1 => ?_)
  obtain ⟨hrq1, hgq1, hmq1⟩ := hq1
  rw [hrq1, hmq1]
  clear hrq1 hmq1
  refine r_astore B (lv' := [(4, .ref (gP M (N + 1 + 1) ge)), (0, .ref N), (1, .int (iI ge)), (2, .int (iI qu)), (3, .int (iI u))]) dX5_decide_5 (by decide) rfl ?_
  have hgk := hok.2.2.2.2.1 ge (by omega) (by omega)
  obtain ⟨hgk1, hgk2, hgk3, hgk4, hgk5⟩ := id hgk
  refine r_iload_n B 3 dX5_decide_7 rfl ?_
  refine r_xSv1 B Tx (c_X5_requireClass l hst G M qu ⟨by omega, by omega⟩) ⟨rfl, rfl⟩ ok_X5_requireClass q_786 q_785 ⟨Nat.le_of_ble_eq_true rfl, Nat.le_of_ble_eq_true rfl, Nat.le_of_ble_eq_true rfl⟩ ⟨Nat.le_of_ble_eq_true rfl, Nat.le_of_ble_eq_true rfl⟩ dX5_decide_8 ⟨Nat.le_of_ble_eq_true rfl, Nat.le_of_ble_eq_true rfl⟩ (fun E M2 hx => ⟨Or.inr (⟨hx.1, by unfold oDec; rw [if_neg (by omega), if_pos (by omega)]⟩), hx.2.2⟩) (fun M4 hq3 => ?_)
  obtain ⟨hgq3, hmq3⟩ := hq3
  rw [hmq3]
  clear hmq3
  refine r_iload_n B 4 dX5_decide_11 rfl ?_
  refine r_if_lt B dX5_decide_12 rfl ⟨by omega, by omega⟩ (fun h5 => ?_) (fun h5 => ?_)
  · exact r_thrA B Tx hst (is := 251) (text := "u out of range") (by decide +kernel) dX5_decide_22 dX5_decide_25 dX5_decide_26 dX5_decide_28 dX5_decide_31 ⟨Nat.le_of_ble_eq_true rfl, Nat.le_of_ble_eq_true rfl, Nat.le_of_ble_eq_true rfl, Nat.le_of_ble_eq_true rfl⟩ ⟨Nat.le_of_ble_eq_true rfl, Nat.le_of_ble_eq_true rfl⟩ ⟨Or.inr (⟨rfl, by unfold oDec; rw [if_neg (by omega), if_pos (by omega)]⟩), rfl⟩
  · refine r_iload_n B 4 dX5_decide_15 rfl ?_
    refine r_sipush B (z := 1000) dX5_decide_16 (by decide) ?_
    refine r_icmp_le B dX5_decide_19 rfl ⟨by omega, by omega⟩ ⟨by omega, by omega⟩ (fun h6 => ?_) (fun h6 => ?_)
    · refine r_iconst B dX5_decide_32 ?_
      refine r_istore B (lv' := [(5, .int (iI 0)), (4, .ref (gP M (N + 1 + 1) ge)), (0, .ref N), (1, .int (iI ge)), (2, .int (iI qu)), (3, .int (iI u))]) dX5_decide_33 (by decide) rfl ?_
      refine r_iconst B dX5_decide_35 ?_
      refine r_istore B (lv' := [(6, .int (iI 0)), (5, .int (iI 0)), (4, .ref (gP M (N + 1 + 1) ge)), (0, .ref N), (1, .int (iI ge)), (2, .int (iI qu)), (3, .int (iI u))]) dX5_decide_36 (by decide) rfl ?_
      have lp7 : ∀ (nlp7 : Nat) (i : Int) (fo : Int) (hi0 : 0 ≤ i) (hi1 : i ≤ 9) (hfb : 0 ≤ fo ∧ fo ≤ 1) (hfo : fo = dcF s ge qu u i.toNat), (9 - i).toNat < nlp7 → WM G X 2 12 (bX X (PoI G (fun r M' => oDec s ge qu u = (0, r) ∧ M' = M)) (fun E M' => (E = eIOB ∧ oDec s ge qu u = (1, 0) ∨ E = eIAE ∧ oDec s ge qu u = (2, 0)) ∧ M' = M) 3 18 G) M 38 [(0, .ref N), (1, .int (iI ge)), (2, .int (iI qu)), (3, .int (iI u)), (4, .ref (gP M (N + 1 + 1) ge)), (5, .int (iI fo)), (6, .int (iI i))] [] := by
        intro nlp7
        induction nlp7 with
        | zero => intro i fo hi0 hi1 hfb hfo hm; omega
        | succ nlp7 ihlp7 =>
          intro i fo hi0 hi1 hfb hfo hm
          have hbt := btS_in (t := (s.2.2.1 ge).1) (m := (s.2.2.1 ge).2.1) (w := i) hgk3 hgk4
          have hdv := dvS_in hok (g := ge) (w := i) (by omega) (by omega)
          have hoc := ocS_in (v := btS (s.2.2.1 ge).1 (s.2.2.1 ge).2.1 i) hbt.1 hbt.2 (q := qu) (by omega)
          refine r_iload B 6 dX5_decide_38 rfl ?_
          refine r_bipush B (z := 9) dX5_decide_40 (by decide) ?_
          refine r_icmp_ge B dX5_decide_42 rfl ⟨by omega, by omega⟩ ⟨by omega, by omega⟩ (fun h8 => ?_) (fun h8 => ?_)
          · refine r_iload B 5 dX5_decide_93 rfl ?_
            exact WM.xret (Nat.le_of_ble_eq_true rfl) (Nat.le_of_ble_eq_true rfl) (r_iret B dX5_decide_95 ⟨by unfold oDec; rw [if_neg (by omega), if_neg (by omega), hfo, show i = 9 by omega]; rfl, rfl⟩)
          · refine r_aload_n B 0 dX5_decide_45 rfl ?_
            refine rg5_now B hG.1 q_171 dX5_decide_46 ?_
            refine r_iload_n B 1 dX5_decide_49 rfl ?_
            refine r_iload B 6 dX5_decide_50 rfl ?_
            refine r_pVi2 B (c_X3_deviationOf l G M (N + 1) s hG.2.1 hA hok ge i (by omega) (by omega) (by omega) (by omega)) ⟨rfl, rfl⟩ ok_X3_deviationOf vi_X3_deviationOf q_338 hG.2.1.1 rfl (fun _ => rfl) ⟨Nat.le_of_ble_eq_true rfl, Nat.le_of_ble_eq_true rfl, Nat.le_of_ble_eq_true rfl⟩ ⟨Nat.le_of_ble_eq_true rfl, Nat.le_of_ble_eq_true rfl⟩ dX5_decide_52 ?_
            refine r_aload B 4 dX5_decide_55 rfl ?_
            refine r_iload B 6 dX5_decide_57 rfl ?_
            refine r_pSi2 B (c_X5_baseTolerance l G M (gP M (N + 1 + 1) ge) ((s.2.2.1 ge).1) ((s.2.2.1 ge).2.1) i ((s.2.2.1 ge).2.2) (RowG.gear hG.2.1 hA.2.2.1 (i := ge) (by omega) (by omega)) (hA.2.2.2.2.1 ge (by omega) (by omega)) (by omega) (by omega) (by omega) (by omega) (by omega) (by omega)) ⟨rfl, rfl⟩ ok_X5_baseTolerance q_333 q_332 ⟨Nat.le_of_ble_eq_true rfl, Nat.le_of_ble_eq_true rfl, Nat.le_of_ble_eq_true rfl⟩ ⟨Nat.le_of_ble_eq_true rfl, Nat.le_of_ble_eq_true rfl⟩ dX5_decide_59 ?_
            refine r_iload_n B 2 dX5_decide_62 rfl ?_
            refine r_pSi2 B (c_X5_ofClass l G M (btS ((s.2.2.1 ge).1) ((s.2.2.1 ge).2.1) i) qu (by omega) (by omega) (by omega) (by omega)) ⟨rfl, rfl⟩ ok_X5_ofClass q_425 q_424 ⟨Nat.le_of_ble_eq_true rfl, Nat.le_of_ble_eq_true rfl, Nat.le_of_ble_eq_true rfl⟩ ⟨Nat.le_of_ble_eq_true rfl, Nat.le_of_ble_eq_true rfl⟩ dX5_decide_63 ?_
            refine r_isub B dX5_decide_66 ?_
            refine r_istore B (lv' := [(7, .int (iI ((dvS s ge i) - (ocS (btS ((s.2.2.1 ge).1) ((s.2.2.1 ge).2.1) i) qu)))), (0, .ref N), (1, .int (iI ge)), (2, .int (iI qu)), (3, .int (iI u)), (4, .ref (gP M (N + 1 + 1) ge)), (5, .int (iI fo)), (6, .int (iI i))]) dX5_decide_67 (by decide) rfl ?_
            refine r_iload B 0 dX5_decide_69 rfl ?_
            refine r_iload_n B 4 dX5_decide_71 rfl ?_
            refine r_icmp_le B dX5_decide_72 rfl ⟨by omega, by omega⟩ ⟨by omega, by omega⟩ (fun h9 => ?_) (fun h9 => ?_)
            · refine r_iload B 0 dX5_decide_77 rfl ?_
              refine r_iload_n B 4 dX5_decide_79 rfl ?_
              refine r_ineg B dX5_decide_80 ?_
              refine r_icmp_le B dX5_decide_81 rfl ⟨by omega, by omega⟩ ⟨by omega, by omega⟩ (fun h10 => ?_) (fun h10 => ?_)
              · have hds : dcS s ge qu u i = 0 := by unfold dcS; rw [if_neg (by omega), if_neg (by omega)]
                refine r_iinc B (lv' := [(6, .int (iI (i + 1))), (7, .int (iI ((dvS s ge i) - (ocS (btS ((s.2.2.1 ge).1) ((s.2.2.1 ge).2.1) i) qu)))), (0, .ref N), (1, .int (iI ge)), (2, .int (iI qu)), (3, .int (iI u)), (4, .ref (gP M (N + 1 + 1) ge)), (5, .int (iI fo))]) dX5_decide_87 (j := 7) rfl (by decide) rfl ?_
                refine r_goto B dX5_decide_90 rfl ?_
                refine WM.pick [2, 3, 4, 5, 6, 7, 0] rfl ?_
                exact ihlp7 (i + 1) _ (by omega) (by omega) (by omega) (by rw [dcF_s _ _ _ _ hi0, ← hfo, hds]; omega) (by omega)
              · have hds : dcS s ge qu u i = 1 := by unfold dcS; rw [if_neg (by omega), if_pos (by omega)]
                refine r_iconst B dX5_decide_84 ?_
                refine r_istore B (lv' := [(5, .int (iI 1)), (7, .int (iI ((dvS s ge i) - (ocS (btS ((s.2.2.1 ge).1) ((s.2.2.1 ge).2.1) i) qu)))), (0, .ref N), (1, .int (iI ge)), (2, .int (iI qu)), (3, .int (iI u)), (4, .ref (gP M (N + 1 + 1) ge)), (6, .int (iI i))]) dX5_decide_85 (by decide) rfl ?_
                refine r_iinc B (lv' := [(6, .int (iI (i + 1))), (5, .int (iI 1)), (7, .int (iI ((dvS s ge i) - (ocS (btS ((s.2.2.1 ge).1) ((s.2.2.1 ge).2.1) i) qu)))), (0, .ref N), (1, .int (iI ge)), (2, .int (iI qu)), (3, .int (iI u)), (4, .ref (gP M (N + 1 + 1) ge))]) dX5_decide_87 (j := 7) rfl (by decide) rfl ?_
                refine r_goto B dX5_decide_90 rfl ?_
                refine WM.pick [3, 4, 5, 6, 7, 1, 0] rfl ?_
                exact ihlp7 (i + 1) _ (by omega) (by omega) (by omega) (by rw [dcF_s _ _ _ _ hi0, ← hfo, hds]; omega) (by omega)
            · have hds : dcS s ge qu u i = 2 := by unfold dcS; rw [if_pos (by omega)]
              refine r_iconst B dX5_decide_75 ?_
              exact WM.xret (Nat.le_of_ble_eq_true rfl) (Nat.le_of_ble_eq_true rfl) (r_iret B dX5_decide_76 ⟨by unfold oDec; rw [if_neg (by omega), if_neg (by omega), dcF_2 _ _ _ _ hi0 (by omega) hds], rfl⟩)
      refine WM.pick [3, 4, 5, 6, 2, 1, 0] rfl ?_
      exact lp7 _ 0 0 (by omega) (by omega) (by omega) rfl (Nat.lt_succ_self _)
    · exact r_thrA B Tx hst (is := 251) (text := "u out of range") (by decide +kernel) dX5_decide_22 dX5_decide_25 dX5_decide_26 dX5_decide_28 dX5_decide_31 ⟨Nat.le_of_ble_eq_true rfl, Nat.le_of_ble_eq_true rfl, Nat.le_of_ble_eq_true rfl, Nat.le_of_ble_eq_true rfl⟩ ⟨Nat.le_of_ble_eq_true rfl, Nat.le_of_ble_eq_true rfl⟩ ⟨Or.inr (⟨rfl, by unfold oDec; rw [if_neg (by omega), if_pos (by omega)]⟩), rfl⟩

set_option maxRecDepth 100000 in
set_option maxHeartbeats 4000000 in
theorem c_X5_best (l : Launch) (hst : l.stackTraces = false) (G : Gs) (M : Mem) (N : Nat) (s : Ast) (hG : IsGg G N) (hA : StateIs M (N + 1) s) (hok : StateOk s) (li sl p : Int) (hli : In32 li) (hp : In32 p) (hsl : sl = 0 ∨ sl = 1) : CtX l G yX5_best cX5_best 11 (some .long) rx_X5_best [.ref N, .int (iI li), .int (iI sl), .int (iI p)] M (PoL G (fun r M' => oBest s li sl p = (0, r) ∧ M' = M)) (fun E M' => (E = eIOB ∧ oBest s li sl p = (1, 0) ∨ E = eIAE ∧ oBest s li sl p = (2, 0) ∨ E = eISE ∧ oBest s li sl p = (3, 0)) ∧ M' = M) 3 18 := by
  refine CtX.of (by decide +kernel) (Nat.le_of_ble_eq_true rfl) [(0, .ref N), (1, .int (iI li)), (2, .int (iI sl)), (3, .int (iI p))] rfl ?_
  intro X B Tx
  have hs1 := hok.1
  have hs2 := hok.2.1
  have hs3 := hok.2.2.1
  have hs4 := hok.2.2.2.1
  obtain ⟨hli1, hli2⟩ := hli
  obtain ⟨hp1, hp2⟩ := hp
  have hsl1 : 0 ≤ sl ∧ sl ≤ 1 := by omega
  refine r_aload_n B 0 dX5_best_0 rfl ?_
  refine r_iload_n B 1 dX5_best_1 rfl ?_
  refine r_xVa1 B Tx (c_X5_requireLine l hst G M N s hG hA hok li ⟨by omega, by omega⟩) ⟨rfl, rfl⟩ ok_X5_requireLine vi_X5_requireLine q_719 hG.1 rfl (fun _ => rfl) ⟨Nat.le_of_ble_eq_true rfl, Nat.le_of_ble_eq_true rfl, Nat.le_of_ble_eq_true rfl⟩ ⟨Nat.le_of_ble_eq_true rfl, Nat.le_of_ble_eq_true rfl⟩ dX5_best_2 ⟨Nat.le_of_ble_eq_true rfl, Nat.le_of_ble_eq_true rfl⟩ (fun E M2 hx => ⟨Or.inl (⟨hx.1, by unfold oBest; rw [if_pos (by omega)]⟩), hx.2.2⟩) (fun rq1 M2 hq1 => ?_)
  obtain ⟨hrq1, hgq1, hmq1⟩ := hq1
  rw [hrq1, hmq1]
  clear hrq1 hmq1
  refine r_astore B (lv' := [(4, .ref (gP M (N + 1 + 2) li)), (0, .ref N), (1, .int (iI li)), (2, .int (iI sl)), (3, .int (iI p))]) dX5_best_5 (by decide) rfl ?_
  have hlk := hok.2.2.2.2.2 li (by omega) (by omega)
  obtain ⟨⟨hln0, hln1, hlv⟩, hlg0, hlg1, hlk0, hlk1⟩ := id hlk
  refine r_iload_n B 4 dX5_best_7 rfl ?_
  refine r_if_eq B dX5_best_8 rfl ⟨by omega, by omega⟩ (fun h3 => ?_) (fun h3 => ?_)
  · refine r_aload B 0 dX5_best_26 rfl ?_
    refine r_xSv1 B Tx (c_X5_requirePoints l hst G M (gP M (N + 1 + 2) li) ((s.2.2.2 li).1) ((s.2.2.2 li).2.1) ((s.2.2.2 li).2.2.1) ((s.2.2.2 li).2.2.2) (RowL.line hG.2.1 hA.2.2.2.1 (i := li) (by omega) (by omega)) (hA.2.2.2.2.2 li (by omega) (by omega)) (hok.2.2.2.2.2 li (by omega) (by omega)).1) ⟨rfl, rfl⟩ ok_X5_requirePoints q_757 q_756 ⟨Nat.le_of_ble_eq_true rfl, Nat.le_of_ble_eq_true rfl, Nat.le_of_ble_eq_true rfl⟩ ⟨Nat.le_of_ble_eq_true rfl, Nat.le_of_ble_eq_true rfl⟩ dX5_best_28 ⟨Nat.le_of_ble_eq_true rfl, Nat.le_of_ble_eq_true rfl⟩ (fun E M2 hx => ⟨Or.inr (Or.inr (⟨hx.1, by unfold oBest; rw [if_neg (by omega), if_neg (by omega), if_pos (by omega)]⟩)), hx.2.2⟩) (fun M5 hq4 => ?_)
    obtain ⟨hgq4, hmq4⟩ := hq4
    rw [hmq4]
    clear hmq4
    have hsb := slS_in hlk.1
    have hib := inS_in hlk.1
    have hdb := dnS_in (n := (s.2.2.2 li).2.2.1) (by omega) (by omega)
    refine r_iload_n B 3 dX5_best_31 rfl ?_
    refine r_if_eq B dX5_best_32 rfl ⟨by omega, by omega⟩ (fun h6 => ?_) (fun h6 => ?_)
    · refine r_aload B 0 dX5_best_43 rfl ?_
      refine r_pVl0 B (c_X1_interceptNumerator l G M (gP M (N + 1 + 2) li) (s.2.2.2 li).1 (s.2.2.2 li).2.1 (s.2.2.2 li).2.2.1 (s.2.2.2 li).2.2.2 (RowL.line hG.2.1 hA.2.2.2.1 (i := li) (by omega) (by omega)) (hA.2.2.2.2.2 li (by omega) (by omega)) (hok.2.2.2.2.2 li (by omega) (by omega)).1  ) ⟨rfl, rfl⟩ ok_X1_interceptNumerator vi_X1_interceptNumerator q_769 (RowL.line hG.2.1 hA.2.2.2.1 (i := li) (by omega) (by omega)).1 rfl (fun _ => rfl) ⟨Nat.le_of_ble_eq_true rfl, Nat.le_of_ble_eq_true rfl, Nat.le_of_ble_eq_true rfl⟩ ⟨Nat.le_of_ble_eq_true rfl, Nat.le_of_ble_eq_true rfl⟩ dX5_best_45 ?_
      have hbn : bnS s li sl = inS (s.2.2.2 li).2.2.2 (s.2.2.2 li).2.2.1 := by unfold bnS; rw [if_pos (by omega)]
      refine r_vl (y := bnS s li sl) hbn.symm ?_
      have hbb : -100000000 ≤ bnS s li sl ∧ bnS s li sl ≤ 100000000 := by rw [hbn]; omega
      refine r_lstore B (lv' := [(5, .long (lI (bnS s li sl))), (4, .ref (gP M (N + 1 + 2) li)), (0, .ref N), (1, .int (iI li)), (2, .int (iI sl)), (3, .int (iI p))]) dX5_best_48 (by decide) rfl ?_
      refine r_aload B 1 dX5_best_50 rfl ?_
      refine r_pVl0 B (c_X1_denominator l G M (gP M (N + 1 + 2) li) (s.2.2.2 li).1 (s.2.2.2 li).2.1 (s.2.2.2 li).2.2.1 (s.2.2.2 li).2.2.2 (RowL.line hG.2.1 hA.2.2.2.1 (i := li) (by omega) (by omega)) (hA.2.2.2.2.2 li (by omega) (by omega)) (hok.2.2.2.2.2 li (by omega) (by omega)).1  ) ⟨rfl, rfl⟩ ok_X1_denominator vi_X1_denominator q_770 (RowL.line hG.2.1 hA.2.2.2.1 (i := li) (by omega) (by omega)).1 rfl (fun _ => rfl) ⟨Nat.le_of_ble_eq_true rfl, Nat.le_of_ble_eq_true rfl, Nat.le_of_ble_eq_true rfl⟩ ⟨Nat.le_of_ble_eq_true rfl, Nat.le_of_ble_eq_true rfl⟩ dX5_best_52 ?_
      refine r_lstore B (lv' := [(7, .long (lI (dnS ((s.2.2.2 li).2.2.1)))), (5, .long (lI (bnS s li sl))), (4, .ref (gP M (N + 1 + 2) li)), (0, .ref N), (1, .int (iI li)), (2, .int (iI sl)), (3, .int (iI p))]) dX5_best_55 (by decide) rfl ?_
      refine r_lconst1 B dX5_best_57 ?_
      refine r_lload B 1 dX5_best_58 rfl ?_
      refine r_lload B 0 dX5_best_60 rfl ?_
      refine r_pSl2 B (c_X5_commonDivisor l G M (bnS s li sl) (dnS ((s.2.2.2 li).2.2.1)) (by omega) (by omega) (by omega) (by omega)) ⟨rfl, rfl⟩ ok_X5_commonDivisor q_772 q_771 ⟨Nat.le_of_ble_eq_true rfl, Nat.le_of_ble_eq_true rfl, Nat.le_of_ble_eq_true rfl⟩ ⟨Nat.le_of_ble_eq_true rfl, Nat.le_of_ble_eq_true rfl⟩ dX5_best_62 ?_
      have hgc : 0 ≤ ((Int.gcd (bnS s li sl) (dnS (s.2.2.2 li).2.2.1) : Nat) : Int) := by omega
      have hgd : ((Int.gcd (bnS s li sl) (dnS (s.2.2.2 li).2.2.1) : Nat) : Int) ≤ dnS (s.2.2.2 li).2.2.1 := by have w := Nat.le_of_dvd (by omega) (Int.gcd_dvd_natAbs_right (bnS s li sl) (dnS (s.2.2.2 li).2.2.1)); omega
      refine r_mlmax B dX5_best_65 q_777 q_415 q_15 q_416 ⟨by omega, by omega⟩ ⟨by omega, by omega⟩ ⟨Nat.le_of_ble_eq_true rfl, Nat.le_of_ble_eq_true rfl, Nat.le_of_ble_eq_true rfl, Nat.le_of_ble_eq_true rfl⟩ ?_
      refine r_lstore B (lv' := [(9, .long (lI (max 1 ((Int.gcd (bnS s li sl) (dnS ((s.2.2.2 li).2.2.1)) : Nat) : Int)))), (7, .long (lI (dnS ((s.2.2.2 li).2.2.1)))), (5, .long (lI (bnS s li sl))), (4, .ref (gP M (N + 1 + 2) li)), (0, .ref N), (1, .int (iI li)), (2, .int (iI sl)), (3, .int (iI p))]) dX5_best_68 (by decide) rfl ?_
      refine r_iload_n B 7 dX5_best_70 rfl ?_
      refine r_if_ne B dX5_best_71 rfl ⟨by omega, by omega⟩ (fun h7 => ?_) (fun h7 => ?_)
      · refine r_lload B 1 dX5_best_79 rfl ?_
        refine r_lload B 0 dX5_best_81 rfl ?_
        refine r_ldiv B dX5_best_83 ⟨by omega, by omega⟩ ⟨by omega, by omega⟩ (by omega) ?_
        exact WM.xret (Nat.le_of_ble_eq_true rfl) (Nat.le_of_ble_eq_true rfl) (r_lret B dX5_best_84 ⟨by unfold oBest; rw [if_neg (by omega), if_neg (by omega), if_neg (by omega), if_neg (by omega)], rfl⟩)
      · refine r_lload B 2 dX5_best_74 rfl ?_
        refine r_goto B dX5_best_76 rfl ?_
        refine r_lload B 0 dX5_best_81 rfl ?_
        refine r_ldiv B dX5_best_83 ⟨by omega, by omega⟩ ⟨by omega, by omega⟩ (by omega) ?_
        exact WM.xret (Nat.le_of_ble_eq_true rfl) (Nat.le_of_ble_eq_true rfl) (r_lret B dX5_best_84 ⟨by unfold oBest; rw [if_neg (by omega), if_neg (by omega), if_neg (by omega), if_pos (by omega)], rfl⟩)
    · refine r_aload B 0 dX5_best_35 rfl ?_
      refine r_pVl0 B (c_X1_slopeNumerator l G M (gP M (N + 1 + 2) li) (s.2.2.2 li).1 (s.2.2.2 li).2.1 (s.2.2.2 li).2.2.1 (s.2.2.2 li).2.2.2 (RowL.line hG.2.1 hA.2.2.2.1 (i := li) (by omega) (by omega)) (hA.2.2.2.2.2 li (by omega) (by omega)) (hok.2.2.2.2.2 li (by omega) (by omega)).1  ) ⟨rfl, rfl⟩ ok_X1_slopeNumerator vi_X1_slopeNumerator q_768 (RowL.line hG.2.1 hA.2.2.2.1 (i := li) (by omega) (by omega)).1 rfl (fun _ => rfl) ⟨Nat.le_of_ble_eq_true rfl, Nat.le_of_ble_eq_true rfl, Nat.le_of_ble_eq_true rfl⟩ ⟨Nat.le_of_ble_eq_true rfl, Nat.le_of_ble_eq_true rfl⟩ dX5_best_37 ?_
      refine r_goto B dX5_best_40 rfl ?_
      have hbn : bnS s li sl = slS (s.2.2.2 li).2.2.2 (s.2.2.2 li).2.2.1 := by unfold bnS; rw [if_neg (by omega)]
      refine r_vl (y := bnS s li sl) hbn.symm ?_
      have hbb : -100000000 ≤ bnS s li sl ∧ bnS s li sl ≤ 100000000 := by rw [hbn]; omega
      refine r_lstore B (lv' := [(5, .long (lI (bnS s li sl))), (4, .ref (gP M (N + 1 + 2) li)), (0, .ref N), (1, .int (iI li)), (2, .int (iI sl)), (3, .int (iI p))]) dX5_best_48 (by decide) rfl ?_
      refine r_aload B 1 dX5_best_50 rfl ?_
      refine r_pVl0 B (c_X1_denominator l G M (gP M (N + 1 + 2) li) (s.2.2.2 li).1 (s.2.2.2 li).2.1 (s.2.2.2 li).2.2.1 (s.2.2.2 li).2.2.2 (RowL.line hG.2.1 hA.2.2.2.1 (i := li) (by omega) (by omega)) (hA.2.2.2.2.2 li (by omega) (by omega)) (hok.2.2.2.2.2 li (by omega) (by omega)).1  ) ⟨rfl, rfl⟩ ok_X1_denominator vi_X1_denominator q_770 (RowL.line hG.2.1 hA.2.2.2.1 (i := li) (by omega) (by omega)).1 rfl (fun _ => rfl) ⟨Nat.le_of_ble_eq_true rfl, Nat.le_of_ble_eq_true rfl, Nat.le_of_ble_eq_true rfl⟩ ⟨Nat.le_of_ble_eq_true rfl, Nat.le_of_ble_eq_true rfl⟩ dX5_best_52 ?_
      refine r_lstore B (lv' := [(7, .long (lI (dnS ((s.2.2.2 li).2.2.1)))), (5, .long (lI (bnS s li sl))), (4, .ref (gP M (N + 1 + 2) li)), (0, .ref N), (1, .int (iI li)), (2, .int (iI sl)), (3, .int (iI p))]) dX5_best_55 (by decide) rfl ?_
      refine r_lconst1 B dX5_best_57 ?_
      refine r_lload B 1 dX5_best_58 rfl ?_
      refine r_lload B 0 dX5_best_60 rfl ?_
      refine r_pSl2 B (c_X5_commonDivisor l G M (bnS s li sl) (dnS ((s.2.2.2 li).2.2.1)) (by omega) (by omega) (by omega) (by omega)) ⟨rfl, rfl⟩ ok_X5_commonDivisor q_772 q_771 ⟨Nat.le_of_ble_eq_true rfl, Nat.le_of_ble_eq_true rfl, Nat.le_of_ble_eq_true rfl⟩ ⟨Nat.le_of_ble_eq_true rfl, Nat.le_of_ble_eq_true rfl⟩ dX5_best_62 ?_
      have hgc : 0 ≤ ((Int.gcd (bnS s li sl) (dnS (s.2.2.2 li).2.2.1) : Nat) : Int) := by omega
      have hgd : ((Int.gcd (bnS s li sl) (dnS (s.2.2.2 li).2.2.1) : Nat) : Int) ≤ dnS (s.2.2.2 li).2.2.1 := by have w := Nat.le_of_dvd (by omega) (Int.gcd_dvd_natAbs_right (bnS s li sl) (dnS (s.2.2.2 li).2.2.1)); omega
      refine r_mlmax B dX5_best_65 q_777 q_415 q_15 q_416 ⟨by omega, by omega⟩ ⟨by omega, by omega⟩ ⟨Nat.le_of_ble_eq_true rfl, Nat.le_of_ble_eq_true rfl, Nat.le_of_ble_eq_true rfl, Nat.le_of_ble_eq_true rfl⟩ ?_
      refine r_lstore B (lv' := [(9, .long (lI (max 1 ((Int.gcd (bnS s li sl) (dnS ((s.2.2.2 li).2.2.1)) : Nat) : Int)))), (7, .long (lI (dnS ((s.2.2.2 li).2.2.1)))), (5, .long (lI (bnS s li sl))), (4, .ref (gP M (N + 1 + 2) li)), (0, .ref N), (1, .int (iI li)), (2, .int (iI sl)), (3, .int (iI p))]) dX5_best_68 (by decide) rfl ?_
      refine r_iload_n B 7 dX5_best_70 rfl ?_
      refine r_if_ne B dX5_best_71 rfl ⟨by omega, by omega⟩ (fun h8 => ?_) (fun h8 => ?_)
      · refine r_lload B 1 dX5_best_79 rfl ?_
        refine r_lload B 0 dX5_best_81 rfl ?_
        refine r_ldiv B dX5_best_83 ⟨by omega, by omega⟩ ⟨by omega, by omega⟩ (by omega) ?_
        exact WM.xret (Nat.le_of_ble_eq_true rfl) (Nat.le_of_ble_eq_true rfl) (r_lret B dX5_best_84 ⟨by unfold oBest; rw [if_neg (by omega), if_neg (by omega), if_neg (by omega), if_neg (by omega)], rfl⟩)
      · refine r_lload B 2 dX5_best_74 rfl ?_
        refine r_goto B dX5_best_76 rfl ?_
        refine r_lload B 0 dX5_best_81 rfl ?_
        refine r_ldiv B dX5_best_83 ⟨by omega, by omega⟩ ⟨by omega, by omega⟩ (by omega) ?_
        exact WM.xret (Nat.le_of_ble_eq_true rfl) (Nat.le_of_ble_eq_true rfl) (r_lret B dX5_best_84 ⟨by unfold oBest; rw [if_neg (by omega), if_neg (by omega), if_neg (by omega), if_pos (by omega)], rfl⟩)
  · refine r_iload_n B 4 dX5_best_11 rfl ?_
    refine r_iconst B dX5_best_12 ?_
    refine r_icmp_eq B dX5_best_13 rfl ⟨by omega, by omega⟩ ⟨by omega, by omega⟩ (fun h9 => ?_) (fun h9 => ?_)
    · refine r_aload B 0 dX5_best_26 rfl ?_
      refine r_xSv1 B Tx (c_X5_requirePoints l hst G M (gP M (N + 1 + 2) li) ((s.2.2.2 li).1) ((s.2.2.2 li).2.1) ((s.2.2.2 li).2.2.1) ((s.2.2.2 li).2.2.2) (RowL.line hG.2.1 hA.2.2.2.1 (i := li) (by omega) (by omega)) (hA.2.2.2.2.2 li (by omega) (by omega)) (hok.2.2.2.2.2 li (by omega) (by omega)).1) ⟨rfl, rfl⟩ ok_X5_requirePoints q_757 q_756 ⟨Nat.le_of_ble_eq_true rfl, Nat.le_of_ble_eq_true rfl, Nat.le_of_ble_eq_true rfl⟩ ⟨Nat.le_of_ble_eq_true rfl, Nat.le_of_ble_eq_true rfl⟩ dX5_best_28 ⟨Nat.le_of_ble_eq_true rfl, Nat.le_of_ble_eq_true rfl⟩ (fun E M2 hx => ⟨Or.inr (Or.inr (⟨hx.1, by unfold oBest; rw [if_neg (by omega), if_neg (by omega), if_pos (by omega)]⟩)), hx.2.2⟩) (fun M11 hq10 => ?_)
      obtain ⟨hgq10, hmq10⟩ := hq10
      rw [hmq10]
      clear hmq10
      have hsb := slS_in hlk.1
      have hib := inS_in hlk.1
      have hdb := dnS_in (n := (s.2.2.2 li).2.2.1) (by omega) (by omega)
      refine r_iload_n B 3 dX5_best_31 rfl ?_
      refine r_if_eq B dX5_best_32 rfl ⟨by omega, by omega⟩ (fun h12 => ?_) (fun h12 => ?_)
      · refine r_aload B 0 dX5_best_43 rfl ?_
        refine r_pVl0 B (c_X1_interceptNumerator l G M (gP M (N + 1 + 2) li) (s.2.2.2 li).1 (s.2.2.2 li).2.1 (s.2.2.2 li).2.2.1 (s.2.2.2 li).2.2.2 (RowL.line hG.2.1 hA.2.2.2.1 (i := li) (by omega) (by omega)) (hA.2.2.2.2.2 li (by omega) (by omega)) (hok.2.2.2.2.2 li (by omega) (by omega)).1  ) ⟨rfl, rfl⟩ ok_X1_interceptNumerator vi_X1_interceptNumerator q_769 (RowL.line hG.2.1 hA.2.2.2.1 (i := li) (by omega) (by omega)).1 rfl (fun _ => rfl) ⟨Nat.le_of_ble_eq_true rfl, Nat.le_of_ble_eq_true rfl, Nat.le_of_ble_eq_true rfl⟩ ⟨Nat.le_of_ble_eq_true rfl, Nat.le_of_ble_eq_true rfl⟩ dX5_best_45 ?_
        have hbn : bnS s li sl = inS (s.2.2.2 li).2.2.2 (s.2.2.2 li).2.2.1 := by unfold bnS; rw [if_pos (by omega)]
        refine r_vl (y := bnS s li sl) hbn.symm ?_
        have hbb : -100000000 ≤ bnS s li sl ∧ bnS s li sl ≤ 100000000 := by rw [hbn]; omega
        refine r_lstore B (lv' := [(5, .long (lI (bnS s li sl))), (4, .ref (gP M (N + 1 + 2) li)), (0, .ref N), (1, .int (iI li)), (2, .int (iI sl)), (3, .int (iI p))]) dX5_best_48 (by decide) rfl ?_
        refine r_aload B 1 dX5_best_50 rfl ?_
        refine r_pVl0 B (c_X1_denominator l G M (gP M (N + 1 + 2) li) (s.2.2.2 li).1 (s.2.2.2 li).2.1 (s.2.2.2 li).2.2.1 (s.2.2.2 li).2.2.2 (RowL.line hG.2.1 hA.2.2.2.1 (i := li) (by omega) (by omega)) (hA.2.2.2.2.2 li (by omega) (by omega)) (hok.2.2.2.2.2 li (by omega) (by omega)).1  ) ⟨rfl, rfl⟩ ok_X1_denominator vi_X1_denominator q_770 (RowL.line hG.2.1 hA.2.2.2.1 (i := li) (by omega) (by omega)).1 rfl (fun _ => rfl) ⟨Nat.le_of_ble_eq_true rfl, Nat.le_of_ble_eq_true rfl, Nat.le_of_ble_eq_true rfl⟩ ⟨Nat.le_of_ble_eq_true rfl, Nat.le_of_ble_eq_true rfl⟩ dX5_best_52 ?_
        refine r_lstore B (lv' := [(7, .long (lI (dnS ((s.2.2.2 li).2.2.1)))), (5, .long (lI (bnS s li sl))), (4, .ref (gP M (N + 1 + 2) li)), (0, .ref N), (1, .int (iI li)), (2, .int (iI sl)), (3, .int (iI p))]) dX5_best_55 (by decide) rfl ?_
        refine r_lconst1 B dX5_best_57 ?_
        refine r_lload B 1 dX5_best_58 rfl ?_
        refine r_lload B 0 dX5_best_60 rfl ?_
        refine r_pSl2 B (c_X5_commonDivisor l G M (bnS s li sl) (dnS ((s.2.2.2 li).2.2.1)) (by omega) (by omega) (by omega) (by omega)) ⟨rfl, rfl⟩ ok_X5_commonDivisor q_772 q_771 ⟨Nat.le_of_ble_eq_true rfl, Nat.le_of_ble_eq_true rfl, Nat.le_of_ble_eq_true rfl⟩ ⟨Nat.le_of_ble_eq_true rfl, Nat.le_of_ble_eq_true rfl⟩ dX5_best_62 ?_
        have hgc : 0 ≤ ((Int.gcd (bnS s li sl) (dnS (s.2.2.2 li).2.2.1) : Nat) : Int) := by omega
        have hgd : ((Int.gcd (bnS s li sl) (dnS (s.2.2.2 li).2.2.1) : Nat) : Int) ≤ dnS (s.2.2.2 li).2.2.1 := by have w := Nat.le_of_dvd (by omega) (Int.gcd_dvd_natAbs_right (bnS s li sl) (dnS (s.2.2.2 li).2.2.1)); omega
        refine r_mlmax B dX5_best_65 q_777 q_415 q_15 q_416 ⟨by omega, by omega⟩ ⟨by omega, by omega⟩ ⟨Nat.le_of_ble_eq_true rfl, Nat.le_of_ble_eq_true rfl, Nat.le_of_ble_eq_true rfl, Nat.le_of_ble_eq_true rfl⟩ ?_
        refine r_lstore B (lv' := [(9, .long (lI (max 1 ((Int.gcd (bnS s li sl) (dnS ((s.2.2.2 li).2.2.1)) : Nat) : Int)))), (7, .long (lI (dnS ((s.2.2.2 li).2.2.1)))), (5, .long (lI (bnS s li sl))), (4, .ref (gP M (N + 1 + 2) li)), (0, .ref N), (1, .int (iI li)), (2, .int (iI sl)), (3, .int (iI p))]) dX5_best_68 (by decide) rfl ?_
        refine r_iload_n B 7 dX5_best_70 rfl ?_
        refine r_if_ne B dX5_best_71 rfl ⟨by omega, by omega⟩ (fun h13 => ?_) (fun h13 => ?_)
        · refine r_lload B 1 dX5_best_79 rfl ?_
          refine r_lload B 0 dX5_best_81 rfl ?_
          refine r_ldiv B dX5_best_83 ⟨by omega, by omega⟩ ⟨by omega, by omega⟩ (by omega) ?_
          exact WM.xret (Nat.le_of_ble_eq_true rfl) (Nat.le_of_ble_eq_true rfl) (r_lret B dX5_best_84 ⟨by unfold oBest; rw [if_neg (by omega), if_neg (by omega), if_neg (by omega), if_neg (by omega)], rfl⟩)
        · refine r_lload B 2 dX5_best_74 rfl ?_
          refine r_goto B dX5_best_76 rfl ?_
          refine r_lload B 0 dX5_best_81 rfl ?_
          refine r_ldiv B dX5_best_83 ⟨by omega, by omega⟩ ⟨by omega, by omega⟩ (by omega) ?_
          exact WM.xret (Nat.le_of_ble_eq_true rfl) (Nat.le_of_ble_eq_true rfl) (r_lret B dX5_best_84 ⟨by unfold oBest; rw [if_neg (by omega), if_neg (by omega), if_neg (by omega), if_pos (by omega)], rfl⟩)
      · refine r_aload B 0 dX5_best_35 rfl ?_
        refine r_pVl0 B (c_X1_slopeNumerator l G M (gP M (N + 1 + 2) li) (s.2.2.2 li).1 (s.2.2.2 li).2.1 (s.2.2.2 li).2.2.1 (s.2.2.2 li).2.2.2 (RowL.line hG.2.1 hA.2.2.2.1 (i := li) (by omega) (by omega)) (hA.2.2.2.2.2 li (by omega) (by omega)) (hok.2.2.2.2.2 li (by omega) (by omega)).1  ) ⟨rfl, rfl⟩ ok_X1_slopeNumerator vi_X1_slopeNumerator q_768 (RowL.line hG.2.1 hA.2.2.2.1 (i := li) (by omega) (by omega)).1 rfl (fun _ => rfl) ⟨Nat.le_of_ble_eq_true rfl, Nat.le_of_ble_eq_true rfl, Nat.le_of_ble_eq_true rfl⟩ ⟨Nat.le_of_ble_eq_true rfl, Nat.le_of_ble_eq_true rfl⟩ dX5_best_37 ?_
        refine r_goto B dX5_best_40 rfl ?_
        have hbn : bnS s li sl = slS (s.2.2.2 li).2.2.2 (s.2.2.2 li).2.2.1 := by unfold bnS; rw [if_neg (by omega)]
        refine r_vl (y := bnS s li sl) hbn.symm ?_
        have hbb : -100000000 ≤ bnS s li sl ∧ bnS s li sl ≤ 100000000 := by rw [hbn]; omega
        refine r_lstore B (lv' := [(5, .long (lI (bnS s li sl))), (4, .ref (gP M (N + 1 + 2) li)), (0, .ref N), (1, .int (iI li)), (2, .int (iI sl)), (3, .int (iI p))]) dX5_best_48 (by decide) rfl ?_
        refine r_aload B 1 dX5_best_50 rfl ?_
        refine r_pVl0 B (c_X1_denominator l G M (gP M (N + 1 + 2) li) (s.2.2.2 li).1 (s.2.2.2 li).2.1 (s.2.2.2 li).2.2.1 (s.2.2.2 li).2.2.2 (RowL.line hG.2.1 hA.2.2.2.1 (i := li) (by omega) (by omega)) (hA.2.2.2.2.2 li (by omega) (by omega)) (hok.2.2.2.2.2 li (by omega) (by omega)).1  ) ⟨rfl, rfl⟩ ok_X1_denominator vi_X1_denominator q_770 (RowL.line hG.2.1 hA.2.2.2.1 (i := li) (by omega) (by omega)).1 rfl (fun _ => rfl) ⟨Nat.le_of_ble_eq_true rfl, Nat.le_of_ble_eq_true rfl, Nat.le_of_ble_eq_true rfl⟩ ⟨Nat.le_of_ble_eq_true rfl, Nat.le_of_ble_eq_true rfl⟩ dX5_best_52 ?_
        refine r_lstore B (lv' := [(7, .long (lI (dnS ((s.2.2.2 li).2.2.1)))), (5, .long (lI (bnS s li sl))), (4, .ref (gP M (N + 1 + 2) li)), (0, .ref N), (1, .int (iI li)), (2, .int (iI sl)), (3, .int (iI p))]) dX5_best_55 (by decide) rfl ?_
        refine r_lconst1 B dX5_best_57 ?_
        refine r_lload B 1 dX5_best_58 rfl ?_
        refine r_lload B 0 dX5_best_60 rfl ?_
        refine r_pSl2 B (c_X5_commonDivisor l G M (bnS s li sl) (dnS ((s.2.2.2 li).2.2.1)) (by omega) (by omega) (by omega) (by omega)) ⟨rfl, rfl⟩ ok_X5_commonDivisor q_772 q_771 ⟨Nat.le_of_ble_eq_true rfl, Nat.le_of_ble_eq_true rfl, Nat.le_of_ble_eq_true rfl⟩ ⟨Nat.le_of_ble_eq_true rfl, Nat.le_of_ble_eq_true rfl⟩ dX5_best_62 ?_
        have hgc : 0 ≤ ((Int.gcd (bnS s li sl) (dnS (s.2.2.2 li).2.2.1) : Nat) : Int) := by omega
        have hgd : ((Int.gcd (bnS s li sl) (dnS (s.2.2.2 li).2.2.1) : Nat) : Int) ≤ dnS (s.2.2.2 li).2.2.1 := by have w := Nat.le_of_dvd (by omega) (Int.gcd_dvd_natAbs_right (bnS s li sl) (dnS (s.2.2.2 li).2.2.1)); omega
        refine r_mlmax B dX5_best_65 q_777 q_415 q_15 q_416 ⟨by omega, by omega⟩ ⟨by omega, by omega⟩ ⟨Nat.le_of_ble_eq_true rfl, Nat.le_of_ble_eq_true rfl, Nat.le_of_ble_eq_true rfl, Nat.le_of_ble_eq_true rfl⟩ ?_
        refine r_lstore B (lv' := [(9, .long (lI (max 1 ((Int.gcd (bnS s li sl) (dnS ((s.2.2.2 li).2.2.1)) : Nat) : Int)))), (7, .long (lI (dnS ((s.2.2.2 li).2.2.1)))), (5, .long (lI (bnS s li sl))), (4, .ref (gP M (N + 1 + 2) li)), (0, .ref N), (1, .int (iI li)), (2, .int (iI sl)), (3, .int (iI p))]) dX5_best_68 (by decide) rfl ?_
        refine r_iload_n B 7 dX5_best_70 rfl ?_
        refine r_if_ne B dX5_best_71 rfl ⟨by omega, by omega⟩ (fun h14 => ?_) (fun h14 => ?_)
        · refine r_lload B 1 dX5_best_79 rfl ?_
          refine r_lload B 0 dX5_best_81 rfl ?_
          refine r_ldiv B dX5_best_83 ⟨by omega, by omega⟩ ⟨by omega, by omega⟩ (by omega) ?_
          exact WM.xret (Nat.le_of_ble_eq_true rfl) (Nat.le_of_ble_eq_true rfl) (r_lret B dX5_best_84 ⟨by unfold oBest; rw [if_neg (by omega), if_neg (by omega), if_neg (by omega), if_neg (by omega)], rfl⟩)
        · refine r_lload B 2 dX5_best_74 rfl ?_
          refine r_goto B dX5_best_76 rfl ?_
          refine r_lload B 0 dX5_best_81 rfl ?_
          refine r_ldiv B dX5_best_83 ⟨by omega, by omega⟩ ⟨by omega, by omega⟩ (by omega) ?_
          exact WM.xret (Nat.le_of_ble_eq_true rfl) (Nat.le_of_ble_eq_true rfl) (r_lret B dX5_best_84 ⟨by unfold oBest; rw [if_neg (by omega), if_neg (by omega), if_neg (by omega), if_pos (by omega)], rfl⟩)
    · exact r_thrA B Tx hst (is := 217) (text := "part out of range") (by decide +kernel) dX5_best_16 dX5_best_19 dX5_best_20 dX5_best_22 dX5_best_25 ⟨Nat.le_of_ble_eq_true rfl, Nat.le_of_ble_eq_true rfl, Nat.le_of_ble_eq_true rfl, Nat.le_of_ble_eq_true rfl⟩ ⟨Nat.le_of_ble_eq_true rfl, Nat.le_of_ble_eq_true rfl⟩ ⟨Or.inr (Or.inl (⟨rfl, by unfold oBest; rw [if_neg (by omega), if_pos (by omega)]⟩)), rfl⟩
