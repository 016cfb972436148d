set_option maxRecDepth 100000 in
set_option maxHeartbeats 4000000 in
theorem c_X5_requireGear (l : Launch) (hst : l.stackTraces = false) (G : Gs) (M : Mem) (N : Nat) (s : Ast) (hG : IsGg G N) (hA : StateIs M (N + 1) s) (hok : StateOk s) (ge : Int) (hi : In32 ge) : CtX l G yX5_requireGear cX5_requireGear 2 ((some (.object "GearGauge$Gear"))) rx_X5_requireGear [.ref N, .int (iI ge)] M (PoA G (fun r M' => r = gP M (N + 1 + 1) ge ∧ (0 ≤ ge ∧ ge < s.1) ∧ M' = M)) (fun E M' => E = eIOB ∧ ¬ (0 ≤ ge ∧ ge < s.1) ∧ M' = M) 1 6 := by
  refine CtX.of (by decide +kernel) (Nat.le_of_ble_eq_true rfl) [(0, .ref N), (1, .int (iI ge))] rfl ?_
  intro X B Tx
  have hs1 := hok.1
  have hs2 := hok.2.1
  have hs3 := hok.2.2.1
  have hs4 := hok.2.2.2.1
  obtain ⟨hi1, hi2⟩ := hi
  refine r_iload_n B 1 dX5_requireGear_0 rfl ?_
  refine r_if_lt B dX5_requireGear_1 rfl ⟨by omega, by omega⟩ (fun h1 => ?_) (fun h1 => ?_)
  · exact r_thrOW B Tx hst (is := 319) (text := "no such gear") (by decide +kernel) dX5_requireGear_15 dX5_requireGear_18 dX5_requireGear_19 dX5_requireGear_22 dX5_requireGear_25 ⟨Nat.le_of_ble_eq_true rfl, Nat.le_of_ble_eq_true rfl, Nat.le_of_ble_eq_true rfl, Nat.le_of_ble_eq_true rfl⟩ ⟨Nat.le_of_ble_eq_true rfl, Nat.le_of_ble_eq_true rfl⟩ ⟨rfl, by omega, rfl⟩
  · refine r_iload_n B 1 dX5_requireGear_4 rfl ?_
    refine r_aload_n B 0 dX5_requireGear_5 rfl ?_
    refine rg5_now B hG.1 q_171 dX5_requireGear_6 ?_
    refine rg3_gearCount B hG.2.1.1 q_94 dX5_requireGear_9 ?_
    refine r_vi (y := s.1) hA.1 ?_
    refine r_icmp_lt B dX5_requireGear_12 rfl ⟨by omega, by omega⟩ ⟨by omega, by omega⟩ (fun h2 => ?_) (fun h2 => ?_)
    · refine r_aload_n B 0 dX5_requireGear_26 rfl ?_
      refine rg5_now B hG.1 q_171 dX5_requireGear_27 ?_
      refine rg3_gearRow B hG.2.1.1 q_98 dX5_requireGear_30 ?_
      refine r_iload_n B 1 dX5_requireGear_33 rfl ?_
      refine r_aaload8 B dX5_requireGear_34 hG.2.1.2.1 (by omega) (by omega) ?_
      exact WM.xret (Nat.le_of_ble_eq_true rfl) (Nat.le_of_ble_eq_true rfl) (r_aret B dX5_requireGear_35 ⟨rfl, ⟨by omega, by omega⟩, rfl⟩)
    · exact r_thrOW B Tx hst (is := 319) (text := "no such gear") (by decide +kernel) dX5_requireGear_15 dX5_requireGear_18 dX5_requireGear_19 dX5_requireGear_22 dX5_requireGear_25 ⟨Nat.le_of_ble_eq_true rfl, Nat.le_of_ble_eq_true rfl, Nat.le_of_ble_eq_true rfl, Nat.le_of_ble_eq_true rfl⟩ ⟨Nat.le_of_ble_eq_true rfl, Nat.le_of_ble_eq_true rfl⟩ ⟨rfl, by omega, rfl⟩

set_option maxRecDepth 100000 in
set_option maxHeartbeats 4000000 in
theorem c_X5_requireLine (l : Launch) (hst : l.stackTraces = false) (G : Gs) (M : Mem) (N : Nat) (s : Ast) (hG : IsGg G N) (hA : StateIs M (N + 1) s) (hok : StateOk s) (li : Int) (hi : In32 li) : CtX l G yX5_requireLine cX5_requireLine 2 ((some (.object "GearGauge$Line"))) rx_X5_requireLine [.ref N, .int (iI li)] M (PoA G (fun r M' => r = gP M (N + 1 + 2) li ∧ (0 ≤ li ∧ li < s.2.1) ∧ M' = M)) (fun E M' => E = eIOB ∧ ¬ (0 ≤ li ∧ li < s.2.1) ∧ M' = M) 1 6 := by
  refine CtX.of (by decide +kernel) (Nat.le_of_ble_eq_true rfl) [(0, .ref N), (1, .int (iI li))] rfl ?_
  intro X B Tx
  have hs1 := hok.1
  have hs2 := hok.2.1
  have hs3 := hok.2.2.1
  have hs4 := hok.2.2.2.1
  obtain ⟨hi1, hi2⟩ := hi
  refine r_iload_n B 1 dX5_requireLine_0 rfl ?_
  refine r_if_lt B dX5_requireLine_1 rfl ⟨by omega, by omega⟩ (fun h1 => ?_) (fun h1 => ?_)
  · exact r_thrOW B Tx hst (is := 321) (text := "no such line") (by decide +kernel) dX5_requireLine_15 dX5_requireLine_18 dX5_requireLine_19 dX5_requireLine_22 dX5_requireLine_25 ⟨Nat.le_of_ble_eq_true rfl, Nat.le_of_ble_eq_true rfl, Nat.le_of_ble_eq_true rfl, Nat.le_of_ble_eq_true rfl⟩ ⟨Nat.le_of_ble_eq_true rfl, Nat.le_of_ble_eq_true rfl⟩ ⟨rfl, by omega, rfl⟩
  · refine r_iload_n B 1 dX5_requireLine_4 rfl ?_
    refine r_aload_n B 0 dX5_requireLine_5 rfl ?_
    refine rg5_now B hG.1 q_171 dX5_requireLine_6 ?_
    refine rg3_lineCount B hG.2.1.1 q_96 dX5_requireLine_9 ?_
    refine r_vi (y := s.2.1) hA.2.1 ?_
    refine r_icmp_lt B dX5_requireLine_12 rfl ⟨by omega, by omega⟩ ⟨by omega, by omega⟩ (fun h2 => ?_) (fun h2 => ?_)
    · refine r_aload_n B 0 dX5_requireLine_26 rfl ?_
      refine rg5_now B hG.1 q_171 dX5_requireLine_27 ?_
      refine rg3_lineRow B hG.2.1.1 q_100 dX5_requireLine_30 ?_
      refine r_iload_n B 1 dX5_requireLine_33 rfl ?_
      refine r_aaload9 B dX5_requireLine_34 hG.2.1.2.2.1 (by omega) (by omega) ?_
      exact WM.xret (Nat.le_of_ble_eq_true rfl) (Nat.le_of_ble_eq_true rfl) (r_aret B dX5_requireLine_35 ⟨rfl, ⟨by omega, by omega⟩, rfl⟩)
    · exact r_thrOW B Tx hst (is := 321) (text := "no such line") (by decide +kernel) dX5_requireLine_15 dX5_requireLine_18 dX5_requireLine_19 dX5_requireLine_22 dX5_requireLine_25 ⟨Nat.le_of_ble_eq_true rfl, Nat.le_of_ble_eq_true rfl, Nat.le_of_ble_eq_true rfl, Nat.le_of_ble_eq_true rfl⟩ ⟨Nat.le_of_ble_eq_true rfl, Nat.le_of_ble_eq_true rfl⟩ ⟨rfl, by omega, rfl⟩

set_option maxRecDepth 100000 in
set_option maxHeartbeats 4000000 in
theorem c_X5_requireReading (l : Launch) (hst : l.stackTraces = false) (G : Gs) (M : Mem) (w : Nat) (z : Int) (hg : IsGear G w) (hz : gI M w 0 = z) (hz0 : 0 ≤ z) (hz1 : z ≤ 30) (se ix : Int) (hse : In32 se) (hix : In32 ix) : CtX l G yX5_requireReading cX5_requireReading 3 (none) rx_X5_requireReading [.ref w, .int (iI se), .int (iI ix)] M (PoV G (fun M' => ((0 ≤ se ∧ se < 3) ∧ (0 ≤ ix ∧ ix < szS z se)) ∧ M' = M)) (fun E M' => E = eIOB ∧ ¬ ((0 ≤ se ∧ se < 3) ∧ (0 ≤ ix ∧ ix < szS z se)) ∧ M' = M) 1 6 := by
  refine CtX.of (by decide +kernel) (Nat.le_of_ble_eq_true rfl) [(0, .ref w), (1, .int (iI se)), (2, .int (iI ix))] rfl ?_
  intro X B Tx
  obtain ⟨hse1, hse2⟩ := hse
  obtain ⟨hix1, hix2⟩ := hix
  refine r_iload_n B 1 dX5_requireReading_0 rfl ?_
  refine r_if_lt B dX5_requireReading_1 rfl ⟨by omega, by omega⟩ (fun h1 => ?_) (fun h1 => ?_)
  · exact r_thrOW B Tx hst (is := 323) (text := "no such series") (by decide +kernel) dX5_requireReading_9 dX5_requireReading_12 dX5_requireReading_13 dX5_requireReading_16 dX5_requireReading_19 ⟨Nat.le_of_ble_eq_true rfl, Nat.le_of_ble_eq_true rfl, Nat.le_of_ble_eq_true rfl, Nat.le_of_ble_eq_true rfl⟩ ⟨Nat.le_of_ble_eq_true rfl, Nat.le_of_ble_eq_true rfl⟩ ⟨rfl, fun q => by omega, rfl⟩
  · refine r_iload_n B 1 dX5_requireReading_4 rfl ?_
    refine r_iconst B dX5_requireReading_5 ?_
    refine r_icmp_lt B dX5_requireReading_6 rfl ⟨by omega, by omega⟩ ⟨by omega, by omega⟩ (fun h2 => ?_) (fun h2 => ?_)
    · refine r_iload_n B 2 dX5_requireReading_20 rfl ?_
      refine r_if_lt B dX5_requireReading_21 rfl ⟨by omega, by omega⟩ (fun h3 => ?_) (fun h3 => ?_)
      · exact r_thrOW B Tx hst (is := 325) (text := "no such reading") (by decide +kernel) dX5_requireReading_33 dX5_requireReading_36 dX5_requireReading_37 dX5_requireReading_40 dX5_requireReading_43 ⟨Nat.le_of_ble_eq_true rfl, Nat.le_of_ble_eq_true rfl, Nat.le_of_ble_eq_true rfl, Nat.le_of_ble_eq_true rfl⟩ ⟨Nat.le_of_ble_eq_true rfl, Nat.le_of_ble_eq_true rfl⟩ ⟨rfl, fun q => by omega, rfl⟩
      · have hsz := szS_le z se
        refine r_iload_n B 2 dX5_requireReading_24 rfl ?_
        refine r_aload_n B 0 dX5_requireReading_25 rfl ?_
        refine r_iload_n B 1 dX5_requireReading_26 rfl ?_
        refine r_pVi1 B (c_X0_sizeOf l G M w z hg hz se (by omega) (by omega)) ⟨rfl, rfl⟩ ok_X0_sizeOf vi_X0_sizeOf q_429 hg.1 rfl (fun _ => rfl) ⟨Nat.le_of_ble_eq_true rfl, Nat.le_of_ble_eq_true rfl, Nat.le_of_ble_eq_true rfl⟩ ⟨Nat.le_of_ble_eq_true rfl, Nat.le_of_ble_eq_true rfl⟩ dX5_requireReading_27 ?_
        refine r_icmp_lt B dX5_requireReading_30 rfl ⟨by omega, by omega⟩ ⟨by omega, by omega⟩ (fun h4 => ?_) (fun h4 => ?_)
        · exact WM.xret (Nat.le_of_ble_eq_true rfl) (Nat.le_of_ble_eq_true rfl) (r_vret B dX5_requireReading_44 ⟨⟨⟨by omega, by omega⟩, by omega, by omega⟩, rfl⟩)
        · exact r_thrOW B Tx hst (is := 325) (text := "no such reading") (by decide +kernel) dX5_requireReading_33 dX5_requireReading_36 dX5_requireReading_37 dX5_requireReading_40 dX5_requireReading_43 ⟨Nat.le_of_ble_eq_true rfl, Nat.le_of_ble_eq_true rfl, Nat.le_of_ble_eq_true rfl, Nat.le_of_ble_eq_true rfl⟩ ⟨Nat.le_of_ble_eq_true rfl, Nat.le_of_ble_eq_true rfl⟩ ⟨rfl, fun q => by omega, rfl⟩
    · exact r_thrOW B Tx hst (is := 323) (text := "no such series") (by decide +kernel) dX5_requireReading_9 dX5_requireReading_12 dX5_requireReading_13 dX5_requireReading_16 dX5_requireReading_19 ⟨Nat.le_of_ble_eq_true rfl, Nat.le_of_ble_eq_true rfl, Nat.le_of_ble_eq_true rfl, Nat.le_of_ble_eq_true rfl⟩ ⟨Nat.le_of_ble_eq_true rfl, Nat.le_of_ble_eq_true rfl⟩ ⟨rfl, fun q => by omega, rfl⟩

set_option maxRecDepth 100000 in
set_option maxHeartbeats 4000000 in
theorem c_X5_requireFlank (l : Launch) (hst : l.stackTraces = false) (G : Gs) (M : Mem) (fl : Int) (hp : In32 fl) : CtX l G yX5_requireFlank cX5_requireFlank 1 (none) rx_X5_requireFlank [.int (iI fl)] M (PoV G (fun M' => (0 ≤ fl ∧ fl < 2) ∧ M' = M)) (fun E M' => E = eIOB ∧ ¬ (0 ≤ fl ∧ fl < 2) ∧ M' = M) 1 6 := by
  refine CtX.of (by decide +kernel) (Nat.le_of_ble_eq_true rfl) [(0, .int (iI fl))] rfl ?_
  intro X B Tx
  obtain ⟨hp1, hp2⟩ := hp
  refine r_iload_n B 0 dX5_requireFlank_0 rfl ?_
  refine r_if_lt B dX5_requireFlank_1 rfl ⟨by omega, by omega⟩ (fun h1 => ?_) (fun h1 => ?_)
  · exact r_thrOW B Tx hst (is := 327) (text := "no such flank") (by decide +kernel) dX5_requireFlank_9 dX5_requireFlank_12 dX5_requireFlank_13 dX5_requireFlank_16 dX5_requireFlank_19 ⟨Nat.le_of_ble_eq_true rfl, Nat.le_of_ble_eq_true rfl, Nat.le_of_ble_eq_true rfl, Nat.le_of_ble_eq_true rfl⟩ ⟨Nat.le_of_ble_eq_true rfl, Nat.le_of_ble_eq_true rfl⟩ ⟨rfl, by omega, rfl⟩
  · refine r_iload_n B 0 dX5_requireFlank_4 rfl ?_
    refine r_iconst B dX5_requireFlank_5 ?_
    refine r_icmp_lt B dX5_requireFlank_6 rfl ⟨by omega, by omega⟩ ⟨by omega, by omega⟩ (fun h2 => ?_) (fun h2 => ?_)
    · exact WM.xret (Nat.le_of_ble_eq_true rfl) (Nat.le_of_ble_eq_true rfl) (r_vret B dX5_requireFlank_20 ⟨⟨by omega, by omega⟩, rfl⟩)
    · exact r_thrOW B Tx hst (is := 327) (text := "no such flank") (by decide +kernel) dX5_requireFlank_9 dX5_requireFlank_12 dX5_requireFlank_13 dX5_requireFlank_16 dX5_requireFlank_19 ⟨Nat.le_of_ble_eq_true rfl, Nat.le_of_ble_eq_true rfl, Nat.le_of_ble_eq_true rfl, Nat.le_of_ble_eq_true rfl⟩ ⟨Nat.le_of_ble_eq_true rfl, Nat.le_of_ble_eq_true rfl⟩ ⟨rfl, by omega, rfl⟩

set_option maxRecDepth 100000 in
set_option maxHeartbeats 4000000 in
theorem c_X5_requireWhat (l : Launch) (hst : l.stackTraces = false) (G : Gs) (M : Mem) (wh : Int) (hp : In32 wh) : CtX l G yX5_requireWhat cX5_requireWhat 1 (none) rx_X5_requireWhat [.int (iI wh)] M (PoV G (fun M' => (0 ≤ wh ∧ wh < 9) ∧ M' = M)) (fun E M' => E = eIAE ∧ ¬ (0 ≤ wh ∧ wh < 9) ∧ M' = M) 1 6 := by
  refine CtX.of (by decide +kernel) (Nat.le_of_ble_eq_true rfl) [(0, .int (iI wh))] rfl ?_
  intro X B Tx
  obtain ⟨hp1, hp2⟩ := hp
  refine r_iload_n B 0 dX5_requireWhat_0 rfl ?_
  refine r_if_lt B dX5_requireWhat_1 rfl ⟨by omega, by omega⟩ (fun h1 => ?_) (fun h1 => ?_)
  · exact r_thrA B Tx hst (is := 141) (text := "what out of range") (by decide +kernel) dX5_requireWhat_10 dX5_requireWhat_13 dX5_requireWhat_14 dX5_requireWhat_16 dX5_requireWhat_19 ⟨Nat.le_of_ble_eq_true rfl, Nat.le_of_ble_eq_true rfl, Nat.le_of_ble_eq_true rfl, Nat.le_of_ble_eq_true rfl⟩ ⟨Nat.le_of_ble_eq_true rfl, Nat.le_of_ble_eq_true rfl⟩ ⟨rfl, by omega, rfl⟩
  · refine r_iload_n B 0 dX5_requireWhat_4 rfl ?_
    refine r_bipush B (z := 9) dX5_requireWhat_5 (by decide) ?_
    refine r_icmp_lt B dX5_requireWhat_7 rfl ⟨by omega, by omega⟩ ⟨by omega, by omega⟩ (fun h2 => ?_) (fun h2 => ?_)
    · exact WM.xret (Nat.le_of_ble_eq_true rfl) (Nat.le_of_ble_eq_true rfl) (r_vret B dX5_requireWhat_20 ⟨⟨by omega, by omega⟩, rfl⟩)
    · exact r_thrA B Tx hst (is := 141) (text := "what out of range") (by decide +kernel) dX5_requireWhat_10 dX5_requireWhat_13 dX5_requireWhat_14 dX5_requireWhat_16 dX5_requireWhat_19 ⟨Nat.le_of_ble_eq_true rfl, Nat.le_of_ble_eq_true rfl, Nat.le_of_ble_eq_true rfl, Nat.le_of_ble_eq_true rfl⟩ ⟨Nat.le_of_ble_eq_true rfl, Nat.le_of_ble_eq_true rfl⟩ ⟨rfl, by omega, rfl⟩

set_option maxRecDepth 100000 in
set_option maxHeartbeats 4000000 in
theorem c_X5_requireClass (l : Launch) (hst : l.stackTraces = false) (G : Gs) (M : Mem) (qu : Int) (hp : In32 qu) : CtX l G yX5_requireClass cX5_requireClass 1 (none) rx_X5_requireClass [.int (iI qu)] M (PoV G (fun M' => (1 ≤ qu ∧ qu < 13) ∧ M' = M)) (fun E M' => E = eIAE ∧ ¬ (1 ≤ qu ∧ qu < 13) ∧ M' = M) 1 6 := by
  refine CtX.of (by decide +kernel) (Nat.le_of_ble_eq_true rfl) [(0, .int (iI qu))] rfl ?_
  intro X B Tx
  obtain ⟨hp1, hp2⟩ := hp
  refine r_iload_n B 0 dX5_requireClass_0 rfl ?_
  refine r_iconst B dX5_requireClass_1 ?_
  refine r_icmp_lt B dX5_requireClass_2 rfl ⟨by omega, by omega⟩ ⟨by omega, by omega⟩ (fun h1 => ?_) (fun h1 => ?_)
  · exact r_thrAW B Tx hst (is := 329) (text := "quality out of range") (by decide +kernel) dX5_requireClass_11 dX5_requireClass_14 dX5_requireClass_15 dX5_requireClass_18 dX5_requireClass_21 ⟨Nat.le_of_ble_eq_true rfl, Nat.le_of_ble_eq_true rfl, Nat.le_of_ble_eq_true rfl, Nat.le_of_ble_eq_true rfl⟩ ⟨Nat.le_of_ble_eq_true rfl, Nat.le_of_ble_eq_true rfl⟩ ⟨rfl, by omega, rfl⟩
  · refine r_iload_n B 0 dX5_requireClass_5 rfl ?_
    refine r_bipush B (z := 12) dX5_requireClass_6 (by decide) ?_
    refine r_icmp_le B dX5_requireClass_8 rfl ⟨by omega, by omega⟩ ⟨by omega, by omega⟩ (fun h2 => ?_) (fun h2 => ?_)
    · exact WM.xret (Nat.le_of_ble_eq_true rfl) (Nat.le_of_ble_eq_true rfl) (r_vret B dX5_requireClass_22 ⟨⟨by omega, by omega⟩, rfl⟩)
    · exact r_thrAW B Tx hst (is := 329) (text := "quality out of range") (by decide +kernel) dX5_requireClass_11 dX5_requireClass_14 dX5_requireClass_15 dX5_requireClass_18 dX5_requireClass_21 ⟨Nat.le_of_ble_eq_true rfl, Nat.le_of_ble_eq_true rfl, Nat.le_of_ble_eq_true rfl, Nat.le_of_ble_eq_true rfl⟩ ⟨Nat.le_of_ble_eq_true rfl, Nat.le_of_ble_eq_true rfl⟩ ⟨rfl, by omega, rfl⟩

set_option maxRecDepth 100000 in
set_option maxHeartbeats 4000000 in
theorem c_X5_requirePoints (l : Launch) (hst : l.stackTraces = false) (G : Gs) (M : Mem) (a : Nat) (ge ki n : Int) (y : Int → Int) (ha : IsLine G a) (hA : LineIs M a ge ki n y) (hok : LineOk n y) : CtX l G yX5_requirePoints cX5_requirePoints 1 (none) rx_X5_requirePoints [.ref a] M (PoV G (fun M' => 3 ≤ n ∧ M' = M)) (fun E M' => E = eISE ∧ ¬ 3 ≤ n ∧ M' = M) 1 6 := by
  refine CtX.of (by decide +kernel) (Nat.le_of_ble_eq_true rfl) [(0, .ref a)] rfl ?_
  intro X B Tx
  have hms : 0 ≤ msS n ∧ msS n ≤ 1 := by unfold msS; split <;> omega
  refine r_aload_n B 0 dX5_requirePoints_0 rfl ?_
  refine r_pVz0 B (c_X1_isMeasured l G M a ge ki n y ha hA hok  ) ⟨rfl, rfl⟩ ok_X1_isMeasured vi_X1_isMeasured q_430 ha.1 rfl (fun _ => rfl) ⟨Nat.le_of_ble_eq_true rfl, Nat.le_of_ble_eq_true rfl, Nat.le_of_ble_eq_true rfl⟩ ⟨Nat.le_of_ble_eq_true rfl, Nat.le_of_ble_eq_true rfl⟩ dX5_requirePoints_1 ?_
  refine r_if_ne B dX5_requirePoints_4 rfl ⟨by omega, by omega⟩ (fun h1 => ?_) (fun h1 => ?_)
  · exact WM.xret (Nat.le_of_ble_eq_true rfl) (Nat.le_of_ble_eq_true rfl) (r_vret B dX5_requirePoints_18 ⟨Decidable.byContradiction (fun q => h1 (by unfold msS; rw [if_neg q])), rfl⟩)
  · exact r_thrSW B Tx hst (is := 331) (text := "too few points") (by decide +kernel) dX5_requirePoints_7 dX5_requirePoints_10 dX5_requirePoints_11 dX5_requirePoints_14 dX5_requirePoints_17 ⟨Nat.le_of_ble_eq_true rfl, Nat.le_of_ble_eq_true rfl, Nat.le_of_ble_eq_true rfl, Nat.le_of_ble_eq_true rfl⟩ ⟨Nat.le_of_ble_eq_true rfl, Nat.le_of_ble_eq_true rfl⟩ ⟨rfl, fun q => by unfold msS at h1; rw [if_pos q] at h1; omega, rfl⟩
