set_option maxRecDepth 100000 in
set_option maxHeartbeats 4000000 in
theorem c_X6_addGear (l : Launch) (G : Gs) (M : Mem) (md : Nat) (hM : IsMd G md) (s : Ast) (cn : Int) (sv : Int → Ast) (hmg : MdG M md (s, cn, sv)) (hbk : GgOk (s, cn, sv)) (t mo : Int) (ht : In32 t) (hmo : In32 mo) : Ct l G yX6_addGear cX6_addGear 3 (some .int) rm_X6_addGear [.ref md, .int (iI t), .int (iI mo)] M (PoI G (fun r M' => r = (oAddG s t mo).2.1 ∧ gI M' md 6 = (oAddG s t mo).1 ∧ MdG M' md (if (oAddG s t mo).1 = 0 then ((oAddG s t mo).2.2, (savG (s, cn, sv)).2) else (s, cn, sv)) ∧ MdF M M' md)) 0 0 := by
  refine Ct.of (by decide +kernel) (Nat.le_of_ble_eq_true rfl) [(0, .ref md), (1, .int (iI t)), (2, .int (iI mo))] rfl ?_
  intro X B
  have hS_M : MdS M md s := hmg.1
  have hok : StateOk s := hbk.1
  have hF_M : FL M M md := FL.rf
  have hc0 : 0 ≤ cn := hbk.2.1
  have hc4 : cn ≤ 4 := hbk.2.2.1
  have hs1 := hok.1
  have hs2 := hok.2.1
  have hs3 := hok.2.2.1
  have hs4 := hok.2.2.2.1
  obtain ⟨ht1, ht2⟩ := ht
  obtain ⟨hmo1, hmo2⟩ := hmo
  have i1 : 0 ≤ szF t mo ∧ szF t mo ≤ 1 := by unfold szF; split <;> omega
  refine r_iload_n B 1 dX6_addGear_0 rfl ?_
  refine r_iload_n B 2 dX6_addGear_1 rfl ?_
  refine r_pSz2 B (c_X6_isSize l G M  t mo ⟨by omega, by omega⟩ ⟨by omega, by omega⟩) ⟨rfl, rfl⟩ ok_X6_isSize q_956 q_955 ⟨Nat.le_of_ble_eq_true rfl, Nat.le_of_ble_eq_true rfl, Nat.le_of_ble_eq_true rfl⟩ ⟨Nat.le_of_ble_eq_true rfl, Nat.le_of_ble_eq_true rfl⟩ dX6_addGear_2 ?_
  refine r_if_ne B dX6_addGear_5 rfl ⟨by omega, by omega⟩ (fun h1 => ?_) (fun h1 => ?_)
  · have hgt : isG t mo := Decidable.byContradiction (fun q => h1 (by unfold szF; rw [if_neg q]))
    have hgt2 := hgt
    unfold isG at hgt2
    refine r_aload_n B 0 dX6_addGear_14 rfl ?_
    refine rg6_s B hM.1 q_892 dX6_addGear_15 ?_
    refine r_iconst B dX6_addGear_18 ?_
    refine r_iaload B dX6_addGear_19 hM.2.1 (by omega) (by omega) ?_
    refine r_vi (y := s.1) hS_M.1 ?_
    refine r_bipush B (z := 6) dX6_addGear_20 (by decide) ?_
    refine r_icmp_ne B dX6_addGear_22 rfl ⟨by omega, by omega⟩ ⟨by omega, by omega⟩ (fun h2 => ?_) (fun h2 => ?_)
    · refine r_aload_n B 0 dX6_addGear_31 rfl ?_
      refine r_Vv0 B (c_X6_hold l G M md hM) ⟨rfl, rfl⟩ ok_X6_hold vi_X6_hold q_968 hM.1 rfl (fun _ => rfl) ⟨Nat.le_of_ble_eq_true rfl, Nat.le_of_ble_eq_true rfl, Nat.le_of_ble_eq_true rfl⟩ ⟨Nat.le_of_ble_eq_true rfl, Nat.le_of_ble_eq_true rfl⟩ dX6_addGear_32 (fun Mh hh => ?_)
      have hS_Mh : MdS Mh md s := by unfold MdS; rw [(hh.2 (md + 1) (by omega)).1]; exact hS_M
      have hAs : RowS (gI Mh (md + 3)) s := hS_M.congr hok (fun k p q => hh.1 k p q)
      refine r_aload_n B 0 dX6_addGear_35 rfl ?_
      refine r_iload_n B 1 dX6_addGear_36 rfl ?_
      refine r_iload_n B 2 dX6_addGear_37 rfl ?_
      refine r_Vv2 B (c_X6_putsGear l G Mh md hM s hS_Mh hok t mo (by omega) (by omega)) ⟨rfl, rfl⟩ ok_X6_putsGear vi_X6_putsGear q_972 hM.1 rfl (fun _ => rfl) ⟨Nat.le_of_ble_eq_true rfl, Nat.le_of_ble_eq_true rfl, Nat.le_of_ble_eq_true rfl⟩ ⟨Nat.le_of_ble_eq_true rfl, Nat.le_of_ble_eq_true rfl⟩ dX6_addGear_38 (fun Mw hw => ?_)
      obtain ⟨hS2_Mw, hwf⟩ := hw
      refine r_aload_n B 0 dX6_addGear_41 rfl ?_
      refine r_aload_n B 0 dX6_addGear_42 rfl ?_
      refine rg6_s B hM.1 q_892 dX6_addGear_43 ?_
      refine r_iconst B dX6_addGear_46 ?_
      refine r_iaload B dX6_addGear_47 hM.2.1 (by omega) (by omega) ?_
      refine r_vi (y := s.1 + 1) hS2_Mw.1 ?_
      refine r_iconst B dX6_addGear_48 ?_
      refine r_isub B dX6_addGear_49 ?_
      refine r_vi (y := s.1) (by omega) ?_
      refine r_Vi1 B (c_X6_ends l G Mw md hM s cn sv (by rw [(hwf md (by omega)).1, (hh.2 md (by omega)).1]; exact hmg.2.1) (by rw [(hwf (md + 2) (by omega)).1, (hh.2 (md + 2) (by omega)).1]; exact hmg.2.2) (by rw [(hwf (md + 3) (by omega)).1]; exact hAs) hbk s.1) ⟨rfl, rfl⟩ ok_X6_ends vi_X6_ends q_976 hM.1 rfl (fun _ => rfl) ⟨Nat.le_of_ble_eq_true rfl, Nat.le_of_ble_eq_true rfl, Nat.le_of_ble_eq_true rfl⟩ ⟨Nat.le_of_ble_eq_true rfl, Nat.le_of_ble_eq_true rfl⟩ dX6_addGear_50 (fun re Me hen => ?_)
      obtain ⟨hev, he6, he3, hesr, hesm, he5⟩ := hen
      rw [hev]
      clear hev
      have hfin := MdG.fin hh.2 hwf hS2_Mw he3 hesr hesm he5
      have ho : oAddG s t mo = (0, s.1, addG s t mo) := by unfold oAddG; rw [if_neg (fun z => z hgt), if_neg (by omega)]
      exact r_iret B dX6_addGear_53 ⟨by rw [ho], by rw [ho]; exact he6, by rw [ho, if_pos rfl]; exact hfin.1, hfin.2⟩
    · refine r_aload_n B 0 dX6_addGear_25 rfl ?_
      refine r_iconst B dX6_addGear_26 ?_
      refine r_Vi1 B (c_X6_fails l G M md hM 2) ⟨rfl, rfl⟩ ok_X6_fails vi_X6_fails q_964 hM.1 rfl (fun _ => rfl) ⟨Nat.le_of_ble_eq_true rfl, Nat.le_of_ble_eq_true rfl, Nat.le_of_ble_eq_true rfl⟩ ⟨Nat.le_of_ble_eq_true rfl, Nat.le_of_ble_eq_true rfl⟩ dX6_addGear_27 (fun rf Mf hff => ?_)
      obtain ⟨hf1, hf2⟩ := hff
      rw [hf1, hf2]
      clear hf1 hf2
      have ho : oAddG s t mo = (2, 0, s) := by unfold oAddG; rw [if_neg (fun z => z hgt), if_pos (by omega)]
      exact r_iret B dX6_addGear_30 ⟨by rw [ho], by rw [ho]; exact gI_eq, by rw [ho, if_neg (show ¬ (2 : Int) = 0 by decide)]; exact (MdG.fail hmg).1, (MdG.fail hmg).2⟩
  · refine r_aload_n B 0 dX6_addGear_8 rfl ?_
    refine r_iconst B dX6_addGear_9 ?_
    refine r_Vi1 B (c_X6_fails l G M md hM 1) ⟨rfl, rfl⟩ ok_X6_fails vi_X6_fails q_964 hM.1 rfl (fun _ => rfl) ⟨Nat.le_of_ble_eq_true rfl, Nat.le_of_ble_eq_true rfl, Nat.le_of_ble_eq_true rfl⟩ ⟨Nat.le_of_ble_eq_true rfl, Nat.le_of_ble_eq_true rfl⟩ dX6_addGear_10 (fun rf Mf hff => ?_)
    obtain ⟨hf1, hf2⟩ := hff
    rw [hf1, hf2]
    clear hf1 hf2
    have ho : oAddG s t mo = (1, 0, s) := by unfold oAddG; rw [if_pos (fun z => by unfold szF at h1; rw [if_pos z] at h1; omega)]
    exact r_iret B dX6_addGear_13 ⟨by rw [ho], by rw [ho]; exact gI_eq, by rw [ho, if_neg (show ¬ (1 : Int) = 0 by decide)]; exact (MdG.fail hmg).1, (MdG.fail hmg).2⟩

set_option maxRecDepth 100000 in
set_option maxHeartbeats 4000000 in
theorem c_X6_addLine (l : Launch) (G : Gs) (M : Mem) (md : Nat) (hM : IsMd G md) (s : Ast) (cn : Int) (sv : Int → Ast) (hmg : MdG M md (s, cn, sv)) (hbk : GgOk (s, cn, sv)) (ge ki : Int) (hge : In32 ge) (hki : In32 ki) : Ct l G yX6_addLine cX6_addLine 3 (some .int) rm_X6_addLine [.ref md, .int (iI ge), .int (iI ki)] M (PoI G (fun r M' => r = (oAddL s ge ki).2.1 ∧ gI M' md 6 = (oAddL s ge ki).1 ∧ MdG M' md (if (oAddL s ge ki).1 = 0 then ((oAddL s ge ki).2.2, (savG (s, cn, sv)).2) else (s, cn, sv)) ∧ MdF M M' md)) 0 0 := by
  refine Ct.of (by decide +kernel) (Nat.le_of_ble_eq_true rfl) [(0, .ref md), (1, .int (iI ge)), (2, .int (iI ki))] rfl ?_
  intro X B
  have hS_M : MdS M md s := hmg.1
  have hok : StateOk s := hbk.1
  have hF_M : FL M M md := FL.rf
  have hc0 : 0 ≤ cn := hbk.2.1
  have hc4 : cn ≤ 4 := hbk.2.2.1
  have hs1 := hok.1
  have hs2 := hok.2.1
  have hs3 := hok.2.2.1
  have hs4 := hok.2.2.2.1
  obtain ⟨hge1, hge2⟩ := hge
  obtain ⟨hki1, hki2⟩ := hki
  have i1 := inF_in ge 0 (s.1 - 1)
  have i2 := inF_in ki 0 1
  refine r_aload_n B 0 dX6_addLine_0 rfl ?_
  refine r_iload_n B 1 dX6_addLine_1 rfl ?_
  refine r_pVz1 B (c_X6_isGear l G M md hM s hS_M hok ge ⟨by omega, by omega⟩) ⟨rfl, rfl⟩ ok_X6_isGear vi_X6_isGear q_988 hM.1 rfl (fun _ => rfl) ⟨Nat.le_of_ble_eq_true rfl, Nat.le_of_ble_eq_true rfl, Nat.le_of_ble_eq_true rfl⟩ ⟨Nat.le_of_ble_eq_true rfl, Nat.le_of_ble_eq_true rfl⟩ dX6_addLine_2 ?_
  refine r_if_ne B dX6_addLine_5 rfl ⟨by omega, by omega⟩ (fun h1 => ?_) (fun h1 => ?_)
  · have q_h1 := inF_1 h1
    refine r_iload_n B 2 dX6_addLine_14 rfl ?_
    refine r_i2l B dX6_addLine_15 ⟨by omega, by omega⟩ ?_
    refine r_lconst0 B dX6_addLine_16 ?_
    refine r_lconst1 B dX6_addLine_17 ?_
    refine r_pSz3 B (c_X6_in l G M  ki 0 1 ⟨by omega, by omega⟩ ⟨by omega, by omega⟩ ⟨by omega, by omega⟩) ⟨rfl, rfl⟩ ok_X6_in q_961 q_960 ⟨Nat.le_of_ble_eq_true rfl, Nat.le_of_ble_eq_true rfl, Nat.le_of_ble_eq_true rfl⟩ ⟨Nat.le_of_ble_eq_true rfl, Nat.le_of_ble_eq_true rfl⟩ dX6_addLine_18 ?_
    refine r_if_ne B dX6_addLine_21 rfl ⟨by omega, by omega⟩ (fun h2 => ?_) (fun h2 => ?_)
    · have q_h2 := inF_1 h2
      refine r_aload_n B 0 dX6_addLine_30 rfl ?_
      refine rg6_s B hM.1 q_892 dX6_addLine_31 ?_
      refine r_sipush B (z := 571) dX6_addLine_34 (by decide) ?_
      refine r_iaload B dX6_addLine_37 hM.2.1 (by omega) (by omega) ?_
      refine r_vi (y := s.2.1) hS_M.2.1 ?_
      refine r_bipush B (z := 10) dX6_addLine_38 (by decide) ?_
      refine r_icmp_ne B dX6_addLine_40 rfl ⟨by omega, by omega⟩ ⟨by omega, by omega⟩ (fun h3 => ?_) (fun h3 => ?_)
      · refine r_aload_n B 0 dX6_addLine_49 rfl ?_
        refine r_Vv0 B (c_X6_hold l G M md hM) ⟨rfl, rfl⟩ ok_X6_hold vi_X6_hold q_968 hM.1 rfl (fun _ => rfl) ⟨Nat.le_of_ble_eq_true rfl, Nat.le_of_ble_eq_true rfl, Nat.le_of_ble_eq_true rfl⟩ ⟨Nat.le_of_ble_eq_true rfl, Nat.le_of_ble_eq_true rfl⟩ dX6_addLine_50 (fun Mh hh => ?_)
        have hS_Mh : MdS Mh md s := by unfold MdS; rw [(hh.2 (md + 1) (by omega)).1]; exact hS_M
        have hAs : RowS (gI Mh (md + 3)) s := hS_M.congr hok (fun k p q => hh.1 k p q)
        refine r_aload_n B 0 dX6_addLine_53 rfl ?_
        refine r_iload_n B 1 dX6_addLine_54 rfl ?_
        refine r_iload_n B 2 dX6_addLine_55 rfl ?_
        refine r_Vv2 B (c_X6_putsLine l G Mh md hM s hS_Mh hok ge ki (by omega)) ⟨rfl, rfl⟩ ok_X6_putsLine vi_X6_putsLine q_1180 hM.1 rfl (fun _ => rfl) ⟨Nat.le_of_ble_eq_true rfl, Nat.le_of_ble_eq_true rfl, Nat.le_of_ble_eq_true rfl⟩ ⟨Nat.le_of_ble_eq_true rfl, Nat.le_of_ble_eq_true rfl⟩ dX6_addLine_56 (fun Mw hw => ?_)
        obtain ⟨hS2_Mw, hwf⟩ := hw
        refine r_aload_n B 0 dX6_addLine_59 rfl ?_
        refine r_aload_n B 0 dX6_addLine_60 rfl ?_
        refine rg6_s B hM.1 q_892 dX6_addLine_61 ?_
        refine r_sipush B (z := 571) dX6_addLine_64 (by decide) ?_
        refine r_iaload B dX6_addLine_67 hM.2.1 (by omega) (by omega) ?_
        refine r_vi (y := s.2.1 + 1) hS2_Mw.2.1 ?_
        refine r_iconst B dX6_addLine_68 ?_
        refine r_isub B dX6_addLine_69 ?_
        refine r_vi (y := s.2.1) (by omega) ?_
        refine r_Vi1 B (c_X6_ends l G Mw md hM s cn sv (by rw [(hwf md (by omega)).1, (hh.2 md (by omega)).1]; exact hmg.2.1) (by rw [(hwf (md + 2) (by omega)).1, (hh.2 (md + 2) (by omega)).1]; exact hmg.2.2) (by rw [(hwf (md + 3) (by omega)).1]; exact hAs) hbk s.2.1) ⟨rfl, rfl⟩ ok_X6_ends vi_X6_ends q_976 hM.1 rfl (fun _ => rfl) ⟨Nat.le_of_ble_eq_true rfl, Nat.le_of_ble_eq_true rfl, Nat.le_of_ble_eq_true rfl⟩ ⟨Nat.le_of_ble_eq_true rfl, Nat.le_of_ble_eq_true rfl⟩ dX6_addLine_70 (fun re Me hen => ?_)
        obtain ⟨hev, he6, he3, hesr, hesm, he5⟩ := hen
        rw [hev]
        clear hev
        have hfin := MdG.fin hh.2 hwf hS2_Mw he3 hesr hesm he5
        have ho : oAddL s ge ki = (0, s.2.1, addL s ge ki) := by unfold oAddL; rw [if_neg (by omega), if_neg (by omega), if_neg (by omega)]
        exact r_iret B dX6_addLine_73 ⟨by rw [ho], by rw [ho]; exact he6, by rw [ho, if_pos rfl]; exact hfin.1, hfin.2⟩
      · refine r_aload_n B 0 dX6_addLine_43 rfl ?_
        refine r_iconst B dX6_addLine_44 ?_
        refine r_Vi1 B (c_X6_fails l G M md hM 3) ⟨rfl, rfl⟩ ok_X6_fails vi_X6_fails q_964 hM.1 rfl (fun _ => rfl) ⟨Nat.le_of_ble_eq_true rfl, Nat.le_of_ble_eq_true rfl, Nat.le_of_ble_eq_true rfl⟩ ⟨Nat.le_of_ble_eq_true rfl, Nat.le_of_ble_eq_true rfl⟩ dX6_addLine_45 (fun rf Mf hff => ?_)
        obtain ⟨hf1, hf2⟩ := hff
        rw [hf1, hf2]
        clear hf1 hf2
        have ho : oAddL s ge ki = (3, 0, s) := by unfold oAddL; rw [if_neg (by omega), if_neg (by omega), if_pos (by omega)]
        exact r_iret B dX6_addLine_48 ⟨by rw [ho], by rw [ho]; exact gI_eq, by rw [ho, if_neg (show ¬ (3 : Int) = 0 by decide)]; exact (MdG.fail hmg).1, (MdG.fail hmg).2⟩
    · have q_h2 := inF_0 h2
      refine r_aload_n B 0 dX6_addLine_24 rfl ?_
      refine r_iconst B dX6_addLine_25 ?_
      refine r_Vi1 B (c_X6_fails l G M md hM 2) ⟨rfl, rfl⟩ ok_X6_fails vi_X6_fails q_964 hM.1 rfl (fun _ => rfl) ⟨Nat.le_of_ble_eq_true rfl, Nat.le_of_ble_eq_true rfl, Nat.le_of_ble_eq_true rfl⟩ ⟨Nat.le_of_ble_eq_true rfl, Nat.le_of_ble_eq_true rfl⟩ dX6_addLine_26 (fun rf Mf hff => ?_)
      obtain ⟨hf1, hf2⟩ := hff
      rw [hf1, hf2]
      clear hf1 hf2
      have ho : oAddL s ge ki = (2, 0, s) := by unfold oAddL; rw [if_neg (by omega), if_pos (by omega)]
      exact r_iret B dX6_addLine_29 ⟨by rw [ho], by rw [ho]; exact gI_eq, by rw [ho, if_neg (show ¬ (2 : Int) = 0 by decide)]; exact (MdG.fail hmg).1, (MdG.fail hmg).2⟩
  · have q_h1 := inF_0 h1
    refine r_aload_n B 0 dX6_addLine_8 rfl ?_
    refine r_iconst B dX6_addLine_9 ?_
    refine r_Vi1 B (c_X6_fails l G M md hM 1) ⟨rfl, rfl⟩ ok_X6_fails vi_X6_fails q_964 hM.1 rfl (fun _ => rfl) ⟨Nat.le_of_ble_eq_true rfl, Nat.le_of_ble_eq_true rfl, Nat.le_of_ble_eq_true rfl⟩ ⟨Nat.le_of_ble_eq_true rfl, Nat.le_of_ble_eq_true rfl⟩ dX6_addLine_10 (fun rf Mf hff => ?_)
    obtain ⟨hf1, hf2⟩ := hff
    rw [hf1, hf2]
    clear hf1 hf2
    have ho : oAddL s ge ki = (1, 0, s) := by unfold oAddL; rw [if_pos (by omega)]
    exact r_iret B dX6_addLine_13 ⟨by rw [ho], by rw [ho]; exact gI_eq, by rw [ho, if_neg (show ¬ (1 : Int) = 0 by decide)]; exact (MdG.fail hmg).1, (MdG.fail hmg).2⟩

set_option maxRecDepth 100000 in
set_option maxHeartbeats 4000000 in
theorem c_X6_addPoint (l : Launch) (G : Gs) (M : Mem) (md : Nat) (hM : IsMd G md) (s : Ast) (cn : Int) (sv : Int → Ast) (hmg : MdG M md (s, cn, sv)) (hbk : GgOk (s, cn, sv)) (li v : Int) (hli : In32 li) (hv : In32 v) : Ct l G yX6_addPoint cX6_addPoint 3 (some .int) rm_X6_addPoint [.ref md, .int (iI li), .int (iI v)] M (PoI G (fun r M' => r = (oAddP s li v).2.1 ∧ gI M' md 6 = (oAddP s li v).1 ∧ MdG M' md (if (oAddP s li v).1 = 0 then ((oAddP s li v).2.2, (savG (s, cn, sv)).2) else (s, cn, sv)) ∧ MdF M M' md)) 0 0 := by
  refine Ct.of (by decide +kernel) (Nat.le_of_ble_eq_true rfl) [(0, .ref md), (1, .int (iI li)), (2, .int (iI v))] rfl ?_
  intro X B
  have hS_M : MdS M md s := hmg.1
  have hok : StateOk s := hbk.1
  have hF_M : FL M M md := FL.rf
  have hc0 : 0 ≤ cn := hbk.2.1
  have hc4 : cn ≤ 4 := hbk.2.2.1
  have hs1 := hok.1
  have hs2 := hok.2.1
  have hs3 := hok.2.2.1
  have hs4 := hok.2.2.2.1
  obtain ⟨hli1, hli2⟩ := hli
  obtain ⟨hv1, hv2⟩ := hv
  have i1 := inF_in li 0 (s.2.1 - 1)
  have i2 := inF_in v (-5000) 5000
  refine r_aload_n B 0 dX6_addPoint_0 rfl ?_
  refine r_iload_n B 1 dX6_addPoint_1 rfl ?_
  refine r_pVz1 B (c_X6_isLine l G M md hM s hS_M hok li ⟨by omega, by omega⟩) ⟨rfl, rfl⟩ ok_X6_isLine vi_X6_isLine q_1188 hM.1 rfl (fun _ => rfl) ⟨Nat.le_of_ble_eq_true rfl, Nat.le_of_ble_eq_true rfl, Nat.le_of_ble_eq_true rfl⟩ ⟨Nat.le_of_ble_eq_true rfl, Nat.le_of_ble_eq_true rfl⟩ dX6_addPoint_2 ?_
  refine r_if_ne B dX6_addPoint_5 rfl ⟨by omega, by omega⟩ (fun h1 => ?_) (fun h1 => ?_)
  · have q_h1 := inF_1 h1
    have hlk := hok.2.2.2.2.2 li (by omega) (by omega)
    obtain ⟨⟨hln0, hln1, hlv⟩, hlg0, hlg1, hlk0, hlk1⟩ := id hlk
    refine r_iload_n B 2 dX6_addPoint_14 rfl ?_
    refine r_pSz1 B (c_X6_isValue l G M  v ⟨by omega, by omega⟩) ⟨rfl, rfl⟩ ok_X6_isValue q_1018 q_1017 ⟨Nat.le_of_ble_eq_true rfl, Nat.le_of_ble_eq_true rfl, Nat.le_of_ble_eq_true rfl⟩ ⟨Nat.le_of_ble_eq_true rfl, Nat.le_of_ble_eq_true rfl⟩ dX6_addPoint_15 ?_
    refine r_if_ne B dX6_addPoint_18 rfl ⟨by omega, by omega⟩ (fun h2 => ?_) (fun h2 => ?_)
    · have q_h2 := inF_1 h2
      refine r_aload_n B 0 dX6_addPoint_27 rfl ?_
      refine r_iload_n B 1 dX6_addPoint_28 rfl ?_
      refine r_iconst B dX6_addPoint_29 ?_
      refine r_pVi2 B (c_X6_of l G M md hM li 2 (by omega) (by omega) (by omega) (by omega)) ⟨rfl, rfl⟩ ok_X6_of vi_X6_of q_992 hM.1 rfl (fun _ => rfl) ⟨Nat.le_of_ble_eq_true rfl, Nat.le_of_ble_eq_true rfl, Nat.le_of_ble_eq_true rfl⟩ ⟨Nat.le_of_ble_eq_true rfl, Nat.le_of_ble_eq_true rfl⟩ dX6_addPoint_30 ?_
      refine r_vi (y := (s.2.2.2 li).2.2.1) (hS_M.2.2.2 li (by omega) (by omega)).2.2.1 ?_
      refine r_bipush B (z := 12) dX6_addPoint_33 (by decide) ?_
      refine r_icmp_ne B dX6_addPoint_35 rfl ⟨by omega, by omega⟩ ⟨by omega, by omega⟩ (fun h3 => ?_) (fun h3 => ?_)
      · refine r_aload_n B 0 dX6_addPoint_44 rfl ?_
        refine r_Vv0 B (c_X6_hold l G M md hM) ⟨rfl, rfl⟩ ok_X6_hold vi_X6_hold q_968 hM.1 rfl (fun _ => rfl) ⟨Nat.le_of_ble_eq_true rfl, Nat.le_of_ble_eq_true rfl, Nat.le_of_ble_eq_true rfl⟩ ⟨Nat.le_of_ble_eq_true rfl, Nat.le_of_ble_eq_true rfl⟩ dX6_addPoint_45 (fun Mh hh => ?_)
        have hS_Mh : MdS Mh md s := by unfold MdS; rw [(hh.2 (md + 1) (by omega)).1]; exact hS_M
        have hAs : RowS (gI Mh (md + 3)) s := hS_M.congr hok (fun k p q => hh.1 k p q)
        refine r_aload_n B 0 dX6_addPoint_48 rfl ?_
        refine r_iload_n B 1 dX6_addPoint_49 rfl ?_
        refine r_iload_n B 2 dX6_addPoint_50 rfl ?_
        refine r_Vv2 B (c_X6_putsPoint l G Mh md hM s hS_Mh hok li v (by omega) (by omega) (by omega)) ⟨rfl, rfl⟩ ok_X6_putsPoint vi_X6_putsPoint q_1192 hM.1 rfl (fun _ => rfl) ⟨Nat.le_of_ble_eq_true rfl, Nat.le_of_ble_eq_true rfl, Nat.le_of_ble_eq_true rfl⟩ ⟨Nat.le_of_ble_eq_true rfl, Nat.le_of_ble_eq_true rfl⟩ dX6_addPoint_51 (fun Mw hw => ?_)
        obtain ⟨hS2_Mw, hwf⟩ := hw
        refine r_aload_n B 0 dX6_addPoint_54 rfl ?_
        refine r_aload_n B 0 dX6_addPoint_55 rfl ?_
        refine r_iload_n B 1 dX6_addPoint_56 rfl ?_
        refine r_iconst B dX6_addPoint_57 ?_
        refine r_pVi2 B (c_X6_of l G Mw md hM li 2 (by omega) (by omega) (by omega) (by omega)) ⟨rfl, rfl⟩ ok_X6_of vi_X6_of q_992 hM.1 rfl (fun _ => rfl) ⟨Nat.le_of_ble_eq_true rfl, Nat.le_of_ble_eq_true rfl, Nat.le_of_ble_eq_true rfl⟩ ⟨Nat.le_of_ble_eq_true rfl, Nat.le_of_ble_eq_true rfl⟩ dX6_addPoint_58 ?_
        refine r_vi (y := (s.2.2.2 li).2.2.1 + 1) (by rw [(hS2_Mw.2.2.2 li (by omega) (by show li < s.2.1; omega)).2.2.1]; show (upF s.2.2.2 li _ li).2.2.1 = _; rw [upF_eq]) ?_
        refine r_Vi1 B (c_X6_ends l G Mw md hM s cn sv (by rw [(hwf md (by omega)).1, (hh.2 md (by omega)).1]; exact hmg.2.1) (by rw [(hwf (md + 2) (by omega)).1, (hh.2 (md + 2) (by omega)).1]; exact hmg.2.2) (by rw [(hwf (md + 3) (by omega)).1]; exact hAs) hbk ((s.2.2.2 li).2.2.1 + 1)) ⟨rfl, rfl⟩ ok_X6_ends vi_X6_ends q_976 hM.1 rfl (fun _ => rfl) ⟨Nat.le_of_ble_eq_true rfl, Nat.le_of_ble_eq_true rfl, Nat.le_of_ble_eq_true rfl⟩ ⟨Nat.le_of_ble_eq_true rfl, Nat.le_of_ble_eq_true rfl⟩ dX6_addPoint_61 (fun re Me hen => ?_)
        obtain ⟨hev, he6, he3, hesr, hesm, he5⟩ := hen
        rw [hev]
        clear hev
        have hfin := MdG.fin hh.2 hwf hS2_Mw he3 hesr hesm he5
        have ho : oAddP s li v = (0, (s.2.2.2 li).2.2.1 + 1, addP s li v) := by unfold oAddP; rw [if_neg (by omega), if_neg (by omega), if_neg (by omega)]
        exact r_iret B dX6_addPoint_64 ⟨by rw [ho], by rw [ho]; exact he6, by rw [ho, if_pos rfl]; exact hfin.1, hfin.2⟩
      · refine r_aload_n B 0 dX6_addPoint_38 rfl ?_
        refine r_iconst B dX6_addPoint_39 ?_
        refine r_Vi1 B (c_X6_fails l G M md hM 3) ⟨rfl, rfl⟩ ok_X6_fails vi_X6_fails q_964 hM.1 rfl (fun _ => rfl) ⟨Nat.le_of_ble_eq_true rfl, Nat.le_of_ble_eq_true rfl, Nat.le_of_ble_eq_true rfl⟩ ⟨Nat.le_of_ble_eq_true rfl, Nat.le_of_ble_eq_true rfl⟩ dX6_addPoint_40 (fun rf Mf hff => ?_)
        obtain ⟨hf1, hf2⟩ := hff
        rw [hf1, hf2]
        clear hf1 hf2
        have ho : oAddP s li v = (3, 0, s) := by unfold oAddP; rw [if_neg (by omega), if_neg (by omega), if_pos (by omega)]
        exact r_iret B dX6_addPoint_43 ⟨by rw [ho], by rw [ho]; exact gI_eq, by rw [ho, if_neg (show ¬ (3 : Int) = 0 by decide)]; exact (MdG.fail hmg).1, (MdG.fail hmg).2⟩
    · have q_h2 := inF_0 h2
      refine r_aload_n B 0 dX6_addPoint_21 rfl ?_
      refine r_iconst B dX6_addPoint_22 ?_
      refine r_Vi1 B (c_X6_fails l G M md hM 2) ⟨rfl, rfl⟩ ok_X6_fails vi_X6_fails q_964 hM.1 rfl (fun _ => rfl) ⟨Nat.le_of_ble_eq_true rfl, Nat.le_of_ble_eq_true rfl, Nat.le_of_ble_eq_true rfl⟩ ⟨Nat.le_of_ble_eq_true rfl, Nat.le_of_ble_eq_true rfl⟩ dX6_addPoint_23 (fun rf Mf hff => ?_)
      obtain ⟨hf1, hf2⟩ := hff
      rw [hf1, hf2]
      clear hf1 hf2
      have ho : oAddP s li v = (2, 0, s) := by unfold oAddP; rw [if_neg (by omega), if_pos (by omega)]
      exact r_iret B dX6_addPoint_26 ⟨by rw [ho], by rw [ho]; exact gI_eq, by rw [ho, if_neg (show ¬ (2 : Int) = 0 by decide)]; exact (MdG.fail hmg).1, (MdG.fail hmg).2⟩
  · have q_h1 := inF_0 h1
    refine r_aload_n B 0 dX6_addPoint_8 rfl ?_
    refine r_iconst B dX6_addPoint_9 ?_
    refine r_Vi1 B (c_X6_fails l G M md hM 1) ⟨rfl, rfl⟩ ok_X6_fails vi_X6_fails q_964 hM.1 rfl (fun _ => rfl) ⟨Nat.le_of_ble_eq_true rfl, Nat.le_of_ble_eq_true rfl, Nat.le_of_ble_eq_true rfl⟩ ⟨Nat.le_of_ble_eq_true rfl, Nat.le_of_ble_eq_true rfl⟩ dX6_addPoint_10 (fun rf Mf hff => ?_)
    obtain ⟨hf1, hf2⟩ := hff
    rw [hf1, hf2]
    clear hf1 hf2
    have ho : oAddP s li v = (1, 0, s) := by unfold oAddP; rw [if_pos (by omega)]
    exact r_iret B dX6_addPoint_13 ⟨by rw [ho], by rw [ho]; exact gI_eq, by rw [ho, if_neg (show ¬ (1 : Int) = 0 by decide)]; exact (MdG.fail hmg).1, (MdG.fail hmg).2⟩

set_option maxRecDepth 100000 in
set_option maxHeartbeats 4000000 in
theorem c_X6_removeLine (l : Launch) (G : Gs) (M : Mem) (md : Nat) (hM : IsMd G md) (s : Ast) (cn : Int) (sv : Int → Ast) (hmg : MdG M md (s, cn, sv)) (hbk : GgOk (s, cn, sv)) (li : Int) (hli : In32 li) : Ct l G yX6_removeLine cX6_removeLine 2 (some .int) rm_X6_removeLine [.ref md, .int (iI li)] M (PoI G (fun r M' => r = (oRemL s li).2.1 ∧ gI M' md 6 = (oRemL s li).1 ∧ MdG M' md (if (oRemL s li).1 = 0 then ((oRemL s li).2.2, (savG (s, cn, sv)).2) else (s, cn, sv)) ∧ MdF M M' md)) 0 0 := by
  refine Ct.of (by decide +kernel) (Nat.le_of_ble_eq_true rfl) [(0, .ref md), (1, .int (iI li))] rfl ?_
  intro X B
  have hS_M : MdS M md s := hmg.1
  have hok : StateOk s := hbk.1
  have hF_M : FL M M md := FL.rf
  have hc0 : 0 ≤ cn := hbk.2.1
  have hc4 : cn ≤ 4 := hbk.2.2.1
  have hs1 := hok.1
  have hs2 := hok.2.1
  have hs3 := hok.2.2.1
  have hs4 := hok.2.2.2.1
  obtain ⟨hli1, hli2⟩ := hli
  have i1 := inF_in li 0 (s.2.1 - 1)
  refine r_aload_n B 0 dX6_removeLine_0 rfl ?_
  refine r_iload_n B 1 dX6_removeLine_1 rfl ?_
  refine r_pVz1 B (c_X6_isLine l G M md hM s hS_M hok li ⟨by omega, by omega⟩) ⟨rfl, rfl⟩ ok_X6_isLine vi_X6_isLine q_1188 hM.1 rfl (fun _ => rfl) ⟨Nat.le_of_ble_eq_true rfl, Nat.le_of_ble_eq_true rfl, Nat.le_of_ble_eq_true rfl⟩ ⟨Nat.le_of_ble_eq_true rfl, Nat.le_of_ble_eq_true rfl⟩ dX6_removeLine_2 ?_
  refine r_if_ne B dX6_removeLine_5 rfl ⟨by omega, by omega⟩ (fun h1 => ?_) (fun h1 => ?_)
  · have q_h1 := inF_1 h1
    refine r_aload_n B 0 dX6_removeLine_14 rfl ?_
    refine r_Vv0 B (c_X6_hold l G M md hM) ⟨rfl, rfl⟩ ok_X6_hold vi_X6_hold q_968 hM.1 rfl (fun _ => rfl) ⟨Nat.le_of_ble_eq_true rfl, Nat.le_of_ble_eq_true rfl, Nat.le_of_ble_eq_true rfl⟩ ⟨Nat.le_of_ble_eq_true rfl, Nat.le_of_ble_eq_true rfl⟩ dX6_removeLine_15 (fun Mh hh => ?_)
    have hS_Mh : MdS Mh md s := by unfold MdS; rw [(hh.2 (md + 1) (by omega)).1]; exact hS_M
    have hAs : RowS (gI Mh (md + 3)) s := hS_M.congr hok (fun k p q => hh.1 k p q)
    refine r_aload_n B 0 dX6_removeLine_18 rfl ?_
    refine r_iload_n B 1 dX6_removeLine_19 rfl ?_
    refine r_Vv1 B (c_X6_dropsLine l G Mh md hM s hS_Mh hok li (by omega) (by omega)) ⟨rfl, rfl⟩ ok_X6_dropsLine vi_X6_dropsLine q_996 hM.1 rfl (fun _ => rfl) ⟨Nat.le_of_ble_eq_true rfl, Nat.le_of_ble_eq_true rfl, Nat.le_of_ble_eq_true rfl⟩ ⟨Nat.le_of_ble_eq_true rfl, Nat.le_of_ble_eq_true rfl⟩ dX6_removeLine_20 (fun Mw hw => ?_)
    obtain ⟨hS2_Mw, hwf⟩ := hw
    refine r_aload_n B 0 dX6_removeLine_23 rfl ?_
    refine r_aload_n B 0 dX6_removeLine_24 rfl ?_
    refine rg6_s B hM.1 q_892 dX6_removeLine_25 ?_
    refine r_sipush B (z := 571) dX6_removeLine_28 (by decide) ?_
    refine r_iaload B dX6_removeLine_31 hM.2.1 (by omega) (by omega) ?_
    refine r_vi (y := s.2.1 - 1) hS2_Mw.2.1 ?_
    refine r_Vi1 B (c_X6_ends l G Mw md hM s cn sv (by rw [(hwf md (by omega)).1, (hh.2 md (by omega)).1]; exact hmg.2.1) (by rw [(hwf (md + 2) (by omega)).1, (hh.2 (md + 2) (by omega)).1]; exact hmg.2.2) (by rw [(hwf (md + 3) (by omega)).1]; exact hAs) hbk (s.2.1 - 1)) ⟨rfl, rfl⟩ ok_X6_ends vi_X6_ends q_976 hM.1 rfl (fun _ => rfl) ⟨Nat.le_of_ble_eq_true rfl, Nat.le_of_ble_eq_true rfl, Nat.le_of_ble_eq_true rfl⟩ ⟨Nat.le_of_ble_eq_true rfl, Nat.le_of_ble_eq_true rfl⟩ dX6_removeLine_32 (fun re Me hen => ?_)
    obtain ⟨hev, he6, he3, hesr, hesm, he5⟩ := hen
    rw [hev]
    clear hev
    have hfin := MdG.fin hh.2 hwf hS2_Mw he3 hesr hesm he5
    have ho : oRemL s li = (0, s.2.1 - 1, delL s li) := by unfold oRemL; rw [if_neg (by omega)]
    exact r_iret B dX6_removeLine_35 ⟨by rw [ho], by rw [ho]; exact he6, by rw [ho, if_pos rfl]; exact hfin.1, hfin.2⟩
  · have q_h1 := inF_0 h1
    refine r_aload_n B 0 dX6_removeLine_8 rfl ?_
    refine r_iconst B dX6_removeLine_9 ?_
    refine r_Vi1 B (c_X6_fails l G M md hM 1) ⟨rfl, rfl⟩ ok_X6_fails vi_X6_fails q_964 hM.1 rfl (fun _ => rfl) ⟨Nat.le_of_ble_eq_true rfl, Nat.le_of_ble_eq_true rfl, Nat.le_of_ble_eq_true rfl⟩ ⟨Nat.le_of_ble_eq_true rfl, Nat.le_of_ble_eq_true rfl⟩ dX6_removeLine_10 (fun rf Mf hff => ?_)
    obtain ⟨hf1, hf2⟩ := hff
    rw [hf1, hf2]
    clear hf1 hf2
    have ho : oRemL s li = (1, 0, s) := by unfold oRemL; rw [if_pos (by omega)]
    exact r_iret B dX6_removeLine_13 ⟨by rw [ho], by rw [ho]; exact gI_eq, by rw [ho, if_neg (show ¬ (1 : Int) = 0 by decide)]; exact (MdG.fail hmg).1, (MdG.fail hmg).2⟩

set_option maxRecDepth 100000 in
set_option maxHeartbeats 4000000 in
theorem c_X6_setReading (l : Launch) (G : Gs) (M : Mem) (md : Nat) (hM : IsMd G md) (s : Ast) (cn : Int) (sv : Int → Ast) (hmg : MdG M md (s, cn, sv)) (hbk : GgOk (s, cn, sv)) (ge se ix v : Int) (hge : In32 ge) (hse : In32 se) (hix : In32 ix) (hv : In32 v) : Ct l G yX6_setReading cX6_setReading 6 (some .int) rm_X6_setReading [.ref md, .int (iI ge), .int (iI se), .int (iI ix), .int (iI v)] M (PoI G (fun r M' => r = (oSetR s ge se ix v).2.1 ∧ gI M' md 6 = (oSetR s ge se ix v).1 ∧ MdG M' md (if (oSetR s ge se ix v).1 = 0 then ((oSetR s ge se ix v).2.2, (savG (s, cn, sv)).2) else (s, cn, sv)) ∧ MdF M M' md)) 0 0 := by
  refine Ct.of (by decide +kernel) (Nat.le_of_ble_eq_true rfl) [(0, .ref md), (1, .int (iI ge)), (2, .int (iI se)), (3, .int (iI ix)), (4, .int (iI v))] rfl ?_
  intro X B
  have hS_M : MdS M md s := hmg.1
  have hok : StateOk s := hbk.1
  have hF_M : FL M M md := FL.rf
  have hc0 : 0 ≤ cn := hbk.2.1
  have hc4 : cn ≤ 4 := hbk.2.2.1
  have hs1 := hok.1
  have hs2 := hok.2.1
  have hs3 := hok.2.2.1
  have hs4 := hok.2.2.2.1
  obtain ⟨hge1, hge2⟩ := hge
  obtain ⟨hse1, hse2⟩ := hse
  obtain ⟨hix1, hix2⟩ := hix
  obtain ⟨hv1, hv2⟩ := hv
  have i1 := bF_in ((0 ≤ ge ∧ ge < s.1) ∧ (0 ≤ se ∧ se < 3) ∧ (0 ≤ ix ∧ ix < szS (s.2.2.1 ge).1 se))
  have i2 := inF_in v (-5000) 5000
  refine r_aload_n B 0 dX6_setReading_0 rfl ?_
  refine r_iload_n B 1 dX6_setReading_1 rfl ?_
  refine r_iload_n B 2 dX6_setReading_2 rfl ?_
  refine r_iload_n B 3 dX6_setReading_3 rfl ?_
  refine r_pVz3 B (c_X6_isReading l G M md hM s hS_M hok ge se ix ⟨by omega, by omega⟩ ⟨by omega, by omega⟩ ⟨by omega, by omega⟩) ⟨rfl, rfl⟩ ok_X6_isReading vi_X6_isReading q_1004 hM.1 rfl (fun _ => rfl) ⟨Nat.le_of_ble_eq_true rfl, Nat.le_of_ble_eq_true rfl, Nat.le_of_ble_eq_true rfl⟩ ⟨Nat.le_of_ble_eq_true rfl, Nat.le_of_ble_eq_true rfl⟩ dX6_setReading_4 ?_
  refine r_if_ne B dX6_setReading_7 rfl ⟨by omega, by omega⟩ (fun h1 => ?_) (fun h1 => ?_)
  · have q_h1 := bF_1 h1
    have hgk := hok.2.2.2.2.1 ge (by omega) (by omega)
    obtain ⟨hgk1, hgk2, hgk3, hgk4, hgk5⟩ := id hgk
    have hsz := szS_le (s.2.2.1 ge).1 se
    refine r_iload B 4 dX6_setReading_16 rfl ?_
    refine r_pSz1 B (c_X6_isValue l G M  v ⟨by omega, by omega⟩) ⟨rfl, rfl⟩ ok_X6_isValue q_1018 q_1017 ⟨Nat.le_of_ble_eq_true rfl, Nat.le_of_ble_eq_true rfl, Nat.le_of_ble_eq_true rfl⟩ ⟨Nat.le_of_ble_eq_true rfl, Nat.le_of_ble_eq_true rfl⟩ dX6_setReading_18 ?_
    refine r_if_ne B dX6_setReading_21 rfl ⟨by omega, by omega⟩ (fun h2 => ?_) (fun h2 => ?_)
    · have q_h2 := inF_1 h2
      refine r_aload_n B 0 dX6_setReading_30 rfl ?_
      refine r_Vv0 B (c_X6_hold l G M md hM) ⟨rfl, rfl⟩ ok_X6_hold vi_X6_hold q_968 hM.1 rfl (fun _ => rfl) ⟨Nat.le_of_ble_eq_true rfl, Nat.le_of_ble_eq_true rfl, Nat.le_of_ble_eq_true rfl⟩ ⟨Nat.le_of_ble_eq_true rfl, Nat.le_of_ble_eq_true rfl⟩ dX6_setReading_31 (fun Mh hh => ?_)
      have hS_Mh : MdS Mh md s := by unfold MdS; rw [(hh.2 (md + 1) (by omega)).1]; exact hS_M
      have hAs : RowS (gI Mh (md + 3)) s := hS_M.congr hok (fun k p q => hh.1 k p q)
      refine r_aload_n B 0 dX6_setReading_34 rfl ?_
      refine r_iload_n B 1 dX6_setReading_35 rfl ?_
      refine r_iload_n B 2 dX6_setReading_36 rfl ?_
      refine r_iload_n B 3 dX6_setReading_37 rfl ?_
      refine r_pVi3 B (c_X6_readingOf l G Mh md hM ge se ix (by omega) (by omega) (by omega) (by omega) (by omega) (by omega)) ⟨rfl, rfl⟩ ok_X6_readingOf vi_X6_readingOf q_1022 hM.1 rfl (fun _ => rfl) ⟨Nat.le_of_ble_eq_true rfl, Nat.le_of_ble_eq_true rfl, Nat.le_of_ble_eq_true rfl⟩ ⟨Nat.le_of_ble_eq_true rfl, Nat.le_of_ble_eq_true rfl⟩ dX6_setReading_38 ?_
      refine r_vi (y := (s.2.2.1 ge).2.2 se ix) ((hS_Mh.2.2.1 ge (by omega) (by omega)).2.2 se ix (by omega) (by omega) (by omega) (by omega)) ?_
      refine r_istore B (lv' := [(5, .int (iI ((s.2.2.1 ge).2.2 se ix))), (0, .ref md), (1, .int (iI ge)), (2, .int (iI se)), (3, .int (iI ix)), (4, .int (iI v))]) dX6_setReading_41 (by decide) rfl ?_
      refine r_aload_n B 1 dX6_setReading_43 rfl ?_
      refine rg6_s B hM.1 q_892 dX6_setReading_44 ?_
      refine r_iload_n B 2 dX6_setReading_47 rfl ?_
      refine r_iload_n B 3 dX6_setReading_48 rfl ?_
      refine r_iload_n B 4 dX6_setReading_49 rfl ?_
      refine r_pSi3 B (c_X6_placeOf l G Mh  ge se ix ) ⟨rfl, rfl⟩ ok_X6_placeOf q_1027 q_1026 ⟨Nat.le_of_ble_eq_true rfl, Nat.le_of_ble_eq_true rfl, Nat.le_of_ble_eq_true rfl⟩ ⟨Nat.le_of_ble_eq_true rfl, Nat.le_of_ble_eq_true rfl⟩ dX6_setReading_50 ?_
      refine r_iload B 5 dX6_setReading_53 rfl ?_
      refine r_iastore B dX6_setReading_55 hM.2.1 (by omega) (by omega) ?_
      refine WM.nm (fun M3 eM3 => ?_)
      have hwf : ∀ c : Nat, c ≠ md + 1 → Same Mh M3 c := fun c p => by rw [eM3]; exact Same.sI p
      have hS2_Mw : MdS M3 md (setR s ge se ix v) := by
        refine RowS.w_putG (rd := rdPut (s.2.2.1 ge).2.2 se ix v) hS_Mh hok (i := ge) (by omega) (by omega) (fun t j t0 t1 k0 k1 => ?_) (fun k p q w => by rw [eM3, gI_nk (by omega)])
        have hz := szS_le (s.2.2.1 ge).1 t
        show gI M3 (md + 1) (1 + 95 * ge + 2 + 31 * t + j) = if t = se ∧ j = ix then v else (s.2.2.1 ge).2.2 t j
        by_cases w : t = se ∧ j = ix
        · rw [if_pos w, w.1, w.2, eM3, gI_eq]
        · rw [if_neg w, eM3, gI_nk (fun q => w (by omega))]
          exact (hS_Mh.2.2.1 ge (by omega) (by omega)).2.2 t j t0 t1 k0 k1
      refine r_aload_n B 1 dX6_setReading_56 rfl ?_
      refine r_iload B 0 dX6_setReading_57 rfl ?_
      refine r_Vi1 B (c_X6_ends l G M3 md hM s cn sv (by rw [(hwf md (by omega)).1, (hh.2 md (by omega)).1]; exact hmg.2.1) (by rw [(hwf (md + 2) (by omega)).1, (hh.2 (md + 2) (by omega)).1]; exact hmg.2.2) (by rw [(hwf (md + 3) (by omega)).1]; exact hAs) hbk ((s.2.2.1 ge).2.2 se ix)) ⟨rfl, rfl⟩ ok_X6_ends vi_X6_ends q_976 hM.1 rfl (fun _ => rfl) ⟨Nat.le_of_ble_eq_true rfl, Nat.le_of_ble_eq_true rfl, Nat.le_of_ble_eq_true rfl⟩ ⟨Nat.le_of_ble_eq_true rfl, Nat.le_of_ble_eq_true rfl⟩ dX6_setReading_59 (fun re Me hen => ?_)
      obtain ⟨hev, he6, he3, hesr, hesm, he5⟩ := hen
      rw [hev]
      clear hev
      have hfin := MdG.fin hh.2 hwf hS2_Mw he3 hesr hesm he5
      have ho : oSetR s ge se ix v = (0, (s.2.2.1 ge).2.2 se ix, setR s ge se ix v) := by unfold oSetR; rw [if_neg (by omega), if_neg (by omega)]
      exact r_iret B dX6_setReading_62 ⟨by rw [ho], by rw [ho]; exact he6, by rw [ho, if_pos rfl]; exact hfin.1, hfin.2⟩
    · have q_h2 := inF_0 h2
      refine r_aload_n B 0 dX6_setReading_24 rfl ?_
      refine r_iconst B dX6_setReading_25 ?_
      refine r_Vi1 B (c_X6_fails l G M md hM 2) ⟨rfl, rfl⟩ ok_X6_fails vi_X6_fails q_964 hM.1 rfl (fun _ => rfl) ⟨Nat.le_of_ble_eq_true rfl, Nat.le_of_ble_eq_true rfl, Nat.le_of_ble_eq_true rfl⟩ ⟨Nat.le_of_ble_eq_true rfl, Nat.le_of_ble_eq_true rfl⟩ dX6_setReading_26 (fun rf Mf hff => ?_)
      obtain ⟨hf1, hf2⟩ := hff
      rw [hf1, hf2]
      clear hf1 hf2
      have ho : oSetR s ge se ix v = (2, 0, s) := by unfold oSetR; rw [if_neg (by omega), if_pos (by omega)]
      exact r_iret B dX6_setReading_29 ⟨by rw [ho], by rw [ho]; exact gI_eq, by rw [ho, if_neg (show ¬ (2 : Int) = 0 by decide)]; exact (MdG.fail hmg).1, (MdG.fail hmg).2⟩
  · have q_h1 := bF_0 h1
    refine r_aload_n B 0 dX6_setReading_10 rfl ?_
    refine r_iconst B dX6_setReading_11 ?_
    refine r_Vi1 B (c_X6_fails l G M md hM 1) ⟨rfl, rfl⟩ ok_X6_fails vi_X6_fails q_964 hM.1 rfl (fun _ => rfl) ⟨Nat.le_of_ble_eq_true rfl, Nat.le_of_ble_eq_true rfl, Nat.le_of_ble_eq_true rfl⟩ ⟨Nat.le_of_ble_eq_true rfl, Nat.le_of_ble_eq_true rfl⟩ dX6_setReading_12 (fun rf Mf hff => ?_)
    obtain ⟨hf1, hf2⟩ := hff
    rw [hf1, hf2]
    clear hf1 hf2
    have ho : oSetR s ge se ix v = (1, 0, s) := by unfold oSetR; rw [if_pos (by omega)]
    exact r_iret B dX6_setReading_15 ⟨by rw [ho], by rw [ho]; exact gI_eq, by rw [ho, if_neg (show ¬ (1 : Int) = 0 by decide)]; exact (MdG.fail hmg).1, (MdG.fail hmg).2⟩

set_option maxRecDepth 100000 in
set_option maxHeartbeats 4000000 in
theorem c_X6_undo (l : Launch) (G : Gs) (M : Mem) (md : Nat) (hM : IsMd G md) (s : Ast) (cn : Int) (sv : Int → Ast) (hmg : MdG M md (s, cn, sv)) (hbk : GgOk (s, cn, sv)) : Ct l G yX6_undo cX6_undo 2 (some .int) rm_X6_undo [.ref md] M (PoI G (fun r M' => (1 ≤ cn → r = cn - 1 ∧ gI M' md 6 = 0 ∧ MdG M' md (sv (cn - 1), cn - 1, sv)) ∧ (¬ 1 ≤ cn → r = 0 ∧ gI M' md 6 = 1 ∧ MdG M' md (s, cn, sv)) ∧ MdF M M' md)) 0 0 := by
  refine Ct.of (by decide +kernel) (Nat.le_of_ble_eq_true rfl) [(0, .ref md)] rfl ?_
  intro X B
  have hS_M : MdS M md s := hmg.1
  have hok : StateOk s := hbk.1
  have hF_M : FL M M md := FL.rf
  have hc0 : 0 ≤ cn := hbk.2.1
  have hc4 : cn ≤ 4 := hbk.2.2.1
  have hs1 := hok.1
  have hs2 := hok.2.1
  have hs3 := hok.2.2.1
  have hs4 := hok.2.2.2.1
  refine r_aload_n B 0 dX6_undo_0 rfl ?_
  refine rg6_pasts B hM.1 q_895 dX6_undo_1 ?_
  refine r_vi (y := cn) hmg.2.1 ?_
  refine r_if_ne B dX6_undo_4 rfl ⟨by omega, by omega⟩ (fun h1 => ?_) (fun h1 => ?_)
  · refine r_aload_n B 0 dX6_undo_13 rfl ?_
    refine r_dup B dX6_undo_14 rfl ?_
    refine rg6_pasts B hM.1 q_895 dX6_undo_15 ?_
    refine r_vi (y := cn) hmg.2.1 ?_
    refine r_iconst B dX6_undo_18 ?_
    refine r_isub B dX6_undo_19 ?_
    refine rp6_pasts B hM.1 q_895 dX6_undo_20 ?_
    refine WM.nm (fun M2 eM2 => ?_)
    refine r_iconst B dX6_undo_23 ?_
    refine r_istore_n B (lv' := [(1, .int (iI 0)), (0, .ref md)]) dX6_undo_24 (by decide) rfl ?_
    have lp3 : ∀ (nlp3 : Nat) (k : Int) (Mc : Mem) (k0 : 0 ≤ k) (k1 : k ≤ 722) (h3 : gI Mc md 3 = cn - 1) (h5 : gI Mc md 5 = gI M md 5) (hr : ∀ q : Int, 0 ≤ q → q < k → gI Mc (md + 1) q = gI M (md + 2) (722 * (cn - 1) + q)) (hf : ∀ d : Nat, d ≠ md → d ≠ md + 1 → Same M Mc d), (722 - k).toNat < nlp3 → WM G X 0 0 (bM X (PoI G (fun r M' => (1 ≤ cn → r = cn - 1 ∧ gI M' md 6 = 0 ∧ MdG M' md (sv (cn - 1), cn - 1, sv)) ∧ (¬ 1 ≤ cn → r = 0 ∧ gI M' md 6 = 1 ∧ MdG M' md (s, cn, sv)) ∧ MdF M M' md)) 0 0 G) Mc 25 [(0, .ref md), (1, .int (iI k))] [] := by
      intro nlp3
      induction nlp3 with
      | zero => intro k Mc k0 k1 h3 h5 hr hf hm; omega
      | succ nlp3 ihlp3 =>
        intro k Mc k0 k1 h3 h5 hr hf hm
        refine r_iload_n B 1 dX6_undo_25 rfl ?_
        refine r_sipush B (z := 722) dX6_undo_26 (by decide) ?_
        refine r_icmp_ge B dX6_undo_29 rfl ⟨by omega, by omega⟩ ⟨by omega, by omega⟩ (fun h4 => ?_) (fun h4 => ?_)
        · refine r_aload_n B 0 dX6_undo_59 rfl ?_
          refine r_aload_n B 0 dX6_undo_60 rfl ?_
          refine rg6_pasts B hM.1 q_895 dX6_undo_61 ?_
          refine r_vi (y := cn - 1) h3 ?_
          refine r_Vi1 B (c_X6_tells l G Mc md hM (cn - 1)) ⟨rfl, rfl⟩ ok_X6_tells vi_X6_tells q_980 hM.1 rfl (fun _ => rfl) ⟨Nat.le_of_ble_eq_true rfl, Nat.le_of_ble_eq_true rfl, Nat.le_of_ble_eq_true rfl⟩ ⟨Nat.le_of_ble_eq_true rfl, Nat.le_of_ble_eq_true rfl⟩ dX6_undo_64 (fun rf Mf hff => ?_)
          obtain ⟨hf1, hf2⟩ := hff
          rw [hf1, hf2]
          clear hf1 hf2
          have hrow : MdS (sI Mc md 6 0) md (sv (cn - 1)) := by
            unfold MdS
            rw [(Same.sI (by omega)).1]
            exact (hmg.2.2 (cn - 1) (by omega) (by show cn - 1 < cn; omega)).congr (hbk.2.2.2 (cn - 1) (by omega) (by show cn - 1 < cn; omega)) (fun q q0 q1 => by rw [hr q q0 (by omega)])
          have hsr : SvR (gI (sI Mc md 6 0) (md + 2)) (cn - 1) sv := by rw [(Same.sI (show md + 2 ≠ md by omega)).1, (hf (md + 2) (by omega) (by omega)).1]; exact fun i p q => hmg.2.2 i p (by show i < cn; omega)
          exact r_iret B dX6_undo_67 ⟨fun _ => ⟨rfl, gI_eq, hrow, by rw [gI_nk (by omega)]; exact h3, hsr⟩, fun w => absurd (by omega) w, by rw [(Same.sI (show md + 4 ≠ md by omega)).1, (hf (md + 4) (by omega) (by omega)).1], by rw [gI_nk (by omega)]; exact h5, fun c p => (hf c (by omega) (by omega)).tr (Same.sI (by omega))⟩
        · refine r_aload_n B 0 dX6_undo_32 rfl ?_
          refine rg6_s B hM.1 q_892 dX6_undo_33 ?_
          refine r_iload_n B 1 dX6_undo_36 rfl ?_
          refine r_aload_n B 0 dX6_undo_37 rfl ?_
          refine rg6_past B hM.1 q_893 dX6_undo_38 ?_
          refine r_sipush B (z := 722) dX6_undo_41 (by decide) ?_
          refine r_aload_n B 0 dX6_undo_44 rfl ?_
          refine rg6_pasts B hM.1 q_895 dX6_undo_45 ?_
          refine r_vi (y := cn - 1) h3 ?_
          refine r_imul B dX6_undo_48 ?_
          refine r_iload_n B 1 dX6_undo_49 rfl ?_
          refine r_iadd B dX6_undo_50 ?_
          refine r_iaload B dX6_undo_51 hM.2.2.1 (by omega) (by omega) ?_
          refine r_vi (y := gI M (md + 2) ((722 * (cn - 1)) + k)) (by rw [(hf (md + 2) (by omega) (by omega)).1]) ?_
          refine r_iastore B dX6_undo_52 hM.2.1 (by omega) (by omega) ?_
          refine WM.nm (fun M5 eM5 => ?_)
          refine r_iinc B (lv' := [(1, .int (iI (k + 1))), (0, .ref md)]) dX6_undo_53 (j := 1) rfl (by decide) rfl ?_
          refine r_goto B dX6_undo_56 rfl ?_
          refine WM.pick [1, 0] rfl ?_
          refine ihlp3 (k + 1) M5 (by omega) (by omega) (by rw [eM5, gI_ne (by omega)]; exact h3) (by rw [eM5, gI_ne (by omega)]; exact h5) ?_ (fun d p q => (hf d p q).tr (by rw [eM5]; exact Same.sI q)) (by omega)
          · intro q q0 q1
            rw [eM5]
            by_cases w : q = k
            · rw [w, gI_eq]
            · rw [gI_nk w]; exact hr q q0 (by omega)
    refine WM.pick [1, 0] rfl ?_
    exact lp3 _ 0 M2 (by omega) (by omega) (by rw [eM2]; exact gI_eq) (by rw [eM2, gI_nk (by omega)]) (fun q q0 q1 => by omega) (fun d p q => by rw [eM2]; exact Same.sI p) (Nat.lt_succ_self _)
  · refine r_aload_n B 0 dX6_undo_7 rfl ?_
    refine r_iconst B dX6_undo_8 ?_
    refine r_Vi1 B (c_X6_fails l G M md hM 1) ⟨rfl, rfl⟩ ok_X6_fails vi_X6_fails q_964 hM.1 rfl (fun _ => rfl) ⟨Nat.le_of_ble_eq_true rfl, Nat.le_of_ble_eq_true rfl, Nat.le_of_ble_eq_true rfl⟩ ⟨Nat.le_of_ble_eq_true rfl, Nat.le_of_ble_eq_true rfl⟩ dX6_undo_9 (fun rf Mf hff => ?_)
    obtain ⟨hf1, hf2⟩ := hff
    rw [hf1, hf2]
    clear hf1 hf2
    exact r_iret B dX6_undo_12 ⟨fun w => absurd w (by omega), fun _ => ⟨rfl, gI_eq, (MdG.fail hmg).1⟩, (MdG.fail hmg).2⟩

set_option maxRecDepth 100000 in
set_option maxHeartbeats 4000000 in
theorem c_X6_clearText (l : Launch) (G : Gs) (M : Mem) (md : Nat) (hM : IsMd G md) (len : Int) (b : Int → Int) (h5 : gI M md 5 = len) (h4 : ∀ i : Int, 0 ≤ i → i < len → gI M (md + 4) i = b i) (htk : TxOk len b) : Ct l G yX6_clearText cX6_clearText 2 (some .int) rm_X6_clearText [.ref md] M (PoI G (fun r M' => r = len ∧ M' = sI (sI M md 5 0) md 6 0)) 0 0 := by
  refine Ct.of (by decide +kernel) (Nat.le_of_ble_eq_true rfl) [(0, .ref md)] rfl ?_
  intro X B
  refine r_aload_n B 0 dX6_clearText_0 rfl ?_
  refine rg6_typed B hM.1 q_897 dX6_clearText_1 ?_
  refine r_vi (y := len) h5 ?_
  refine r_istore_n B (lv' := [(1, .int (iI len)), (0, .ref md)]) dX6_clearText_4 (by decide) rfl ?_
  refine r_aload_n B 1 dX6_clearText_5 rfl ?_
  refine r_iconst B dX6_clearText_6 ?_
  refine rp6_typed B hM.1 q_897 dX6_clearText_7 ?_
  refine WM.nm (fun M1 eM1 => ?_)
  refine r_aload_n B 1 dX6_clearText_10 rfl ?_
  refine r_iload_n B 0 dX6_clearText_11 rfl ?_
  refine r_Vi1 B (c_X6_tells l G M1 md hM len) ⟨rfl, rfl⟩ ok_X6_tells vi_X6_tells q_980 hM.1 rfl (fun _ => rfl) ⟨Nat.le_of_ble_eq_true rfl, Nat.le_of_ble_eq_true rfl, Nat.le_of_ble_eq_true rfl⟩ ⟨Nat.le_of_ble_eq_true rfl, Nat.le_of_ble_eq_true rfl⟩ dX6_clearText_12 (fun rf Mf hff => ?_)
  obtain ⟨hf1, hf2⟩ := hff
  rw [hf1, hf2]
  clear hf1 hf2
  exact r_iret B dX6_clearText_15 ⟨rfl, by rw [eM1]⟩

set_option maxRecDepth 100000 in
set_option maxHeartbeats 4000000 in
theorem c_X6_append (l : Launch) (G : Gs) (M : Mem) (md : Nat) (hM : IsMd G md) (len : Int) (b : Int → Int) (h5 : gI M md 5 = len) (h4 : ∀ i : Int, 0 ≤ i → i < len → gI M (md + 4) i = b i) (htk : TxOk len b) (v : Int) (hv : In32 v) : Ct l G yX6_append cX6_append 2 (some .int) rm_X6_append [.ref md, .int (iI v)] M (PoI G (fun r M' => r = (oApp len v).2 ∧ (((oApp len v).1 = 0 ∧ M' = sI (sI (sI M (md + 4) len v) md 5 (len + 1)) md 6 0) ∨ ((oApp len v).1 ≠ 0 ∧ M' = sI M md 6 (oApp len v).1)))) 0 0 := by
  refine Ct.of (by decide +kernel) (Nat.le_of_ble_eq_true rfl) [(0, .ref md), (1, .int (iI v))] rfl ?_
  intro X B
  obtain ⟨hv1, hv2⟩ := hv
  have ht0 := htk.1
  have ht1 := htk.2.1
  have i1 := inF_in v 0 127
  refine r_iload_n B 1 dX6_append_0 rfl ?_
  refine r_i2l B dX6_append_1 ⟨by omega, by omega⟩ ?_
  refine r_lconst0 B dX6_append_2 ?_
  refine r_ldc2 B (z := 127) dX6_append_3 q_1280 (by decide) ?_
  refine r_pSz3 B (c_X6_in l G M  v 0 127 ⟨by omega, by omega⟩ ⟨by omega, by omega⟩ ⟨by omega, by omega⟩) ⟨rfl, rfl⟩ ok_X6_in q_961 q_960 ⟨Nat.le_of_ble_eq_true rfl, Nat.le_of_ble_eq_true rfl, Nat.le_of_ble_eq_true rfl⟩ ⟨Nat.le_of_ble_eq_true rfl, Nat.le_of_ble_eq_true rfl⟩ dX6_append_6 ?_
  refine r_if_ne B dX6_append_9 rfl ⟨by omega, by omega⟩ (fun h1 => ?_) (fun h1 => ?_)
  · have q_h1 := inF_1 h1
    refine r_aload_n B 0 dX6_append_18 rfl ?_
    refine rg6_typed B hM.1 q_897 dX6_append_19 ?_
    refine r_vi (y := len) h5 ?_
    refine r_sipush B (z := 160) dX6_append_22 (by decide) ?_
    refine r_icmp_ne B dX6_append_25 rfl ⟨by omega, by omega⟩ ⟨by omega, by omega⟩ (fun h2 => ?_) (fun h2 => ?_)
    · refine r_aload_n B 0 dX6_append_34 rfl ?_
      refine rg6_text B hM.1 q_896 dX6_append_35 ?_
      refine r_aload_n B 0 dX6_append_38 rfl ?_
      refine rg6_typed B hM.1 q_897 dX6_append_39 ?_
      refine r_vi (y := len) h5 ?_
      refine r_iload_n B 1 dX6_append_42 rfl ?_
      refine r_iastore B dX6_append_43 hM.2.2.2.2.1 (by omega) (by omega) ?_
      refine WM.nm (fun M3 eM3 => ?_)
      refine r_aload_n B 0 dX6_append_44 rfl ?_
      refine r_dup B dX6_append_45 rfl ?_
      refine rg6_typed B hM.1 q_897 dX6_append_46 ?_
      refine r_vi (y := len) (by rw [eM3, gI_ne (by omega)]; exact h5) ?_
      refine r_iconst B dX6_append_49 ?_
      refine r_iadd B dX6_append_50 ?_
      refine rp6_typed B hM.1 q_897 dX6_append_51 ?_
      refine WM.nm (fun M4 eM4 => ?_)
      refine r_aload_n B 0 dX6_append_54 rfl ?_
      refine r_aload_n B 0 dX6_append_55 rfl ?_
      refine rg6_typed B hM.1 q_897 dX6_append_56 ?_
      refine r_vi (y := len + 1) (by rw [eM4, gI_eq]) ?_
      refine r_Vi1 B (c_X6_tells l G M4 md hM (len + 1)) ⟨rfl, rfl⟩ ok_X6_tells vi_X6_tells q_980 hM.1 rfl (fun _ => rfl) ⟨Nat.le_of_ble_eq_true rfl, Nat.le_of_ble_eq_true rfl, Nat.le_of_ble_eq_true rfl⟩ ⟨Nat.le_of_ble_eq_true rfl, Nat.le_of_ble_eq_true rfl⟩ dX6_append_59 (fun rf Mf hff => ?_)
      obtain ⟨hf1, hf2⟩ := hff
      rw [hf1, hf2]
      clear hf1 hf2
      have ho : oApp len v = (0, len + 1) := by unfold oApp; rw [if_neg (by omega), if_neg (by omega)]
      exact r_iret B dX6_append_62 ⟨by rw [ho], Or.inl ⟨by rw [ho], by rw [eM4, eM3]⟩⟩
    · refine r_aload_n B 0 dX6_append_28 rfl ?_
      refine r_iconst B dX6_append_29 ?_
      refine r_Vi1 B (c_X6_fails l G M md hM 2) ⟨rfl, rfl⟩ ok_X6_fails vi_X6_fails q_964 hM.1 rfl (fun _ => rfl) ⟨Nat.le_of_ble_eq_true rfl, Nat.le_of_ble_eq_true rfl, Nat.le_of_ble_eq_true rfl⟩ ⟨Nat.le_of_ble_eq_true rfl, Nat.le_of_ble_eq_true rfl⟩ dX6_append_30 (fun rf Mf hff => ?_)
      obtain ⟨hf1, hf2⟩ := hff
      rw [hf1, hf2]
      clear hf1 hf2
      have ho : oApp len v = (2, 0) := by unfold oApp; rw [if_neg (by omega), if_pos (by omega)]
      exact r_iret B dX6_append_33 ⟨by rw [ho], Or.inr ⟨by rw [ho]; decide, by rw [ho]⟩⟩
  · have q_h1 := inF_0 h1
    refine r_aload_n B 0 dX6_append_12 rfl ?_
    refine r_iconst B dX6_append_13 ?_
    refine r_Vi1 B (c_X6_fails l G M md hM 1) ⟨rfl, rfl⟩ ok_X6_fails vi_X6_fails q_964 hM.1 rfl (fun _ => rfl) ⟨Nat.le_of_ble_eq_true rfl, Nat.le_of_ble_eq_true rfl, Nat.le_of_ble_eq_true rfl⟩ ⟨Nat.le_of_ble_eq_true rfl, Nat.le_of_ble_eq_true rfl⟩ dX6_append_14 (fun rf Mf hff => ?_)
    obtain ⟨hf1, hf2⟩ := hff
    rw [hf1, hf2]
    clear hf1 hf2
    have ho : oApp len v = (1, 0) := by unfold oApp; rw [if_pos (by omega)]
    exact r_iret B dX6_append_17 ⟨by rw [ho], Or.inr ⟨by rw [ho]; decide, by rw [ho]⟩⟩
