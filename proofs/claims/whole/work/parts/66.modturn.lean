set_option maxRecDepth 100000 in
set_option maxHeartbeats 4000000 in
theorem c_X6_turn (l : Launch) (G : Gs) (M : Mem) (md : Nat) (hM : IsMd G md) (s : Ast) (cn : Int) (sv : Int → Ast) (hmg : MdG M md (s, cn, sv)) (hbk : GgOk (s, cn, sv)) (ge k : Int) (hge : In32 ge) (hk : In32 k) : Ct l G yX6_turn cX6_turn 6 (some .int) rm_X6_turn [.ref md, .int (iI ge), .int (iI k)] M (PoI G (fun r M' => r = (oTurn s ge k).2.1 ∧ gI M' md 6 = (oTurn s ge k).1 ∧ MdG M' md (if (oTurn s ge k).1 = 0 then ((oTurn s ge k).2.2, (savG (s, cn, sv)).2) else (s, cn, sv)) ∧ MdF M M' md)) 0 0 := by
  refine Ct.of (by decide +kernel) (Nat.le_of_ble_eq_true rfl) [(0, .ref md), (1, .int (iI ge)), (2, .int (iI k))] rfl ?_
  intro X B
  have hS_M : MdS M md s := hmg.1
  have hok : StateOk s := hbk.1
  have hF_M : FL M M md := FL.rf
  have hc0 : 0 ≤ cn := hbk.2.1
  have hc4 : cn ≤ 4 := hbk.2.2.1
  have hs1 := hok.1
  have hs2 := hok.2.1
  have hs3 := hok.2.2.1
  have hs4 := hok.2.2.2.1
  obtain ⟨hge1, hge2⟩ := hge
  obtain ⟨hk1, hk2⟩ := hk
  have i1 := inF_in ge 0 (s.1 - 1)
  refine r_aload_n B 0 dX6_turn_0 rfl ?_
  refine r_iload_n B 1 dX6_turn_1 rfl ?_
  refine r_pVz1 B (c_X6_isGear l G M md hM s hS_M hok ge ⟨by omega, by omega⟩) ⟨rfl, rfl⟩ ok_X6_isGear vi_X6_isGear q_988 hM.1 rfl (fun _ => rfl) ⟨Nat.le_of_ble_eq_true rfl, Nat.le_of_ble_eq_true rfl, Nat.le_of_ble_eq_true rfl⟩ ⟨Nat.le_of_ble_eq_true rfl, Nat.le_of_ble_eq_true rfl⟩ dX6_turn_2 ?_
  refine r_if_eq B dX6_turn_5 rfl ⟨by omega, by omega⟩ (fun h1 => ?_) (fun h1 => ?_)
  · have q_h1 := inF_0 h1
    refine r_aload_n B 0 dX6_turn_25 rfl ?_
    refine r_iconst B dX6_turn_26 ?_
    refine r_Vi1 B (c_X6_fails l G M md hM 1) ⟨rfl, rfl⟩ ok_X6_fails vi_X6_fails q_964 hM.1 rfl (fun _ => rfl) ⟨Nat.le_of_ble_eq_true rfl, Nat.le_of_ble_eq_true rfl, Nat.le_of_ble_eq_true rfl⟩ ⟨Nat.le_of_ble_eq_true rfl, Nat.le_of_ble_eq_true rfl⟩ dX6_turn_27 (fun rf Mf hff => ?_)
    obtain ⟨hf1, hf2⟩ := hff
    rw [hf1, hf2]
    clear hf1 hf2
    have ho : oTurn s ge k = (1, 0, s) := by unfold oTurn; rw [if_pos (by omega)]
    exact r_iret B dX6_turn_30 ⟨by rw [ho], by rw [ho]; exact gI_eq, by rw [ho, if_neg (show ¬ (1 : Int) = 0 by decide)]; exact (MdG.fail hmg).1, (MdG.fail hmg).2⟩
  · have q_h1 := inF_1 h1
    have hgk := hok.2.2.2.2.1 ge (by omega) (by omega)
    obtain ⟨hgk1, hgk2, hgk3, hgk4, hgk5⟩ := id hgk
    have i2 := inF_in k 0 ((s.2.2.1 ge).1 - 1)
    refine r_iload_n B 2 dX6_turn_8 rfl ?_
    refine r_i2l B dX6_turn_9 ⟨by omega, by omega⟩ ?_
    refine r_lconst0 B dX6_turn_10 ?_
    refine r_aload_n B 0 dX6_turn_11 rfl ?_
    refine r_iload_n B 1 dX6_turn_12 rfl ?_
    refine r_pVi1 B (c_X6_teeth l G M md hM ge (by omega) (by omega)) ⟨rfl, rfl⟩ ok_X6_teeth vi_X6_teeth q_1013 hM.1 rfl (fun _ => rfl) ⟨Nat.le_of_ble_eq_true rfl, Nat.le_of_ble_eq_true rfl, Nat.le_of_ble_eq_true rfl⟩ ⟨Nat.le_of_ble_eq_true rfl, Nat.le_of_ble_eq_true rfl⟩ dX6_turn_13 ?_
    refine r_vi (y := (s.2.2.1 ge).1) (hS_M.2.2.1 ge (by omega) (by omega)).1 ?_
    refine r_iconst B dX6_turn_16 ?_
    refine r_isub B dX6_turn_17 ?_
    refine r_i2l B dX6_turn_18 ⟨by omega, by omega⟩ ?_
    refine r_pSz3 B (c_X6_in l G M  k 0 (((s.2.2.1 ge).1) - 1) ⟨by omega, by omega⟩ ⟨by omega, by omega⟩ ⟨by omega, by omega⟩) ⟨rfl, rfl⟩ ok_X6_in q_961 q_960 ⟨Nat.le_of_ble_eq_true rfl, Nat.le_of_ble_eq_true rfl, Nat.le_of_ble_eq_true rfl⟩ ⟨Nat.le_of_ble_eq_true rfl, Nat.le_of_ble_eq_true rfl⟩ dX6_turn_19 ?_
    refine r_if_ne B dX6_turn_22 rfl ⟨by omega, by omega⟩ (fun h2 => ?_) (fun h2 => ?_)
    · have q_h2 := inF_1 h2
      have hs0 : szS (s.2.2.1 ge).1 0 = (s.2.2.1 ge).1 + 1 := by unfold szS; rw [if_neg (by omega)]
      have hs1x : szS (s.2.2.1 ge).1 1 = (s.2.2.1 ge).1 + 1 := by unfold szS; rw [if_neg (by omega)]
      have hs2x : szS (s.2.2.1 ge).1 2 = (s.2.2.1 ge).1 := szS_2
      refine r_aload_n B 0 dX6_turn_31 rfl ?_
      refine r_Vv0 B (c_X6_hold l G M md hM) ⟨rfl, rfl⟩ ok_X6_hold vi_X6_hold q_968 hM.1 rfl (fun _ => rfl) ⟨Nat.le_of_ble_eq_true rfl, Nat.le_of_ble_eq_true rfl, Nat.le_of_ble_eq_true rfl⟩ ⟨Nat.le_of_ble_eq_true rfl, Nat.le_of_ble_eq_true rfl⟩ dX6_turn_32 (fun Mh hh => ?_)
      have hS_Mh : MdS Mh md s := by unfold MdS; rw [(hh.2 (md + 1) (by omega)).1]; exact hS_M
      have hAs : RowS (gI Mh (md + 3)) s := hS_M.congr hok (fun k p q => hh.1 k p q)
      refine r_aload_n B 0 dX6_turn_35 rfl ?_
      refine r_iload_n B 1 dX6_turn_36 rfl ?_
      refine r_iconst B dX6_turn_37 ?_
      refine r_iload_n B 2 dX6_turn_38 rfl ?_
      refine r_Vz3 B (c_X6_goes l G Mh md hM s hok ge 0 k (by omega) (by omega) (by omega) (by omega) (by omega) (by omega) (hS_Mh.2.2.1 ge (by omega) (by omega)).1 hAs) ⟨rfl, rfl⟩ ok_X6_goes vi_X6_goes q_1046 hM.1 rfl (fun _ => rfl) ⟨Nat.le_of_ble_eq_true rfl, Nat.le_of_ble_eq_true rfl, Nat.le_of_ble_eq_true rfl⟩ ⟨Nat.le_of_ble_eq_true rfl, Nat.le_of_ble_eq_true rfl⟩ dX6_turn_39 (fun g0 G0 hg0 => ?_)
      obtain ⟨hg0, hz0, hu0, hf0⟩ := hg0
      have g001 : 0 ≤ g0 ∧ g0 ≤ 1 := by rcases hg0 with w | w <;> omega
      refine r_istore_n B (lv' := [(3, .int (iI g0)), (0, .ref md), (1, .int (iI ge)), (2, .int (iI k))]) dX6_turn_42 (by decide) rfl ?_
      refine r_aload_n B 1 dX6_turn_43 rfl ?_
      refine r_iload_n B 2 dX6_turn_44 rfl ?_
      refine r_iconst B dX6_turn_45 ?_
      refine r_iload_n B 3 dX6_turn_46 rfl ?_
      refine r_Vz3 B (c_X6_goes l G G0 md hM s hok ge 1 k (by omega) (by omega) (by omega) (by omega) (by omega) (by omega) (by rw [hu0 _ (by omega)]; exact (hS_Mh.2.2.1 ge (by omega) (by omega)).1) (by rw [(hf0 (md + 3) (by omega)).1]; exact hAs)) ⟨rfl, rfl⟩ ok_X6_goes vi_X6_goes q_1046 hM.1 rfl (fun _ => rfl) ⟨Nat.le_of_ble_eq_true rfl, Nat.le_of_ble_eq_true rfl, Nat.le_of_ble_eq_true rfl⟩ ⟨Nat.le_of_ble_eq_true rfl, Nat.le_of_ble_eq_true rfl⟩ dX6_turn_47 (fun g1 G1 hg1 => ?_)
      obtain ⟨hg1, hz1, hu1, hf1⟩ := hg1
      have g101 : 0 ≤ g1 ∧ g1 ≤ 1 := by rcases hg1 with w | w <;> omega
      refine r_istore B (lv' := [(4, .int (iI g1)), (3, .int (iI g0)), (0, .ref md), (1, .int (iI ge)), (2, .int (iI k))]) dX6_turn_50 (by decide) rfl ?_
      refine r_aload_n B 2 dX6_turn_52 rfl ?_
      refine r_iload_n B 3 dX6_turn_53 rfl ?_
      refine r_iconst B dX6_turn_54 ?_
      refine r_iload_n B 4 dX6_turn_55 rfl ?_
      refine r_Vz3 B (c_X6_goes l G G1 md hM s hok ge 2 k (by omega) (by omega) (by omega) (by omega) (by omega) (by omega) (by rw [hu1 _ (by omega), hu0 _ (by omega)]; exact (hS_Mh.2.2.1 ge (by omega) (by omega)).1) (by rw [(hf1 (md + 3) (by omega)).1, (hf0 (md + 3) (by omega)).1]; exact hAs)) ⟨rfl, rfl⟩ ok_X6_goes vi_X6_goes q_1046 hM.1 rfl (fun _ => rfl) ⟨Nat.le_of_ble_eq_true rfl, Nat.le_of_ble_eq_true rfl, Nat.le_of_ble_eq_true rfl⟩ ⟨Nat.le_of_ble_eq_true rfl, Nat.le_of_ble_eq_true rfl⟩ dX6_turn_56 (fun g2 G2 hg2 => ?_)
      obtain ⟨hg2, hz2, hu2, hf2⟩ := hg2
      have g201 : 0 ≤ g2 ∧ g2 ≤ 1 := by rcases hg2 with w | w <;> omega
      refine r_istore B (lv' := [(5, .int (iI g2)), (4, .int (iI g1)), (3, .int (iI g0)), (0, .ref md), (1, .int (iI ge)), (2, .int (iI k))]) dX6_turn_59 (by decide) rfl ?_
      refine r_iload_n B 2 dX6_turn_61 rfl ?_
      refine r_if_eq B dX6_turn_62 rfl ⟨by omega, by omega⟩ (fun h3 => ?_) (fun h3 => ?_)
      · refine r_aload_n B 3 dX6_turn_75 rfl ?_
        refine r_Vv0 B (c_X6_restore l G G2 md hM) ⟨rfl, rfl⟩ ok_X6_restore vi_X6_restore q_1050 hM.1 rfl (fun _ => rfl) ⟨Nat.le_of_ble_eq_true rfl, Nat.le_of_ble_eq_true rfl, Nat.le_of_ble_eq_true rfl⟩ ⟨Nat.le_of_ble_eq_true rfl, Nat.le_of_ble_eq_true rfl⟩ dX6_turn_76 (fun Mr hrs => ?_)
        have hnr : ¬ RdIn (s.2.2.1 ge).1 (trF (s.2.2.1 ge).1 (s.2.2.1 ge).2.2 k) := fun q => by rcases hg0 with w | w; omega; exact w.2 (fun x a b => q 0 x (by omega) (by omega) a b)
        have hs2 : ∀ c : Nat, c ≠ md + 1 → Same Mh G2 c := fun c p => ((hf0 c p).tr (hf1 c p)).tr (hf2 c p)
        have hrow : ∀ q : Int, 0 ≤ q → q < 722 → gI Mr (md + 1) q = gI M (md + 1) q := fun q q0 q1 => by rw [hrs.1 q q0 q1, (hs2 (md + 3) (by omega)).1, hh.1 q q0 q1]
        have hsm : ∀ c : Nat, c ≠ md + 1 → c ≠ md + 3 → Same M Mr c := fun c p q => ((hh.2 c q).tr (hs2 c p)).tr (hrs.2 c p)
        have hmr : MdG Mr md (s, cn, sv) := ⟨hS_M.congr hok hrow, by rw [(hsm md (by omega) (by omega)).1]; exact hmg.2.1, by rw [(hsm (md + 2) (by omega) (by omega)).1]; exact hmg.2.2⟩
        have hfr : MdF M Mr md := ⟨(hsm (md + 4) (by omega) (by omega)).1, by rw [(hsm md (by omega) (by omega)).1], fun c p => hsm c (by omega) (by omega)⟩
        refine r_aload_n B 3 dX6_turn_79 rfl ?_
        refine r_iconst B dX6_turn_80 ?_
        refine r_Vi1 B (c_X6_fails l G Mr md hM 2) ⟨rfl, rfl⟩ ok_X6_fails vi_X6_fails q_964 hM.1 rfl (fun _ => rfl) ⟨Nat.le_of_ble_eq_true rfl, Nat.le_of_ble_eq_true rfl, Nat.le_of_ble_eq_true rfl⟩ ⟨Nat.le_of_ble_eq_true rfl, Nat.le_of_ble_eq_true rfl⟩ dX6_turn_81 (fun rf Mf hff => ?_)
        obtain ⟨hf1, hf2⟩ := hff
        rw [hf1, hf2]
        clear hf1 hf2
        have ho : oTurn s ge k = (2, 0, s) := by unfold oTurn; rw [if_neg (by omega), if_pos hnr]
        exact r_iret B dX6_turn_84 ⟨by rw [ho], by rw [ho]; exact gI_eq, by rw [ho, if_neg (show ¬ (2 : Int) = 0 by decide)]; exact (MdG.fail hmr).1, hfr.tr (MdG.fail hmr).2⟩
      · refine r_iload B 1 dX6_turn_65 rfl ?_
        refine r_if_eq B dX6_turn_67 rfl ⟨by omega, by omega⟩ (fun h4 => ?_) (fun h4 => ?_)
        · refine r_aload_n B 3 dX6_turn_75 rfl ?_
          refine r_Vv0 B (c_X6_restore l G G2 md hM) ⟨rfl, rfl⟩ ok_X6_restore vi_X6_restore q_1050 hM.1 rfl (fun _ => rfl) ⟨Nat.le_of_ble_eq_true rfl, Nat.le_of_ble_eq_true rfl, Nat.le_of_ble_eq_true rfl⟩ ⟨Nat.le_of_ble_eq_true rfl, Nat.le_of_ble_eq_true rfl⟩ dX6_turn_76 (fun Mr hrs => ?_)
          have hnr : ¬ RdIn (s.2.2.1 ge).1 (trF (s.2.2.1 ge).1 (s.2.2.1 ge).2.2 k) := fun q => by rcases hg1 with w | w; omega; exact w.2 (fun x a b => q 1 x (by omega) (by omega) a b)
          have hs2 : ∀ c : Nat, c ≠ md + 1 → Same Mh G2 c := fun c p => ((hf0 c p).tr (hf1 c p)).tr (hf2 c p)
          have hrow : ∀ q : Int, 0 ≤ q → q < 722 → gI Mr (md + 1) q = gI M (md + 1) q := fun q q0 q1 => by rw [hrs.1 q q0 q1, (hs2 (md + 3) (by omega)).1, hh.1 q q0 q1]
          have hsm : ∀ c : Nat, c ≠ md + 1 → c ≠ md + 3 → Same M Mr c := fun c p q => ((hh.2 c q).tr (hs2 c p)).tr (hrs.2 c p)
          have hmr : MdG Mr md (s, cn, sv) := ⟨hS_M.congr hok hrow, by rw [(hsm md (by omega) (by omega)).1]; exact hmg.2.1, by rw [(hsm (md + 2) (by omega) (by omega)).1]; exact hmg.2.2⟩
          have hfr : MdF M Mr md := ⟨(hsm (md + 4) (by omega) (by omega)).1, by rw [(hsm md (by omega) (by omega)).1], fun c p => hsm c (by omega) (by omega)⟩
          refine r_aload_n B 3 dX6_turn_79 rfl ?_
          refine r_iconst B dX6_turn_80 ?_
          refine r_Vi1 B (c_X6_fails l G Mr md hM 2) ⟨rfl, rfl⟩ ok_X6_fails vi_X6_fails q_964 hM.1 rfl (fun _ => rfl) ⟨Nat.le_of_ble_eq_true rfl, Nat.le_of_ble_eq_true rfl, Nat.le_of_ble_eq_true rfl⟩ ⟨Nat.le_of_ble_eq_true rfl, Nat.le_of_ble_eq_true rfl⟩ dX6_turn_81 (fun rf Mf hff => ?_)
          obtain ⟨hf1, hf2⟩ := hff
          rw [hf1, hf2]
          clear hf1 hf2
          have ho : oTurn s ge k = (2, 0, s) := by unfold oTurn; rw [if_neg (by omega), if_pos hnr]
          exact r_iret B dX6_turn_84 ⟨by rw [ho], by rw [ho]; exact gI_eq, by rw [ho, if_neg (show ¬ (2 : Int) = 0 by decide)]; exact (MdG.fail hmr).1, hfr.tr (MdG.fail hmr).2⟩
        · refine r_iload B 0 dX6_turn_70 rfl ?_
          refine r_if_ne B dX6_turn_72 rfl ⟨by omega, by omega⟩ (fun h5 => ?_) (fun h5 => ?_)
          · have hri : RdIn (s.2.2.1 ge).1 (trF (s.2.2.1 ge).1 (s.2.2.1 ge).2.2 k) := fun t x t0 t1 x0 x1 => by rcases (show t = 0 ∨ t = 1 ∨ t = 2 by omega) with rfl | rfl | rfl; rcases hg0 with w | w; exact w.2 x x0 x1; omega; rcases hg1 with w | w; exact w.2 x x0 x1; omega; rcases hg2 with w | w; exact w.2 x x0 x1; omega
            have hwf : ∀ c : Nat, c ≠ md + 1 → Same Mh G2 c := fun c p => ((hf0 c p).tr (hf1 c p)).tr (hf2 c p)
            have hS2_Mw : MdS G2 md (putG s ge (trF (s.2.2.1 ge).1 (s.2.2.1 ge).2.2 k)) := by
              refine RowS.w_putG hS_Mh hok (i := ge) (by omega) (by omega) (fun t x t0 t1 x0 x1 => ?_) (fun q q0 q1 w => by rw [hu2 _ (by omega), hu1 _ (by omega), hu0 _ (by omega)])
              rcases (show t = 0 ∨ t = 1 ∨ t = 2 by omega) with rfl | rfl | rfl
              · rw [hu2 _ (by omega), hu1 _ (by omega)]; exact hz0 x x0 x1
              · rw [hu2 _ (by omega)]; exact hz1 x x0 x1
              · exact hz2 x x0 x1
            refine r_aload_n B 3 dX6_turn_85 rfl ?_
            refine r_aload_n B 3 dX6_turn_86 rfl ?_
            refine r_iload_n B 4 dX6_turn_87 rfl ?_
            refine r_iconst B dX6_turn_88 ?_
            refine r_iconst B dX6_turn_89 ?_
            refine r_pVi3 B (c_X6_readingOf l G G2 md hM ge 0 0 (by omega) (by omega) (by omega) (by omega) (by omega) (by omega)) ⟨rfl, rfl⟩ ok_X6_readingOf vi_X6_readingOf q_1022 hM.1 rfl (fun _ => rfl) ⟨Nat.le_of_ble_eq_true rfl, Nat.le_of_ble_eq_true rfl, Nat.le_of_ble_eq_true rfl⟩ ⟨Nat.le_of_ble_eq_true rfl, Nat.le_of_ble_eq_true rfl⟩ dX6_turn_90 ?_
            refine r_vi (y := trF (s.2.2.1 ge).1 (s.2.2.1 ge).2.2 k 0 0) (by rw [hu2 _ (by omega), hu1 _ (by omega)]; exact hz0 0 (by omega) (by omega)) ?_
            refine r_Vi1 B (c_X6_ends l G G2 md hM s cn sv (by rw [(hwf md (by omega)).1, (hh.2 md (by omega)).1]; exact hmg.2.1) (by rw [(hwf (md + 2) (by omega)).1, (hh.2 (md + 2) (by omega)).1]; exact hmg.2.2) (by rw [(hwf (md + 3) (by omega)).1]; exact hAs) hbk (trF (s.2.2.1 ge).1 (s.2.2.1 ge).2.2 k 0 0)) ⟨rfl, rfl⟩ ok_X6_ends vi_X6_ends q_976 hM.1 rfl (fun _ => rfl) ⟨Nat.le_of_ble_eq_true rfl, Nat.le_of_ble_eq_true rfl, Nat.le_of_ble_eq_true rfl⟩ ⟨Nat.le_of_ble_eq_true rfl, Nat.le_of_ble_eq_true rfl⟩ dX6_turn_93 (fun re Me hen => ?_)
            obtain ⟨hev, he6, he3, hesr, hesm, he5⟩ := hen
            rw [hev]
            clear hev
            have hfin := MdG.fin hh.2 hwf hS2_Mw he3 hesr hesm he5
            have ho : oTurn s ge k = (0, trF (s.2.2.1 ge).1 (s.2.2.1 ge).2.2 k 0 0, putG s ge (trF (s.2.2.1 ge).1 (s.2.2.1 ge).2.2 k)) := by unfold oTurn; rw [if_neg (by omega), if_neg (fun q => q hri)]
            exact r_iret B dX6_turn_96 ⟨by rw [ho], by rw [ho]; exact he6, by rw [ho, if_pos rfl]; exact hfin.1, hfin.2⟩
          · refine r_aload_n B 3 dX6_turn_75 rfl ?_
            refine r_Vv0 B (c_X6_restore l G G2 md hM) ⟨rfl, rfl⟩ ok_X6_restore vi_X6_restore q_1050 hM.1 rfl (fun _ => rfl) ⟨Nat.le_of_ble_eq_true rfl, Nat.le_of_ble_eq_true rfl, Nat.le_of_ble_eq_true rfl⟩ ⟨Nat.le_of_ble_eq_true rfl, Nat.le_of_ble_eq_true rfl⟩ dX6_turn_76 (fun Mr hrs => ?_)
            have hnr : ¬ RdIn (s.2.2.1 ge).1 (trF (s.2.2.1 ge).1 (s.2.2.1 ge).2.2 k) := fun q => by rcases hg2 with w | w; omega; exact w.2 (fun x a b => q 2 x (by omega) (by omega) a b)
            have hs2 : ∀ c : Nat, c ≠ md + 1 → Same Mh G2 c := fun c p => ((hf0 c p).tr (hf1 c p)).tr (hf2 c p)
            have hrow : ∀ q : Int, 0 ≤ q → q < 722 → gI Mr (md + 1) q = gI M (md + 1) q := fun q q0 q1 => by rw [hrs.1 q q0 q1, (hs2 (md + 3) (by omega)).1, hh.1 q q0 q1]
            have hsm : ∀ c : Nat, c ≠ md + 1 → c ≠ md + 3 → Same M Mr c := fun c p q => ((hh.2 c q).tr (hs2 c p)).tr (hrs.2 c p)
            have hmr : MdG Mr md (s, cn, sv) := ⟨hS_M.congr hok hrow, by rw [(hsm md (by omega) (by omega)).1]; exact hmg.2.1, by rw [(hsm (md + 2) (by omega) (by omega)).1]; exact hmg.2.2⟩
            have hfr : MdF M Mr md := ⟨(hsm (md + 4) (by omega) (by omega)).1, by rw [(hsm md (by omega) (by omega)).1], fun c p => hsm c (by omega) (by omega)⟩
            refine r_aload_n B 3 dX6_turn_79 rfl ?_
            refine r_iconst B dX6_turn_80 ?_
            refine r_Vi1 B (c_X6_fails l G Mr md hM 2) ⟨rfl, rfl⟩ ok_X6_fails vi_X6_fails q_964 hM.1 rfl (fun _ => rfl) ⟨Nat.le_of_ble_eq_true rfl, Nat.le_of_ble_eq_true rfl, Nat.le_of_ble_eq_true rfl⟩ ⟨Nat.le_of_ble_eq_true rfl, Nat.le_of_ble_eq_true rfl⟩ dX6_turn_81 (fun rf Mf hff => ?_)
            obtain ⟨hf1, hf2⟩ := hff
            rw [hf1, hf2]
            clear hf1 hf2
            have ho : oTurn s ge k = (2, 0, s) := by unfold oTurn; rw [if_neg (by omega), if_pos hnr]
            exact r_iret B dX6_turn_84 ⟨by rw [ho], by rw [ho]; exact gI_eq, by rw [ho, if_neg (show ¬ (2 : Int) = 0 by decide)]; exact (MdG.fail hmr).1, hfr.tr (MdG.fail hmr).2⟩
    · have q_h2 := inF_0 h2
      refine r_aload_n B 0 dX6_turn_25 rfl ?_
      refine r_iconst B dX6_turn_26 ?_
      refine r_Vi1 B (c_X6_fails l G M md hM 1) ⟨rfl, rfl⟩ ok_X6_fails vi_X6_fails q_964 hM.1 rfl (fun _ => rfl) ⟨Nat.le_of_ble_eq_true rfl, Nat.le_of_ble_eq_true rfl, Nat.le_of_ble_eq_true rfl⟩ ⟨Nat.le_of_ble_eq_true rfl, Nat.le_of_ble_eq_true rfl⟩ dX6_turn_27 (fun rf Mf hff => ?_)
      obtain ⟨hf1, hf2⟩ := hff
      rw [hf1, hf2]
      clear hf1 hf2
      have ho : oTurn s ge k = (1, 0, s) := by unfold oTurn; rw [if_pos (by omega)]
      exact r_iret B dX6_turn_30 ⟨by rw [ho], by rw [ho]; exact gI_eq, by rw [ho, if_neg (show ¬ (1 : Int) = 0 by decide)]; exact (MdG.fail hmg).1, (MdG.fail hmg).2⟩

set_option maxRecDepth 100000 in
set_option maxHeartbeats 4000000 in
theorem c_X6_removeGear (l : Launch) (G : Gs) (M : Mem) (md : Nat) (hM : IsMd G md) (s : Ast) (cn : Int) (sv : Int → Ast) (hmg : MdG M md (s, cn, sv)) (hbk : GgOk (s, cn, sv)) (ge : Int) (hge : In32 ge) : Ct l G yX6_removeGear cX6_removeGear 4 (some .int) rm_X6_removeGear [.ref md, .int (iI ge)] M (PoI G (fun r M' => r = (oRemG s ge).2.1 ∧ gI M' md 6 = (oRemG s ge).1 ∧ MdG M' md (if (oRemG s ge).1 = 0 then ((oRemG s ge).2.2, (savG (s, cn, sv)).2) else (s, cn, sv)) ∧ MdF M M' md)) 0 0 := by
  refine Ct.of (by decide +kernel) (Nat.le_of_ble_eq_true rfl) [(0, .ref md), (1, .int (iI ge))] rfl ?_
  intro X B
  have hS_M : MdS M md s := hmg.1
  have hok : StateOk s := hbk.1
  have hF_M : FL M M md := FL.rf
  have hc0 : 0 ≤ cn := hbk.2.1
  have hc4 : cn ≤ 4 := hbk.2.2.1
  have hs1 := hok.1
  have hs2 := hok.2.1
  have hs3 := hok.2.2.1
  have hs4 := hok.2.2.2.1
  obtain ⟨hge1, hge2⟩ := hge
  have i1 := inF_in ge 0 (s.1 - 1)
  refine r_aload_n B 0 dX6_removeGear_0 rfl ?_
  refine r_iload_n B 1 dX6_removeGear_1 rfl ?_
  refine r_pVz1 B (c_X6_isGear l G M md hM s hS_M hok ge ⟨by omega, by omega⟩) ⟨rfl, rfl⟩ ok_X6_isGear vi_X6_isGear q_988 hM.1 rfl (fun _ => rfl) ⟨Nat.le_of_ble_eq_true rfl, Nat.le_of_ble_eq_true rfl, Nat.le_of_ble_eq_true rfl⟩ ⟨Nat.le_of_ble_eq_true rfl, Nat.le_of_ble_eq_true rfl⟩ dX6_removeGear_2 ?_
  refine r_if_ne B dX6_removeGear_5 rfl ⟨by omega, by omega⟩ (fun h1 => ?_) (fun h1 => ?_)
  · have q_h1 := inF_1 h1
    refine r_aload_n B 0 dX6_removeGear_14 rfl ?_
    refine r_Vv0 B (c_X6_hold l G M md hM) ⟨rfl, rfl⟩ ok_X6_hold vi_X6_hold q_968 hM.1 rfl (fun _ => rfl) ⟨Nat.le_of_ble_eq_true rfl, Nat.le_of_ble_eq_true rfl, Nat.le_of_ble_eq_true rfl⟩ ⟨Nat.le_of_ble_eq_true rfl, Nat.le_of_ble_eq_true rfl⟩ dX6_removeGear_15 (fun Mh hh => ?_)
    have hS_Mh : MdS Mh md s := by unfold MdS; rw [(hh.2 (md + 1) (by omega)).1]; exact hS_M
    have hAs : RowS (gI Mh (md + 3)) s := hS_M.congr hok (fun k p q => hh.1 k p q)
    refine r_iconst B dX6_removeGear_18 ?_
    refine r_istore_n B (lv' := [(2, .int (iI 0)), (0, .ref md), (1, .int (iI ge))]) dX6_removeGear_19 (by decide) rfl ?_
    refine r_aload_n B 1 dX6_removeGear_20 rfl ?_
    refine rg6_s B hM.1 q_892 dX6_removeGear_21 ?_
    refine r_sipush B (z := 571) dX6_removeGear_24 (by decide) ?_
    refine r_iaload B dX6_removeGear_27 hM.2.1 (by omega) (by omega) ?_
    refine r_vi (y := s.2.1) hS_Mh.2.1 ?_
    refine r_iconst B dX6_removeGear_28 ?_
    refine r_isub B dX6_removeGear_29 ?_
    refine r_istore_n B (lv' := [(3, .int (iI (s.2.1 - 1))), (2, .int (iI 0)), (0, .ref md), (1, .int (iI ge))]) dX6_removeGear_30 (by decide) rfl ?_
    have lp2 : ∀ (nlp2 : Nat) (i : Int) (n : Int) (Mc : Mem) (t : Ast) (hi0 : -1 ≤ i) (hi1 : i + 1 ≤ t.2.1) (hrm : rmL ge (i + 1).toNat t = rmL ge s.2.1.toNat s) (hT : MdS Mc md t) (hokt : StateOk t) (hn : n = s.2.1 - t.2.1) (hf : ∀ d : Nat, d ≠ md + 1 → Same Mh Mc d), (i + 1).toNat < nlp2 → WM G X 0 0 (bM X (PoI G (fun r M' => r = (oRemG s ge).2.1 ∧ gI M' md 6 = (oRemG s ge).1 ∧ MdG M' md (if (oRemG s ge).1 = 0 then ((oRemG s ge).2.2, (savG (s, cn, sv)).2) else (s, cn, sv)) ∧ MdF M M' md)) 0 0 G) Mc 31 [(0, .ref md), (1, .int (iI ge)), (2, .int (iI n)), (3, .int (iI i))] [] := by
      intro nlp2
      induction nlp2 with
      | zero => intro i n Mc t hi0 hi1 hrm hT hokt hn hf hm; omega
      | succ nlp2 ihlp2 =>
        intro i n Mc t hi0 hi1 hrm hT hokt hn hf hm
        obtain ⟨t1, t2, t3, t4, t5, t6⟩ := id hokt
        refine r_iload_n B 3 dX6_removeGear_31 rfl ?_
        refine r_if_lt B dX6_removeGear_32 rfl ⟨by omega, by omega⟩ (fun h3 => ?_) (fun h3 => ?_)
        · have htl : t = rmL ge s.2.1.toNat s := by rw [← hrm, show (i + 1).toNat = 0 by omega]; rfl
          have hl1 := rmL_1 ge s.2.1.toNat s
          rw [← htl] at hl1
          have ht1 : t.1 = s.1 := hl1.1
          refine r_iconst B dX6_removeGear_59 ?_
          refine r_istore_n B (lv' := [(3, .int (iI 0)), (0, .ref md), (1, .int (iI ge)), (2, .int (iI n))]) dX6_removeGear_60 (by decide) rfl ?_
          have lp4 : ∀ (nlp4 : Nat) (j : Int) (Md : Mem) (hj0 : 0 ≤ j) (hj1 : j ≤ t.2.1) (hD : RowS (gI Md (md + 1)) (decP ge j t)) (hg : ∀ d : Nat, d ≠ md + 1 → Same Mh Md d), (t.2.1 - j).toNat < nlp4 → WM G X 0 0 (bM X (PoI G (fun r M' => r = (oRemG s ge).2.1 ∧ gI M' md 6 = (oRemG s ge).1 ∧ MdG M' md (if (oRemG s ge).1 = 0 then ((oRemG s ge).2.2, (savG (s, cn, sv)).2) else (s, cn, sv)) ∧ MdF M M' md)) 0 0 G) Md 61 [(0, .ref md), (1, .int (iI ge)), (2, .int (iI n)), (3, .int (iI j))] [] := by
            intro nlp4
            induction nlp4 with
            | zero => intro j Md hj0 hj1 hD hg hm; omega
            | succ nlp4 ihlp4 =>
              intro j Md hj0 hj1 hD hg hm
              have hrd0 := fun (x : j < t.2.1) => (hD.2.2.2 j hj0 x).1
              refine r_iload_n B 3 dX6_removeGear_61 rfl ?_
              refine r_aload_n B 0 dX6_removeGear_62 rfl ?_
              refine rg6_s B hM.1 q_892 dX6_removeGear_63 ?_
              refine r_sipush B (z := 571) dX6_removeGear_66 (by decide) ?_
              refine r_iaload B dX6_removeGear_69 hM.2.1 (by omega) (by omega) ?_
              refine r_vi (y := t.2.1) hD.2.1 ?_
              refine r_icmp_ge B dX6_removeGear_70 rfl ⟨by omega, by omega⟩ ⟨by omega, by omega⟩ (fun h5 => ?_) (fun h5 => ?_)
              · have hDA : RowS (gI Md (md + 1)) (decA ge t) := RowS.w_decA (by rw [show t.2.1 = j by omega]; exact hD)
                refine r_aload_n B 0 dX6_removeGear_110 rfl ?_
                refine rg6_s B hM.1 q_892 dX6_removeGear_111 ?_
                refine r_iconst B dX6_removeGear_114 ?_
                refine r_dup2 B dX6_removeGear_115 rfl rfl ?_
                refine r_iaload B dX6_removeGear_116 hM.2.1 (by omega) (by omega) ?_
                refine r_vi (y := t.1) hDA.1 ?_
                refine r_iconst B dX6_removeGear_117 ?_
                refine r_isub B dX6_removeGear_118 ?_
                refine r_iastore B dX6_removeGear_119 hM.2.1 (by omega) (by omega) ?_
                refine WM.nm (fun M6 eM6 => ?_)
                refine r_iconst B dX6_removeGear_120 ?_
                refine r_bipush B (z := 95) dX6_removeGear_121 (by decide) ?_
                refine r_iload_n B 1 dX6_removeGear_123 rfl ?_
                refine r_imul B dX6_removeGear_124 ?_
                refine r_iadd B dX6_removeGear_125 ?_
                refine r_istore_n B (lv' := [(3, .int (iI (1 + (95 * ge)))), (0, .ref md), (1, .int (iI ge)), (2, .int (iI n))]) dX6_removeGear_126 (by decide) rfl ?_
                have lp7 : ∀ (nlp7 : Nat) (k : Int) (Me : Mem) (k0 : 1 + 95 * ge ≤ k) (k1 : k ≤ 1 + 95 * (t.1 - 1)) (h00 : gI Me (md + 1) 0 = t.1 - 1) (hsh : ∀ q : Int, 1 + 95 * ge ≤ q → q < k → gI Me (md + 1) q = gI Md (md + 1) (q + 95)) (hun : ∀ q : Int, 0 < q → (q < 1 + 95 * ge ∨ k ≤ q) → gI Me (md + 1) q = gI Md (md + 1) q) (hf2 : ∀ d : Nat, d ≠ md + 1 → Same Md Me d), (1 + 95 * (t.1 - 1) - k).toNat < nlp7 → WM G X 0 0 (bM X (PoI G (fun r M' => r = (oRemG s ge).2.1 ∧ gI M' md 6 = (oRemG s ge).1 ∧ MdG M' md (if (oRemG s ge).1 = 0 then ((oRemG s ge).2.2, (savG (s, cn, sv)).2) else (s, cn, sv)) ∧ MdF M M' md)) 0 0 G) Me 127 [(0, .ref md), (1, .int (iI ge)), (2, .int (iI n)), (3, .int (iI k))] [] := by
                  intro nlp7
                  induction nlp7 with
                  | zero => intro k Me k0 k1 h00 hsh hun hf2 hm; omega
                  | succ nlp7 ihlp7 =>
                    intro k Me k0 k1 h00 hsh hun hf2 hm
                    refine r_iload_n B 3 dX6_removeGear_127 rfl ?_
                    refine r_iconst B dX6_removeGear_128 ?_
                    refine r_bipush B (z := 95) dX6_removeGear_129 (by decide) ?_
                    refine r_aload_n B 0 dX6_removeGear_131 rfl ?_
                    refine rg6_s B hM.1 q_892 dX6_removeGear_132 ?_
                    refine r_iconst B dX6_removeGear_135 ?_
                    refine r_iaload B dX6_removeGear_136 hM.2.1 (by omega) (by omega) ?_
                    refine r_vi (y := t.1 - 1) h00 ?_
                    refine r_imul B dX6_removeGear_137 ?_
                    refine r_iadd B dX6_removeGear_138 ?_
                    refine r_icmp_ge B dX6_removeGear_139 rfl ⟨by omega, by omega⟩ ⟨by omega, by omega⟩ (fun h8 => ?_) (fun h8 => ?_)
                    · have hS2_Mw : MdS Me md (delG s ge) := by unfold delG; rw [← htl]; exact RowS.w_remA hDA hokt (by omega) (by omega) h00 (fun q q0 q1 => hsh q q0 (by omega)) (fun q q0 q1 w => hun q (by omega) (by omega))
                      have hwf : ∀ c : Nat, c ≠ md + 1 → Same Mh Me c := fun c p => (hg c p).tr (hf2 c p)
                      refine r_aload_n B 0 dX6_removeGear_163 rfl ?_
                      refine r_iload_n B 2 dX6_removeGear_164 rfl ?_
                      refine r_Vi1 B (c_X6_ends l G Me md hM s cn sv (by rw [(hwf md (by omega)).1, (hh.2 md (by omega)).1]; exact hmg.2.1) (by rw [(hwf (md + 2) (by omega)).1, (hh.2 (md + 2) (by omega)).1]; exact hmg.2.2) (by rw [(hwf (md + 3) (by omega)).1]; exact hAs) hbk n) ⟨rfl, rfl⟩ ok_X6_ends vi_X6_ends q_976 hM.1 rfl (fun _ => rfl) ⟨Nat.le_of_ble_eq_true rfl, Nat.le_of_ble_eq_true rfl, Nat.le_of_ble_eq_true rfl⟩ ⟨Nat.le_of_ble_eq_true rfl, Nat.le_of_ble_eq_true rfl⟩ dX6_removeGear_165 (fun re Me hen => ?_)
                      obtain ⟨hev, he6, he3, hesr, hesm, he5⟩ := hen
                      rw [hev]
                      clear hev
                      have hfin := MdG.fin hh.2 hwf hS2_Mw he3 hesr hesm he5
                      have ho : oRemG s ge = (0, n, delG s ge) := by unfold oRemG; rw [if_neg (by omega)]; rw [hn, htl]; rfl
                      exact r_iret B dX6_removeGear_168 ⟨by rw [ho], by rw [ho]; exact he6, by rw [ho, if_pos rfl]; exact hfin.1, hfin.2⟩
                    · refine r_aload_n B 0 dX6_removeGear_142 rfl ?_
                      refine rg6_s B hM.1 q_892 dX6_removeGear_143 ?_
                      refine r_iload_n B 3 dX6_removeGear_146 rfl ?_
                      refine r_aload_n B 0 dX6_removeGear_147 rfl ?_
                      refine rg6_s B hM.1 q_892 dX6_removeGear_148 ?_
                      refine r_iload_n B 3 dX6_removeGear_151 rfl ?_
                      refine r_bipush B (z := 95) dX6_removeGear_152 (by decide) ?_
                      refine r_iadd B dX6_removeGear_154 ?_
                      refine r_iaload B dX6_removeGear_155 hM.2.1 (by omega) (by omega) ?_
                      refine r_vi (y := gI Md (md + 1) (k + 95)) (hun _ (by omega) (by omega)) ?_
                      refine r_iastore B dX6_removeGear_156 hM.2.1 (by omega) (by omega) ?_
                      refine WM.nm (fun M9 eM9 => ?_)
                      refine r_iinc B (lv' := [(3, .int (iI (k + 1))), (0, .ref md), (1, .int (iI ge)), (2, .int (iI n))]) dX6_removeGear_157 (j := 3) rfl (by decide) rfl ?_
                      refine r_goto B dX6_removeGear_160 rfl ?_
                      refine WM.pick [1, 2, 3, 0] rfl ?_
                      refine ihlp7 (k + 1) M9 (by omega) (by omega) (by rw [eM9, gI_nk (by omega)]; exact h00) ?_ ?_ (fun d p => (hf2 d p).tr (by rw [eM9]; exact Same.sI p)) (by omega)
                      · intro q q0 q1
                        rw [eM9]
                        by_cases w : q = k
                        · rw [w, gI_eq]
                        · rw [gI_nk w]; exact hsh q q0 (by omega)
                      · intro q q0 q1
                        rw [eM9, gI_nk (by omega)]
                        exact hun q q0 (by omega)
                refine WM.pick [1, 2, 3, 0] rfl ?_
                exact lp7 _ (1 + 95 * ge) M6 (by omega) (by omega) (by rw [eM6, gI_eq]) (fun q q0 q1 => by omega) (fun q q0 q1 => by rw [eM6, gI_nk (by omega)]) (fun d p => by rw [eM6]; exact Same.sI p) (Nat.lt_succ_self _)
              · have hrd : gI Md (md + 1) (572 + 15 * j + 0) = (t.2.2.2 j).1 := by have w := hrd0 (by omega); rw [decP_at] at w; exact w
                have hrd9 : gI Md (md + 1) (572 + 15 * j) = (t.2.2.2 j).1 := by rw [show 572 + 15 * j = 572 + 15 * j + 0 by omega]; exact hrd
                have htj := (t6 j hj0 (by omega)).2
                refine r_aload_n B 0 dX6_removeGear_73 rfl ?_
                refine rg6_s B hM.1 q_892 dX6_removeGear_74 ?_
                refine r_sipush B (z := 572) dX6_removeGear_77 (by decide) ?_
                refine r_bipush B (z := 15) dX6_removeGear_80 (by decide) ?_
                refine r_iload_n B 3 dX6_removeGear_82 rfl ?_
                refine r_imul B dX6_removeGear_83 ?_
                refine r_iadd B dX6_removeGear_84 ?_
                refine r_dup2 B dX6_removeGear_85 rfl rfl ?_
                refine r_iaload B dX6_removeGear_86 hM.2.1 (by omega) (by omega) ?_
                refine r_vi (y := (t.2.2.2 j).1) hrd9 ?_
                refine r_aload_n B 0 dX6_removeGear_87 rfl ?_
                refine r_iload_n B 3 dX6_removeGear_88 rfl ?_
                refine r_iconst B dX6_removeGear_89 ?_
                refine r_pVi2 B (c_X6_of l G Md md hM j 0 (by omega) (by omega) (by omega) (by omega)) ⟨rfl, rfl⟩ ok_X6_of vi_X6_of q_992 hM.1 rfl (fun _ => rfl) ⟨Nat.le_of_ble_eq_true rfl, Nat.le_of_ble_eq_true rfl, Nat.le_of_ble_eq_true rfl⟩ ⟨Nat.le_of_ble_eq_true rfl, Nat.le_of_ble_eq_true rfl⟩ dX6_removeGear_90 ?_
                refine r_vi (y := (t.2.2.2 j).1) hrd ?_
                refine r_iload_n B 1 dX6_removeGear_93 rfl ?_
                have J10 : ∀ dw : Int, ((ge < (t.2.2.2 j).1 ∧ dw = 1) ∨ (¬ ge < (t.2.2.2 j).1 ∧ dw = 0)) → WM G X 0 0 (bM X (PoI G (fun r M' => r = (oRemG s ge).2.1 ∧ gI M' md 6 = (oRemG s ge).1 ∧ MdG M' md (if (oRemG s ge).1 = 0 then ((oRemG s ge).2.2, (savG (s, cn, sv)).2) else (s, cn, sv)) ∧ MdF M M' md)) 0 0 G) Md 102 [(0, .ref md), (1, .int (iI ge)), (2, .int (iI n)), (3, .int (iI j))] [.int (iI dw), .int (iI ((t.2.2.2 j).1)), .int (iI (572 + (15 * j))), .ref (md + 1)] := by
                  intro dw hdw
                  refine r_isub B dX6_removeGear_102 ?_
                  refine r_iastore B dX6_removeGear_103 hM.2.1 (by omega) (by omega) ?_
                  refine WM.nm (fun M11 eM11 => ?_)
                  refine r_iinc B (lv' := [(3, .int (iI (j + 1))), (0, .ref md), (1, .int (iI ge)), (2, .int (iI n))]) dX6_removeGear_104 (j := 3) rfl (by decide) rfl ?_
                  refine r_goto B dX6_removeGear_107 rfl ?_
                  refine WM.pick [1, 2, 3, 0] rfl ?_
                  exact ihlp4 (j + 1) M11 (by omega) (by omega) (hD.w_decP hokt hj0 (by omega) (by rw [eM11, gI_eq]; show _ = if ge < (t.2.2.2 j).1 then (t.2.2.2 j).1 - 1 else (t.2.2.2 j).1; split <;> omega) (fun q q0 q1 q2 => by rw [eM11, gI_nk q2])) (fun d p => (hg d p).tr (by rw [eM11]; exact Same.sI p)) (by omega)
                refine r_icmp_le B dX6_removeGear_94 rfl ⟨by omega, by omega⟩ ⟨by omega, by omega⟩ (fun h12 => ?_) (fun h12 => ?_)
                · refine r_iconst B dX6_removeGear_101 ?_
                  exact J10 _ (by omega)
                · refine r_iconst B dX6_removeGear_97 ?_
                  refine r_goto B dX6_removeGear_98 rfl ?_
                  exact J10 _ (by omega)
          refine WM.pick [1, 2, 3, 0] rfl ?_
          exact lp4 _ 0 Mc (by omega) (by omega) (by rw [decP_0]; exact hT) hf (Nat.lt_succ_self _)
        · have hti := (t6 i (by omega) (by omega)).2
          have hrs := rmL_s ge (i := i) (by omega) t
          refine r_aload_n B 0 dX6_removeGear_35 rfl ?_
          refine r_iload_n B 3 dX6_removeGear_36 rfl ?_
          refine r_iconst B dX6_removeGear_37 ?_
          refine r_pVi2 B (c_X6_of l G Mc md hM i 0 (by omega) (by omega) (by omega) (by omega)) ⟨rfl, rfl⟩ ok_X6_of vi_X6_of q_992 hM.1 rfl (fun _ => rfl) ⟨Nat.le_of_ble_eq_true rfl, Nat.le_of_ble_eq_true rfl, Nat.le_of_ble_eq_true rfl⟩ ⟨Nat.le_of_ble_eq_true rfl, Nat.le_of_ble_eq_true rfl⟩ dX6_removeGear_38 ?_
          refine r_vi (y := (t.2.2.2 i).1) (hT.2.2.2 i (by omega) (by omega)).1 ?_
          refine r_iload_n B 1 dX6_removeGear_41 rfl ?_
          refine r_icmp_ne B dX6_removeGear_42 rfl ⟨by omega, by omega⟩ ⟨by omega, by omega⟩ (fun h13 => ?_) (fun h13 => ?_)
          · refine r_iinc B (lv' := [(3, .int (iI (i + (-1)))), (0, .ref md), (1, .int (iI ge)), (2, .int (iI n))]) dX6_removeGear_53 (j := 3) rfl (by decide) rfl ?_
            refine r_goto B dX6_removeGear_56 rfl ?_
            refine WM.pick [1, 2, 3, 0] rfl ?_
            exact ihlp2 (i + -1) _ Mc t (by omega) (by omega) (by rw [show i + -1 + 1 = i by omega, ← hrm, hrs, if_neg h13]) hT hokt hn hf (by omega)
          · refine r_aload_n B 0 dX6_removeGear_45 rfl ?_
            refine r_iload_n B 3 dX6_removeGear_46 rfl ?_
            refine r_Vv1 B (c_X6_dropsLine l G Mc md hM t hT hokt i (by omega) (by omega)) ⟨rfl, rfl⟩ ok_X6_dropsLine vi_X6_dropsLine q_996 hM.1 rfl (fun _ => rfl) ⟨Nat.le_of_ble_eq_true rfl, Nat.le_of_ble_eq_true rfl, Nat.le_of_ble_eq_true rfl⟩ ⟨Nat.le_of_ble_eq_true rfl, Nat.le_of_ble_eq_true rfl⟩ dX6_removeGear_47 (fun Mz hz => ?_)
            refine r_iinc B (lv' := [(2, .int (iI (n + 1))), (0, .ref md), (1, .int (iI ge)), (3, .int (iI i))]) dX6_removeGear_50 (j := 2) rfl (by decide) rfl ?_
            refine r_iinc B (lv' := [(3, .int (iI (i + (-1)))), (2, .int (iI (n + 1))), (0, .ref md), (1, .int (iI ge))]) dX6_removeGear_53 (j := 3) rfl (by decide) rfl ?_
            refine r_goto B dX6_removeGear_56 rfl ?_
            refine WM.pick [2, 3, 1, 0] rfl ?_
            exact ihlp2 (i + -1) (n + 1) Mz (delL t i) (by omega) (by show i + -1 + 1 ≤ t.2.1 - 1; omega) (by rw [show i + -1 + 1 = i by omega, ← hrm, hrs, if_pos h13]) hz.1 (delL_ok hokt (by omega) (by omega)) (by show n + 1 = s.2.1 - (t.2.1 - 1); omega) (fun d p => (hf d p).tr (hz.2 d p)) (by omega)
    refine WM.pick [2, 3, 1, 0] rfl ?_
    exact lp2 _ _ 0 Mh s (by omega) (by omega) (by rw [show s.2.1 - 1 + 1 = s.2.1 by omega]) hS_Mh hok (by omega) (fun d p => Same.rf Mh d) (Nat.lt_succ_self _)
  · have q_h1 := inF_0 h1
    refine r_aload_n B 0 dX6_removeGear_8 rfl ?_
    refine r_iconst B dX6_removeGear_9 ?_
    refine r_Vi1 B (c_X6_fails l G M md hM 1) ⟨rfl, rfl⟩ ok_X6_fails vi_X6_fails q_964 hM.1 rfl (fun _ => rfl) ⟨Nat.le_of_ble_eq_true rfl, Nat.le_of_ble_eq_true rfl, Nat.le_of_ble_eq_true rfl⟩ ⟨Nat.le_of_ble_eq_true rfl, Nat.le_of_ble_eq_true rfl⟩ dX6_removeGear_10 (fun rf Mf hff => ?_)
    obtain ⟨hf1, hf2⟩ := hff
    rw [hf1, hf2]
    clear hf1 hf2
    have ho : oRemG s ge = (1, 0, s) := by unfold oRemG; rw [if_pos (by omega)]
    exact r_iret B dX6_removeGear_13 ⟨by rw [ho], by rw [ho]; exact gI_eq, by rw [ho, if_neg (show ¬ (1 : Int) = 0 by decide)]; exact (MdG.fail hmg).1, (MdG.fail hmg).2⟩
