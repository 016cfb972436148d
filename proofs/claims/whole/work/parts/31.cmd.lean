set_option maxRecDepth 100000 in
set_option maxHeartbeats 4000000 in
theorem c_X5_isGear (l : Launch) (G : Gs) (M : Mem) (t m : Int) (ht : In32 t) (hm : In32 m) : Ct l G yX5_isGear cX5_isGear 2 (some .boolean) rm_X5_isGear [.int (iI t), .int (iI m)] M (PoI G (fun r M' => ((isG t m ∧ r = 1) ∨ (¬ isG t m ∧ r = 0)) ∧ M' = M)) 0 0 := by
  refine Ct.of (by decide +kernel) (Nat.le_of_ble_eq_true rfl) [(0, .int (iI t)), (1, .int (iI m))] rfl ?_
  intro X B
  refine r_iload_n B 0 dX5_isGear_0 rfl ?_
  refine r_iconst B dX5_isGear_1 ?_
  refine r_icmp_lt B dX5_isGear_2 rfl ⟨by omega, by omega⟩ ⟨by omega, by omega⟩ (fun h1 => ?_) (fun h1 => ?_)
  · refine r_iconst B dX5_isGear_26 ?_
    exact r_zret B dX5_isGear_27 (by omega) ⟨Or.inr ⟨by unfold isG; omega, rfl⟩, rfl⟩
  · refine r_iload_n B 0 dX5_isGear_5 rfl ?_
    refine r_bipush B (z := 30) dX5_isGear_6 (by decide) ?_
    refine r_icmp_gt B dX5_isGear_8 rfl ⟨by omega, by omega⟩ ⟨by omega, by omega⟩ (fun h2 => ?_) (fun h2 => ?_)
    · refine r_iconst B dX5_isGear_26 ?_
      exact r_zret B dX5_isGear_27 (by omega) ⟨Or.inr ⟨by unfold isG; omega, rfl⟩, rfl⟩
    · refine r_iload_n B 1 dX5_isGear_11 rfl ?_
      refine r_iconst B dX5_isGear_12 ?_
      refine r_icmp_lt B dX5_isGear_13 rfl ⟨by omega, by omega⟩ ⟨by omega, by omega⟩ (fun h3 => ?_) (fun h3 => ?_)
      · refine r_iconst B dX5_isGear_26 ?_
        exact r_zret B dX5_isGear_27 (by omega) ⟨Or.inr ⟨by unfold isG; omega, rfl⟩, rfl⟩
      · refine r_iload_n B 1 dX5_isGear_16 rfl ?_
        refine r_bipush B (z := 20) dX5_isGear_17 (by decide) ?_
        refine r_icmp_gt B dX5_isGear_19 rfl ⟨by omega, by omega⟩ ⟨by omega, by omega⟩ (fun h4 => ?_) (fun h4 => ?_)
        · refine r_iconst B dX5_isGear_26 ?_
          exact r_zret B dX5_isGear_27 (by omega) ⟨Or.inr ⟨by unfold isG; omega, rfl⟩, rfl⟩
        · refine r_iconst B dX5_isGear_22 ?_
          refine r_goto B dX5_isGear_23 rfl ?_
          exact r_zret B dX5_isGear_27 (by omega) ⟨Or.inl ⟨by unfold isG; omega, rfl⟩, rfl⟩

set_option maxRecDepth 100000 in
set_option maxHeartbeats 4000000 in
theorem c_X3_takeSeries (l : Launch) (G : Gs) (M : Mem) (S : Nat) (s : Ast) (ta : Nat) (q : Sq) (se : Int) (hS : IsState G S) (hA : StateIs M S s) (hok : StateOk s) (ha : IsText G ta) (hd : ta + 3 ≤ S ∨ S + 53 ≤ ta) (hl : ¬ q.1 = 0) (hq : TxS M ta q) (hn1 : 1 ≤ q.2.1) (hn2 : q.2.1 ≤ 160) (hvb : ∀ k : Int, 0 ≤ k → k < q.2.1 → -9999 ≤ q.2.2.2.2 k ∧ q.2.2.2.2 k ≤ 9999) (hse0 : 0 ≤ se) (hse1 : se < 3) : Ct l G yX3_takeSeries cX3_takeSeries 4 (some .boolean) rm_X3_takeSeries [.ref S, .int (iI se), .ref ta] M (PoI G (fun r M' => ((1 ≤ s.1 ∧ inRg q.2.1 q.2.2.2.2 ∧ q.2.1 = szS (s.2.2.1 (s.1 - 1)).1 se) ∧ r = 1 ∧ StateIs M' S (setS s se q.2.2.2.2) ∧ Only M M' S (S + 53)) ∨ (¬ (1 ≤ s.1 ∧ inRg q.2.1 q.2.2.2.2 ∧ q.2.1 = szS (s.2.2.1 (s.1 - 1)).1 se) ∧ r = 0 ∧ M' = M))) 0 0 := by
  refine Ct.of (by decide +kernel) (Nat.le_of_ble_eq_true rfl) [(0, .ref S), (1, .int (iI se)), (2, .ref ta)] rfl ?_
  intro X B
  have hs1 := hok.1
  have hs2 := hok.2.1
  have hs3 := hok.2.2.1
  have hs4 := hok.2.2.2.1
  have hzl : 1 ≤ s.1 → 5 ≤ (s.2.2.1 (s.1 - 1)).1 ∧ (s.2.2.1 (s.1 - 1)).1 ≤ 30 ∧ (s.2.2.1 (s.1 - 1)).1 ≤ szS (s.2.2.1 (s.1 - 1)).1 se ∧ szS (s.2.2.1 (s.1 - 1)).1 se ≤ (s.2.2.1 (s.1 - 1)).1 + 1 := fun w => by
    have h1 := hok.2.2.2.2.1 (s.1 - 1) (by omega) (by omega)
    have h2 := szS_le (s.2.2.1 (s.1 - 1)).1 se
    exact ⟨h1.1, h1.2.1, h2.1, h2.2⟩
  refine r_aload_n B 0 dX3_takeSeries_0 rfl ?_
  refine rg3_gearCount B hS.1 q_93 dX3_takeSeries_1 ?_
  refine r_vi (y := s.1) hA.1 ?_
  refine r_iconst B dX3_takeSeries_4 ?_
  refine r_icmp_lt B dX3_takeSeries_5 rfl ⟨by omega, by omega⟩ ⟨by omega, by omega⟩ (fun h1 => ?_) (fun h1 => ?_)
  · refine r_iconst B dX3_takeSeries_15 ?_
    exact r_zret B dX3_takeSeries_16 (by omega) (Or.inr ⟨fun w => by omega, rfl, rfl⟩)
  · refine r_aload_n B 2 dX3_takeSeries_8 rfl ?_
    refine r_Vz0 B (c_X4_isInRange l G M ta q.2.1 q.2.2.2.2 ha (hq.2 hl).1 (hq.2 hl).2.2.2 (by omega) hn2 hvb) ⟨rfl, rfl⟩ ok_X4_isInRange vi_X4_isInRange q_286 ha.1 rfl (fun _ => rfl) ⟨Nat.le_of_ble_eq_true rfl, Nat.le_of_ble_eq_true rfl, Nat.le_of_ble_eq_true rfl⟩ ⟨Nat.le_of_ble_eq_true rfl, Nat.le_of_ble_eq_true rfl⟩ dX3_takeSeries_9 (fun ir Mi hir => ?_)
    obtain ⟨hir, hMi⟩ := hir
    rw [hMi]
    have hir01 : 0 ≤ ir ∧ ir ≤ 1 := by rcases hir with w | w <;> omega
    refine r_if_ne B dX3_takeSeries_12 rfl ⟨by omega, by omega⟩ (fun h2 => ?_) (fun h2 => ?_)
    · have hin : inRg q.2.1 q.2.2.2.2 := by rcases hir with w | w; exact w.1; exact absurd w.2 h2
      refine r_aload_n B 0 dX3_takeSeries_17 rfl ?_
      refine rg3_gearRow B hS.1 q_97 dX3_takeSeries_18 ?_
      refine r_aload_n B 0 dX3_takeSeries_21 rfl ?_
      refine rg3_gearCount B hS.1 q_93 dX3_takeSeries_22 ?_
      refine r_vi (y := s.1) hA.1 ?_
      refine r_iconst B dX3_takeSeries_25 ?_
      refine r_isub B dX3_takeSeries_26 ?_
      refine r_aaload8 B dX3_takeSeries_27 hS.2.1 (by omega) (by omega) ?_
      refine r_astore_n B (lv' := [(3, .ref (gP M (S + 1) (s.1 - 1))), (0, .ref S), (1, .int (iI se)), (2, .ref ta)]) dX3_takeSeries_28 (by decide) rfl ?_
      refine r_aload_n B 3 dX3_takeSeries_29 rfl ?_
      refine rg4_numbers B ha.1 q_124 dX3_takeSeries_30 ?_
      refine r_vi (y := q.2.1) (hq.2 hl).1 ?_
      refine r_aload_n B 0 dX3_takeSeries_33 rfl ?_
      refine r_iload_n B 2 dX3_takeSeries_34 rfl ?_
      refine r_pVi1 B (c_X0_sizeOf l G M (gP M (S + 1) (s.1 - 1)) (s.2.2.1 (s.1 - 1)).1 (RowG.gear hS hA.2.2.1 (i := (s.1 - 1)) (by omega) (by omega)) (hA.2.2.2.2.1 (s.1 - 1) (by omega) (by omega)).1 se (by omega) (by omega)) ⟨rfl, rfl⟩ ok_X0_sizeOf vi_X0_sizeOf q_293 (RowG.gear hS hA.2.2.1 (i := (s.1 - 1)) (by omega) (by omega)).1 rfl (fun _ => rfl) ⟨Nat.le_of_ble_eq_true rfl, Nat.le_of_ble_eq_true rfl, Nat.le_of_ble_eq_true rfl⟩ ⟨Nat.le_of_ble_eq_true rfl, Nat.le_of_ble_eq_true rfl⟩ dX3_takeSeries_35 ?_
      refine r_icmp_eq B dX3_takeSeries_38 rfl ⟨by omega, by omega⟩ ⟨by omega, by omega⟩ (fun h3 => ?_) (fun h3 => ?_)
      · have hgl := hok.2.2.2.2.1 (s.1 - 1) (by omega) (by omega)
        have hsl := szS_le (s.2.2.1 (s.1 - 1)).1 se
        have hz30 := hgl.2.1
        have hba := hA.2.2.1.in (i := s.1 - 1) (by omega) (by omega)
        refine r_aload_n B 3 dX3_takeSeries_43 rfl ?_
        refine rg4_values B ha.1 q_126 dX3_takeSeries_44 ?_
        refine r_iconst B dX3_takeSeries_47 ?_
        refine r_aload_n B 0 dX3_takeSeries_48 rfl ?_
        refine rg0_readings B (RowG.gear hS hA.2.2.1 (i := (s.1 - 1)) (by omega) (by omega)).1 q_48 dX3_takeSeries_49 ?_
        refine r_iload_n B 2 dX3_takeSeries_52 rfl ?_
        refine r_aaload11 B dX3_takeSeries_53 (RowG.gear hS hA.2.2.1 (i := s.1 - 1) (by omega) (by omega)).2.1 (by omega) (by omega) ?_
        refine r_iconst B dX3_takeSeries_54 ?_
        refine r_aload_n B 3 dX3_takeSeries_55 rfl ?_
        refine rg4_numbers B ha.1 q_124 dX3_takeSeries_56 ?_
        refine r_vi (y := q.2.1) (hq.2 hl).1 ?_
        refine r_copy B dX3_takeSeries_59 q_294 q_253 q_252 q_13 ha.2.2 ((RowG.gear hS hA.2.2.1 (i := s.1 - 1) (by omega) (by omega)).row (by omega) (by omega)) (by omega) (by omega) (by omega) (by omega) (by omega) ⟨Nat.le_of_ble_eq_true rfl, Nat.le_of_ble_eq_true rfl⟩ ?_
        refine WM.nm (fun M4 eM4 => ?_)
        refine r_iconst B dX3_takeSeries_62 ?_
        have hsm : ∀ c : Nat, c ≠ gP M (S + 1) (s.1 - 1) + 1 + 1 + se.toNat → Same M M4 c := fun c w => by rw [eM4]; exact Same.cpI w
        have hP1 := (hsm (S + 1) (by omega)).2.2.2
        have hP2 := (hsm (S + 2) (by omega)).2.2.2
        have hst : StateIs M4 S (setS s se q.2.2.2.2) := by
          refine ⟨by rw [(hsm S (by omega)).1]; exact hA.1, by rw [(hsm S (by omega)).1]; exact hA.2.1, hA.2.2.1.kept hP1, hA.2.2.2.1.kept hP2, fun k p w => ?_, fun k p w => ?_⟩
          · rw [hP1]
            show GrIs _ _ (upF s.2.2.1 (s.1 - 1) ((s.2.2.1 (s.1 - 1)).1, (s.2.2.1 (s.1 - 1)).2.1, rdSet (s.2.2.1 (s.1 - 1)).2.2 se q.2.2.2.2) k)
            have hgk := hA.2.2.2.2.1 k p w
            by_cases z : k = s.1 - 1
            · rw [z, upF_eq]
              rw [z] at hgk
              refine ⟨by rw [(hsm _ (by omega)).1]; exact hgk.1, by rw [(hsm _ (by omega)).1]; exact hgk.2.1, fun t j c d e f => ?_⟩
              show _ = if t = se then q.2.2.2.2 j else (s.2.2.1 (s.1 - 1)).2.2 t j
              by_cases y : t = se
              · have f2 : j < szS (s.2.2.1 (s.1 - 1)).1 se := by rw [← y]; exact f
                rw [if_pos y, y, eM4, gI_cp_eq e (by omega)]
                exact (hq.2 hl).2.2.2 j e (by omega)
              · rw [if_neg y, (hsm _ (by omega)).1]; exact hgk.2.2 t j c d e f
            · rw [upF_ne z]
              have b3 := hA.2.2.1.in (i := k) p (by have w2 : k < s.1 := w; omega)
              have b4 := hA.2.2.1.apart (i := k) (i' := s.1 - 1) p (by have w2 : k < s.1 := w; omega) (by omega) (by omega) z
              exact hgk.kept (fun c q1 q2 => hsm c (by omega))
          · rw [hP2]
            have b3 := hA.2.2.2.1.in (i := k) p (by have w2 : k < s.2.1 := w; omega)
            exact (hA.2.2.2.2.2 k p w).kept (fun c q1 q2 => hsm c (by omega))
        exact r_zret B dX3_takeSeries_63 (by omega) (Or.inl ⟨⟨by omega, hin, h3⟩, rfl, hst, fun c w => hsm c (by omega)⟩)
      · refine r_iconst B dX3_takeSeries_41 ?_
        exact r_zret B dX3_takeSeries_42 (by omega) (Or.inr ⟨fun w => h3 w.2.2, rfl, rfl⟩)
    · refine r_iconst B dX3_takeSeries_15 ?_
      exact r_zret B dX3_takeSeries_16 (by omega) (Or.inr ⟨fun w => by rcases hir with z | z; omega; exact z.1 w.2.1, rfl, rfl⟩)

set_option maxRecDepth 100000 in
set_option maxHeartbeats 4000000 in
theorem c_X3_takeLine (l : Launch) (G : Gs) (M : Mem) (S : Nat) (s : Ast) (ta : Nat) (q : Sq) (ki : Int) (hS : IsState G S) (hA : StateIs M S s) (hok : StateOk s) (ha : IsText G ta) (hd : ta + 3 ≤ S ∨ S + 53 ≤ ta) (hl : ¬ q.1 = 0) (hq : TxS M ta q) (hn1 : 1 ≤ q.2.1) (hn2 : q.2.1 ≤ 160) (hvb : ∀ k : Int, 0 ≤ k → k < q.2.1 → -9999 ≤ q.2.2.2.2 k ∧ q.2.2.2.2 k ≤ 9999) (hk0 : 0 ≤ ki) (hk1 : ki ≤ 1) (hn12 : q.2.1 ≤ 12) : Ct l G yX3_takeLine cX3_takeLine 5 (some .boolean) rm_X3_takeLine [.ref S, .int (iI ki), .ref ta] M (PoI G (fun r M' => ((1 ≤ s.1 ∧ inRg q.2.1 q.2.2.2.2 ∧ s.2.1 < 10) ∧ r = 1 ∧ StateIs M' S (addN s ki q.2.1 q.2.2.2.2) ∧ Only M M' S (S + 53)) ∨ (¬ (1 ≤ s.1 ∧ inRg q.2.1 q.2.2.2.2 ∧ s.2.1 < 10) ∧ r = 0 ∧ M' = M))) 0 0 := by
  refine Ct.of (by decide +kernel) (Nat.le_of_ble_eq_true rfl) [(0, .ref S), (1, .int (iI ki)), (2, .ref ta)] rfl ?_
  intro X B
  have hs1 := hok.1
  have hs2 := hok.2.1
  have hs3 := hok.2.2.1
  have hs4 := hok.2.2.2.1
  refine r_aload_n B 0 dX3_takeLine_0 rfl ?_
  refine rg3_gearCount B hS.1 q_93 dX3_takeLine_1 ?_
  refine r_vi (y := s.1) hA.1 ?_
  refine r_iconst B dX3_takeLine_4 ?_
  refine r_icmp_lt B dX3_takeLine_5 rfl ⟨by omega, by omega⟩ ⟨by omega, by omega⟩ (fun h1 => ?_) (fun h1 => ?_)
  · refine r_iconst B dX3_takeLine_15 ?_
    exact r_zret B dX3_takeLine_16 (by omega) (Or.inr ⟨fun w => by omega, rfl, rfl⟩)
  · refine r_aload_n B 2 dX3_takeLine_8 rfl ?_
    refine r_Vz0 B (c_X4_isInRange l G M ta q.2.1 q.2.2.2.2 ha (hq.2 hl).1 (hq.2 hl).2.2.2 (by omega) hn2 hvb) ⟨rfl, rfl⟩ ok_X4_isInRange vi_X4_isInRange q_286 ha.1 rfl (fun _ => rfl) ⟨Nat.le_of_ble_eq_true rfl, Nat.le_of_ble_eq_true rfl, Nat.le_of_ble_eq_true rfl⟩ ⟨Nat.le_of_ble_eq_true rfl, Nat.le_of_ble_eq_true rfl⟩ dX3_takeLine_9 (fun ir Mi hir => ?_)
    obtain ⟨hir, hMi⟩ := hir
    rw [hMi]
    have hir01 : 0 ≤ ir ∧ ir ≤ 1 := by rcases hir with w | w <;> omega
    refine r_if_ne B dX3_takeLine_12 rfl ⟨by omega, by omega⟩ (fun h2 => ?_) (fun h2 => ?_)
    · have hin : inRg q.2.1 q.2.2.2.2 := by rcases hir with w | w; exact w.1; exact absurd w.2 h2
      refine r_aload_n B 0 dX3_takeLine_17 rfl ?_
      refine r_aload_n B 0 dX3_takeLine_18 rfl ?_
      refine rg3_gearCount B hS.1 q_93 dX3_takeLine_19 ?_
      refine r_vi (y := s.1) hA.1 ?_
      refine r_iconst B dX3_takeLine_22 ?_
      refine r_isub B dX3_takeLine_23 ?_
      refine r_iload_n B 1 dX3_takeLine_24 rfl ?_
      refine r_Vi2 B (c_X3_newLine l G M S s hS hA hok (s.1 - 1) ki) ⟨rfl, rfl⟩ ok_X3_newLine vi_X3_newLine q_299 hS.1 rfl (fun _ => rfl) ⟨Nat.le_of_ble_eq_true rfl, Nat.le_of_ble_eq_true rfl, Nat.le_of_ble_eq_true rfl⟩ ⟨Nat.le_of_ble_eq_true rfl, Nat.le_of_ble_eq_true rfl⟩ dX3_takeLine_25 (fun nl Mn hnl => ?_)
      rcases hnl with ⟨hroom, hnr, hst, hfr⟩ | ⟨hfull, hnr, hMn⟩
      · subst hnr
        have hb := hA.2.2.2.1.in (i := s.2.1) (by omega) (by omega)
        refine r_istore_n B (lv' := [(3, .int (iI s.2.1)), (0, .ref S), (1, .int (iI ki)), (2, .ref ta)]) dX3_takeLine_28 (by decide) rfl ?_
        refine r_iload_n B 0 dX3_takeLine_29 rfl ?_
        refine r_iconst B dX3_takeLine_30 ?_
        refine r_icmp_ne B dX3_takeLine_31 rfl ⟨by omega, by omega⟩ ⟨by omega, by omega⟩ (fun h3 => ?_) (fun h3 => ?_)
        · have hPn : gP Mn (S + 2) = gP Mn (S + 2) := rfl
          have hbn := hst.2.2.2.1.in (i := s.2.1) (by omega) (by omega)
          have hl0 : LineIs Mn (gP Mn (S + 2) s.2.1) (s.1 - 1) ki 0 q.2.2.2.2 := by have w := hst.2.2.2.2.2 s.2.1 (by omega) (by show s.2.1 < s.2.1 + 1; omega); rw [show (addL s (s.1 - 1) ki).2.2.2 s.2.1 = (s.1 - 1, ki, 0, fun _ => 0) from upF_eq] at w; exact LineIs.zero w
          refine r_iconst B dX3_takeLine_36 ?_
          refine r_istore B (lv' := [(4, .int (iI 0)), (3, .int (iI s.2.1)), (0, .ref S), (1, .int (iI ki)), (2, .ref ta)]) dX3_takeLine_37 (by decide) rfl ?_
          have lp4 : ∀ (nlp4 : Nat) (j : Int) (Mc : Mem) (hj0 : 0 ≤ j) (hj1 : j ≤ q.2.1) (hli : LineIs Mc (gP Mn (S + 2) s.2.1) (s.1 - 1) ki j q.2.2.2.2) (hpl : gP Mc (S + 2) = gP Mn (S + 2)) (hfm : ∀ c : Nat, (c < gP Mn (S + 2) s.2.1 ∨ gP Mn (S + 2) s.2.1 + 2 ≤ c) → Same Mn Mc c) (hff : Only M Mc S (S + 53)), (q.2.1 - j).toNat < nlp4 → WM G X 0 0 (bM X (PoI G (fun r M' => ((1 ≤ s.1 ∧ inRg q.2.1 q.2.2.2.2 ∧ s.2.1 < 10) ∧ r = 1 ∧ StateIs M' S (addN s ki q.2.1 q.2.2.2.2) ∧ Only M M' S (S + 53)) ∨ (¬ (1 ≤ s.1 ∧ inRg q.2.1 q.2.2.2.2 ∧ s.2.1 < 10) ∧ r = 0 ∧ M' = M))) 0 0 G) Mc 39 [(0, .ref S), (1, .int (iI ki)), (2, .ref ta), (3, .int (iI s.2.1)), (4, .int (iI j))] [] := by
            intro nlp4
            induction nlp4 with
            | zero => intro j Mc hj0 hj1 hli hpl hfm hff hm; omega
            | succ nlp4 ihlp4 =>
              intro j Mc hj0 hj1 hli hpl hfm hff hm
              refine r_iload B 4 dX3_takeLine_39 rfl ?_
              refine r_aload_n B 2 dX3_takeLine_41 rfl ?_
              refine rg4_numbers B ha.1 q_124 dX3_takeLine_42 ?_
              refine r_vi (y := q.2.1) (by rw [hff.at (c := ta) 3 (by omega)]; exact (hq.2 hl).1) ?_
              refine r_icmp_ge B dX3_takeLine_45 rfl ⟨by omega, by omega⟩ ⟨by omega, by omega⟩ (fun h5 => ?_) (fun h5 => ?_)
              · refine r_iconst B dX3_takeLine_70 ?_
                have hsf : StateIs Mc S (addN s ki q.2.1 q.2.2.2.2) := by
                  have hP1 := (hfm (S + 1) (by omega)).2.2.2
                  refine ⟨by rw [(hfm S (by omega)).1]; exact hst.1, by rw [(hfm S (by omega)).1]; exact hst.2.1, hst.2.2.1.kept hP1, hst.2.2.2.1.kept hpl, fun k p w => ?_, fun k p w => ?_⟩
                  · have w2 : k < s.1 := w
                    rw [hP1]
                    have b3 := hst.2.2.1.in (i := k) p (by omega)
                    exact (hst.2.2.2.2.1 k p w).kept (fun c q1 q2 => hfm c (by omega))
                  · have w2 : k < s.2.1 + 1 := w
                    rw [hpl]
                    show LnIs _ _ (upF s.2.2.2 s.2.1 (s.1 - 1, ki, q.2.1, q.2.2.2.2) k)
                    by_cases z : k = s.2.1
                    · rw [z, upF_eq, ← show j = q.2.1 by omega]; exact hli
                    · rw [upF_ne z]
                      have b3 := hst.2.2.2.1.in (i := k) p (by omega)
                      have b4 := hst.2.2.2.1.apart (i := k) (i' := s.2.1) p (by omega) (by omega) (by omega) z
                      have w3 := hst.2.2.2.2.2 k p w
                      rw [show (addL s (s.1 - 1) ki).2.2.2 k = s.2.2.2 k from upF_ne z] at w3
                      exact w3.kept (fun c q1 q2 => hfm c (by omega))
                exact r_zret B dX3_takeLine_71 (by omega) (Or.inl ⟨⟨by omega, hin, hroom⟩, rfl, hsf, hff⟩)
              · have hvj := hin j hj0 (by omega)
                refine r_aload_n B 0 dX3_takeLine_48 rfl ?_
                refine rg3_lineRow B hS.1 q_99 dX3_takeLine_49 ?_
                refine r_iload_n B 3 dX3_takeLine_52 rfl ?_
                refine r_aaload9 B dX3_takeLine_53 hS.2.2.1 (by omega) (by omega) ?_
                refine r_va (y := gP Mn (S + 2) s.2.1) (by rw [hpl]) ?_
                refine r_aload_n B 2 dX3_takeLine_54 rfl ?_
                refine rg4_values B ha.1 q_126 dX3_takeLine_55 ?_
                refine r_iload B 4 dX3_takeLine_58 rfl ?_
                refine r_iaload B dX3_takeLine_60 ha.2.2 (by omega) (by omega) ?_
                refine r_vi (y := q.2.2.2.2 j) (by rw [hff.at (c := ta + 2) j (by omega)]; exact (hq.2 hl).2.2.2 j hj0 (by omega)) ?_
                refine r_Vv1 B (c_X1_push l G Mc (gP Mn (S + 2) s.2.1) (s.1 - 1) ki j q.2.2.2.2 (RowL.line hS hst.2.2.2.1 (by omega) (by omega)) hli ⟨hj0, by omega, fun i a b => hin i a (by omega)⟩ (q.2.2.2.2 j) (by omega) (by omega) (by omega)) ⟨rfl, rfl⟩ ok_X1_push vi_X1_push q_307 (RowL.line hS hst.2.2.2.1 (i := s.2.1) (by omega) (by omega)).1 rfl (fun _ => rfl) ⟨Nat.le_of_ble_eq_true rfl, Nat.le_of_ble_eq_true rfl, Nat.le_of_ble_eq_true rfl⟩ ⟨Nat.le_of_ble_eq_true rfl, Nat.le_of_ble_eq_true rfl⟩ dX3_takeLine_61 (fun Mr hr => ?_)
                refine r_iinc B (lv' := [(4, .int (iI (j + 1))), (0, .ref S), (1, .int (iI ki)), (2, .ref ta), (3, .int (iI s.2.1))]) dX3_takeLine_64 (j := 4) rfl (by decide) rfl ?_
                refine r_goto B dX3_takeLine_67 rfl ?_
                refine WM.pick [1, 2, 3, 4, 0] rfl ?_
                exact ihlp4 (j + 1) Mr (by omega) (by omega) (by rw [ySet_same] at hr; exact hr.1) (by rw [(hr.2 (S + 2) (by omega)).2.2.2]; exact hpl) (fun c w => (hfm c w).tr (hr.2 c (by omega))) (hff.tr (hr.2.wide (by omega) (by omega))) (by omega)
          refine WM.pick [2, 3, 4, 1, 0] rfl ?_
          exact lp4 _ 0 Mn (by omega) (by omega) hl0 rfl (fun c _ => Same.rf Mn c) hfr (Nat.lt_succ_self _)
        · omega
      · subst hnr
        rw [hMn]
        refine r_istore_n B (lv' := [(3, .int (iI (-1))), (0, .ref S), (1, .int (iI ki)), (2, .ref ta)]) dX3_takeLine_28 (by decide) rfl ?_
        refine r_iload_n B 0 dX3_takeLine_29 rfl ?_
        refine r_iconst B dX3_takeLine_30 ?_
        refine r_icmp_ne B dX3_takeLine_31 rfl ⟨by omega, by omega⟩ ⟨by omega, by omega⟩ (fun h6 => ?_) (fun h6 => ?_)
        · exact absurd rfl h6
        · refine r_iconst B dX3_takeLine_34 ?_
          exact r_zret B dX3_takeLine_35 (by omega) (Or.inr ⟨fun w => by omega, rfl, rfl⟩)
    · refine r_iconst B dX3_takeLine_15 ?_
      exact r_zret B dX3_takeLine_16 (by omega) (Or.inr ⟨fun w => by rcases hir with z | z; omega; exact z.1 w.2.1, rfl, rfl⟩)
