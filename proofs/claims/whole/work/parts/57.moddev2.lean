set_option maxRecDepth 100000 in
set_option maxHeartbeats 4000000 in
theorem c_X6_greatestOfLines (l : Launch) (G : Gs) (M : Mem) (md : Nat) (hM : IsMd G md) (s : Ast) (hS_M : MdS M md s) (hok : StateOk s) (ge ki w : Int) (h0 : 0 ≤ ge) (h1 : ge < 6) (k0 : 0 ≤ ki) (k1 : ki ≤ 1) (w0 : 0 ≤ w) (w1 : w < 3) : Ct l G yX6_greatestOfLines cX6_greatestOfLines 7 (some .int) rm_X6_greatestOfLines [.ref md, .int (iI ge), .int (iI ki), .int (iI w)] M (PoI G (fun r M' => r = goF s ge ki w s.2.1.toNat ∧ FL M M' md)) 0 0 := by
  refine Ct.of (by decide +kernel) (Nat.le_of_ble_eq_true rfl) [(0, .ref md), (1, .int (iI ge)), (2, .int (iI ki)), (3, .int (iI w))] rfl ?_
  intro X B
  have hs1 := hok.1
  have hs2 := hok.2.1
  have hs3 := hok.2.2.1
  have hs4 := hok.2.2.2.1
  have hF_M : FL M M md := FL.rf
  refine r_iconst B dX6_greatestOfLines_0 ?_
  refine r_istore B (lv' := [(4, .int (iI 0)), (0, .ref md), (1, .int (iI ge)), (2, .int (iI ki)), (3, .int (iI w))]) dX6_greatestOfLines_1 (by decide) rfl ?_
  refine r_iconst B dX6_greatestOfLines_3 ?_
  refine r_istore B (lv' := [(5, .int (iI 0)), (4, .int (iI 0)), (0, .ref md), (1, .int (iI ge)), (2, .int (iI ki)), (3, .int (iI w))]) dX6_greatestOfLines_4 (by decide) rfl ?_
  have lp1 : ∀ (nlp1 : Nat) (i : Int) (fo : Int) (Mc : Mem) (hi0 : 0 ≤ i) (hi1 : i ≤ s.2.1) (hfo : fo = goF s ge ki w i.toNat) (hF_Mc : FL M Mc md), (s.2.1 - i).toNat < nlp1 → WM G X 0 0 (bM X (PoI G (fun r M' => r = goF s ge ki w s.2.1.toNat ∧ FL M M' md)) 0 0 G) Mc 6 [(0, .ref md), (1, .int (iI ge)), (2, .int (iI ki)), (3, .int (iI w)), (4, .int (iI fo)), (5, .int (iI i))] [] := by
    intro nlp1
    induction nlp1 with
    | zero => intro i fo Mc hi0 hi1 hfo hF_Mc hm; omega
    | succ nlp1 ihlp1 =>
      intro i fo Mc hi0 hi1 hfo hF_Mc hm
      have hS_Mc := hF_Mc.mds hS_M
      have hgo := goF_in hok ge ki w i.toNat (by omega)
      refine r_iload B 5 dX6_greatestOfLines_6 rfl ?_
      refine r_aload_n B 0 dX6_greatestOfLines_8 rfl ?_
      refine rg6_s B hM.1 q_892 dX6_greatestOfLines_9 ?_
      refine r_sipush B (z := 571) dX6_greatestOfLines_12 (by decide) ?_
      refine r_iaload B dX6_greatestOfLines_15 hM.2.1 (by omega) (by omega) ?_
      refine r_vi (y := s.2.1) hS_Mc.2.1 ?_
      refine r_icmp_ge B dX6_greatestOfLines_16 rfl ⟨by omega, by omega⟩ ⟨by omega, by omega⟩ (fun h2 => ?_) (fun h2 => ?_)
      · refine r_iload B 4 dX6_greatestOfLines_86 rfl ?_
        exact r_iret B dX6_greatestOfLines_88 ⟨by rw [hfo, show i = s.2.1 by omega], hF_Mc⟩
      · have hli := hok.2.2.2.2.2 i (by omega) (by omega)
        obtain ⟨⟨hln0, hln1, hlv⟩, hlg0, hlg1, hlk0, hlk1⟩ := id hli
        refine r_aload_n B 0 dX6_greatestOfLines_19 rfl ?_
        refine r_iload B 5 dX6_greatestOfLines_20 rfl ?_
        refine r_iconst B dX6_greatestOfLines_22 ?_
        refine r_pVi2 B (c_X6_of l G Mc md hM i 0 (by omega) (by omega) (by omega) (by omega)) ⟨rfl, rfl⟩ ok_X6_of vi_X6_of q_992 hM.1 rfl (fun _ => rfl) ⟨Nat.le_of_ble_eq_true rfl, Nat.le_of_ble_eq_true rfl, Nat.le_of_ble_eq_true rfl⟩ ⟨Nat.le_of_ble_eq_true rfl, Nat.le_of_ble_eq_true rfl⟩ dX6_greatestOfLines_23 ?_
        refine r_vi (y := (s.2.2.2 i).1) (hS_Mc.2.2.2 i (by omega) (by omega)).1 ?_
        refine r_iload_n B 1 dX6_greatestOfLines_26 rfl ?_
        refine r_icmp_ne B dX6_greatestOfLines_27 rfl ⟨by omega, by omega⟩ ⟨by omega, by omega⟩ (fun h3 => ?_) (fun h3 => ?_)
        · refine r_iinc B (lv' := [(5, .int (iI (i + 1))), (0, .ref md), (1, .int (iI ge)), (2, .int (iI ki)), (3, .int (iI w)), (4, .int (iI fo))]) dX6_greatestOfLines_80 (j := 5) rfl (by decide) rfl ?_
          refine r_goto B dX6_greatestOfLines_83 rfl ?_
          refine WM.pick [1, 2, 3, 4, 5, 0] rfl ?_
          exact ihlp1 (i + 1) _ Mc (by omega) (by omega) (by rw [goF_s _ _ _ _ hi0, if_neg (fun q => h3 q.1), ← hfo]) hF_Mc (by omega)
        · refine r_aload_n B 0 dX6_greatestOfLines_30 rfl ?_
          refine r_iload B 5 dX6_greatestOfLines_31 rfl ?_
          refine r_iconst B dX6_greatestOfLines_33 ?_
          refine r_pVi2 B (c_X6_of l G Mc md hM i 1 (by omega) (by omega) (by omega) (by omega)) ⟨rfl, rfl⟩ ok_X6_of vi_X6_of q_992 hM.1 rfl (fun _ => rfl) ⟨Nat.le_of_ble_eq_true rfl, Nat.le_of_ble_eq_true rfl, Nat.le_of_ble_eq_true rfl⟩ ⟨Nat.le_of_ble_eq_true rfl, Nat.le_of_ble_eq_true rfl⟩ dX6_greatestOfLines_34 ?_
          refine r_vi (y := (s.2.2.2 i).2.1) (hS_Mc.2.2.2 i (by omega) (by omega)).2.1 ?_
          refine r_iload_n B 2 dX6_greatestOfLines_37 rfl ?_
          refine r_icmp_ne B dX6_greatestOfLines_38 rfl ⟨by omega, by omega⟩ ⟨by omega, by omega⟩ (fun h4 => ?_) (fun h4 => ?_)
          · refine r_iinc B (lv' := [(5, .int (iI (i + 1))), (0, .ref md), (1, .int (iI ge)), (2, .int (iI ki)), (3, .int (iI w)), (4, .int (iI fo))]) dX6_greatestOfLines_80 (j := 5) rfl (by decide) rfl ?_
            refine r_goto B dX6_greatestOfLines_83 rfl ?_
            refine WM.pick [1, 2, 3, 4, 5, 0] rfl ?_
            exact ihlp1 (i + 1) _ Mc (by omega) (by omega) (by rw [goF_s _ _ _ _ hi0, if_neg (fun q => h4 q.2.1), ← hfo]) hF_Mc (by omega)
          · refine r_aload_n B 0 dX6_greatestOfLines_41 rfl ?_
            refine r_iload B 5 dX6_greatestOfLines_42 rfl ?_
            refine r_iconst B dX6_greatestOfLines_44 ?_
            refine r_pVi2 B (c_X6_of l G Mc md hM i 2 (by omega) (by omega) (by omega) (by omega)) ⟨rfl, rfl⟩ ok_X6_of vi_X6_of q_992 hM.1 rfl (fun _ => rfl) ⟨Nat.le_of_ble_eq_true rfl, Nat.le_of_ble_eq_true rfl, Nat.le_of_ble_eq_true rfl⟩ ⟨Nat.le_of_ble_eq_true rfl, Nat.le_of_ble_eq_true rfl⟩ dX6_greatestOfLines_45 ?_
            refine r_vi (y := (s.2.2.2 i).2.2.1) (hS_Mc.2.2.2 i (by omega) (by omega)).2.2.1 ?_
            refine r_iconst B dX6_greatestOfLines_48 ?_
            refine r_icmp_le B dX6_greatestOfLines_49 rfl ⟨by omega, by omega⟩ ⟨by omega, by omega⟩ (fun h5 => ?_) (fun h5 => ?_)
            · refine r_iinc B (lv' := [(5, .int (iI (i + 1))), (0, .ref md), (1, .int (iI ge)), (2, .int (iI ki)), (3, .int (iI w)), (4, .int (iI fo))]) dX6_greatestOfLines_80 (j := 5) rfl (by decide) rfl ?_
              refine r_goto B dX6_greatestOfLines_83 rfl ?_
              refine WM.pick [1, 2, 3, 4, 5, 0] rfl ?_
              exact ihlp1 (i + 1) _ Mc (by omega) (by omega) (by rw [goF_s _ _ _ _ hi0, if_neg (fun q => by omega), ← hfo]) hF_Mc (by omega)
            · have hlb := ldS_in (what := w) hli.1 (by omega)
              have h3n : 3 ≤ (s.2.2.2 i).2.2.1 := by omega
              refine r_aload_n B 0 dX6_greatestOfLines_52 rfl ?_
              refine r_iload B 5 dX6_greatestOfLines_53 rfl ?_
              refine r_iload_n B 3 dX6_greatestOfLines_55 rfl ?_
              refine r_Vi2 B (c_X6_lineValue l G Mc md hM s hS_Mc hok i w (by omega) (by omega) (by omega) (by omega) (by omega)) ⟨rfl, rfl⟩ ok_X6_lineValue vi_X6_lineValue q_1115 hM.1 rfl (fun _ => rfl) ⟨Nat.le_of_ble_eq_true rfl, Nat.le_of_ble_eq_true rfl, Nat.le_of_ble_eq_true rfl⟩ ⟨Nat.le_of_ble_eq_true rfl, Nat.le_of_ble_eq_true rfl⟩ dX6_greatestOfLines_56 (fun rQ6 Q6 h_Q6 => ?_)
              obtain ⟨hv_Q6, hf_Q6⟩ := h_Q6
              rw [hv_Q6]
              clear hv_Q6
              have hS_Q6 := hf_Q6.mds hS_Mc
              have hF_Q6 := hF_Mc.tr hf_Q6
              refine r_pSi1 B (c_X6_size l G Q6  (ldS (s.2.2.2 i).2.2.2 (s.2.2.2 i).2.2.1 w) ⟨by omega, by omega⟩) ⟨rfl, rfl⟩ ok_X6_size q_1101 q_1100 ⟨Nat.le_of_ble_eq_true rfl, Nat.le_of_ble_eq_true rfl, Nat.le_of_ble_eq_true rfl⟩ ⟨Nat.le_of_ble_eq_true rfl, Nat.le_of_ble_eq_true rfl⟩ dX6_greatestOfLines_59 ?_
              have hab : 0 ≤ absI (ldS (s.2.2.2 i).2.2.2 (s.2.2.2 i).2.2.1 w) ∧ absI (ldS (s.2.2.2 i).2.2.2 (s.2.2.2 i).2.2.1 w) ≤ 1000000000 := by show 0 ≤ max _ _ ∧ max _ _ ≤ (1000000000 : Int); omega
              refine r_istore B (lv' := [(6, .int (iI (absI (ldS (s.2.2.2 i).2.2.2 (s.2.2.2 i).2.2.1 w)))), (0, .ref md), (1, .int (iI ge)), (2, .int (iI ki)), (3, .int (iI w)), (4, .int (iI fo)), (5, .int (iI i))]) dX6_greatestOfLines_62 (by decide) rfl ?_
              refine r_iload B 0 dX6_greatestOfLines_64 rfl ?_
              refine r_iload B 5 dX6_greatestOfLines_66 rfl ?_
              have J7 : ∀ w1 : Int, (w1 = max fo (absI (ldS (s.2.2.2 i).2.2.2 (s.2.2.2 i).2.2.1 w))) → WM G X 0 0 (bM X (PoI G (fun r M' => r = goF s ge ki w s.2.1.toNat ∧ FL M M' md)) 0 0 G) Q6 78 [(6, .int (iI (absI (ldS (s.2.2.2 i).2.2.2 (s.2.2.2 i).2.2.1 w)))), (0, .ref md), (1, .int (iI ge)), (2, .int (iI ki)), (3, .int (iI w)), (4, .int (iI fo)), (5, .int (iI i))] [.int (iI w1)] := by
                intro w1 hw1
                refine r_istore B (lv' := [(4, .int (iI w1)), (6, .int (iI (absI (ldS (s.2.2.2 i).2.2.2 (s.2.2.2 i).2.2.1 w)))), (0, .ref md), (1, .int (iI ge)), (2, .int (iI ki)), (3, .int (iI w)), (5, .int (iI i))]) dX6_greatestOfLines_78 (by decide) rfl ?_
                refine r_iinc B (lv' := [(5, .int (iI (i + 1))), (4, .int (iI w1)), (6, .int (iI (absI (ldS (s.2.2.2 i).2.2.2 (s.2.2.2 i).2.2.1 w)))), (0, .ref md), (1, .int (iI ge)), (2, .int (iI ki)), (3, .int (iI w))]) dX6_greatestOfLines_80 (j := 6) rfl (by decide) rfl ?_
                refine r_goto B dX6_greatestOfLines_83 rfl ?_
                refine WM.pick [3, 4, 5, 6, 1, 0] rfl ?_
                exact ihlp1 (i + 1) _ Q6 (by omega) (by omega) (by rw [goF_s _ _ _ _ hi0, if_pos ⟨h3, h4, h3n⟩, ← hfo]; exact hw1) hF_Q6 (by omega)
              refine r_icmp_le B dX6_greatestOfLines_68 rfl ⟨by omega, by omega⟩ ⟨by omega, by omega⟩ (fun h8 => ?_) (fun h8 => ?_)
              · refine r_iload B 5 dX6_greatestOfLines_76 rfl ?_
                exact J7 _ (by omega)
              · refine r_iload B 0 dX6_greatestOfLines_71 rfl ?_
                refine r_goto B dX6_greatestOfLines_73 rfl ?_
                exact J7 _ (by omega)
  refine WM.pick [2, 3, 4, 5, 1, 0] rfl ?_
  exact lp1 _ 0 0 M (by omega) (by omega) rfl FL.rf (Nat.lt_succ_self _)

set_option maxRecDepth 100000 in
set_option maxHeartbeats 4000000 in
theorem c_X6_deviationOf (l : Launch) (G : Gs) (M : Mem) (md : Nat) (hM : IsMd G md) (s : Ast) (hS_M : MdS M md s) (hok : StateOk s) (ge w : Int) (h0 : 0 ≤ ge) (h1 : ge < s.1) (w0 : 0 ≤ w) (w1 : w < 9) : Ct l G yX6_deviationOf cX6_deviationOf 3 (some .int) rm_X6_deviationOf [.ref md, .int (iI ge), .int (iI w)] M (PoI G (fun r M' => r = dvS s ge w ∧ FL M M' md)) 0 0 := by
  refine Ct.of (by decide +kernel) (Nat.le_of_ble_eq_true rfl) [(0, .ref md), (1, .int (iI ge)), (2, .int (iI w))] rfl ?_
  intro X B
  have hs1 := hok.1
  have hs2 := hok.2.1
  have hs3 := hok.2.2.1
  have hs4 := hok.2.2.2.1
  have hF_M : FL M M md := FL.rf
  have hgk := hok.2.2.2.2.1 ge (by omega) (by omega)
  obtain ⟨hgk1, hgk2, hgk3, hgk4, hgk5⟩ := id hgk
  have q0 := irS_in hgk (s := 0) (by omega) (by omega)
  have q1 := irS_in hgk (s := 1) (by omega) (by omega)
  refine r_iload_n B 2 dX6_deviationOf_0 rfl ?_
  rcases (show w = 0 ∨ w = 1 ∨ w = 2 ∨ 3 ≤ w by omega) with hw | hw | hw | hw3
  · refine r_vi (y := 0) hw ?_
    refine r_tabIn B dX6_deviationOf_1 ⟨by omega, by omega⟩ (off := 27) (tgt := 28) (by omega) (by omega) rfl rfl ?_
    refine r_aload_n B 0 dX6_deviationOf_28 rfl ?_
    refine r_iload_n B 1 dX6_deviationOf_29 rfl ?_
    refine r_pVi1 B (c_X6_greatestPitch l G M md hM s hS_M hok ge (by omega) (by omega)) ⟨rfl, rfl⟩ ok_X6_greatestPitch vi_X6_greatestPitch q_1082 hM.1 rfl (fun _ => rfl) ⟨Nat.le_of_ble_eq_true rfl, Nat.le_of_ble_eq_true rfl, Nat.le_of_ble_eq_true rfl⟩ ⟨Nat.le_of_ble_eq_true rfl, Nat.le_of_ble_eq_true rfl⟩ dX6_deviationOf_30 ?_
    exact r_iret B dX6_deviationOf_33 ⟨by unfold dvS; rw [if_pos hw], FL.rf⟩
  · refine r_vi (y := 1) hw ?_
    refine r_tabIn B dX6_deviationOf_1 ⟨by omega, by omega⟩ (off := 33) (tgt := 34) (by omega) (by omega) rfl rfl ?_
    refine r_aload_n B 0 dX6_deviationOf_34 rfl ?_
    refine r_iload_n B 1 dX6_deviationOf_35 rfl ?_
    refine r_iconst B dX6_deviationOf_36 ?_
    refine r_pVi2 B (c_X6_indexRange l G M md hM s hS_M hok ge 0 (by omega) (by omega) (by omega) (by omega)) ⟨rfl, rfl⟩ ok_X6_indexRange vi_X6_indexRange q_1103 hM.1 rfl (fun _ => rfl) ⟨Nat.le_of_ble_eq_true rfl, Nat.le_of_ble_eq_true rfl, Nat.le_of_ble_eq_true rfl⟩ ⟨Nat.le_of_ble_eq_true rfl, Nat.le_of_ble_eq_true rfl⟩ dX6_deviationOf_37 ?_
    refine r_aload_n B 0 dX6_deviationOf_40 rfl ?_
    refine r_iload_n B 1 dX6_deviationOf_41 rfl ?_
    refine r_iconst B dX6_deviationOf_42 ?_
    refine r_pVi2 B (c_X6_indexRange l G M md hM s hS_M hok ge 1 (by omega) (by omega) (by omega) (by omega)) ⟨rfl, rfl⟩ ok_X6_indexRange vi_X6_indexRange q_1103 hM.1 rfl (fun _ => rfl) ⟨Nat.le_of_ble_eq_true rfl, Nat.le_of_ble_eq_true rfl, Nat.le_of_ble_eq_true rfl⟩ ⟨Nat.le_of_ble_eq_true rfl, Nat.le_of_ble_eq_true rfl⟩ dX6_deviationOf_43 ?_
    have J1 : ∀ mm : Int, (mm = max (irS (s.2.2.1 ge).1 ((s.2.2.1 ge).2.2 0)) (irS (s.2.2.1 ge).1 ((s.2.2.1 ge).2.2 1))) → WM G X 0 0 (bM X (PoI G (fun r M' => r = dvS s ge w ∧ FL M M' md)) 0 0 G) M 64 [(0, .ref md), (1, .int (iI ge)), (2, .int (iI w))] [.int (iI mm)] := by
      intro mm hmm
      exact r_iret B dX6_deviationOf_64 ⟨by unfold dvS; rw [if_neg (by omega), if_pos hw]; exact hmm, FL.rf⟩
    refine r_icmp_le B dX6_deviationOf_46 rfl ⟨by omega, by omega⟩ ⟨by omega, by omega⟩ (fun h2 => ?_) (fun h2 => ?_)
    · refine r_aload_n B 0 dX6_deviationOf_58 rfl ?_
      refine r_iload_n B 1 dX6_deviationOf_59 rfl ?_
      refine r_iconst B dX6_deviationOf_60 ?_
      refine r_pVi2 B (c_X6_indexRange l G M md hM s hS_M hok ge 1 (by omega) (by omega) (by omega) (by omega)) ⟨rfl, rfl⟩ ok_X6_indexRange vi_X6_indexRange q_1103 hM.1 rfl (fun _ => rfl) ⟨Nat.le_of_ble_eq_true rfl, Nat.le_of_ble_eq_true rfl, Nat.le_of_ble_eq_true rfl⟩ ⟨Nat.le_of_ble_eq_true rfl, Nat.le_of_ble_eq_true rfl⟩ dX6_deviationOf_61 ?_
      exact J1 _ (by omega)
    · refine r_aload_n B 0 dX6_deviationOf_49 rfl ?_
      refine r_iload_n B 1 dX6_deviationOf_50 rfl ?_
      refine r_iconst B dX6_deviationOf_51 ?_
      refine r_pVi2 B (c_X6_indexRange l G M md hM s hS_M hok ge 0 (by omega) (by omega) (by omega) (by omega)) ⟨rfl, rfl⟩ ok_X6_indexRange vi_X6_indexRange q_1103 hM.1 rfl (fun _ => rfl) ⟨Nat.le_of_ble_eq_true rfl, Nat.le_of_ble_eq_true rfl, Nat.le_of_ble_eq_true rfl⟩ ⟨Nat.le_of_ble_eq_true rfl, Nat.le_of_ble_eq_true rfl⟩ dX6_deviationOf_52 ?_
      refine r_goto B dX6_deviationOf_55 rfl ?_
      exact J1 _ (by omega)
  · refine r_vi (y := 2) hw ?_
    refine r_tabIn B dX6_deviationOf_1 ⟨by omega, by omega⟩ (off := 64) (tgt := 65) (by omega) (by omega) rfl rfl ?_
    refine r_aload_n B 0 dX6_deviationOf_65 rfl ?_
    refine r_iload_n B 1 dX6_deviationOf_66 rfl ?_
    refine r_pVi1 B (c_X6_runout l G M md hM s hS_M hok ge (by omega) (by omega)) ⟨rfl, rfl⟩ ok_X6_runout vi_X6_runout q_1107 hM.1 rfl (fun _ => rfl) ⟨Nat.le_of_ble_eq_true rfl, Nat.le_of_ble_eq_true rfl, Nat.le_of_ble_eq_true rfl⟩ ⟨Nat.le_of_ble_eq_true rfl, Nat.le_of_ble_eq_true rfl⟩ dX6_deviationOf_67 ?_
    exact r_iret B dX6_deviationOf_70 ⟨by unfold dvS; rw [if_neg (by omega), if_neg (by omega), if_pos hw], FL.rf⟩
  · refine r_tabOut B dX6_deviationOf_1 ⟨by omega, by omega⟩ (tgt := 71) (Or.inr (by omega)) rfl ?_
    refine r_aload_n B 0 dX6_deviationOf_71 rfl ?_
    refine r_iload_n B 1 dX6_deviationOf_72 rfl ?_
    refine r_iload_n B 2 dX6_deviationOf_73 rfl ?_
    refine r_bipush B (z := 6) dX6_deviationOf_74 (by decide) ?_
    have J3 : ∀ kk : Int, ((w < 6 ∧ kk = 0) ∨ (6 ≤ w ∧ kk = 1)) → WM G X 0 0 (bM X (PoI G (fun r M' => r = dvS s ge w ∧ FL M M' md)) 0 0 G) M 84 [(0, .ref md), (1, .int (iI ge)), (2, .int (iI w))] [.int (iI kk), .int (iI ge), .ref md] := by
      intro kk hkk
      refine r_iload_n B 2 dX6_deviationOf_84 rfl ?_
      refine r_iconst B dX6_deviationOf_85 ?_
      refine r_irem B dX6_deviationOf_86 ⟨by omega, by omega⟩ ⟨by omega, by omega⟩ (by omega) ?_
      refine r_vi (y := w % 3) (Int.tmod_eq_emod_of_nonneg (by omega)) ?_
      refine r_Vi3 B (c_X6_greatestOfLines l G M md hM s hS_M hok ge kk (w % 3) (by omega) (by omega) (by omega) (by omega) (by omega) (by omega)) ⟨rfl, rfl⟩ ok_X6_greatestOfLines vi_X6_greatestOfLines q_1111 hM.1 rfl (fun _ => rfl) ⟨Nat.le_of_ble_eq_true rfl, Nat.le_of_ble_eq_true rfl, Nat.le_of_ble_eq_true rfl⟩ ⟨Nat.le_of_ble_eq_true rfl, Nat.le_of_ble_eq_true rfl⟩ dX6_deviationOf_87 (fun rQ4 Q4 h_Q4 => ?_)
      obtain ⟨hv_Q4, hf_Q4⟩ := h_Q4
      rw [hv_Q4]
      clear hv_Q4
      have hS_Q4 := hf_Q4.mds hS_M
      have hF_Q4 := hF_M.tr hf_Q4
      exact r_iret B dX6_deviationOf_90 ⟨by unfold dvS; rw [if_neg (by omega), if_neg (by omega), if_neg (by omega), show (w - 3) / 3 = kk by omega, show (w - 3) % 3 = w % 3 by omega], hF_Q4⟩
    refine r_icmp_ge B dX6_deviationOf_76 rfl ⟨by omega, by omega⟩ ⟨by omega, by omega⟩ (fun h5 => ?_) (fun h5 => ?_)
    · refine r_iconst B dX6_deviationOf_83 ?_
      exact J3 _ (by omega)
    · refine r_iconst B dX6_deviationOf_79 ?_
      refine r_goto B dX6_deviationOf_80 rfl ?_
      exact J3 _ (by omega)

set_option maxRecDepth 100000 in
set_option maxHeartbeats 4000000 in
theorem c_X6_deviation (l : Launch) (G : Gs) (M : Mem) (md : Nat) (hM : IsMd G md) (s : Ast) (hS_M : MdS M md s) (hok : StateOk s) (ge wh : Int) (hge : In32 ge) (hwh : In32 wh) : Ct l G yX6_deviation cX6_deviation 3 (some .int) rm_X6_deviation [.ref md, .int (iI ge), .int (iI wh)] M (PoI G (fun r M' => r = (oDev s ge wh).2 ∧ ∃ M1 : Mem, FL M M1 md ∧ M' = sI M1 md 6 (oDev s ge wh).1)) 0 0 := by
  refine Ct.of (by decide +kernel) (Nat.le_of_ble_eq_true rfl) [(0, .ref md), (1, .int (iI ge)), (2, .int (iI wh))] rfl ?_
  intro X B
  have hs1 := hok.1
  have hs2 := hok.2.1
  have hs3 := hok.2.2.1
  have hs4 := hok.2.2.2.1
  have hF_M : FL M M md := FL.rf
  obtain ⟨hge1, hge2⟩ := hge
  obtain ⟨hwh1, hwh2⟩ := hwh
  have i1 := inF_in ge 0 (s.1 - 1)
  have i2 := inF_in wh 0 8
  refine r_aload_n B 0 dX6_deviation_0 rfl ?_
  refine r_iload_n B 1 dX6_deviation_1 rfl ?_
  refine r_pVz1 B (c_X6_isGear l G M md hM s hS_M hok ge ⟨by omega, by omega⟩) ⟨rfl, rfl⟩ ok_X6_isGear vi_X6_isGear q_988 hM.1 rfl (fun _ => rfl) ⟨Nat.le_of_ble_eq_true rfl, Nat.le_of_ble_eq_true rfl, Nat.le_of_ble_eq_true rfl⟩ ⟨Nat.le_of_ble_eq_true rfl, Nat.le_of_ble_eq_true rfl⟩ dX6_deviation_2 ?_
  refine r_if_ne B dX6_deviation_5 rfl ⟨by omega, by omega⟩ (fun h1 => ?_) (fun h1 => ?_)
  · have q_h1 := inF_1 h1
    refine r_iload_n B 2 dX6_deviation_14 rfl ?_
    refine r_pSz1 B (c_X6_isDeviation l G M  wh ⟨by omega, by omega⟩) ⟨rfl, rfl⟩ ok_X6_isDeviation q_1173 q_1172 ⟨Nat.le_of_ble_eq_true rfl, Nat.le_of_ble_eq_true rfl, Nat.le_of_ble_eq_true rfl⟩ ⟨Nat.le_of_ble_eq_true rfl, Nat.le_of_ble_eq_true rfl⟩ dX6_deviation_15 ?_
    refine r_if_eq B dX6_deviation_18 rfl ⟨by omega, by omega⟩ (fun h2 => ?_) (fun h2 => ?_)
    · have q_h2 := inF_0 h2
      refine r_aload_n B 0 dX6_deviation_34 rfl ?_
      refine r_iconst B dX6_deviation_35 ?_
      refine r_Vi1 B (c_X6_fails l G M md hM 2) ⟨rfl, rfl⟩ ok_X6_fails vi_X6_fails q_964 hM.1 rfl (fun _ => rfl) ⟨Nat.le_of_ble_eq_true rfl, Nat.le_of_ble_eq_true rfl, Nat.le_of_ble_eq_true rfl⟩ ⟨Nat.le_of_ble_eq_true rfl, Nat.le_of_ble_eq_true rfl⟩ dX6_deviation_36 (fun rf Mf hff => ?_)
      obtain ⟨hf1, hf2⟩ := hff
      rw [hf1, hf2]
      clear hf1 hf2
      have ho : oDev s ge wh = (2, 0) := by unfold oDev; rw [if_neg (by omega), if_pos (by omega)]
      exact r_iret B dX6_deviation_39 ⟨by rw [ho], _, hF_M, by rw [ho]⟩
    · have q_h2 := inF_1 h2
      have hdv := dvS_in hok (g := ge) (w := wh) (by omega) (by omega)
      refine r_aload_n B 0 dX6_deviation_21 rfl ?_
      refine r_aload_n B 0 dX6_deviation_22 rfl ?_
      refine r_iload_n B 1 dX6_deviation_23 rfl ?_
      refine r_iload_n B 2 dX6_deviation_24 rfl ?_
      refine r_Vi2 B (c_X6_deviationOf l G M md hM s hS_M hok ge wh (by omega) (by omega) (by omega) (by omega)) ⟨rfl, rfl⟩ ok_X6_deviationOf vi_X6_deviationOf q_1078 hM.1 rfl (fun _ => rfl) ⟨Nat.le_of_ble_eq_true rfl, Nat.le_of_ble_eq_true rfl, Nat.le_of_ble_eq_true rfl⟩ ⟨Nat.le_of_ble_eq_true rfl, Nat.le_of_ble_eq_true rfl⟩ dX6_deviation_25 (fun rQ3 Q3 h_Q3 => ?_)
      obtain ⟨hv_Q3, hf_Q3⟩ := h_Q3
      rw [hv_Q3]
      clear hv_Q3
      have hS_Q3 := hf_Q3.mds hS_M
      have hF_Q3 := hF_M.tr hf_Q3
      refine r_Vi1 B (c_X6_tells l G Q3 md hM (dvS s ge wh)) ⟨rfl, rfl⟩ ok_X6_tells vi_X6_tells q_980 hM.1 rfl (fun _ => rfl) ⟨Nat.le_of_ble_eq_true rfl, Nat.le_of_ble_eq_true rfl, Nat.le_of_ble_eq_true rfl⟩ ⟨Nat.le_of_ble_eq_true rfl, Nat.le_of_ble_eq_true rfl⟩ dX6_deviation_28 (fun rf Mf hff => ?_)
      obtain ⟨hf1, hf2⟩ := hff
      rw [hf1, hf2]
      clear hf1 hf2
      refine r_goto B dX6_deviation_31 rfl ?_
      have ho : oDev s ge wh = (0, dvS s ge wh) := by unfold oDev; rw [if_neg (by omega), if_neg (by omega)]
      exact r_iret B dX6_deviation_39 ⟨by rw [ho], _, hF_Q3, by rw [ho]⟩
  · have q_h1 := inF_0 h1
    refine r_aload_n B 0 dX6_deviation_8 rfl ?_
    refine r_iconst B dX6_deviation_9 ?_
    refine r_Vi1 B (c_X6_fails l G M md hM 1) ⟨rfl, rfl⟩ ok_X6_fails vi_X6_fails q_964 hM.1 rfl (fun _ => rfl) ⟨Nat.le_of_ble_eq_true rfl, Nat.le_of_ble_eq_true rfl, Nat.le_of_ble_eq_true rfl⟩ ⟨Nat.le_of_ble_eq_true rfl, Nat.le_of_ble_eq_true rfl⟩ dX6_deviation_10 (fun rf Mf hff => ?_)
    obtain ⟨hf1, hf2⟩ := hff
    rw [hf1, hf2]
    clear hf1 hf2
    have ho : oDev s ge wh = (1, 0) := by unfold oDev; rw [if_pos (by omega)]
    exact r_iret B dX6_deviation_13 ⟨by rw [ho], _, hF_M, by rw [ho]⟩

set_option maxRecDepth 100000 in
set_option maxHeartbeats 4000000 in
theorem c_X6_lineDeviation (l : Launch) (G : Gs) (M : Mem) (md : Nat) (hM : IsMd G md) (s : Ast) (hS_M : MdS M md s) (hok : StateOk s) (li wh : Int) (hli : In32 li) (hwh : In32 wh) : Ct l G yX6_lineDeviation cX6_lineDeviation 3 (some .int) rm_X6_lineDeviation [.ref md, .int (iI li), .int (iI wh)] M (PoI G (fun r M' => r = (oLdev s li wh).2 ∧ ∃ M1 : Mem, FL M M1 md ∧ M' = sI M1 md 6 (oLdev s li wh).1)) 0 0 := by
  refine Ct.of (by decide +kernel) (Nat.le_of_ble_eq_true rfl) [(0, .ref md), (1, .int (iI li)), (2, .int (iI wh))] rfl ?_
  intro X B
  have hs1 := hok.1
  have hs2 := hok.2.1
  have hs3 := hok.2.2.1
  have hs4 := hok.2.2.2.1
  have hF_M : FL M M md := FL.rf
  obtain ⟨hli1, hli2⟩ := hli
  obtain ⟨hwh1, hwh2⟩ := hwh
  have i1 := inF_in li 0 (s.2.1 - 1)
  have i2 := inF_in wh 0 2
  refine r_aload_n B 0 dX6_lineDeviation_0 rfl ?_
  refine r_iload_n B 1 dX6_lineDeviation_1 rfl ?_
  refine r_pVz1 B (c_X6_isLine l G M md hM s hS_M hok li ⟨by omega, by omega⟩) ⟨rfl, rfl⟩ ok_X6_isLine vi_X6_isLine q_1188 hM.1 rfl (fun _ => rfl) ⟨Nat.le_of_ble_eq_true rfl, Nat.le_of_ble_eq_true rfl, Nat.le_of_ble_eq_true rfl⟩ ⟨Nat.le_of_ble_eq_true rfl, Nat.le_of_ble_eq_true rfl⟩ dX6_lineDeviation_2 ?_
  refine r_if_ne B dX6_lineDeviation_5 rfl ⟨by omega, by omega⟩ (fun h1 => ?_) (fun h1 => ?_)
  · have q_h1 := inF_1 h1
    refine r_iload_n B 2 dX6_lineDeviation_14 rfl ?_
    refine r_i2l B dX6_lineDeviation_15 ⟨by omega, by omega⟩ ?_
    refine r_lconst0 B dX6_lineDeviation_16 ?_
    refine r_ldc2 B (z := 2) dX6_lineDeviation_17 q_1008 (by decide) ?_
    refine r_pSz3 B (c_X6_in l G M  wh 0 2 ⟨by omega, by omega⟩ ⟨by omega, by omega⟩ ⟨by omega, by omega⟩) ⟨rfl, rfl⟩ ok_X6_in q_961 q_960 ⟨Nat.le_of_ble_eq_true rfl, Nat.le_of_ble_eq_true rfl, Nat.le_of_ble_eq_true rfl⟩ ⟨Nat.le_of_ble_eq_true rfl, Nat.le_of_ble_eq_true rfl⟩ dX6_lineDeviation_20 ?_
    refine r_if_ne B dX6_lineDeviation_23 rfl ⟨by omega, by omega⟩ (fun h2 => ?_) (fun h2 => ?_)
    · have q_h2 := inF_1 h2
      have hlk := hok.2.2.2.2.2 li (by omega) (by omega)
      obtain ⟨⟨hln0, hln1, hlv⟩, hlg0, hlg1, hlk0, hlk1⟩ := id hlk
      refine r_aload_n B 0 dX6_lineDeviation_32 rfl ?_
      refine r_iload_n B 1 dX6_lineDeviation_33 rfl ?_
      refine r_iconst B dX6_lineDeviation_34 ?_
      refine r_pVi2 B (c_X6_of l G M md hM li 2 (by omega) (by omega) (by omega) (by omega)) ⟨rfl, rfl⟩ ok_X6_of vi_X6_of q_992 hM.1 rfl (fun _ => rfl) ⟨Nat.le_of_ble_eq_true rfl, Nat.le_of_ble_eq_true rfl, Nat.le_of_ble_eq_true rfl⟩ ⟨Nat.le_of_ble_eq_true rfl, Nat.le_of_ble_eq_true rfl⟩ dX6_lineDeviation_35 ?_
      refine r_vi (y := (s.2.2.2 li).2.2.1) (hS_M.2.2.2 li (by omega) (by omega)).2.2.1 ?_
      refine r_iconst B dX6_lineDeviation_38 ?_
      refine r_icmp_ge B dX6_lineDeviation_39 rfl ⟨by omega, by omega⟩ ⟨by omega, by omega⟩ (fun h3 => ?_) (fun h3 => ?_)
      · have hlb := ldS_in (what := wh) hlk.1 (by omega)
        refine r_aload_n B 0 dX6_lineDeviation_50 rfl ?_
        refine r_aload_n B 0 dX6_lineDeviation_51 rfl ?_
        refine r_iload_n B 1 dX6_lineDeviation_52 rfl ?_
        refine r_iload_n B 2 dX6_lineDeviation_53 rfl ?_
        refine r_Vi2 B (c_X6_lineValue l G M md hM s hS_M hok li wh (by omega) (by omega) (by omega) (by omega) (by omega)) ⟨rfl, rfl⟩ ok_X6_lineValue vi_X6_lineValue q_1115 hM.1 rfl (fun _ => rfl) ⟨Nat.le_of_ble_eq_true rfl, Nat.le_of_ble_eq_true rfl, Nat.le_of_ble_eq_true rfl⟩ ⟨Nat.le_of_ble_eq_true rfl, Nat.le_of_ble_eq_true rfl⟩ dX6_lineDeviation_54 (fun rQ4 Q4 h_Q4 => ?_)
        obtain ⟨hv_Q4, hf_Q4⟩ := h_Q4
        rw [hv_Q4]
        clear hv_Q4
        have hS_Q4 := hf_Q4.mds hS_M
        have hF_Q4 := hF_M.tr hf_Q4
        refine r_Vi1 B (c_X6_tells l G Q4 md hM (ldS (s.2.2.2 li).2.2.2 (s.2.2.2 li).2.2.1 wh)) ⟨rfl, rfl⟩ ok_X6_tells vi_X6_tells q_980 hM.1 rfl (fun _ => rfl) ⟨Nat.le_of_ble_eq_true rfl, Nat.le_of_ble_eq_true rfl, Nat.le_of_ble_eq_true rfl⟩ ⟨Nat.le_of_ble_eq_true rfl, Nat.le_of_ble_eq_true rfl⟩ dX6_lineDeviation_57 (fun rf Mf hff => ?_)
        obtain ⟨hf1, hf2⟩ := hff
        rw [hf1, hf2]
        clear hf1 hf2
        have ho : oLdev s li wh = (0, ldS (s.2.2.2 li).2.2.2 (s.2.2.2 li).2.2.1 wh) := by unfold oLdev; rw [if_neg (by omega), if_neg (by omega), if_neg (by omega)]
        exact r_iret B dX6_lineDeviation_60 ⟨by rw [ho], _, hF_Q4, by rw [ho]⟩
      · refine r_aload_n B 0 dX6_lineDeviation_42 rfl ?_
        refine r_iconst B dX6_lineDeviation_43 ?_
        refine r_Vi1 B (c_X6_fails l G M md hM 3) ⟨rfl, rfl⟩ ok_X6_fails vi_X6_fails q_964 hM.1 rfl (fun _ => rfl) ⟨Nat.le_of_ble_eq_true rfl, Nat.le_of_ble_eq_true rfl, Nat.le_of_ble_eq_true rfl⟩ ⟨Nat.le_of_ble_eq_true rfl, Nat.le_of_ble_eq_true rfl⟩ dX6_lineDeviation_44 (fun rf Mf hff => ?_)
        obtain ⟨hf1, hf2⟩ := hff
        rw [hf1, hf2]
        clear hf1 hf2
        refine r_goto B dX6_lineDeviation_47 rfl ?_
        have ho : oLdev s li wh = (3, 0) := by unfold oLdev; rw [if_neg (by omega), if_neg (by omega), if_pos (by omega)]
        exact r_iret B dX6_lineDeviation_60 ⟨by rw [ho], _, hF_M, by rw [ho]⟩
    · have q_h2 := inF_0 h2
      refine r_aload_n B 0 dX6_lineDeviation_26 rfl ?_
      refine r_iconst B dX6_lineDeviation_27 ?_
      refine r_Vi1 B (c_X6_fails l G M md hM 2) ⟨rfl, rfl⟩ ok_X6_fails vi_X6_fails q_964 hM.1 rfl (fun _ => rfl) ⟨Nat.le_of_ble_eq_true rfl, Nat.le_of_ble_eq_true rfl, Nat.le_of_ble_eq_true rfl⟩ ⟨Nat.le_of_ble_eq_true rfl, Nat.le_of_ble_eq_true rfl⟩ dX6_lineDeviation_28 (fun rf Mf hff => ?_)
      obtain ⟨hf1, hf2⟩ := hff
      rw [hf1, hf2]
      clear hf1 hf2
      have ho : oLdev s li wh = (2, 0) := by unfold oLdev; rw [if_neg (by omega), if_pos (by omega)]
      exact r_iret B dX6_lineDeviation_31 ⟨by rw [ho], _, hF_M, by rw [ho]⟩
  · have q_h1 := inF_0 h1
    refine r_aload_n B 0 dX6_lineDeviation_8 rfl ?_
    refine r_iconst B dX6_lineDeviation_9 ?_
    refine r_Vi1 B (c_X6_fails l G M md hM 1) ⟨rfl, rfl⟩ ok_X6_fails vi_X6_fails q_964 hM.1 rfl (fun _ => rfl) ⟨Nat.le_of_ble_eq_true rfl, Nat.le_of_ble_eq_true rfl, Nat.le_of_ble_eq_true rfl⟩ ⟨Nat.le_of_ble_eq_true rfl, Nat.le_of_ble_eq_true rfl⟩ dX6_lineDeviation_10 (fun rf Mf hff => ?_)
    obtain ⟨hf1, hf2⟩ := hff
    rw [hf1, hf2]
    clear hf1 hf2
    have ho : oLdev s li wh = (1, 0) := by unfold oLdev; rw [if_pos (by omega)]
    exact r_iret B dX6_lineDeviation_13 ⟨by rw [ho], _, hF_M, by rw [ho]⟩

set_option maxRecDepth 100000 in
set_option maxHeartbeats 4000000 in
theorem c_X6_classOf (l : Launch) (G : Gs) (M : Mem) (md : Nat) (hM : IsMd G md) (s : Ast) (hS_M : MdS M md s) (hok : StateOk s) (ge w : Int) (h0 : 0 ≤ ge) (h1 : ge < s.1) (w0 : -1 ≤ w) (w1 : w < 9) : Ct l G yX6_classOf cX6_classOf 7 (some .int) rm_X6_classOf [.ref md, .int (iI ge), .int (iI w)] M (PoI G (fun r M' => r = claS s ge w ∧ FL M M' md)) 0 0 := by
  refine Ct.of (by decide +kernel) (Nat.le_of_ble_eq_true rfl) [(0, .ref md), (1, .int (iI ge)), (2, .int (iI w))] rfl ?_
  intro X B
  have hs1 := hok.1
  have hs2 := hok.2.1
  have hs3 := hok.2.2.1
  have hs4 := hok.2.2.2.1
  have hF_M : FL M M md := FL.rf
  have hgk := hok.2.2.2.2.1 ge (by omega) (by omega)
  obtain ⟨hgk1, hgk2, hgk3, hgk4, hgk5⟩ := id hgk
  refine r_iconst B dX6_classOf_0 ?_
  refine r_istore_n B (lv' := [(3, .int (iI 1)), (0, .ref md), (1, .int (iI ge)), (2, .int (iI w))]) dX6_classOf_1 (by decide) rfl ?_
  refine r_iconst B dX6_classOf_2 ?_
  refine r_istore B (lv' := [(4, .int (iI 0)), (3, .int (iI 1)), (0, .ref md), (1, .int (iI ge)), (2, .int (iI w))]) dX6_classOf_3 (by decide) rfl ?_
  have lp1 : ∀ (nlp1 : Nat) (d : Int) (fo : Int) (Mc : Mem) (hd0 : 0 ≤ d) (hd1 : d ≤ 9) (hfo : fo = cwF s ge w d.toNat) (hF_Mc : FL M Mc md), (9 - d).toNat < nlp1 → WM G X 0 0 (bM X (PoI G (fun r M' => r = claS s ge w ∧ FL M M' md)) 0 0 G) Mc 5 [(0, .ref md), (1, .int (iI ge)), (2, .int (iI w)), (3, .int (iI fo)), (4, .int (iI d))] [] := by
    intro nlp1
    induction nlp1 with
    | zero => intro d fo Mc hd0 hd1 hfo hF_Mc hm; omega
    | succ nlp1 ihlp1 =>
      intro d fo Mc hd0 hd1 hfo hF_Mc hm
      have hS_Mc := hF_Mc.mds hS_M
      have hcw := cwF_in s ge w d.toNat
      have hkw := kwS_in s ge d
      refine r_iload B 4 dX6_classOf_5 rfl ?_
      refine r_bipush B (z := 9) dX6_classOf_7 (by decide) ?_
      refine r_icmp_ge B dX6_classOf_9 rfl ⟨by omega, by omega⟩ ⟨by omega, by omega⟩ (fun h2 => ?_) (fun h2 => ?_)
      · refine r_iload_n B 3 dX6_classOf_81 rfl ?_
        exact r_iret B dX6_classOf_82 ⟨by rw [hfo, show d = 9 by omega]; exact claS_eq (by omega) (by omega), hF_Mc⟩
      · refine r_iload_n B 2 dX6_classOf_12 rfl ?_
        refine r_iconst B dX6_classOf_13 ?_
        refine r_icmp_eq B dX6_classOf_14 rfl ⟨by omega, by omega⟩ ⟨by omega, by omega⟩ (fun h3 => ?_) (fun h3 => ?_)
        · have hwd : w = -1 ∨ d = w := by omega
          have hdv := dvS_in hok (g := ge) (w := d) (by omega) (by omega)
          have hbt := btS_in (t := (s.2.2.1 ge).1) (m := (s.2.2.1 ge).2.1) (w := d) hgk3 hgk4
          refine r_aload_n B 0 dX6_classOf_23 rfl ?_
          refine r_iload_n B 1 dX6_classOf_24 rfl ?_
          refine r_iload B 4 dX6_classOf_25 rfl ?_
          refine r_Vi2 B (c_X6_deviationOf l G Mc md hM s hS_Mc hok ge d (by omega) (by omega) (by omega) (by omega)) ⟨rfl, rfl⟩ ok_X6_deviationOf vi_X6_deviationOf q_1078 hM.1 rfl (fun _ => rfl) ⟨Nat.le_of_ble_eq_true rfl, Nat.le_of_ble_eq_true rfl, Nat.le_of_ble_eq_true rfl⟩ ⟨Nat.le_of_ble_eq_true rfl, Nat.le_of_ble_eq_true rfl⟩ dX6_classOf_27 (fun rQ4 Q4 h_Q4 => ?_)
          obtain ⟨hv_Q4, hf_Q4⟩ := h_Q4
          rw [hv_Q4]
          clear hv_Q4
          have hS_Q4 := hf_Q4.mds hS_Mc
          have hF_Q4 := hF_Mc.tr hf_Q4
          refine r_istore B (lv' := [(5, .int (iI (dvS s ge d))), (0, .ref md), (1, .int (iI ge)), (2, .int (iI w)), (3, .int (iI fo)), (4, .int (iI d))]) dX6_classOf_30 (by decide) rfl ?_
          refine r_iconst B dX6_classOf_32 ?_
          refine r_istore B (lv' := [(6, .int (iI 1)), (5, .int (iI (dvS s ge d))), (0, .ref md), (1, .int (iI ge)), (2, .int (iI w)), (3, .int (iI fo)), (4, .int (iI d))]) dX6_classOf_33 (by decide) rfl ?_
          have lp5 : ∀ (nlp5 : Nat) (q : Int) (hq1 : 1 ≤ q) (hq2 : q ≤ 13) (hq : kwS s ge d = clF (btS (s.2.2.1 ge).1 (s.2.2.1 ge).2.1 d) (dvS s ge d) (13 - q).toNat), (13 - q).toNat < nlp5 → WM G X 0 0 (bM X (PoI G (fun r M' => r = claS s ge w ∧ FL M M' md)) 0 0 G) Q4 35 [(0, .ref md), (1, .int (iI ge)), (2, .int (iI w)), (3, .int (iI fo)), (4, .int (iI d)), (5, .int (iI (dvS s ge d))), (6, .int (iI q))] [] := by
            intro nlp5
            induction nlp5 with
            | zero => intro q hq1 hq2 hq hm; omega
            | succ nlp5 ihlp5 =>
              intro q hq1 hq2 hq hm
              have hoc := fun (x : q ≤ 12) => ocS_in (v := btS (s.2.2.1 ge).1 (s.2.2.1 ge).2.1 d) hbt.1 hbt.2 (q := q) x
              refine r_iload B 6 dX6_classOf_35 rfl ?_
              refine r_bipush B (z := 13) dX6_classOf_37 (by decide) ?_
              refine r_icmp_ge B dX6_classOf_39 rfl ⟨by omega, by omega⟩ ⟨by omega, by omega⟩ (fun h6 => ?_) (fun h6 => ?_)
              · have hqk : kwS s ge d = q := by rw [hq, show (13 - q).toNat = 0 by omega]; show (13 : Int) = q; omega
                refine r_iload B 6 dX6_classOf_62 rfl ?_
                refine r_iload_n B 3 dX6_classOf_64 rfl ?_
                have J7 : ∀ w1 : Int, (w1 = max fo q) → WM G X 0 0 (bM X (PoI G (fun r M' => r = claS s ge w ∧ FL M M' md)) 0 0 G) Q4 74 [(0, .ref md), (1, .int (iI ge)), (2, .int (iI w)), (3, .int (iI fo)), (4, .int (iI d)), (5, .int (iI (dvS s ge d))), (6, .int (iI q))] [.int (iI w1)] := by
                  intro w1 hw1
                  refine r_istore_n B (lv' := [(3, .int (iI w1)), (0, .ref md), (1, .int (iI ge)), (2, .int (iI w)), (4, .int (iI d)), (5, .int (iI (dvS s ge d))), (6, .int (iI q))]) dX6_classOf_74 (by decide) rfl ?_
                  refine r_iinc B (lv' := [(4, .int (iI (d + 1))), (3, .int (iI w1)), (0, .ref md), (1, .int (iI ge)), (2, .int (iI w)), (5, .int (iI (dvS s ge d))), (6, .int (iI q))]) dX6_classOf_75 (j := 4) rfl (by decide) rfl ?_
                  refine r_goto B dX6_classOf_78 rfl ?_
                  refine WM.pick [2, 3, 4, 1, 0] rfl ?_
                  exact ihlp1 (d + 1) _ Q4 (by omega) (by omega) (by rw [cwF_s _ _ _ hd0, if_pos hwd, ← hfo, hqk]; exact hw1) hF_Q4 (by omega)
                refine r_icmp_le B dX6_classOf_65 rfl ⟨by omega, by omega⟩ ⟨by omega, by omega⟩ (fun h8 => ?_) (fun h8 => ?_)
                · refine r_iload_n B 3 dX6_classOf_73 rfl ?_
                  exact J7 _ (by omega)
                · refine r_iload B 6 dX6_classOf_68 rfl ?_
                  refine r_goto B dX6_classOf_70 rfl ?_
                  exact J7 _ (by omega)
              · have hoc2 := hoc (by omega)
                refine r_aload_n B 0 dX6_classOf_42 rfl ?_
                refine r_iload_n B 1 dX6_classOf_43 rfl ?_
                refine r_iload B 4 dX6_classOf_44 rfl ?_
                refine r_iload B 6 dX6_classOf_46 rfl ?_
                refine r_pVi3 B (c_X6_toleranceOf l G Q4 md hM s hS_Q4 hok ge d q (by omega) (by omega) (by omega) (by omega) (by omega) (by omega)) ⟨rfl, rfl⟩ ok_X6_toleranceOf vi_X6_toleranceOf q_1123 hM.1 rfl (fun _ => rfl) ⟨Nat.le_of_ble_eq_true rfl, Nat.le_of_ble_eq_true rfl, Nat.le_of_ble_eq_true rfl⟩ ⟨Nat.le_of_ble_eq_true rfl, Nat.le_of_ble_eq_true rfl⟩ dX6_classOf_48 ?_
                refine r_iload B 5 dX6_classOf_51 rfl ?_
                refine r_icmp_ge B dX6_classOf_53 rfl ⟨by omega, by omega⟩ ⟨by omega, by omega⟩ (fun h9 => ?_) (fun h9 => ?_)
                · have hqk : kwS s ge d = q := by rw [hq, clF_s _ _ (by omega), if_neg (by omega)]
                  refine r_iload B 6 dX6_classOf_62 rfl ?_
                  refine r_iload_n B 3 dX6_classOf_64 rfl ?_
                  have J10 : ∀ w1 : Int, (w1 = max fo q) → WM G X 0 0 (bM X (PoI G (fun r M' => r = claS s ge w ∧ FL M M' md)) 0 0 G) Q4 74 [(0, .ref md), (1, .int (iI ge)), (2, .int (iI w)), (3, .int (iI fo)), (4, .int (iI d)), (5, .int (iI (dvS s ge d))), (6, .int (iI q))] [.int (iI w1)] := by
                    intro w1 hw1
                    refine r_istore_n B (lv' := [(3, .int (iI w1)), (0, .ref md), (1, .int (iI ge)), (2, .int (iI w)), (4, .int (iI d)), (5, .int (iI (dvS s ge d))), (6, .int (iI q))]) dX6_classOf_74 (by decide) rfl ?_
                    refine r_iinc B (lv' := [(4, .int (iI (d + 1))), (3, .int (iI w1)), (0, .ref md), (1, .int (iI ge)), (2, .int (iI w)), (5, .int (iI (dvS s ge d))), (6, .int (iI q))]) dX6_classOf_75 (j := 4) rfl (by decide) rfl ?_
                    refine r_goto B dX6_classOf_78 rfl ?_
                    refine WM.pick [2, 3, 4, 1, 0] rfl ?_
                    exact ihlp1 (d + 1) _ Q4 (by omega) (by omega) (by rw [cwF_s _ _ _ hd0, if_pos hwd, ← hfo, hqk]; exact hw1) hF_Q4 (by omega)
                  refine r_icmp_le B dX6_classOf_65 rfl ⟨by omega, by omega⟩ ⟨by omega, by omega⟩ (fun h11 => ?_) (fun h11 => ?_)
                  · refine r_iload_n B 3 dX6_classOf_73 rfl ?_
                    exact J10 _ (by omega)
                  · refine r_iload B 6 dX6_classOf_68 rfl ?_
                    refine r_goto B dX6_classOf_70 rfl ?_
                    exact J10 _ (by omega)
                · refine r_iinc B (lv' := [(6, .int (iI (q + 1))), (0, .ref md), (1, .int (iI ge)), (2, .int (iI w)), (3, .int (iI fo)), (4, .int (iI d)), (5, .int (iI (dvS s ge d)))]) dX6_classOf_56 (j := 6) rfl (by decide) rfl ?_
                  refine r_goto B dX6_classOf_59 rfl ?_
                  refine WM.pick [1, 2, 3, 4, 5, 6, 0] rfl ?_
                  exact ihlp5 (q + 1) (by omega) (by omega) (by rw [hq, clF_s _ _ (by omega), if_pos (by omega), show 13 - (q + 1) = 12 - q by omega]) (by omega)
          refine WM.pick [2, 3, 4, 5, 6, 1, 0] rfl ?_
          exact lp5 _ 1 (by omega) (by omega) rfl (Nat.lt_succ_self _)
        · refine r_iload B 4 dX6_classOf_17 rfl ?_
          refine r_iload_n B 2 dX6_classOf_19 rfl ?_
          refine r_icmp_ne B dX6_classOf_20 rfl ⟨by omega, by omega⟩ ⟨by omega, by omega⟩ (fun h12 => ?_) (fun h12 => ?_)
          · refine r_iinc B (lv' := [(4, .int (iI (d + 1))), (0, .ref md), (1, .int (iI ge)), (2, .int (iI w)), (3, .int (iI fo))]) dX6_classOf_75 (j := 4) rfl (by decide) rfl ?_
            refine r_goto B dX6_classOf_78 rfl ?_
            refine WM.pick [1, 2, 3, 4, 0] rfl ?_
            exact ihlp1 (d + 1) _ Mc (by omega) (by omega) (by rw [cwF_s _ _ _ hd0, if_neg (by omega), ← hfo]) hF_Mc (by omega)
          · have hwd : w = -1 ∨ d = w := by omega
            have hdv := dvS_in hok (g := ge) (w := d) (by omega) (by omega)
            have hbt := btS_in (t := (s.2.2.1 ge).1) (m := (s.2.2.1 ge).2.1) (w := d) hgk3 hgk4
            refine r_aload_n B 0 dX6_classOf_23 rfl ?_
            refine r_iload_n B 1 dX6_classOf_24 rfl ?_
            refine r_iload B 4 dX6_classOf_25 rfl ?_
            refine r_Vi2 B (c_X6_deviationOf l G Mc md hM s hS_Mc hok ge d (by omega) (by omega) (by omega) (by omega)) ⟨rfl, rfl⟩ ok_X6_deviationOf vi_X6_deviationOf q_1078 hM.1 rfl (fun _ => rfl) ⟨Nat.le_of_ble_eq_true rfl, Nat.le_of_ble_eq_true rfl, Nat.le_of_ble_eq_true rfl⟩ ⟨Nat.le_of_ble_eq_true rfl, Nat.le_of_ble_eq_true rfl⟩ dX6_classOf_27 (fun rQ13 Q13 h_Q13 => ?_)
            obtain ⟨hv_Q13, hf_Q13⟩ := h_Q13
            rw [hv_Q13]
            clear hv_Q13
            have hS_Q13 := hf_Q13.mds hS_Mc
            have hF_Q13 := hF_Mc.tr hf_Q13
            refine r_istore B (lv' := [(5, .int (iI (dvS s ge d))), (0, .ref md), (1, .int (iI ge)), (2, .int (iI w)), (3, .int (iI fo)), (4, .int (iI d))]) dX6_classOf_30 (by decide) rfl ?_
            refine r_iconst B dX6_classOf_32 ?_
            refine r_istore B (lv' := [(6, .int (iI 1)), (5, .int (iI (dvS s ge d))), (0, .ref md), (1, .int (iI ge)), (2, .int (iI w)), (3, .int (iI fo)), (4, .int (iI d))]) dX6_classOf_33 (by decide) rfl ?_
            have lp14 : ∀ (nlp14 : Nat) (q : Int) (hq1 : 1 ≤ q) (hq2 : q ≤ 13) (hq : kwS s ge d = clF (btS (s.2.2.1 ge).1 (s.2.2.1 ge).2.1 d) (dvS s ge d) (13 - q).toNat), (13 - q).toNat < nlp14 → WM G X 0 0 (bM X (PoI G (fun r M' => r = claS s ge w ∧ FL M M' md)) 0 0 G) Q13 35 [(0, .ref md), (1, .int (iI ge)), (2, .int (iI w)), (3, .int (iI fo)), (4, .int (iI d)), (5, .int (iI (dvS s ge d))), (6, .int (iI q))] [] := by
              intro nlp14
              induction nlp14 with
              | zero => intro q hq1 hq2 hq hm; omega
              | succ nlp14 ihlp14 =>
                intro q hq1 hq2 hq hm
                have hoc := fun (x : q ≤ 12) => ocS_in (v := btS (s.2.2.1 ge).1 (s.2.2.1 ge).2.1 d) hbt.1 hbt.2 (q := q) x
                refine r_iload B 6 dX6_classOf_35 rfl ?_
                refine r_bipush B (z := 13) dX6_classOf_37 (by decide) ?_
                refine r_icmp_ge B dX6_classOf_39 rfl ⟨by omega, by omega⟩ ⟨by omega, by omega⟩ (fun h15 => ?_) (fun h15 => ?_)
                · have hqk : kwS s ge d = q := by rw [hq, show (13 - q).toNat = 0 by omega]; show (13 : Int) = q; omega
                  refine r_iload B 6 dX6_classOf_62 rfl ?_
                  refine r_iload_n B 3 dX6_classOf_64 rfl ?_
                  have J16 : ∀ w1 : Int, (w1 = max fo q) → WM G X 0 0 (bM X (PoI G (fun r M' => r = claS s ge w ∧ FL M M' md)) 0 0 G) Q13 74 [(0, .ref md), (1, .int (iI ge)), (2, .int (iI w)), (3, .int (iI fo)), (4, .int (iI d)), (5, .int (iI (dvS s ge d))), (6, .int (iI q))] [.int (iI w1)] := by
                    intro w1 hw1
                    refine r_istore_n B (lv' := [(3, .int (iI w1)), (0, .ref md), (1, .int (iI ge)), (2, .int (iI w)), (4, .int (iI d)), (5, .int (iI (dvS s ge d))), (6, .int (iI q))]) dX6_classOf_74 (by decide) rfl ?_
                    refine r_iinc B (lv' := [(4, .int (iI (d + 1))), (3, .int (iI w1)), (0, .ref md), (1, .int (iI ge)), (2, .int (iI w)), (5, .int (iI (dvS s ge d))), (6, .int (iI q))]) dX6_classOf_75 (j := 4) rfl (by decide) rfl ?_
                    refine r_goto B dX6_classOf_78 rfl ?_
                    refine WM.pick [2, 3, 4, 1, 0] rfl ?_
                    exact ihlp1 (d + 1) _ Q13 (by omega) (by omega) (by rw [cwF_s _ _ _ hd0, if_pos hwd, ← hfo, hqk]; exact hw1) hF_Q13 (by omega)
                  refine r_icmp_le B dX6_classOf_65 rfl ⟨by omega, by omega⟩ ⟨by omega, by omega⟩ (fun h17 => ?_) (fun h17 => ?_)
                  · refine r_iload_n B 3 dX6_classOf_73 rfl ?_
                    exact J16 _ (by omega)
                  · refine r_iload B 6 dX6_classOf_68 rfl ?_
                    refine r_goto B dX6_classOf_70 rfl ?_
                    exact J16 _ (by omega)
                · have hoc2 := hoc (by omega)
                  refine r_aload_n B 0 dX6_classOf_42 rfl ?_
                  refine r_iload_n B 1 dX6_classOf_43 rfl ?_
                  refine r_iload B 4 dX6_classOf_44 rfl ?_
                  refine r_iload B 6 dX6_classOf_46 rfl ?_
                  refine r_pVi3 B (c_X6_toleranceOf l G Q13 md hM s hS_Q13 hok ge d q (by omega) (by omega) (by omega) (by omega) (by omega) (by omega)) ⟨rfl, rfl⟩ ok_X6_toleranceOf vi_X6_toleranceOf q_1123 hM.1 rfl (fun _ => rfl) ⟨Nat.le_of_ble_eq_true rfl, Nat.le_of_ble_eq_true rfl, Nat.le_of_ble_eq_true rfl⟩ ⟨Nat.le_of_ble_eq_true rfl, Nat.le_of_ble_eq_true rfl⟩ dX6_classOf_48 ?_
                  refine r_iload B 5 dX6_classOf_51 rfl ?_
                  refine r_icmp_ge B dX6_classOf_53 rfl ⟨by omega, by omega⟩ ⟨by omega, by omega⟩ (fun h18 => ?_) (fun h18 => ?_)
                  · have hqk : kwS s ge d = q := by rw [hq, clF_s _ _ (by omega), if_neg (by omega)]
                    refine r_iload B 6 dX6_classOf_62 rfl ?_
                    refine r_iload_n B 3 dX6_classOf_64 rfl ?_
                    have J19 : ∀ w1 : Int, (w1 = max fo q) → WM G X 0 0 (bM X (PoI G (fun r M' => r = claS s ge w ∧ FL M M' md)) 0 0 G) Q13 74 [(0, .ref md), (1, .int (iI ge)), (2, .int (iI w)), (3, .int (iI fo)), (4, .int (iI d)), (5, .int (iI (dvS s ge d))), (6, .int (iI q))] [.int (iI w1)] := by
                      intro w1 hw1
                      refine r_istore_n B (lv' := [(3, .int (iI w1)), (0, .ref md), (1, .int (iI ge)), (2, .int (iI w)), (4, .int (iI d)), (5, .int (iI (dvS s ge d))), (6, .int (iI q))]) dX6_classOf_74 (by decide) rfl ?_
                      refine r_iinc B (lv' := [(4, .int (iI (d + 1))), (3, .int (iI w1)), (0, .ref md), (1, .int (iI ge)), (2, .int (iI w)), (5, .int (iI (dvS s ge d))), (6, .int (iI q))]) dX6_classOf_75 (j := 4) rfl (by decide) rfl ?_
                      refine r_goto B dX6_classOf_78 rfl ?_
                      refine WM.pick [2, 3, 4, 1, 0] rfl ?_
                      exact ihlp1 (d + 1) _ Q13 (by omega) (by omega) (by rw [cwF_s _ _ _ hd0, if_pos hwd, ← hfo, hqk]; exact hw1) hF_Q13 (by omega)
                    refine r_icmp_le B dX6_classOf_65 rfl ⟨by omega, by omega⟩ ⟨by omega, by omega⟩ (fun h20 => ?_) (fun h20 => ?_)
                    · refine r_iload_n B 3 dX6_classOf_73 rfl ?_
                      exact J19 _ (by omega)
                    · refine r_iload B 6 dX6_classOf_68 rfl ?_
                      refine r_goto B dX6_classOf_70 rfl ?_
                      exact J19 _ (by omega)
                  · refine r_iinc B (lv' := [(6, .int (iI (q + 1))), (0, .ref md), (1, .int (iI ge)), (2, .int (iI w)), (3, .int (iI fo)), (4, .int (iI d)), (5, .int (iI (dvS s ge d)))]) dX6_classOf_56 (j := 6) rfl (by decide) rfl ?_
                    refine r_goto B dX6_classOf_59 rfl ?_
                    refine WM.pick [1, 2, 3, 4, 5, 6, 0] rfl ?_
                    exact ihlp14 (q + 1) (by omega) (by omega) (by rw [hq, clF_s _ _ (by omega), if_pos (by omega), show 13 - (q + 1) = 12 - q by omega]) (by omega)
            refine WM.pick [2, 3, 4, 5, 6, 1, 0] rfl ?_
            exact lp14 _ 1 (by omega) (by omega) rfl (Nat.lt_succ_self _)
  refine WM.pick [2, 3, 4, 1, 0] rfl ?_
  exact lp1 _ 0 1 M (by omega) (by omega) rfl FL.rf (Nat.lt_succ_self _)
