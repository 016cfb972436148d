set_option maxRecDepth 100000 in
set_option maxHeartbeats 4000000 in
theorem c_X3_linesOf (l : Launch) (G : Gs) (M : Mem) (S : Nat) (s : Ast) (hS : IsState G S) (hA : StateIs M S s) (hok : StateOk s) (ge : Int) (hg0 : 0 ≤ ge) (hg1 : ge < 6) : Ct l G yX3_linesOf cX3_linesOf 4 (some .int) rm_X3_linesOf [.ref S, .int (iI ge)] M (PoI G (Rd (cnF s ge s.2.1.toNat) M)) 0 0 := by
  refine Ct.of (by decide +kernel) (Nat.le_of_ble_eq_true rfl) [(0, .ref S), (1, .int (iI ge))] rfl ?_
  intro X B
  have hs1 := hok.1
  have hs2 := hok.2.1
  have hs3 := hok.2.2.1
  have hs4 := hok.2.2.2.1
  refine r_iconst B dX3_linesOf_0 ?_
  refine r_istore_n B (lv' := [(2, .int (iI 0)), (0, .ref S), (1, .int (iI ge))]) dX3_linesOf_1 (by decide) rfl ?_
  refine r_iconst B dX3_linesOf_2 ?_
  refine r_istore_n B (lv' := [(3, .int (iI 0)), (2, .int (iI 0)), (0, .ref S), (1, .int (iI ge))]) dX3_linesOf_3 (by decide) rfl ?_
  have lp1 : ∀ (nlp1 : Nat) (i : Int) (fo : Int) (hi0 : 0 ≤ i) (hi1 : i ≤ s.2.1) (hfo : fo = cnF s ge i.toNat), (s.2.1 - i).toNat < nlp1 → WM G X 0 0 (bM X (PoI G (Rd (cnF s ge s.2.1.toNat) M)) 0 0 G) M 4 [(0, .ref S), (1, .int (iI ge)), (2, .int (iI fo)), (3, .int (iI i))] [] := by
    intro nlp1
    induction nlp1 with
    | zero => intro i fo hi0 hi1 hfo hm; omega
    | succ nlp1 ihlp1 =>
      intro i fo hi0 hi1 hfo hm
      have hcn := cnF_in s ge i.toNat
      refine r_iload_n B 3 dX3_linesOf_4 rfl ?_
      refine r_aload_n B 0 dX3_linesOf_5 rfl ?_
      refine rg3_lineCount B hS.1 q_95 dX3_linesOf_6 ?_
      refine r_vi (y := s.2.1) hA.2.1 ?_
      refine r_icmp_ge B dX3_linesOf_9 rfl ⟨by omega, by omega⟩ ⟨by omega, by omega⟩ (fun h2 => ?_) (fun h2 => ?_)
      · refine r_iload_n B 2 dX3_linesOf_34 rfl ?_
        exact r_iret B dX3_linesOf_35 ⟨by rw [hfo, show i = s.2.1 by omega], rfl⟩
      · have hli := hok.2.2.2.2.2 i (by omega) (by omega)
        refine r_aload_n B 0 dX3_linesOf_12 rfl ?_
        refine rg3_lineRow B hS.1 q_99 dX3_linesOf_13 ?_
        refine r_iload_n B 3 dX3_linesOf_16 rfl ?_
        refine r_aaload9 B dX3_linesOf_17 hS.2.2.1 (by omega) (by omega) ?_
        refine rg1_gear B (RowL.line hS hA.2.2.2.1 (i := i) (by omega) (by omega)).1 q_63 dX3_linesOf_18 ?_
        refine r_vi (y := (s.2.2.2 i).1) (hA.2.2.2.2.2 i (by omega) (by omega)).1 ?_
        refine r_iload_n B 1 dX3_linesOf_21 rfl ?_
        refine r_icmp_ne B dX3_linesOf_22 rfl ⟨by omega, by omega⟩ ⟨by omega, by omega⟩ (fun h3 => ?_) (fun h3 => ?_)
        · refine r_iinc B (lv' := [(3, .int (iI (i + 1))), (0, .ref S), (1, .int (iI ge)), (2, .int (iI fo))]) dX3_linesOf_28 (j := 3) rfl (by decide) rfl ?_
          refine r_goto B dX3_linesOf_31 rfl ?_
          refine WM.pick [1, 2, 3, 0] rfl ?_
          exact ihlp1 (i + 1) _ (by omega) (by omega) (by rw [cnF_s _ _ hi0, if_neg h3, ← hfo]) (by omega)
        · refine r_iinc B (lv' := [(2, .int (iI (fo + 1))), (0, .ref S), (1, .int (iI ge)), (3, .int (iI i))]) dX3_linesOf_25 (j := 2) rfl (by decide) rfl ?_
          refine r_iinc B (lv' := [(3, .int (iI (i + 1))), (2, .int (iI (fo + 1))), (0, .ref S), (1, .int (iI ge))]) dX3_linesOf_28 (j := 3) rfl (by decide) rfl ?_
          refine r_goto B dX3_linesOf_31 rfl ?_
          refine WM.pick [2, 3, 1, 0] rfl ?_
          exact ihlp1 (i + 1) _ (by omega) (by omega) (by rw [cnF_s _ _ hi0, if_pos h3, ← hfo]) (by omega)
  refine WM.pick [2, 3, 1, 0] rfl ?_
  exact lp1 _ 0 0 (by omega) (by omega) rfl (Nat.lt_succ_self _)

set_option maxRecDepth 100000 in
set_option maxHeartbeats 4000000 in
theorem c_X3_greatestOfLines (l : Launch) (G : Gs) (M : Mem) (S : Nat) (s : Ast) (hS : IsState G S) (hA : StateIs M S s) (hok : StateOk s) (ge ki w : Int) (hg0 : 0 ≤ ge) (hg1 : ge < 6) (hk0 : 0 ≤ ki) (hk1 : ki ≤ 1) (hw0 : 0 ≤ w) (hw1 : w < 3) : Ct l G yX3_greatestOfLines cX3_greatestOfLines 7 (some .int) rm_X3_greatestOfLines [.ref S, .int (iI ge), .int (iI ki), .int (iI w)] M (PoI G (Rd (goF s ge ki w s.2.1.toNat) M)) 0 0 := by
  refine Ct.of (by decide +kernel) (Nat.le_of_ble_eq_true rfl) [(0, .ref S), (1, .int (iI ge)), (2, .int (iI ki)), (3, .int (iI w))] rfl ?_
  intro X B
  have hs1 := hok.1
  have hs2 := hok.2.1
  have hs3 := hok.2.2.1
  have hs4 := hok.2.2.2.1
  refine r_iconst B dX3_greatestOfLines_0 ?_
  refine r_istore B (lv' := [(4, .int (iI 0)), (0, .ref S), (1, .int (iI ge)), (2, .int (iI ki)), (3, .int (iI w))]) dX3_greatestOfLines_1 (by decide) rfl ?_
  refine r_iconst B dX3_greatestOfLines_3 ?_
  refine r_istore B (lv' := [(5, .int (iI 0)), (4, .int (iI 0)), (0, .ref S), (1, .int (iI ge)), (2, .int (iI ki)), (3, .int (iI w))]) dX3_greatestOfLines_4 (by decide) rfl ?_
  have lp1 : ∀ (nlp1 : Nat) (i : Int) (fo : Int) (hi0 : 0 ≤ i) (hi1 : i ≤ s.2.1) (hfo : fo = goF s ge ki w i.toNat), (s.2.1 - i).toNat < nlp1 → WM G X 0 0 (bM X (PoI G (Rd (goF s ge ki w s.2.1.toNat) M)) 0 0 G) M 6 [(0, .ref S), (1, .int (iI ge)), (2, .int (iI ki)), (3, .int (iI w)), (4, .int (iI fo)), (5, .int (iI i))] [] := by
    intro nlp1
    induction nlp1 with
    | zero => intro i fo hi0 hi1 hfo hm; omega
    | succ nlp1 ihlp1 =>
      intro i fo hi0 hi1 hfo hm
      have hgo := goF_in hok ge ki w i.toNat (by omega)
      refine r_iload B 5 dX3_greatestOfLines_6 rfl ?_
      refine r_aload_n B 0 dX3_greatestOfLines_8 rfl ?_
      refine rg3_lineCount B hS.1 q_95 dX3_greatestOfLines_9 ?_
      refine r_vi (y := s.2.1) hA.2.1 ?_
      refine r_icmp_ge B dX3_greatestOfLines_12 rfl ⟨by omega, by omega⟩ ⟨by omega, by omega⟩ (fun h2 => ?_) (fun h2 => ?_)
      · refine r_iload B 4 dX3_greatestOfLines_72 rfl ?_
        exact r_iret B dX3_greatestOfLines_74 ⟨by rw [hfo, show i = s.2.1 by omega], rfl⟩
      · have hli := hok.2.2.2.2.2 i (by omega) (by omega)
        refine r_aload_n B 0 dX3_greatestOfLines_15 rfl ?_
        refine rg3_lineRow B hS.1 q_99 dX3_greatestOfLines_16 ?_
        refine r_iload B 5 dX3_greatestOfLines_19 rfl ?_
        refine r_aaload9 B dX3_greatestOfLines_21 hS.2.2.1 (by omega) (by omega) ?_
        refine r_astore B (lv' := [(6, .ref (gP M (S + 2) i)), (0, .ref S), (1, .int (iI ge)), (2, .int (iI ki)), (3, .int (iI w)), (4, .int (iI fo)), (5, .int (iI i))]) dX3_greatestOfLines_22 (by decide) rfl ?_
        refine r_aload B 0 dX3_greatestOfLines_24 rfl ?_
        refine rg1_gear B (RowL.line hS hA.2.2.2.1 (i := i) (by omega) (by omega)).1 q_63 dX3_greatestOfLines_26 ?_
        refine r_vi (y := (s.2.2.2 i).1) (hA.2.2.2.2.2 i (by omega) (by omega)).1 ?_
        refine r_iload_n B 2 dX3_greatestOfLines_29 rfl ?_
        refine r_icmp_ne B dX3_greatestOfLines_30 rfl ⟨by omega, by omega⟩ ⟨by omega, by omega⟩ (fun h3 => ?_) (fun h3 => ?_)
        · refine r_iinc B (lv' := [(5, .int (iI (i + 1))), (6, .ref (gP M (S + 2) i)), (0, .ref S), (1, .int (iI ge)), (2, .int (iI ki)), (3, .int (iI w)), (4, .int (iI fo))]) dX3_greatestOfLines_66 (j := 6) rfl (by decide) rfl ?_
          refine r_goto B dX3_greatestOfLines_69 rfl ?_
          refine WM.pick [2, 3, 4, 5, 6, 0] rfl ?_
          exact ihlp1 (i + 1) _ (by omega) (by omega) (by rw [goF_s _ _ _ _ hi0, if_neg (fun q => h3 q.1), ← hfo]) (by omega)
        · refine r_aload B 0 dX3_greatestOfLines_33 rfl ?_
          refine rg1_kind B (RowL.line hS hA.2.2.2.1 (i := i) (by omega) (by omega)).1 q_66 dX3_greatestOfLines_35 ?_
          refine r_vi (y := (s.2.2.2 i).2.1) (hA.2.2.2.2.2 i (by omega) (by omega)).2.1 ?_
          refine r_iload_n B 3 dX3_greatestOfLines_38 rfl ?_
          refine r_icmp_ne B dX3_greatestOfLines_39 rfl ⟨by omega, by omega⟩ ⟨by omega, by omega⟩ (fun h4 => ?_) (fun h4 => ?_)
          · refine r_iinc B (lv' := [(5, .int (iI (i + 1))), (6, .ref (gP M (S + 2) i)), (0, .ref S), (1, .int (iI ge)), (2, .int (iI ki)), (3, .int (iI w)), (4, .int (iI fo))]) dX3_greatestOfLines_66 (j := 6) rfl (by decide) rfl ?_
            refine r_goto B dX3_greatestOfLines_69 rfl ?_
            refine WM.pick [2, 3, 4, 5, 6, 0] rfl ?_
            exact ihlp1 (i + 1) _ (by omega) (by omega) (by rw [goF_s _ _ _ _ hi0, if_neg (fun q => h4 q.2.1), ← hfo]) (by omega)
          · refine r_aload B 0 dX3_greatestOfLines_42 rfl ?_
            refine r_pVz0 B (c_X1_isMeasured l G M (gP M (S + 2) i) (s.2.2.2 i).1 (s.2.2.2 i).2.1 (s.2.2.2 i).2.2.1 (s.2.2.2 i).2.2.2 (RowL.line hS hA.2.2.2.1 (i := i) (by omega) (by omega)) (hA.2.2.2.2.2 i (by omega) (by omega)) (hok.2.2.2.2.2 i (by omega) (by omega)).1  ) ⟨rfl, rfl⟩ ok_X1_isMeasured vi_X1_isMeasured q_383 (RowL.line hS hA.2.2.2.1 (i := i) (by omega) (by omega)).1 rfl (fun _ => rfl) ⟨Nat.le_of_ble_eq_true rfl, Nat.le_of_ble_eq_true rfl, Nat.le_of_ble_eq_true rfl⟩ ⟨Nat.le_of_ble_eq_true rfl, Nat.le_of_ble_eq_true rfl⟩ dX3_greatestOfLines_44 ?_
            have hms : 0 ≤ msS (s.2.2.2 i).2.2.1 ∧ msS (s.2.2.2 i).2.2.1 ≤ 1 := by unfold msS; split <;> omega
            refine r_if_eq B dX3_greatestOfLines_47 rfl ⟨by omega, by omega⟩ (fun h5 => ?_) (fun h5 => ?_)
            · refine r_iinc B (lv' := [(5, .int (iI (i + 1))), (6, .ref (gP M (S + 2) i)), (0, .ref S), (1, .int (iI ge)), (2, .int (iI ki)), (3, .int (iI w)), (4, .int (iI fo))]) dX3_greatestOfLines_66 (j := 6) rfl (by decide) rfl ?_
              refine r_goto B dX3_greatestOfLines_69 rfl ?_
              refine WM.pick [2, 3, 4, 5, 6, 0] rfl ?_
              exact ihlp1 (i + 1) _ (by omega) (by omega) (by rw [goF_s _ _ _ _ hi0, if_neg (fun q => by unfold msS at h5; rw [if_pos q.2.2] at h5; omega), ← hfo]) (by omega)
            · have h3n : 3 ≤ (s.2.2.2 i).2.2.1 := Decidable.byContradiction (fun q => h5 (by unfold msS; rw [if_neg q]))
              have hlb := ldS_in (what := w) hli.1 (by omega)
              refine r_iload B 5 dX3_greatestOfLines_50 rfl ?_
              refine r_aload B 0 dX3_greatestOfLines_52 rfl ?_
              refine r_iload_n B 4 dX3_greatestOfLines_54 rfl ?_
              refine r_pVi1 B (c_X1_deviationOf l G M (gP M (S + 2) i) (s.2.2.2 i).1 (s.2.2.2 i).2.1 (s.2.2.2 i).2.2.1 (s.2.2.2 i).2.2.2 (RowL.line hS hA.2.2.2.1 (i := i) (by omega) (by omega)) (hA.2.2.2.2.2 i (by omega) (by omega)) (hok.2.2.2.2.2 i (by omega) (by omega)).1 w (by omega) (by omega) (by omega)) ⟨rfl, rfl⟩ ok_X1_deviationOf vi_X1_deviationOf q_387 (RowL.line hS hA.2.2.2.1 (i := i) (by omega) (by omega)).1 rfl (fun _ => rfl) ⟨Nat.le_of_ble_eq_true rfl, Nat.le_of_ble_eq_true rfl, Nat.le_of_ble_eq_true rfl⟩ ⟨Nat.le_of_ble_eq_true rfl, Nat.le_of_ble_eq_true rfl⟩ dX3_greatestOfLines_55 ?_
              refine r_mabs B dX3_greatestOfLines_58 q_420 q_362 q_15 q_363 ⟨by omega, by omega⟩ ⟨Nat.le_of_ble_eq_true rfl, Nat.le_of_ble_eq_true rfl, Nat.le_of_ble_eq_true rfl, Nat.le_of_ble_eq_true rfl⟩ ?_
              refine r_mmax B dX3_greatestOfLines_61 q_367 q_365 q_15 q_366 ⟨by omega, by omega⟩ ⟨by omega, by omega⟩ ⟨Nat.le_of_ble_eq_true rfl, Nat.le_of_ble_eq_true rfl, Nat.le_of_ble_eq_true rfl, Nat.le_of_ble_eq_true rfl⟩ ?_
              refine r_istore B (lv' := [(4, .int (iI (max fo (max (ldS ((s.2.2.2 i).2.2.2) ((s.2.2.2 i).2.2.1) w) (-(ldS ((s.2.2.2 i).2.2.2) ((s.2.2.2 i).2.2.1) w)))))), (6, .ref (gP M (S + 2) i)), (0, .ref S), (1, .int (iI ge)), (2, .int (iI ki)), (3, .int (iI w)), (5, .int (iI i))]) dX3_greatestOfLines_64 (by decide) rfl ?_
              refine r_iinc B (lv' := [(5, .int (iI (i + 1))), (4, .int (iI (max fo (max (ldS ((s.2.2.2 i).2.2.2) ((s.2.2.2 i).2.2.1) w) (-(ldS ((s.2.2.2 i).2.2.2) ((s.2.2.2 i).2.2.1) w)))))), (6, .ref (gP M (S + 2) i)), (0, .ref S), (1, .int (iI ge)), (2, .int (iI ki)), (3, .int (iI w))]) dX3_greatestOfLines_66 (j := 6) rfl (by decide) rfl ?_
              refine r_goto B dX3_greatestOfLines_69 rfl ?_
              refine WM.pick [3, 4, 5, 6, 1, 0] rfl ?_
              exact ihlp1 (i + 1) _ (by omega) (by omega) (by rw [goF_s _ _ _ _ hi0, if_pos ⟨h3, h4, h3n⟩, ← hfo]) (by omega)
  refine WM.pick [2, 3, 4, 5, 1, 0] rfl ?_
  exact lp1 _ 0 0 (by omega) (by omega) rfl (Nat.lt_succ_self _)

set_option maxRecDepth 100000 in
set_option maxHeartbeats 4000000 in
theorem c_X3_deviationOf (l : Launch) (G : Gs) (M : Mem) (S : Nat) (s : Ast) (hS : IsState G S) (hA : StateIs M S s) (hok : StateOk s) (ge w : Int) (hg0 : 0 ≤ ge) (hg1 : ge < s.1) (hw0 : 0 ≤ w) (hw1 : w < 9) : Ct l G yX3_deviationOf cX3_deviationOf 4 (some .int) rm_X3_deviationOf [.ref S, .int (iI ge), .int (iI w)] M (PoI G (Rd (dvS s ge w) M)) 0 0 := by
  refine Ct.of (by decide +kernel) (Nat.le_of_ble_eq_true rfl) [(0, .ref S), (1, .int (iI ge)), (2, .int (iI w))] rfl ?_
  intro X B
  have hs1 := hok.1
  have hs2 := hok.2.1
  have hs3 := hok.2.2.1
  have hs4 := hok.2.2.2.1
  have hgk := hok.2.2.2.2.1 ge (by omega) (by omega)
  have p0 := gpS_in hgk (s := 0) (by omega) (by omega)
  have p1 := gpS_in hgk (s := 1) (by omega) (by omega)
  have q0 := irS_in hgk (s := 0) (by omega) (by omega)
  have q1 := irS_in hgk (s := 1) (by omega) (by omega)
  refine r_aload_n B 0 dX3_deviationOf_0 rfl ?_
  refine rg3_gearRow B hS.1 q_97 dX3_deviationOf_1 ?_
  refine r_iload_n B 1 dX3_deviationOf_4 rfl ?_
  refine r_aaload8 B dX3_deviationOf_5 hS.2.1 (by omega) (by omega) ?_
  refine r_astore_n B (lv' := [(3, .ref (gP M (S + 1) ge)), (0, .ref S), (1, .int (iI ge)), (2, .int (iI w))]) dX3_deviationOf_6 (by decide) rfl ?_
  refine r_iload_n B 3 dX3_deviationOf_7 rfl ?_
  rcases (show w = 0 ∨ w = 1 ∨ w = 2 ∨ 3 ≤ w by omega) with rfl | rfl | rfl | hw3
  · refine r_tabIn B dX3_deviationOf_8 ⟨by omega, by omega⟩ (off := 28) (tgt := 36) (by omega) (by omega) rfl rfl ?_
    refine r_aload_n B 0 dX3_deviationOf_36 rfl ?_
    refine r_iconst B dX3_deviationOf_37 ?_
    refine r_pVi1 B (c_X0_greatestPitch l G M (gP M (S + 1) ge) (s.2.2.1 ge).1 (s.2.2.1 ge).2.1 (s.2.2.1 ge).2.2 (RowG.gear hS hA.2.2.1 (i := ge) (by omega) (by omega)) (hA.2.2.2.2.1 ge (by omega) (by omega)) (hok.2.2.2.2.1 ge (by omega) (by omega)) 0 (by omega) (by omega)) ⟨rfl, rfl⟩ ok_X0_greatestPitch vi_X0_greatestPitch q_342 (RowG.gear hS hA.2.2.1 (i := ge) (by omega) (by omega)).1 rfl (fun _ => rfl) ⟨Nat.le_of_ble_eq_true rfl, Nat.le_of_ble_eq_true rfl, Nat.le_of_ble_eq_true rfl⟩ ⟨Nat.le_of_ble_eq_true rfl, Nat.le_of_ble_eq_true rfl⟩ dX3_deviationOf_38 ?_
    refine r_aload_n B 0 dX3_deviationOf_41 rfl ?_
    refine r_iconst B dX3_deviationOf_42 ?_
    refine r_pVi1 B (c_X0_greatestPitch l G M (gP M (S + 1) ge) (s.2.2.1 ge).1 (s.2.2.1 ge).2.1 (s.2.2.1 ge).2.2 (RowG.gear hS hA.2.2.1 (i := ge) (by omega) (by omega)) (hA.2.2.2.2.1 ge (by omega) (by omega)) (hok.2.2.2.2.1 ge (by omega) (by omega)) 1 (by omega) (by omega)) ⟨rfl, rfl⟩ ok_X0_greatestPitch vi_X0_greatestPitch q_342 (RowG.gear hS hA.2.2.1 (i := ge) (by omega) (by omega)).1 rfl (fun _ => rfl) ⟨Nat.le_of_ble_eq_true rfl, Nat.le_of_ble_eq_true rfl, Nat.le_of_ble_eq_true rfl⟩ ⟨Nat.le_of_ble_eq_true rfl, Nat.le_of_ble_eq_true rfl⟩ dX3_deviationOf_43 ?_
    refine r_mmax B dX3_deviationOf_46 q_367 q_365 q_15 q_366 ⟨by omega, by omega⟩ ⟨by omega, by omega⟩ ⟨Nat.le_of_ble_eq_true rfl, Nat.le_of_ble_eq_true rfl, Nat.le_of_ble_eq_true rfl, Nat.le_of_ble_eq_true rfl⟩ ?_
    exact r_iret B dX3_deviationOf_49 ⟨rfl, rfl⟩
  · refine r_tabIn B dX3_deviationOf_8 ⟨by omega, by omega⟩ (off := 42) (tgt := 50) (by omega) (by omega) rfl rfl ?_
    refine r_aload_n B 0 dX3_deviationOf_50 rfl ?_
    refine r_iconst B dX3_deviationOf_51 ?_
    refine r_pVi1 B (c_X0_indexRange l G M (gP M (S + 1) ge) (s.2.2.1 ge).1 (s.2.2.1 ge).2.1 (s.2.2.1 ge).2.2 (RowG.gear hS hA.2.2.1 (i := ge) (by omega) (by omega)) (hA.2.2.2.2.1 ge (by omega) (by omega)) (hok.2.2.2.2.1 ge (by omega) (by omega)) 0 (by omega) (by omega)) ⟨rfl, rfl⟩ ok_X0_indexRange vi_X0_indexRange q_368 (RowG.gear hS hA.2.2.1 (i := ge) (by omega) (by omega)).1 rfl (fun _ => rfl) ⟨Nat.le_of_ble_eq_true rfl, Nat.le_of_ble_eq_true rfl, Nat.le_of_ble_eq_true rfl⟩ ⟨Nat.le_of_ble_eq_true rfl, Nat.le_of_ble_eq_true rfl⟩ dX3_deviationOf_52 ?_
    refine r_aload_n B 0 dX3_deviationOf_55 rfl ?_
    refine r_iconst B dX3_deviationOf_56 ?_
    refine r_pVi1 B (c_X0_indexRange l G M (gP M (S + 1) ge) (s.2.2.1 ge).1 (s.2.2.1 ge).2.1 (s.2.2.1 ge).2.2 (RowG.gear hS hA.2.2.1 (i := ge) (by omega) (by omega)) (hA.2.2.2.2.1 ge (by omega) (by omega)) (hok.2.2.2.2.1 ge (by omega) (by omega)) 1 (by omega) (by omega)) ⟨rfl, rfl⟩ ok_X0_indexRange vi_X0_indexRange q_368 (RowG.gear hS hA.2.2.1 (i := ge) (by omega) (by omega)).1 rfl (fun _ => rfl) ⟨Nat.le_of_ble_eq_true rfl, Nat.le_of_ble_eq_true rfl, Nat.le_of_ble_eq_true rfl⟩ ⟨Nat.le_of_ble_eq_true rfl, Nat.le_of_ble_eq_true rfl⟩ dX3_deviationOf_57 ?_
    refine r_mmax B dX3_deviationOf_60 q_367 q_365 q_15 q_366 ⟨by omega, by omega⟩ ⟨by omega, by omega⟩ ⟨Nat.le_of_ble_eq_true rfl, Nat.le_of_ble_eq_true rfl, Nat.le_of_ble_eq_true rfl, Nat.le_of_ble_eq_true rfl⟩ ?_
    exact r_iret B dX3_deviationOf_63 ⟨rfl, rfl⟩
  · refine r_tabIn B dX3_deviationOf_8 ⟨by omega, by omega⟩ (off := 56) (tgt := 64) (by omega) (by omega) rfl rfl ?_
    refine r_aload_n B 0 dX3_deviationOf_64 rfl ?_
    refine r_pVi0 B (c_X0_runout l G M (gP M (S + 1) ge) (s.2.2.1 ge).1 (s.2.2.1 ge).2.1 (s.2.2.1 ge).2.2 (RowG.gear hS hA.2.2.1 (i := ge) (by omega) (by omega)) (hA.2.2.2.2.1 ge (by omega) (by omega)) (hok.2.2.2.2.1 ge (by omega) (by omega))  ) ⟨rfl, rfl⟩ ok_X0_runout vi_X0_runout q_375 (RowG.gear hS hA.2.2.1 (i := ge) (by omega) (by omega)).1 rfl (fun _ => rfl) ⟨Nat.le_of_ble_eq_true rfl, Nat.le_of_ble_eq_true rfl, Nat.le_of_ble_eq_true rfl⟩ ⟨Nat.le_of_ble_eq_true rfl, Nat.le_of_ble_eq_true rfl⟩ dX3_deviationOf_65 ?_
    exact r_iret B dX3_deviationOf_68 ⟨rfl, rfl⟩
  · refine r_tabOut B dX3_deviationOf_8 ⟨by omega, by omega⟩ (tgt := 69) (Or.inr (by omega)) rfl ?_
    refine r_aload_n B 1 dX3_deviationOf_69 rfl ?_
    refine r_iload_n B 2 dX3_deviationOf_70 rfl ?_
    refine r_iload_n B 3 dX3_deviationOf_71 rfl ?_
    refine r_iconst B dX3_deviationOf_72 ?_
    refine r_isub B dX3_deviationOf_73 ?_
    refine r_iconst B dX3_deviationOf_74 ?_
    refine r_idiv B dX3_deviationOf_75 ⟨by omega, by omega⟩ ⟨by omega, by omega⟩ (by omega) ?_
    refine r_vi (y := (w - 3) / 3) (Int.tdiv_eq_ediv_of_nonneg (by omega)) ?_
    refine r_iload_n B 3 dX3_deviationOf_76 rfl ?_
    refine r_iconst B dX3_deviationOf_77 ?_
    refine r_isub B dX3_deviationOf_78 ?_
    refine r_iconst B dX3_deviationOf_79 ?_
    refine r_irem B dX3_deviationOf_80 ⟨by omega, by omega⟩ ⟨by omega, by omega⟩ (by omega) ?_
    refine r_vi (y := (w - 3) % 3) (Int.tmod_eq_emod_of_nonneg (by omega)) ?_
    refine r_pVi3 B (c_X3_greatestOfLines l G M S s hS hA hok ge ((w - 3) / 3) ((w - 3) % 3) (by omega) (by omega) (by omega) (by omega) (by omega) (by omega)) ⟨rfl, rfl⟩ ok_X3_greatestOfLines vi_X3_greatestOfLines q_379 hS.1 rfl (fun _ => rfl) ⟨Nat.le_of_ble_eq_true rfl, Nat.le_of_ble_eq_true rfl, Nat.le_of_ble_eq_true rfl⟩ ⟨Nat.le_of_ble_eq_true rfl, Nat.le_of_ble_eq_true rfl⟩ dX3_deviationOf_81 ?_
    exact r_iret B dX3_deviationOf_84 ⟨by unfold dvS; rw [if_neg (by omega), if_neg (by omega), if_neg (by omega)], rfl⟩
