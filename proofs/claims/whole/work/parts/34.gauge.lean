set_option maxRecDepth 100000 in
set_option maxHeartbeats 4000000 in
theorem c_X5_mixed (l : Launch) (G : Gs) (M : Mem) (h v : Int) (hv : In32 v) : Ct l G yX5_mixed cX5_mixed 3 (some .long) rm_X5_mixed [.long (lI h), .int (iI v)] M (PoL G (Rd (31 * h + v) M)) 0 0 := by
  refine Ct.of (by decide +kernel) (Nat.le_of_ble_eq_true rfl) [(0, .long (lI h)), (2, .int (iI v))] rfl ?_
  intro X B
  refine r_ldc2 B (z := 31) dX5_mixed_0 q_323 (by decide) ?_
  refine r_lload_n B 0 dX5_mixed_3 rfl ?_
  refine r_lmul B dX5_mixed_4 ?_
  refine r_iload_n B 1 dX5_mixed_5 rfl ?_
  refine r_i2l B dX5_mixed_6 ⟨by omega, by omega⟩ ?_
  refine r_ladd B dX5_mixed_7 ?_
  exact r_lret B dX5_mixed_8 ⟨rfl, rfl⟩

set_option maxRecDepth 100000 in
set_option maxHeartbeats 4000000 in
theorem c_X5_root (l : Launch) (G : Gs) (M : Mem) (p : Int) (hp0 : 0 ≤ p) (hp1 : p ≤ 600) : Ct l G yX5_root cX5_root 3 (some .int) rm_X5_root [.int (iI p)] M (PoI G (Rd (rtS p) M)) 0 0 := by
  refine Ct.of (by decide +kernel) (Nat.le_of_ble_eq_true rfl) [(0, .int (iI p))] rfl ?_
  intro X B
  refine r_iconst B dX5_root_0 ?_
  refine r_istore_n B (lv' := [(1, .int (iI 0)), (0, .int (iI p))]) dX5_root_1 (by decide) rfl ?_
  refine r_iconst B dX5_root_2 ?_
  refine r_istore_n B (lv' := [(2, .int (iI 1)), (1, .int (iI 0)), (0, .int (iI p))]) dX5_root_3 (by decide) rfl ?_
  have lp1 : ∀ (nlp1 : Nat) (r : Int) (ro : Int) (hr1 : 1 ≤ r) (hr2 : r ≤ 25) (hr3 : ro = r - 1) (hro : (r - 1) * (r - 1) ≤ p), (p + 1 - r).toNat < nlp1 → WM G X 0 0 (bM X (PoI G (Rd (rtS p) M)) 0 0 G) M 4 [(0, .int (iI p)), (1, .int (iI ro)), (2, .int (iI r))] [] := by
    intro nlp1
    induction nlp1 with
    | zero => intro r ro hr1 hr2 hr3 hro hm; omega
    | succ nlp1 ihlp1 =>
      intro r ro hr1 hr2 hr3 hro hm
      have hrr : r ≤ r * r := by have w := Int.mul_le_mul_of_nonneg_left hr1 (show (0 : Int) ≤ r by omega); rw [Int.mul_one] at w; exact w
      have hm1 := mulB (x := r) (y := r) (A := 25) (C := 25) (by omega) (by omega) (by omega) (by omega) (by omega)
      refine r_iload_n B 2 dX5_root_4 rfl ?_
      refine r_iload_n B 0 dX5_root_5 rfl ?_
      refine r_icmp_gt B dX5_root_6 rfl ⟨by omega, by omega⟩ ⟨by omega, by omega⟩ (fun h2 => ?_) (fun h2 => ?_)
      · refine r_iload_n B 1 dX5_root_24 rfl ?_
        exact r_iret B dX5_root_25 ⟨(rtN_eq (by omega) (by rw [show ro = r - 1 by omega]; exact hro) (by rw [show ro + 1 = r by omega]; omega) 30 (by omega)).symm, rfl⟩
      · refine r_iload_n B 2 dX5_root_9 rfl ?_
        refine r_iload_n B 2 dX5_root_10 rfl ?_
        refine r_imul B dX5_root_11 ?_
        refine r_iload_n B 0 dX5_root_12 rfl ?_
        refine r_icmp_gt B dX5_root_13 rfl ⟨by omega, by omega⟩ ⟨by omega, by omega⟩ (fun h3 => ?_) (fun h3 => ?_)
        · refine r_iload_n B 1 dX5_root_24 rfl ?_
          exact r_iret B dX5_root_25 ⟨(rtN_eq (by omega) (by rw [show ro = r - 1 by omega]; exact hro) (by rw [show ro + 1 = r by omega]; omega) 30 (by omega)).symm, rfl⟩
        · have hr24 : r ≤ 24 := Decidable.byContradiction (fun q => by have z : r = 25 := (by omega); rw [z] at h3; omega)
          refine r_iload_n B 2 dX5_root_16 rfl ?_
          refine r_istore_n B (lv' := [(1, .int (iI r)), (0, .int (iI p)), (2, .int (iI r))]) dX5_root_17 (by decide) rfl ?_
          refine r_iinc B (lv' := [(2, .int (iI (r + 1))), (1, .int (iI r)), (0, .int (iI p))]) dX5_root_18 (j := 2) rfl (by decide) rfl ?_
          refine r_goto B dX5_root_21 rfl ?_
          refine WM.pick [2, 1, 0] rfl ?_
          exact ihlp1 (r + 1) r (by omega) (by omega) (by omega) (by rw [show r + 1 - 1 = r by omega]; omega) (by omega)
  refine WM.pick [2, 1, 0] rfl ?_
  exact lp1 _ 1 0 (by omega) (by omega) (by omega) (by omega) (Nat.lt_succ_self _)

set_option maxRecDepth 100000 in
set_option maxHeartbeats 4000000 in
theorem c_X5_ofClass (l : Launch) (G : Gs) (M : Mem) (v q : Int) (h0 : 0 ≤ v) (h1 : v ≤ 500) (hq1 : 1 ≤ q) (hq2 : q ≤ 12) : Ct l G yX5_ofClass cX5_ofClass 4 (some .int) rm_X5_ofClass [.int (iI v), .int (iI q)] M (PoI G (Rd (ocS v q) M)) 0 0 := by
  refine Ct.of (by decide +kernel) (Nat.le_of_ble_eq_true rfl) [(0, .int (iI v)), (1, .int (iI q))] rfl ?_
  intro X B
  refine r_iload_n B 0 dX5_ofClass_0 rfl ?_
  refine r_istore_n B (lv' := [(2, .int (iI v)), (0, .int (iI v)), (1, .int (iI q))]) dX5_ofClass_1 (by decide) rfl ?_
  refine r_iconst B dX5_ofClass_2 ?_
  refine r_istore_n B (lv' := [(3, .int (iI 5)), (2, .int (iI v)), (0, .int (iI v)), (1, .int (iI q))]) dX5_ofClass_3 (by decide) rfl ?_
  have lp1 : ∀ (nlp1 : Nat) (i : Int) (va : Int) (hi0 : 5 ≤ i) (hi1 : i = 5 ∨ (5 ≤ i ∧ i ≤ q)) (hva : va = ocU v (i - 5).toNat), (q - i).toNat < nlp1 → WM G X 0 0 (bM X (PoI G (Rd (ocS v q) M)) 0 0 G) M 4 [(0, .int (iI v)), (1, .int (iI q)), (2, .int (iI va)), (3, .int (iI i))] [] := by
    intro nlp1
    induction nlp1 with
    | zero => intro i va hi0 hi1 hva hm; omega
    | succ nlp1 ihlp1 =>
      intro i va hi0 hi1 hva hm
      have hu := ocU_in (v := v) h0 h1 (n := (i - 5).toNat) (by omega)
      refine r_iload_n B 3 dX5_ofClass_4 rfl ?_
      refine r_iload_n B 1 dX5_ofClass_5 rfl ?_
      refine r_icmp_ge B dX5_ofClass_6 rfl ⟨by omega, by omega⟩ ⟨by omega, by omega⟩ (fun h2 => ?_) (fun h2 => ?_)
      · have hS : q ≤ 5 ∧ va = v ∨ 5 < q ∧ va = ocS v q := by
          rcases hi1 with w | ⟨w, w2⟩
          · refine Or.inl ⟨by omega, ?_⟩
            rw [hva, w]; rfl
          · by_cases z : q = 5
            · refine Or.inl ⟨by omega, ?_⟩
              rw [hva, show (i - 5).toNat = 0 by omega]; rfl
            · refine Or.inr ⟨by omega, ?_⟩
              unfold ocS
              rw [if_pos (by omega), hva, show i = q by omega]
        have hsb := ocS_in (v := v) h0 h1 (q := q) (by omega)
        refine r_iconst B dX5_ofClass_25 ?_
        refine r_istore_n B (lv' := [(3, .int (iI 5)), (0, .int (iI v)), (1, .int (iI q)), (2, .int (iI va))]) dX5_ofClass_26 (by decide) rfl ?_
        have lp3 : ∀ (nlp3 : Nat) (j : Int) (vb : Int) (hj0 : j ≤ 5) (hj1 : (q ≤ j ∧ q ≤ 5 ∧ vb = ocD v (5 - j).toNat) ∨ (j = 5 ∧ 5 < q ∧ vb = ocS v q)), (j - q).toNat < nlp3 → WM G X 0 0 (bM X (PoI G (Rd (ocS v q) M)) 0 0 G) M 27 [(0, .int (iI v)), (1, .int (iI q)), (2, .int (iI vb)), (3, .int (iI j))] [] := by
          intro nlp3
          induction nlp3 with
          | zero => intro j vb hj0 hj1 hm; omega
          | succ nlp3 ihlp3 =>
            intro j vb hj0 hj1 hm
            have hd := ocD_in (v := v) h0 h1 (5 - j).toNat
            have hvb64 : 0 ≤ vb ∧ vb ≤ 64000 := by rcases hj1 with w | w <;> omega
            refine r_iload_n B 3 dX5_ofClass_27 rfl ?_
            refine r_iload_n B 1 dX5_ofClass_28 rfl ?_
            refine r_icmp_le B dX5_ofClass_29 rfl ⟨by omega, by omega⟩ ⟨by omega, by omega⟩ (fun h4 => ?_) (fun h4 => ?_)
            · refine r_iload_n B 2 dX5_ofClass_48 rfl ?_
              exact r_iret B dX5_ofClass_49 ⟨by rcases hj1 with ⟨w1, w2, w3⟩ | ⟨w1, w2, w3⟩; unfold ocS; by_cases z : q = 5; rw [if_pos (by omega), w3, show (5 - j).toNat = 0 by omega, show (q - 5).toNat = 0 by omega]; rfl; rw [if_neg (by omega), w3, show j = q by omega]; exact w3, rfl⟩
            · refine r_iload_n B 2 dX5_ofClass_32 rfl ?_
              refine r_sipush B (z := 1000) dX5_ofClass_33 (by decide) ?_
              refine r_imul B dX5_ofClass_36 ?_
              refine r_sipush B (z := 1414) dX5_ofClass_37 (by decide) ?_
              refine r_idiv B dX5_ofClass_40 ⟨by omega, by omega⟩ ⟨by omega, by omega⟩ (by omega) ?_
              refine r_vi (y := vb * 1000 / 1414) (Int.tdiv_eq_ediv_of_nonneg (by omega)) ?_
              refine r_istore_n B (lv' := [(2, .int (iI (vb * 1000 / 1414))), (0, .int (iI v)), (1, .int (iI q)), (3, .int (iI j))]) dX5_ofClass_41 (by decide) rfl ?_
              refine r_iinc B (lv' := [(3, .int (iI (j + (-1)))), (2, .int (iI (vb * 1000 / 1414))), (0, .int (iI v)), (1, .int (iI q))]) dX5_ofClass_42 (j := 3) rfl (by decide) rfl ?_
              refine r_goto B dX5_ofClass_45 rfl ?_
              refine WM.pick [2, 3, 1, 0] rfl ?_
              exact ihlp3 (j + -1) _ (by omega) (Or.inl ⟨by omega, by omega, by rcases hj1 with w | w; rw [w.2.2, show j + -1 = j - 1 by omega, ocD_s v (by omega)]; omega⟩) (by omega)
        refine WM.pick [1, 2, 3, 0] rfl ?_
        exact lp3 _ 5 _ (by omega) (by rcases hS with w | w; exact Or.inl ⟨by omega, by omega, by rw [w.2]; rfl⟩; exact Or.inr ⟨rfl, w.1, w.2⟩) (Nat.lt_succ_self _)
      · refine r_iload_n B 2 dX5_ofClass_9 rfl ?_
        refine r_sipush B (z := 1414) dX5_ofClass_10 (by decide) ?_
        refine r_imul B dX5_ofClass_13 ?_
        refine r_sipush B (z := 1000) dX5_ofClass_14 (by decide) ?_
        refine r_idiv B dX5_ofClass_17 ⟨by omega, by omega⟩ ⟨by omega, by omega⟩ (by omega) ?_
        refine r_vi (y := va * 1414 / 1000) (Int.tdiv_eq_ediv_of_nonneg (by omega)) ?_
        refine r_istore_n B (lv' := [(2, .int (iI (va * 1414 / 1000))), (0, .int (iI v)), (1, .int (iI q)), (3, .int (iI i))]) dX5_ofClass_18 (by decide) rfl ?_
        refine r_iinc B (lv' := [(3, .int (iI (i + 1))), (2, .int (iI (va * 1414 / 1000))), (0, .int (iI v)), (1, .int (iI q))]) dX5_ofClass_19 (j := 3) rfl (by decide) rfl ?_
        refine r_goto B dX5_ofClass_22 rfl ?_
        refine WM.pick [2, 3, 1, 0] rfl ?_
        exact ihlp1 (i + 1) _ (by omega) (Or.inr ⟨by omega, by omega⟩) (by rw [ocU_s v hi0, ← hva]) (by omega)
  refine WM.pick [2, 3, 1, 0] rfl ?_
  exact lp1 _ 5 v (by omega) (Or.inl rfl) rfl (Nat.lt_succ_self _)

set_option maxRecDepth 100000 in
set_option maxHeartbeats 4000000 in
theorem c_X5_classOf (l : Launch) (G : Gs) (M : Mem) (v d : Int) (h0 : 0 ≤ v) (h1 : v ≤ 500) (hd : In32 d) : Ct l G yX5_classOf cX5_classOf 3 (some .int) rm_X5_classOf [.int (iI v), .int (iI d)] M (PoI G (Rd (clS v d) M)) 0 0 := by
  refine Ct.of (by decide +kernel) (Nat.le_of_ble_eq_true rfl) [(0, .int (iI v)), (1, .int (iI d))] rfl ?_
  intro X B
  obtain ⟨hd1, hd2⟩ := hd
  refine r_iconst B dX5_classOf_0 ?_
  refine r_istore_n B (lv' := [(2, .int (iI 1)), (0, .int (iI v)), (1, .int (iI d))]) dX5_classOf_1 (by decide) rfl ?_
  have lp1 : ∀ (nlp1 : Nat) (q : Int) (hq1 : 1 ≤ q) (hq2 : q ≤ 13) (hq : clS v d = clF v d (13 - q).toNat), (13 - q).toNat < nlp1 → WM G X 0 0 (bM X (PoI G (Rd (clS v d) M)) 0 0 G) M 2 [(0, .int (iI v)), (1, .int (iI d)), (2, .int (iI q))] [] := by
    intro nlp1
    induction nlp1 with
    | zero => intro q hq1 hq2 hq hm; omega
    | succ nlp1 ihlp1 =>
      intro q hq1 hq2 hq hm
      refine r_iload_n B 2 dX5_classOf_2 rfl ?_
      refine r_bipush B (z := 12) dX5_classOf_3 (by decide) ?_
      refine r_icmp_gt B dX5_classOf_5 rfl ⟨by omega, by omega⟩ ⟨by omega, by omega⟩ (fun h2 => ?_) (fun h2 => ?_)
      · refine r_bipush B (z := 13) dX5_classOf_25 (by decide) ?_
        exact r_iret B dX5_classOf_27 ⟨by rw [hq, show (13 - q).toNat = 0 by omega]; rfl, rfl⟩
      · have ho := ocS_in (v := v) h0 h1 (q := q) (by omega)
        refine r_iload_n B 0 dX5_classOf_8 rfl ?_
        refine r_iload_n B 2 dX5_classOf_9 rfl ?_
        refine r_pSi2 B (c_X5_ofClass l G M v q (by omega) (by omega) (by omega) (by omega)) ⟨rfl, rfl⟩ ok_X5_ofClass q_425 q_424 ⟨Nat.le_of_ble_eq_true rfl, Nat.le_of_ble_eq_true rfl, Nat.le_of_ble_eq_true rfl⟩ ⟨Nat.le_of_ble_eq_true rfl, Nat.le_of_ble_eq_true rfl⟩ dX5_classOf_10 ?_
        refine r_iload_n B 1 dX5_classOf_13 rfl ?_
        refine r_icmp_lt B dX5_classOf_14 rfl ⟨by omega, by omega⟩ ⟨by omega, by omega⟩ (fun h3 => ?_) (fun h3 => ?_)
        · refine r_iinc B (lv' := [(2, .int (iI (q + 1))), (0, .int (iI v)), (1, .int (iI d))]) dX5_classOf_19 (j := 2) rfl (by decide) rfl ?_
          refine r_goto B dX5_classOf_22 rfl ?_
          refine WM.pick [1, 2, 0] rfl ?_
          exact ihlp1 (q + 1) (by omega) (by omega) (by rw [hq, clF_s v d (by omega), if_pos (by omega), show 13 - (q + 1) = 12 - q by omega]) (by omega)
        · refine r_iload_n B 2 dX5_classOf_17 rfl ?_
          exact r_iret B dX5_classOf_18 ⟨by rw [hq, clF_s v d (by omega), if_neg (by omega)], rfl⟩
  refine WM.pick [1, 2, 0] rfl ?_
  exact lp1 _ 1 (by omega) (by omega) rfl (Nat.lt_succ_self _)

set_option maxRecDepth 100000 in
set_option maxHeartbeats 4000000 in
theorem c_X5_baseTolerance (l : Launch) (G : Gs) (M : Mem) (a : Nat) (z m w : Int) (rd : Int → Int → Int) (hg : IsGear G a) (hA : GearIs M a z m rd) (hz0 : 0 ≤ z) (hz : z ≤ 30) (hm1 : 1 ≤ m) (hm2 : m ≤ 20) (hw0 : 0 ≤ w) (hw1 : w < 9) : Ct l G yX5_baseTolerance cX5_baseTolerance 7 (some .int) rm_X5_baseTolerance [.ref a, .int (iI w)] M (PoI G (Rd (btS z m w) M)) 0 0 := by
  refine Ct.of (by decide +kernel) (Nat.le_of_ble_eq_true rfl) [(0, .ref a), (1, .int (iI w))] rfl ?_
  intro X B
  have hmt := mulB (x := m) (y := z) (A := 20) (C := 30) (by omega) (by omega) (by omega) (by omega) (by omega)
  have hmt0 : 0 ≤ m * z := Int.mul_nonneg (by omega) (by omega)
  have hr := rtS_in (m * z)
  refine r_aload_n B 0 dX5_baseTolerance_0 rfl ?_
  refine rg0_module B hg.1 q_45 dX5_baseTolerance_1 ?_
  refine r_vi (y := m) hA.2.1 ?_
  refine r_istore_n B (lv' := [(2, .int (iI m)), (0, .ref a), (1, .int (iI w))]) dX5_baseTolerance_4 (by decide) rfl ?_
  refine r_iload_n B 0 dX5_baseTolerance_5 rfl ?_
  refine r_aload_n B 1 dX5_baseTolerance_6 rfl ?_
  refine rg0_teeth B hg.1 q_43 dX5_baseTolerance_7 ?_
  refine r_vi (y := z) hA.1 ?_
  refine r_imul B dX5_baseTolerance_10 ?_
  refine r_pSi1 B (c_X5_root l G M (m * z) (by omega) (by omega)) ⟨rfl, rfl⟩ ok_X5_root q_336 q_335 ⟨Nat.le_of_ble_eq_true rfl, Nat.le_of_ble_eq_true rfl, Nat.le_of_ble_eq_true rfl⟩ ⟨Nat.le_of_ble_eq_true rfl, Nat.le_of_ble_eq_true rfl⟩ dX5_baseTolerance_11 ?_
  generalize hre : rtS (m * z) = r at hr
  refine r_istore_n B (lv' := [(3, .int (iI r)), (2, .int (iI m)), (0, .ref a), (1, .int (iI w))]) dX5_baseTolerance_14 (by decide) rfl ?_
  refine r_bipush B (z := 70) dX5_baseTolerance_15 (by decide) ?_
  refine r_iconst B dX5_baseTolerance_17 ?_
  refine r_iload_n B 1 dX5_baseTolerance_18 rfl ?_
  refine r_imul B dX5_baseTolerance_19 ?_
  refine r_iadd B dX5_baseTolerance_20 ?_
  refine r_bipush B (z := 11) dX5_baseTolerance_21 (by decide) ?_
  refine r_iload_n B 0 dX5_baseTolerance_23 rfl ?_
  refine r_imul B dX5_baseTolerance_24 ?_
  refine r_iadd B dX5_baseTolerance_25 ?_
  refine r_istore B (lv' := [(4, .int (iI ((70 + (3 * m)) + (11 * r)))), (3, .int (iI r)), (2, .int (iI m)), (0, .ref a), (1, .int (iI w))]) dX5_baseTolerance_26 (by decide) rfl ?_
  refine r_bipush B (z := 40) dX5_baseTolerance_28 (by decide) ?_
  refine r_bipush B (z := 10) dX5_baseTolerance_30 (by decide) ?_
  refine r_iload_n B 2 dX5_baseTolerance_32 rfl ?_
  refine r_imul B dX5_baseTolerance_33 ?_
  refine r_iadd B dX5_baseTolerance_34 ?_
  refine r_iload_n B 1 dX5_baseTolerance_35 rfl ?_
  refine r_iadd B dX5_baseTolerance_36 ?_
  refine r_istore B (lv' := [(5, .int (iI ((40 + (10 * m)) + r))), (4, .int (iI ((70 + (3 * m)) + (11 * r)))), (3, .int (iI r)), (2, .int (iI m)), (0, .ref a), (1, .int (iI w))]) dX5_baseTolerance_37 (by decide) rfl ?_
  refine r_bipush B (z := 60) dX5_baseTolerance_39 (by decide) ?_
  refine r_iconst B dX5_baseTolerance_41 ?_
  refine r_iload_n B 2 dX5_baseTolerance_42 rfl ?_
  refine r_imul B dX5_baseTolerance_43 ?_
  refine r_iadd B dX5_baseTolerance_44 ?_
  refine r_istore B (lv' := [(6, .int (iI (60 + (2 * r)))), (5, .int (iI ((40 + (10 * m)) + r))), (4, .int (iI ((70 + (3 * m)) + (11 * r)))), (3, .int (iI r)), (2, .int (iI m)), (0, .ref a), (1, .int (iI w))]) dX5_baseTolerance_45 (by decide) rfl ?_
  refine r_iload_n B 6 dX5_baseTolerance_47 rfl ?_
  have hres : btS z m w = btR m r w := by unfold btS; rw [hre]
  rcases (show w = 0 ∨ w = 1 ∨ w = 2 ∨ w = 3 ∨ w = 4 ∨ w = 5 ∨ w = 6 ∨ 7 ≤ w by omega) with rfl | rfl | rfl | rfl | rfl | rfl | rfl | hw7
  · refine r_tabIn B dX5_baseTolerance_48 ⟨by omega, by omega⟩ (off := 44) (tgt := 92) (by omega) (by omega) rfl rfl ?_
    refine r_bipush B (z := 30) dX5_baseTolerance_92 (by decide) ?_
    refine r_iconst B dX5_baseTolerance_94 ?_
    refine r_iload_n B 4 dX5_baseTolerance_95 rfl ?_
    refine r_imul B dX5_baseTolerance_96 ?_
    refine r_iadd B dX5_baseTolerance_97 ?_
    refine r_iload_n B 3 dX5_baseTolerance_98 rfl ?_
    refine r_iadd B dX5_baseTolerance_99 ?_
    exact r_iret B dX5_baseTolerance_100 ⟨by rw [hres]; simp [btR]; try omega, rfl⟩
  · refine r_tabIn B dX5_baseTolerance_48 ⟨by omega, by omega⟩ (off := 53) (tgt := 101) (by omega) (by omega) rfl rfl ?_
    refine r_iload B 2 dX5_baseTolerance_101 rfl ?_
    exact r_iret B dX5_baseTolerance_103 ⟨by rw [hres]; simp [btR]; try omega, rfl⟩
  · refine r_tabIn B dX5_baseTolerance_48 ⟨by omega, by omega⟩ (off := 56) (tgt := 104) (by omega) (by omega) rfl rfl ?_
    refine r_iload B 2 dX5_baseTolerance_104 rfl ?_
    refine r_bipush B (z := 8) dX5_baseTolerance_106 (by decide) ?_
    refine r_imul B dX5_baseTolerance_108 ?_
    refine r_bipush B (z := 10) dX5_baseTolerance_109 (by decide) ?_
    refine r_idiv B dX5_baseTolerance_111 ⟨by omega, by omega⟩ ⟨by omega, by omega⟩ (by omega) ?_
    refine r_vi (y := (((70 + (3 * m)) + (11 * r)) * 8) / 10) (Int.tdiv_eq_ediv_of_nonneg (by omega)) ?_
    exact r_iret B dX5_baseTolerance_112 ⟨by rw [hres]; simp [btR]; try omega, rfl⟩
  · refine r_tabIn B dX5_baseTolerance_48 ⟨by omega, by omega⟩ (off := 65) (tgt := 113) (by omega) (by omega) rfl rfl ?_
    refine r_iload B 1 dX5_baseTolerance_113 rfl ?_
    exact r_iret B dX5_baseTolerance_115 ⟨by rw [hres]; simp [btR]; try omega, rfl⟩
  · refine r_tabIn B dX5_baseTolerance_48 ⟨by omega, by omega⟩ (off := 68) (tgt := 116) (by omega) (by omega) rfl rfl ?_
    refine r_iload B 1 dX5_baseTolerance_116 rfl ?_
    refine r_bipush B (z := 7) dX5_baseTolerance_118 (by decide) ?_
    refine r_imul B dX5_baseTolerance_120 ?_
    refine r_bipush B (z := 10) dX5_baseTolerance_121 (by decide) ?_
    refine r_idiv B dX5_baseTolerance_123 ⟨by omega, by omega⟩ ⟨by omega, by omega⟩ (by omega) ?_
    refine r_vi (y := (((40 + (10 * m)) + r) * 7) / 10) (Int.tdiv_eq_ediv_of_nonneg (by omega)) ?_
    exact r_iret B dX5_baseTolerance_124 ⟨by rw [hres]; simp [btR]; try omega, rfl⟩
  · refine r_tabIn B dX5_baseTolerance_48 ⟨by omega, by omega⟩ (off := 77) (tgt := 125) (by omega) (by omega) rfl rfl ?_
    refine r_iload B 1 dX5_baseTolerance_125 rfl ?_
    refine r_bipush B (z := 8) dX5_baseTolerance_127 (by decide) ?_
    refine r_imul B dX5_baseTolerance_129 ?_
    refine r_bipush B (z := 10) dX5_baseTolerance_130 (by decide) ?_
    refine r_idiv B dX5_baseTolerance_132 ⟨by omega, by omega⟩ ⟨by omega, by omega⟩ (by omega) ?_
    refine r_vi (y := (((40 + (10 * m)) + r) * 8) / 10) (Int.tdiv_eq_ediv_of_nonneg (by omega)) ?_
    exact r_iret B dX5_baseTolerance_133 ⟨by rw [hres]; simp [btR]; try omega, rfl⟩
  · refine r_tabIn B dX5_baseTolerance_48 ⟨by omega, by omega⟩ (off := 86) (tgt := 134) (by omega) (by omega) rfl rfl ?_
    refine r_iload B 0 dX5_baseTolerance_134 rfl ?_
    exact r_iret B dX5_baseTolerance_136 ⟨by rw [hres]; simp [btR]; try omega, rfl⟩
  · refine r_tabOut B dX5_baseTolerance_48 ⟨by omega, by omega⟩ (tgt := 137) (Or.inr (by omega)) rfl ?_
    refine r_iload B 0 dX5_baseTolerance_137 rfl ?_
    refine r_bipush B (z := 6) dX5_baseTolerance_139 (by decide) ?_
    refine r_imul B dX5_baseTolerance_141 ?_
    refine r_bipush B (z := 10) dX5_baseTolerance_142 (by decide) ?_
    refine r_idiv B dX5_baseTolerance_144 ⟨by omega, by omega⟩ ⟨by omega, by omega⟩ (by omega) ?_
    refine r_vi (y := ((60 + (2 * r)) * 6) / 10) (Int.tdiv_eq_ediv_of_nonneg (by omega)) ?_
    exact r_iret B dX5_baseTolerance_145 ⟨by rw [hres]; unfold btR; rw [if_neg (by omega), if_neg (by omega), if_neg (by omega), if_neg (by omega), if_neg (by omega), if_neg (by omega), if_neg (by omega)], rfl⟩
