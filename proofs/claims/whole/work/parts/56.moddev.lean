set_option maxRecDepth 100000 in
set_option maxHeartbeats 4000000 in
theorem c_X6_root (l : Launch) (G : Gs) (M : Mem) (p : Int) (hp0 : 0 ≤ p) (hp1 : p ≤ 600) : Ct l G yX6_root cX6_root 2 (some .int) rm_X6_root [.int (iI p)] M (PoI G (Rd (rtS p) M)) 0 0 := by
  refine Ct.of (by decide +kernel) (Nat.le_of_ble_eq_true rfl) [(0, .int (iI p))] rfl ?_
  intro X B
  refine r_iconst B dX6_root_0 ?_
  refine r_istore_n B (lv' := [(1, .int (iI 0)), (0, .int (iI p))]) dX6_root_1 (by decide) rfl ?_
  have lp1 : ∀ (nlp1 : Nat) (r : Int) (hr1 : 0 ≤ r) (hr2 : r ≤ 24) (hro : r * r ≤ p), (25 - r).toNat < nlp1 → WM G X 0 0 (bM X (PoI G (Rd (rtS p) M)) 0 0 G) M 2 [(0, .int (iI p)), (1, .int (iI r))] [] := by
    intro nlp1
    induction nlp1 with
    | zero => intro r hr1 hr2 hro hm; omega
    | succ nlp1 ihlp1 =>
      intro r hr1 hr2 hro hm
      have hm1 := mulB (x := r + 1) (y := r + 1) (A := 25) (C := 25) (by omega) (by omega) (by omega) (by omega) (by omega)
      refine r_iload_n B 1 dX6_root_2 rfl ?_
      refine r_iconst B dX6_root_3 ?_
      refine r_iadd B dX6_root_4 ?_
      refine r_iload_n B 1 dX6_root_5 rfl ?_
      refine r_iconst B dX6_root_6 ?_
      refine r_iadd B dX6_root_7 ?_
      refine r_imul B dX6_root_8 ?_
      refine r_iload_n B 0 dX6_root_9 rfl ?_
      refine r_icmp_gt B dX6_root_10 rfl ⟨by omega, by omega⟩ ⟨by omega, by omega⟩ (fun h2 => ?_) (fun h2 => ?_)
      · refine r_iload_n B 1 dX6_root_19 rfl ?_
        exact r_iret B dX6_root_20 ⟨(rtN_eq (by omega) hro (by omega) 30 (by omega)).symm, rfl⟩
      · have hr24 : r ≤ 23 := Decidable.byContradiction (fun q => by have z : r = 24 := (by omega); rw [z] at h2; omega)
        refine r_iinc B (lv' := [(1, .int (iI (r + 1))), (0, .int (iI p))]) dX6_root_13 (j := 1) rfl (by decide) rfl ?_
        refine r_goto B dX6_root_16 rfl ?_
        refine WM.pick [1, 0] rfl ?_
        exact ihlp1 (r + 1) (by omega) (by omega) (by omega) (by omega)
  refine WM.pick [1, 0] rfl ?_
  exact lp1 _ 0 (by omega) (by omega) (by omega) (Nat.lt_succ_self _)

set_option maxRecDepth 100000 in
set_option maxHeartbeats 4000000 in
theorem c_X6_toleranceOfFive (l : Launch) (G : Gs) (M : Mem) (md : Nat) (hM : IsMd G md) (s : Ast) (hS_M : MdS M md s) (hok : StateOk s) (ge w : Int) (h0 : 0 ≤ ge) (h1 : ge < s.1) (hw0 : 0 ≤ w) (hw1 : w < 9) : Ct l G yX6_toleranceOfFive cX6_toleranceOfFive 5 (some .int) rm_X6_toleranceOfFive [.ref md, .int (iI ge), .int (iI w)] M (PoI G (Rd (btS (s.2.2.1 ge).1 (s.2.2.1 ge).2.1 w) M)) 0 0 := by
  refine Ct.of (by decide +kernel) (Nat.le_of_ble_eq_true rfl) [(0, .ref md), (1, .int (iI ge)), (2, .int (iI w))] rfl ?_
  intro X B
  have hs1 := hok.1
  have hs2 := hok.2.1
  have hs3 := hok.2.2.1
  have hs4 := hok.2.2.2.1
  have hF_M : FL M M md := FL.rf
  have hgk := hok.2.2.2.2.1 ge (by omega) (by omega)
  obtain ⟨hgk1, hgk2, hgk3, hgk4, hgk5⟩ := id hgk
  have hmt := mulB (x := (s.2.2.1 ge).2.1) (y := (s.2.2.1 ge).1) (A := 20) (C := 30) (by omega) (by omega) (by omega) (by omega) (by omega)
  have hmt0 : 0 ≤ (s.2.2.1 ge).2.1 * (s.2.2.1 ge).1 := Int.mul_nonneg (by omega) (by omega)
  have hr := rtS_in ((s.2.2.1 ge).2.1 * (s.2.2.1 ge).1)
  refine r_aload_n B 0 dX6_toleranceOfFive_0 rfl ?_
  refine r_iload_n B 1 dX6_toleranceOfFive_1 rfl ?_
  refine r_pVi1 B (c_X6_moduleOf l G M md hM ge (by omega) (by omega)) ⟨rfl, rfl⟩ ok_X6_moduleOf vi_X6_moduleOf q_1066 hM.1 rfl (fun _ => rfl) ⟨Nat.le_of_ble_eq_true rfl, Nat.le_of_ble_eq_true rfl, Nat.le_of_ble_eq_true rfl⟩ ⟨Nat.le_of_ble_eq_true rfl, Nat.le_of_ble_eq_true rfl⟩ dX6_toleranceOfFive_2 ?_
  refine r_vi (y := (s.2.2.1 ge).2.1) (hS_M.2.2.1 ge (by omega) (by omega)).2.1 ?_
  refine r_istore_n B (lv' := [(3, .int (iI ((s.2.2.1 ge).2.1))), (0, .ref md), (1, .int (iI ge)), (2, .int (iI w))]) dX6_toleranceOfFive_5 (by decide) rfl ?_
  refine r_iload_n B 0 dX6_toleranceOfFive_6 rfl ?_
  refine r_aload_n B 1 dX6_toleranceOfFive_7 rfl ?_
  refine r_iload_n B 2 dX6_toleranceOfFive_8 rfl ?_
  refine r_pVi1 B (c_X6_teeth l G M md hM ge (by omega) (by omega)) ⟨rfl, rfl⟩ ok_X6_teeth vi_X6_teeth q_1013 hM.1 rfl (fun _ => rfl) ⟨Nat.le_of_ble_eq_true rfl, Nat.le_of_ble_eq_true rfl, Nat.le_of_ble_eq_true rfl⟩ ⟨Nat.le_of_ble_eq_true rfl, Nat.le_of_ble_eq_true rfl⟩ dX6_toleranceOfFive_9 ?_
  refine r_vi (y := (s.2.2.1 ge).1) (hS_M.2.2.1 ge (by omega) (by omega)).1 ?_
  refine r_imul B dX6_toleranceOfFive_12 ?_
  refine r_pSi1 B (c_X6_root l G M  (((s.2.2.1 ge).2.1) * ((s.2.2.1 ge).1)) (by omega) (by omega)) ⟨rfl, rfl⟩ ok_X6_root q_1132 q_1131 ⟨Nat.le_of_ble_eq_true rfl, Nat.le_of_ble_eq_true rfl, Nat.le_of_ble_eq_true rfl⟩ ⟨Nat.le_of_ble_eq_true rfl, Nat.le_of_ble_eq_true rfl⟩ dX6_toleranceOfFive_13 ?_
  generalize hre : rtS ((s.2.2.1 ge).2.1 * (s.2.2.1 ge).1) = r at hr
  refine r_istore B (lv' := [(4, .int (iI r)), (3, .int (iI ((s.2.2.1 ge).2.1))), (0, .ref md), (1, .int (iI ge)), (2, .int (iI w))]) dX6_toleranceOfFive_16 (by decide) rfl ?_
  refine r_iload_n B 4 dX6_toleranceOfFive_18 rfl ?_
  have hres : btS (s.2.2.1 ge).1 (s.2.2.1 ge).2.1 w = btR (s.2.2.1 ge).2.1 r w := by unfold btS; rw [hre]
  rcases (show w = 0 ∨ w = 1 ∨ w = 2 ∨ w = 3 ∨ w = 4 ∨ w = 5 ∨ w = 6 ∨ 7 ≤ w by omega) with rfl | rfl | rfl | rfl | rfl | rfl | rfl | hw7
  · refine r_tabIn B dX6_toleranceOfFive_19 ⟨by omega, by omega⟩ (off := 41) (tgt := 60) (by omega) (by omega) rfl rfl ?_
    refine r_bipush B (z := 30) dX6_toleranceOfFive_60 (by decide) ?_
    refine r_iconst B dX6_toleranceOfFive_62 ?_
    refine r_iload_n B 1 dX6_toleranceOfFive_63 rfl ?_
    refine r_imul B dX6_toleranceOfFive_64 ?_
    refine r_iadd B dX6_toleranceOfFive_65 ?_
    refine r_iload B 0 dX6_toleranceOfFive_66 rfl ?_
    refine r_iadd B dX6_toleranceOfFive_68 ?_
    exact r_iret B dX6_toleranceOfFive_69 ⟨by rw [hres]; simp [btR]; try omega, rfl⟩
  · refine r_tabIn B dX6_toleranceOfFive_19 ⟨by omega, by omega⟩ (off := 51) (tgt := 70) (by omega) (by omega) rfl rfl ?_
    refine r_bipush B (z := 70) dX6_toleranceOfFive_70 (by decide) ?_
    refine r_iconst B dX6_toleranceOfFive_72 ?_
    refine r_iload_n B 1 dX6_toleranceOfFive_73 rfl ?_
    refine r_imul B dX6_toleranceOfFive_74 ?_
    refine r_iadd B dX6_toleranceOfFive_75 ?_
    refine r_bipush B (z := 11) dX6_toleranceOfFive_76 (by decide) ?_
    refine r_iload B 0 dX6_toleranceOfFive_78 rfl ?_
    refine r_imul B dX6_toleranceOfFive_80 ?_
    refine r_iadd B dX6_toleranceOfFive_81 ?_
    exact r_iret B dX6_toleranceOfFive_82 ⟨by rw [hres]; simp [btR]; try omega, rfl⟩
  · refine r_tabIn B dX6_toleranceOfFive_19 ⟨by omega, by omega⟩ (off := 64) (tgt := 83) (by omega) (by omega) rfl rfl ?_
    refine r_bipush B (z := 8) dX6_toleranceOfFive_83 (by decide) ?_
    refine r_bipush B (z := 70) dX6_toleranceOfFive_85 (by decide) ?_
    refine r_iconst B dX6_toleranceOfFive_87 ?_
    refine r_iload_n B 1 dX6_toleranceOfFive_88 rfl ?_
    refine r_imul B dX6_toleranceOfFive_89 ?_
    refine r_iadd B dX6_toleranceOfFive_90 ?_
    refine r_bipush B (z := 11) dX6_toleranceOfFive_91 (by decide) ?_
    refine r_iload B 0 dX6_toleranceOfFive_93 rfl ?_
    refine r_imul B dX6_toleranceOfFive_95 ?_
    refine r_iadd B dX6_toleranceOfFive_96 ?_
    refine r_imul B dX6_toleranceOfFive_97 ?_
    refine r_bipush B (z := 10) dX6_toleranceOfFive_98 (by decide) ?_
    refine r_idiv B dX6_toleranceOfFive_100 ⟨by omega, by omega⟩ ⟨by omega, by omega⟩ (by omega) ?_
    refine r_vi (y := (8 * ((70 + (3 * ((s.2.2.1 ge).2.1))) + (11 * r))) / 10) (Int.tdiv_eq_ediv_of_nonneg (by omega)) ?_
    exact r_iret B dX6_toleranceOfFive_101 ⟨by rw [hres]; simp [btR]; try omega, rfl⟩
  · refine r_tabIn B dX6_toleranceOfFive_19 ⟨by omega, by omega⟩ (off := 83) (tgt := 102) (by omega) (by omega) rfl rfl ?_
    refine r_bipush B (z := 40) dX6_toleranceOfFive_102 (by decide) ?_
    refine r_bipush B (z := 10) dX6_toleranceOfFive_104 (by decide) ?_
    refine r_iload_n B 1 dX6_toleranceOfFive_106 rfl ?_
    refine r_imul B dX6_toleranceOfFive_107 ?_
    refine r_iadd B dX6_toleranceOfFive_108 ?_
    refine r_iload B 0 dX6_toleranceOfFive_109 rfl ?_
    refine r_iadd B dX6_toleranceOfFive_111 ?_
    exact r_iret B dX6_toleranceOfFive_112 ⟨by rw [hres]; simp [btR]; try omega, rfl⟩
  · refine r_tabIn B dX6_toleranceOfFive_19 ⟨by omega, by omega⟩ (off := 94) (tgt := 113) (by omega) (by omega) rfl rfl ?_
    refine r_bipush B (z := 7) dX6_toleranceOfFive_113 (by decide) ?_
    refine r_bipush B (z := 40) dX6_toleranceOfFive_115 (by decide) ?_
    refine r_bipush B (z := 10) dX6_toleranceOfFive_117 (by decide) ?_
    refine r_iload_n B 1 dX6_toleranceOfFive_119 rfl ?_
    refine r_imul B dX6_toleranceOfFive_120 ?_
    refine r_iadd B dX6_toleranceOfFive_121 ?_
    refine r_iload B 0 dX6_toleranceOfFive_122 rfl ?_
    refine r_iadd B dX6_toleranceOfFive_124 ?_
    refine r_imul B dX6_toleranceOfFive_125 ?_
    refine r_bipush B (z := 10) dX6_toleranceOfFive_126 (by decide) ?_
    refine r_idiv B dX6_toleranceOfFive_128 ⟨by omega, by omega⟩ ⟨by omega, by omega⟩ (by omega) ?_
    refine r_vi (y := (7 * ((40 + (10 * ((s.2.2.1 ge).2.1))) + r)) / 10) (Int.tdiv_eq_ediv_of_nonneg (by omega)) ?_
    exact r_iret B dX6_toleranceOfFive_129 ⟨by rw [hres]; simp [btR]; try omega, rfl⟩
  · refine r_tabIn B dX6_toleranceOfFive_19 ⟨by omega, by omega⟩ (off := 111) (tgt := 130) (by omega) (by omega) rfl rfl ?_
    refine r_bipush B (z := 8) dX6_toleranceOfFive_130 (by decide) ?_
    refine r_bipush B (z := 40) dX6_toleranceOfFive_132 (by decide) ?_
    refine r_bipush B (z := 10) dX6_toleranceOfFive_134 (by decide) ?_
    refine r_iload_n B 1 dX6_toleranceOfFive_136 rfl ?_
    refine r_imul B dX6_toleranceOfFive_137 ?_
    refine r_iadd B dX6_toleranceOfFive_138 ?_
    refine r_iload B 0 dX6_toleranceOfFive_139 rfl ?_
    refine r_iadd B dX6_toleranceOfFive_141 ?_
    refine r_imul B dX6_toleranceOfFive_142 ?_
    refine r_bipush B (z := 10) dX6_toleranceOfFive_143 (by decide) ?_
    refine r_idiv B dX6_toleranceOfFive_145 ⟨by omega, by omega⟩ ⟨by omega, by omega⟩ (by omega) ?_
    refine r_vi (y := (8 * ((40 + (10 * ((s.2.2.1 ge).2.1))) + r)) / 10) (Int.tdiv_eq_ediv_of_nonneg (by omega)) ?_
    exact r_iret B dX6_toleranceOfFive_146 ⟨by rw [hres]; simp [btR]; try omega, rfl⟩
  · refine r_tabIn B dX6_toleranceOfFive_19 ⟨by omega, by omega⟩ (off := 128) (tgt := 147) (by omega) (by omega) rfl rfl ?_
    refine r_bipush B (z := 60) dX6_toleranceOfFive_147 (by decide) ?_
    refine r_iconst B dX6_toleranceOfFive_149 ?_
    refine r_iload B 0 dX6_toleranceOfFive_150 rfl ?_
    refine r_imul B dX6_toleranceOfFive_152 ?_
    refine r_iadd B dX6_toleranceOfFive_153 ?_
    exact r_iret B dX6_toleranceOfFive_154 ⟨by rw [hres]; simp [btR]; try omega, rfl⟩
  · refine r_tabOut B dX6_toleranceOfFive_19 ⟨by omega, by omega⟩ (tgt := 155) (Or.inr (by omega)) rfl ?_
    refine r_bipush B (z := 6) dX6_toleranceOfFive_155 (by decide) ?_
    refine r_bipush B (z := 60) dX6_toleranceOfFive_157 (by decide) ?_
    refine r_iconst B dX6_toleranceOfFive_159 ?_
    refine r_iload B 0 dX6_toleranceOfFive_160 rfl ?_
    refine r_imul B dX6_toleranceOfFive_162 ?_
    refine r_iadd B dX6_toleranceOfFive_163 ?_
    refine r_imul B dX6_toleranceOfFive_164 ?_
    refine r_bipush B (z := 10) dX6_toleranceOfFive_165 (by decide) ?_
    refine r_idiv B dX6_toleranceOfFive_167 ⟨by omega, by omega⟩ ⟨by omega, by omega⟩ (by omega) ?_
    refine r_vi (y := (6 * (60 + (2 * r))) / 10) (Int.tdiv_eq_ediv_of_nonneg (by omega)) ?_
    exact r_iret B dX6_toleranceOfFive_168 ⟨by rw [hres]; unfold btR; rw [if_neg (by omega), if_neg (by omega), if_neg (by omega), if_neg (by omega), if_neg (by omega), if_neg (by omega), if_neg (by omega)]; omega, rfl⟩

set_option maxRecDepth 100000 in
set_option maxHeartbeats 4000000 in
theorem c_X6_toleranceOf (l : Launch) (G : Gs) (M : Mem) (md : Nat) (hM : IsMd G md) (s : Ast) (hS_M : MdS M md s) (hok : StateOk s) (ge w q : Int) (h0 : 0 ≤ ge) (h1 : ge < s.1) (hw0 : 0 ≤ w) (hw1 : w < 9) (hq1 : 1 ≤ q) (hq2 : q ≤ 12) : Ct l G yX6_toleranceOf cX6_toleranceOf 6 (some .int) rm_X6_toleranceOf [.ref md, .int (iI ge), .int (iI w), .int (iI q)] M (PoI G (Rd (ocS (btS (s.2.2.1 ge).1 (s.2.2.1 ge).2.1 w) q) M)) 0 0 := by
  refine Ct.of (by decide +kernel) (Nat.le_of_ble_eq_true rfl) [(0, .ref md), (1, .int (iI ge)), (2, .int (iI w)), (3, .int (iI q))] rfl ?_
  intro X B
  have hs1 := hok.1
  have hs2 := hok.2.1
  have hs3 := hok.2.2.1
  have hs4 := hok.2.2.2.1
  have hF_M : FL M M md := FL.rf
  have hgk := hok.2.2.2.2.1 ge (by omega) (by omega)
  obtain ⟨hgk1, hgk2, hgk3, hgk4, hgk5⟩ := id hgk
  have hbt := btS_in (t := (s.2.2.1 ge).1) (m := (s.2.2.1 ge).2.1) (w := w) hgk3 hgk4
  refine r_aload_n B 0 dX6_toleranceOf_0 rfl ?_
  refine r_iload_n B 1 dX6_toleranceOf_1 rfl ?_
  refine r_iload_n B 2 dX6_toleranceOf_2 rfl ?_
  refine r_pVi2 B (c_X6_toleranceOfFive l G M md hM s hS_M hok ge w (by omega) (by omega) (by omega) (by omega)) ⟨rfl, rfl⟩ ok_X6_toleranceOfFive vi_X6_toleranceOfFive q_1127 hM.1 rfl (fun _ => rfl) ⟨Nat.le_of_ble_eq_true rfl, Nat.le_of_ble_eq_true rfl, Nat.le_of_ble_eq_true rfl⟩ ⟨Nat.le_of_ble_eq_true rfl, Nat.le_of_ble_eq_true rfl⟩ dX6_toleranceOf_3 ?_
  obtain ⟨v, hbv⟩ : ∃ v : Int, btS (s.2.2.1 ge).1 (s.2.2.1 ge).2.1 w = v := ⟨_, rfl⟩
  rw [hbv] at hbt
  refine r_vi (y := v) hbv ?_
  obtain ⟨h0v, h1v⟩ := hbt
  refine r_istore B (lv' := [(4, .int (iI v)), (0, .ref md), (1, .int (iI ge)), (2, .int (iI w)), (3, .int (iI q))]) dX6_toleranceOf_6 (by decide) rfl ?_
  refine r_iconst B dX6_toleranceOf_8 ?_
  refine r_istore B (lv' := [(5, .int (iI 5)), (4, .int (iI v)), (0, .ref md), (1, .int (iI ge)), (2, .int (iI w)), (3, .int (iI q))]) dX6_toleranceOf_9 (by decide) rfl ?_
  have lp1 : ∀ (nlp1 : Nat) (i : Int) (va : Int) (hi0 : 5 ≤ i) (hi1 : i = 5 ∨ (5 ≤ i ∧ i ≤ q)) (hva : va = ocU v (i - 5).toNat), (q - i).toNat < nlp1 → WM G X 0 0 (bM X (PoI G (Rd (ocS (btS (s.2.2.1 ge).1 (s.2.2.1 ge).2.1 w) q) M)) 0 0 G) M 11 [(0, .ref md), (1, .int (iI ge)), (2, .int (iI w)), (3, .int (iI q)), (4, .int (iI va)), (5, .int (iI i))] [] := by
    intro nlp1
    induction nlp1 with
    | zero => intro i va hi0 hi1 hva hm; omega
    | succ nlp1 ihlp1 =>
      intro i va hi0 hi1 hva hm
      have hu := ocU_in (v := v) h0v h1v (n := (i - 5).toNat) (by omega)
      refine r_iload B 5 dX6_toleranceOf_11 rfl ?_
      refine r_iload_n B 3 dX6_toleranceOf_13 rfl ?_
      refine r_icmp_ge B dX6_toleranceOf_14 rfl ⟨by omega, by omega⟩ ⟨by omega, by omega⟩ (fun h2 => ?_) (fun h2 => ?_)
      · have hS : q ≤ 5 ∧ va = v ∨ 5 < q ∧ va = ocS v q := by
          rcases hi1 with w | ⟨w, w2⟩
          · refine Or.inl ⟨by omega, ?_⟩
            rw [hva, w]; rfl
          · by_cases z : q = 5
            · refine Or.inl ⟨by omega, ?_⟩
              rw [hva, show (i - 5).toNat = 0 by omega]; rfl
            · refine Or.inr ⟨by omega, ?_⟩
              unfold ocS
              rw [if_pos (by omega), hva, show i = q by omega]
        have hsb := ocS_in (v := v) h0v h1v (q := q) (by omega)
        refine r_iconst B dX6_toleranceOf_35 ?_
        refine r_istore B (lv' := [(5, .int (iI 5)), (0, .ref md), (1, .int (iI ge)), (2, .int (iI w)), (3, .int (iI q)), (4, .int (iI va))]) dX6_toleranceOf_36 (by decide) rfl ?_
        have lp3 : ∀ (nlp3 : Nat) (j : Int) (vb : Int) (hj0 : j ≤ 5) (hj1 : (q ≤ j ∧ q ≤ 5 ∧ vb = ocD v (5 - j).toNat) ∨ (j = 5 ∧ 5 < q ∧ vb = ocS v q)), (j - q).toNat < nlp3 → WM G X 0 0 (bM X (PoI G (Rd (ocS (btS (s.2.2.1 ge).1 (s.2.2.1 ge).2.1 w) q) M)) 0 0 G) M 38 [(0, .ref md), (1, .int (iI ge)), (2, .int (iI w)), (3, .int (iI q)), (4, .int (iI vb)), (5, .int (iI j))] [] := by
          intro nlp3
          induction nlp3 with
          | zero => intro j vb hj0 hj1 hm; omega
          | succ nlp3 ihlp3 =>
            intro j vb hj0 hj1 hm
            have hd := ocD_in (v := v) h0v h1v (5 - j).toNat
            have hvb64 : 0 ≤ vb ∧ vb ≤ 64000 := by rcases hj1 with w | w <;> omega
            refine r_iload B 5 dX6_toleranceOf_38 rfl ?_
            refine r_iload_n B 3 dX6_toleranceOf_40 rfl ?_
            refine r_icmp_le B dX6_toleranceOf_41 rfl ⟨by omega, by omega⟩ ⟨by omega, by omega⟩ (fun h4 => ?_) (fun h4 => ?_)
            · refine r_iload B 4 dX6_toleranceOf_62 rfl ?_
              exact r_iret B dX6_toleranceOf_64 ⟨by rw [hbv]; rcases hj1 with ⟨w1, w2, w3⟩ | ⟨w1, w2, w3⟩; unfold ocS; by_cases z : q = 5; rw [if_pos (by omega), w3, show (5 - j).toNat = 0 by omega, show (q - 5).toNat = 0 by omega]; rfl; rw [if_neg (by omega), w3, show j = q by omega]; exact w3, rfl⟩
            · refine r_iload B 4 dX6_toleranceOf_44 rfl ?_
              refine r_sipush B (z := 1000) dX6_toleranceOf_46 (by decide) ?_
              refine r_imul B dX6_toleranceOf_49 ?_
              refine r_sipush B (z := 1414) dX6_toleranceOf_50 (by decide) ?_
              refine r_idiv B dX6_toleranceOf_53 ⟨by omega, by omega⟩ ⟨by omega, by omega⟩ (by omega) ?_
              refine r_vi (y := vb * 1000 / 1414) (Int.tdiv_eq_ediv_of_nonneg (by omega)) ?_
              refine r_istore B (lv' := [(4, .int (iI (vb * 1000 / 1414))), (0, .ref md), (1, .int (iI ge)), (2, .int (iI w)), (3, .int (iI q)), (5, .int (iI j))]) dX6_toleranceOf_54 (by decide) rfl ?_
              refine r_iinc B (lv' := [(5, .int (iI (j + (-1)))), (4, .int (iI (vb * 1000 / 1414))), (0, .ref md), (1, .int (iI ge)), (2, .int (iI w)), (3, .int (iI q))]) dX6_toleranceOf_56 (j := 5) rfl (by decide) rfl ?_
              refine r_goto B dX6_toleranceOf_59 rfl ?_
              refine WM.pick [2, 3, 4, 5, 1, 0] rfl ?_
              exact ihlp3 (j + -1) _ (by omega) (Or.inl ⟨by omega, by omega, by rcases hj1 with w | w; rw [w.2.2, show j + -1 = j - 1 by omega, ocD_s v (by omega)]; omega⟩) (by omega)
        refine WM.pick [1, 2, 3, 4, 5, 0] rfl ?_
        exact lp3 _ 5 _ (by omega) (by rcases hS with w | w; exact Or.inl ⟨by omega, by omega, by rw [w.2]; rfl⟩; exact Or.inr ⟨rfl, w.1, w.2⟩) (Nat.lt_succ_self _)
      · refine r_iload B 4 dX6_toleranceOf_17 rfl ?_
        refine r_sipush B (z := 1414) dX6_toleranceOf_19 (by decide) ?_
        refine r_imul B dX6_toleranceOf_22 ?_
        refine r_sipush B (z := 1000) dX6_toleranceOf_23 (by decide) ?_
        refine r_idiv B dX6_toleranceOf_26 ⟨by omega, by omega⟩ ⟨by omega, by omega⟩ (by omega) ?_
        refine r_vi (y := va * 1414 / 1000) (Int.tdiv_eq_ediv_of_nonneg (by omega)) ?_
        refine r_istore B (lv' := [(4, .int (iI (va * 1414 / 1000))), (0, .ref md), (1, .int (iI ge)), (2, .int (iI w)), (3, .int (iI q)), (5, .int (iI i))]) dX6_toleranceOf_27 (by decide) rfl ?_
        refine r_iinc B (lv' := [(5, .int (iI (i + 1))), (4, .int (iI (va * 1414 / 1000))), (0, .ref md), (1, .int (iI ge)), (2, .int (iI w)), (3, .int (iI q))]) dX6_toleranceOf_29 (j := 5) rfl (by decide) rfl ?_
        refine r_goto B dX6_toleranceOf_32 rfl ?_
        refine WM.pick [2, 3, 4, 5, 1, 0] rfl ?_
        exact ihlp1 (i + 1) _ (by omega) (Or.inr ⟨by omega, by omega⟩) (by rw [ocU_s v hi0, ← hva]) (by omega)
  refine WM.pick [2, 3, 4, 5, 1, 0] rfl ?_
  exact lp1 _ 5 v (by omega) (Or.inl rfl) rfl (Nat.lt_succ_self _)

set_option maxRecDepth 100000 in
set_option maxHeartbeats 4000000 in
theorem c_X6_tolerance (l : Launch) (G : Gs) (M : Mem) (md : Nat) (hM : IsMd G md) (s : Ast) (hS_M : MdS M md s) (hok : StateOk s) (ge wh qu : Int) (hge : In32 ge) (hwh : In32 wh) (hqu : In32 qu) : Ct l G yX6_tolerance cX6_tolerance 4 (some .int) rm_X6_tolerance [.ref md, .int (iI ge), .int (iI wh), .int (iI qu)] M (PoI G (fun r M' => r = (oTol s ge wh qu).2 ∧ M' = sI M md 6 (oTol s ge wh qu).1)) 0 0 := by
  refine Ct.of (by decide +kernel) (Nat.le_of_ble_eq_true rfl) [(0, .ref md), (1, .int (iI ge)), (2, .int (iI wh)), (3, .int (iI qu))] rfl ?_
  intro X B
  have hs1 := hok.1
  have hs2 := hok.2.1
  have hs3 := hok.2.2.1
  have hs4 := hok.2.2.2.1
  have hF_M : FL M M md := FL.rf
  obtain ⟨hge1, hge2⟩ := hge
  obtain ⟨hwh1, hwh2⟩ := hwh
  obtain ⟨hqu1, hqu2⟩ := hqu
  have i1 := inF_in ge 0 (s.1 - 1)
  have i2 := inF_in wh 0 8
  have i3 := inF_in qu 1 12
  refine r_aload_n B 0 dX6_tolerance_0 rfl ?_
  refine r_iload_n B 1 dX6_tolerance_1 rfl ?_
  refine r_pVz1 B (c_X6_isGear l G M md hM s hS_M hok ge ⟨by omega, by omega⟩) ⟨rfl, rfl⟩ ok_X6_isGear vi_X6_isGear q_988 hM.1 rfl (fun _ => rfl) ⟨Nat.le_of_ble_eq_true rfl, Nat.le_of_ble_eq_true rfl, Nat.le_of_ble_eq_true rfl⟩ ⟨Nat.le_of_ble_eq_true rfl, Nat.le_of_ble_eq_true rfl⟩ dX6_tolerance_2 ?_
  refine r_if_ne B dX6_tolerance_5 rfl ⟨by omega, by omega⟩ (fun h1 => ?_) (fun h1 => ?_)
  · have q_h1 := inF_1 h1
    refine r_iload_n B 2 dX6_tolerance_14 rfl ?_
    refine r_pSz1 B (c_X6_isDeviation l G M  wh ⟨by omega, by omega⟩) ⟨rfl, rfl⟩ ok_X6_isDeviation q_1173 q_1172 ⟨Nat.le_of_ble_eq_true rfl, Nat.le_of_ble_eq_true rfl, Nat.le_of_ble_eq_true rfl⟩ ⟨Nat.le_of_ble_eq_true rfl, Nat.le_of_ble_eq_true rfl⟩ dX6_tolerance_15 ?_
    refine r_if_eq B dX6_tolerance_18 rfl ⟨by omega, by omega⟩ (fun h2 => ?_) (fun h2 => ?_)
    · have q_h2 := inF_0 h2
      refine r_aload_n B 0 dX6_tolerance_47 rfl ?_
      refine r_iconst B dX6_tolerance_48 ?_
      refine r_Vi1 B (c_X6_fails l G M md hM 2) ⟨rfl, rfl⟩ ok_X6_fails vi_X6_fails q_964 hM.1 rfl (fun _ => rfl) ⟨Nat.le_of_ble_eq_true rfl, Nat.le_of_ble_eq_true rfl, Nat.le_of_ble_eq_true rfl⟩ ⟨Nat.le_of_ble_eq_true rfl, Nat.le_of_ble_eq_true rfl⟩ dX6_tolerance_49 (fun rf Mf hff => ?_)
      obtain ⟨hf1, hf2⟩ := hff
      rw [hf1, hf2]
      clear hf1 hf2
      have ho : oTol s ge wh qu = (2, 0) := by unfold oTol; rw [if_neg (by omega), if_pos (by omega)]
      exact r_iret B dX6_tolerance_52 ⟨by rw [ho], by rw [ho]⟩
    · have q_h2 := inF_1 h2
      refine r_iload_n B 3 dX6_tolerance_21 rfl ?_
      refine r_i2l B dX6_tolerance_22 ⟨by omega, by omega⟩ ?_
      refine r_lconst1 B dX6_tolerance_23 ?_
      refine r_ldc2 B (z := 12) dX6_tolerance_24 q_1227 (by decide) ?_
      refine r_pSz3 B (c_X6_in l G M  qu 1 12 ⟨by omega, by omega⟩ ⟨by omega, by omega⟩ ⟨by omega, by omega⟩) ⟨rfl, rfl⟩ ok_X6_in q_961 q_960 ⟨Nat.le_of_ble_eq_true rfl, Nat.le_of_ble_eq_true rfl, Nat.le_of_ble_eq_true rfl⟩ ⟨Nat.le_of_ble_eq_true rfl, Nat.le_of_ble_eq_true rfl⟩ dX6_tolerance_27 ?_
      refine r_if_eq B dX6_tolerance_30 rfl ⟨by omega, by omega⟩ (fun h3 => ?_) (fun h3 => ?_)
      · have q_h3 := inF_0 h3
        refine r_aload_n B 0 dX6_tolerance_47 rfl ?_
        refine r_iconst B dX6_tolerance_48 ?_
        refine r_Vi1 B (c_X6_fails l G M md hM 2) ⟨rfl, rfl⟩ ok_X6_fails vi_X6_fails q_964 hM.1 rfl (fun _ => rfl) ⟨Nat.le_of_ble_eq_true rfl, Nat.le_of_ble_eq_true rfl, Nat.le_of_ble_eq_true rfl⟩ ⟨Nat.le_of_ble_eq_true rfl, Nat.le_of_ble_eq_true rfl⟩ dX6_tolerance_49 (fun rf Mf hff => ?_)
        obtain ⟨hf1, hf2⟩ := hff
        rw [hf1, hf2]
        clear hf1 hf2
        have ho : oTol s ge wh qu = (2, 0) := by unfold oTol; rw [if_neg (by omega), if_pos (by omega)]
        exact r_iret B dX6_tolerance_52 ⟨by rw [ho], by rw [ho]⟩
      · have q_h3 := inF_1 h3
        refine r_aload_n B 0 dX6_tolerance_33 rfl ?_
        refine r_aload_n B 0 dX6_tolerance_34 rfl ?_
        refine r_iload_n B 1 dX6_tolerance_35 rfl ?_
        refine r_iload_n B 2 dX6_tolerance_36 rfl ?_
        refine r_iload_n B 3 dX6_tolerance_37 rfl ?_
        refine r_pVi3 B (c_X6_toleranceOf l G M md hM s hS_M hok ge wh qu (by omega) (by omega) (by omega) (by omega) (by omega) (by omega)) ⟨rfl, rfl⟩ ok_X6_toleranceOf vi_X6_toleranceOf q_1123 hM.1 rfl (fun _ => rfl) ⟨Nat.le_of_ble_eq_true rfl, Nat.le_of_ble_eq_true rfl, Nat.le_of_ble_eq_true rfl⟩ ⟨Nat.le_of_ble_eq_true rfl, Nat.le_of_ble_eq_true rfl⟩ dX6_tolerance_38 ?_
        refine r_Vi1 B (c_X6_tells l G M md hM (ocS (btS (s.2.2.1 ge).1 (s.2.2.1 ge).2.1 wh) qu)) ⟨rfl, rfl⟩ ok_X6_tells vi_X6_tells q_980 hM.1 rfl (fun _ => rfl) ⟨Nat.le_of_ble_eq_true rfl, Nat.le_of_ble_eq_true rfl, Nat.le_of_ble_eq_true rfl⟩ ⟨Nat.le_of_ble_eq_true rfl, Nat.le_of_ble_eq_true rfl⟩ dX6_tolerance_41 (fun rf Mf hff => ?_)
        obtain ⟨hf1, hf2⟩ := hff
        rw [hf1, hf2]
        clear hf1 hf2
        refine r_goto B dX6_tolerance_44 rfl ?_
        have ho : oTol s ge wh qu = (0, ocS (btS (s.2.2.1 ge).1 (s.2.2.1 ge).2.1 wh) qu) := by unfold oTol; rw [if_neg (by omega), if_neg (by omega)]
        exact r_iret B dX6_tolerance_52 ⟨by rw [ho], by rw [ho]⟩
  · have q_h1 := inF_0 h1
    refine r_aload_n B 0 dX6_tolerance_8 rfl ?_
    refine r_iconst B dX6_tolerance_9 ?_
    refine r_Vi1 B (c_X6_fails l G M md hM 1) ⟨rfl, rfl⟩ ok_X6_fails vi_X6_fails q_964 hM.1 rfl (fun _ => rfl) ⟨Nat.le_of_ble_eq_true rfl, Nat.le_of_ble_eq_true rfl, Nat.le_of_ble_eq_true rfl⟩ ⟨Nat.le_of_ble_eq_true rfl, Nat.le_of_ble_eq_true rfl⟩ dX6_tolerance_10 (fun rf Mf hff => ?_)
    obtain ⟨hf1, hf2⟩ := hff
    rw [hf1, hf2]
    clear hf1 hf2
    have ho : oTol s ge wh qu = (1, 0) := by unfold oTol; rw [if_pos (by omega)]
    exact r_iret B dX6_tolerance_13 ⟨by rw [ho], by rw [ho]⟩

set_option maxRecDepth 100000 in
set_option maxHeartbeats 4000000 in
theorem c_X6_fits (l : Launch) (G : Gs) (M : Mem) (md : Nat) (hM : IsMd G md) (s : Ast) (hS_M : MdS M md s) (hok : StateOk s) (li : Int) (h0 : 0 ≤ li) (h1 : li < s.2.1) : Ct l G yX6_fits cX6_fits 13 (none) rm_X6_fits [.ref md, .int (iI li)] M (PoV G (fun M' => FL M M' md ∧ gL M' md 7 = slS (s.2.2.2 li).2.2.2 (s.2.2.2 li).2.2.1 ∧ gL M' md 8 = dnS (s.2.2.2 li).2.2.1 ∧ gL M' md 9 = (s.2.2.2 li).2.2.1 * inS (s.2.2.2 li).2.2.2 (s.2.2.2 li).2.2.1 ∧ gL M' md 10 = (s.2.2.2 li).2.2.1 * dnS (s.2.2.2 li).2.2.1)) 0 0 := by
  refine Ct.of (by decide +kernel) (Nat.le_of_ble_eq_true rfl) [(0, .ref md), (1, .int (iI li))] rfl ?_
  intro X B
  have hs1 := hok.1
  have hs2 := hok.2.1
  have hs3 := hok.2.2.1
  have hs4 := hok.2.2.2.1
  have hF_M : FL M M md := FL.rf
  have hlk := hok.2.2.2.2.2 li (by omega) (by omega)
  obtain ⟨⟨hln0, hln1, hlv⟩, hlg0, hlg1, hlk0, hlk1⟩ := id hlk
  refine r_aload_n B 0 dX6_fits_0 rfl ?_
  refine r_iload_n B 1 dX6_fits_1 rfl ?_
  refine r_iconst B dX6_fits_2 ?_
  refine r_pVi2 B (c_X6_of l G M md hM li 2 (by omega) (by omega) (by omega) (by omega)) ⟨rfl, rfl⟩ ok_X6_of vi_X6_of q_992 hM.1 rfl (fun _ => rfl) ⟨Nat.le_of_ble_eq_true rfl, Nat.le_of_ble_eq_true rfl, Nat.le_of_ble_eq_true rfl⟩ ⟨Nat.le_of_ble_eq_true rfl, Nat.le_of_ble_eq_true rfl⟩ dX6_fits_3 ?_
  refine r_vi (y := (s.2.2.2 li).2.2.1) (hS_M.2.2.2 li (by omega) (by omega)).2.2.1 ?_
  refine r_i2l B dX6_fits_6 ⟨by omega, by omega⟩ ?_
  refine r_lstore_n B (lv' := [(2, .long (lI ((s.2.2.2 li).2.2.1))), (0, .ref md), (1, .int (iI li))]) dX6_fits_7 (by decide) rfl ?_
  refine r_lconst0 B dX6_fits_8 ?_
  refine r_lstore B (lv' := [(4, .long (lI 0)), (2, .long (lI ((s.2.2.2 li).2.2.1))), (0, .ref md), (1, .int (iI li))]) dX6_fits_9 (by decide) rfl ?_
  refine r_lconst0 B dX6_fits_11 ?_
  refine r_lstore B (lv' := [(6, .long (lI 0)), (4, .long (lI 0)), (2, .long (lI ((s.2.2.2 li).2.2.1))), (0, .ref md), (1, .int (iI li))]) dX6_fits_12 (by decide) rfl ?_
  refine r_lconst0 B dX6_fits_14 ?_
  refine r_lstore B (lv' := [(8, .long (lI 0)), (6, .long (lI 0)), (4, .long (lI 0)), (2, .long (lI ((s.2.2.2 li).2.2.1))), (0, .ref md), (1, .int (iI li))]) dX6_fits_15 (by decide) rfl ?_
  refine r_lconst0 B dX6_fits_17 ?_
  refine r_lstore B (lv' := [(10, .long (lI 0)), (8, .long (lI 0)), (6, .long (lI 0)), (4, .long (lI 0)), (2, .long (lI ((s.2.2.2 li).2.2.1))), (0, .ref md), (1, .int (iI li))]) dX6_fits_18 (by decide) rfl ?_
  refine r_iconst B dX6_fits_20 ?_
  refine r_istore B (lv' := [(12, .int (iI 0)), (10, .long (lI 0)), (8, .long (lI 0)), (6, .long (lI 0)), (4, .long (lI 0)), (2, .long (lI ((s.2.2.2 li).2.2.1))), (0, .ref md), (1, .int (iI li))]) dX6_fits_21 (by decide) rfl ?_
  have lp1 : ∀ (nlp1 : Nat) (k : Int) (x : Int) (xx : Int) (y : Int) (xy : Int) (hk0 : 0 ≤ k) (hk1 : k ≤ (s.2.2.2 li).2.2.1) (hx : x = sumF (fun j => j) k.toNat) (hxx : xx = sumF (fun j => j * j) k.toNat) (hy : y = sumF (s.2.2.2 li).2.2.2 k.toNat) (hxy : xy = sumF (fun j => j * (s.2.2.2 li).2.2.2 j) k.toNat), ((s.2.2.2 li).2.2.1 - k).toNat < nlp1 → WM G X 0 0 (bM X (PoV G (fun M' => FL M M' md ∧ gL M' md 7 = slS (s.2.2.2 li).2.2.2 (s.2.2.2 li).2.2.1 ∧ gL M' md 8 = dnS (s.2.2.2 li).2.2.1 ∧ gL M' md 9 = (s.2.2.2 li).2.2.1 * inS (s.2.2.2 li).2.2.2 (s.2.2.2 li).2.2.1 ∧ gL M' md 10 = (s.2.2.2 li).2.2.1 * dnS (s.2.2.2 li).2.2.1)) 0 0 G) M 23 [(0, .ref md), (1, .int (iI li)), (2, .long (lI ((s.2.2.2 li).2.2.1))), (4, .long (lI x)), (6, .long (lI xx)), (8, .long (lI y)), (10, .long (lI xy)), (12, .int (iI k))] [] := by
    intro nlp1
    induction nlp1 with
    | zero => intro k x xx y xy hk0 hk1 hx hxx hy hxy hm; omega
    | succ nlp1 ihlp1 =>
      intro k x xx y xy hk0 hk1 hx hxx hy hxy hm
      have hvk := hlv k
      refine r_iload B 7 dX6_fits_23 rfl ?_
      refine r_i2l B dX6_fits_25 ⟨by omega, by omega⟩ ?_
      refine r_lload_n B 2 dX6_fits_26 rfl ?_
      refine r_lcmp_ge B dX6_fits_27 dX6_fits_28 rfl ⟨by omega, by omega⟩ ⟨by omega, by omega⟩ (fun h2 => ?_) (fun h2 => ?_)
      · have hkn : k = (s.2.2.2 li).2.2.1 := by omega
        refine r_aload_n B 0 dX6_fits_91 rfl ?_
        refine r_lload_n B 2 dX6_fits_92 rfl ?_
        refine r_lload B 6 dX6_fits_93 rfl ?_
        refine r_lmul B dX6_fits_95 ?_
        refine r_lload B 3 dX6_fits_96 rfl ?_
        refine r_lload B 5 dX6_fits_98 rfl ?_
        refine r_lmul B dX6_fits_100 ?_
        refine r_lsub B dX6_fits_101 ?_
        refine rp6_slopeUp B hM.1 q_899 dX6_fits_102 ?_
        refine WM.nm (fun M3 eM3 => ?_)
        refine r_aload_n B 0 dX6_fits_105 rfl ?_
        refine r_lload_n B 2 dX6_fits_106 rfl ?_
        refine r_lload B 4 dX6_fits_107 rfl ?_
        refine r_lmul B dX6_fits_109 ?_
        refine r_lload B 3 dX6_fits_110 rfl ?_
        refine r_lload B 3 dX6_fits_112 rfl ?_
        refine r_lmul B dX6_fits_114 ?_
        refine r_lsub B dX6_fits_115 ?_
        refine rp6_slopeDown B hM.1 q_900 dX6_fits_116 ?_
        refine WM.nm (fun M4 eM4 => ?_)
        have e8 : gL M4 md 8 = dnS (s.2.2.2 li).2.2.1 := by rw [eM4, gL_eq, hxx, hx, hkn]; rfl
        have e7 : gL M4 md 7 = slS (s.2.2.2 li).2.2.2 (s.2.2.2 li).2.2.1 := by rw [eM4, gL_nk (by omega), eM3, gL_eq, hxy, hx, hy, hkn]; rfl
        refine r_aload_n B 0 dX6_fits_119 rfl ?_
        refine r_lload B 5 dX6_fits_120 rfl ?_
        refine r_aload_n B 0 dX6_fits_122 rfl ?_
        refine rg6_slopeDown B hM.1 q_900 dX6_fits_123 ?_
        refine r_vl (y := dnS (s.2.2.2 li).2.2.1) e8 ?_
        refine r_lmul B dX6_fits_126 ?_
        refine r_aload_n B 0 dX6_fits_127 rfl ?_
        refine rg6_slopeUp B hM.1 q_899 dX6_fits_128 ?_
        refine r_vl (y := slS (s.2.2.2 li).2.2.2 (s.2.2.2 li).2.2.1) e7 ?_
        refine r_lload B 3 dX6_fits_131 rfl ?_
        refine r_lmul B dX6_fits_133 ?_
        refine r_lsub B dX6_fits_134 ?_
        refine rp6_atUp B hM.1 q_901 dX6_fits_135 ?_
        refine WM.nm (fun M5 eM5 => ?_)
        refine r_aload_n B 0 dX6_fits_138 rfl ?_
        refine r_lload_n B 2 dX6_fits_139 rfl ?_
        refine r_aload_n B 0 dX6_fits_140 rfl ?_
        refine rg6_slopeDown B hM.1 q_900 dX6_fits_141 ?_
        refine r_vl (y := dnS (s.2.2.2 li).2.2.1) (by rw [eM5, gL_nk (by omega)]; exact e8) ?_
        refine r_lmul B dX6_fits_144 ?_
        refine rp6_atDown B hM.1 q_902 dX6_fits_145 ?_
        refine WM.nm (fun M6 eM6 => ?_)
        exact r_vret B dX6_fits_148 ⟨(((by rw [eM3]; exact FL.sL : FL M M3 md).tr (by rw [eM4]; exact FL.sL : FL M3 M4 md)).tr (by rw [eM5]; exact FL.sL : FL M4 M5 md)).tr (by rw [eM6]; exact FL.sL), by rw [eM6, gL_nk (by omega), eM5, gL_nk (by omega)]; exact e7, by rw [eM6, gL_nk (by omega), eM5, gL_nk (by omega)]; exact e8, by rw [eM6, gL_nk (by omega), eM5, gL_eq, hy, hx, hkn]; exact lvF_at _ _, by rw [eM6, gL_eq]⟩
      · refine r_lload B 3 dX6_fits_31 rfl ?_
        refine r_iload B 7 dX6_fits_33 rfl ?_
        refine r_i2l B dX6_fits_35 ⟨by omega, by omega⟩ ?_
        refine r_ladd B dX6_fits_36 ?_
        refine r_lstore B (lv' := [(4, .long (lI (x + k))), (0, .ref md), (1, .int (iI li)), (2, .long (lI ((s.2.2.2 li).2.2.1))), (6, .long (lI xx)), (8, .long (lI y)), (10, .long (lI xy)), (12, .int (iI k))]) dX6_fits_37 (by decide) rfl ?_
        refine r_lload B 4 dX6_fits_39 rfl ?_
        refine r_iload B 7 dX6_fits_41 rfl ?_
        refine r_i2l B dX6_fits_43 ⟨by omega, by omega⟩ ?_
        refine r_iload B 7 dX6_fits_44 rfl ?_
        refine r_i2l B dX6_fits_46 ⟨by omega, by omega⟩ ?_
        refine r_lmul B dX6_fits_47 ?_
        refine r_ladd B dX6_fits_48 ?_
        refine r_lstore B (lv' := [(6, .long (lI (xx + (k * k)))), (4, .long (lI (x + k))), (0, .ref md), (1, .int (iI li)), (2, .long (lI ((s.2.2.2 li).2.2.1))), (8, .long (lI y)), (10, .long (lI xy)), (12, .int (iI k))]) dX6_fits_49 (by decide) rfl ?_
        refine r_lload B 5 dX6_fits_51 rfl ?_
        refine r_aload_n B 2 dX6_fits_53 rfl ?_
        refine r_iload_n B 3 dX6_fits_54 rfl ?_
        refine r_iconst B dX6_fits_55 ?_
        refine r_iload B 7 dX6_fits_56 rfl ?_
        refine r_iadd B dX6_fits_58 ?_
        refine r_pVi2 B (c_X6_of l G M md hM li (3 + k) (by omega) (by omega) (by omega) (by omega)) ⟨rfl, rfl⟩ ok_X6_of vi_X6_of q_992 hM.1 rfl (fun _ => rfl) ⟨Nat.le_of_ble_eq_true rfl, Nat.le_of_ble_eq_true rfl, Nat.le_of_ble_eq_true rfl⟩ ⟨Nat.le_of_ble_eq_true rfl, Nat.le_of_ble_eq_true rfl⟩ dX6_fits_59 ?_
        refine r_vi (y := (s.2.2.2 li).2.2.2 k) ((hS_M.2.2.2 li (by omega) (by omega)).2.2.2 k (by omega) (by omega)) ?_
        refine r_i2l B dX6_fits_62 ⟨by omega, by omega⟩ ?_
        refine r_ladd B dX6_fits_63 ?_
        refine r_lstore B (lv' := [(8, .long (lI (y + ((s.2.2.2 li).2.2.2 k)))), (6, .long (lI (xx + (k * k)))), (4, .long (lI (x + k))), (0, .ref md), (1, .int (iI li)), (2, .long (lI ((s.2.2.2 li).2.2.1))), (10, .long (lI xy)), (12, .int (iI k))]) dX6_fits_64 (by decide) rfl ?_
        refine r_lload B 6 dX6_fits_66 rfl ?_
        refine r_iload B 7 dX6_fits_68 rfl ?_
        refine r_i2l B dX6_fits_70 ⟨by omega, by omega⟩ ?_
        refine r_aload_n B 3 dX6_fits_71 rfl ?_
        refine r_iload_n B 4 dX6_fits_72 rfl ?_
        refine r_iconst B dX6_fits_73 ?_
        refine r_iload B 7 dX6_fits_74 rfl ?_
        refine r_iadd B dX6_fits_76 ?_
        refine r_pVi2 B (c_X6_of l G M md hM li (3 + k) (by omega) (by omega) (by omega) (by omega)) ⟨rfl, rfl⟩ ok_X6_of vi_X6_of q_992 hM.1 rfl (fun _ => rfl) ⟨Nat.le_of_ble_eq_true rfl, Nat.le_of_ble_eq_true rfl, Nat.le_of_ble_eq_true rfl⟩ ⟨Nat.le_of_ble_eq_true rfl, Nat.le_of_ble_eq_true rfl⟩ dX6_fits_77 ?_
        refine r_vi (y := (s.2.2.2 li).2.2.2 k) ((hS_M.2.2.2 li (by omega) (by omega)).2.2.2 k (by omega) (by omega)) ?_
        refine r_i2l B dX6_fits_80 ⟨by omega, by omega⟩ ?_
        refine r_lmul B dX6_fits_81 ?_
        refine r_ladd B dX6_fits_82 ?_
        refine r_lstore B (lv' := [(10, .long (lI (xy + (k * ((s.2.2.2 li).2.2.2 k))))), (8, .long (lI (y + ((s.2.2.2 li).2.2.2 k)))), (6, .long (lI (xx + (k * k)))), (4, .long (lI (x + k))), (0, .ref md), (1, .int (iI li)), (2, .long (lI ((s.2.2.2 li).2.2.1))), (12, .int (iI k))]) dX6_fits_83 (by decide) rfl ?_
        refine r_iinc B (lv' := [(12, .int (iI (k + 1))), (10, .long (lI (xy + (k * ((s.2.2.2 li).2.2.2 k))))), (8, .long (lI (y + ((s.2.2.2 li).2.2.2 k)))), (6, .long (lI (xx + (k * k)))), (4, .long (lI (x + k))), (0, .ref md), (1, .int (iI li)), (2, .long (lI ((s.2.2.2 li).2.2.1)))]) dX6_fits_85 (j := 7) rfl (by decide) rfl ?_
        refine r_goto B dX6_fits_88 rfl ?_
        refine WM.pick [5, 6, 7, 4, 3, 2, 1, 0] rfl ?_
        exact ihlp1 (k + 1) _ _ _ _ (by omega) (by omega) (by rw [sumF_s _ hk0, ← hx]) (by rw [sumF_s _ hk0, ← hxx]) (by rw [sumF_s _ hk0, ← hy]) (by rw [sumF_s _ hk0, ← hxy]) (by omega)
  refine WM.pick [6, 7, 5, 4, 3, 2, 1, 0] rfl ?_
  exact lp1 _ 0 0 0 0 0 (by omega) (by omega) rfl rfl rfl rfl (Nat.lt_succ_self _)

set_option maxRecDepth 100000 in
set_option maxHeartbeats 4000000 in
theorem c_X6_lineValue (l : Launch) (G : Gs) (M : Mem) (md : Nat) (hM : IsMd G md) (s : Ast) (hS_M : MdS M md s) (hok : StateOk s) (li w : Int) (h0 : 0 ≤ li) (h1 : li < s.2.1) (h3 : 3 ≤ (s.2.2.2 li).2.2.1) (w0 : 0 ≤ w) (w1 : w < 3) : Ct l G yX6_lineValue cX6_lineValue 11 (some .int) rm_X6_lineValue [.ref md, .int (iI li), .int (iI w)] M (PoI G (fun r M' => r = ldS (s.2.2.2 li).2.2.2 (s.2.2.2 li).2.2.1 w ∧ FL M M' md)) 0 0 := by
  refine Ct.of (by decide +kernel) (Nat.le_of_ble_eq_true rfl) [(0, .ref md), (1, .int (iI li)), (2, .int (iI w))] rfl ?_
  intro X B
  have hs1 := hok.1
  have hs2 := hok.2.1
  have hs3 := hok.2.2.1
  have hs4 := hok.2.2.2.1
  have hF_M : FL M M md := FL.rf
  have hlk := hok.2.2.2.2.2 li (by omega) (by omega)
  obtain ⟨⟨hln0, hln1, hlv⟩, hlg0, hlg1, hlk0, hlk1⟩ := id hlk
  have hsb := slS_in hlk.1
  have hib := inS_in hlk.1
  have hdb := dnS_in (n := (s.2.2.2 li).2.2.1) (by omega) (by omega)
  have hnd := mulB (x := (s.2.2.2 li).2.2.1) (y := dnS (s.2.2.2 li).2.2.1) (A := 12) (C := 1716) (by omega) (by omega) (by omega) (by omega) (by omega)
  have hnd1 : 1 ≤ (s.2.2.2 li).2.2.1 * dnS (s.2.2.2 li).2.2.1 := by have w := Int.mul_le_mul_of_nonneg_left hdb.1 (show (0 : Int) ≤ (s.2.2.2 li).2.2.1 by omega); rw [Int.mul_one] at w; omega
  have hsn := mulB (x := slS (s.2.2.2 li).2.2.2 (s.2.2.2 li).2.2.1) (y := (s.2.2.2 li).2.2.1 - 1) (A := 20000000) (C := 12) (by omega) (by omega) (by omega) (by omega) (by omega)
  refine r_aload_n B 0 dX6_lineValue_0 rfl ?_
  refine r_iload_n B 1 dX6_lineValue_1 rfl ?_
  refine r_Vv1 B (c_X6_fits l G M md hM s hS_M hok li (by omega) (by omega)) ⟨rfl, rfl⟩ ok_X6_fits vi_X6_fits q_1119 hM.1 rfl (fun _ => rfl) ⟨Nat.le_of_ble_eq_true rfl, Nat.le_of_ble_eq_true rfl, Nat.le_of_ble_eq_true rfl⟩ ⟨Nat.le_of_ble_eq_true rfl, Nat.le_of_ble_eq_true rfl⟩ dX6_lineValue_2 (fun Mg hft => ?_)
  obtain ⟨hF_Mg, e7, e8, e9, e10⟩ := hft
  have hS_Mg := hF_Mg.mds hS_M
  refine r_aload_n B 0 dX6_lineValue_5 rfl ?_
  refine r_iload_n B 1 dX6_lineValue_6 rfl ?_
  refine r_iconst B dX6_lineValue_7 ?_
  refine r_pVi2 B (c_X6_of l G Mg md hM li 2 (by omega) (by omega) (by omega) (by omega)) ⟨rfl, rfl⟩ ok_X6_of vi_X6_of q_992 hM.1 rfl (fun _ => rfl) ⟨Nat.le_of_ble_eq_true rfl, Nat.le_of_ble_eq_true rfl, Nat.le_of_ble_eq_true rfl⟩ ⟨Nat.le_of_ble_eq_true rfl, Nat.le_of_ble_eq_true rfl⟩ dX6_lineValue_8 ?_
  refine r_vi (y := (s.2.2.2 li).2.2.1) (hS_Mg.2.2.2 li (by omega) (by omega)).2.2.1 ?_
  refine r_istore_n B (lv' := [(3, .int (iI ((s.2.2.2 li).2.2.1))), (0, .ref md), (1, .int (iI li)), (2, .int (iI w))]) dX6_lineValue_11 (by decide) rfl ?_
  refine r_iload_n B 3 dX6_lineValue_12 rfl ?_
  refine r_iconst B dX6_lineValue_13 ?_
  refine r_icmp_ne B dX6_lineValue_14 rfl ⟨by omega, by omega⟩ ⟨by omega, by omega⟩ (fun h1 => ?_) (fun h1 => ?_)
  · refine r_lconst0 B dX6_lineValue_34 ?_
    refine r_lstore B (lv' := [(4, .long (lI 0)), (3, .int (iI ((s.2.2.2 li).2.2.1))), (0, .ref md), (1, .int (iI li)), (2, .int (iI w))]) dX6_lineValue_35 (by decide) rfl ?_
    refine r_lconst0 B dX6_lineValue_37 ?_
    refine r_lstore B (lv' := [(6, .long (lI 0)), (4, .long (lI 0)), (3, .int (iI ((s.2.2.2 li).2.2.1))), (0, .ref md), (1, .int (iI li)), (2, .int (iI w))]) dX6_lineValue_38 (by decide) rfl ?_
    refine r_iconst B dX6_lineValue_40 ?_
    refine r_istore B (lv' := [(8, .int (iI 0)), (6, .long (lI 0)), (4, .long (lI 0)), (3, .int (iI ((s.2.2.2 li).2.2.1))), (0, .ref md), (1, .int (iI li)), (2, .int (iI w))]) dX6_lineValue_41 (by decide) rfl ?_
    have lp2 : ∀ (nlp2 : Nat) (k : Int) (mo : Int) (le : Int) (hk0 : 0 ≤ k) (hk1 : k ≤ (s.2.2.2 li).2.2.1) (hmo : (k = 0 ∧ mo = 0 ∧ le = 0) ∨ (1 ≤ k ∧ mo = mxF (lvF w (s.2.2.2 li).2.2.2 (s.2.2.2 li).2.2.1) (k - 1).toNat ∧ le = mnF (lvF w (s.2.2.2 li).2.2.2 (s.2.2.2 li).2.2.1) (k - 1).toNat)), ((s.2.2.2 li).2.2.1 - k).toNat < nlp2 → WM G X 0 0 (bM X (PoI G (fun r M' => r = ldS (s.2.2.2 li).2.2.2 (s.2.2.2 li).2.2.1 w ∧ FL M M' md)) 0 0 G) Mg 43 [(0, .ref md), (1, .int (iI li)), (2, .int (iI w)), (3, .int (iI ((s.2.2.2 li).2.2.1))), (4, .long (lI mo)), (6, .long (lI le)), (8, .int (iI k))] [] := by
      intro nlp2
      induction nlp2 with
      | zero => intro k mo le hk0 hk1 hmo hm; omega
      | succ nlp2 ihlp2 =>
        intro k mo le hk0 hk1 hmo hm
        have hbm : -6000000000 ≤ mo ∧ mo ≤ 6000000000 ∧ -6000000000 ≤ le ∧ le ≤ 6000000000 := by
          rcases hmo with ⟨w1, w2, w3⟩ | ⟨w1, w2, w3⟩
          · omega
          · have a1 := mxF_in (f := lvF w (s.2.2.2 li).2.2.2 (s.2.2.2 li).2.2.1) (L := -6000000000) (A := 6000000000) (k - 1).toNat (fun q a b => lvF_in hlk.1 (by omega) a (by omega))
            have a2 := mnF_in (f := lvF w (s.2.2.2 li).2.2.2 (s.2.2.2 li).2.2.1) (L := -6000000000) (A := 6000000000) (k - 1).toNat (fun q a b => lvF_in hlk.1 (by omega) a (by omega))
            omega
        refine r_iload B 6 dX6_lineValue_43 rfl ?_
        refine r_iload_n B 3 dX6_lineValue_45 rfl ?_
        refine r_icmp_ge B dX6_lineValue_46 rfl ⟨by omega, by omega⟩ ⟨by omega, by omega⟩ (fun h3 => ?_) (fun h3 => ?_)
        · have hfin : mo = mxF (lvF w (s.2.2.2 li).2.2.2 (s.2.2.2 li).2.2.1) ((s.2.2.2 li).2.2.1 - 1).toNat ∧ le = mnF (lvF w (s.2.2.2 li).2.2.2 (s.2.2.2 li).2.2.1) ((s.2.2.2 li).2.2.1 - 1).toNat := by rcases hmo with ⟨w1, w2, w3⟩ | ⟨w1, w2, w3⟩; omega; rw [show (s.2.2.2 li).2.2.1 - 1 = k - 1 by omega]; exact ⟨w2, w3⟩
          refine r_iload_n B 2 dX6_lineValue_150 rfl ?_
          refine r_if_ne B dX6_lineValue_151 rfl ⟨by omega, by omega⟩ (fun h4 => ?_) (fun h4 => ?_)
          · refine r_lload B 4 dX6_lineValue_163 rfl ?_
            refine r_lload B 5 dX6_lineValue_165 rfl ?_
            refine r_lsub B dX6_lineValue_167 ?_
            refine r_aload_n B 0 dX6_lineValue_168 rfl ?_
            refine rg6_atDown B hM.1 q_902 dX6_lineValue_169 ?_
            refine r_vl (y := (s.2.2.2 li).2.2.1 * dnS (s.2.2.2 li).2.2.1) e10 ?_
            refine r_pSi2 B (c_X6_round l G Mg  (mo - le) ((s.2.2.2 li).2.2.1 * dnS (s.2.2.2 li).2.2.1) (by omega) (by omega) (by omega) (by omega)) ⟨rfl, rfl⟩ ok_X6_round q_1095 q_1094 ⟨Nat.le_of_ble_eq_true rfl, Nat.le_of_ble_eq_true rfl, Nat.le_of_ble_eq_true rfl⟩ ⟨Nat.le_of_ble_eq_true rfl, Nat.le_of_ble_eq_true rfl⟩ dX6_lineValue_172 ?_
            exact r_iret B dX6_lineValue_175 ⟨by rw [hfin.1, hfin.2, lvF_2 h4, mxF_mul (by omega), mnF_mul (by omega), ← Int.mul_sub, rnd_scale (by omega)]; unfold ldS; rw [if_neg h4, if_neg (by omega)]; rfl, hF_Mg⟩
          · refine r_lload B 4 dX6_lineValue_154 rfl ?_
            refine r_lload B 5 dX6_lineValue_156 rfl ?_
            refine r_lsub B dX6_lineValue_158 ?_
            refine r_l2i B dX6_lineValue_159 ?_
            refine r_goto B dX6_lineValue_160 rfl ?_
            exact r_iret B dX6_lineValue_175 ⟨by rw [hfin.1, hfin.2, h4, lvF_0]; rfl, hF_Mg⟩
        · have hvk := hlv k hk0 (by omega)
          have hfk := lvF_in (w := w) hlk.1 (by omega) hk0 (by omega : k < (s.2.2.2 li).2.2.1)
          refine r_iload_n B 2 dX6_lineValue_49 rfl ?_
          have J5 : ∀ v : Int, (v = lvF w (s.2.2.2 li).2.2.2 (s.2.2.2 li).2.2.1 k) → WM G X 0 0 (bM X (PoI G (fun r M' => r = ldS (s.2.2.2 li).2.2.2 (s.2.2.2 li).2.2.1 w ∧ FL M M' md)) 0 0 G) Mg 98 [(0, .ref md), (1, .int (iI li)), (2, .int (iI w)), (3, .int (iI ((s.2.2.2 li).2.2.1))), (4, .long (lI mo)), (6, .long (lI le)), (8, .int (iI k))] [.long (lI v)] := by
            intro v hv
            have hvb : -6000000000 ≤ v ∧ v ≤ 6000000000 := by rw [hv]; exact hfk
            refine r_lstore B (lv' := [(9, .long (lI v)), (0, .ref md), (1, .int (iI li)), (2, .int (iI w)), (3, .int (iI ((s.2.2.2 li).2.2.1))), (4, .long (lI mo)), (6, .long (lI le)), (8, .int (iI k))]) dX6_lineValue_98 (by decide) rfl ?_
            refine r_iload B 7 dX6_lineValue_100 rfl ?_
            have J6 : ∀ w1 : Int, (w1 = if k = 0 then v else max mo v) → WM G X 0 0 (bM X (PoI G (fun r M' => r = ldS (s.2.2.2 li).2.2.2 (s.2.2.2 li).2.2.1 w ∧ FL M M' md)) 0 0 G) Mg 120 [(9, .long (lI v)), (0, .ref md), (1, .int (iI li)), (2, .int (iI w)), (3, .int (iI ((s.2.2.2 li).2.2.1))), (4, .long (lI mo)), (6, .long (lI le)), (8, .int (iI k))] [.long (lI w1)] := by
              intro w1 hw1
              refine r_lstore B (lv' := [(4, .long (lI w1)), (9, .long (lI v)), (0, .ref md), (1, .int (iI li)), (2, .int (iI w)), (3, .int (iI ((s.2.2.2 li).2.2.1))), (6, .long (lI le)), (8, .int (iI k))]) dX6_lineValue_120 (by decide) rfl ?_
              refine r_iload B 7 dX6_lineValue_122 rfl ?_
              have J7 : ∀ w2 : Int, (w2 = if k = 0 then v else min le v) → WM G X 0 0 (bM X (PoI G (fun r M' => r = ldS (s.2.2.2 li).2.2.2 (s.2.2.2 li).2.2.1 w ∧ FL M M' md)) 0 0 G) Mg 142 [(4, .long (lI w1)), (9, .long (lI v)), (0, .ref md), (1, .int (iI li)), (2, .int (iI w)), (3, .int (iI ((s.2.2.2 li).2.2.1))), (6, .long (lI le)), (8, .int (iI k))] [.long (lI w2)] := by
                intro w2 hw2
                refine r_lstore B (lv' := [(6, .long (lI w2)), (4, .long (lI w1)), (9, .long (lI v)), (0, .ref md), (1, .int (iI li)), (2, .int (iI w)), (3, .int (iI ((s.2.2.2 li).2.2.1))), (8, .int (iI k))]) dX6_lineValue_142 (by decide) rfl ?_
                refine r_iinc B (lv' := [(8, .int (iI (k + 1))), (6, .long (lI w2)), (4, .long (lI w1)), (9, .long (lI v)), (0, .ref md), (1, .int (iI li)), (2, .int (iI w)), (3, .int (iI ((s.2.2.2 li).2.2.1)))]) dX6_lineValue_144 (j := 7) rfl (by decide) rfl ?_
                refine r_goto B dX6_lineValue_147 rfl ?_
                refine WM.pick [4, 5, 6, 7, 2, 1, 0] rfl ?_
                refine ihlp2 (k + 1) _ _ (by omega) (by omega) ?_ (by omega)
                · refine Or.inr ⟨by omega, ?_, ?_⟩
                  · rw [show k + 1 - 1 = k by omega]
                    rcases hmo with ⟨x1, x2, x3⟩ | ⟨x1, x2, x3⟩
                    · rw [hw1, if_pos x1, hv, x1]; rfl
                    · rw [mxF_s _ x1, ← x2, hw1, if_neg (by omega), hv]
                  · rw [show k + 1 - 1 = k by omega]
                    rcases hmo with ⟨x1, x2, x3⟩ | ⟨x1, x2, x3⟩
                    · rw [hw2, if_pos x1, hv, x1]; rfl
                    · rw [mnF_s _ x1, ← x3, hw2, if_neg (by omega), hv]
              refine r_if_eq B dX6_lineValue_124 rfl ⟨by omega, by omega⟩ (fun h8 => ?_) (fun h8 => ?_)
              · refine r_lload B 1 dX6_lineValue_135 rfl ?_
                refine r_goto B dX6_lineValue_137 rfl ?_
                exact J7 _ (by rw [if_pos h8])
              · refine r_lload B 1 dX6_lineValue_127 rfl ?_
                refine r_lload B 6 dX6_lineValue_129 rfl ?_
                refine r_lcmp_ge B dX6_lineValue_131 dX6_lineValue_132 rfl ⟨by omega, by omega⟩ ⟨by omega, by omega⟩ (fun h9 => ?_) (fun h9 => ?_)
                · refine r_lload B 6 dX6_lineValue_140 rfl ?_
                  exact J7 _ (by rw [if_neg h8]; omega)
                · refine r_lload B 1 dX6_lineValue_135 rfl ?_
                  refine r_goto B dX6_lineValue_137 rfl ?_
                  exact J7 _ (by rw [if_neg h8]; omega)
            refine r_if_eq B dX6_lineValue_102 rfl ⟨by omega, by omega⟩ (fun h10 => ?_) (fun h10 => ?_)
            · refine r_lload B 0 dX6_lineValue_113 rfl ?_
              refine r_goto B dX6_lineValue_115 rfl ?_
              exact J6 _ (by rw [if_pos h10])
            · refine r_lload B 0 dX6_lineValue_105 rfl ?_
              refine r_lload B 5 dX6_lineValue_107 rfl ?_
              refine r_lcmp_le B dX6_lineValue_109 dX6_lineValue_110 rfl ⟨by omega, by omega⟩ ⟨by omega, by omega⟩ (fun h11 => ?_) (fun h11 => ?_)
              · refine r_lload B 5 dX6_lineValue_118 rfl ?_
                exact J6 _ (by rw [if_neg h10]; omega)
              · refine r_lload B 0 dX6_lineValue_113 rfl ?_
                refine r_goto B dX6_lineValue_115 rfl ?_
                exact J6 _ (by rw [if_neg h10]; omega)
          refine r_if_ne B dX6_lineValue_50 rfl ⟨by omega, by omega⟩ (fun h12 => ?_) (fun h12 => ?_)
          · refine r_aload_n B 0 dX6_lineValue_66 rfl ?_
            refine rg6_atDown B hM.1 q_902 dX6_lineValue_67 ?_
            refine r_vl (y := (s.2.2.2 li).2.2.1 * dnS (s.2.2.2 li).2.2.1) e10 ?_
            refine r_aload_n B 0 dX6_lineValue_70 rfl ?_
            refine r_iload_n B 1 dX6_lineValue_71 rfl ?_
            refine r_iconst B dX6_lineValue_72 ?_
            refine r_iload B 6 dX6_lineValue_73 rfl ?_
            refine r_iadd B dX6_lineValue_75 ?_
            refine r_pVi2 B (c_X6_of l G Mg md hM li (3 + k) (by omega) (by omega) (by omega) (by omega)) ⟨rfl, rfl⟩ ok_X6_of vi_X6_of q_992 hM.1 rfl (fun _ => rfl) ⟨Nat.le_of_ble_eq_true rfl, Nat.le_of_ble_eq_true rfl, Nat.le_of_ble_eq_true rfl⟩ ⟨Nat.le_of_ble_eq_true rfl, Nat.le_of_ble_eq_true rfl⟩ dX6_lineValue_76 ?_
            refine r_vi (y := (s.2.2.2 li).2.2.2 k) ((hS_Mg.2.2.2 li (by omega) (by omega)).2.2.2 k (by omega) (by omega)) ?_
            refine r_i2l B dX6_lineValue_79 ⟨by omega, by omega⟩ ?_
            refine r_lmul B dX6_lineValue_80 ?_
            refine r_aload_n B 0 dX6_lineValue_81 rfl ?_
            refine rg6_atUp B hM.1 q_901 dX6_lineValue_82 ?_
            refine r_vl (y := (s.2.2.2 li).2.2.1 * inS (s.2.2.2 li).2.2.2 (s.2.2.2 li).2.2.1) e9 ?_
            refine r_lsub B dX6_lineValue_85 ?_
            refine r_iload_n B 3 dX6_lineValue_86 rfl ?_
            refine r_i2l B dX6_lineValue_87 ⟨by omega, by omega⟩ ?_
            refine r_aload_n B 0 dX6_lineValue_88 rfl ?_
            refine rg6_slopeUp B hM.1 q_899 dX6_lineValue_89 ?_
            refine r_vl (y := slS (s.2.2.2 li).2.2.2 (s.2.2.2 li).2.2.1) e7 ?_
            refine r_lmul B dX6_lineValue_92 ?_
            refine r_iload B 6 dX6_lineValue_93 rfl ?_
            refine r_i2l B dX6_lineValue_95 ⟨by omega, by omega⟩ ?_
            refine r_lmul B dX6_lineValue_96 ?_
            refine r_lsub B dX6_lineValue_97 ?_
            exact J5 _ (by unfold lvF; rw [if_neg h12]; exact lvF_form _ _ _)
          · refine r_aload_n B 0 dX6_lineValue_53 rfl ?_
            refine r_iload_n B 1 dX6_lineValue_54 rfl ?_
            refine r_iconst B dX6_lineValue_55 ?_
            refine r_iload B 6 dX6_lineValue_56 rfl ?_
            refine r_iadd B dX6_lineValue_58 ?_
            refine r_pVi2 B (c_X6_of l G Mg md hM li (3 + k) (by omega) (by omega) (by omega) (by omega)) ⟨rfl, rfl⟩ ok_X6_of vi_X6_of q_992 hM.1 rfl (fun _ => rfl) ⟨Nat.le_of_ble_eq_true rfl, Nat.le_of_ble_eq_true rfl, Nat.le_of_ble_eq_true rfl⟩ ⟨Nat.le_of_ble_eq_true rfl, Nat.le_of_ble_eq_true rfl⟩ dX6_lineValue_59 ?_
            refine r_vi (y := (s.2.2.2 li).2.2.2 k) ((hS_Mg.2.2.2 li (by omega) (by omega)).2.2.2 k (by omega) (by omega)) ?_
            refine r_i2l B dX6_lineValue_62 ⟨by omega, by omega⟩ ?_
            refine r_goto B dX6_lineValue_63 rfl ?_
            exact J5 _ (by unfold lvF; rw [if_pos h12])
    refine WM.pick [4, 5, 6, 3, 2, 1, 0] rfl ?_
    exact lp2 _ 0 0 0 (by omega) (by omega) (Or.inl ⟨rfl, rfl, rfl⟩) (Nat.lt_succ_self _)
  · refine r_aload_n B 1 dX6_lineValue_17 rfl ?_
    refine rg6_slopeUp B hM.1 q_899 dX6_lineValue_18 ?_
    refine r_vl (y := slS (s.2.2.2 li).2.2.2 (s.2.2.2 li).2.2.1) e7 ?_
    refine r_iload_n B 0 dX6_lineValue_21 rfl ?_
    refine r_iconst B dX6_lineValue_22 ?_
    refine r_isub B dX6_lineValue_23 ?_
    refine r_i2l B dX6_lineValue_24 ⟨by omega, by omega⟩ ?_
    refine r_lmul B dX6_lineValue_25 ?_
    refine r_aload_n B 1 dX6_lineValue_26 rfl ?_
    refine rg6_slopeDown B hM.1 q_900 dX6_lineValue_27 ?_
    refine r_vl (y := dnS (s.2.2.2 li).2.2.1) e8 ?_
    refine r_pSi2 B (c_X6_round l G Mg  ((slS (s.2.2.2 li).2.2.2 (s.2.2.2 li).2.2.1) * (((s.2.2.2 li).2.2.1) - 1)) (dnS (s.2.2.2 li).2.2.1) (by omega) (by omega) (by omega) (by omega)) ⟨rfl, rfl⟩ ok_X6_round q_1095 q_1094 ⟨Nat.le_of_ble_eq_true rfl, Nat.le_of_ble_eq_true rfl, Nat.le_of_ble_eq_true rfl⟩ ⟨Nat.le_of_ble_eq_true rfl, Nat.le_of_ble_eq_true rfl⟩ dX6_lineValue_30 ?_
    exact r_iret B dX6_lineValue_33 ⟨by unfold ldS; rw [if_neg (by omega), if_pos h1], hF_Mg⟩
