set_option maxRecDepth 100000 in
set_option maxHeartbeats 4000000 in
theorem c_X5_classOfGear (l : Launch) (G : Gs) (M : Mem) (N : Nat) (s : Ast) (hG : IsGg G N) (hA : StateIs M (N + 1) s) (hok : StateOk s) (ge : Int) (hg0 : 0 ≤ ge) (hg1 : ge < s.1) : Ct l G yX5_classOfGear cX5_classOfGear 5 (some .int) rm_X5_classOfGear [.ref N, .int (iI ge)] M (PoI G (Rd (cgS s ge) M)) 0 0 := by
  refine Ct.of (by decide +kernel) (Nat.le_of_ble_eq_true rfl) [(0, .ref N), (1, .int (iI ge))] rfl ?_
  intro X B
  have hs1 := hok.1
  have hs2 := hok.2.1
  have hs3 := hok.2.2.1
  have hs4 := hok.2.2.2.1
  have hgk := hok.2.2.2.2.1 ge (by omega) (by omega)
  obtain ⟨hgk1, hgk2, hgk3, hgk4, hgk5⟩ := id hgk
  refine r_iconst B dX5_classOfGear_0 ?_
  refine r_istore_n B (lv' := [(2, .int (iI 1)), (0, .ref N), (1, .int (iI ge))]) dX5_classOfGear_1 (by decide) rfl ?_
  refine r_iconst B dX5_classOfGear_2 ?_
  refine r_istore_n B (lv' := [(3, .int (iI 0)), (2, .int (iI 1)), (0, .ref N), (1, .int (iI ge))]) dX5_classOfGear_3 (by decide) rfl ?_
  have lp1 : ∀ (nlp1 : Nat) (i : Int) (fo : Int) (hi0 : 0 ≤ i) (hi1 : i ≤ 9) (hfo : fo = cgF s ge i.toNat), (9 - i).toNat < nlp1 → WM G X 0 0 (bM X (PoI G (Rd (cgS s ge) M)) 0 0 G) M 4 [(0, .ref N), (1, .int (iI ge)), (2, .int (iI fo)), (3, .int (iI i))] [] := by
    intro nlp1
    induction nlp1 with
    | zero => intro i fo hi0 hi1 hfo hm; omega
    | succ nlp1 ihlp1 =>
      intro i fo hi0 hi1 hfo hm
      have hcg := cgF_in s ge i.toNat
      have hbt := fun w => btS_in (t := (s.2.2.1 ge).1) (m := (s.2.2.1 ge).2.1) (w := w) hgk3 hgk4
      have hbi := hbt i
      have hdv := dvS_in hok (g := ge) (w := i) (by omega) (by omega)
      have hcl := clS_in (btS (s.2.2.1 ge).1 (s.2.2.1 ge).2.1 i) (dvS s ge i)
      refine r_iload_n B 3 dX5_classOfGear_4 rfl ?_
      refine r_bipush B (z := 9) dX5_classOfGear_5 (by decide) ?_
      refine r_icmp_ge B dX5_classOfGear_7 rfl ⟨by omega, by omega⟩ ⟨by omega, by omega⟩ (fun h2 => ?_) (fun h2 => ?_)
      · refine r_iload_n B 2 dX5_classOfGear_50 rfl ?_
        exact r_iret B dX5_classOfGear_51 ⟨by rw [hfo, show i = 9 by omega]; rfl, rfl⟩
      · refine r_aload_n B 0 dX5_classOfGear_10 rfl ?_
        refine rg5_now B hG.1 q_171 dX5_classOfGear_11 ?_
        refine rg3_gearRow B hG.2.1.1 q_98 dX5_classOfGear_14 ?_
        refine r_iload_n B 1 dX5_classOfGear_17 rfl ?_
        refine r_aaload8 B dX5_classOfGear_18 hG.2.1.2.1 (by omega) (by omega) ?_
        refine r_iload_n B 3 dX5_classOfGear_19 rfl ?_
        refine r_pSi2 B (c_X5_baseTolerance l G M (gP M (N + 1 + 1) ge) ((s.2.2.1 ge).1) ((s.2.2.1 ge).2.1) i ((s.2.2.1 ge).2.2) (RowG.gear hG.2.1 hA.2.2.1 (i := ge) (by omega) (by omega)) (hA.2.2.2.2.1 ge (by omega) (by omega)) (by omega) (by omega) (by omega) (by omega) (by omega) (by omega)) ⟨rfl, rfl⟩ ok_X5_baseTolerance q_333 q_332 ⟨Nat.le_of_ble_eq_true rfl, Nat.le_of_ble_eq_true rfl, Nat.le_of_ble_eq_true rfl⟩ ⟨Nat.le_of_ble_eq_true rfl, Nat.le_of_ble_eq_true rfl⟩ dX5_classOfGear_20 ?_
        refine r_istore B (lv' := [(4, .int (iI (btS ((s.2.2.1 ge).1) ((s.2.2.1 ge).2.1) i))), (0, .ref N), (1, .int (iI ge)), (2, .int (iI fo)), (3, .int (iI i))]) dX5_classOfGear_23 (by decide) rfl ?_
        refine r_iload_n B 3 dX5_classOfGear_25 rfl ?_
        refine r_iload B 0 dX5_classOfGear_26 rfl ?_
        refine r_aload_n B 1 dX5_classOfGear_28 rfl ?_
        refine rg5_now B hG.1 q_171 dX5_classOfGear_29 ?_
        refine r_iload_n B 2 dX5_classOfGear_32 rfl ?_
        refine r_iload_n B 4 dX5_classOfGear_33 rfl ?_
        refine r_pVi2 B (c_X3_deviationOf l G M (N + 1) s hG.2.1 hA hok ge i (by omega) (by omega) (by omega) (by omega)) ⟨rfl, rfl⟩ ok_X3_deviationOf vi_X3_deviationOf q_338 hG.2.1.1 rfl (fun _ => rfl) ⟨Nat.le_of_ble_eq_true rfl, Nat.le_of_ble_eq_true rfl, Nat.le_of_ble_eq_true rfl⟩ ⟨Nat.le_of_ble_eq_true rfl, Nat.le_of_ble_eq_true rfl⟩ dX5_classOfGear_34 ?_
        refine r_pSi2 B (c_X5_classOf l G M (btS ((s.2.2.1 ge).1) ((s.2.2.1 ge).2.1) i) (dvS s ge i) (by omega) (by omega) ⟨by omega, by omega⟩) ⟨rfl, rfl⟩ ok_X5_classOf q_422 q_421 ⟨Nat.le_of_ble_eq_true rfl, Nat.le_of_ble_eq_true rfl, Nat.le_of_ble_eq_true rfl⟩ ⟨Nat.le_of_ble_eq_true rfl, Nat.le_of_ble_eq_true rfl⟩ dX5_classOfGear_37 ?_
        refine r_mmax B dX5_classOfGear_40 q_427 q_365 q_15 q_366 ⟨by omega, by omega⟩ ⟨by omega, by omega⟩ ⟨Nat.le_of_ble_eq_true rfl, Nat.le_of_ble_eq_true rfl, Nat.le_of_ble_eq_true rfl, Nat.le_of_ble_eq_true rfl⟩ ?_
        refine r_istore_n B (lv' := [(2, .int (iI (max fo (clS (btS ((s.2.2.1 ge).1) ((s.2.2.1 ge).2.1) i) (dvS s ge i))))), (4, .int (iI (btS ((s.2.2.1 ge).1) ((s.2.2.1 ge).2.1) i))), (0, .ref N), (1, .int (iI ge)), (3, .int (iI i))]) dX5_classOfGear_43 (by decide) rfl ?_
        refine r_iinc B (lv' := [(3, .int (iI (i + 1))), (2, .int (iI (max fo (clS (btS ((s.2.2.1 ge).1) ((s.2.2.1 ge).2.1) i) (dvS s ge i))))), (4, .int (iI (btS ((s.2.2.1 ge).1) ((s.2.2.1 ge).2.1) i))), (0, .ref N), (1, .int (iI ge))]) dX5_classOfGear_44 (j := 4) rfl (by decide) rfl ?_
        refine r_goto B dX5_classOfGear_47 rfl ?_
        refine WM.pick [3, 4, 1, 0] rfl ?_
        exact ihlp1 (i + 1) _ (by omega) (by omega) (by rw [cgF_s _ _ hi0, ← hfo]; rfl) (by omega)
  refine WM.pick [2, 3, 1, 0] rfl ?_
  exact lp1 _ 0 1 (by omega) (by omega) rfl (Nat.lt_succ_self _)

set_option maxRecDepth 100000 in
set_option maxHeartbeats 4000000 in
theorem c_X5_ranksBefore (l : Launch) (G : Gs) (M : Mem) (N : Nat) (hG : IsGg G N) (p x : Int → Int) (n : Int) (hn : n ≤ 6) (hp : ∀ k : Int, 0 ≤ k → k < n → gI M (N + 333) k = p k ∧ In32 (p k)) (hx : ∀ k : Int, 0 ≤ k → k < n → gI M (N + 334) k = x k ∧ In32 (x k)) (i j : Int) (hi0 : 0 ≤ i) (hi1 : i < n) (hj0 : 0 ≤ j) (hj1 : j < n) : Ct l G yX5_ranksBefore cX5_ranksBefore 3 (some .boolean) rm_X5_ranksBefore [.ref N, .int (iI i), .int (iI j)] M (PoI G (Rd (rkD p x i j) M)) 0 0 := by
  refine Ct.of (by decide +kernel) (Nat.le_of_ble_eq_true rfl) [(0, .ref N), (1, .int (iI i)), (2, .int (iI j))] rfl ?_
  intro X B
  obtain ⟨hpi1, hpi2⟩ := (hp i (by omega) (by omega)).2
  obtain ⟨hxi1, hxi2⟩ := (hx i (by omega) (by omega)).2
  obtain ⟨hpj1, hpj2⟩ := (hp j (by omega) (by omega)).2
  obtain ⟨hxj1, hxj2⟩ := (hx j (by omega) (by omega)).2
  refine r_aload_n B 0 dX5_ranksBefore_0 rfl ?_
  refine rg5_rankClass B hG.1 q_178 dX5_ranksBefore_1 ?_
  refine r_iload_n B 1 dX5_ranksBefore_4 rfl ?_
  refine r_iaload B dX5_ranksBefore_5 hG.2.2.2.2.2.2.2.2.1 (by omega) (by omega) ?_
  refine r_vi (y := p i) (hp _ (by omega) (by omega)).1 ?_
  refine r_aload_n B 0 dX5_ranksBefore_6 rfl ?_
  refine rg5_rankClass B hG.1 q_178 dX5_ranksBefore_7 ?_
  refine r_iload_n B 2 dX5_ranksBefore_10 rfl ?_
  refine r_iaload B dX5_ranksBefore_11 hG.2.2.2.2.2.2.2.2.1 (by omega) (by omega) ?_
  refine r_vi (y := p j) (hp _ (by omega) (by omega)).1 ?_
  refine r_icmp_eq B dX5_ranksBefore_12 rfl ⟨by omega, by omega⟩ ⟨by omega, by omega⟩ (fun h1 => ?_) (fun h1 => ?_)
  · refine r_aload_n B 0 dX5_ranksBefore_36 rfl ?_
    refine rg5_rankRange B hG.1 q_179 dX5_ranksBefore_37 ?_
    refine r_iload_n B 1 dX5_ranksBefore_40 rfl ?_
    refine r_iaload B dX5_ranksBefore_41 hG.2.2.2.2.2.2.2.2.2 (by omega) (by omega) ?_
    refine r_vi (y := x i) (hx _ (by omega) (by omega)).1 ?_
    refine r_aload_n B 0 dX5_ranksBefore_42 rfl ?_
    refine rg5_rankRange B hG.1 q_179 dX5_ranksBefore_43 ?_
    refine r_iload_n B 2 dX5_ranksBefore_46 rfl ?_
    refine r_iaload B dX5_ranksBefore_47 hG.2.2.2.2.2.2.2.2.2 (by omega) (by omega) ?_
    refine r_vi (y := x j) (hx _ (by omega) (by omega)).1 ?_
    refine r_icmp_eq B dX5_ranksBefore_48 rfl ⟨by omega, by omega⟩ ⟨by omega, by omega⟩ (fun h2 => ?_) (fun h2 => ?_)
    · refine r_iload_n B 1 dX5_ranksBefore_72 rfl ?_
      refine r_iload_n B 2 dX5_ranksBefore_73 rfl ?_
      refine r_icmp_ge B dX5_ranksBefore_74 rfl ⟨by omega, by omega⟩ ⟨by omega, by omega⟩ (fun h3 => ?_) (fun h3 => ?_)
      · refine r_iconst B dX5_ranksBefore_81 ?_
        exact r_zret B dX5_ranksBefore_82 (by omega) ⟨by unfold rkD; rw [if_neg (by omega), if_neg (by omega), if_neg (by omega), if_neg (by omega), if_neg (by omega)], rfl⟩
      · refine r_iconst B dX5_ranksBefore_77 ?_
        refine r_goto B dX5_ranksBefore_78 rfl ?_
        exact r_zret B dX5_ranksBefore_82 (by omega) ⟨by unfold rkD; rw [if_neg (by omega), if_neg (by omega), if_neg (by omega), if_neg (by omega), if_pos (by omega)], rfl⟩
    · refine r_aload_n B 0 dX5_ranksBefore_51 rfl ?_
      refine rg5_rankRange B hG.1 q_179 dX5_ranksBefore_52 ?_
      refine r_iload_n B 1 dX5_ranksBefore_55 rfl ?_
      refine r_iaload B dX5_ranksBefore_56 hG.2.2.2.2.2.2.2.2.2 (by omega) (by omega) ?_
      refine r_vi (y := x i) (hx _ (by omega) (by omega)).1 ?_
      refine r_aload_n B 0 dX5_ranksBefore_57 rfl ?_
      refine rg5_rankRange B hG.1 q_179 dX5_ranksBefore_58 ?_
      refine r_iload_n B 2 dX5_ranksBefore_61 rfl ?_
      refine r_iaload B dX5_ranksBefore_62 hG.2.2.2.2.2.2.2.2.2 (by omega) (by omega) ?_
      refine r_vi (y := x j) (hx _ (by omega) (by omega)).1 ?_
      refine r_icmp_ge B dX5_ranksBefore_63 rfl ⟨by omega, by omega⟩ ⟨by omega, by omega⟩ (fun h4 => ?_) (fun h4 => ?_)
      · refine r_iconst B dX5_ranksBefore_70 ?_
        exact r_zret B dX5_ranksBefore_71 (by omega) ⟨by unfold rkD; rw [if_neg (by omega), if_neg (by omega), if_neg (by omega), if_pos (by omega)], rfl⟩
      · refine r_iconst B dX5_ranksBefore_66 ?_
        refine r_goto B dX5_ranksBefore_67 rfl ?_
        exact r_zret B dX5_ranksBefore_71 (by omega) ⟨by unfold rkD; rw [if_neg (by omega), if_neg (by omega), if_pos (by omega)], rfl⟩
  · refine r_aload_n B 0 dX5_ranksBefore_15 rfl ?_
    refine rg5_rankClass B hG.1 q_178 dX5_ranksBefore_16 ?_
    refine r_iload_n B 1 dX5_ranksBefore_19 rfl ?_
    refine r_iaload B dX5_ranksBefore_20 hG.2.2.2.2.2.2.2.2.1 (by omega) (by omega) ?_
    refine r_vi (y := p i) (hp _ (by omega) (by omega)).1 ?_
    refine r_aload_n B 0 dX5_ranksBefore_21 rfl ?_
    refine rg5_rankClass B hG.1 q_178 dX5_ranksBefore_22 ?_
    refine r_iload_n B 2 dX5_ranksBefore_25 rfl ?_
    refine r_iaload B dX5_ranksBefore_26 hG.2.2.2.2.2.2.2.2.1 (by omega) (by omega) ?_
    refine r_vi (y := p j) (hp _ (by omega) (by omega)).1 ?_
    refine r_icmp_ge B dX5_ranksBefore_27 rfl ⟨by omega, by omega⟩ ⟨by omega, by omega⟩ (fun h5 => ?_) (fun h5 => ?_)
    · refine r_iconst B dX5_ranksBefore_34 ?_
      exact r_zret B dX5_ranksBefore_35 (by omega) ⟨by unfold rkD; rw [if_neg (by omega), if_pos (by omega)], rfl⟩
    · refine r_iconst B dX5_ranksBefore_30 ?_
      refine r_goto B dX5_ranksBefore_31 rfl ?_
      exact r_zret B dX5_ranksBefore_35 (by omega) ⟨by unfold rkD; rw [if_pos (by omega)], rfl⟩

set_option maxRecDepth 100000 in
set_option maxHeartbeats 4000000 in
theorem c_X5_placeOf (l : Launch) (G : Gs) (M : Mem) (N : Nat) (s : Ast) (hG : IsGg G N) (hA : StateIs M (N + 1) s) (hok : StateOk s) (p x : Int → Int) (hp : ∀ k : Int, 0 ≤ k → k < s.1 → gI M (N + 333) k = p k ∧ In32 (p k)) (hx : ∀ k : Int, 0 ≤ k → k < s.1 → gI M (N + 334) k = x k ∧ In32 (x k)) (j : Int) (hj0 : 0 ≤ j) (hj1 : j < s.1) : Ct l G yX5_placeOf cX5_placeOf 4 (some .int) rm_X5_placeOf [.ref N, .int (iI j)] M (PoI G (Rd (rkN p x j s.1.toNat) M)) 0 0 := by
  refine Ct.of (by decide +kernel) (Nat.le_of_ble_eq_true rfl) [(0, .ref N), (1, .int (iI j))] rfl ?_
  intro X B
  have hs1 := hok.1
  have hs2 := hok.2.1
  have hs3 := hok.2.2.1
  have hs4 := hok.2.2.2.1
  refine r_iconst B dX5_placeOf_0 ?_
  refine r_istore_n B (lv' := [(2, .int (iI 0)), (0, .ref N), (1, .int (iI j))]) dX5_placeOf_1 (by decide) rfl ?_
  refine r_iconst B dX5_placeOf_2 ?_
  refine r_istore_n B (lv' := [(3, .int (iI 0)), (2, .int (iI 0)), (0, .ref N), (1, .int (iI j))]) dX5_placeOf_3 (by decide) rfl ?_
  have lp1 : ∀ (nlp1 : Nat) (i : Int) (fo : Int) (hi0 : 0 ≤ i) (hi1 : i ≤ s.1) (hfo : fo = rkN p x j i.toNat), (s.1 - i).toNat < nlp1 → WM G X 0 0 (bM X (PoI G (Rd (rkN p x j s.1.toNat) M)) 0 0 G) M 4 [(0, .ref N), (1, .int (iI j)), (2, .int (iI fo)), (3, .int (iI i))] [] := by
    intro nlp1
    induction nlp1 with
    | zero => intro i fo hi0 hi1 hfo hm; omega
    | succ nlp1 ihlp1 =>
      intro i fo hi0 hi1 hfo hm
      have hrn := rkN_in p x j i.toNat
      have hrd := rkD_in p x i j
      refine r_iload_n B 3 dX5_placeOf_4 rfl ?_
      refine r_aload_n B 0 dX5_placeOf_5 rfl ?_
      refine rg5_now B hG.1 q_171 dX5_placeOf_6 ?_
      refine rg3_gearCount B hG.2.1.1 q_94 dX5_placeOf_9 ?_
      refine r_vi (y := s.1) hA.1 ?_
      refine r_icmp_ge B dX5_placeOf_12 rfl ⟨by omega, by omega⟩ ⟨by omega, by omega⟩ (fun h2 => ?_) (fun h2 => ?_)
      · refine r_iload_n B 2 dX5_placeOf_33 rfl ?_
        exact r_iret B dX5_placeOf_34 ⟨by rw [hfo, show i = s.1 by omega], rfl⟩
      · refine r_aload_n B 0 dX5_placeOf_15 rfl ?_
        refine r_iload_n B 3 dX5_placeOf_16 rfl ?_
        refine r_iload_n B 1 dX5_placeOf_17 rfl ?_
        refine r_pVz2 B (c_X5_ranksBefore l G M N hG p x s.1 (by omega) hp hx i j (by omega) (by omega) (by omega) (by omega)) ⟨rfl, rfl⟩ ok_X5_ranksBefore vi_X5_ranksBefore q_866 hG.1 rfl (fun _ => rfl) ⟨Nat.le_of_ble_eq_true rfl, Nat.le_of_ble_eq_true rfl, Nat.le_of_ble_eq_true rfl⟩ ⟨Nat.le_of_ble_eq_true rfl, Nat.le_of_ble_eq_true rfl⟩ dX5_placeOf_18 ?_
        refine r_if_eq B dX5_placeOf_21 rfl ⟨by omega, by omega⟩ (fun h3 => ?_) (fun h3 => ?_)
        · refine r_iinc B (lv' := [(3, .int (iI (i + 1))), (0, .ref N), (1, .int (iI j)), (2, .int (iI fo))]) dX5_placeOf_27 (j := 3) rfl (by decide) rfl ?_
          refine r_goto B dX5_placeOf_30 rfl ?_
          refine WM.pick [1, 2, 3, 0] rfl ?_
          exact ihlp1 (i + 1) _ (by omega) (by omega) (by rw [rkN_s _ _ _ hi0, ← hfo]; omega) (by omega)
        · refine r_iinc B (lv' := [(2, .int (iI (fo + 1))), (0, .ref N), (1, .int (iI j)), (3, .int (iI i))]) dX5_placeOf_24 (j := 2) rfl (by decide) rfl ?_
          refine r_iinc B (lv' := [(3, .int (iI (i + 1))), (2, .int (iI (fo + 1))), (0, .ref N), (1, .int (iI j))]) dX5_placeOf_27 (j := 3) rfl (by decide) rfl ?_
          refine r_goto B dX5_placeOf_30 rfl ?_
          refine WM.pick [2, 3, 1, 0] rfl ?_
          exact ihlp1 (i + 1) _ (by omega) (by omega) (by rw [rkN_s _ _ _ hi0, ← hfo]; omega) (by omega)
  refine WM.pick [2, 3, 1, 0] rfl ?_
  exact lp1 _ 0 0 (by omega) (by omega) rfl (Nat.lt_succ_self _)
