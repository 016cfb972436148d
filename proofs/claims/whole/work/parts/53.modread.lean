set_option maxRecDepth 100000 in
set_option maxHeartbeats 4000000 in
theorem c_X6_isReading (l : Launch) (G : Gs) (M : Mem) (md : Nat) (hM : IsMd G md) (s : Ast) (hS_M : MdS M md s) (hok : StateOk s) (ge se ix : Int) (hge : In32 ge) (hse : In32 se) (hix : In32 ix) : Ct l G yX6_isReading cX6_isReading 4 (some .boolean) rm_X6_isReading [.ref md, .int (iI ge), .int (iI se), .int (iI ix)] M (PoI G (Rd (bF ((0 ≤ ge ∧ ge < s.1) ∧ (0 ≤ se ∧ se < 3) ∧ (0 ≤ ix ∧ ix < szS (s.2.2.1 ge).1 se))) M)) 0 0 := by
  refine Ct.of (by decide +kernel) (Nat.le_of_ble_eq_true rfl) [(0, .ref md), (1, .int (iI ge)), (2, .int (iI se)), (3, .int (iI ix))] rfl ?_
  intro X B
  have hs1 := hok.1
  have hs2 := hok.2.1
  have hs3 := hok.2.2.1
  have hs4 := hok.2.2.2.1
  have hF_M : FL M M md := FL.rf
  obtain ⟨hge1, hge2⟩ := hge
  obtain ⟨hse1, hse2⟩ := hse
  obtain ⟨hix1, hix2⟩ := hix
  have i1 := inF_in ge 0 (s.1 - 1)
  have i2 := inF_in se 0 2
  refine r_aload_n B 0 dX6_isReading_0 rfl ?_
  refine r_iload_n B 1 dX6_isReading_1 rfl ?_
  refine r_pVz1 B (c_X6_isGear l G M md hM s hS_M hok ge ⟨by omega, by omega⟩) ⟨rfl, rfl⟩ ok_X6_isGear vi_X6_isGear q_988 hM.1 rfl (fun _ => rfl) ⟨Nat.le_of_ble_eq_true rfl, Nat.le_of_ble_eq_true rfl, Nat.le_of_ble_eq_true rfl⟩ ⟨Nat.le_of_ble_eq_true rfl, Nat.le_of_ble_eq_true rfl⟩ dX6_isReading_2 ?_
  refine r_if_eq B dX6_isReading_5 rfl ⟨by omega, by omega⟩ (fun h1 => ?_) (fun h1 => ?_)
  · have q_h1 := inF_0 h1
    refine r_iconst B dX6_isReading_42 ?_
    exact r_zret B dX6_isReading_43 (by omega) ⟨by unfold bF; rw [if_neg (by omega)], rfl⟩
  · have q_h1 := inF_1 h1
    refine r_iload_n B 2 dX6_isReading_8 rfl ?_
    refine r_i2l B dX6_isReading_9 ⟨by omega, by omega⟩ ?_
    refine r_lconst0 B dX6_isReading_10 ?_
    refine r_ldc2 B (z := 2) dX6_isReading_11 q_1008 (by decide) ?_
    refine r_pSz3 B (c_X6_in l G M  se 0 2 ⟨by omega, by omega⟩ ⟨by omega, by omega⟩ ⟨by omega, by omega⟩) ⟨rfl, rfl⟩ ok_X6_in q_961 q_960 ⟨Nat.le_of_ble_eq_true rfl, Nat.le_of_ble_eq_true rfl, Nat.le_of_ble_eq_true rfl⟩ ⟨Nat.le_of_ble_eq_true rfl, Nat.le_of_ble_eq_true rfl⟩ dX6_isReading_14 ?_
    refine r_if_eq B dX6_isReading_17 rfl ⟨by omega, by omega⟩ (fun h2 => ?_) (fun h2 => ?_)
    · have q_h2 := inF_0 h2
      refine r_iconst B dX6_isReading_42 ?_
      exact r_zret B dX6_isReading_43 (by omega) ⟨by unfold bF; rw [if_neg (by omega)], rfl⟩
    · have q_h2 := inF_1 h2
      have hgk := hok.2.2.2.2.1 ge (by omega) (by omega)
      obtain ⟨hgk1, hgk2, hgk3, hgk4, hgk5⟩ := id hgk
      have hsz := szS_le (s.2.2.1 ge).1 se
      have i3 := inF_in ix 0 (szS (s.2.2.1 ge).1 se - 1)
      refine r_iload_n B 3 dX6_isReading_20 rfl ?_
      refine r_i2l B dX6_isReading_21 ⟨by omega, by omega⟩ ?_
      refine r_lconst0 B dX6_isReading_22 ?_
      refine r_aload_n B 0 dX6_isReading_23 rfl ?_
      refine r_iload_n B 1 dX6_isReading_24 rfl ?_
      refine r_iload_n B 2 dX6_isReading_25 rfl ?_
      refine r_pVi2 B (c_X6_longOf l G M md hM s hS_M hok ge se (by omega) (by omega) (by omega) (by omega)) ⟨rfl, rfl⟩ ok_X6_longOf vi_X6_longOf q_1009 hM.1 rfl (fun _ => rfl) ⟨Nat.le_of_ble_eq_true rfl, Nat.le_of_ble_eq_true rfl, Nat.le_of_ble_eq_true rfl⟩ ⟨Nat.le_of_ble_eq_true rfl, Nat.le_of_ble_eq_true rfl⟩ dX6_isReading_26 ?_
      refine r_iconst B dX6_isReading_29 ?_
      refine r_isub B dX6_isReading_30 ?_
      refine r_i2l B dX6_isReading_31 ⟨by omega, by omega⟩ ?_
      refine r_pSz3 B (c_X6_in l G M  ix 0 ((szS (s.2.2.1 ge).1 se) - 1) ⟨by omega, by omega⟩ ⟨by omega, by omega⟩ ⟨by omega, by omega⟩) ⟨rfl, rfl⟩ ok_X6_in q_961 q_960 ⟨Nat.le_of_ble_eq_true rfl, Nat.le_of_ble_eq_true rfl, Nat.le_of_ble_eq_true rfl⟩ ⟨Nat.le_of_ble_eq_true rfl, Nat.le_of_ble_eq_true rfl⟩ dX6_isReading_32 ?_
      refine r_if_eq B dX6_isReading_35 rfl ⟨by omega, by omega⟩ (fun h3 => ?_) (fun h3 => ?_)
      · have q_h3 := inF_0 h3
        refine r_iconst B dX6_isReading_42 ?_
        exact r_zret B dX6_isReading_43 (by omega) ⟨by unfold bF; rw [if_neg (by omega)], rfl⟩
      · have q_h3 := inF_1 h3
        refine r_iconst B dX6_isReading_38 ?_
        refine r_goto B dX6_isReading_39 rfl ?_
        exact r_zret B dX6_isReading_43 (by omega) ⟨by unfold bF; rw [if_pos (by omega)], rfl⟩

set_option maxRecDepth 100000 in
set_option maxHeartbeats 4000000 in
theorem c_X6_isFlank (l : Launch) (G : Gs) (M : Mem) (md : Nat) (hM : IsMd G md) (s : Ast) (hS_M : MdS M md s) (hok : StateOk s) (ge fl : Int) (hge : In32 ge) (hfl : In32 fl) : Ct l G yX6_isFlank cX6_isFlank 3 (some .boolean) rm_X6_isFlank [.ref md, .int (iI ge), .int (iI fl)] M (PoI G (Rd (bF ((0 ≤ ge ∧ ge < s.1) ∧ (0 ≤ fl ∧ fl < 2))) M)) 0 0 := by
  refine Ct.of (by decide +kernel) (Nat.le_of_ble_eq_true rfl) [(0, .ref md), (1, .int (iI ge)), (2, .int (iI fl))] rfl ?_
  intro X B
  have hs1 := hok.1
  have hs2 := hok.2.1
  have hs3 := hok.2.2.1
  have hs4 := hok.2.2.2.1
  have hF_M : FL M M md := FL.rf
  obtain ⟨hge1, hge2⟩ := hge
  obtain ⟨hfl1, hfl2⟩ := hfl
  have i1 := inF_in ge 0 (s.1 - 1)
  have i2 := inF_in fl 0 1
  refine r_aload_n B 0 dX6_isFlank_0 rfl ?_
  refine r_iload_n B 1 dX6_isFlank_1 rfl ?_
  refine r_pVz1 B (c_X6_isGear l G M md hM s hS_M hok ge ⟨by omega, by omega⟩) ⟨rfl, rfl⟩ ok_X6_isGear vi_X6_isGear q_988 hM.1 rfl (fun _ => rfl) ⟨Nat.le_of_ble_eq_true rfl, Nat.le_of_ble_eq_true rfl, Nat.le_of_ble_eq_true rfl⟩ ⟨Nat.le_of_ble_eq_true rfl, Nat.le_of_ble_eq_true rfl⟩ dX6_isFlank_2 ?_
  refine r_if_eq B dX6_isFlank_5 rfl ⟨by omega, by omega⟩ (fun h1 => ?_) (fun h1 => ?_)
  · have q_h1 := inF_0 h1
    refine r_iconst B dX6_isFlank_22 ?_
    exact r_zret B dX6_isFlank_23 (by omega) ⟨by unfold bF; rw [if_neg (by omega)], rfl⟩
  · have q_h1 := inF_1 h1
    refine r_iload_n B 2 dX6_isFlank_8 rfl ?_
    refine r_i2l B dX6_isFlank_9 ⟨by omega, by omega⟩ ?_
    refine r_lconst0 B dX6_isFlank_10 ?_
    refine r_lconst1 B dX6_isFlank_11 ?_
    refine r_pSz3 B (c_X6_in l G M  fl 0 1 ⟨by omega, by omega⟩ ⟨by omega, by omega⟩ ⟨by omega, by omega⟩) ⟨rfl, rfl⟩ ok_X6_in q_961 q_960 ⟨Nat.le_of_ble_eq_true rfl, Nat.le_of_ble_eq_true rfl, Nat.le_of_ble_eq_true rfl⟩ ⟨Nat.le_of_ble_eq_true rfl, Nat.le_of_ble_eq_true rfl⟩ dX6_isFlank_12 ?_
    refine r_if_eq B dX6_isFlank_15 rfl ⟨by omega, by omega⟩ (fun h2 => ?_) (fun h2 => ?_)
    · have q_h2 := inF_0 h2
      refine r_iconst B dX6_isFlank_22 ?_
      exact r_zret B dX6_isFlank_23 (by omega) ⟨by unfold bF; rw [if_neg (by omega)], rfl⟩
    · have q_h2 := inF_1 h2
      refine r_iconst B dX6_isFlank_18 ?_
      refine r_goto B dX6_isFlank_19 rfl ?_
      exact r_zret B dX6_isFlank_23 (by omega) ⟨by unfold bF; rw [if_pos (by omega)], rfl⟩

set_option maxRecDepth 100000 in
set_option maxHeartbeats 4000000 in
theorem c_X6_isDeviation (l : Launch) (G : Gs) (M : Mem) (wh : Int) (hwh : In32 wh) : Ct l G yX6_isDeviation cX6_isDeviation 1 (some .boolean) rm_X6_isDeviation [.int (iI wh)] M (PoI G (Rd (inF wh 0 8) M)) 0 0 := by
  refine Ct.of (by decide +kernel) (Nat.le_of_ble_eq_true rfl) [(0, .int (iI wh))] rfl ?_
  intro X B
  obtain ⟨hwh1, hwh2⟩ := hwh
  have i1 := inF_in wh 0 8
  refine r_iload_n B 0 dX6_isDeviation_0 rfl ?_
  refine r_i2l B dX6_isDeviation_1 ⟨by omega, by omega⟩ ?_
  refine r_lconst0 B dX6_isDeviation_2 ?_
  refine r_ldc2 B (z := 8) dX6_isDeviation_3 q_1175 (by decide) ?_
  refine r_pSz3 B (c_X6_in l G M  wh 0 8 ⟨by omega, by omega⟩ ⟨by omega, by omega⟩ ⟨by omega, by omega⟩) ⟨rfl, rfl⟩ ok_X6_in q_961 q_960 ⟨Nat.le_of_ble_eq_true rfl, Nat.le_of_ble_eq_true rfl, Nat.le_of_ble_eq_true rfl⟩ ⟨Nat.le_of_ble_eq_true rfl, Nat.le_of_ble_eq_true rfl⟩ dX6_isDeviation_6 ?_
  exact r_zret B dX6_isDeviation_9 (by omega) ⟨rfl, rfl⟩

set_option maxRecDepth 100000 in
set_option maxHeartbeats 4000000 in
theorem c_X6_linesOf (l : Launch) (G : Gs) (M : Mem) (md : Nat) (hM : IsMd G md) (s : Ast) (hS_M : MdS M md s) (hok : StateOk s) (ge : Int) (h0 : 0 ≤ ge) (h1 : ge < 6) : Ct l G yX6_linesOf cX6_linesOf 4 (some .int) rm_X6_linesOf [.ref md, .int (iI ge)] M (PoI G (Rd (cnF s ge s.2.1.toNat) M)) 0 0 := by
  refine Ct.of (by decide +kernel) (Nat.le_of_ble_eq_true rfl) [(0, .ref md), (1, .int (iI ge))] rfl ?_
  intro X B
  have hs1 := hok.1
  have hs2 := hok.2.1
  have hs3 := hok.2.2.1
  have hs4 := hok.2.2.2.1
  have hF_M : FL M M md := FL.rf
  refine r_iconst B dX6_linesOf_0 ?_
  refine r_istore_n B (lv' := [(2, .int (iI 0)), (0, .ref md), (1, .int (iI ge))]) dX6_linesOf_1 (by decide) rfl ?_
  refine r_iconst B dX6_linesOf_2 ?_
  refine r_istore_n B (lv' := [(3, .int (iI 0)), (2, .int (iI 0)), (0, .ref md), (1, .int (iI ge))]) dX6_linesOf_3 (by decide) rfl ?_
  have lp1 : ∀ (nlp1 : Nat) (i : Int) (fo : Int) (hi0 : 0 ≤ i) (hi1 : i ≤ s.2.1) (hfo : fo = cnF s ge i.toNat), (s.2.1 - i).toNat < nlp1 → WM G X 0 0 (bM X (PoI G (Rd (cnF s ge s.2.1.toNat) M)) 0 0 G) M 4 [(0, .ref md), (1, .int (iI ge)), (2, .int (iI fo)), (3, .int (iI i))] [] := by
    intro nlp1
    induction nlp1 with
    | zero => intro i fo hi0 hi1 hfo hm; omega
    | succ nlp1 ihlp1 =>
      intro i fo hi0 hi1 hfo hm
      have hcn := cnF_in s ge i.toNat
      refine r_iload_n B 3 dX6_linesOf_4 rfl ?_
      refine r_aload_n B 0 dX6_linesOf_5 rfl ?_
      refine rg6_s B hM.1 q_892 dX6_linesOf_6 ?_
      refine r_sipush B (z := 571) dX6_linesOf_9 (by decide) ?_
      refine r_iaload B dX6_linesOf_12 hM.2.1 (by omega) (by omega) ?_
      refine r_vi (y := s.2.1) hS_M.2.1 ?_
      refine r_icmp_ge B dX6_linesOf_13 rfl ⟨by omega, by omega⟩ ⟨by omega, by omega⟩ (fun h2 => ?_) (fun h2 => ?_)
      · refine r_iload_n B 2 dX6_linesOf_40 rfl ?_
        exact r_iret B dX6_linesOf_41 ⟨by rw [hfo, show i = s.2.1 by omega], rfl⟩
      · have hli := hok.2.2.2.2.2 i (by omega) (by omega)
        refine r_iload_n B 2 dX6_linesOf_16 rfl ?_
        refine r_aload_n B 0 dX6_linesOf_17 rfl ?_
        refine r_iload_n B 3 dX6_linesOf_18 rfl ?_
        refine r_iconst B dX6_linesOf_19 ?_
        refine r_pVi2 B (c_X6_of l G M md hM i 0 (by omega) (by omega) (by omega) (by omega)) ⟨rfl, rfl⟩ ok_X6_of vi_X6_of q_992 hM.1 rfl (fun _ => rfl) ⟨Nat.le_of_ble_eq_true rfl, Nat.le_of_ble_eq_true rfl, Nat.le_of_ble_eq_true rfl⟩ ⟨Nat.le_of_ble_eq_true rfl, Nat.le_of_ble_eq_true rfl⟩ dX6_linesOf_20 ?_
        refine r_vi (y := (s.2.2.2 i).1) (hS_M.2.2.2 i (by omega) (by omega)).1 ?_
        refine r_iload_n B 1 dX6_linesOf_23 rfl ?_
        have J3 : ∀ w : Int, (((s.2.2.2 i).1 = ge ∧ w = 1) ∨ (¬ (s.2.2.2 i).1 = ge ∧ w = 0)) → WM G X 0 0 (bM X (PoI G (Rd (cnF s ge s.2.1.toNat) M)) 0 0 G) M 32 [(0, .ref md), (1, .int (iI ge)), (2, .int (iI fo)), (3, .int (iI i))] [.int (iI w), .int (iI fo)] := by
          intro w hw
          refine r_iadd B dX6_linesOf_32 ?_
          refine r_istore_n B (lv' := [(2, .int (iI (fo + w))), (0, .ref md), (1, .int (iI ge)), (3, .int (iI i))]) dX6_linesOf_33 (by decide) rfl ?_
          refine r_iinc B (lv' := [(3, .int (iI (i + 1))), (2, .int (iI (fo + w))), (0, .ref md), (1, .int (iI ge))]) dX6_linesOf_34 (j := 3) rfl (by decide) rfl ?_
          refine r_goto B dX6_linesOf_37 rfl ?_
          refine WM.pick [2, 3, 1, 0] rfl ?_
          exact ihlp1 (i + 1) _ (by omega) (by omega) (by rw [cnF_s _ _ hi0, ← hfo]; rcases hw with ⟨w1, w2⟩ | ⟨w1, w2⟩; rw [if_pos w1, w2]; rw [if_neg w1, w2]; omega) (by omega)
        refine r_icmp_ne B dX6_linesOf_24 rfl ⟨by omega, by omega⟩ ⟨by omega, by omega⟩ (fun h4 => ?_) (fun h4 => ?_)
        · refine r_iconst B dX6_linesOf_31 ?_
          exact J3 _ (Or.inr ⟨h4, rfl⟩)
        · refine r_iconst B dX6_linesOf_27 ?_
          refine r_goto B dX6_linesOf_28 rfl ?_
          exact J3 _ (Or.inl ⟨h4, rfl⟩)
  refine WM.pick [2, 3, 1, 0] rfl ?_
  exact lp1 _ 0 0 (by omega) (by omega) rfl (Nat.lt_succ_self _)

set_option maxRecDepth 100000 in
set_option maxHeartbeats 4000000 in
theorem c_X6_indexOf (l : Launch) (G : Gs) (M : Mem) (md : Nat) (hM : IsMd G md) (s : Ast) (hS_M : MdS M md s) (hok : StateOk s) (ge fl tt : Int) (h0 : 0 ≤ ge) (h1 : ge < s.1) (f0 : 0 ≤ fl) (f1 : fl < 2) (t0 : 0 ≤ tt) (t1 : tt ≤ (s.2.2.1 ge).1) : Ct l G yX6_indexOf cX6_indexOf 4 (some .int) rm_X6_indexOf [.ref md, .int (iI ge), .int (iI fl), .int (iI tt)] M (PoI G (Rd (ixS (s.2.2.1 ge).1 ((s.2.2.1 ge).2.2 fl) tt) M)) 0 0 := by
  refine Ct.of (by decide +kernel) (Nat.le_of_ble_eq_true rfl) [(0, .ref md), (1, .int (iI ge)), (2, .int (iI fl)), (3, .int (iI tt))] rfl ?_
  intro X B
  have hs1 := hok.1
  have hs2 := hok.2.1
  have hs3 := hok.2.2.1
  have hs4 := hok.2.2.2.1
  have hF_M : FL M M md := FL.rf
  have hgk := hok.2.2.2.2.1 ge (by omega) (by omega)
  obtain ⟨hgk1, hgk2, hgk3, hgk4, hgk5⟩ := id hgk
  have hz0 : szS (s.2.2.1 ge).1 fl = (s.2.2.1 ge).1 + 1 := by unfold szS; rw [if_neg (by omega)]
  have hrt := hgk.fl (s := fl) (by omega) (by omega) (tt) (by omega) (by omega)
  have hr0 := hgk.fl (s := fl) (by omega) (by omega) (0) (by omega) (by omega)
  have hrz := hgk.fl (s := fl) (by omega) (by omega) ((s.2.2.1 ge).1) (by omega) (by omega)
  have hml := mulB (x := (s.2.2.1 ge).2.2 fl (s.2.2.1 ge).1 - (s.2.2.1 ge).2.2 fl 0) (y := tt) (A := 10000) (C := 30) (by omega) (by omega) (by omega) (by omega) (by omega)
  refine r_aload_n B 0 dX6_indexOf_0 rfl ?_
  refine r_iload_n B 1 dX6_indexOf_1 rfl ?_
  refine r_iload_n B 2 dX6_indexOf_2 rfl ?_
  refine r_iload_n B 3 dX6_indexOf_3 rfl ?_
  refine r_pVi3 B (c_X6_readingOf l G M md hM ge fl tt (by omega) (by omega) (by omega) (by omega) (by omega) (by omega)) ⟨rfl, rfl⟩ ok_X6_readingOf vi_X6_readingOf q_1022 hM.1 rfl (fun _ => rfl) ⟨Nat.le_of_ble_eq_true rfl, Nat.le_of_ble_eq_true rfl, Nat.le_of_ble_eq_true rfl⟩ ⟨Nat.le_of_ble_eq_true rfl, Nat.le_of_ble_eq_true rfl⟩ dX6_indexOf_4 ?_
  refine r_vi (y := (s.2.2.1 ge).2.2 fl tt) ((hS_M.2.2.1 ge (by omega) (by omega)).2.2 fl tt (by omega) (by omega) (by omega) (by omega)) ?_
  refine r_aload_n B 0 dX6_indexOf_7 rfl ?_
  refine r_iload_n B 1 dX6_indexOf_8 rfl ?_
  refine r_iload_n B 2 dX6_indexOf_9 rfl ?_
  refine r_iconst B dX6_indexOf_10 ?_
  refine r_pVi3 B (c_X6_readingOf l G M md hM ge fl 0 (by omega) (by omega) (by omega) (by omega) (by omega) (by omega)) ⟨rfl, rfl⟩ ok_X6_readingOf vi_X6_readingOf q_1022 hM.1 rfl (fun _ => rfl) ⟨Nat.le_of_ble_eq_true rfl, Nat.le_of_ble_eq_true rfl, Nat.le_of_ble_eq_true rfl⟩ ⟨Nat.le_of_ble_eq_true rfl, Nat.le_of_ble_eq_true rfl⟩ dX6_indexOf_11 ?_
  refine r_vi (y := (s.2.2.1 ge).2.2 fl 0) ((hS_M.2.2.1 ge (by omega) (by omega)).2.2 fl 0 (by omega) (by omega) (by omega) (by omega)) ?_
  refine r_isub B dX6_indexOf_14 ?_
  refine r_aload_n B 0 dX6_indexOf_15 rfl ?_
  refine r_iload_n B 1 dX6_indexOf_16 rfl ?_
  refine r_iload_n B 2 dX6_indexOf_17 rfl ?_
  refine r_pVi2 B (c_X6_closing l G M md hM s hS_M hok ge fl (by omega) (by omega) (by omega) (by omega)) ⟨rfl, rfl⟩ ok_X6_closing vi_X6_closing q_1038 hM.1 rfl (fun _ => rfl) ⟨Nat.le_of_ble_eq_true rfl, Nat.le_of_ble_eq_true rfl, Nat.le_of_ble_eq_true rfl⟩ ⟨Nat.le_of_ble_eq_true rfl, Nat.le_of_ble_eq_true rfl⟩ dX6_indexOf_18 ?_
  refine r_i2l B dX6_indexOf_21 ⟨by omega, by omega⟩ ?_
  refine r_iload_n B 3 dX6_indexOf_22 rfl ?_
  refine r_i2l B dX6_indexOf_23 ⟨by omega, by omega⟩ ?_
  refine r_lmul B dX6_indexOf_24 ?_
  refine r_aload_n B 0 dX6_indexOf_25 rfl ?_
  refine r_iload_n B 1 dX6_indexOf_26 rfl ?_
  refine r_pVi1 B (c_X6_teeth l G M md hM ge (by omega) (by omega)) ⟨rfl, rfl⟩ ok_X6_teeth vi_X6_teeth q_1013 hM.1 rfl (fun _ => rfl) ⟨Nat.le_of_ble_eq_true rfl, Nat.le_of_ble_eq_true rfl, Nat.le_of_ble_eq_true rfl⟩ ⟨Nat.le_of_ble_eq_true rfl, Nat.le_of_ble_eq_true rfl⟩ dX6_indexOf_27 ?_
  refine r_vi (y := (s.2.2.1 ge).1) (hS_M.2.2.1 ge (by omega) (by omega)).1 ?_
  refine r_i2l B dX6_indexOf_30 ⟨by omega, by omega⟩ ?_
  refine r_pSi2 B (c_X6_round l G M  (((s.2.2.1 ge).2.2 fl (s.2.2.1 ge).1 - (s.2.2.1 ge).2.2 fl 0) * tt) ((s.2.2.1 ge).1) (by omega) (by omega) (by omega) (by omega)) ⟨rfl, rfl⟩ ok_X6_round q_1095 q_1094 ⟨Nat.le_of_ble_eq_true rfl, Nat.le_of_ble_eq_true rfl, Nat.le_of_ble_eq_true rfl⟩ ⟨Nat.le_of_ble_eq_true rfl, Nat.le_of_ble_eq_true rfl⟩ dX6_indexOf_31 ?_
  refine r_isub B dX6_indexOf_34 ?_
  exact r_iret B dX6_indexOf_35 ⟨rfl, rfl⟩

set_option maxRecDepth 100000 in
set_option maxHeartbeats 4000000 in
theorem c_X6_pitchOf (l : Launch) (G : Gs) (M : Mem) (md : Nat) (hM : IsMd G md) (s : Ast) (hS_M : MdS M md s) (hok : StateOk s) (ge fl tt : Int) (h0 : 0 ≤ ge) (h1 : ge < s.1) (f0 : 0 ≤ fl) (f1 : fl < 2) (t0 : 1 ≤ tt) (t1 : tt ≤ (s.2.2.1 ge).1) : Ct l G yX6_pitchOf cX6_pitchOf 4 (some .int) rm_X6_pitchOf [.ref md, .int (iI ge), .int (iI fl), .int (iI tt)] M (PoI G (Rd (ixS (s.2.2.1 ge).1 ((s.2.2.1 ge).2.2 fl) tt - ixS (s.2.2.1 ge).1 ((s.2.2.1 ge).2.2 fl) (tt - 1)) M)) 0 0 := by
  refine Ct.of (by decide +kernel) (Nat.le_of_ble_eq_true rfl) [(0, .ref md), (1, .int (iI ge)), (2, .int (iI fl)), (3, .int (iI tt))] rfl ?_
  intro X B
  have hs1 := hok.1
  have hs2 := hok.2.1
  have hs3 := hok.2.2.1
  have hs4 := hok.2.2.2.1
  have hF_M : FL M M md := FL.rf
  have hgk := hok.2.2.2.2.1 ge (by omega) (by omega)
  obtain ⟨hgk1, hgk2, hgk3, hgk4, hgk5⟩ := id hgk
  refine r_aload_n B 0 dX6_pitchOf_0 rfl ?_
  refine r_iload_n B 1 dX6_pitchOf_1 rfl ?_
  refine r_iload_n B 2 dX6_pitchOf_2 rfl ?_
  refine r_iload_n B 3 dX6_pitchOf_3 rfl ?_
  refine r_pVi3 B (c_X6_indexOf l G M md hM s hS_M hok ge fl tt (by omega) (by omega) (by omega) (by omega) (by omega) (by omega)) ⟨rfl, rfl⟩ ok_X6_indexOf vi_X6_indexOf q_1090 hM.1 rfl (fun _ => rfl) ⟨Nat.le_of_ble_eq_true rfl, Nat.le_of_ble_eq_true rfl, Nat.le_of_ble_eq_true rfl⟩ ⟨Nat.le_of_ble_eq_true rfl, Nat.le_of_ble_eq_true rfl⟩ dX6_pitchOf_4 ?_
  refine r_aload_n B 0 dX6_pitchOf_7 rfl ?_
  refine r_iload_n B 1 dX6_pitchOf_8 rfl ?_
  refine r_iload_n B 2 dX6_pitchOf_9 rfl ?_
  refine r_iload_n B 3 dX6_pitchOf_10 rfl ?_
  refine r_iconst B dX6_pitchOf_11 ?_
  refine r_isub B dX6_pitchOf_12 ?_
  refine r_pVi3 B (c_X6_indexOf l G M md hM s hS_M hok ge fl (tt - 1) (by omega) (by omega) (by omega) (by omega) (by omega) (by omega)) ⟨rfl, rfl⟩ ok_X6_indexOf vi_X6_indexOf q_1090 hM.1 rfl (fun _ => rfl) ⟨Nat.le_of_ble_eq_true rfl, Nat.le_of_ble_eq_true rfl, Nat.le_of_ble_eq_true rfl⟩ ⟨Nat.le_of_ble_eq_true rfl, Nat.le_of_ble_eq_true rfl⟩ dX6_pitchOf_13 ?_
  refine r_isub B dX6_pitchOf_16 ?_
  exact r_iret B dX6_pitchOf_17 ⟨rfl, rfl⟩

set_option maxRecDepth 100000 in
set_option maxHeartbeats 4000000 in
theorem c_X6_thick (l : Launch) (G : Gs) (M : Mem) (md : Nat) (hM : IsMd G md) (s : Ast) (hS_M : MdS M md s) (hok : StateOk s) (ge tt : Int) (h0 : 0 ≤ ge) (h1 : ge < s.1) (t0 : 0 ≤ tt) (t1 : tt ≤ (s.2.2.1 ge).1) : Ct l G yX6_thick cX6_thick 3 (some .int) rm_X6_thick [.ref md, .int (iI ge), .int (iI tt)] M (PoI G (Rd (thF (s.2.2.1 ge).1 (s.2.2.1 ge).2.2 tt) M)) 0 0 := by
  refine Ct.of (by decide +kernel) (Nat.le_of_ble_eq_true rfl) [(0, .ref md), (1, .int (iI ge)), (2, .int (iI tt))] rfl ?_
  intro X B
  have hs1 := hok.1
  have hs2 := hok.2.1
  have hs3 := hok.2.2.1
  have hs4 := hok.2.2.2.1
  have hF_M : FL M M md := FL.rf
  have hgk := hok.2.2.2.2.1 ge (by omega) (by omega)
  obtain ⟨hgk1, hgk2, hgk3, hgk4, hgk5⟩ := id hgk
  refine r_aload_n B 0 dX6_thick_0 rfl ?_
  refine r_iload_n B 1 dX6_thick_1 rfl ?_
  refine r_iconst B dX6_thick_2 ?_
  refine r_iload_n B 2 dX6_thick_3 rfl ?_
  refine r_pVi3 B (c_X6_indexOf l G M md hM s hS_M hok ge 0 tt (by omega) (by omega) (by omega) (by omega) (by omega) (by omega)) ⟨rfl, rfl⟩ ok_X6_indexOf vi_X6_indexOf q_1090 hM.1 rfl (fun _ => rfl) ⟨Nat.le_of_ble_eq_true rfl, Nat.le_of_ble_eq_true rfl, Nat.le_of_ble_eq_true rfl⟩ ⟨Nat.le_of_ble_eq_true rfl, Nat.le_of_ble_eq_true rfl⟩ dX6_thick_4 ?_
  refine r_aload_n B 0 dX6_thick_7 rfl ?_
  refine r_iload_n B 1 dX6_thick_8 rfl ?_
  refine r_iconst B dX6_thick_9 ?_
  refine r_iload_n B 2 dX6_thick_10 rfl ?_
  refine r_pVi3 B (c_X6_indexOf l G M md hM s hS_M hok ge 1 tt (by omega) (by omega) (by omega) (by omega) (by omega) (by omega)) ⟨rfl, rfl⟩ ok_X6_indexOf vi_X6_indexOf q_1090 hM.1 rfl (fun _ => rfl) ⟨Nat.le_of_ble_eq_true rfl, Nat.le_of_ble_eq_true rfl, Nat.le_of_ble_eq_true rfl⟩ ⟨Nat.le_of_ble_eq_true rfl, Nat.le_of_ble_eq_true rfl⟩ dX6_thick_11 ?_
  refine r_isub B dX6_thick_14 ?_
  exact r_iret B dX6_thick_15 ⟨rfl, rfl⟩

set_option maxRecDepth 100000 in
set_option maxHeartbeats 4000000 in
theorem c_X6_gears (l : Launch) (G : Gs) (M : Mem) (md : Nat) (hM : IsMd G md) (s : Ast) (hS_M : MdS M md s) (hok : StateOk s) : Ct l G yX6_gears cX6_gears 1 (some .int) rm_X6_gears [.ref md] M (PoI G (fun r M' => r = s.1 ∧ M' = sI M md 6 0)) 0 0 := by
  refine Ct.of (by decide +kernel) (Nat.le_of_ble_eq_true rfl) [(0, .ref md)] rfl ?_
  intro X B
  have hs1 := hok.1
  have hs2 := hok.2.1
  have hs3 := hok.2.2.1
  have hs4 := hok.2.2.2.1
  have hF_M : FL M M md := FL.rf
  refine r_aload_n B 0 dX6_gears_0 rfl ?_
  refine r_aload_n B 0 dX6_gears_1 rfl ?_
  refine rg6_s B hM.1 q_892 dX6_gears_2 ?_
  refine r_iconst B dX6_gears_5 ?_
  refine r_iaload B dX6_gears_6 hM.2.1 (by omega) (by omega) ?_
  refine r_vi (y := s.1) hS_M.1 ?_
  refine r_Vi1 B (c_X6_tells l G M md hM s.1) ⟨rfl, rfl⟩ ok_X6_tells vi_X6_tells q_980 hM.1 rfl (fun _ => rfl) ⟨Nat.le_of_ble_eq_true rfl, Nat.le_of_ble_eq_true rfl, Nat.le_of_ble_eq_true rfl⟩ ⟨Nat.le_of_ble_eq_true rfl, Nat.le_of_ble_eq_true rfl⟩ dX6_gears_7 (fun rf Mf hff => ?_)
  obtain ⟨hf1, hf2⟩ := hff
  rw [hf1, hf2]
  clear hf1 hf2
  exact r_iret B dX6_gears_10 ⟨rfl, rfl⟩

set_option maxRecDepth 100000 in
set_option maxHeartbeats 4000000 in
theorem c_X6_lines (l : Launch) (G : Gs) (M : Mem) (md : Nat) (hM : IsMd G md) (s : Ast) (hS_M : MdS M md s) (hok : StateOk s) : Ct l G yX6_lines cX6_lines 1 (some .int) rm_X6_lines [.ref md] M (PoI G (fun r M' => r = s.2.1 ∧ M' = sI M md 6 0)) 0 0 := by
  refine Ct.of (by decide +kernel) (Nat.le_of_ble_eq_true rfl) [(0, .ref md)] rfl ?_
  intro X B
  have hs1 := hok.1
  have hs2 := hok.2.1
  have hs3 := hok.2.2.1
  have hs4 := hok.2.2.2.1
  have hF_M : FL M M md := FL.rf
  refine r_aload_n B 0 dX6_lines_0 rfl ?_
  refine r_aload_n B 0 dX6_lines_1 rfl ?_
  refine rg6_s B hM.1 q_892 dX6_lines_2 ?_
  refine r_sipush B (z := 571) dX6_lines_5 (by decide) ?_
  refine r_iaload B dX6_lines_8 hM.2.1 (by omega) (by omega) ?_
  refine r_vi (y := s.2.1) hS_M.2.1 ?_
  refine r_Vi1 B (c_X6_tells l G M md hM s.2.1) ⟨rfl, rfl⟩ ok_X6_tells vi_X6_tells q_980 hM.1 rfl (fun _ => rfl) ⟨Nat.le_of_ble_eq_true rfl, Nat.le_of_ble_eq_true rfl, Nat.le_of_ble_eq_true rfl⟩ ⟨Nat.le_of_ble_eq_true rfl, Nat.le_of_ble_eq_true rfl⟩ dX6_lines_9 (fun rf Mf hff => ?_)
  obtain ⟨hf1, hf2⟩ := hff
  rw [hf1, hf2]
  clear hf1 hf2
  exact r_iret B dX6_lines_12 ⟨rfl, rfl⟩

set_option maxRecDepth 100000 in
set_option maxHeartbeats 4000000 in
theorem c_X6_reading (l : Launch) (G : Gs) (M : Mem) (md : Nat) (hM : IsMd G md) (s : Ast) (hS_M : MdS M md s) (hok : StateOk s) (ge se ix : Int) (hge : In32 ge) (hse : In32 se) (hix : In32 ix) : Ct l G yX6_reading cX6_reading 4 (some .int) rm_X6_reading [.ref md, .int (iI ge), .int (iI se), .int (iI ix)] M (PoI G (fun r M' => r = (oReading s ge se ix).2 ∧ M' = sI M md 6 (oReading s ge se ix).1)) 0 0 := by
  refine Ct.of (by decide +kernel) (Nat.le_of_ble_eq_true rfl) [(0, .ref md), (1, .int (iI ge)), (2, .int (iI se)), (3, .int (iI ix))] rfl ?_
  intro X B
  have hs1 := hok.1
  have hs2 := hok.2.1
  have hs3 := hok.2.2.1
  have hs4 := hok.2.2.2.1
  have hF_M : FL M M md := FL.rf
  obtain ⟨hge1, hge2⟩ := hge
  obtain ⟨hse1, hse2⟩ := hse
  obtain ⟨hix1, hix2⟩ := hix
  have i1 := bF_in ((0 ≤ ge ∧ ge < s.1) ∧ (0 ≤ se ∧ se < 3) ∧ (0 ≤ ix ∧ ix < szS (s.2.2.1 ge).1 se))
  refine r_aload_n B 0 dX6_reading_0 rfl ?_
  refine r_iload_n B 1 dX6_reading_1 rfl ?_
  refine r_iload_n B 2 dX6_reading_2 rfl ?_
  refine r_iload_n B 3 dX6_reading_3 rfl ?_
  refine r_pVz3 B (c_X6_isReading l G M md hM s hS_M hok ge se ix ⟨by omega, by omega⟩ ⟨by omega, by omega⟩ ⟨by omega, by omega⟩) ⟨rfl, rfl⟩ ok_X6_isReading vi_X6_isReading q_1004 hM.1 rfl (fun _ => rfl) ⟨Nat.le_of_ble_eq_true rfl, Nat.le_of_ble_eq_true rfl, Nat.le_of_ble_eq_true rfl⟩ ⟨Nat.le_of_ble_eq_true rfl, Nat.le_of_ble_eq_true rfl⟩ dX6_reading_4 ?_
  refine r_if_eq B dX6_reading_7 rfl ⟨by omega, by omega⟩ (fun h1 => ?_) (fun h1 => ?_)
  · have q_h1 := bF_0 h1
    refine r_aload_n B 0 dX6_reading_24 rfl ?_
    refine r_iconst B dX6_reading_25 ?_
    refine r_Vi1 B (c_X6_fails l G M md hM 1) ⟨rfl, rfl⟩ ok_X6_fails vi_X6_fails q_964 hM.1 rfl (fun _ => rfl) ⟨Nat.le_of_ble_eq_true rfl, Nat.le_of_ble_eq_true rfl, Nat.le_of_ble_eq_true rfl⟩ ⟨Nat.le_of_ble_eq_true rfl, Nat.le_of_ble_eq_true rfl⟩ dX6_reading_26 (fun rf Mf hff => ?_)
    obtain ⟨hf1, hf2⟩ := hff
    rw [hf1, hf2]
    clear hf1 hf2
    have ho : oReading s ge se ix = (1, 0) := by unfold oReading; rw [if_neg (by omega)]
    exact r_iret B dX6_reading_29 ⟨by rw [ho], by rw [ho]⟩
  · have q_h1 := bF_1 h1
    have hgk := hok.2.2.2.2.1 ge (by omega) (by omega)
    obtain ⟨hgk1, hgk2, hgk3, hgk4, hgk5⟩ := id hgk
    have hsz := szS_le (s.2.2.1 ge).1 se
    refine r_aload_n B 0 dX6_reading_10 rfl ?_
    refine r_aload_n B 0 dX6_reading_11 rfl ?_
    refine r_iload_n B 1 dX6_reading_12 rfl ?_
    refine r_iload_n B 2 dX6_reading_13 rfl ?_
    refine r_iload_n B 3 dX6_reading_14 rfl ?_
    refine r_pVi3 B (c_X6_readingOf l G M md hM ge se ix (by omega) (by omega) (by omega) (by omega) (by omega) (by omega)) ⟨rfl, rfl⟩ ok_X6_readingOf vi_X6_readingOf q_1022 hM.1 rfl (fun _ => rfl) ⟨Nat.le_of_ble_eq_true rfl, Nat.le_of_ble_eq_true rfl, Nat.le_of_ble_eq_true rfl⟩ ⟨Nat.le_of_ble_eq_true rfl, Nat.le_of_ble_eq_true rfl⟩ dX6_reading_15 ?_
    refine r_vi (y := (s.2.2.1 ge).2.2 se ix) ((hS_M.2.2.1 ge (by omega) (by omega)).2.2 se ix (by omega) (by omega) (by omega) (by omega)) ?_
    refine r_Vi1 B (c_X6_tells l G M md hM ((s.2.2.1 ge).2.2 se ix)) ⟨rfl, rfl⟩ ok_X6_tells vi_X6_tells q_980 hM.1 rfl (fun _ => rfl) ⟨Nat.le_of_ble_eq_true rfl, Nat.le_of_ble_eq_true rfl, Nat.le_of_ble_eq_true rfl⟩ ⟨Nat.le_of_ble_eq_true rfl, Nat.le_of_ble_eq_true rfl⟩ dX6_reading_18 (fun rf Mf hff => ?_)
    obtain ⟨hf1, hf2⟩ := hff
    rw [hf1, hf2]
    clear hf1 hf2
    refine r_goto B dX6_reading_21 rfl ?_
    have ho : oReading s ge se ix = (0, (s.2.2.1 ge).2.2 se ix) := by unfold oReading; rw [if_pos (by omega)]
    exact r_iret B dX6_reading_29 ⟨by rw [ho], by rw [ho]⟩

set_option maxRecDepth 100000 in
set_option maxHeartbeats 4000000 in
theorem c_X6_index (l : Launch) (G : Gs) (M : Mem) (md : Nat) (hM : IsMd G md) (s : Ast) (hS_M : MdS M md s) (hok : StateOk s) (ge fl tt : Int) (hge : In32 ge) (hfl : In32 fl) (htt : In32 tt) : Ct l G yX6_index cX6_index 4 (some .int) rm_X6_index [.ref md, .int (iI ge), .int (iI fl), .int (iI tt)] M (PoI G (fun r M' => r = (oIndex s ge fl tt).2 ∧ M' = sI M md 6 (oIndex s ge fl tt).1)) 0 0 := by
  refine Ct.of (by decide +kernel) (Nat.le_of_ble_eq_true rfl) [(0, .ref md), (1, .int (iI ge)), (2, .int (iI fl)), (3, .int (iI tt))] rfl ?_
  intro X B
  have hs1 := hok.1
  have hs2 := hok.2.1
  have hs3 := hok.2.2.1
  have hs4 := hok.2.2.2.1
  have hF_M : FL M M md := FL.rf
  obtain ⟨hge1, hge2⟩ := hge
  obtain ⟨hfl1, hfl2⟩ := hfl
  obtain ⟨htt1, htt2⟩ := htt
  have i1 := bF_in ((0 ≤ ge ∧ ge < s.1) ∧ (0 ≤ fl ∧ fl < 2))
  refine r_aload_n B 0 dX6_index_0 rfl ?_
  refine r_iload_n B 1 dX6_index_1 rfl ?_
  refine r_iload_n B 2 dX6_index_2 rfl ?_
  refine r_pVz2 B (c_X6_isFlank l G M md hM s hS_M hok ge fl ⟨by omega, by omega⟩ ⟨by omega, by omega⟩) ⟨rfl, rfl⟩ ok_X6_isFlank vi_X6_isFlank q_1142 hM.1 rfl (fun _ => rfl) ⟨Nat.le_of_ble_eq_true rfl, Nat.le_of_ble_eq_true rfl, Nat.le_of_ble_eq_true rfl⟩ ⟨Nat.le_of_ble_eq_true rfl, Nat.le_of_ble_eq_true rfl⟩ dX6_index_3 ?_
  refine r_if_eq B dX6_index_6 rfl ⟨by omega, by omega⟩ (fun h1 => ?_) (fun h1 => ?_)
  · have q_h1 := bF_0 h1
    refine r_aload_n B 0 dX6_index_38 rfl ?_
    refine r_iconst B dX6_index_39 ?_
    refine r_Vi1 B (c_X6_fails l G M md hM 1) ⟨rfl, rfl⟩ ok_X6_fails vi_X6_fails q_964 hM.1 rfl (fun _ => rfl) ⟨Nat.le_of_ble_eq_true rfl, Nat.le_of_ble_eq_true rfl, Nat.le_of_ble_eq_true rfl⟩ ⟨Nat.le_of_ble_eq_true rfl, Nat.le_of_ble_eq_true rfl⟩ dX6_index_40 (fun rf Mf hff => ?_)
    obtain ⟨hf1, hf2⟩ := hff
    rw [hf1, hf2]
    clear hf1 hf2
    have ho : oIndex s ge fl tt = (1, 0) := by unfold oIndex; rw [if_neg (by omega)]
    exact r_iret B dX6_index_43 ⟨by rw [ho], by rw [ho]⟩
  · have q_h1 := bF_1 h1
    have hgk := hok.2.2.2.2.1 ge (by omega) (by omega)
    obtain ⟨hgk1, hgk2, hgk3, hgk4, hgk5⟩ := id hgk
    have i2 := inF_in tt 0 (s.2.2.1 ge).1
    refine r_iload_n B 3 dX6_index_9 rfl ?_
    refine r_i2l B dX6_index_10 ⟨by omega, by omega⟩ ?_
    refine r_lconst0 B dX6_index_11 ?_
    refine r_aload_n B 0 dX6_index_12 rfl ?_
    refine r_iload_n B 1 dX6_index_13 rfl ?_
    refine r_pVi1 B (c_X6_teeth l G M md hM ge (by omega) (by omega)) ⟨rfl, rfl⟩ ok_X6_teeth vi_X6_teeth q_1013 hM.1 rfl (fun _ => rfl) ⟨Nat.le_of_ble_eq_true rfl, Nat.le_of_ble_eq_true rfl, Nat.le_of_ble_eq_true rfl⟩ ⟨Nat.le_of_ble_eq_true rfl, Nat.le_of_ble_eq_true rfl⟩ dX6_index_14 ?_
    refine r_vi (y := (s.2.2.1 ge).1) (hS_M.2.2.1 ge (by omega) (by omega)).1 ?_
    refine r_i2l B dX6_index_17 ⟨by omega, by omega⟩ ?_
    refine r_pSz3 B (c_X6_in l G M  tt 0 ((s.2.2.1 ge).1) ⟨by omega, by omega⟩ ⟨by omega, by omega⟩ ⟨by omega, by omega⟩) ⟨rfl, rfl⟩ ok_X6_in q_961 q_960 ⟨Nat.le_of_ble_eq_true rfl, Nat.le_of_ble_eq_true rfl, Nat.le_of_ble_eq_true rfl⟩ ⟨Nat.le_of_ble_eq_true rfl, Nat.le_of_ble_eq_true rfl⟩ dX6_index_18 ?_
    refine r_if_eq B dX6_index_21 rfl ⟨by omega, by omega⟩ (fun h2 => ?_) (fun h2 => ?_)
    · have q_h2 := inF_0 h2
      refine r_aload_n B 0 dX6_index_38 rfl ?_
      refine r_iconst B dX6_index_39 ?_
      refine r_Vi1 B (c_X6_fails l G M md hM 1) ⟨rfl, rfl⟩ ok_X6_fails vi_X6_fails q_964 hM.1 rfl (fun _ => rfl) ⟨Nat.le_of_ble_eq_true rfl, Nat.le_of_ble_eq_true rfl, Nat.le_of_ble_eq_true rfl⟩ ⟨Nat.le_of_ble_eq_true rfl, Nat.le_of_ble_eq_true rfl⟩ dX6_index_40 (fun rf Mf hff => ?_)
      obtain ⟨hf1, hf2⟩ := hff
      rw [hf1, hf2]
      clear hf1 hf2
      have ho : oIndex s ge fl tt = (1, 0) := by unfold oIndex; rw [if_neg (by omega)]
      exact r_iret B dX6_index_43 ⟨by rw [ho], by rw [ho]⟩
    · have q_h2 := inF_1 h2
      refine r_aload_n B 0 dX6_index_24 rfl ?_
      refine r_aload_n B 0 dX6_index_25 rfl ?_
      refine r_iload_n B 1 dX6_index_26 rfl ?_
      refine r_iload_n B 2 dX6_index_27 rfl ?_
      refine r_iload_n B 3 dX6_index_28 rfl ?_
      refine r_pVi3 B (c_X6_indexOf l G M md hM s hS_M hok ge fl tt (by omega) (by omega) (by omega) (by omega) (by omega) (by omega)) ⟨rfl, rfl⟩ ok_X6_indexOf vi_X6_indexOf q_1090 hM.1 rfl (fun _ => rfl) ⟨Nat.le_of_ble_eq_true rfl, Nat.le_of_ble_eq_true rfl, Nat.le_of_ble_eq_true rfl⟩ ⟨Nat.le_of_ble_eq_true rfl, Nat.le_of_ble_eq_true rfl⟩ dX6_index_29 ?_
      refine r_Vi1 B (c_X6_tells l G M md hM (ixS (s.2.2.1 ge).1 ((s.2.2.1 ge).2.2 fl) tt)) ⟨rfl, rfl⟩ ok_X6_tells vi_X6_tells q_980 hM.1 rfl (fun _ => rfl) ⟨Nat.le_of_ble_eq_true rfl, Nat.le_of_ble_eq_true rfl, Nat.le_of_ble_eq_true rfl⟩ ⟨Nat.le_of_ble_eq_true rfl, Nat.le_of_ble_eq_true rfl⟩ dX6_index_32 (fun rf Mf hff => ?_)
      obtain ⟨hf1, hf2⟩ := hff
      rw [hf1, hf2]
      clear hf1 hf2
      refine r_goto B dX6_index_35 rfl ?_
      have ho : oIndex s ge fl tt = (0, ixS (s.2.2.1 ge).1 ((s.2.2.1 ge).2.2 fl) tt) := by unfold oIndex; rw [if_pos (by omega)]
      exact r_iret B dX6_index_43 ⟨by rw [ho], by rw [ho]⟩

set_option maxRecDepth 100000 in
set_option maxHeartbeats 4000000 in
theorem c_X6_pitch (l : Launch) (G : Gs) (M : Mem) (md : Nat) (hM : IsMd G md) (s : Ast) (hS_M : MdS M md s) (hok : StateOk s) (ge fl tt : Int) (hge : In32 ge) (hfl : In32 fl) (htt : In32 tt) : Ct l G yX6_pitch cX6_pitch 4 (some .int) rm_X6_pitch [.ref md, .int (iI ge), .int (iI fl), .int (iI tt)] M (PoI G (fun r M' => r = (oPitch s ge fl tt).2 ∧ M' = sI M md 6 (oPitch s ge fl tt).1)) 0 0 := by
  refine Ct.of (by decide +kernel) (Nat.le_of_ble_eq_true rfl) [(0, .ref md), (1, .int (iI ge)), (2, .int (iI fl)), (3, .int (iI tt))] rfl ?_
  intro X B
  have hs1 := hok.1
  have hs2 := hok.2.1
  have hs3 := hok.2.2.1
  have hs4 := hok.2.2.2.1
  have hF_M : FL M M md := FL.rf
  obtain ⟨hge1, hge2⟩ := hge
  obtain ⟨hfl1, hfl2⟩ := hfl
  obtain ⟨htt1, htt2⟩ := htt
  have i1 := bF_in ((0 ≤ ge ∧ ge < s.1) ∧ (0 ≤ fl ∧ fl < 2))
  refine r_aload_n B 0 dX6_pitch_0 rfl ?_
  refine r_iload_n B 1 dX6_pitch_1 rfl ?_
  refine r_iload_n B 2 dX6_pitch_2 rfl ?_
  refine r_pVz2 B (c_X6_isFlank l G M md hM s hS_M hok ge fl ⟨by omega, by omega⟩ ⟨by omega, by omega⟩) ⟨rfl, rfl⟩ ok_X6_isFlank vi_X6_isFlank q_1142 hM.1 rfl (fun _ => rfl) ⟨Nat.le_of_ble_eq_true rfl, Nat.le_of_ble_eq_true rfl, Nat.le_of_ble_eq_true rfl⟩ ⟨Nat.le_of_ble_eq_true rfl, Nat.le_of_ble_eq_true rfl⟩ dX6_pitch_3 ?_
  refine r_if_eq B dX6_pitch_6 rfl ⟨by omega, by omega⟩ (fun h1 => ?_) (fun h1 => ?_)
  · have q_h1 := bF_0 h1
    refine r_aload_n B 0 dX6_pitch_38 rfl ?_
    refine r_iconst B dX6_pitch_39 ?_
    refine r_Vi1 B (c_X6_fails l G M md hM 1) ⟨rfl, rfl⟩ ok_X6_fails vi_X6_fails q_964 hM.1 rfl (fun _ => rfl) ⟨Nat.le_of_ble_eq_true rfl, Nat.le_of_ble_eq_true rfl, Nat.le_of_ble_eq_true rfl⟩ ⟨Nat.le_of_ble_eq_true rfl, Nat.le_of_ble_eq_true rfl⟩ dX6_pitch_40 (fun rf Mf hff => ?_)
    obtain ⟨hf1, hf2⟩ := hff
    rw [hf1, hf2]
    clear hf1 hf2
    have ho : oPitch s ge fl tt = (1, 0) := by unfold oPitch; rw [if_neg (by omega)]
    exact r_iret B dX6_pitch_43 ⟨by rw [ho], by rw [ho]⟩
  · have q_h1 := bF_1 h1
    have hgk := hok.2.2.2.2.1 ge (by omega) (by omega)
    obtain ⟨hgk1, hgk2, hgk3, hgk4, hgk5⟩ := id hgk
    have i2 := inF_in tt 1 (s.2.2.1 ge).1
    refine r_iload_n B 3 dX6_pitch_9 rfl ?_
    refine r_i2l B dX6_pitch_10 ⟨by omega, by omega⟩ ?_
    refine r_lconst1 B dX6_pitch_11 ?_
    refine r_aload_n B 0 dX6_pitch_12 rfl ?_
    refine r_iload_n B 1 dX6_pitch_13 rfl ?_
    refine r_pVi1 B (c_X6_teeth l G M md hM ge (by omega) (by omega)) ⟨rfl, rfl⟩ ok_X6_teeth vi_X6_teeth q_1013 hM.1 rfl (fun _ => rfl) ⟨Nat.le_of_ble_eq_true rfl, Nat.le_of_ble_eq_true rfl, Nat.le_of_ble_eq_true rfl⟩ ⟨Nat.le_of_ble_eq_true rfl, Nat.le_of_ble_eq_true rfl⟩ dX6_pitch_14 ?_
    refine r_vi (y := (s.2.2.1 ge).1) (hS_M.2.2.1 ge (by omega) (by omega)).1 ?_
    refine r_i2l B dX6_pitch_17 ⟨by omega, by omega⟩ ?_
    refine r_pSz3 B (c_X6_in l G M  tt 1 ((s.2.2.1 ge).1) ⟨by omega, by omega⟩ ⟨by omega, by omega⟩ ⟨by omega, by omega⟩) ⟨rfl, rfl⟩ ok_X6_in q_961 q_960 ⟨Nat.le_of_ble_eq_true rfl, Nat.le_of_ble_eq_true rfl, Nat.le_of_ble_eq_true rfl⟩ ⟨Nat.le_of_ble_eq_true rfl, Nat.le_of_ble_eq_true rfl⟩ dX6_pitch_18 ?_
    refine r_if_eq B dX6_pitch_21 rfl ⟨by omega, by omega⟩ (fun h2 => ?_) (fun h2 => ?_)
    · have q_h2 := inF_0 h2
      refine r_aload_n B 0 dX6_pitch_38 rfl ?_
      refine r_iconst B dX6_pitch_39 ?_
      refine r_Vi1 B (c_X6_fails l G M md hM 1) ⟨rfl, rfl⟩ ok_X6_fails vi_X6_fails q_964 hM.1 rfl (fun _ => rfl) ⟨Nat.le_of_ble_eq_true rfl, Nat.le_of_ble_eq_true rfl, Nat.le_of_ble_eq_true rfl⟩ ⟨Nat.le_of_ble_eq_true rfl, Nat.le_of_ble_eq_true rfl⟩ dX6_pitch_40 (fun rf Mf hff => ?_)
      obtain ⟨hf1, hf2⟩ := hff
      rw [hf1, hf2]
      clear hf1 hf2
      have ho : oPitch s ge fl tt = (1, 0) := by unfold oPitch; rw [if_neg (by omega)]
      exact r_iret B dX6_pitch_43 ⟨by rw [ho], by rw [ho]⟩
    · have q_h2 := inF_1 h2
      refine r_aload_n B 0 dX6_pitch_24 rfl ?_
      refine r_aload_n B 0 dX6_pitch_25 rfl ?_
      refine r_iload_n B 1 dX6_pitch_26 rfl ?_
      refine r_iload_n B 2 dX6_pitch_27 rfl ?_
      refine r_iload_n B 3 dX6_pitch_28 rfl ?_
      refine r_pVi3 B (c_X6_pitchOf l G M md hM s hS_M hok ge fl tt (by omega) (by omega) (by omega) (by omega) (by omega) (by omega)) ⟨rfl, rfl⟩ ok_X6_pitchOf vi_X6_pitchOf q_1086 hM.1 rfl (fun _ => rfl) ⟨Nat.le_of_ble_eq_true rfl, Nat.le_of_ble_eq_true rfl, Nat.le_of_ble_eq_true rfl⟩ ⟨Nat.le_of_ble_eq_true rfl, Nat.le_of_ble_eq_true rfl⟩ dX6_pitch_29 ?_
      refine r_Vi1 B (c_X6_tells l G M md hM (ixS (s.2.2.1 ge).1 ((s.2.2.1 ge).2.2 fl) tt - ixS (s.2.2.1 ge).1 ((s.2.2.1 ge).2.2 fl) (tt - 1))) ⟨rfl, rfl⟩ ok_X6_tells vi_X6_tells q_980 hM.1 rfl (fun _ => rfl) ⟨Nat.le_of_ble_eq_true rfl, Nat.le_of_ble_eq_true rfl, Nat.le_of_ble_eq_true rfl⟩ ⟨Nat.le_of_ble_eq_true rfl, Nat.le_of_ble_eq_true rfl⟩ dX6_pitch_32 (fun rf Mf hff => ?_)
      obtain ⟨hf1, hf2⟩ := hff
      rw [hf1, hf2]
      clear hf1 hf2
      refine r_goto B dX6_pitch_35 rfl ?_
      have ho : oPitch s ge fl tt = (0, ixS (s.2.2.1 ge).1 ((s.2.2.1 ge).2.2 fl) tt - ixS (s.2.2.1 ge).1 ((s.2.2.1 ge).2.2 fl) (tt - 1)) := by unfold oPitch; rw [if_pos (by omega)]
      exact r_iret B dX6_pitch_43 ⟨by rw [ho], by rw [ho]⟩

set_option maxRecDepth 100000 in
set_option maxHeartbeats 4000000 in
theorem c_X6_point (l : Launch) (G : Gs) (M : Mem) (md : Nat) (hM : IsMd G md) (s : Ast) (hS_M : MdS M md s) (hok : StateOk s) (li pt : Int) (hli : In32 li) (hpt : In32 pt) : Ct l G yX6_point cX6_point 3 (some .int) rm_X6_point [.ref md, .int (iI li), .int (iI pt)] M (PoI G (fun r M' => r = (oPoint s li pt).2 ∧ M' = sI M md 6 (oPoint s li pt).1)) 0 0 := by
  refine Ct.of (by decide +kernel) (Nat.le_of_ble_eq_true rfl) [(0, .ref md), (1, .int (iI li)), (2, .int (iI pt))] rfl ?_
  intro X B
  have hs1 := hok.1
  have hs2 := hok.2.1
  have hs3 := hok.2.2.1
  have hs4 := hok.2.2.2.1
  have hF_M : FL M M md := FL.rf
  obtain ⟨hli1, hli2⟩ := hli
  obtain ⟨hpt1, hpt2⟩ := hpt
  have i1 := inF_in li 0 (s.2.1 - 1)
  refine r_aload_n B 0 dX6_point_0 rfl ?_
  refine r_iload_n B 1 dX6_point_1 rfl ?_
  refine r_pVz1 B (c_X6_isLine l G M md hM s hS_M hok li ⟨by omega, by omega⟩) ⟨rfl, rfl⟩ ok_X6_isLine vi_X6_isLine q_1188 hM.1 rfl (fun _ => rfl) ⟨Nat.le_of_ble_eq_true rfl, Nat.le_of_ble_eq_true rfl, Nat.le_of_ble_eq_true rfl⟩ ⟨Nat.le_of_ble_eq_true rfl, Nat.le_of_ble_eq_true rfl⟩ dX6_point_2 ?_
  refine r_if_eq B dX6_point_5 rfl ⟨by omega, by omega⟩ (fun h1 => ?_) (fun h1 => ?_)
  · have q_h1 := inF_0 h1
    refine r_aload_n B 0 dX6_point_41 rfl ?_
    refine r_iconst B dX6_point_42 ?_
    refine r_Vi1 B (c_X6_fails l G M md hM 1) ⟨rfl, rfl⟩ ok_X6_fails vi_X6_fails q_964 hM.1 rfl (fun _ => rfl) ⟨Nat.le_of_ble_eq_true rfl, Nat.le_of_ble_eq_true rfl, Nat.le_of_ble_eq_true rfl⟩ ⟨Nat.le_of_ble_eq_true rfl, Nat.le_of_ble_eq_true rfl⟩ dX6_point_43 (fun rf Mf hff => ?_)
    obtain ⟨hf1, hf2⟩ := hff
    rw [hf1, hf2]
    clear hf1 hf2
    have ho : oPoint s li pt = (1, 0) := by unfold oPoint; rw [if_neg (by omega)]
    exact r_iret B dX6_point_46 ⟨by rw [ho], by rw [ho]⟩
  · have q_h1 := inF_1 h1
    have hlk := hok.2.2.2.2.2 li (by omega) (by omega)
    obtain ⟨⟨hln0, hln1, hlv⟩, hlg0, hlg1, hlk0, hlk1⟩ := id hlk
    have i2 := inF_in pt 0 ((s.2.2.2 li).2.2.1 - 1)
    refine r_iload_n B 2 dX6_point_8 rfl ?_
    refine r_i2l B dX6_point_9 ⟨by omega, by omega⟩ ?_
    refine r_lconst0 B dX6_point_10 ?_
    refine r_aload_n B 0 dX6_point_11 rfl ?_
    refine r_iload_n B 1 dX6_point_12 rfl ?_
    refine r_iconst B dX6_point_13 ?_
    refine r_pVi2 B (c_X6_of l G M md hM li 2 (by omega) (by omega) (by omega) (by omega)) ⟨rfl, rfl⟩ ok_X6_of vi_X6_of q_992 hM.1 rfl (fun _ => rfl) ⟨Nat.le_of_ble_eq_true rfl, Nat.le_of_ble_eq_true rfl, Nat.le_of_ble_eq_true rfl⟩ ⟨Nat.le_of_ble_eq_true rfl, Nat.le_of_ble_eq_true rfl⟩ dX6_point_14 ?_
    refine r_vi (y := (s.2.2.2 li).2.2.1) (hS_M.2.2.2 li (by omega) (by omega)).2.2.1 ?_
    refine r_iconst B dX6_point_17 ?_
    refine r_isub B dX6_point_18 ?_
    refine r_i2l B dX6_point_19 ⟨by omega, by omega⟩ ?_
    refine r_pSz3 B (c_X6_in l G M  pt 0 (((s.2.2.2 li).2.2.1) - 1) ⟨by omega, by omega⟩ ⟨by omega, by omega⟩ ⟨by omega, by omega⟩) ⟨rfl, rfl⟩ ok_X6_in q_961 q_960 ⟨Nat.le_of_ble_eq_true rfl, Nat.le_of_ble_eq_true rfl, Nat.le_of_ble_eq_true rfl⟩ ⟨Nat.le_of_ble_eq_true rfl, Nat.le_of_ble_eq_true rfl⟩ dX6_point_20 ?_
    refine r_if_eq B dX6_point_23 rfl ⟨by omega, by omega⟩ (fun h2 => ?_) (fun h2 => ?_)
    · have q_h2 := inF_0 h2
      refine r_aload_n B 0 dX6_point_41 rfl ?_
      refine r_iconst B dX6_point_42 ?_
      refine r_Vi1 B (c_X6_fails l G M md hM 1) ⟨rfl, rfl⟩ ok_X6_fails vi_X6_fails q_964 hM.1 rfl (fun _ => rfl) ⟨Nat.le_of_ble_eq_true rfl, Nat.le_of_ble_eq_true rfl, Nat.le_of_ble_eq_true rfl⟩ ⟨Nat.le_of_ble_eq_true rfl, Nat.le_of_ble_eq_true rfl⟩ dX6_point_43 (fun rf Mf hff => ?_)
      obtain ⟨hf1, hf2⟩ := hff
      rw [hf1, hf2]
      clear hf1 hf2
      have ho : oPoint s li pt = (1, 0) := by unfold oPoint; rw [if_neg (by omega)]
      exact r_iret B dX6_point_46 ⟨by rw [ho], by rw [ho]⟩
    · have q_h2 := inF_1 h2
      refine r_aload_n B 0 dX6_point_26 rfl ?_
      refine r_aload_n B 0 dX6_point_27 rfl ?_
      refine r_iload_n B 1 dX6_point_28 rfl ?_
      refine r_iconst B dX6_point_29 ?_
      refine r_iload_n B 2 dX6_point_30 rfl ?_
      refine r_iadd B dX6_point_31 ?_
      refine r_pVi2 B (c_X6_of l G M md hM li (3 + pt) (by omega) (by omega) (by omega) (by omega)) ⟨rfl, rfl⟩ ok_X6_of vi_X6_of q_992 hM.1 rfl (fun _ => rfl) ⟨Nat.le_of_ble_eq_true rfl, Nat.le_of_ble_eq_true rfl, Nat.le_of_ble_eq_true rfl⟩ ⟨Nat.le_of_ble_eq_true rfl, Nat.le_of_ble_eq_true rfl⟩ dX6_point_32 ?_
      refine r_vi (y := (s.2.2.2 li).2.2.2 pt) ((hS_M.2.2.2 li (by omega) (by omega)).2.2.2 pt (by omega) (by omega)) ?_
      refine r_Vi1 B (c_X6_tells l G M md hM ((s.2.2.2 li).2.2.2 pt)) ⟨rfl, rfl⟩ ok_X6_tells vi_X6_tells q_980 hM.1 rfl (fun _ => rfl) ⟨Nat.le_of_ble_eq_true rfl, Nat.le_of_ble_eq_true rfl, Nat.le_of_ble_eq_true rfl⟩ ⟨Nat.le_of_ble_eq_true rfl, Nat.le_of_ble_eq_true rfl⟩ dX6_point_35 (fun rf Mf hff => ?_)
      obtain ⟨hf1, hf2⟩ := hff
      rw [hf1, hf2]
      clear hf1 hf2
      refine r_goto B dX6_point_38 rfl ?_
      have ho : oPoint s li pt = (0, (s.2.2.2 li).2.2.2 pt) := by unfold oPoint; rw [if_pos (by omega)]
      exact r_iret B dX6_point_46 ⟨by rw [ho], by rw [ho]⟩

set_option maxRecDepth 100000 in
set_option maxHeartbeats 4000000 in
theorem c_X6_line (l : Launch) (G : Gs) (M : Mem) (md : Nat) (hM : IsMd G md) (s : Ast) (hS_M : MdS M md s) (hok : StateOk s) (li wh : Int) (hli : In32 li) (hwh : In32 wh) : Ct l G yX6_line cX6_line 3 (some .int) rm_X6_line [.ref md, .int (iI li), .int (iI wh)] M (PoI G (fun r M' => r = (oLine s li wh).2 ∧ M' = sI M md 6 (oLine s li wh).1)) 0 0 := by
  refine Ct.of (by decide +kernel) (Nat.le_of_ble_eq_true rfl) [(0, .ref md), (1, .int (iI li)), (2, .int (iI wh))] rfl ?_
  intro X B
  have hs1 := hok.1
  have hs2 := hok.2.1
  have hs3 := hok.2.2.1
  have hs4 := hok.2.2.2.1
  have hF_M : FL M M md := FL.rf
  obtain ⟨hli1, hli2⟩ := hli
  obtain ⟨hwh1, hwh2⟩ := hwh
  have i1 := inF_in li 0 (s.2.1 - 1)
  have i2 := inF_in wh 0 2
  refine r_aload_n B 0 dX6_line_0 rfl ?_
  refine r_iload_n B 1 dX6_line_1 rfl ?_
  refine r_pVz1 B (c_X6_isLine l G M md hM s hS_M hok li ⟨by omega, by omega⟩) ⟨rfl, rfl⟩ ok_X6_isLine vi_X6_isLine q_1188 hM.1 rfl (fun _ => rfl) ⟨Nat.le_of_ble_eq_true rfl, Nat.le_of_ble_eq_true rfl, Nat.le_of_ble_eq_true rfl⟩ ⟨Nat.le_of_ble_eq_true rfl, Nat.le_of_ble_eq_true rfl⟩ dX6_line_2 ?_
  refine r_if_ne B dX6_line_5 rfl ⟨by omega, by omega⟩ (fun h1 => ?_) (fun h1 => ?_)
  · have q_h1 := inF_1 h1
    have hlk := hok.2.2.2.2.2 li (by omega) (by omega)
    obtain ⟨⟨hln0, hln1, hlv⟩, hlg0, hlg1, hlk0, hlk1⟩ := id hlk
    refine r_iload_n B 2 dX6_line_14 rfl ?_
    refine r_i2l B dX6_line_15 ⟨by omega, by omega⟩ ?_
    refine r_lconst0 B dX6_line_16 ?_
    refine r_ldc2 B (z := 2) dX6_line_17 q_1008 (by decide) ?_
    refine r_pSz3 B (c_X6_in l G M  wh 0 2 ⟨by omega, by omega⟩ ⟨by omega, by omega⟩ ⟨by omega, by omega⟩) ⟨rfl, rfl⟩ ok_X6_in q_961 q_960 ⟨Nat.le_of_ble_eq_true rfl, Nat.le_of_ble_eq_true rfl, Nat.le_of_ble_eq_true rfl⟩ ⟨Nat.le_of_ble_eq_true rfl, Nat.le_of_ble_eq_true rfl⟩ dX6_line_20 ?_
    refine r_if_eq B dX6_line_23 rfl ⟨by omega, by omega⟩ (fun h2 => ?_) (fun h2 => ?_)
    · have q_h2 := inF_0 h2
      refine r_aload_n B 0 dX6_line_39 rfl ?_
      refine r_iconst B dX6_line_40 ?_
      refine r_Vi1 B (c_X6_fails l G M md hM 2) ⟨rfl, rfl⟩ ok_X6_fails vi_X6_fails q_964 hM.1 rfl (fun _ => rfl) ⟨Nat.le_of_ble_eq_true rfl, Nat.le_of_ble_eq_true rfl, Nat.le_of_ble_eq_true rfl⟩ ⟨Nat.le_of_ble_eq_true rfl, Nat.le_of_ble_eq_true rfl⟩ dX6_line_41 (fun rf Mf hff => ?_)
      obtain ⟨hf1, hf2⟩ := hff
      rw [hf1, hf2]
      clear hf1 hf2
      have ho : oLine s li wh = (2, 0) := by unfold oLine; rw [if_neg (by omega), if_neg (by omega), if_neg (by omega), if_neg (by omega)]
      exact r_iret B dX6_line_44 ⟨by rw [ho], by rw [ho]⟩
    · have q_h2 := inF_1 h2
      refine r_aload_n B 0 dX6_line_26 rfl ?_
      refine r_aload_n B 0 dX6_line_27 rfl ?_
      refine r_iload_n B 1 dX6_line_28 rfl ?_
      refine r_iload_n B 2 dX6_line_29 rfl ?_
      refine r_pVi2 B (c_X6_of l G M md hM li wh (by omega) (by omega) (by omega) (by omega)) ⟨rfl, rfl⟩ ok_X6_of vi_X6_of q_992 hM.1 rfl (fun _ => rfl) ⟨Nat.le_of_ble_eq_true rfl, Nat.le_of_ble_eq_true rfl, Nat.le_of_ble_eq_true rfl⟩ ⟨Nat.le_of_ble_eq_true rfl, Nat.le_of_ble_eq_true rfl⟩ dX6_line_30 ?_
      have hval : gI M (md + 1) (572 + 15 * li + wh) = (oLine s li wh).2 := by
        rcases (show wh = 0 ∨ wh = 1 ∨ wh = 2 by omega) with w | w | w
        · rw [w]; unfold oLine; rw [if_neg (by omega), if_pos rfl]; exact (hS_M.2.2.2 li (by omega) (by omega)).1
        · rw [w]; unfold oLine; rw [if_neg (by omega), if_neg (by omega), if_pos rfl]; exact (hS_M.2.2.2 li (by omega) (by omega)).2.1
        · rw [w]; unfold oLine; rw [if_neg (by omega), if_neg (by omega), if_neg (by omega), if_pos rfl]; exact (hS_M.2.2.2 li (by omega) (by omega)).2.2.1
      have ho1 : (oLine s li wh).1 = 0 := by unfold oLine; rw [if_neg (by omega)]; split; rfl; split; rfl; split; rfl; omega
      refine r_vi hval ?_
      refine r_Vi1 B (c_X6_tells l G M md hM ((oLine s li wh).2)) ⟨rfl, rfl⟩ ok_X6_tells vi_X6_tells q_980 hM.1 rfl (fun _ => rfl) ⟨Nat.le_of_ble_eq_true rfl, Nat.le_of_ble_eq_true rfl, Nat.le_of_ble_eq_true rfl⟩ ⟨Nat.le_of_ble_eq_true rfl, Nat.le_of_ble_eq_true rfl⟩ dX6_line_33 (fun rf Mf hff => ?_)
      obtain ⟨hf1, hf2⟩ := hff
      rw [hf1, hf2]
      clear hf1 hf2
      refine r_goto B dX6_line_36 rfl ?_
      exact r_iret B dX6_line_44 ⟨rfl, by rw [ho1]⟩
  · have q_h1 := inF_0 h1
    refine r_aload_n B 0 dX6_line_8 rfl ?_
    refine r_iconst B dX6_line_9 ?_
    refine r_Vi1 B (c_X6_fails l G M md hM 1) ⟨rfl, rfl⟩ ok_X6_fails vi_X6_fails q_964 hM.1 rfl (fun _ => rfl) ⟨Nat.le_of_ble_eq_true rfl, Nat.le_of_ble_eq_true rfl, Nat.le_of_ble_eq_true rfl⟩ ⟨Nat.le_of_ble_eq_true rfl, Nat.le_of_ble_eq_true rfl⟩ dX6_line_10 (fun rf Mf hff => ?_)
    obtain ⟨hf1, hf2⟩ := hff
    rw [hf1, hf2]
    clear hf1 hf2
    have ho : oLine s li wh = (1, 0) := by unfold oLine; rw [if_pos (by omega)]
    exact r_iret B dX6_line_13 ⟨by rw [ho], by rw [ho]⟩
