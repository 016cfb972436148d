set_option maxRecDepth 100000 in
set_option maxHeartbeats 4000000 in
theorem c_X6_best (l : Launch) (G : Gs) (M : Mem) (md : Nat) (hM : IsMd G md) (s : Ast) (hS_M : MdS M md s) (hok : StateOk s) (li sl p : Int) (hli : In32 li) (hp : In32 p) (hsl : sl = 0 ∨ sl = 1) : Ct l G yX6_best cX6_best 10 (some .long) rm_X6_best [.ref md, .int (iI li), .int (iI sl), .int (iI p)] M (PoL G (fun r M' => r = (oBest s li sl p).2 ∧ FL (sI M md 6 (oBest s li sl p).1) M' md)) 0 0 := by
  refine Ct.of (by decide +kernel) (Nat.le_of_ble_eq_true rfl) [(0, .ref md), (1, .int (iI li)), (2, .int (iI sl)), (3, .int (iI p))] rfl ?_
  intro X B
  have hs1 := hok.1
  have hs2 := hok.2.1
  have hs3 := hok.2.2.1
  have hs4 := hok.2.2.2.1
  have hF_M : FL M M md := FL.rf
  obtain ⟨hli1, hli2⟩ := hli
  obtain ⟨hp1, hp2⟩ := hp
  have hsl1 : 0 ≤ sl ∧ sl ≤ 1 := by omega
  have i1 := inF_in li 0 (s.2.1 - 1)
  have i2 := inF_in p 0 1
  refine r_aload_n B 0 dX6_best_0 rfl ?_
  refine r_iload_n B 1 dX6_best_1 rfl ?_
  refine r_pVz1 B (c_X6_isLine l G M md hM s hS_M hok li ⟨by omega, by omega⟩) ⟨rfl, rfl⟩ ok_X6_isLine vi_X6_isLine q_1188 hM.1 rfl (fun _ => rfl) ⟨Nat.le_of_ble_eq_true rfl, Nat.le_of_ble_eq_true rfl, Nat.le_of_ble_eq_true rfl⟩ ⟨Nat.le_of_ble_eq_true rfl, Nat.le_of_ble_eq_true rfl⟩ dX6_best_2 ?_
  refine r_if_ne B dX6_best_5 rfl ⟨by omega, by omega⟩ (fun h1 => ?_) (fun h1 => ?_)
  · have q_h1 := inF_1 h1
    have hlk := hok.2.2.2.2.2 li (by omega) (by omega)
    obtain ⟨⟨hln0, hln1, hlv⟩, hlg0, hlg1, hlk0, hlk1⟩ := id hlk
    refine r_iload_n B 3 dX6_best_15 rfl ?_
    refine r_i2l B dX6_best_16 ⟨by omega, by omega⟩ ?_
    refine r_lconst0 B dX6_best_17 ?_
    refine r_lconst1 B dX6_best_18 ?_
    refine r_pSz3 B (c_X6_in l G M  p 0 1 ⟨by omega, by omega⟩ ⟨by omega, by omega⟩ ⟨by omega, by omega⟩) ⟨rfl, rfl⟩ ok_X6_in q_961 q_960 ⟨Nat.le_of_ble_eq_true rfl, Nat.le_of_ble_eq_true rfl, Nat.le_of_ble_eq_true rfl⟩ ⟨Nat.le_of_ble_eq_true rfl, Nat.le_of_ble_eq_true rfl⟩ dX6_best_19 ?_
    refine r_if_ne B dX6_best_22 rfl ⟨by omega, by omega⟩ (fun h2 => ?_) (fun h2 => ?_)
    · have q_h2 := inF_1 h2
      refine r_aload_n B 0 dX6_best_32 rfl ?_
      refine r_iload_n B 1 dX6_best_33 rfl ?_
      refine r_iconst B dX6_best_34 ?_
      refine r_pVi2 B (c_X6_of l G M md hM li 2 (by omega) (by omega) (by omega) (by omega)) ⟨rfl, rfl⟩ ok_X6_of vi_X6_of q_992 hM.1 rfl (fun _ => rfl) ⟨Nat.le_of_ble_eq_true rfl, Nat.le_of_ble_eq_true rfl, Nat.le_of_ble_eq_true rfl⟩ ⟨Nat.le_of_ble_eq_true rfl, Nat.le_of_ble_eq_true rfl⟩ dX6_best_35 ?_
      refine r_vi (y := (s.2.2.2 li).2.2.1) (hS_M.2.2.2 li (by omega) (by omega)).2.2.1 ?_
      refine r_iconst B dX6_best_38 ?_
      refine r_icmp_ge B dX6_best_39 rfl ⟨by omega, by omega⟩ ⟨by omega, by omega⟩ (fun h3 => ?_) (fun h3 => ?_)
      · have h3n : 3 ≤ (s.2.2.2 li).2.2.1 := by omega
        refine r_aload_n B 0 dX6_best_49 rfl ?_
        refine r_iconst B dX6_best_50 ?_
        refine rp6_thrown B hM.1 q_898 dX6_best_51 ?_
        refine WM.nm (fun M4 eM4 => ?_)
        have hS_M4 : MdS M4 md s := by unfold MdS; rw [eM4, (Same.sI (by omega)).1]; exact hS_M
        have hsb := slS_in hlk.1
        have hib := inS_in hlk.1
        have hdb := dnS_in (n := (s.2.2.2 li).2.2.1) (by omega) (by omega)
        have hnd := mulB (x := (s.2.2.2 li).2.2.1) (y := dnS (s.2.2.2 li).2.2.1) (A := 12) (C := 1716) (by omega) (by omega) (by omega) (by omega) (by omega)
        have hnd1 : 1 ≤ (s.2.2.2 li).2.2.1 * dnS (s.2.2.2 li).2.2.1 := by have w := Int.mul_le_mul_of_nonneg_left hdb.1 (show (0 : Int) ≤ (s.2.2.2 li).2.2.1 by omega); rw [Int.mul_one] at w; omega
        have hni := mulB (x := (s.2.2.2 li).2.2.1) (y := inS (s.2.2.2 li).2.2.2 (s.2.2.2 li).2.2.1) (A := 12) (C := 100000000) (by omega) (by omega) (by omega) (by omega) (by omega)
        refine r_aload_n B 0 dX6_best_54 rfl ?_
        refine r_iload_n B 1 dX6_best_55 rfl ?_
        refine r_Vv1 B (c_X6_fits l G M4 md hM s hS_M4 hok li (by omega) (by omega)) ⟨rfl, rfl⟩ ok_X6_fits vi_X6_fits q_1119 hM.1 rfl (fun _ => rfl) ⟨Nat.le_of_ble_eq_true rfl, Nat.le_of_ble_eq_true rfl, Nat.le_of_ble_eq_true rfl⟩ ⟨Nat.le_of_ble_eq_true rfl, Nat.le_of_ble_eq_true rfl⟩ dX6_best_56 (fun Mg hft => ?_)
        obtain ⟨hF_Mg, e7, e8, e9, e10⟩ := hft
        have hS_Mg := hF_Mg.mds hS_M4
        refine r_iload_n B 2 dX6_best_59 rfl ?_
        have J5 : ∀ up : Int, ((sl = 0 ∧ up = (s.2.2.2 li).2.2.1 * inS (s.2.2.2 li).2.2.2 (s.2.2.2 li).2.2.1) ∨ (sl = 1 ∧ up = slS (s.2.2.2 li).2.2.2 (s.2.2.2 li).2.2.1)) → WM G X 0 0 (bM X (PoL G (fun r M' => r = (oBest s li sl p).2 ∧ FL (sI M md 6 (oBest s li sl p).1) M' md)) 0 0 G) Mg 74 [(0, .ref md), (1, .int (iI li)), (2, .int (iI sl)), (3, .int (iI p))] [.long (lI up)] := by
          intro up hup
          refine r_lstore B (lv' := [(4, .long (lI up)), (0, .ref md), (1, .int (iI li)), (2, .int (iI sl)), (3, .int (iI p))]) dX6_best_74 (by decide) rfl ?_
          refine r_iload_n B 3 dX6_best_76 rfl ?_
          have J6 : ∀ dn : Int, ((sl = 0 ∧ dn = (s.2.2.2 li).2.2.1 * dnS (s.2.2.2 li).2.2.1) ∨ (sl = 1 ∧ dn = dnS (s.2.2.2 li).2.2.1)) → WM G X 0 0 (bM X (PoL G (fun r M' => r = (oBest s li sl p).2 ∧ FL (sI M md 6 (oBest s li sl p).1) M' md)) 0 0 G) Mg 91 [(4, .long (lI up)), (0, .ref md), (1, .int (iI li)), (2, .int (iI sl)), (3, .int (iI p))] [.long (lI dn)] := by
            intro dn hdn
            have hub : -1200000000 ≤ up ∧ up ≤ 1200000000 := by rcases hup with w | w <;> omega
            have hdnb : 1 ≤ dn ∧ dn ≤ 100000 := by rcases hdn with w | w <;> omega
            have hgc : 1 ≤ ((Int.gcd up dn : Nat) : Int) := by have w : Int.gcd up dn ≠ 0 := (fun q => by have w2 := (Int.gcd_eq_zero_iff.mp q).2; omega); omega
            have hgd : ((Int.gcd up dn : Nat) : Int) ≤ dn := by have w := Nat.le_of_dvd (by omega) (Int.gcd_dvd_natAbs_right up dn); omega
            have hsh := short (n := (s.2.2.2 li).2.2.1) (u := inS (s.2.2.2 li).2.2.2 (s.2.2.2 li).2.2.1) (d := dnS (s.2.2.2 li).2.2.1) (by omega) (by omega)
            have hg0 : max 1 ((Int.gcd (bnS s li sl) (dnS (s.2.2.2 li).2.2.1) : Nat) : Int) = ((Int.gcd (bnS s li sl) (dnS (s.2.2.2 li).2.2.1) : Nat) : Int) := by have w : Int.gcd (bnS s li sl) (dnS (s.2.2.2 li).2.2.1) ≠ 0 := (fun q => by have w2 := (Int.gcd_eq_zero_iff.mp q).2; omega); omega
            refine r_lstore B (lv' := [(6, .long (lI dn)), (4, .long (lI up)), (0, .ref md), (1, .int (iI li)), (2, .int (iI sl)), (3, .int (iI p))]) dX6_best_91 (by decide) rfl ?_
            refine r_lload B 1 dX6_best_93 rfl ?_
            refine r_lload B 0 dX6_best_95 rfl ?_
            refine r_pSl2 B (c_X6_divisor l G Mg  up dn (by omega) (by omega) (by omega) (by omega)) ⟨rfl, rfl⟩ ok_X6_divisor q_1221 q_1220 ⟨Nat.le_of_ble_eq_true rfl, Nat.le_of_ble_eq_true rfl, Nat.le_of_ble_eq_true rfl⟩ ⟨Nat.le_of_ble_eq_true rfl, Nat.le_of_ble_eq_true rfl⟩ dX6_best_97 ?_
            refine r_lstore B (lv' := [(8, .long (lI ((Int.gcd up dn : Nat) : Int))), (6, .long (lI dn)), (4, .long (lI up)), (0, .ref md), (1, .int (iI li)), (2, .int (iI sl)), (3, .int (iI p))]) dX6_best_100 (by decide) rfl ?_
            refine r_iload_n B 6 dX6_best_102 rfl ?_
            refine r_if_ne B dX6_best_103 rfl ⟨by omega, by omega⟩ (fun h7 => ?_) (fun h7 => ?_)
            · refine r_lload B 1 dX6_best_114 rfl ?_
              refine r_lload B 0 dX6_best_116 rfl ?_
              refine r_ldiv B dX6_best_118 ⟨by omega, by omega⟩ ⟨by omega, by omega⟩ (by omega) ?_
              have ho : oBest s li sl p = (0, dn.tdiv ((Int.gcd up dn : Nat) : Int)) := by unfold oBest; rw [if_neg (by omega), if_neg (by omega), if_neg (by omega), if_neg (by omega), hg0]; rcases hup with ⟨w1, w2⟩ | ⟨w1, w2⟩ <;> rcases hdn with ⟨y1, y2⟩ | ⟨y1, y2⟩; rw [w2, y2, hsh.2]; unfold bnS; rw [if_pos w1]; omega; omega; rw [w2, y2]; unfold bnS; rw [if_neg (by omega)]
              exact r_lret B dX6_best_119 ⟨by rw [ho], by rw [ho, ← eM4]; exact hF_Mg⟩
            · refine r_lload B 2 dX6_best_106 rfl ?_
              refine r_lload B 0 dX6_best_108 rfl ?_
              refine r_ldiv B dX6_best_110 ⟨by omega, by omega⟩ ⟨by omega, by omega⟩ (by omega) ?_
              refine r_goto B dX6_best_111 rfl ?_
              have ho : oBest s li sl p = (0, up.tdiv ((Int.gcd up dn : Nat) : Int)) := by unfold oBest; rw [if_neg (by omega), if_neg (by omega), if_neg (by omega), if_pos (by omega), hg0]; rcases hup with ⟨w1, w2⟩ | ⟨w1, w2⟩ <;> rcases hdn with ⟨y1, y2⟩ | ⟨y1, y2⟩; rw [w2, y2, hsh.1]; unfold bnS; rw [if_pos w1]; omega; omega; rw [w2, y2]; unfold bnS; rw [if_neg (by omega)]
              exact r_lret B dX6_best_119 ⟨by rw [ho], by rw [ho, ← eM4]; exact hF_Mg⟩
          refine r_if_eq B dX6_best_77 rfl ⟨by omega, by omega⟩ (fun h8 => ?_) (fun h8 => ?_)
          · refine r_aload_n B 1 dX6_best_87 rfl ?_
            refine rg6_atDown B hM.1 q_902 dX6_best_88 ?_
            refine r_vl (y := (s.2.2.2 li).2.2.1 * dnS (s.2.2.2 li).2.2.1) e10 ?_
            exact J6 _ (Or.inl ⟨h8, rfl⟩)
          · refine r_aload_n B 1 dX6_best_80 rfl ?_
            refine rg6_slopeDown B hM.1 q_900 dX6_best_81 ?_
            refine r_vl (y := dnS (s.2.2.2 li).2.2.1) e8 ?_
            refine r_goto B dX6_best_84 rfl ?_
            exact J6 _ (Or.inr ⟨by omega, rfl⟩)
        refine r_if_eq B dX6_best_60 rfl ⟨by omega, by omega⟩ (fun h9 => ?_) (fun h9 => ?_)
        · refine r_aload_n B 0 dX6_best_70 rfl ?_
          refine rg6_atUp B hM.1 q_901 dX6_best_71 ?_
          refine r_vl (y := (s.2.2.2 li).2.2.1 * inS (s.2.2.2 li).2.2.2 (s.2.2.2 li).2.2.1) e9 ?_
          exact J5 _ (Or.inl ⟨h9, rfl⟩)
        · refine r_aload_n B 0 dX6_best_63 rfl ?_
          refine rg6_slopeUp B hM.1 q_899 dX6_best_64 ?_
          refine r_vl (y := slS (s.2.2.2 li).2.2.2 (s.2.2.2 li).2.2.1) e7 ?_
          refine r_goto B dX6_best_67 rfl ?_
          exact J5 _ (Or.inr ⟨by omega, rfl⟩)
      · refine r_aload_n B 0 dX6_best_42 rfl ?_
        refine r_iconst B dX6_best_43 ?_
        refine r_Vi1 B (c_X6_fails l G M md hM 3) ⟨rfl, rfl⟩ ok_X6_fails vi_X6_fails q_964 hM.1 rfl (fun _ => rfl) ⟨Nat.le_of_ble_eq_true rfl, Nat.le_of_ble_eq_true rfl, Nat.le_of_ble_eq_true rfl⟩ ⟨Nat.le_of_ble_eq_true rfl, Nat.le_of_ble_eq_true rfl⟩ dX6_best_44 (fun rf Mf hff => ?_)
        obtain ⟨hf1, hf2⟩ := hff
        rw [hf1, hf2]
        clear hf1 hf2
        refine r_i2l B dX6_best_47 ⟨by omega, by omega⟩ ?_
        have ho : oBest s li sl p = (3, 0) := by unfold oBest; rw [if_neg (by omega), if_neg (by omega), if_pos (by omega)]
        exact r_lret B dX6_best_48 ⟨by rw [ho], by rw [ho]; exact FL.rf⟩
    · have q_h2 := inF_0 h2
      refine r_aload_n B 0 dX6_best_25 rfl ?_
      refine r_iconst B dX6_best_26 ?_
      refine r_Vi1 B (c_X6_fails l G M md hM 2) ⟨rfl, rfl⟩ ok_X6_fails vi_X6_fails q_964 hM.1 rfl (fun _ => rfl) ⟨Nat.le_of_ble_eq_true rfl, Nat.le_of_ble_eq_true rfl, Nat.le_of_ble_eq_true rfl⟩ ⟨Nat.le_of_ble_eq_true rfl, Nat.le_of_ble_eq_true rfl⟩ dX6_best_27 (fun rf Mf hff => ?_)
      obtain ⟨hf1, hf2⟩ := hff
      rw [hf1, hf2]
      clear hf1 hf2
      refine r_i2l B dX6_best_30 ⟨by omega, by omega⟩ ?_
      have ho : oBest s li sl p = (2, 0) := by unfold oBest; rw [if_neg (by omega), if_pos (by omega)]
      exact r_lret B dX6_best_31 ⟨by rw [ho], by rw [ho]; exact FL.rf⟩
  · have q_h1 := inF_0 h1
    refine r_aload_n B 0 dX6_best_8 rfl ?_
    refine r_iconst B dX6_best_9 ?_
    refine r_Vi1 B (c_X6_fails l G M md hM 1) ⟨rfl, rfl⟩ ok_X6_fails vi_X6_fails q_964 hM.1 rfl (fun _ => rfl) ⟨Nat.le_of_ble_eq_true rfl, Nat.le_of_ble_eq_true rfl, Nat.le_of_ble_eq_true rfl⟩ ⟨Nat.le_of_ble_eq_true rfl, Nat.le_of_ble_eq_true rfl⟩ dX6_best_10 (fun rf Mf hff => ?_)
    obtain ⟨hf1, hf2⟩ := hff
    rw [hf1, hf2]
    clear hf1 hf2
    refine r_i2l B dX6_best_13 ⟨by omega, by omega⟩ ?_
    have ho : oBest s li sl p = (1, 0) := by unfold oBest; rw [if_pos (by omega)]
    exact r_lret B dX6_best_14 ⟨by rw [ho], by rw [ho]; exact FL.rf⟩
