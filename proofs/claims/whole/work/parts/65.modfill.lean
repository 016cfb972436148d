set_option maxRecDepth 100000 in
set_option maxHeartbeats 4000000 in
theorem c_X6_longOf_r (l : Launch) (G : Gs) (M : Mem) (md : Nat) (hM : IsMd G md) (ge se z : Int) (h0 : 0 ≤ ge) (h1 : ge < 6) (s0 : 0 ≤ se) (s1 : se < 3) (hz : gI M (md + 1) (1 + 95 * ge) = z) (z0 : 0 ≤ z) (z1 : z ≤ 30) : Ct l G yX6_longOf cX6_longOf 3 (some .int) rm_X6_longOf [.ref md, .int (iI ge), .int (iI se)] M (PoI G (Rd (szS z se) M)) 0 0 := by
  refine Ct.of (by decide +kernel) (Nat.le_of_ble_eq_true rfl) [(0, .ref md), (1, .int (iI ge)), (2, .int (iI se))] rfl ?_
  intro X B
  refine r_iload_n B 2 dX6_longOf_0 rfl ?_
  refine r_iconst B dX6_longOf_1 ?_
  refine r_icmp_ne B dX6_longOf_2 rfl ⟨by omega, by omega⟩ ⟨by omega, by omega⟩ (fun h1 => ?_) (fun h1 => ?_)
  · refine r_aload_n B 0 dX6_longOf_13 rfl ?_
    refine r_iload_n B 1 dX6_longOf_14 rfl ?_
    refine r_pVi1 B (c_X6_teeth l G M md hM ge (by omega) (by omega)) ⟨rfl, rfl⟩ ok_X6_teeth vi_X6_teeth q_1013 hM.1 rfl (fun _ => rfl) ⟨Nat.le_of_ble_eq_true rfl, Nat.le_of_ble_eq_true rfl, Nat.le_of_ble_eq_true rfl⟩ ⟨Nat.le_of_ble_eq_true rfl, Nat.le_of_ble_eq_true rfl⟩ dX6_longOf_15 ?_
    refine r_vi (y := z) hz ?_
    refine r_iconst B dX6_longOf_18 ?_
    refine r_iadd B dX6_longOf_19 ?_
    exact r_iret B dX6_longOf_20 ⟨by unfold szS; rw [if_neg h1], rfl⟩
  · refine r_aload_n B 0 dX6_longOf_5 rfl ?_
    refine r_iload_n B 1 dX6_longOf_6 rfl ?_
    refine r_pVi1 B (c_X6_teeth l G M md hM ge (by omega) (by omega)) ⟨rfl, rfl⟩ ok_X6_teeth vi_X6_teeth q_1013 hM.1 rfl (fun _ => rfl) ⟨Nat.le_of_ble_eq_true rfl, Nat.le_of_ble_eq_true rfl, Nat.le_of_ble_eq_true rfl⟩ ⟨Nat.le_of_ble_eq_true rfl, Nat.le_of_ble_eq_true rfl⟩ dX6_longOf_7 ?_
    refine r_vi (y := z) hz ?_
    refine r_goto B dX6_longOf_10 rfl ?_
    exact r_iret B dX6_longOf_20 ⟨by unfold szS; rw [if_pos h1], rfl⟩

set_option maxRecDepth 100000 in
set_option maxHeartbeats 4000000 in
theorem c_X6_fill (l : Launch) (G : Gs) (M : Mem) (md : Nat) (hM : IsMd G md) (s : Ast) (cn : Int) (sv : Int → Ast) (hmg : MdG M md (s, cn, sv)) (hbk : GgOk (s, cn, sv)) (ge sd sp : Int) (hge : In32 ge) (hsd : In32 sd) (hsp : In32 sp) : Ct l G yX6_fill cX6_fill 8 (some .int) rm_X6_fill [.ref md, .int (iI ge), .int (iI sd), .int (iI sp)] M (PoI G (fun r M' => r = (oFill s ge sd sp).2.1 ∧ gI M' md 6 = (oFill s ge sd sp).1 ∧ MdG M' md (if (oFill s ge sd sp).1 = 0 then ((oFill s ge sd sp).2.2, (savG (s, cn, sv)).2) else (s, cn, sv)) ∧ MdF M M' md)) 0 0 := by
  refine Ct.of (by decide +kernel) (Nat.le_of_ble_eq_true rfl) [(0, .ref md), (1, .int (iI ge)), (2, .int (iI sd)), (3, .int (iI sp))] rfl ?_
  intro X B
  have hS_M : MdS M md s := hmg.1
  have hok : StateOk s := hbk.1
  have hF_M : FL M M md := FL.rf
  have hc0 : 0 ≤ cn := hbk.2.1
  have hc4 : cn ≤ 4 := hbk.2.2.1
  have hs1 := hok.1
  have hs2 := hok.2.1
  have hs3 := hok.2.2.1
  have hs4 := hok.2.2.2.1
  obtain ⟨hge1, hge2⟩ := hge
  obtain ⟨hsd1, hsd2⟩ := hsd
  obtain ⟨hsp1, hsp2⟩ := hsp
  have i1 := inF_in ge 0 (s.1 - 1)
  have i2 := inF_in sd 0 999999
  have i3 := inF_in sp 0 5000
  refine r_aload_n B 0 dX6_fill_0 rfl ?_
  refine r_iload_n B 1 dX6_fill_1 rfl ?_
  refine r_pVz1 B (c_X6_isGear l G M md hM s hS_M hok ge ⟨by omega, by omega⟩) ⟨rfl, rfl⟩ ok_X6_isGear vi_X6_isGear q_988 hM.1 rfl (fun _ => rfl) ⟨Nat.le_of_ble_eq_true rfl, Nat.le_of_ble_eq_true rfl, Nat.le_of_ble_eq_true rfl⟩ ⟨Nat.le_of_ble_eq_true rfl, Nat.le_of_ble_eq_true rfl⟩ dX6_fill_2 ?_
  refine r_if_ne B dX6_fill_5 rfl ⟨by omega, by omega⟩ (fun h1 => ?_) (fun h1 => ?_)
  · have q_h1 := inF_1 h1
    have hgk := hok.2.2.2.2.1 ge (by omega) (by omega)
    obtain ⟨hgk1, hgk2, hgk3, hgk4, hgk5⟩ := id hgk
    refine r_iload_n B 2 dX6_fill_14 rfl ?_
    refine r_i2l B dX6_fill_15 ⟨by omega, by omega⟩ ?_
    refine r_lconst0 B dX6_fill_16 ?_
    refine r_ldc2 B (z := 999999) dX6_fill_17 q_1033 (by decide) ?_
    refine r_pSz3 B (c_X6_in l G M  sd 0 999999 ⟨by omega, by omega⟩ ⟨by omega, by omega⟩ ⟨by omega, by omega⟩) ⟨rfl, rfl⟩ ok_X6_in q_961 q_960 ⟨Nat.le_of_ble_eq_true rfl, Nat.le_of_ble_eq_true rfl, Nat.le_of_ble_eq_true rfl⟩ ⟨Nat.le_of_ble_eq_true rfl, Nat.le_of_ble_eq_true rfl⟩ dX6_fill_20 ?_
    refine r_if_eq B dX6_fill_23 rfl ⟨by omega, by omega⟩ (fun h2 => ?_) (fun h2 => ?_)
    · have q_h2 := inF_0 h2
      refine r_aload_n B 0 dX6_fill_38 rfl ?_
      refine r_iconst B dX6_fill_39 ?_
      refine r_Vi1 B (c_X6_fails l G M md hM 2) ⟨rfl, rfl⟩ ok_X6_fails vi_X6_fails q_964 hM.1 rfl (fun _ => rfl) ⟨Nat.le_of_ble_eq_true rfl, Nat.le_of_ble_eq_true rfl, Nat.le_of_ble_eq_true rfl⟩ ⟨Nat.le_of_ble_eq_true rfl, Nat.le_of_ble_eq_true rfl⟩ dX6_fill_40 (fun rf Mf hff => ?_)
      obtain ⟨hf1, hf2⟩ := hff
      rw [hf1, hf2]
      clear hf1 hf2
      have ho : oFill s ge sd sp = (2, 0, s) := by unfold oFill; rw [if_neg (by omega), if_pos (by omega)]
      exact r_iret B dX6_fill_43 ⟨by rw [ho], by rw [ho]; exact gI_eq, by rw [ho, if_neg (show ¬ (2 : Int) = 0 by decide)]; exact (MdG.fail hmg).1, (MdG.fail hmg).2⟩
    · have q_h2 := inF_1 h2
      refine r_iload_n B 3 dX6_fill_26 rfl ?_
      refine r_i2l B dX6_fill_27 ⟨by omega, by omega⟩ ?_
      refine r_lconst0 B dX6_fill_28 ?_
      refine r_ldc2 B (z := 5000) dX6_fill_29 q_1021 (by decide) ?_
      refine r_pSz3 B (c_X6_in l G M  sp 0 5000 ⟨by omega, by omega⟩ ⟨by omega, by omega⟩ ⟨by omega, by omega⟩) ⟨rfl, rfl⟩ ok_X6_in q_961 q_960 ⟨Nat.le_of_ble_eq_true rfl, Nat.le_of_ble_eq_true rfl, Nat.le_of_ble_eq_true rfl⟩ ⟨Nat.le_of_ble_eq_true rfl, Nat.le_of_ble_eq_true rfl⟩ dX6_fill_32 ?_
      refine r_if_ne B dX6_fill_35 rfl ⟨by omega, by omega⟩ (fun h3 => ?_) (fun h3 => ?_)
      · have q_h3 := inF_1 h3
        refine r_aload_n B 0 dX6_fill_44 rfl ?_
        refine r_Vv0 B (c_X6_hold l G M md hM) ⟨rfl, rfl⟩ ok_X6_hold vi_X6_hold q_968 hM.1 rfl (fun _ => rfl) ⟨Nat.le_of_ble_eq_true rfl, Nat.le_of_ble_eq_true rfl, Nat.le_of_ble_eq_true rfl⟩ ⟨Nat.le_of_ble_eq_true rfl, Nat.le_of_ble_eq_true rfl⟩ dX6_fill_45 (fun Mh hh => ?_)
        have hS_Mh : MdS Mh md s := by unfold MdS; rw [(hh.2 (md + 1) (by omega)).1]; exact hS_M
        have hAs : RowS (gI Mh (md + 3)) s := hS_M.congr hok (fun k p q => hh.1 k p q)
        refine r_iload_n B 2 dX6_fill_48 rfl ?_
        refine r_i2l B dX6_fill_49 ⟨by omega, by omega⟩ ?_
        refine r_lstore B (lv' := [(4, .long (lI sd)), (0, .ref md), (1, .int (iI ge)), (2, .int (iI sd)), (3, .int (iI sp))]) dX6_fill_50 (by decide) rfl ?_
        refine r_iconst B dX6_fill_52 ?_
        refine r_istore B (lv' := [(6, .int (iI 0)), (4, .long (lI sd)), (0, .ref md), (1, .int (iI ge)), (2, .int (iI sd)), (3, .int (iI sp))]) dX6_fill_53 (by decide) rfl ?_
        have lp4 : ∀ (nlp4 : Nat) (i : Int) (xs : Int) (Mc : Mem) (hi0 : 0 ≤ i) (hi1 : i ≤ 3) (hsv : i < 3 → xs = lcgN sd (fiP (s.2.2.1 ge).1 i 0).toNat) (hs0 : 0 ≤ xs) (hs1 : xs < 2147483648) (h0 : gI Mc (md + 1) (1 + 95 * ge) = (s.2.2.1 ge).1) (hz : ∀ t k : Int, 0 ≤ t → t < i → 0 ≤ k → k < szS (s.2.2.1 ge).1 t → gI Mc (md + 1) (1 + 95 * ge + 2 + 31 * t + k) = fiV sd sp (s.2.2.1 ge).1 t k) (hu : ∀ q : Int, (q < 1 + 95 * ge + 2 ∨ 1 + 95 * ge + 95 ≤ q) → gI Mc (md + 1) q = gI Mh (md + 1) q) (hf : ∀ d : Nat, d ≠ md + 1 → Same Mh Mc d), (3 - i).toNat < nlp4 → WM G X 0 0 (bM X (PoI G (fun r M' => r = (oFill s ge sd sp).2.1 ∧ gI M' md 6 = (oFill s ge sd sp).1 ∧ MdG M' md (if (oFill s ge sd sp).1 = 0 then ((oFill s ge sd sp).2.2, (savG (s, cn, sv)).2) else (s, cn, sv)) ∧ MdF M M' md)) 0 0 G) Mc 55 [(0, .ref md), (1, .int (iI ge)), (2, .int (iI sd)), (3, .int (iI sp)), (4, .long (lI xs)), (6, .int (iI i))] [] := by
          intro nlp4
          induction nlp4 with
          | zero => intro i xs Mc hi0 hi1 hsv hs0 hs1 h0 hz hu hf hm; omega
          | succ nlp4 ihlp4 =>
            intro i xs Mc hi0 hi1 hsv hs0 hs1 h0 hz hu hf hm
            refine r_iload B 5 dX6_fill_55 rfl ?_
            refine r_iconst B dX6_fill_57 ?_
            refine r_icmp_ge B dX6_fill_58 rfl ⟨by omega, by omega⟩ ⟨by omega, by omega⟩ (fun h5 => ?_) (fun h5 => ?_)
            · have hi3 : i = 3 := by omega
              have hS2_Mw : MdS Mc md (putG s ge (fiV sd sp (s.2.2.1 ge).1)) := RowS.w_putG hS_Mh hok (i := ge) (by omega) (by omega) (fun t k t0 t1 k0 k1 => hz t k t0 (by omega) k0 k1) (fun k p q w => hu k w)
              have hwf := hf
              have hgo : GearOk (s.2.2.1 ge).1 (s.2.2.1 ge).2.1 (fiV sd sp (s.2.2.1 ge).1) := ⟨hgk1, hgk2, hgk3, hgk4, fun t j _ _ _ _ => by have w := fiV_in (seed := sd) (sp := sp) (z := (s.2.2.1 ge).1) (s := t) (k := j) (by omega); omega⟩
              have hok2 : StateOk (putG s ge (fiV sd sp (s.2.2.1 ge).1)) := StateOk.gear hok (g := ge) (q := ((s.2.2.1 ge).1, (s.2.2.1 ge).2.1, fiV sd sp (s.2.2.1 ge).1)) hgo
              have hpg : ((putG s ge (fiV sd sp (s.2.2.1 ge).1))).2.2.1 ge = ((s.2.2.1 ge).1, (s.2.2.1 ge).2.1, fiV sd sp (s.2.2.1 ge).1) := upF_eq
              refine r_aload_n B 0 dX6_fill_135 rfl ?_
              refine r_aload_n B 0 dX6_fill_136 rfl ?_
              refine r_iload_n B 1 dX6_fill_137 rfl ?_
              refine r_iconst B dX6_fill_138 ?_
              refine r_pVi2 B (c_X6_closing l G Mc md hM (putG s ge (fiV sd sp (s.2.2.1 ge).1)) hS2_Mw hok2 ge 0 (by omega) (by show ge < s.1; omega) (by omega) (by omega)) ⟨rfl, rfl⟩ ok_X6_closing vi_X6_closing q_1038 hM.1 rfl (fun _ => rfl) ⟨Nat.le_of_ble_eq_true rfl, Nat.le_of_ble_eq_true rfl, Nat.le_of_ble_eq_true rfl⟩ ⟨Nat.le_of_ble_eq_true rfl, Nat.le_of_ble_eq_true rfl⟩ dX6_fill_139 ?_
              refine r_vi (y := fiV sd sp (s.2.2.1 ge).1 0 (s.2.2.1 ge).1 - fiV sd sp (s.2.2.1 ge).1 0 0) (by rw [hpg]) ?_
              refine r_Vi1 B (c_X6_ends l G Mc md hM s cn sv (by rw [(hwf md (by omega)).1, (hh.2 md (by omega)).1]; exact hmg.2.1) (by rw [(hwf (md + 2) (by omega)).1, (hh.2 (md + 2) (by omega)).1]; exact hmg.2.2) (by rw [(hwf (md + 3) (by omega)).1]; exact hAs) hbk (fiV sd sp (s.2.2.1 ge).1 0 (s.2.2.1 ge).1 - fiV sd sp (s.2.2.1 ge).1 0 0)) ⟨rfl, rfl⟩ ok_X6_ends vi_X6_ends q_976 hM.1 rfl (fun _ => rfl) ⟨Nat.le_of_ble_eq_true rfl, Nat.le_of_ble_eq_true rfl, Nat.le_of_ble_eq_true rfl⟩ ⟨Nat.le_of_ble_eq_true rfl, Nat.le_of_ble_eq_true rfl⟩ dX6_fill_142 (fun re Me hen => ?_)
              obtain ⟨hev, he6, he3, hesr, hesm, he5⟩ := hen
              rw [hev]
              clear hev
              have hfin := MdG.fin hh.2 hwf hS2_Mw he3 hesr hesm he5
              have ho : oFill s ge sd sp = (0, fiV sd sp (s.2.2.1 ge).1 0 (s.2.2.1 ge).1 - fiV sd sp (s.2.2.1 ge).1 0 0, (putG s ge (fiV sd sp (s.2.2.1 ge).1))) := by unfold oFill; rw [if_neg (by omega), if_neg (by omega)]
              exact r_iret B dX6_fill_145 ⟨by rw [ho], by rw [ho]; exact he6, by rw [ho, if_pos rfl]; exact hfin.1, hfin.2⟩
            · refine r_iconst B dX6_fill_61 ?_
              refine r_istore B (lv' := [(7, .int (iI 0)), (0, .ref md), (1, .int (iI ge)), (2, .int (iI sd)), (3, .int (iI sp)), (4, .long (lI xs)), (6, .int (iI i))]) dX6_fill_62 (by decide) rfl ?_
              have lp6 : ∀ (nlp6 : Nat) (j : Int) (xs : Int) (Md : Mem) (hj0 : 0 ≤ j) (hj1 : j ≤ szS (s.2.2.1 ge).1 i) (hsv : xs = lcgN sd (fiP (s.2.2.1 ge).1 i j).toNat) (hs0 : 0 ≤ xs) (hs1 : xs < 2147483648) (h0 : gI Md (md + 1) (1 + 95 * ge) = (s.2.2.1 ge).1) (hz : ∀ t k : Int, 0 ≤ t → t < i → 0 ≤ k → k < szS (s.2.2.1 ge).1 t → gI Md (md + 1) (1 + 95 * ge + 2 + 31 * t + k) = fiV sd sp (s.2.2.1 ge).1 t k) (hj : ∀ k : Int, 0 ≤ k → k < j → gI Md (md + 1) (1 + 95 * ge + 2 + 31 * i + k) = fiV sd sp (s.2.2.1 ge).1 i k) (hu : ∀ q : Int, (q < 1 + 95 * ge + 2 ∨ 1 + 95 * ge + 95 ≤ q) → gI Md (md + 1) q = gI Mh (md + 1) q) (hf : ∀ d : Nat, d ≠ md + 1 → Same Mh Md d), (40 - j).toNat < nlp6 → WM G X 0 0 (bM X (PoI G (fun r M' => r = (oFill s ge sd sp).2.1 ∧ gI M' md 6 = (oFill s ge sd sp).1 ∧ MdG M' md (if (oFill s ge sd sp).1 = 0 then ((oFill s ge sd sp).2.2, (savG (s, cn, sv)).2) else (s, cn, sv)) ∧ MdF M M' md)) 0 0 G) Md 64 [(0, .ref md), (1, .int (iI ge)), (2, .int (iI sd)), (3, .int (iI sp)), (4, .long (lI xs)), (6, .int (iI i)), (7, .int (iI j))] [] := by
                intro nlp6
                induction nlp6 with
                | zero => intro j xs Md hj0 hj1 hsv hs0 hs1 h0 hz hj hu hf hm; omega
                | succ nlp6 ihlp6 =>
                  intro j xs Md hj0 hj1 hsv hs0 hs1 h0 hz hj hu hf hm
                  have hsz := szS_le (s.2.2.1 ge).1 i
                  refine r_iload B 6 dX6_fill_64 rfl ?_
                  refine r_aload_n B 0 dX6_fill_66 rfl ?_
                  refine r_iload_n B 1 dX6_fill_67 rfl ?_
                  refine r_iload B 5 dX6_fill_68 rfl ?_
                  refine r_pVi2 B (c_X6_longOf_r l G Md md hM ge i (s.2.2.1 ge).1 (by omega) (by omega) (by omega) (by omega) h0 (by omega) (by omega)) ⟨rfl, rfl⟩ ok_X6_longOf vi_X6_longOf q_1009 hM.1 rfl (fun _ => rfl) ⟨Nat.le_of_ble_eq_true rfl, Nat.le_of_ble_eq_true rfl, Nat.le_of_ble_eq_true rfl⟩ ⟨Nat.le_of_ble_eq_true rfl, Nat.le_of_ble_eq_true rfl⟩ dX6_fill_70 ?_
                  refine r_icmp_ge B dX6_fill_73 rfl ⟨by omega, by omega⟩ ⟨by omega, by omega⟩ (fun h7 => ?_) (fun h7 => ?_)
                  · refine r_iinc B (lv' := [(6, .int (iI (i + 1))), (0, .ref md), (1, .int (iI ge)), (2, .int (iI sd)), (3, .int (iI sp)), (4, .long (lI xs)), (7, .int (iI j))]) dX6_fill_129 (j := 5) rfl (by decide) rfl ?_
                    refine r_goto B dX6_fill_132 rfl ?_
                    refine WM.pick [1, 2, 3, 4, 5, 0] rfl ?_
                    refine ihlp4 (i + 1) xs Md (by omega) (by omega) (fun q => by rw [fiP_n hi0 (by omega), hsv, show j = szS (s.2.2.1 ge).1 i by omega]) hs0 hs1 h0 ?_ hu hf (by omega)
                    · intro t k a b c d
                      rcases (show t < i ∨ t = i by omega) with q | q
                      · exact hz t k a q c d
                      · subst q; exact hj k c (by omega)
                  · have hl := lcg_in xs
                    have hmd := Int.emod_lt_of_pos (lcg xs / 65536) (show 0 < 2 * sp + 1 by omega)
                    have hmd0 := Int.emod_nonneg (lcg xs / 65536) (show 2 * sp + 1 ≠ 0 by omega)
                    refine r_ldc2 B (z := 1103515245) dX6_fill_76 q_1034 (by decide) ?_
                    refine r_lload B 4 dX6_fill_79 rfl ?_
                    refine r_lmul B dX6_fill_81 ?_
                    refine r_ldc2 B (z := 12345) dX6_fill_82 q_1035 (by decide) ?_
                    refine r_ladd B dX6_fill_85 ?_
                    refine r_ldc2 B (z := 2147483648) dX6_fill_86 q_1036 (by decide) ?_
                    refine r_lrem B dX6_fill_89 ⟨by omega, by omega⟩ ⟨by omega, by omega⟩ (by omega) ?_
                    refine r_vl (y := lcg xs) (Int.tmod_eq_emod_of_nonneg (by omega)) ?_
                    refine r_lstore B (lv' := [(4, .long (lI (lcg xs))), (0, .ref md), (1, .int (iI ge)), (2, .int (iI sd)), (3, .int (iI sp)), (6, .int (iI i)), (7, .int (iI j))]) dX6_fill_90 (by decide) rfl ?_
                    refine r_aload_n B 1 dX6_fill_92 rfl ?_
                    refine rg6_s B hM.1 q_892 dX6_fill_93 ?_
                    refine r_iload_n B 2 dX6_fill_96 rfl ?_
                    refine r_iload B 5 dX6_fill_97 rfl ?_
                    refine r_iload B 6 dX6_fill_99 rfl ?_
                    refine r_pSi3 B (c_X6_placeOf l G Md  ge i j ) ⟨rfl, rfl⟩ ok_X6_placeOf q_1027 q_1026 ⟨Nat.le_of_ble_eq_true rfl, Nat.le_of_ble_eq_true rfl, Nat.le_of_ble_eq_true rfl⟩ ⟨Nat.le_of_ble_eq_true rfl, Nat.le_of_ble_eq_true rfl⟩ dX6_fill_101 ?_
                    refine r_lload B 0 dX6_fill_104 rfl ?_
                    refine r_ldc2 B (z := 65536) dX6_fill_106 q_1037 (by decide) ?_
                    refine r_ldiv B dX6_fill_109 ⟨by omega, by omega⟩ ⟨by omega, by omega⟩ (by omega) ?_
                    refine r_vl (y := (lcg xs) / 65536) (Int.tdiv_eq_ediv_of_nonneg (by omega)) ?_
                    refine r_ldc2 B (z := 2) dX6_fill_110 q_1008 (by decide) ?_
                    refine r_iload_n B 4 dX6_fill_113 rfl ?_
                    refine r_i2l B dX6_fill_114 ⟨by omega, by omega⟩ ?_
                    refine r_lmul B dX6_fill_115 ?_
                    refine r_lconst1 B dX6_fill_116 ?_
                    refine r_ladd B dX6_fill_117 ?_
                    refine r_lrem B dX6_fill_118 ⟨by omega, by omega⟩ ⟨by omega, by omega⟩ (by omega) ?_
                    refine r_vl (y := (lcg xs) / 65536 % ((2 * sp) + 1)) (Int.tmod_eq_emod_of_nonneg (by omega)) ?_
                    refine r_l2i B dX6_fill_119 ?_
                    refine r_iload_n B 4 dX6_fill_120 rfl ?_
                    refine r_isub B dX6_fill_121 ?_
                    refine r_iastore B dX6_fill_122 hM.2.1 (by omega) (by omega) ?_
                    refine WM.nm (fun M8 eM8 => ?_)
                    refine r_iinc B (lv' := [(7, .int (iI (j + 1))), (4, .long (lI (lcg xs))), (0, .ref md), (1, .int (iI ge)), (2, .int (iI sd)), (3, .int (iI sp)), (6, .int (iI i))]) dX6_fill_123 (j := 6) rfl (by decide) rfl ?_
                    refine r_goto B dX6_fill_126 rfl ?_
                    refine WM.pick [2, 3, 4, 5, 1, 6, 0] rfl ?_
                    refine ihlp6 (j + 1) _ M8 (by omega) (by omega) (by rw [fiP_s, lcgN_s _ (fiP_nn (by omega) hi0 (by omega) hj0), ← hsv]) hl.1 hl.2 (by rw [eM8, gI_nk (by omega)]; exact h0) ?_ ?_ ?_ (fun d p => (hf d p).tr (by rw [eM8]; exact Same.sI p)) (by omega)
                    · intro t k a b c d
                      have w := szS_le (s.2.2.1 ge).1 t
                      rw [eM8, gI_nk (by omega)]; exact hz t k a b c d
                    · intro k a b
                      rw [eM8]
                      by_cases q : k = j
                      · rw [q, gI_eq, fiV, lcgN_s _ (fiP_nn (by omega) hi0 (by omega) hj0), ← hsv]
                      · rw [gI_nk (by omega)]; exact hj k a (by omega)
                    · intro q w
                      rw [eM8, gI_nk (by omega)]; exact hu q w
              refine WM.pick [1, 2, 3, 4, 5, 6, 0] rfl ?_
              exact lp6 _ 0 xs Mc (by omega) (by have := szS_le (s.2.2.1 ge).1 i; omega) (hsv (by omega)) hs0 hs1 h0 hz (fun k a b => absurd b (by omega)) hu hf (Nat.lt_succ_self _)
        refine WM.pick [2, 3, 4, 5, 1, 0] rfl ?_
        exact lp4 _ 0 sd Mh (by omega) (by omega) (fun _ => rfl) (by omega) (by omega) (hS_Mh.2.2.1 ge (by omega) (by omega)).1 (fun t k a b => absurd b (by omega)) (fun q w => rfl) (fun d p => Same.rf Mh d) (Nat.lt_succ_self _)
      · have q_h3 := inF_0 h3
        refine r_aload_n B 0 dX6_fill_38 rfl ?_
        refine r_iconst B dX6_fill_39 ?_
        refine r_Vi1 B (c_X6_fails l G M md hM 2) ⟨rfl, rfl⟩ ok_X6_fails vi_X6_fails q_964 hM.1 rfl (fun _ => rfl) ⟨Nat.le_of_ble_eq_true rfl, Nat.le_of_ble_eq_true rfl, Nat.le_of_ble_eq_true rfl⟩ ⟨Nat.le_of_ble_eq_true rfl, Nat.le_of_ble_eq_true rfl⟩ dX6_fill_40 (fun rf Mf hff => ?_)
        obtain ⟨hf1, hf2⟩ := hff
        rw [hf1, hf2]
        clear hf1 hf2
        have ho : oFill s ge sd sp = (2, 0, s) := by unfold oFill; rw [if_neg (by omega), if_pos (by omega)]
        exact r_iret B dX6_fill_43 ⟨by rw [ho], by rw [ho]; exact gI_eq, by rw [ho, if_neg (show ¬ (2 : Int) = 0 by decide)]; exact (MdG.fail hmg).1, (MdG.fail hmg).2⟩
  · have q_h1 := inF_0 h1
    refine r_aload_n B 0 dX6_fill_8 rfl ?_
    refine r_iconst B dX6_fill_9 ?_
    refine r_Vi1 B (c_X6_fails l G M md hM 1) ⟨rfl, rfl⟩ ok_X6_fails vi_X6_fails q_964 hM.1 rfl (fun _ => rfl) ⟨Nat.le_of_ble_eq_true rfl, Nat.le_of_ble_eq_true rfl, Nat.le_of_ble_eq_true rfl⟩ ⟨Nat.le_of_ble_eq_true rfl, Nat.le_of_ble_eq_true rfl⟩ dX6_fill_10 (fun rf Mf hff => ?_)
    obtain ⟨hf1, hf2⟩ := hff
    rw [hf1, hf2]
    clear hf1 hf2
    have ho : oFill s ge sd sp = (1, 0, s) := by unfold oFill; rw [if_pos (by omega)]
    exact r_iret B dX6_fill_13 ⟨by rw [ho], by rw [ho]; exact gI_eq, by rw [ho, if_neg (show ¬ (1 : Int) = 0 by decide)]; exact (MdG.fail hmg).1, (MdG.fail hmg).2⟩

set_option maxRecDepth 100000 in
set_option maxHeartbeats 4000000 in
theorem c_X6_goes (l : Launch) (G : Gs) (M : Mem) (md : Nat) (hM : IsMd G md) (s : Ast) (hok : StateOk s) (ge se k : Int) (h0g : 0 ≤ ge) (h1g : ge < s.1) (s0 : 0 ≤ se) (s1 : se < 3) (k0 : 0 ≤ k) (k1 : k < (s.2.2.1 ge).1) (hz : gI M (md + 1) (1 + 95 * ge) = (s.2.2.1 ge).1) (hAs : RowS (gI M (md + 3)) s) : Ct l G yX6_goes cX6_goes 10 (some .boolean) rm_X6_goes [.ref md, .int (iI ge), .int (iI se), .int (iI k)] M (PoI G (fun r M' => ((r = 1 ∧ (∀ q : Int, 0 ≤ q → q < szS (s.2.2.1 ge).1 se → -5000 ≤ trF (s.2.2.1 ge).1 (s.2.2.1 ge).2.2 k se q ∧ trF (s.2.2.1 ge).1 (s.2.2.1 ge).2.2 k se q ≤ 5000)) ∨ (r = 0 ∧ ¬ (∀ q : Int, 0 ≤ q → q < szS (s.2.2.1 ge).1 se → -5000 ≤ trF (s.2.2.1 ge).1 (s.2.2.1 ge).2.2 k se q ∧ trF (s.2.2.1 ge).1 (s.2.2.1 ge).2.2 k se q ≤ 5000))) ∧ (∀ q : Int, 0 ≤ q → q < szS (s.2.2.1 ge).1 se → gI M' (md + 1) (1 + 95 * ge + 2 + 31 * se + q) = trF (s.2.2.1 ge).1 (s.2.2.1 ge).2.2 k se q) ∧ (∀ q : Int, (q < 1 + 95 * ge + 2 + 31 * se ∨ 1 + 95 * ge + 2 + 31 * se + 31 ≤ q) → gI M' (md + 1) q = gI M (md + 1) q) ∧ ∀ d : Nat, d ≠ md + 1 → Same M M' d)) 0 0 := by
  refine Ct.of (by decide +kernel) (Nat.le_of_ble_eq_true rfl) [(0, .ref md), (1, .int (iI ge)), (2, .int (iI se)), (3, .int (iI k))] rfl ?_
  intro X B
  have hs1 := hok.1
  have hs2 := hok.2.1
  have hs3 := hok.2.2.1
  have hs4 := hok.2.2.2.1
  have hgk := hok.2.2.2.2.1 ge (by omega) (by omega)
  obtain ⟨hgk1, hgk2, hgk3, hgk4, hgk5⟩ := id hgk
  have hz2 := szS_le (s.2.2.1 ge).1 se
  have hA := fun (t k : Int) (t0 : 0 ≤ t) (t1 : t < 3) (k0 : 0 ≤ k) (k1 : k < szS (s.2.2.1 ge).1 t) => (hAs.2.2.1 ge (by omega) (by omega)).2.2 t k t0 t1 k0 k1
  refine r_aload_n B 0 dX6_goes_0 rfl ?_
  refine r_iload_n B 1 dX6_goes_1 rfl ?_
  refine r_pVi1 B (c_X6_teeth l G M md hM ge (by omega) (by omega)) ⟨rfl, rfl⟩ ok_X6_teeth vi_X6_teeth q_1013 hM.1 rfl (fun _ => rfl) ⟨Nat.le_of_ble_eq_true rfl, Nat.le_of_ble_eq_true rfl, Nat.le_of_ble_eq_true rfl⟩ ⟨Nat.le_of_ble_eq_true rfl, Nat.le_of_ble_eq_true rfl⟩ dX6_goes_2 ?_
  refine r_vi (y := (s.2.2.1 ge).1) hz ?_
  refine r_istore B (lv' := [(4, .int (iI ((s.2.2.1 ge).1))), (0, .ref md), (1, .int (iI ge)), (2, .int (iI se)), (3, .int (iI k))]) dX6_goes_5 (by decide) rfl ?_
  refine r_iload_n B 3 dX6_goes_7 rfl ?_
  refine r_iconst B dX6_goes_8 ?_
  have J1 : ∀ mo : Int, (mo = if se = 2 then 0 else (s.2.2.1 ge).2.2 se (s.2.2.1 ge).1 - (s.2.2.1 ge).2.2 se 0) → WM G X 0 0 (bM X (PoI G (fun r M' => ((r = 1 ∧ (∀ q : Int, 0 ≤ q → q < szS (s.2.2.1 ge).1 se → -5000 ≤ trF (s.2.2.1 ge).1 (s.2.2.1 ge).2.2 k se q ∧ trF (s.2.2.1 ge).1 (s.2.2.1 ge).2.2 k se q ≤ 5000)) ∨ (r = 0 ∧ ¬ (∀ q : Int, 0 ≤ q → q < szS (s.2.2.1 ge).1 se → -5000 ≤ trF (s.2.2.1 ge).1 (s.2.2.1 ge).2.2 k se q ∧ trF (s.2.2.1 ge).1 (s.2.2.1 ge).2.2 k se q ≤ 5000))) ∧ (∀ q : Int, 0 ≤ q → q < szS (s.2.2.1 ge).1 se → gI M' (md + 1) (1 + 95 * ge + 2 + 31 * se + q) = trF (s.2.2.1 ge).1 (s.2.2.1 ge).2.2 k se q) ∧ (∀ q : Int, (q < 1 + 95 * ge + 2 + 31 * se ∨ 1 + 95 * ge + 2 + 31 * se + 31 ≤ q) → gI M' (md + 1) q = gI M (md + 1) q) ∧ ∀ d : Nat, d ≠ md + 1 → Same M M' d)) 0 0 G) M 40 [(4, .int (iI ((s.2.2.1 ge).1))), (0, .ref md), (1, .int (iI ge)), (2, .int (iI se)), (3, .int (iI k))] [.int (iI mo)] := by
    intro mo hmo
    have hmb : -10000 ≤ mo ∧ mo ≤ 10000 := by rw [hmo]; split; omega; rename_i w; have a1 := hgk5 se (s.2.2.1 ge).1 (by omega) (by omega) (by omega) (by unfold szS; rw [if_neg w]; omega); have a2 := hgk5 se 0 (by omega) (by omega) (by omega) (by unfold szS; rw [if_neg w]; omega); omega
    refine r_istore B (lv' := [(5, .int (iI mo)), (4, .int (iI ((s.2.2.1 ge).1))), (0, .ref md), (1, .int (iI ge)), (2, .int (iI se)), (3, .int (iI k))]) dX6_goes_40 (by decide) rfl ?_
    refine r_iconst B dX6_goes_42 ?_
    refine r_istore B (lv' := [(6, .int (iI 1)), (5, .int (iI mo)), (4, .int (iI ((s.2.2.1 ge).1))), (0, .ref md), (1, .int (iI ge)), (2, .int (iI se)), (3, .int (iI k))]) dX6_goes_43 (by decide) rfl ?_
    refine r_iconst B dX6_goes_45 ?_
    refine r_istore B (lv' := [(7, .int (iI 0)), (6, .int (iI 1)), (5, .int (iI mo)), (4, .int (iI ((s.2.2.1 ge).1))), (0, .ref md), (1, .int (iI ge)), (2, .int (iI se)), (3, .int (iI k))]) dX6_goes_46 (by decide) rfl ?_
    have lp2 : ∀ (nlp2 : Nat) (i : Int) (is : Int) (Mc : Mem) (hi0 : 0 ≤ i) (hi1 : i ≤ szS (s.2.2.1 ge).1 se) (his : (is = 1 ∧ (∀ q : Int, 0 ≤ q → q < i → -5000 ≤ trF (s.2.2.1 ge).1 (s.2.2.1 ge).2.2 k se q ∧ trF (s.2.2.1 ge).1 (s.2.2.1 ge).2.2 k se q ≤ 5000)) ∨ (is = 0 ∧ ¬ (∀ q : Int, 0 ≤ q → q < i → -5000 ≤ trF (s.2.2.1 ge).1 (s.2.2.1 ge).2.2 k se q ∧ trF (s.2.2.1 ge).1 (s.2.2.1 ge).2.2 k se q ≤ 5000))) (h0 : gI Mc (md + 1) (1 + 95 * ge) = (s.2.2.1 ge).1) (hz1 : ∀ q : Int, 0 ≤ q → q < i → gI Mc (md + 1) (1 + 95 * ge + 2 + 31 * se + q) = trF (s.2.2.1 ge).1 (s.2.2.1 ge).2.2 k se q) (hu : ∀ q : Int, (q < 1 + 95 * ge + 2 + 31 * se ∨ 1 + 95 * ge + 2 + 31 * se + 31 ≤ q) → gI Mc (md + 1) q = gI M (md + 1) q) (hf : ∀ d : Nat, d ≠ md + 1 → Same M Mc d), (40 - i).toNat < nlp2 → WM G X 0 0 (bM X (PoI G (fun r M' => ((r = 1 ∧ (∀ q : Int, 0 ≤ q → q < szS (s.2.2.1 ge).1 se → -5000 ≤ trF (s.2.2.1 ge).1 (s.2.2.1 ge).2.2 k se q ∧ trF (s.2.2.1 ge).1 (s.2.2.1 ge).2.2 k se q ≤ 5000)) ∨ (r = 0 ∧ ¬ (∀ q : Int, 0 ≤ q → q < szS (s.2.2.1 ge).1 se → -5000 ≤ trF (s.2.2.1 ge).1 (s.2.2.1 ge).2.2 k se q ∧ trF (s.2.2.1 ge).1 (s.2.2.1 ge).2.2 k se q ≤ 5000))) ∧ (∀ q : Int, 0 ≤ q → q < szS (s.2.2.1 ge).1 se → gI M' (md + 1) (1 + 95 * ge + 2 + 31 * se + q) = trF (s.2.2.1 ge).1 (s.2.2.1 ge).2.2 k se q) ∧ (∀ q : Int, (q < 1 + 95 * ge + 2 + 31 * se ∨ 1 + 95 * ge + 2 + 31 * se + 31 ≤ q) → gI M' (md + 1) q = gI M (md + 1) q) ∧ ∀ d : Nat, d ≠ md + 1 → Same M M' d)) 0 0 G) Mc 48 [(0, .ref md), (1, .int (iI ge)), (2, .int (iI se)), (3, .int (iI k)), (4, .int (iI ((s.2.2.1 ge).1))), (5, .int (iI mo)), (6, .int (iI is)), (7, .int (iI i))] [] := by
      intro nlp2
      induction nlp2 with
      | zero => intro i is Mc hi0 hi1 his h0 hz1 hu hf hm; omega
      | succ nlp2 ihlp2 =>
        intro i is Mc hi0 hi1 his h0 hz1 hu hf hm
        refine r_iload B 7 dX6_goes_48 rfl ?_
        refine r_aload_n B 0 dX6_goes_50 rfl ?_
        refine r_iload_n B 1 dX6_goes_51 rfl ?_
        refine r_iload_n B 2 dX6_goes_52 rfl ?_
        refine r_pVi2 B (c_X6_longOf_r l G Mc md hM ge se (s.2.2.1 ge).1 (by omega) (by omega) (by omega) (by omega) h0 (by omega) (by omega)) ⟨rfl, rfl⟩ ok_X6_longOf vi_X6_longOf q_1009 hM.1 rfl (fun _ => rfl) ⟨Nat.le_of_ble_eq_true rfl, Nat.le_of_ble_eq_true rfl, Nat.le_of_ble_eq_true rfl⟩ ⟨Nat.le_of_ble_eq_true rfl, Nat.le_of_ble_eq_true rfl⟩ dX6_goes_53 ?_
        refine r_icmp_ge B dX6_goes_56 rfl ⟨by omega, by omega⟩ ⟨by omega, by omega⟩ (fun h3 => ?_) (fun h3 => ?_)
        · refine r_iload B 6 dX6_goes_148 rfl ?_
          exact r_zret B dX6_goes_150 (by omega) ⟨by rcases his with w | w; exact Or.inl ⟨w.1, fun q a b => w.2 q a (by omega)⟩; exact Or.inr ⟨w.1, fun q => w.2 (fun x a b => q x a (by omega))⟩, fun q a b => hz1 q a (by omega), fun q w => hu q w, hf⟩
        · have htr := trF_in hgk (k := k) k0 k1 s0 s1 hi0 (by omega : i < szS (s.2.2.1 ge).1 se)
          refine r_iload_n B 3 dX6_goes_59 rfl ?_
          refine r_iload B 7 dX6_goes_60 rfl ?_
          refine r_iadd B dX6_goes_62 ?_
          refine r_istore B (lv' := [(8, .int (iI (k + i))), (0, .ref md), (1, .int (iI ge)), (2, .int (iI se)), (3, .int (iI k)), (4, .int (iI ((s.2.2.1 ge).1))), (5, .int (iI mo)), (6, .int (iI is)), (7, .int (iI i))]) dX6_goes_63 (by decide) rfl ?_
          refine r_aload_n B 1 dX6_goes_65 rfl ?_
          refine rg6_aside B hM.1 q_894 dX6_goes_66 ?_
          refine r_iload_n B 2 dX6_goes_69 rfl ?_
          refine r_iload_n B 3 dX6_goes_70 rfl ?_
          refine r_iload B 0 dX6_goes_71 rfl ?_
          refine r_iload B 5 dX6_goes_73 rfl ?_
          have J4 : ∀ j : Int, ((k + i < (s.2.2.1 ge).1 ∧ j = k + i) ∨ ((s.2.2.1 ge).1 ≤ k + i ∧ j = k + i - (s.2.2.1 ge).1)) → WM G X 0 0 (bM X (PoI G (fun r M' => ((r = 1 ∧ (∀ q : Int, 0 ≤ q → q < szS (s.2.2.1 ge).1 se → -5000 ≤ trF (s.2.2.1 ge).1 (s.2.2.1 ge).2.2 k se q ∧ trF (s.2.2.1 ge).1 (s.2.2.1 ge).2.2 k se q ≤ 5000)) ∨ (r = 0 ∧ ¬ (∀ q : Int, 0 ≤ q → q < szS (s.2.2.1 ge).1 se → -5000 ≤ trF (s.2.2.1 ge).1 (s.2.2.1 ge).2.2 k se q ∧ trF (s.2.2.1 ge).1 (s.2.2.1 ge).2.2 k se q ≤ 5000))) ∧ (∀ q : Int, 0 ≤ q → q < szS (s.2.2.1 ge).1 se → gI M' (md + 1) (1 + 95 * ge + 2 + 31 * se + q) = trF (s.2.2.1 ge).1 (s.2.2.1 ge).2.2 k se q) ∧ (∀ q : Int, (q < 1 + 95 * ge + 2 + 31 * se ∨ 1 + 95 * ge + 2 + 31 * se + 31 ≤ q) → gI M' (md + 1) q = gI M (md + 1) q) ∧ ∀ d : Nat, d ≠ md + 1 → Same M M' d)) 0 0 G) Mc 88 [(8, .int (iI (k + i))), (0, .ref md), (1, .int (iI ge)), (2, .int (iI se)), (3, .int (iI k)), (4, .int (iI ((s.2.2.1 ge).1))), (5, .int (iI mo)), (6, .int (iI is)), (7, .int (iI i))] [.int (iI j), .int (iI se), .int (iI ge), .ref (md + 3)] := by
            intro j hj
            have hjb : 0 ≤ j ∧ j < szS (s.2.2.1 ge).1 se := by omega
            have hrj := hgk5 se j s0 s1 hjb.1 hjb.2
            refine r_pSi3 B (c_X6_placeOf l G Mc  ge se j ) ⟨rfl, rfl⟩ ok_X6_placeOf q_1027 q_1026 ⟨Nat.le_of_ble_eq_true rfl, Nat.le_of_ble_eq_true rfl, Nat.le_of_ble_eq_true rfl⟩ ⟨Nat.le_of_ble_eq_true rfl, Nat.le_of_ble_eq_true rfl⟩ dX6_goes_88 ?_
            refine r_iaload B dX6_goes_91 hM.2.2.2.1 (by omega) (by omega) ?_
            refine r_vi (y := (s.2.2.1 ge).2.2 se j) (by rw [(hf (md + 3) (by omega)).1]; exact hA se j (by omega) (by omega) (by omega) (by omega)) ?_
            refine r_iload B 0 dX6_goes_92 rfl ?_
            refine r_iload B 5 dX6_goes_94 rfl ?_
            have J5 : ∀ w2 : Int, ((k + i < (s.2.2.1 ge).1 ∧ w2 = 0) ∨ ((s.2.2.1 ge).1 ≤ k + i ∧ w2 = mo)) → WM G X 0 0 (bM X (PoI G (fun r M' => ((r = 1 ∧ (∀ q : Int, 0 ≤ q → q < szS (s.2.2.1 ge).1 se → -5000 ≤ trF (s.2.2.1 ge).1 (s.2.2.1 ge).2.2 k se q ∧ trF (s.2.2.1 ge).1 (s.2.2.1 ge).2.2 k se q ≤ 5000)) ∨ (r = 0 ∧ ¬ (∀ q : Int, 0 ≤ q → q < szS (s.2.2.1 ge).1 se → -5000 ≤ trF (s.2.2.1 ge).1 (s.2.2.1 ge).2.2 k se q ∧ trF (s.2.2.1 ge).1 (s.2.2.1 ge).2.2 k se q ≤ 5000))) ∧ (∀ q : Int, 0 ≤ q → q < szS (s.2.2.1 ge).1 se → gI M' (md + 1) (1 + 95 * ge + 2 + 31 * se + q) = trF (s.2.2.1 ge).1 (s.2.2.1 ge).2.2 k se q) ∧ (∀ q : Int, (q < 1 + 95 * ge + 2 + 31 * se ∨ 1 + 95 * ge + 2 + 31 * se + 31 ≤ q) → gI M' (md + 1) q = gI M (md + 1) q) ∧ ∀ d : Nat, d ≠ md + 1 → Same M M' d)) 0 0 G) Mc 105 [(8, .int (iI (k + i))), (0, .ref md), (1, .int (iI ge)), (2, .int (iI se)), (3, .int (iI k)), (4, .int (iI ((s.2.2.1 ge).1))), (5, .int (iI mo)), (6, .int (iI is)), (7, .int (iI i))] [.int (iI w2), .int (iI ((s.2.2.1 ge).2.2 se j))] := by
              intro w2 hw2
              refine r_iadd B dX6_goes_105 ?_
              have hval : (s.2.2.1 ge).2.2 se j + w2 = trF (s.2.2.1 ge).1 (s.2.2.1 ge).2.2 k se i := by unfold trF; by_cases q : (s.2.2.1 ge).1 ≤ k + i; rw [if_pos q, show j = k + i - (s.2.2.1 ge).1 by omega, show w2 = mo by omega, hmo]; rw [if_neg q, show j = k + i by omega, show w2 = 0 by omega]; omega
              refine r_vi (y := trF (s.2.2.1 ge).1 (s.2.2.1 ge).2.2 k se i) hval ?_
              have i5 := inF_in (trF (s.2.2.1 ge).1 (s.2.2.1 ge).2.2 k se i) (-5000) 5000
              have his01 : 0 ≤ is ∧ is ≤ 1 := by rcases his with w | w <;> omega
              refine r_istore B (lv' := [(9, .int (iI (trF (s.2.2.1 ge).1 (s.2.2.1 ge).2.2 k se i))), (8, .int (iI (k + i))), (0, .ref md), (1, .int (iI ge)), (2, .int (iI se)), (3, .int (iI k)), (4, .int (iI ((s.2.2.1 ge).1))), (5, .int (iI mo)), (6, .int (iI is)), (7, .int (iI i))]) dX6_goes_106 (by decide) rfl ?_
              refine r_aload_n B 2 dX6_goes_108 rfl ?_
              refine rg6_s B hM.1 q_892 dX6_goes_109 ?_
              refine r_iload_n B 3 dX6_goes_112 rfl ?_
              refine r_iload_n B 4 dX6_goes_113 rfl ?_
              refine r_iload B 9 dX6_goes_114 rfl ?_
              refine r_pSi3 B (c_X6_placeOf l G Mc  ge se i ) ⟨rfl, rfl⟩ ok_X6_placeOf q_1027 q_1026 ⟨Nat.le_of_ble_eq_true rfl, Nat.le_of_ble_eq_true rfl, Nat.le_of_ble_eq_true rfl⟩ ⟨Nat.le_of_ble_eq_true rfl, Nat.le_of_ble_eq_true rfl⟩ dX6_goes_116 ?_
              refine r_iload B 0 dX6_goes_119 rfl ?_
              refine r_iastore B dX6_goes_121 hM.2.1 (by omega) (by omega) ?_
              refine WM.nm (fun M6 eM6 => ?_)
              refine r_iload B 8 dX6_goes_122 rfl ?_
              have J7 : ∀ new : Int, ((new = 1 ∧ (∀ q : Int, 0 ≤ q → q < i + 1 → -5000 ≤ trF (s.2.2.1 ge).1 (s.2.2.1 ge).2.2 k se q ∧ trF (s.2.2.1 ge).1 (s.2.2.1 ge).2.2 k se q ≤ 5000)) ∨ (new = 0 ∧ ¬ (∀ q : Int, 0 ≤ q → q < i + 1 → -5000 ≤ trF (s.2.2.1 ge).1 (s.2.2.1 ge).2.2 k se q ∧ trF (s.2.2.1 ge).1 (s.2.2.1 ge).2.2 k se q ≤ 5000))) → WM G X 0 0 (bM X (PoI G (fun r M' => ((r = 1 ∧ (∀ q : Int, 0 ≤ q → q < szS (s.2.2.1 ge).1 se → -5000 ≤ trF (s.2.2.1 ge).1 (s.2.2.1 ge).2.2 k se q ∧ trF (s.2.2.1 ge).1 (s.2.2.1 ge).2.2 k se q ≤ 5000)) ∨ (r = 0 ∧ ¬ (∀ q : Int, 0 ≤ q → q < szS (s.2.2.1 ge).1 se → -5000 ≤ trF (s.2.2.1 ge).1 (s.2.2.1 ge).2.2 k se q ∧ trF (s.2.2.1 ge).1 (s.2.2.1 ge).2.2 k se q ≤ 5000))) ∧ (∀ q : Int, 0 ≤ q → q < szS (s.2.2.1 ge).1 se → gI M' (md + 1) (1 + 95 * ge + 2 + 31 * se + q) = trF (s.2.2.1 ge).1 (s.2.2.1 ge).2.2 k se q) ∧ (∀ q : Int, (q < 1 + 95 * ge + 2 + 31 * se ∨ 1 + 95 * ge + 2 + 31 * se + 31 ≤ q) → gI M' (md + 1) q = gI M (md + 1) q) ∧ ∀ d : Nat, d ≠ md + 1 → Same M M' d)) 0 0 G) M6 140 [(9, .int (iI (trF (s.2.2.1 ge).1 (s.2.2.1 ge).2.2 k se i))), (8, .int (iI (k + i))), (0, .ref md), (1, .int (iI ge)), (2, .int (iI se)), (3, .int (iI k)), (4, .int (iI ((s.2.2.1 ge).1))), (5, .int (iI mo)), (6, .int (iI is)), (7, .int (iI i))] [.int (iI new)] := by
                intro new hnew
                refine r_istore B (lv' := [(6, .int (iI new)), (9, .int (iI (trF (s.2.2.1 ge).1 (s.2.2.1 ge).2.2 k se i))), (8, .int (iI (k + i))), (0, .ref md), (1, .int (iI ge)), (2, .int (iI se)), (3, .int (iI k)), (4, .int (iI ((s.2.2.1 ge).1))), (5, .int (iI mo)), (7, .int (iI i))]) dX6_goes_140 (by decide) rfl ?_
                refine r_iinc B (lv' := [(7, .int (iI (i + 1))), (6, .int (iI new)), (9, .int (iI (trF (s.2.2.1 ge).1 (s.2.2.1 ge).2.2 k se i))), (8, .int (iI (k + i))), (0, .ref md), (1, .int (iI ge)), (2, .int (iI se)), (3, .int (iI k)), (4, .int (iI ((s.2.2.1 ge).1))), (5, .int (iI mo))]) dX6_goes_142 (j := 9) rfl (by decide) rfl ?_
                refine r_goto B dX6_goes_145 rfl ?_
                refine WM.pick [4, 5, 6, 7, 8, 9, 1, 0] rfl ?_
                refine ihlp2 (i + 1) _ M6 (by omega) (by omega) hnew (by rw [eM6, gI_nk (by omega)]; exact h0) ?_ ?_ (fun d p => (hf d p).tr (by rw [eM6]; exact Same.sI p)) (by omega)
                · intro q a b
                  rw [eM6]
                  by_cases w : q = i
                  · rw [w, gI_eq]
                  · rw [gI_nk (by omega)]; exact hz1 q a (by omega)
                · intro q w
                  rw [eM6, gI_nk (by omega)]; exact hu q w
              refine r_if_eq B dX6_goes_124 rfl ⟨by omega, by omega⟩ (fun h8 => ?_) (fun h8 => ?_)
              · refine r_iconst B dX6_goes_139 ?_
                exact J7 _ (Or.inr ⟨rfl, fun w => by rcases his with x | x; omega; exact x.2 (fun q a b => w q a (by omega))⟩)
              · refine r_iload B 0 dX6_goes_127 rfl ?_
                refine r_pSz1 B (c_X6_isValue l G M6  (trF (s.2.2.1 ge).1 (s.2.2.1 ge).2.2 k se i) ⟨by omega, by omega⟩) ⟨rfl, rfl⟩ ok_X6_isValue q_1018 q_1017 ⟨Nat.le_of_ble_eq_true rfl, Nat.le_of_ble_eq_true rfl, Nat.le_of_ble_eq_true rfl⟩ ⟨Nat.le_of_ble_eq_true rfl, Nat.le_of_ble_eq_true rfl⟩ dX6_goes_129 ?_
                refine r_if_eq B dX6_goes_132 rfl ⟨by omega, by omega⟩ (fun h9 => ?_) (fun h9 => ?_)
                · have q_h9 := inF_0 h9
                  refine r_iconst B dX6_goes_139 ?_
                  exact J7 _ (Or.inr ⟨rfl, fun w => q_h9 (w i hi0 (by omega))⟩)
                · have q_h9 := inF_1 h9
                  refine r_iconst B dX6_goes_135 ?_
                  refine r_goto B dX6_goes_136 rfl ?_
                  exact J7 _ (Or.inl ⟨rfl, fun q a b => by rcases (show q < i ∨ q = i by omega) with y | y; rcases his with x | x; exact x.2 q a y; omega; rw [y]; exact q_h9⟩)
            refine r_icmp_ge B dX6_goes_96 rfl ⟨by omega, by omega⟩ ⟨by omega, by omega⟩ (fun h10 => ?_) (fun h10 => ?_)
            · refine r_iload B 6 dX6_goes_103 rfl ?_
              exact J5 _ (by omega)
            · refine r_iconst B dX6_goes_99 ?_
              refine r_goto B dX6_goes_100 rfl ?_
              exact J5 _ (by omega)
          refine r_icmp_ge B dX6_goes_75 rfl ⟨by omega, by omega⟩ ⟨by omega, by omega⟩ (fun h11 => ?_) (fun h11 => ?_)
          · refine r_iload B 0 dX6_goes_83 rfl ?_
            refine r_iload B 5 dX6_goes_85 rfl ?_
            refine r_isub B dX6_goes_87 ?_
            exact J4 _ (by omega)
          · refine r_iload B 0 dX6_goes_78 rfl ?_
            refine r_goto B dX6_goes_80 rfl ?_
            exact J4 _ (by omega)
    refine WM.pick [4, 5, 6, 7, 3, 2, 1, 0] rfl ?_
    exact lp2 _ 0 1 M (by omega) (by omega) (Or.inl ⟨rfl, fun q a b => by omega⟩) hz (fun q a b => by omega) (fun q w => rfl) (fun d p => Same.rf M d) (Nat.lt_succ_self _)
  refine r_icmp_ne B dX6_goes_9 rfl ⟨by omega, by omega⟩ ⟨by omega, by omega⟩ (fun h12 => ?_) (fun h12 => ?_)
  · refine r_aload_n B 1 dX6_goes_16 rfl ?_
    refine rg6_aside B hM.1 q_894 dX6_goes_17 ?_
    refine r_iload_n B 2 dX6_goes_20 rfl ?_
    refine r_iload_n B 3 dX6_goes_21 rfl ?_
    refine r_iload B 0 dX6_goes_22 rfl ?_
    refine r_pSi3 B (c_X6_placeOf l G M  ge se ((s.2.2.1 ge).1) ) ⟨rfl, rfl⟩ ok_X6_placeOf q_1027 q_1026 ⟨Nat.le_of_ble_eq_true rfl, Nat.le_of_ble_eq_true rfl, Nat.le_of_ble_eq_true rfl⟩ ⟨Nat.le_of_ble_eq_true rfl, Nat.le_of_ble_eq_true rfl⟩ dX6_goes_24 ?_
    refine r_iaload B dX6_goes_27 hM.2.2.2.1 (by omega) (by omega) ?_
    refine r_vi (y := (s.2.2.1 ge).2.2 se ((s.2.2.1 ge).1)) (hA se ((s.2.2.1 ge).1) (by omega) (by omega) (by omega) (by unfold szS at *; split at * <;> omega)) ?_
    refine r_aload_n B 1 dX6_goes_28 rfl ?_
    refine rg6_aside B hM.1 q_894 dX6_goes_29 ?_
    refine r_iload_n B 2 dX6_goes_32 rfl ?_
    refine r_iload_n B 3 dX6_goes_33 rfl ?_
    refine r_iconst B dX6_goes_34 ?_
    refine r_pSi3 B (c_X6_placeOf l G M  ge se 0 ) ⟨rfl, rfl⟩ ok_X6_placeOf q_1027 q_1026 ⟨Nat.le_of_ble_eq_true rfl, Nat.le_of_ble_eq_true rfl, Nat.le_of_ble_eq_true rfl⟩ ⟨Nat.le_of_ble_eq_true rfl, Nat.le_of_ble_eq_true rfl⟩ dX6_goes_35 ?_
    refine r_iaload B dX6_goes_38 hM.2.2.2.1 (by omega) (by omega) ?_
    refine r_vi (y := (s.2.2.1 ge).2.2 se 0) (hA se 0 (by omega) (by omega) (by omega) (by unfold szS at *; split at * <;> omega)) ?_
    refine r_isub B dX6_goes_39 ?_
    exact J1 _ (by rw [if_neg h12])
  · refine r_iconst B dX6_goes_12 ?_
    refine r_goto B dX6_goes_13 rfl ?_
    exact J1 _ (by rw [if_pos h12])
