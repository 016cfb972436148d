set_option maxRecDepth 100000 in
set_option maxHeartbeats 4000000 in
theorem c_X6_mix (l : Launch) (G : Gs) (M : Mem) (md : Nat) (hM : IsMd G md) (h v : Int) (hh : gL M md 17 = h) : Ct l G yX6_mix cX6_mix 3 (none) rm_X6_mix [.ref md, .long (lI v)] M (PoV G (fun M' => gL M' md 17 = 31 * h + v ∧ FD M M' md)) 0 0 := by
  refine Ct.of (by decide +kernel) (Nat.le_of_ble_eq_true rfl) [(0, .ref md), (1, .long (lI v))] rfl ?_
  intro X B
  refine r_aload_n B 0 dX6_mix_0 rfl ?_
  refine r_ldc2 B (z := 31) dX6_mix_1 q_1326 (by decide) ?_
  refine r_aload_n B 0 dX6_mix_4 rfl ?_
  refine rg6_h B hM.1 q_909 dX6_mix_5 ?_
  refine r_vl (y := h) hh ?_
  refine r_lmul B dX6_mix_8 ?_
  refine r_lload_n B 1 dX6_mix_9 rfl ?_
  refine r_ladd B dX6_mix_10 ?_
  refine rp6_h B hM.1 q_909 dX6_mix_11 ?_
  refine WM.nm (fun M1 eM1 => ?_)
  exact r_vret B dX6_mix_14 ⟨by rw [eM1, gL_eq], by rw [eM1, gI_sL], fun c p => by rw [eM1]; exact Same.sL p⟩

set_option maxRecDepth 100000 in
set_option maxHeartbeats 4000000 in
theorem c_X6_mixGear (l : Launch) (G : Gs) (M : Mem) (md : Nat) (hM : IsMd G md) (s : Ast) (hS_M : MdS M md s) (hok : StateOk s) (ge h : Int) (h0 : 0 ≤ ge) (h1 : ge < s.1) (hh : gL M md 17 = h) : Ct l G yX6_mixGear cX6_mixGear 4 (none) rm_X6_mixGear [.ref md, .int (iI ge)] M (PoV G (fun M' => gL M' md 17 = dgG s ge h ∧ FD M M' md)) 0 0 := by
  refine Ct.of (by decide +kernel) (Nat.le_of_ble_eq_true rfl) [(0, .ref md), (1, .int (iI ge))] rfl ?_
  intro X B
  have hs1 := hok.1
  have hs2 := hok.2.1
  have hs3 := hok.2.2.1
  have hs4 := hok.2.2.2.1
  have hF_M : FL M M md := FL.rf
  have hgk := hok.2.2.2.2.1 ge (by omega) (by omega)
  obtain ⟨hgk1, hgk2, hgk3, hgk4, hgk5⟩ := id hgk
  have hD_M : FD M M md := FD.rf
  refine r_iconst B dX6_mixGear_0 ?_
  refine r_istore_n B (lv' := [(2, .int (iI 0)), (0, .ref md), (1, .int (iI ge))]) dX6_mixGear_1 (by decide) rfl ?_
  have lp1 : ∀ (nlp1 : Nat) (w : Int) (x1 : Int) (M1 : Mem) (hw0 : 0 ≤ w) (hw1 : w ≤ 6) (hgx1 : gL M1 md 17 = x1) (hix1 : x1 = mfF (tdS s ge) w.toNat h) (hD_M1 : FD M M1 md), (6 - w).toNat < nlp1 → WM G X 0 0 (bM X (PoV G (fun M' => gL M' md 17 = dgG s ge h ∧ FD M M' md)) 0 0 G) M1 2 [(0, .ref md), (1, .int (iI ge)), (2, .int (iI w))] [] := by
    intro nlp1
    induction nlp1 with
    | zero => intro w x1 M1 hw0 hw1 hgx1 hix1 hD_M1 hm; omega
    | succ nlp1 ihlp1 =>
      intro w x1 M1 hw0 hw1 hgx1 hix1 hD_M1 hm
      have hS_M1 := hD_M1.mds hS_M
      have hF_M1 : FL M1 M1 md := FL.rf
      refine r_iload_n B 2 dX6_mixGear_2 rfl ?_
      refine r_bipush B (z := 6) dX6_mixGear_3 (by decide) ?_
      refine r_icmp_ge B dX6_mixGear_5 rfl ⟨by omega, by omega⟩ ⟨by omega, by omega⟩ (fun h2 => ?_) (fun h2 => ?_)
      · refine r_iconst B dX6_mixGear_25 ?_
        refine r_istore_n B (lv' := [(2, .int (iI 0)), (0, .ref md), (1, .int (iI ge))]) dX6_mixGear_26 (by decide) rfl ?_
        have lp3 : ∀ (nlp3 : Nat) (t : Int) (x2 : Int) (M2 : Mem) (ht0 : 0 ≤ t) (ht1 : t ≤ 3) (hgx2 : gL M2 md 17 = x2) (hix2 : x2 = dgR s ge t.toNat x1) (hD_M2 : FD M M2 md), (3 - t).toNat < nlp3 → WM G X 0 0 (bM X (PoV G (fun M' => gL M' md 17 = dgG s ge h ∧ FD M M' md)) 0 0 G) M2 27 [(0, .ref md), (1, .int (iI ge)), (2, .int (iI t))] [] := by
          intro nlp3
          induction nlp3 with
          | zero => intro t x2 M2 ht0 ht1 hgx2 hix2 hD_M2 hm; omega
          | succ nlp3 ihlp3 =>
            intro t x2 M2 ht0 ht1 hgx2 hix2 hD_M2 hm
            have hS_M2 := hD_M2.mds hS_M
            have hF_M2 : FL M2 M2 md := FL.rf
            refine r_iload_n B 2 dX6_mixGear_27 rfl ?_
            refine r_iconst B dX6_mixGear_28 ?_
            refine r_icmp_ge B dX6_mixGear_29 rfl ⟨by omega, by omega⟩ ⟨by omega, by omega⟩ (fun h4 => ?_) (fun h4 => ?_)
            · refine r_iconst B dX6_mixGear_68 ?_
              refine r_istore_n B (lv' := [(2, .int (iI 0)), (0, .ref md), (1, .int (iI ge))]) dX6_mixGear_69 (by decide) rfl ?_
              have lp5 : ∀ (nlp5 : Nat) (v : Int) (x4 : Int) (M4 : Mem) (hv0 : 0 ≤ v) (hv1 : v ≤ 9) (hgx4 : gL M4 md 17 = x4) (hix4 : x4 = mfF (dvS s ge) v.toNat x2) (hD_M4 : FD M M4 md), (9 - v).toNat < nlp5 → WM G X 0 0 (bM X (PoV G (fun M' => gL M' md 17 = dgG s ge h ∧ FD M M' md)) 0 0 G) M4 70 [(0, .ref md), (1, .int (iI ge)), (2, .int (iI v))] [] := by
                intro nlp5
                induction nlp5 with
                | zero => intro v x4 M4 hv0 hv1 hgx4 hix4 hD_M4 hm; omega
                | succ nlp5 ihlp5 =>
                  intro v x4 M4 hv0 hv1 hgx4 hix4 hD_M4 hm
                  have hS_M4 := hD_M4.mds hS_M
                  have hF_M4 : FL M4 M4 md := FL.rf
                  have hdv := dvS_in hok (g := ge) (w := v)  (by omega) (by omega)
                  refine r_iload_n B 2 dX6_mixGear_70 rfl ?_
                  refine r_bipush B (z := 9) dX6_mixGear_71 (by decide) ?_
                  refine r_icmp_ge B dX6_mixGear_73 rfl ⟨by omega, by omega⟩ ⟨by omega, by omega⟩ (fun h6 => ?_) (fun h6 => ?_)
                  · exact r_vret B dX6_mixGear_93 ⟨by rw [hgx4, hix4, show v = 9 by omega, hix2, show t = 3 by omega, hix1, show w = 6 by omega]; rfl, hD_M4⟩
                  · refine r_aload_n B 0 dX6_mixGear_76 rfl ?_
                    refine r_aload_n B 0 dX6_mixGear_77 rfl ?_
                    refine r_iload_n B 1 dX6_mixGear_78 rfl ?_
                    refine r_iload_n B 2 dX6_mixGear_79 rfl ?_
                    refine r_Vi2 B (c_X6_deviationOf l G M4 md hM s hS_M4 hok ge v (by omega) (by omega) (by omega) (by omega)) ⟨rfl, rfl⟩ ok_X6_deviationOf vi_X6_deviationOf q_1078 hM.1 rfl (fun _ => rfl) ⟨Nat.le_of_ble_eq_true rfl, Nat.le_of_ble_eq_true rfl, Nat.le_of_ble_eq_true rfl⟩ ⟨Nat.le_of_ble_eq_true rfl, Nat.le_of_ble_eq_true rfl⟩ dX6_mixGear_80 (fun rQ7 Q7 h_Q7 => ?_)
                    obtain ⟨hv_Q7, hf_Q7⟩ := h_Q7
                    rw [hv_Q7]
                    clear hv_Q7
                    have hS_Q7 := hf_Q7.mds hS_M4
                    have hF_Q7 := hF_M4.tr hf_Q7
                    refine r_i2l B dX6_mixGear_83 ⟨by omega, by omega⟩ ?_
                    refine r_Vv1 B (c_X6_mix l G Q7 md hM x4 (dvS s ge v) (by rw [hF_Q7.1.2 17 (by omega)]; exact hgx4)) ⟨rfl, rfl⟩ ok_X6_mix vi_X6_mix q_1322 hM.1 rfl (fun _ => rfl) ⟨Nat.le_of_ble_eq_true rfl, Nat.le_of_ble_eq_true rfl, Nat.le_of_ble_eq_true rfl⟩ ⟨Nat.le_of_ble_eq_true rfl, Nat.le_of_ble_eq_true rfl⟩ dX6_mixGear_84 (fun W8 hxW8 => ?_)
                    have hS_W8 := hxW8.2.mds hS_Q7
                    have hF_W8 : FL W8 W8 md := FL.rf
                    refine r_iinc B (lv' := [(2, .int (iI (v + 1))), (0, .ref md), (1, .int (iI ge))]) dX6_mixGear_87 (j := 2) rfl (by decide) rfl ?_
                    refine r_goto B dX6_mixGear_90 rfl ?_
                    refine WM.pick [1, 2, 0] rfl ?_
                    exact ihlp5 (v + 1) _ W8 (by omega) (by omega) hxW8.1 (by rw [mfF_s _ _ hv0, ← hix4]) (hD_M4.tr ((hF_Q7).fd.tr hxW8.2)) (by omega)
              refine WM.pick [1, 2, 0] rfl ?_
              exact lp5 _ 0 _ M2 (by omega) (by omega) hgx2 rfl hD_M2 (Nat.lt_succ_self _)
            · refine r_iconst B dX6_mixGear_32 ?_
              refine r_istore_n B (lv' := [(3, .int (iI 0)), (0, .ref md), (1, .int (iI ge)), (2, .int (iI t))]) dX6_mixGear_33 (by decide) rfl ?_
              have lp9 : ∀ (nlp9 : Nat) (k : Int) (x3 : Int) (M3 : Mem) (hk0 : 0 ≤ k) (hk1 : k ≤ szS (s.2.2.1 ge).1 t) (hgx3 : gL M3 md 17 = x3) (hix3 : x3 = mfF ((s.2.2.1 ge).2.2 t) k.toNat x2) (hD_M3 : FD M M3 md), (szS (s.2.2.1 ge).1 t - k).toNat < nlp9 → WM G X 0 0 (bM X (PoV G (fun M' => gL M' md 17 = dgG s ge h ∧ FD M M' md)) 0 0 G) M3 34 [(0, .ref md), (1, .int (iI ge)), (2, .int (iI t)), (3, .int (iI k))] [] := by
                intro nlp9
                induction nlp9 with
                | zero => intro k x3 M3 hk0 hk1 hgx3 hix3 hD_M3 hm; omega
                | succ nlp9 ihlp9 =>
                  intro k x3 M3 hk0 hk1 hgx3 hix3 hD_M3 hm
                  have hS_M3 := hD_M3.mds hS_M
                  have hF_M3 : FL M3 M3 md := FL.rf
                  have hsz := szS_le (s.2.2.1 ge).1 t
                  refine r_iload_n B 3 dX6_mixGear_34 rfl ?_
                  refine r_aload_n B 0 dX6_mixGear_35 rfl ?_
                  refine r_iload_n B 1 dX6_mixGear_36 rfl ?_
                  refine r_iload_n B 2 dX6_mixGear_37 rfl ?_
                  refine r_pVi2 B (c_X6_longOf l G M3 md hM s hS_M3 hok ge t (by omega) (by omega) (by omega) (by omega)) ⟨rfl, rfl⟩ ok_X6_longOf vi_X6_longOf q_1009 hM.1 rfl (fun _ => rfl) ⟨Nat.le_of_ble_eq_true rfl, Nat.le_of_ble_eq_true rfl, Nat.le_of_ble_eq_true rfl⟩ ⟨Nat.le_of_ble_eq_true rfl, Nat.le_of_ble_eq_true rfl⟩ dX6_mixGear_38 ?_
                  refine r_icmp_ge B dX6_mixGear_41 rfl ⟨by omega, by omega⟩ ⟨by omega, by omega⟩ (fun h10 => ?_) (fun h10 => ?_)
                  · refine r_iinc B (lv' := [(2, .int (iI (t + 1))), (0, .ref md), (1, .int (iI ge)), (3, .int (iI k))]) dX6_mixGear_62 (j := 2) rfl (by decide) rfl ?_
                    refine r_goto B dX6_mixGear_65 rfl ?_
                    refine WM.pick [1, 2, 0] rfl ?_
                    exact ihlp3 (t + 1) _ M3 (by omega) (by omega) hgx3 (by rw [dgR_s _ _ _ ht0, ← hix2, hix3, show k = szS (s.2.2.1 ge).1 t by omega]) hD_M3 (by omega)
                  · have hrd := hgk5 t k (by omega) (by omega) (by omega) (by omega)
                    refine r_aload_n B 0 dX6_mixGear_44 rfl ?_
                    refine r_aload_n B 0 dX6_mixGear_45 rfl ?_
                    refine r_iload_n B 1 dX6_mixGear_46 rfl ?_
                    refine r_iload_n B 2 dX6_mixGear_47 rfl ?_
                    refine r_iload_n B 3 dX6_mixGear_48 rfl ?_
                    refine r_pVi3 B (c_X6_readingOf l G M3 md hM ge t k (by omega) (by omega) (by omega) (by omega) (by omega) (by omega)) ⟨rfl, rfl⟩ ok_X6_readingOf vi_X6_readingOf q_1022 hM.1 rfl (fun _ => rfl) ⟨Nat.le_of_ble_eq_true rfl, Nat.le_of_ble_eq_true rfl, Nat.le_of_ble_eq_true rfl⟩ ⟨Nat.le_of_ble_eq_true rfl, Nat.le_of_ble_eq_true rfl⟩ dX6_mixGear_49 ?_
                    refine r_vi (y := (s.2.2.1 ge).2.2 t k) ((hS_M3.2.2.1 ge (by omega) (by omega)).2.2 t k (by omega) (by omega) (by omega) (by omega)) ?_
                    refine r_i2l B dX6_mixGear_52 ⟨by omega, by omega⟩ ?_
                    refine r_Vv1 B (c_X6_mix l G M3 md hM x3 ((s.2.2.1 ge).2.2 t k) hgx3) ⟨rfl, rfl⟩ ok_X6_mix vi_X6_mix q_1322 hM.1 rfl (fun _ => rfl) ⟨Nat.le_of_ble_eq_true rfl, Nat.le_of_ble_eq_true rfl, Nat.le_of_ble_eq_true rfl⟩ ⟨Nat.le_of_ble_eq_true rfl, Nat.le_of_ble_eq_true rfl⟩ dX6_mixGear_53 (fun W11 hxW11 => ?_)
                    have hS_W11 := hxW11.2.mds hS_M3
                    have hD_W11 := hD_M3.tr hxW11.2
                    have hF_W11 : FL W11 W11 md := FL.rf
                    refine r_iinc B (lv' := [(3, .int (iI (k + 1))), (0, .ref md), (1, .int (iI ge)), (2, .int (iI t))]) dX6_mixGear_56 (j := 3) rfl (by decide) rfl ?_
                    refine r_goto B dX6_mixGear_59 rfl ?_
                    refine WM.pick [1, 2, 3, 0] rfl ?_
                    exact ihlp9 (k + 1) _ W11 (by omega) (by omega) hxW11.1 (by rw [mfF_s _ _ hk0, ← hix3]) (hD_M3.tr hxW11.2) (by omega)
              refine WM.pick [1, 2, 3, 0] rfl ?_
              exact lp9 _ 0 _ M2 (by omega) (by have w := szS_le (s.2.2.1 ge).1 t; omega) hgx2 rfl hD_M2 (Nat.lt_succ_self _)
        refine WM.pick [1, 2, 0] rfl ?_
        exact lp3 _ 0 _ M1 (by omega) (by omega) hgx1 rfl hD_M1 (Nat.lt_succ_self _)
      · have htb := tdS_in hok (g := ge) (by omega) (by omega) w
        refine r_aload_n B 0 dX6_mixGear_8 rfl ?_
        refine r_aload_n B 0 dX6_mixGear_9 rfl ?_
        refine r_iload_n B 1 dX6_mixGear_10 rfl ?_
        refine r_iload_n B 2 dX6_mixGear_11 rfl ?_
        refine r_Vi2 B (c_X6_told l G M1 md hM s hS_M1 hok ge w (by omega) (by omega) (by omega) (by omega)) ⟨rfl, rfl⟩ ok_X6_told vi_X6_told q_1062 hM.1 rfl (fun _ => rfl) ⟨Nat.le_of_ble_eq_true rfl, Nat.le_of_ble_eq_true rfl, Nat.le_of_ble_eq_true rfl⟩ ⟨Nat.le_of_ble_eq_true rfl, Nat.le_of_ble_eq_true rfl⟩ dX6_mixGear_12 (fun rQ12 Q12 h_Q12 => ?_)
        obtain ⟨hv_Q12, hf_Q12⟩ := h_Q12
        rw [hv_Q12]
        clear hv_Q12
        have hS_Q12 := hf_Q12.mds hS_M1
        have hF_Q12 := hF_M1.tr hf_Q12
        refine r_i2l B dX6_mixGear_15 ⟨by omega, by omega⟩ ?_
        refine r_Vv1 B (c_X6_mix l G Q12 md hM x1 (tdS s ge w) (by rw [hF_Q12.1.2 17 (by omega)]; exact hgx1)) ⟨rfl, rfl⟩ ok_X6_mix vi_X6_mix q_1322 hM.1 rfl (fun _ => rfl) ⟨Nat.le_of_ble_eq_true rfl, Nat.le_of_ble_eq_true rfl, Nat.le_of_ble_eq_true rfl⟩ ⟨Nat.le_of_ble_eq_true rfl, Nat.le_of_ble_eq_true rfl⟩ dX6_mixGear_16 (fun W13 hxW13 => ?_)
        have hS_W13 := hxW13.2.mds hS_Q12
        have hF_W13 : FL W13 W13 md := FL.rf
        refine r_iinc B (lv' := [(2, .int (iI (w + 1))), (0, .ref md), (1, .int (iI ge))]) dX6_mixGear_19 (j := 2) rfl (by decide) rfl ?_
        refine r_goto B dX6_mixGear_22 rfl ?_
        refine WM.pick [1, 2, 0] rfl ?_
        exact ihlp1 (w + 1) _ W13 (by omega) (by omega) hxW13.1 (by rw [mfF_s _ _ hw0, ← hix1]) (hD_M1.tr ((hF_Q12).fd.tr hxW13.2)) (by omega)
  refine WM.pick [1, 2, 0] rfl ?_
  exact lp1 _ 0 _ M (by omega) (by omega) hh rfl hD_M (Nat.lt_succ_self _)

set_option maxRecDepth 100000 in
set_option maxHeartbeats 4000000 in
theorem c_X6_digest (l : Launch) (G : Gs) (M : Mem) (md : Nat) (hM : IsMd G md) (s : Ast) (cn : Int) (sv : Int → Ast) (hmg : MdG M md (s, cn, sv)) (hbk : GgOk (s, cn, sv)) (len : Int) (b : Int → Int) (h5 : gI M md 5 = len) (htk : TxOk len b) : Ct l G yX6_digest cX6_digest 3 (some .long) rm_X6_digest [.ref md] M (PoL G (fun r M' => r = dgS s len cn ∧ FD (sI M md 6 0) M' md)) 0 0 := by
  refine Ct.of (by decide +kernel) (Nat.le_of_ble_eq_true rfl) [(0, .ref md)] rfl ?_
  intro X B
  have hS_M : MdS M md s := hmg.1
  have hok : StateOk s := hbk.1
  have hc0 : 0 ≤ cn := hbk.2.1
  have hc4 : cn ≤ 4 := hbk.2.2.1
  have ht0 := htk.1
  have ht1 := htk.2.1
  have hs1 := hok.1
  have hs2 := hok.2.1
  have hs3 := hok.2.2.1
  have hs4 := hok.2.2.2.1
  refine r_aload_n B 0 dX6_digest_0 rfl ?_
  refine r_iconst B dX6_digest_1 ?_
  refine rp6_thrown B hM.1 q_898 dX6_digest_2 ?_
  refine WM.nm (fun M1 eM1 => ?_)
  have hS_M1 : MdS M1 md s := by unfold MdS; rw [eM1, (Same.sI (by omega)).1]; exact hS_M
  refine r_aload_n B 0 dX6_digest_5 rfl ?_
  refine r_ldc2 B (z := 2963) dX6_digest_6 q_1321 (by decide) ?_
  refine rp6_h B hM.1 q_909 dX6_digest_9 ?_
  refine WM.nm (fun M2 eM2 => ?_)
  have hS_M2 : MdS M2 md s := by unfold MdS; rw [eM2, gI_sL]; exact hS_M1
  have hD0 : FD M1 M2 md := ⟨by rw [eM2, gI_sL], fun c p => by rw [eM2]; exact Same.sL p⟩
  have hD_M2 : FD M2 M2 md := FD.rf
  have hF_M2 : FL M2 M2 md := FL.rf
  have h55 : gI M2 md 5 = len := by rw [eM2, gI_sL, eM1, gI_nk (by omega)]; exact h5
  have h33 : gI M2 md 3 = cn := by rw [eM2, gI_sL, eM1, gI_nk (by omega)]; exact hmg.2.1
  refine r_aload_n B 0 dX6_digest_12 rfl ?_
  refine r_aload_n B 0 dX6_digest_13 rfl ?_
  refine rg6_typed B hM.1 q_897 dX6_digest_14 ?_
  refine r_vi (y := len) h55 ?_
  refine r_i2l B dX6_digest_17 ⟨by omega, by omega⟩ ?_
  refine r_Vv1 B (c_X6_mix l G M2 md hM 2963 len (by rw [eM2]; exact gL_eq)) ⟨rfl, rfl⟩ ok_X6_mix vi_X6_mix q_1322 hM.1 rfl (fun _ => rfl) ⟨Nat.le_of_ble_eq_true rfl, Nat.le_of_ble_eq_true rfl, Nat.le_of_ble_eq_true rfl⟩ ⟨Nat.le_of_ble_eq_true rfl, Nat.le_of_ble_eq_true rfl⟩ dX6_digest_18 (fun W3 hxW3 => ?_)
  have hS_W3 := hxW3.2.mds hS_M2
  have hD_W3 := hD_M2.tr hxW3.2
  have hF_W3 : FL W3 W3 md := FL.rf
  refine r_aload_n B 0 dX6_digest_21 rfl ?_
  refine r_aload_n B 0 dX6_digest_22 rfl ?_
  refine rg6_s B hM.1 q_892 dX6_digest_23 ?_
  refine r_iconst B dX6_digest_26 ?_
  refine r_iaload B dX6_digest_27 hM.2.1 (by omega) (by omega) ?_
  refine r_vi (y := s.1) hS_W3.1 ?_
  refine r_i2l B dX6_digest_28 ⟨by omega, by omega⟩ ?_
  refine r_Vv1 B (c_X6_mix l G W3 md hM (31 * 2963 + len) s.1 hxW3.1) ⟨rfl, rfl⟩ ok_X6_mix vi_X6_mix q_1322 hM.1 rfl (fun _ => rfl) ⟨Nat.le_of_ble_eq_true rfl, Nat.le_of_ble_eq_true rfl, Nat.le_of_ble_eq_true rfl⟩ ⟨Nat.le_of_ble_eq_true rfl, Nat.le_of_ble_eq_true rfl⟩ dX6_digest_29 (fun W4 hxW4 => ?_)
  have hS_W4 := hxW4.2.mds hS_W3
  have hD_W4 := hD_W3.tr hxW4.2
  have hF_W4 : FL W4 W4 md := FL.rf
  refine r_iconst B dX6_digest_32 ?_
  refine r_istore_n B (lv' := [(1, .int (iI 0)), (0, .ref md)]) dX6_digest_33 (by decide) rfl ?_
  have lp5 : ∀ (nlp5 : Nat) (i : Int) (xa : Int) (Ma : Mem) (hi0 : 0 ≤ i) (hi1 : i ≤ s.1) (hga : gL Ma md 17 = xa) (hia : xa = dgF s i.toNat (31 * (31 * 2963 + len) + s.1)) (hD_Ma : FD M2 Ma md), (s.1 - i).toNat < nlp5 → WM G X 0 0 (bM X (PoL G (fun r M' => r = dgS s len cn ∧ FD (sI M md 6 0) M' md)) 0 0 G) Ma 34 [(0, .ref md), (1, .int (iI i))] [] := by
    intro nlp5
    induction nlp5 with
    | zero => intro i xa Ma hi0 hi1 hga hia hD_Ma hm; omega
    | succ nlp5 ihlp5 =>
      intro i xa Ma hi0 hi1 hga hia hD_Ma hm
      have hS_Ma := hD_Ma.mds hS_M2
      have hF_Ma : FL Ma Ma md := FL.rf
      refine r_iload_n B 1 dX6_digest_34 rfl ?_
      refine r_aload_n B 0 dX6_digest_35 rfl ?_
      refine rg6_s B hM.1 q_892 dX6_digest_36 ?_
      refine r_iconst B dX6_digest_39 ?_
      refine r_iaload B dX6_digest_40 hM.2.1 (by omega) (by omega) ?_
      refine r_vi (y := s.1) hS_Ma.1 ?_
      refine r_icmp_ge B dX6_digest_41 rfl ⟨by omega, by omega⟩ ⟨by omega, by omega⟩ (fun h6 => ?_) (fun h6 => ?_)
      · refine r_aload_n B 0 dX6_digest_55 rfl ?_
        refine r_aload_n B 0 dX6_digest_56 rfl ?_
        refine rg6_s B hM.1 q_892 dX6_digest_57 ?_
        refine r_sipush B (z := 571) dX6_digest_60 (by decide) ?_
        refine r_iaload B dX6_digest_63 hM.2.1 (by omega) (by omega) ?_
        refine r_vi (y := s.2.1) hS_Ma.2.1 ?_
        refine r_i2l B dX6_digest_64 ⟨by omega, by omega⟩ ?_
        refine r_Vv1 B (c_X6_mix l G Ma md hM xa s.2.1 hga) ⟨rfl, rfl⟩ ok_X6_mix vi_X6_mix q_1322 hM.1 rfl (fun _ => rfl) ⟨Nat.le_of_ble_eq_true rfl, Nat.le_of_ble_eq_true rfl, Nat.le_of_ble_eq_true rfl⟩ ⟨Nat.le_of_ble_eq_true rfl, Nat.le_of_ble_eq_true rfl⟩ dX6_digest_65 (fun W7 hxW7 => ?_)
        have hS_W7 := hxW7.2.mds hS_Ma
        have hD_W7 := hD_Ma.tr hxW7.2
        have hF_W7 : FL W7 W7 md := FL.rf
        refine r_iconst B dX6_digest_68 ?_
        refine r_istore_n B (lv' := [(1, .int (iI 0)), (0, .ref md)]) dX6_digest_69 (by decide) rfl ?_
        have lp8 : ∀ (nlp8 : Nat) (q : Int) (xb : Int) (Mb : Mem) (hl0 : 0 ≤ q) (hl1 : q ≤ s.2.1) (hgb : gL Mb md 17 = xb) (hib : xb = dlF s q.toNat (31 * xa + s.2.1)) (hD_Mb : FD M2 Mb md), (s.2.1 - q).toNat < nlp8 → WM G X 0 0 (bM X (PoL G (fun r M' => r = dgS s len cn ∧ FD (sI M md 6 0) M' md)) 0 0 G) Mb 70 [(0, .ref md), (1, .int (iI q))] [] := by
          intro nlp8
          induction nlp8 with
          | zero => intro q xb Mb hl0 hl1 hgb hib hD_Mb hm; omega
          | succ nlp8 ihlp8 =>
            intro q xb Mb hl0 hl1 hgb hib hD_Mb hm
            have hS_Mb := hD_Mb.mds hS_M2
            have hF_Mb : FL Mb Mb md := FL.rf
            refine r_iload_n B 1 dX6_digest_70 rfl ?_
            refine r_aload_n B 0 dX6_digest_71 rfl ?_
            refine rg6_s B hM.1 q_892 dX6_digest_72 ?_
            refine r_sipush B (z := 571) dX6_digest_75 (by decide) ?_
            refine r_iaload B dX6_digest_78 hM.2.1 (by omega) (by omega) ?_
            refine r_vi (y := s.2.1) hS_Mb.2.1 ?_
            refine r_icmp_ge B dX6_digest_79 rfl ⟨by omega, by omega⟩ ⟨by omega, by omega⟩ (fun h9 => ?_) (fun h9 => ?_)
            · refine r_aload_n B 0 dX6_digest_153 rfl ?_
              refine r_aload_n B 0 dX6_digest_154 rfl ?_
              refine rg6_pasts B hM.1 q_895 dX6_digest_155 ?_
              refine r_vi (y := cn) (by rw [hD_Mb.1]; exact h33) ?_
              refine r_i2l B dX6_digest_158 ⟨by omega, by omega⟩ ?_
              refine r_Vv1 B (c_X6_mix l G Mb md hM xb cn hgb) ⟨rfl, rfl⟩ ok_X6_mix vi_X6_mix q_1322 hM.1 rfl (fun _ => rfl) ⟨Nat.le_of_ble_eq_true rfl, Nat.le_of_ble_eq_true rfl, Nat.le_of_ble_eq_true rfl⟩ ⟨Nat.le_of_ble_eq_true rfl, Nat.le_of_ble_eq_true rfl⟩ dX6_digest_159 (fun W10 hxW10 => ?_)
              have hS_W10 := hxW10.2.mds hS_Mb
              have hD_W10 := hD_Mb.tr hxW10.2
              have hF_W10 : FL W10 W10 md := FL.rf
              refine r_aload_n B 0 dX6_digest_162 rfl ?_
              refine rg6_h B hM.1 q_909 dX6_digest_163 ?_
              refine r_vl (y := dgS s len cn) (by rw [hxW10.1, hib, show q = s.2.1 by omega, hia, show i = s.1 by omega]; rfl) ?_
              exact r_lret B dX6_digest_166 ⟨rfl, by rw [← eM1]; exact hD0.tr (hD_Mb.tr hxW10.2)⟩
            · have hlk := hok.2.2.2.2.2 q (by omega) (by omega)
              obtain ⟨⟨hln0, hln1, hlv⟩, hlg0, hlg1, hlk0, hlk1⟩ := id hlk
              refine r_iconst B dX6_digest_82 ?_
              refine r_istore_n B (lv' := [(2, .int (iI 0)), (0, .ref md), (1, .int (iI q))]) dX6_digest_83 (by decide) rfl ?_
              have lp11 : ∀ (nlp11 : Nat) (k : Int) (xc : Int) (Mc : Mem) (hk0 : 0 ≤ k) (hk1 : k ≤ 3 + (s.2.2.2 q).2.2.1) (hgc : gL Mc md 17 = xc) (hic : xc = mfF (lnF s q) k.toNat xb) (hD_Mc : FD M2 Mc md), (3 + (s.2.2.2 q).2.2.1 - k).toNat < nlp11 → WM G X 0 0 (bM X (PoL G (fun r M' => r = dgS s len cn ∧ FD (sI M md 6 0) M' md)) 0 0 G) Mc 84 [(0, .ref md), (1, .int (iI q)), (2, .int (iI k))] [] := by
                intro nlp11
                induction nlp11 with
                | zero => intro k xc Mc hk0 hk1 hgc hic hD_Mc hm; omega
                | succ nlp11 ihlp11 =>
                  intro k xc Mc hk0 hk1 hgc hic hD_Mc hm
                  have hS_Mc := hD_Mc.mds hS_M2
                  have hF_Mc : FL Mc Mc md := FL.rf
                  refine r_iload_n B 2 dX6_digest_84 rfl ?_
                  refine r_iconst B dX6_digest_85 ?_
                  refine r_aload_n B 0 dX6_digest_86 rfl ?_
                  refine r_iload_n B 1 dX6_digest_87 rfl ?_
                  refine r_iconst B dX6_digest_88 ?_
                  refine r_pVi2 B (c_X6_of l G Mc md hM q 2 (by omega) (by omega) (by omega) (by omega)) ⟨rfl, rfl⟩ ok_X6_of vi_X6_of q_992 hM.1 rfl (fun _ => rfl) ⟨Nat.le_of_ble_eq_true rfl, Nat.le_of_ble_eq_true rfl, Nat.le_of_ble_eq_true rfl⟩ ⟨Nat.le_of_ble_eq_true rfl, Nat.le_of_ble_eq_true rfl⟩ dX6_digest_89 ?_
                  refine r_vi (y := (s.2.2.2 q).2.2.1) (hS_Mc.2.2.2 q (by omega) (by omega)).2.2.1 ?_
                  refine r_iadd B dX6_digest_92 ?_
                  refine r_icmp_ge B dX6_digest_93 rfl ⟨by omega, by omega⟩ ⟨by omega, by omega⟩ (fun h12 => ?_) (fun h12 => ?_)
                  · refine r_iconst B dX6_digest_113 ?_
                    refine r_istore_n B (lv' := [(2, .int (iI 0)), (0, .ref md), (1, .int (iI q))]) dX6_digest_114 (by decide) rfl ?_
                    have lp13 : ∀ (nlp13 : Nat) (u : Int) (xd : Int) (Md : Mem) (hu0 : 0 ≤ u) (hu1 : u ≤ 3) (hu2 : u = 0 ∨ 3 ≤ (s.2.2.2 q).2.2.1) (hgd : gL Md md 17 = xd) (hid : xd = mfF (ldS (s.2.2.2 q).2.2.2 (s.2.2.2 q).2.2.1) u.toNat xc) (hD_Md : FD M2 Md md), (3 - u).toNat < nlp13 → WM G X 0 0 (bM X (PoL G (fun r M' => r = dgS s len cn ∧ FD (sI M md 6 0) M' md)) 0 0 G) Md 115 [(0, .ref md), (1, .int (iI q)), (2, .int (iI u))] [] := by
                      intro nlp13
                      induction nlp13 with
                      | zero => intro u xd Md hu0 hu1 hu2 hgd hid hD_Md hm; omega
                      | succ nlp13 ihlp13 =>
                        intro u xd Md hu0 hu1 hu2 hgd hid hD_Md hm
                        have hS_Md := hD_Md.mds hS_M2
                        have hF_Md : FL Md Md md := FL.rf
                        refine r_iload_n B 2 dX6_digest_115 rfl ?_
                        refine r_iconst B dX6_digest_116 ?_
                        refine r_icmp_ge B dX6_digest_117 rfl ⟨by omega, by omega⟩ ⟨by omega, by omega⟩ (fun h14 => ?_) (fun h14 => ?_)
                        · refine r_iinc B (lv' := [(1, .int (iI (q + 1))), (0, .ref md), (2, .int (iI u))]) dX6_digest_147 (j := 1) rfl (by decide) rfl ?_
                          refine r_goto B dX6_digest_150 rfl ?_
                          refine WM.pick [1, 0] rfl ?_
                          exact ihlp8 (q + 1) _ Md (by omega) (by omega) hgd (by rw [dlF_s _ _ hl0, ← hib, hid, hic, show k = 3 + (s.2.2.2 q).2.2.1 by omega, lnM2 _ _ _ (by omega)]; unfold dgL; rw [if_pos (by omega), show u = 3 by omega]; rfl) hD_Md (by omega)
                        · refine r_aload_n B 0 dX6_digest_120 rfl ?_
                          refine r_iload_n B 1 dX6_digest_121 rfl ?_
                          refine r_iconst B dX6_digest_122 ?_
                          refine r_pVi2 B (c_X6_of l G Md md hM q 2 (by omega) (by omega) (by omega) (by omega)) ⟨rfl, rfl⟩ ok_X6_of vi_X6_of q_992 hM.1 rfl (fun _ => rfl) ⟨Nat.le_of_ble_eq_true rfl, Nat.le_of_ble_eq_true rfl, Nat.le_of_ble_eq_true rfl⟩ ⟨Nat.le_of_ble_eq_true rfl, Nat.le_of_ble_eq_true rfl⟩ dX6_digest_123 ?_
                          refine r_vi (y := (s.2.2.2 q).2.2.1) (hS_Md.2.2.2 q (by omega) (by omega)).2.2.1 ?_
                          refine r_iconst B dX6_digest_126 ?_
                          refine r_icmp_le B dX6_digest_127 rfl ⟨by omega, by omega⟩ ⟨by omega, by omega⟩ (fun h15 => ?_) (fun h15 => ?_)
                          · refine r_iinc B (lv' := [(1, .int (iI (q + 1))), (0, .ref md), (2, .int (iI u))]) dX6_digest_147 (j := 1) rfl (by decide) rfl ?_
                            refine r_goto B dX6_digest_150 rfl ?_
                            refine WM.pick [1, 0] rfl ?_
                            exact ihlp8 (q + 1) _ Md (by omega) (by omega) hgd (by rw [dlF_s _ _ hl0, ← hib, hid, hic, show k = 3 + (s.2.2.2 q).2.2.1 by omega, lnM2 _ _ _ (by omega)]; unfold dgL; rw [if_neg (by omega), show u = 0 by omega]; rfl) hD_Md (by omega)
                          · have hld := ldS_in (what := u) hlk.1 (by omega)
                            refine r_aload_n B 0 dX6_digest_130 rfl ?_
                            refine r_aload_n B 0 dX6_digest_131 rfl ?_
                            refine r_iload_n B 1 dX6_digest_132 rfl ?_
                            refine r_iload_n B 2 dX6_digest_133 rfl ?_
                            refine r_Vi2 B (c_X6_lineValue l G Md md hM s hS_Md hok q u (by omega) (by omega) (by omega) (by omega) (by omega)) ⟨rfl, rfl⟩ ok_X6_lineValue vi_X6_lineValue q_1115 hM.1 rfl (fun _ => rfl) ⟨Nat.le_of_ble_eq_true rfl, Nat.le_of_ble_eq_true rfl, Nat.le_of_ble_eq_true rfl⟩ ⟨Nat.le_of_ble_eq_true rfl, Nat.le_of_ble_eq_true rfl⟩ dX6_digest_134 (fun rQ16 Q16 h_Q16 => ?_)
                            obtain ⟨hv_Q16, hf_Q16⟩ := h_Q16
                            rw [hv_Q16]
                            clear hv_Q16
                            have hS_Q16 := hf_Q16.mds hS_Md
                            have hF_Q16 := hF_Md.tr hf_Q16
                            refine r_i2l B dX6_digest_137 ⟨by omega, by omega⟩ ?_
                            refine r_Vv1 B (c_X6_mix l G Q16 md hM xd (ldS (s.2.2.2 q).2.2.2 (s.2.2.2 q).2.2.1 u) (by rw [hF_Q16.1.2 17 (by omega)]; exact hgd)) ⟨rfl, rfl⟩ ok_X6_mix vi_X6_mix q_1322 hM.1 rfl (fun _ => rfl) ⟨Nat.le_of_ble_eq_true rfl, Nat.le_of_ble_eq_true rfl, Nat.le_of_ble_eq_true rfl⟩ ⟨Nat.le_of_ble_eq_true rfl, Nat.le_of_ble_eq_true rfl⟩ dX6_digest_138 (fun W17 hxW17 => ?_)
                            have hS_W17 := hxW17.2.mds hS_Q16
                            have hF_W17 : FL W17 W17 md := FL.rf
                            refine r_iinc B (lv' := [(2, .int (iI (u + 1))), (0, .ref md), (1, .int (iI q))]) dX6_digest_141 (j := 2) rfl (by decide) rfl ?_
                            refine r_goto B dX6_digest_144 rfl ?_
                            refine WM.pick [1, 2, 0] rfl ?_
                            exact ihlp13 (u + 1) _ W17 (by omega) (by omega) (by omega) hxW17.1 (by rw [mfF_s _ _ hu0, ← hid]) (hD_Md.tr ((hF_Q16).fd.tr hxW17.2)) (by omega)
                    refine WM.pick [1, 2, 0] rfl ?_
                    exact lp13 _ 0 _ Mc (by omega) (by omega) (Or.inl rfl) hgc rfl hD_Mc (Nat.lt_succ_self _)
                  · have hval : gI Mc (md + 1) (572 + 15 * q + k) = lnF s q k ∧ In32 (lnF s q k) := lnF_at hok hS_Mc (by omega) (by omega) (by omega) (by omega)
                    obtain ⟨hval1, hval2, hval3⟩ := hval
                    refine r_aload_n B 0 dX6_digest_96 rfl ?_
                    refine r_aload_n B 0 dX6_digest_97 rfl ?_
                    refine r_iload_n B 1 dX6_digest_98 rfl ?_
                    refine r_iload_n B 2 dX6_digest_99 rfl ?_
                    refine r_pVi2 B (c_X6_of l G Mc md hM q k (by omega) (by omega) (by omega) (by omega)) ⟨rfl, rfl⟩ ok_X6_of vi_X6_of q_992 hM.1 rfl (fun _ => rfl) ⟨Nat.le_of_ble_eq_true rfl, Nat.le_of_ble_eq_true rfl, Nat.le_of_ble_eq_true rfl⟩ ⟨Nat.le_of_ble_eq_true rfl, Nat.le_of_ble_eq_true rfl⟩ dX6_digest_100 ?_
                    refine r_vi (y := lnF s q k) hval1 ?_
                    refine r_i2l B dX6_digest_103 ⟨by omega, by omega⟩ ?_
                    refine r_Vv1 B (c_X6_mix l G Mc md hM xc (lnF s q k) hgc) ⟨rfl, rfl⟩ ok_X6_mix vi_X6_mix q_1322 hM.1 rfl (fun _ => rfl) ⟨Nat.le_of_ble_eq_true rfl, Nat.le_of_ble_eq_true rfl, Nat.le_of_ble_eq_true rfl⟩ ⟨Nat.le_of_ble_eq_true rfl, Nat.le_of_ble_eq_true rfl⟩ dX6_digest_104 (fun W18 hxW18 => ?_)
                    have hS_W18 := hxW18.2.mds hS_Mc
                    have hD_W18 := hD_Mc.tr hxW18.2
                    have hF_W18 : FL W18 W18 md := FL.rf
                    refine r_iinc B (lv' := [(2, .int (iI (k + 1))), (0, .ref md), (1, .int (iI q))]) dX6_digest_107 (j := 2) rfl (by decide) rfl ?_
                    refine r_goto B dX6_digest_110 rfl ?_
                    refine WM.pick [1, 2, 0] rfl ?_
                    exact ihlp11 (k + 1) _ W18 (by omega) (by omega) hxW18.1 (by rw [mfF_s _ _ hk0, ← hic]) (hD_Mc.tr hxW18.2) (by omega)
              refine WM.pick [1, 2, 0] rfl ?_
              exact lp11 _ 0 _ Mb (by omega) (by omega) hgb rfl hD_Mb (Nat.lt_succ_self _)
        refine WM.pick [1, 0] rfl ?_
        exact lp8 _ 0 _ W7 (by omega) (by omega) hxW7.1 rfl (hD_Ma.tr hxW7.2) (Nat.lt_succ_self _)
      · refine r_aload_n B 0 dX6_digest_44 rfl ?_
        refine r_iload_n B 1 dX6_digest_45 rfl ?_
        refine r_Vv1 B (c_X6_mixGear l G Ma md hM s hS_Ma hok i xa (by omega) (by omega) hga) ⟨rfl, rfl⟩ ok_X6_mixGear vi_X6_mixGear q_1327 hM.1 rfl (fun _ => rfl) ⟨Nat.le_of_ble_eq_true rfl, Nat.le_of_ble_eq_true rfl, Nat.le_of_ble_eq_true rfl⟩ ⟨Nat.le_of_ble_eq_true rfl, Nat.le_of_ble_eq_true rfl⟩ dX6_digest_46 (fun Mg hmgx => ?_)
        refine r_iinc B (lv' := [(1, .int (iI (i + 1))), (0, .ref md)]) dX6_digest_49 (j := 1) rfl (by decide) rfl ?_
        refine r_goto B dX6_digest_52 rfl ?_
        refine WM.pick [1, 0] rfl ?_
        exact ihlp5 (i + 1) _ Mg (by omega) (by omega) hmgx.1 (by rw [dgF_s _ _ hi0, ← hia]) (hD_Ma.tr hmgx.2) (by omega)
  refine WM.pick [1, 0] rfl ?_
  exact lp5 _ 0 _ W4 (by omega) (by omega) hxW4.1 rfl hD_W4 (Nat.lt_succ_self _)
