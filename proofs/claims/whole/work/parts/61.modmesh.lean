set_option maxRecDepth 100000 in
set_option maxHeartbeats 4000000 in
theorem c_X6_common (l : Launch) (G : Gs) (M : Mem) (a b : Int) (ha : 0 < a) (hb : 0 < b) (ha1 : a ≤ 30) (hb1 : b ≤ 30) : Ct l G yX6_common cX6_common 2 (some .int) rm_X6_common [.int (iI a), .int (iI b)] M (PoI G (Rd (lcI a b) M)) 0 0 := by
  refine Ct.of (by decide +kernel) (Nat.le_of_ble_eq_true rfl) [(0, .int (iI a)), (1, .int (iI b))] rfl ?_
  intro X B
  have hp := gcd_z ha hb
  have h1 : a / ((Int.gcd a b : Nat) : Int) ≤ a := Int.ediv_le_self _ (by omega)
  have h0 : 0 ≤ a / ((Int.gcd a b : Nat) : Int) := Int.ediv_nonneg (by omega) (by omega)
  refine r_iload_n B 0 dX6_common_0 rfl ?_
  refine r_iload_n B 0 dX6_common_1 rfl ?_
  refine r_i2l B dX6_common_2 ⟨by omega, by omega⟩ ?_
  refine r_iload_n B 1 dX6_common_3 rfl ?_
  refine r_i2l B dX6_common_4 ⟨by omega, by omega⟩ ?_
  refine r_pSl2 B (c_X6_divisor l G M  a b (by omega) (by omega) (by omega) (by omega)) ⟨rfl, rfl⟩ ok_X6_divisor q_1221 q_1220 ⟨Nat.le_of_ble_eq_true rfl, Nat.le_of_ble_eq_true rfl, Nat.le_of_ble_eq_true rfl⟩ ⟨Nat.le_of_ble_eq_true rfl, Nat.le_of_ble_eq_true rfl⟩ dX6_common_5 ?_
  refine r_l2i B dX6_common_8 ?_
  refine r_idiv B dX6_common_9 ⟨by omega, by omega⟩ ⟨by omega, by omega⟩ (by omega) ?_
  refine r_vi (y := a / ((Int.gcd a b : Nat) : Int)) (Int.tdiv_eq_ediv_of_nonneg (by omega)) ?_
  refine r_iload_n B 1 dX6_common_10 rfl ?_
  refine r_imul B dX6_common_11 ?_
  exact r_iret B dX6_common_12 ⟨rfl, rfl⟩

set_option maxRecDepth 100000 in
set_option maxHeartbeats 4000000 in
theorem c_X6_lays (l : Launch) (G : Gs) (M : Mem) (md : Nat) (hM : IsMd G md) (s : Ast) (hS_M : MdS M md s) (hok : StateOk s) (ge he fl : Int) (h0 : 0 ≤ ge) (h1 : ge < s.1) (k0 : 0 ≤ he) (k1 : he < s.1) (f0 : 0 ≤ fl) (f1 : fl < 2) : Ct l G yX6_lays cX6_lays 5 (none) rm_X6_lays [.ref md, .int (iI ge), .int (iI he), .int (iI fl)] M (PoV G (fun M' => Laid M' md s ge he fl ∧ Only M M' (md + 5) (md + 7))) 0 0 := by
  refine Ct.of (by decide +kernel) (Nat.le_of_ble_eq_true rfl) [(0, .ref md), (1, .int (iI ge)), (2, .int (iI he)), (3, .int (iI fl))] rfl ?_
  intro X B
  have hs1 := hok.1
  have hs2 := hok.2.1
  have hs3 := hok.2.2.1
  have hs4 := hok.2.2.2.1
  have hF_M : FL M M md := FL.rf
  have hgk := hok.2.2.2.2.1 ge (by omega) (by omega)
  obtain ⟨hgk1, hgk2, hgk3, hgk4, hgk5⟩ := id hgk
  have hhk := hok.2.2.2.2.1 he (by omega) (by omega)
  obtain ⟨hhk1, hhk2, hhk3, hhk4, hhk5⟩ := id hhk
  refine r_iconst B dX6_lays_0 ?_
  refine r_istore B (lv' := [(4, .int (iI 0)), (0, .ref md), (1, .int (iI ge)), (2, .int (iI he)), (3, .int (iI fl))]) dX6_lays_1 (by decide) rfl ?_
  have lp1 : ∀ (nlp1 : Nat) (i : Int) (Mc : Mem) (hi0 : 0 ≤ i) (hi1 : i ≤ (s.2.2.1 ge).1) (hl : ∀ k : Int, 0 ≤ k → k < i → gI Mc (md + 5) k = ixS (s.2.2.1 ge).1 ((s.2.2.1 ge).2.2 fl) k) (hO_Mc : Only M Mc (md + 5) (md + 7)), ((s.2.2.1 ge).1 - i).toNat < nlp1 → WM G X 0 0 (bM X (PoV G (fun M' => Laid M' md s ge he fl ∧ Only M M' (md + 5) (md + 7))) 0 0 G) Mc 3 [(0, .ref md), (1, .int (iI ge)), (2, .int (iI he)), (3, .int (iI fl)), (4, .int (iI i))] [] := by
    intro nlp1
    induction nlp1 with
    | zero => intro i Mc hi0 hi1 hl hO_Mc hm; omega
    | succ nlp1 ihlp1 =>
      intro i Mc hi0 hi1 hl hO_Mc hm
      have hS_Mc := hO_Mc.mds hS_M
      refine r_iload B 4 dX6_lays_3 rfl ?_
      refine r_aload_n B 0 dX6_lays_5 rfl ?_
      refine r_iload_n B 1 dX6_lays_6 rfl ?_
      refine r_pVi1 B (c_X6_teeth l G Mc md hM ge (by omega) (by omega)) ⟨rfl, rfl⟩ ok_X6_teeth vi_X6_teeth q_1013 hM.1 rfl (fun _ => rfl) ⟨Nat.le_of_ble_eq_true rfl, Nat.le_of_ble_eq_true rfl, Nat.le_of_ble_eq_true rfl⟩ ⟨Nat.le_of_ble_eq_true rfl, Nat.le_of_ble_eq_true rfl⟩ dX6_lays_7 ?_
      refine r_vi (y := (s.2.2.1 ge).1) (hS_Mc.2.2.1 ge (by omega) (by omega)).1 ?_
      refine r_icmp_ge B dX6_lays_10 rfl ⟨by omega, by omega⟩ ⟨by omega, by omega⟩ (fun h2 => ?_) (fun h2 => ?_)
      · refine r_iconst B dX6_lays_34 ?_
        refine r_istore B (lv' := [(4, .int (iI 0)), (0, .ref md), (1, .int (iI ge)), (2, .int (iI he)), (3, .int (iI fl))]) dX6_lays_35 (by decide) rfl ?_
        have lp3 : ∀ (nlp3 : Nat) (j : Int) (Md : Mem) (hj0 : 0 ≤ j) (hj1 : j ≤ (s.2.2.1 he).1) (hl1 : ∀ k : Int, 0 ≤ k → k < (s.2.2.1 ge).1 → gI Md (md + 5) k = ixS (s.2.2.1 ge).1 ((s.2.2.1 ge).2.2 fl) k) (hl2 : ∀ k : Int, 0 ≤ k → k < j → gI Md (md + 6) k = ixS (s.2.2.1 he).1 ((s.2.2.1 he).2.2 fl) k) (hO_Md : Only M Md (md + 5) (md + 7)), ((s.2.2.1 he).1 - j).toNat < nlp3 → WM G X 0 0 (bM X (PoV G (fun M' => Laid M' md s ge he fl ∧ Only M M' (md + 5) (md + 7))) 0 0 G) Md 37 [(0, .ref md), (1, .int (iI ge)), (2, .int (iI he)), (3, .int (iI fl)), (4, .int (iI j))] [] := by
          intro nlp3
          induction nlp3 with
          | zero => intro j Md hj0 hj1 hl1 hl2 hO_Md hm; omega
          | succ nlp3 ihlp3 =>
            intro j Md hj0 hj1 hl1 hl2 hO_Md hm
            have hS_Md := hO_Md.mds hS_M
            refine r_iload B 4 dX6_lays_37 rfl ?_
            refine r_aload_n B 0 dX6_lays_39 rfl ?_
            refine r_iload_n B 2 dX6_lays_40 rfl ?_
            refine r_pVi1 B (c_X6_teeth l G Md md hM he (by omega) (by omega)) ⟨rfl, rfl⟩ ok_X6_teeth vi_X6_teeth q_1013 hM.1 rfl (fun _ => rfl) ⟨Nat.le_of_ble_eq_true rfl, Nat.le_of_ble_eq_true rfl, Nat.le_of_ble_eq_true rfl⟩ ⟨Nat.le_of_ble_eq_true rfl, Nat.le_of_ble_eq_true rfl⟩ dX6_lays_41 ?_
            refine r_vi (y := (s.2.2.1 he).1) (hS_Md.2.2.1 he (by omega) (by omega)).1 ?_
            refine r_icmp_ge B dX6_lays_44 rfl ⟨by omega, by omega⟩ ⟨by omega, by omega⟩ (fun h4 => ?_) (fun h4 => ?_)
            · exact r_vret B dX6_lays_68 ⟨⟨fun k p q => hl1 k p q, fun k p q => hl2 k p (by omega)⟩, hO_Md⟩
            · have hv := hhk.ix (s := fl) (t := j) (by omega) (by omega) (by omega) (by omega)
              refine r_aload_n B 0 dX6_lays_47 rfl ?_
              refine rg6_other B hM.1 q_904 dX6_lays_48 ?_
              refine r_iload B 4 dX6_lays_51 rfl ?_
              refine r_aload_n B 0 dX6_lays_53 rfl ?_
              refine r_iload_n B 2 dX6_lays_54 rfl ?_
              refine r_iload_n B 3 dX6_lays_55 rfl ?_
              refine r_iload B 4 dX6_lays_56 rfl ?_
              refine r_pVi3 B (c_X6_indexOf l G Md md hM s hS_Md hok he fl j (by omega) (by omega) (by omega) (by omega) (by omega) (by omega)) ⟨rfl, rfl⟩ ok_X6_indexOf vi_X6_indexOf q_1090 hM.1 rfl (fun _ => rfl) ⟨Nat.le_of_ble_eq_true rfl, Nat.le_of_ble_eq_true rfl, Nat.le_of_ble_eq_true rfl⟩ ⟨Nat.le_of_ble_eq_true rfl, Nat.le_of_ble_eq_true rfl⟩ dX6_lays_58 ?_
              refine r_iastore B dX6_lays_61 hM.2.2.2.2.2.2.1 (by omega) (by omega) ?_
              refine WM.nm (fun M5 eM5 => ?_)
              refine r_iinc B (lv' := [(4, .int (iI (j + 1))), (0, .ref md), (1, .int (iI ge)), (2, .int (iI he)), (3, .int (iI fl))]) dX6_lays_62 (j := 4) rfl (by decide) rfl ?_
              refine r_goto B dX6_lays_65 rfl ?_
              refine WM.pick [1, 2, 3, 4, 0] rfl ?_
              refine ihlp3 (j + 1) M5 (by omega) (by omega) (fun k p q => by rw [eM5, gI_ne (by omega)]; exact hl1 k p q) ?_ (hO_Md.tr (by rw [eM5]; exact Only.sI (by omega) (by omega))) (by omega)
              · intro k p q
                rw [eM5]
                by_cases w : k = j
                · rw [w, gI_eq]
                · rw [gI_nk w]; exact hl2 k p (by omega)
        refine WM.pick [1, 2, 3, 4, 0] rfl ?_
        exact lp3 _ 0 Mc (by omega) (by omega) (fun k p q => hl k p (by omega)) (fun k p q => by omega) hO_Mc (Nat.lt_succ_self _)
      · have hv := hgk.ix (s := fl) (t := i) (by omega) (by omega) (by omega) (by omega)
        refine r_aload_n B 0 dX6_lays_13 rfl ?_
        refine rg6_one B hM.1 q_903 dX6_lays_14 ?_
        refine r_iload B 4 dX6_lays_17 rfl ?_
        refine r_aload_n B 0 dX6_lays_19 rfl ?_
        refine r_iload_n B 1 dX6_lays_20 rfl ?_
        refine r_iload_n B 3 dX6_lays_21 rfl ?_
        refine r_iload B 4 dX6_lays_22 rfl ?_
        refine r_pVi3 B (c_X6_indexOf l G Mc md hM s hS_Mc hok ge fl i (by omega) (by omega) (by omega) (by omega) (by omega) (by omega)) ⟨rfl, rfl⟩ ok_X6_indexOf vi_X6_indexOf q_1090 hM.1 rfl (fun _ => rfl) ⟨Nat.le_of_ble_eq_true rfl, Nat.le_of_ble_eq_true rfl, Nat.le_of_ble_eq_true rfl⟩ ⟨Nat.le_of_ble_eq_true rfl, Nat.le_of_ble_eq_true rfl⟩ dX6_lays_24 ?_
        refine r_iastore B dX6_lays_27 hM.2.2.2.2.2.1 (by omega) (by omega) ?_
        refine WM.nm (fun M6 eM6 => ?_)
        refine r_iinc B (lv' := [(4, .int (iI (i + 1))), (0, .ref md), (1, .int (iI ge)), (2, .int (iI he)), (3, .int (iI fl))]) dX6_lays_28 (j := 4) rfl (by decide) rfl ?_
        refine r_goto B dX6_lays_31 rfl ?_
        refine WM.pick [1, 2, 3, 4, 0] rfl ?_
        refine ihlp1 (i + 1) M6 (by omega) (by omega) ?_ (hO_Mc.tr (by rw [eM6]; exact Only.sI (by omega) (by omega))) (by omega)
        · intro k p q
          rw [eM6]
          by_cases w : k = i
          · rw [w, gI_eq]
          · rw [gI_nk w]; exact hl k p (by omega)
  refine WM.pick [1, 2, 3, 4, 0] rfl ?_
  exact lp1 _ 0 M (by omega) (by omega) (fun k p q => by omega) Only.rf (Nat.lt_succ_self _)

set_option maxRecDepth 100000 in
set_option maxHeartbeats 4000000 in
theorem c_X6_errorAt (l : Launch) (G : Gs) (M : Mem) (md : Nat) (hM : IsMd G md) (s : Ast) (hS_M : MdS M md s) (hok : StateOk s) (ge he ph fl : Int) (h0 : 0 ≤ ge) (h1 : ge < s.1) (k0 : 0 ≤ he) (k1 : he < s.1) (f0 : 0 ≤ fl) (f1 : fl < 2) (p0 : 0 ≤ ph) (p1 : ph ≤ 100) (hla : Laid M md s ge he fl) : Ct l G yX6_errorAt cX6_errorAt 9 (some .int) rm_X6_errorAt [.ref md, .int (iI ge), .int (iI he), .int (iI ph)] M (PoI G (Rd (erG s ge he fl ph) M)) 0 0 := by
  refine Ct.of (by decide +kernel) (Nat.le_of_ble_eq_true rfl) [(0, .ref md), (1, .int (iI ge)), (2, .int (iI he)), (3, .int (iI ph))] rfl ?_
  intro X B
  have hs1 := hok.1
  have hs2 := hok.2.1
  have hs3 := hok.2.2.1
  have hs4 := hok.2.2.2.1
  have hF_M : FL M M md := FL.rf
  have hgk := hok.2.2.2.2.1 ge (by omega) (by omega)
  obtain ⟨hgk1, hgk2, hgk3, hgk4, hgk5⟩ := id hgk
  have hhk := hok.2.2.2.2.1 he (by omega) (by omega)
  obtain ⟨hhk1, hhk2, hhk3, hhk4, hhk5⟩ := id hhk
  have hlc := lcI_in (a := (s.2.2.1 ge).1) (b := (s.2.2.1 he).1) (by omega) (by omega) (by omega) (by omega)
  have hwk := wkF_in (a := (s.2.2.1 ge).1) (b := (s.2.2.1 he).1) (c := ph) (A := 20000) (f := ixS (s.2.2.1 ge).1 ((s.2.2.1 ge).2.2 fl)) (h := ixS (s.2.2.1 he).1 ((s.2.2.1 he).2.2 fl)) (by omega) (by omega) (fun i p q => hgk.ix f0 f1 p (by omega)) (fun i p q => hhk.ix f0 f1 p (by omega))
  refine r_iconst B dX6_errorAt_0 ?_
  refine r_istore B (lv' := [(4, .int (iI 0)), (0, .ref md), (1, .int (iI ge)), (2, .int (iI he)), (3, .int (iI ph))]) dX6_errorAt_1 (by decide) rfl ?_
  refine r_iconst B dX6_errorAt_3 ?_
  refine r_istore B (lv' := [(5, .int (iI 0)), (4, .int (iI 0)), (0, .ref md), (1, .int (iI ge)), (2, .int (iI he)), (3, .int (iI ph))]) dX6_errorAt_4 (by decide) rfl ?_
  refine r_aload_n B 2 dX6_errorAt_6 rfl ?_
  refine r_iload_n B 3 dX6_errorAt_7 rfl ?_
  refine r_pVi1 B (c_X6_teeth l G M md hM ge (by omega) (by omega)) ⟨rfl, rfl⟩ ok_X6_teeth vi_X6_teeth q_1013 hM.1 rfl (fun _ => rfl) ⟨Nat.le_of_ble_eq_true rfl, Nat.le_of_ble_eq_true rfl, Nat.le_of_ble_eq_true rfl⟩ ⟨Nat.le_of_ble_eq_true rfl, Nat.le_of_ble_eq_true rfl⟩ dX6_errorAt_8 ?_
  refine r_vi (y := (s.2.2.1 ge).1) (hS_M.2.2.1 ge (by omega) (by omega)).1 ?_
  refine r_aload_n B 2 dX6_errorAt_11 rfl ?_
  refine r_iload_n B 4 dX6_errorAt_12 rfl ?_
  refine r_pVi1 B (c_X6_teeth l G M md hM he (by omega) (by omega)) ⟨rfl, rfl⟩ ok_X6_teeth vi_X6_teeth q_1013 hM.1 rfl (fun _ => rfl) ⟨Nat.le_of_ble_eq_true rfl, Nat.le_of_ble_eq_true rfl, Nat.le_of_ble_eq_true rfl⟩ ⟨Nat.le_of_ble_eq_true rfl, Nat.le_of_ble_eq_true rfl⟩ dX6_errorAt_13 ?_
  refine r_vi (y := (s.2.2.1 he).1) (hS_M.2.2.1 he (by omega) (by omega)).1 ?_
  refine r_pSi2 B (c_X6_common l G M  ((s.2.2.1 ge).1) ((s.2.2.1 he).1) (by omega) (by omega) (by omega) (by omega)) ⟨rfl, rfl⟩ ok_X6_common q_1250 q_1249 ⟨Nat.le_of_ble_eq_true rfl, Nat.le_of_ble_eq_true rfl, Nat.le_of_ble_eq_true rfl⟩ ⟨Nat.le_of_ble_eq_true rfl, Nat.le_of_ble_eq_true rfl⟩ dX6_errorAt_16 ?_
  refine r_istore B (lv' := [(6, .int (iI (lcI ((s.2.2.1 ge).1) ((s.2.2.1 he).1)))), (5, .int (iI 0)), (4, .int (iI 0)), (0, .ref md), (1, .int (iI ge)), (2, .int (iI he)), (3, .int (iI ph))]) dX6_errorAt_19 (by decide) rfl ?_
  refine r_iconst B dX6_errorAt_21 ?_
  refine r_istore B (lv' := [(7, .int (iI 0)), (6, .int (iI (lcI ((s.2.2.1 ge).1) ((s.2.2.1 he).1)))), (5, .int (iI 0)), (4, .int (iI 0)), (0, .ref md), (1, .int (iI ge)), (2, .int (iI he)), (3, .int (iI ph))]) dX6_errorAt_22 (by decide) rfl ?_
  have lp1 : ∀ (nlp1 : Nat) (k : Int) (mo : Int) (le : Int) (hk0 : 0 ≤ k) (hk1 : k ≤ lcI (s.2.2.1 ge).1 (s.2.2.1 he).1) (hmo : (k = 0 ∧ mo = 0 ∧ le = 0) ∨ (1 ≤ k ∧ mo = mxF (wkF (s.2.2.1 ge).1 (s.2.2.1 he).1 (ixS (s.2.2.1 ge).1 ((s.2.2.1 ge).2.2 fl)) (ixS (s.2.2.1 he).1 ((s.2.2.1 he).2.2 fl)) ph) (k - 1).toNat ∧ le = mnF (wkF (s.2.2.1 ge).1 (s.2.2.1 he).1 (ixS (s.2.2.1 ge).1 ((s.2.2.1 ge).2.2 fl)) (ixS (s.2.2.1 he).1 ((s.2.2.1 he).2.2 fl)) ph) (k - 1).toNat)), (lcI (s.2.2.1 ge).1 (s.2.2.1 he).1 - k).toNat < nlp1 → WM G X 0 0 (bM X (PoI G (Rd (erG s ge he fl ph) M)) 0 0 G) M 24 [(0, .ref md), (1, .int (iI ge)), (2, .int (iI he)), (3, .int (iI ph)), (4, .int (iI mo)), (5, .int (iI le)), (6, .int (iI (lcI (s.2.2.1 ge).1 (s.2.2.1 he).1))), (7, .int (iI k))] [] := by
    intro nlp1
    induction nlp1 with
    | zero => intro k mo le hk0 hk1 hmo hm; omega
    | succ nlp1 ihlp1 =>
      intro k mo le hk0 hk1 hmo hm
      have hbm : -40000 ≤ mo ∧ mo ≤ 40000 ∧ -40000 ≤ le ∧ le ≤ 40000 := by
        rcases hmo with ⟨w1, w2, w3⟩ | ⟨w1, w2, w3⟩
        · omega
        · have a1 := mxF_in (f := wkF (s.2.2.1 ge).1 (s.2.2.1 he).1 (ixS (s.2.2.1 ge).1 ((s.2.2.1 ge).2.2 fl)) (ixS (s.2.2.1 he).1 ((s.2.2.1 he).2.2 fl)) ph) (L := -40000) (A := 40000) (k - 1).toNat (fun q a b => by have w := hwk q; omega)
          have a2 := mnF_in (f := wkF (s.2.2.1 ge).1 (s.2.2.1 he).1 (ixS (s.2.2.1 ge).1 ((s.2.2.1 ge).2.2 fl)) (ixS (s.2.2.1 he).1 ((s.2.2.1 he).2.2 fl)) ph) (L := -40000) (A := 40000) (k - 1).toNat (fun q a b => by have w := hwk q; omega)
          omega
      have u0 := Int.emod_nonneg k (show (s.2.2.1 ge).1 ≠ 0 by omega)
      have v0 := Int.emod_lt_of_pos k (show 0 < (s.2.2.1 ge).1 by omega)
      have u1 := Int.emod_nonneg (k + ph) (show (s.2.2.1 he).1 ≠ 0 by omega)
      have v1 := Int.emod_lt_of_pos (k + ph) (show 0 < (s.2.2.1 he).1 by omega)
      refine r_iload B 7 dX6_errorAt_24 rfl ?_
      refine r_iload B 6 dX6_errorAt_26 rfl ?_
      refine r_icmp_ge B dX6_errorAt_28 rfl ⟨by omega, by omega⟩ ⟨by omega, by omega⟩ (fun h2 => ?_) (fun h2 => ?_)
      · refine r_iload B 4 dX6_errorAt_110 rfl ?_
        refine r_iload B 5 dX6_errorAt_112 rfl ?_
        refine r_isub B dX6_errorAt_114 ?_
        exact r_iret B dX6_errorAt_115 ⟨by rcases hmo with ⟨w1, w2, w3⟩ | ⟨w1, w2, w3⟩; omega; rw [w2, w3, show k - 1 = lcI (s.2.2.1 ge).1 (s.2.2.1 he).1 - 1 by omega]; exact walk_er s ge he fl ph (by omega) (by omega), rfl⟩
      · refine r_aload_n B 0 dX6_errorAt_31 rfl ?_
        refine rg6_one B hM.1 q_903 dX6_errorAt_32 ?_
        refine r_iload B 7 dX6_errorAt_35 rfl ?_
        refine r_aload_n B 0 dX6_errorAt_37 rfl ?_
        refine r_iload_n B 1 dX6_errorAt_38 rfl ?_
        refine r_pVi1 B (c_X6_teeth l G M md hM ge (by omega) (by omega)) ⟨rfl, rfl⟩ ok_X6_teeth vi_X6_teeth q_1013 hM.1 rfl (fun _ => rfl) ⟨Nat.le_of_ble_eq_true rfl, Nat.le_of_ble_eq_true rfl, Nat.le_of_ble_eq_true rfl⟩ ⟨Nat.le_of_ble_eq_true rfl, Nat.le_of_ble_eq_true rfl⟩ dX6_errorAt_39 ?_
        refine r_vi (y := (s.2.2.1 ge).1) (hS_M.2.2.1 ge (by omega) (by omega)).1 ?_
        refine r_irem B dX6_errorAt_42 ⟨by omega, by omega⟩ ⟨by omega, by omega⟩ (by omega) ?_
        refine r_vi (y := k % (s.2.2.1 ge).1) (Int.tmod_eq_emod_of_nonneg (by omega)) ?_
        refine r_iaload B dX6_errorAt_43 hM.2.2.2.2.2.1 (by omega) (by omega) ?_
        refine r_vi (y := ixS (s.2.2.1 ge).1 ((s.2.2.1 ge).2.2 fl) (k % (s.2.2.1 ge).1)) (hla.1 _ (by omega) (by omega)) ?_
        refine r_aload_n B 0 dX6_errorAt_44 rfl ?_
        refine rg6_other B hM.1 q_904 dX6_errorAt_45 ?_
        refine r_iload B 7 dX6_errorAt_48 rfl ?_
        refine r_iload_n B 3 dX6_errorAt_50 rfl ?_
        refine r_iadd B dX6_errorAt_51 ?_
        refine r_aload_n B 0 dX6_errorAt_52 rfl ?_
        refine r_iload_n B 2 dX6_errorAt_53 rfl ?_
        refine r_pVi1 B (c_X6_teeth l G M md hM he (by omega) (by omega)) ⟨rfl, rfl⟩ ok_X6_teeth vi_X6_teeth q_1013 hM.1 rfl (fun _ => rfl) ⟨Nat.le_of_ble_eq_true rfl, Nat.le_of_ble_eq_true rfl, Nat.le_of_ble_eq_true rfl⟩ ⟨Nat.le_of_ble_eq_true rfl, Nat.le_of_ble_eq_true rfl⟩ dX6_errorAt_54 ?_
        refine r_vi (y := (s.2.2.1 he).1) (hS_M.2.2.1 he (by omega) (by omega)).1 ?_
        refine r_irem B dX6_errorAt_57 ⟨by omega, by omega⟩ ⟨by omega, by omega⟩ (by omega) ?_
        refine r_vi (y := (k + ph) % (s.2.2.1 he).1) (Int.tmod_eq_emod_of_nonneg (by omega)) ?_
        refine r_iaload B dX6_errorAt_58 hM.2.2.2.2.2.2.1 (by omega) (by omega) ?_
        refine r_vi (y := ixS (s.2.2.1 he).1 ((s.2.2.1 he).2.2 fl) ((k + ph) % (s.2.2.1 he).1)) (hla.2 _ (by omega) (by omega)) ?_
        refine r_iadd B dX6_errorAt_59 ?_
        refine r_nmi (fun v ev => ?_)
        have hv : v = wkF (s.2.2.1 ge).1 (s.2.2.1 he).1 (ixS (s.2.2.1 ge).1 ((s.2.2.1 ge).2.2 fl)) (ixS (s.2.2.1 he).1 ((s.2.2.1 he).2.2 fl)) ph k := ev
        have hvb := hwk k
        rw [← hv] at hvb
        refine r_istore B (lv' := [(8, .int (iI v)), (0, .ref md), (1, .int (iI ge)), (2, .int (iI he)), (3, .int (iI ph)), (4, .int (iI mo)), (5, .int (iI le)), (6, .int (iI (lcI (s.2.2.1 ge).1 (s.2.2.1 he).1))), (7, .int (iI k))]) dX6_errorAt_60 (by decide) rfl ?_
        refine r_iload B 8 dX6_errorAt_62 rfl ?_
        have J3 : ∀ w1 : Int, (w1 = if k = 0 then v else max mo v) → WM G X 0 0 (bM X (PoI G (Rd (erG s ge he fl ph) M)) 0 0 G) M 81 [(8, .int (iI v)), (0, .ref md), (1, .int (iI ge)), (2, .int (iI he)), (3, .int (iI ph)), (4, .int (iI mo)), (5, .int (iI le)), (6, .int (iI (lcI (s.2.2.1 ge).1 (s.2.2.1 he).1))), (7, .int (iI k))] [.int (iI w1)] := by
          intro w1 hw1
          refine r_istore B (lv' := [(4, .int (iI w1)), (8, .int (iI v)), (0, .ref md), (1, .int (iI ge)), (2, .int (iI he)), (3, .int (iI ph)), (5, .int (iI le)), (6, .int (iI (lcI (s.2.2.1 ge).1 (s.2.2.1 he).1))), (7, .int (iI k))]) dX6_errorAt_81 (by decide) rfl ?_
          refine r_iload B 8 dX6_errorAt_83 rfl ?_
          have J4 : ∀ w2 : Int, (w2 = if k = 0 then v else min le v) → WM G X 0 0 (bM X (PoI G (Rd (erG s ge he fl ph) M)) 0 0 G) M 102 [(4, .int (iI w1)), (8, .int (iI v)), (0, .ref md), (1, .int (iI ge)), (2, .int (iI he)), (3, .int (iI ph)), (5, .int (iI le)), (6, .int (iI (lcI (s.2.2.1 ge).1 (s.2.2.1 he).1))), (7, .int (iI k))] [.int (iI w2)] := by
            intro w2 hw2
            refine r_istore B (lv' := [(5, .int (iI w2)), (4, .int (iI w1)), (8, .int (iI v)), (0, .ref md), (1, .int (iI ge)), (2, .int (iI he)), (3, .int (iI ph)), (6, .int (iI (lcI (s.2.2.1 ge).1 (s.2.2.1 he).1))), (7, .int (iI k))]) dX6_errorAt_102 (by decide) rfl ?_
            refine r_iinc B (lv' := [(7, .int (iI (k + 1))), (5, .int (iI w2)), (4, .int (iI w1)), (8, .int (iI v)), (0, .ref md), (1, .int (iI ge)), (2, .int (iI he)), (3, .int (iI ph)), (6, .int (iI (lcI (s.2.2.1 ge).1 (s.2.2.1 he).1)))]) dX6_errorAt_104 (j := 8) rfl (by decide) rfl ?_
            refine r_goto B dX6_errorAt_107 rfl ?_
            refine WM.pick [4, 5, 6, 7, 2, 1, 8, 0] rfl ?_
            refine ihlp1 (k + 1) _ _ (by omega) (by omega) ?_ (by omega)
            · refine Or.inr ⟨by omega, ?_, ?_⟩
              · rw [show k + 1 - 1 = k by omega]
                rcases hmo with ⟨x1, x2, x3⟩ | ⟨x1, x2, x3⟩
                · rw [hw1, if_pos x1, hv, x1]; rfl
                · rw [mxF_s _ x1, ← x2, hw1, if_neg (by omega), hv]
              · rw [show k + 1 - 1 = k by omega]
                rcases hmo with ⟨x1, x2, x3⟩ | ⟨x1, x2, x3⟩
                · rw [hw2, if_pos x1, hv, x1]; rfl
                · rw [mnF_s _ x1, ← x3, hw2, if_neg (by omega), hv]
          refine r_if_eq B dX6_errorAt_85 rfl ⟨by omega, by omega⟩ (fun h5 => ?_) (fun h5 => ?_)
          · refine r_iload B 1 dX6_errorAt_95 rfl ?_
            refine r_goto B dX6_errorAt_97 rfl ?_
            exact J4 _ (by rw [if_pos h5])
          · refine r_iload B 1 dX6_errorAt_88 rfl ?_
            refine r_iload B 6 dX6_errorAt_90 rfl ?_
            refine r_icmp_ge B dX6_errorAt_92 rfl ⟨by omega, by omega⟩ ⟨by omega, by omega⟩ (fun h6 => ?_) (fun h6 => ?_)
            · refine r_iload B 6 dX6_errorAt_100 rfl ?_
              exact J4 _ (by rw [if_neg h5]; omega)
            · refine r_iload B 1 dX6_errorAt_95 rfl ?_
              refine r_goto B dX6_errorAt_97 rfl ?_
              exact J4 _ (by rw [if_neg h5]; omega)
        refine r_if_eq B dX6_errorAt_64 rfl ⟨by omega, by omega⟩ (fun h7 => ?_) (fun h7 => ?_)
        · refine r_iload B 0 dX6_errorAt_74 rfl ?_
          refine r_goto B dX6_errorAt_76 rfl ?_
          exact J3 _ (by rw [if_pos h7])
        · refine r_iload B 0 dX6_errorAt_67 rfl ?_
          refine r_iload B 5 dX6_errorAt_69 rfl ?_
          refine r_icmp_le B dX6_errorAt_71 rfl ⟨by omega, by omega⟩ ⟨by omega, by omega⟩ (fun h8 => ?_) (fun h8 => ?_)
          · refine r_iload B 5 dX6_errorAt_79 rfl ?_
            exact J3 _ (by rw [if_neg h7]; omega)
          · refine r_iload B 0 dX6_errorAt_74 rfl ?_
            refine r_goto B dX6_errorAt_76 rfl ?_
            exact J3 _ (by rw [if_neg h7]; omega)
  refine WM.pick [4, 5, 6, 7, 3, 2, 1, 0] rfl ?_
  exact lp1 _ 0 0 0 (by omega) (by omega) (Or.inl ⟨rfl, rfl, rfl⟩) (Nat.lt_succ_self _)

set_option maxRecDepth 100000 in
set_option maxHeartbeats 4000000 in
theorem c_X6_phaseOf (l : Launch) (G : Gs) (M : Mem) (md : Nat) (hM : IsMd G md) (s : Ast) (hS_M : MdS M md s) (hok : StateOk s) (ge he fl : Int) (h0 : 0 ≤ ge) (h1 : ge < s.1) (k0 : 0 ≤ he) (k1 : he < s.1) (f0 : 0 ≤ fl) (f1 : fl < 2) : Ct l G yX6_phaseOf cX6_phaseOf 6 (some .int) rm_X6_phaseOf [.ref md, .int (iI ge), .int (iI he), .int (iI fl)] M (PoI G (fun r M' => r = phG s ge he fl ∧ Laid M' md s ge he fl ∧ Only M M' (md + 5) (md + 7))) 0 0 := by
  refine Ct.of (by decide +kernel) (Nat.le_of_ble_eq_true rfl) [(0, .ref md), (1, .int (iI ge)), (2, .int (iI he)), (3, .int (iI fl))] rfl ?_
  intro X B
  have hs1 := hok.1
  have hs2 := hok.2.1
  have hs3 := hok.2.2.1
  have hs4 := hok.2.2.2.1
  have hF_M : FL M M md := FL.rf
  have hO_M : Only M M (md + 5) (md + 7) := Only.rf
  have hgk := hok.2.2.2.2.1 ge (by omega) (by omega)
  obtain ⟨hgk1, hgk2, hgk3, hgk4, hgk5⟩ := id hgk
  have hhk := hok.2.2.2.2.1 he (by omega) (by omega)
  obtain ⟨hhk1, hhk2, hhk3, hhk4, hhk5⟩ := id hhk
  refine r_aload_n B 0 dX6_phaseOf_0 rfl ?_
  refine r_iload_n B 1 dX6_phaseOf_1 rfl ?_
  refine r_iload_n B 2 dX6_phaseOf_2 rfl ?_
  refine r_iload_n B 3 dX6_phaseOf_3 rfl ?_
  refine r_Vv3 B (c_X6_lays l G M md hM s hS_M hok ge he fl (by omega) (by omega) (by omega) (by omega) (by omega) (by omega)) ⟨rfl, rfl⟩ ok_X6_lays vi_X6_lays q_1241 hM.1 rfl (fun _ => rfl) ⟨Nat.le_of_ble_eq_true rfl, Nat.le_of_ble_eq_true rfl, Nat.le_of_ble_eq_true rfl⟩ ⟨Nat.le_of_ble_eq_true rfl, Nat.le_of_ble_eq_true rfl⟩ dX6_phaseOf_4 (fun Y1 hyY1 => ?_)
  obtain ⟨hla_Y1, hY_Y1⟩ := hyY1
  have hS_Y1 := hY_Y1.mds hS_M
  have hO_Y1 := hO_M.tr hY_Y1
  refine r_iconst B dX6_phaseOf_7 ?_
  refine r_istore B (lv' := [(4, .int (iI 0)), (0, .ref md), (1, .int (iI ge)), (2, .int (iI he)), (3, .int (iI fl))]) dX6_phaseOf_8 (by decide) rfl ?_
  refine r_iconst B dX6_phaseOf_10 ?_
  refine r_istore B (lv' := [(5, .int (iI 1)), (4, .int (iI 0)), (0, .ref md), (1, .int (iI ge)), (2, .int (iI he)), (3, .int (iI fl))]) dX6_phaseOf_11 (by decide) rfl ?_
  have her := fun ph => erG_in hok h0 h1 k0 k1 f0 f1 ph
  have lp2 : ∀ (nlp2 : Nat) (i : Int) (be : Int) (hi0 : 1 ≤ i) (hi1 : i ≤ (s.2.2.1 he).1) (hbe : be = psF (erG s ge he fl) (i - 1).toNat), ((s.2.2.1 he).1 - i).toNat < nlp2 → WM G X 0 0 (bM X (PoI G (fun r M' => r = phG s ge he fl ∧ Laid M' md s ge he fl ∧ Only M M' (md + 5) (md + 7))) 0 0 G) Y1 13 [(0, .ref md), (1, .int (iI ge)), (2, .int (iI he)), (3, .int (iI fl)), (4, .int (iI be)), (5, .int (iI i))] [] := by
    intro nlp2
    induction nlp2 with
    | zero => intro i be hi0 hi1 hbe hm; omega
    | succ nlp2 ihlp2 =>
      intro i be hi0 hi1 hbe hm
      have hps := psF_in (erG s ge he fl) (i - 1).toNat
      have her1 := her i
      have her2 := her be
      refine r_iload B 5 dX6_phaseOf_13 rfl ?_
      refine r_aload_n B 0 dX6_phaseOf_15 rfl ?_
      refine r_iload_n B 2 dX6_phaseOf_16 rfl ?_
      refine r_pVi1 B (c_X6_teeth l G Y1 md hM he (by omega) (by omega)) ⟨rfl, rfl⟩ ok_X6_teeth vi_X6_teeth q_1013 hM.1 rfl (fun _ => rfl) ⟨Nat.le_of_ble_eq_true rfl, Nat.le_of_ble_eq_true rfl, Nat.le_of_ble_eq_true rfl⟩ ⟨Nat.le_of_ble_eq_true rfl, Nat.le_of_ble_eq_true rfl⟩ dX6_phaseOf_17 ?_
      refine r_vi (y := (s.2.2.1 he).1) (hS_Y1.2.2.1 he (by omega) (by omega)).1 ?_
      refine r_icmp_ge B dX6_phaseOf_20 rfl ⟨by omega, by omega⟩ ⟨by omega, by omega⟩ (fun h3 => ?_) (fun h3 => ?_)
      · refine r_iload B 4 dX6_phaseOf_57 rfl ?_
        exact r_iret B dX6_phaseOf_59 ⟨by rw [hbe, show i - 1 = (s.2.2.1 he).1 - 1 by omega]; exact phG_eq hok h0 h1 k0 k1, hla_Y1, hO_Y1⟩
      · refine r_aload_n B 0 dX6_phaseOf_23 rfl ?_
        refine r_iload_n B 1 dX6_phaseOf_24 rfl ?_
        refine r_iload_n B 2 dX6_phaseOf_25 rfl ?_
        refine r_iload B 5 dX6_phaseOf_26 rfl ?_
        refine r_pVi3 B (c_X6_errorAt l G Y1 md hM s hS_Y1 hok ge he i fl (by omega) (by omega) (by omega) (by omega) (by omega) (by omega) (by omega) (by omega) hla_Y1) ⟨rfl, rfl⟩ ok_X6_errorAt vi_X6_errorAt q_1245 hM.1 rfl (fun _ => rfl) ⟨Nat.le_of_ble_eq_true rfl, Nat.le_of_ble_eq_true rfl, Nat.le_of_ble_eq_true rfl⟩ ⟨Nat.le_of_ble_eq_true rfl, Nat.le_of_ble_eq_true rfl⟩ dX6_phaseOf_28 ?_
        refine r_aload_n B 0 dX6_phaseOf_31 rfl ?_
        refine r_iload_n B 1 dX6_phaseOf_32 rfl ?_
        refine r_iload_n B 2 dX6_phaseOf_33 rfl ?_
        refine r_iload B 4 dX6_phaseOf_34 rfl ?_
        refine r_pVi3 B (c_X6_errorAt l G Y1 md hM s hS_Y1 hok ge he be fl (by omega) (by omega) (by omega) (by omega) (by omega) (by omega) (by omega) (by omega) hla_Y1) ⟨rfl, rfl⟩ ok_X6_errorAt vi_X6_errorAt q_1245 hM.1 rfl (fun _ => rfl) ⟨Nat.le_of_ble_eq_true rfl, Nat.le_of_ble_eq_true rfl, Nat.le_of_ble_eq_true rfl⟩ ⟨Nat.le_of_ble_eq_true rfl, Nat.le_of_ble_eq_true rfl⟩ dX6_phaseOf_36 ?_
        have J4 : ∀ w1 : Int, (w1 = if erG s ge he fl i < erG s ge he fl be then i else be) → WM G X 0 0 (bM X (PoI G (fun r M' => r = phG s ge he fl ∧ Laid M' md s ge he fl ∧ Only M M' (md + 5) (md + 7))) 0 0 G) Y1 49 [(0, .ref md), (1, .int (iI ge)), (2, .int (iI he)), (3, .int (iI fl)), (4, .int (iI be)), (5, .int (iI i))] [.int (iI w1)] := by
          intro w1 hw1
          refine r_istore B (lv' := [(4, .int (iI w1)), (0, .ref md), (1, .int (iI ge)), (2, .int (iI he)), (3, .int (iI fl)), (5, .int (iI i))]) dX6_phaseOf_49 (by decide) rfl ?_
          refine r_iinc B (lv' := [(5, .int (iI (i + 1))), (4, .int (iI w1)), (0, .ref md), (1, .int (iI ge)), (2, .int (iI he)), (3, .int (iI fl))]) dX6_phaseOf_51 (j := 5) rfl (by decide) rfl ?_
          refine r_goto B dX6_phaseOf_54 rfl ?_
          refine WM.pick [2, 3, 4, 5, 1, 0] rfl ?_
          exact ihlp2 (i + 1) _ (by omega) (by omega) (by rw [show i + 1 - 1 = i by omega, psF_s _ hi0, ← hbe]; exact hw1) (by omega)
        refine r_icmp_ge B dX6_phaseOf_39 rfl ⟨by omega, by omega⟩ ⟨by omega, by omega⟩ (fun h5 => ?_) (fun h5 => ?_)
        · refine r_iload B 4 dX6_phaseOf_47 rfl ?_
          exact J4 _ (by rw [if_neg (by omega)])
        · refine r_iload B 5 dX6_phaseOf_42 rfl ?_
          refine r_goto B dX6_phaseOf_44 rfl ?_
          exact J4 _ (by rw [if_pos (by omega)])
  refine WM.pick [2, 3, 4, 5, 1, 0] rfl ?_
  exact lp2 _ 1 0 (by omega) (by omega) rfl (Nat.lt_succ_self _)

set_option maxRecDepth 100000 in
set_option maxHeartbeats 4000000 in
theorem c_X6_mesh (l : Launch) (G : Gs) (M : Mem) (md : Nat) (hM : IsMd G md) (s : Ast) (hS_M : MdS M md s) (hok : StateOk s) (ge he fl ph : Int) (hge : In32 ge) (hhe : In32 he) (hfl : In32 fl) (hph : In32 ph) : Ct l G yX6_mesh cX6_mesh 5 (some .int) rm_X6_mesh [.ref md, .int (iI ge), .int (iI he), .int (iI fl), .int (iI ph)] M (PoI G (fun r M' => r = (oMesh s ge he fl ph).2 ∧ ∃ M1 : Mem, Only M M1 (md + 5) (md + 7) ∧ M' = sI M1 md 6 (oMesh s ge he fl ph).1)) 0 0 := by
  refine Ct.of (by decide +kernel) (Nat.le_of_ble_eq_true rfl) [(0, .ref md), (1, .int (iI ge)), (2, .int (iI he)), (3, .int (iI fl)), (4, .int (iI ph))] rfl ?_
  intro X B
  have hs1 := hok.1
  have hs2 := hok.2.1
  have hs3 := hok.2.2.1
  have hs4 := hok.2.2.2.1
  have hF_M : FL M M md := FL.rf
  obtain ⟨hge1, hge2⟩ := hge
  obtain ⟨hhe1, hhe2⟩ := hhe
  obtain ⟨hfl1, hfl2⟩ := hfl
  obtain ⟨hph1, hph2⟩ := hph
  have hO_M : Only M M (md + 5) (md + 7) := Only.rf
  have i1 := bF_in ((0 ≤ ge ∧ ge < s.1) ∧ (0 ≤ fl ∧ fl < 2))
  have i2 := inF_in he 0 (s.1 - 1)
  refine r_aload_n B 0 dX6_mesh_0 rfl ?_
  refine r_iload_n B 1 dX6_mesh_1 rfl ?_
  refine r_iload_n B 3 dX6_mesh_2 rfl ?_
  refine r_pVz2 B (c_X6_isFlank l G M md hM s hS_M hok ge fl ⟨by omega, by omega⟩ ⟨by omega, by omega⟩) ⟨rfl, rfl⟩ ok_X6_isFlank vi_X6_isFlank q_1142 hM.1 rfl (fun _ => rfl) ⟨Nat.le_of_ble_eq_true rfl, Nat.le_of_ble_eq_true rfl, Nat.le_of_ble_eq_true rfl⟩ ⟨Nat.le_of_ble_eq_true rfl, Nat.le_of_ble_eq_true rfl⟩ dX6_mesh_3 ?_
  refine r_if_eq B dX6_mesh_6 rfl ⟨by omega, by omega⟩ (fun h1 => ?_) (fun h1 => ?_)
  · have q_h1 := bF_0 h1
    refine r_aload_n B 0 dX6_mesh_17 rfl ?_
    refine r_iconst B dX6_mesh_18 ?_
    refine r_Vi1 B (c_X6_fails l G M md hM 1) ⟨rfl, rfl⟩ ok_X6_fails vi_X6_fails q_964 hM.1 rfl (fun _ => rfl) ⟨Nat.le_of_ble_eq_true rfl, Nat.le_of_ble_eq_true rfl, Nat.le_of_ble_eq_true rfl⟩ ⟨Nat.le_of_ble_eq_true rfl, Nat.le_of_ble_eq_true rfl⟩ dX6_mesh_19 (fun rf Mf hff => ?_)
    obtain ⟨hf1, hf2⟩ := hff
    rw [hf1, hf2]
    clear hf1 hf2
    have ho : oMesh s ge he fl ph = (1, 0) := by unfold oMesh; rw [if_pos (by omega)]
    exact r_iret B dX6_mesh_22 ⟨by rw [ho], _, hO_M, by rw [ho]⟩
  · have q_h1 := bF_1 h1
    refine r_aload_n B 0 dX6_mesh_9 rfl ?_
    refine r_iload_n B 2 dX6_mesh_10 rfl ?_
    refine r_pVz1 B (c_X6_isGear l G M md hM s hS_M hok he ⟨by omega, by omega⟩) ⟨rfl, rfl⟩ ok_X6_isGear vi_X6_isGear q_988 hM.1 rfl (fun _ => rfl) ⟨Nat.le_of_ble_eq_true rfl, Nat.le_of_ble_eq_true rfl, Nat.le_of_ble_eq_true rfl⟩ ⟨Nat.le_of_ble_eq_true rfl, Nat.le_of_ble_eq_true rfl⟩ dX6_mesh_11 ?_
    refine r_if_ne B dX6_mesh_14 rfl ⟨by omega, by omega⟩ (fun h2 => ?_) (fun h2 => ?_)
    · have q_h2 := inF_1 h2
      have hgk := hok.2.2.2.2.1 ge (by omega) (by omega)
      obtain ⟨hgk1, hgk2, hgk3, hgk4, hgk5⟩ := id hgk
      have hhk := hok.2.2.2.2.1 he (by omega) (by omega)
      obtain ⟨hhk1, hhk2, hhk3, hhk4, hhk5⟩ := id hhk
      have i3 := inF_in ph 0 ((s.2.2.1 he).1 - 1)
      refine r_iload B 4 dX6_mesh_23 rfl ?_
      refine r_i2l B dX6_mesh_25 ⟨by omega, by omega⟩ ?_
      refine r_lconst0 B dX6_mesh_26 ?_
      refine r_aload_n B 0 dX6_mesh_27 rfl ?_
      refine r_iload_n B 2 dX6_mesh_28 rfl ?_
      refine r_pVi1 B (c_X6_teeth l G M md hM he (by omega) (by omega)) ⟨rfl, rfl⟩ ok_X6_teeth vi_X6_teeth q_1013 hM.1 rfl (fun _ => rfl) ⟨Nat.le_of_ble_eq_true rfl, Nat.le_of_ble_eq_true rfl, Nat.le_of_ble_eq_true rfl⟩ ⟨Nat.le_of_ble_eq_true rfl, Nat.le_of_ble_eq_true rfl⟩ dX6_mesh_29 ?_
      refine r_vi (y := (s.2.2.1 he).1) (hS_M.2.2.1 he (by omega) (by omega)).1 ?_
      refine r_iconst B dX6_mesh_32 ?_
      refine r_isub B dX6_mesh_33 ?_
      refine r_i2l B dX6_mesh_34 ⟨by omega, by omega⟩ ?_
      refine r_pSz3 B (c_X6_in l G M  ph 0 (((s.2.2.1 he).1) - 1) ⟨by omega, by omega⟩ ⟨by omega, by omega⟩ ⟨by omega, by omega⟩) ⟨rfl, rfl⟩ ok_X6_in q_961 q_960 ⟨Nat.le_of_ble_eq_true rfl, Nat.le_of_ble_eq_true rfl, Nat.le_of_ble_eq_true rfl⟩ ⟨Nat.le_of_ble_eq_true rfl, Nat.le_of_ble_eq_true rfl⟩ dX6_mesh_35 ?_
      refine r_if_ne B dX6_mesh_38 rfl ⟨by omega, by omega⟩ (fun h3 => ?_) (fun h3 => ?_)
      · have q_h3 := inF_1 h3
        refine r_aload_n B 0 dX6_mesh_47 rfl ?_
        refine r_iload_n B 1 dX6_mesh_48 rfl ?_
        refine r_iload_n B 2 dX6_mesh_49 rfl ?_
        refine r_iload_n B 3 dX6_mesh_50 rfl ?_
        refine r_Vv3 B (c_X6_lays l G M md hM s hS_M hok ge he fl (by omega) (by omega) (by omega) (by omega) (by omega) (by omega)) ⟨rfl, rfl⟩ ok_X6_lays vi_X6_lays q_1241 hM.1 rfl (fun _ => rfl) ⟨Nat.le_of_ble_eq_true rfl, Nat.le_of_ble_eq_true rfl, Nat.le_of_ble_eq_true rfl⟩ ⟨Nat.le_of_ble_eq_true rfl, Nat.le_of_ble_eq_true rfl⟩ dX6_mesh_51 (fun Y4 hyY4 => ?_)
        obtain ⟨hla_Y4, hY_Y4⟩ := hyY4
        have hS_Y4 := hY_Y4.mds hS_M
        have hO_Y4 := hO_M.tr hY_Y4
        have her := erG_in hok (g := ge) (k := he) (f := fl) (by omega) (by omega) (by omega) (by omega) (by omega) (by omega) ph
        refine r_aload_n B 0 dX6_mesh_54 rfl ?_
        refine r_aload_n B 0 dX6_mesh_55 rfl ?_
        refine r_iload_n B 1 dX6_mesh_56 rfl ?_
        refine r_iload_n B 2 dX6_mesh_57 rfl ?_
        refine r_iload B 4 dX6_mesh_58 rfl ?_
        refine r_pVi3 B (c_X6_errorAt l G Y4 md hM s hS_Y4 hok ge he ph fl (by omega) (by omega) (by omega) (by omega) (by omega) (by omega) (by omega) (by omega) hla_Y4) ⟨rfl, rfl⟩ ok_X6_errorAt vi_X6_errorAt q_1245 hM.1 rfl (fun _ => rfl) ⟨Nat.le_of_ble_eq_true rfl, Nat.le_of_ble_eq_true rfl, Nat.le_of_ble_eq_true rfl⟩ ⟨Nat.le_of_ble_eq_true rfl, Nat.le_of_ble_eq_true rfl⟩ dX6_mesh_60 ?_
        refine r_Vi1 B (c_X6_tells l G Y4 md hM (erG s ge he fl ph)) ⟨rfl, rfl⟩ ok_X6_tells vi_X6_tells q_980 hM.1 rfl (fun _ => rfl) ⟨Nat.le_of_ble_eq_true rfl, Nat.le_of_ble_eq_true rfl, Nat.le_of_ble_eq_true rfl⟩ ⟨Nat.le_of_ble_eq_true rfl, Nat.le_of_ble_eq_true rfl⟩ dX6_mesh_63 (fun rf Mf hff => ?_)
        obtain ⟨hf1, hf2⟩ := hff
        rw [hf1, hf2]
        clear hf1 hf2
        have ho : oMesh s ge he fl ph = (0, erG s ge he fl ph) := by unfold oMesh; rw [if_neg (by omega), if_neg (by omega)]
        exact r_iret B dX6_mesh_66 ⟨by rw [ho], _, hO_Y4, by rw [ho]⟩
      · have q_h3 := inF_0 h3
        refine r_aload_n B 0 dX6_mesh_41 rfl ?_
        refine r_iconst B dX6_mesh_42 ?_
        refine r_Vi1 B (c_X6_fails l G M md hM 2) ⟨rfl, rfl⟩ ok_X6_fails vi_X6_fails q_964 hM.1 rfl (fun _ => rfl) ⟨Nat.le_of_ble_eq_true rfl, Nat.le_of_ble_eq_true rfl, Nat.le_of_ble_eq_true rfl⟩ ⟨Nat.le_of_ble_eq_true rfl, Nat.le_of_ble_eq_true rfl⟩ dX6_mesh_43 (fun rf Mf hff => ?_)
        obtain ⟨hf1, hf2⟩ := hff
        rw [hf1, hf2]
        clear hf1 hf2
        have ho : oMesh s ge he fl ph = (2, 0) := by unfold oMesh; rw [if_neg (by omega), if_pos (by omega)]
        exact r_iret B dX6_mesh_46 ⟨by rw [ho], _, hO_M, by rw [ho]⟩
    · have q_h2 := inF_0 h2
      refine r_aload_n B 0 dX6_mesh_17 rfl ?_
      refine r_iconst B dX6_mesh_18 ?_
      refine r_Vi1 B (c_X6_fails l G M md hM 1) ⟨rfl, rfl⟩ ok_X6_fails vi_X6_fails q_964 hM.1 rfl (fun _ => rfl) ⟨Nat.le_of_ble_eq_true rfl, Nat.le_of_ble_eq_true rfl, Nat.le_of_ble_eq_true rfl⟩ ⟨Nat.le_of_ble_eq_true rfl, Nat.le_of_ble_eq_true rfl⟩ dX6_mesh_19 (fun rf Mf hff => ?_)
      obtain ⟨hf1, hf2⟩ := hff
      rw [hf1, hf2]
      clear hf1 hf2
      have ho : oMesh s ge he fl ph = (1, 0) := by unfold oMesh; rw [if_pos (by omega)]
      exact r_iret B dX6_mesh_22 ⟨by rw [ho], _, hO_M, by rw [ho]⟩

set_option maxRecDepth 100000 in
set_option maxHeartbeats 4000000 in
theorem c_X6_bestPhase (l : Launch) (G : Gs) (M : Mem) (md : Nat) (hM : IsMd G md) (s : Ast) (hS_M : MdS M md s) (hok : StateOk s) (ge he fl : Int) (hge : In32 ge) (hhe : In32 he) (hfl : In32 fl) : Ct l G yX6_bestPhase cX6_bestPhase 4 (some .int) rm_X6_bestPhase [.ref md, .int (iI ge), .int (iI he), .int (iI fl)] M (PoI G (fun r M' => r = (oBph s ge he fl).2 ∧ ∃ M1 : Mem, Only M M1 (md + 5) (md + 7) ∧ M' = sI M1 md 6 (oBph s ge he fl).1)) 0 0 := by
  refine Ct.of (by decide +kernel) (Nat.le_of_ble_eq_true rfl) [(0, .ref md), (1, .int (iI ge)), (2, .int (iI he)), (3, .int (iI fl))] rfl ?_
  intro X B
  have hs1 := hok.1
  have hs2 := hok.2.1
  have hs3 := hok.2.2.1
  have hs4 := hok.2.2.2.1
  have hF_M : FL M M md := FL.rf
  obtain ⟨hge1, hge2⟩ := hge
  obtain ⟨hhe1, hhe2⟩ := hhe
  obtain ⟨hfl1, hfl2⟩ := hfl
  have hO_M : Only M M (md + 5) (md + 7) := Only.rf
  have i1 := bF_in ((0 ≤ ge ∧ ge < s.1) ∧ (0 ≤ fl ∧ fl < 2))
  have i2 := inF_in he 0 (s.1 - 1)
  refine r_aload_n B 0 dX6_bestPhase_0 rfl ?_
  refine r_iload_n B 1 dX6_bestPhase_1 rfl ?_
  refine r_iload_n B 3 dX6_bestPhase_2 rfl ?_
  refine r_pVz2 B (c_X6_isFlank l G M md hM s hS_M hok ge fl ⟨by omega, by omega⟩ ⟨by omega, by omega⟩) ⟨rfl, rfl⟩ ok_X6_isFlank vi_X6_isFlank q_1142 hM.1 rfl (fun _ => rfl) ⟨Nat.le_of_ble_eq_true rfl, Nat.le_of_ble_eq_true rfl, Nat.le_of_ble_eq_true rfl⟩ ⟨Nat.le_of_ble_eq_true rfl, Nat.le_of_ble_eq_true rfl⟩ dX6_bestPhase_3 ?_
  refine r_if_eq B dX6_bestPhase_6 rfl ⟨by omega, by omega⟩ (fun h1 => ?_) (fun h1 => ?_)
  · have q_h1 := bF_0 h1
    refine r_aload_n B 0 dX6_bestPhase_31 rfl ?_
    refine r_iconst B dX6_bestPhase_32 ?_
    refine r_Vi1 B (c_X6_fails l G M md hM 1) ⟨rfl, rfl⟩ ok_X6_fails vi_X6_fails q_964 hM.1 rfl (fun _ => rfl) ⟨Nat.le_of_ble_eq_true rfl, Nat.le_of_ble_eq_true rfl, Nat.le_of_ble_eq_true rfl⟩ ⟨Nat.le_of_ble_eq_true rfl, Nat.le_of_ble_eq_true rfl⟩ dX6_bestPhase_33 (fun rf Mf hff => ?_)
    obtain ⟨hf1, hf2⟩ := hff
    rw [hf1, hf2]
    clear hf1 hf2
    have ho : oBph s ge he fl = (1, 0) := by unfold oBph; rw [if_pos (by omega)]
    exact r_iret B dX6_bestPhase_36 ⟨by rw [ho], _, hO_M, by rw [ho]⟩
  · have q_h1 := bF_1 h1
    refine r_aload_n B 0 dX6_bestPhase_9 rfl ?_
    refine r_iload_n B 2 dX6_bestPhase_10 rfl ?_
    refine r_pVz1 B (c_X6_isGear l G M md hM s hS_M hok he ⟨by omega, by omega⟩) ⟨rfl, rfl⟩ ok_X6_isGear vi_X6_isGear q_988 hM.1 rfl (fun _ => rfl) ⟨Nat.le_of_ble_eq_true rfl, Nat.le_of_ble_eq_true rfl, Nat.le_of_ble_eq_true rfl⟩ ⟨Nat.le_of_ble_eq_true rfl, Nat.le_of_ble_eq_true rfl⟩ dX6_bestPhase_11 ?_
    refine r_if_eq B dX6_bestPhase_14 rfl ⟨by omega, by omega⟩ (fun h2 => ?_) (fun h2 => ?_)
    · have q_h2 := inF_0 h2
      refine r_aload_n B 0 dX6_bestPhase_31 rfl ?_
      refine r_iconst B dX6_bestPhase_32 ?_
      refine r_Vi1 B (c_X6_fails l G M md hM 1) ⟨rfl, rfl⟩ ok_X6_fails vi_X6_fails q_964 hM.1 rfl (fun _ => rfl) ⟨Nat.le_of_ble_eq_true rfl, Nat.le_of_ble_eq_true rfl, Nat.le_of_ble_eq_true rfl⟩ ⟨Nat.le_of_ble_eq_true rfl, Nat.le_of_ble_eq_true rfl⟩ dX6_bestPhase_33 (fun rf Mf hff => ?_)
      obtain ⟨hf1, hf2⟩ := hff
      rw [hf1, hf2]
      clear hf1 hf2
      have ho : oBph s ge he fl = (1, 0) := by unfold oBph; rw [if_pos (by omega)]
      exact r_iret B dX6_bestPhase_36 ⟨by rw [ho], _, hO_M, by rw [ho]⟩
    · have q_h2 := inF_1 h2
      refine r_aload_n B 0 dX6_bestPhase_17 rfl ?_
      refine r_aload_n B 0 dX6_bestPhase_18 rfl ?_
      refine r_iload_n B 1 dX6_bestPhase_19 rfl ?_
      refine r_iload_n B 2 dX6_bestPhase_20 rfl ?_
      refine r_iload_n B 3 dX6_bestPhase_21 rfl ?_
      refine r_Vi3 B (c_X6_phaseOf l G M md hM s hS_M hok ge he fl (by omega) (by omega) (by omega) (by omega) (by omega) (by omega)) ⟨rfl, rfl⟩ ok_X6_phaseOf vi_X6_phaseOf q_1256 hM.1 rfl (fun _ => rfl) ⟨Nat.le_of_ble_eq_true rfl, Nat.le_of_ble_eq_true rfl, Nat.le_of_ble_eq_true rfl⟩ ⟨Nat.le_of_ble_eq_true rfl, Nat.le_of_ble_eq_true rfl⟩ dX6_bestPhase_22 (fun rp Y3 hyY3 => ?_)
      obtain ⟨hyr, hla_Y3, hY_Y3⟩ := hyY3
      rw [hyr]
      clear hyr
      have hS_Y3 := hY_Y3.mds hS_M
      have hO_Y3 := hO_M.tr hY_Y3
      refine r_Vi1 B (c_X6_tells l G Y3 md hM (phG s ge he fl)) ⟨rfl, rfl⟩ ok_X6_tells vi_X6_tells q_980 hM.1 rfl (fun _ => rfl) ⟨Nat.le_of_ble_eq_true rfl, Nat.le_of_ble_eq_true rfl, Nat.le_of_ble_eq_true rfl⟩ ⟨Nat.le_of_ble_eq_true rfl, Nat.le_of_ble_eq_true rfl⟩ dX6_bestPhase_25 (fun rf Mf hff => ?_)
      obtain ⟨hf1, hf2⟩ := hff
      rw [hf1, hf2]
      clear hf1 hf2
      refine r_goto B dX6_bestPhase_28 rfl ?_
      have ho : oBph s ge he fl = (0, phG s ge he fl) := by unfold oBph; rw [if_neg (by omega)]
      exact r_iret B dX6_bestPhase_36 ⟨by rw [ho], _, hO_Y3, by rw [ho]⟩

set_option maxRecDepth 100000 in
set_option maxHeartbeats 4000000 in
theorem c_X6_partner (l : Launch) (G : Gs) (M : Mem) (md : Nat) (hM : IsMd G md) (s : Ast) (hS_M : MdS M md s) (hok : StateOk s) (ge fl : Int) (hge : In32 ge) (hfl : In32 fl) : Ct l G yX6_partner cX6_partner 8 (some .int) rm_X6_partner [.ref md, .int (iI ge), .int (iI fl)] M (PoI G (fun r M' => r = (oPart s ge fl).2 ∧ ∃ M1 : Mem, Only M M1 (md + 5) (md + 7) ∧ M' = sI M1 md 6 (oPart s ge fl).1)) 0 0 := by
  refine Ct.of (by decide +kernel) (Nat.le_of_ble_eq_true rfl) [(0, .ref md), (1, .int (iI ge)), (2, .int (iI fl))] rfl ?_
  intro X B
  have hs1 := hok.1
  have hs2 := hok.2.1
  have hs3 := hok.2.2.1
  have hs4 := hok.2.2.2.1
  have hF_M : FL M M md := FL.rf
  obtain ⟨hge1, hge2⟩ := hge
  obtain ⟨hfl1, hfl2⟩ := hfl
  have hO_M : Only M M (md + 5) (md + 7) := Only.rf
  have i1 := bF_in ((0 ≤ ge ∧ ge < s.1) ∧ (0 ≤ fl ∧ fl < 2))
  refine r_aload_n B 0 dX6_partner_0 rfl ?_
  refine r_iload_n B 1 dX6_partner_1 rfl ?_
  refine r_iload_n B 2 dX6_partner_2 rfl ?_
  refine r_pVz2 B (c_X6_isFlank l G M md hM s hS_M hok ge fl ⟨by omega, by omega⟩ ⟨by omega, by omega⟩) ⟨rfl, rfl⟩ ok_X6_isFlank vi_X6_isFlank q_1142 hM.1 rfl (fun _ => rfl) ⟨Nat.le_of_ble_eq_true rfl, Nat.le_of_ble_eq_true rfl, Nat.le_of_ble_eq_true rfl⟩ ⟨Nat.le_of_ble_eq_true rfl, Nat.le_of_ble_eq_true rfl⟩ dX6_partner_3 ?_
  refine r_if_ne B dX6_partner_6 rfl ⟨by omega, by omega⟩ (fun h1 => ?_) (fun h1 => ?_)
  · have q_h1 := bF_1 h1
    refine r_iconst B dX6_partner_15 ?_
    refine r_istore_n B (lv' := [(3, .int (iI (-1))), (0, .ref md), (1, .int (iI ge)), (2, .int (iI fl))]) dX6_partner_16 (by decide) rfl ?_
    refine r_iconst B dX6_partner_17 ?_
    refine r_istore B (lv' := [(4, .int (iI 0)), (3, .int (iI (-1))), (0, .ref md), (1, .int (iI ge)), (2, .int (iI fl))]) dX6_partner_18 (by decide) rfl ?_
    refine r_iconst B dX6_partner_20 ?_
    refine r_istore B (lv' := [(5, .int (iI 0)), (4, .int (iI 0)), (3, .int (iI (-1))), (0, .ref md), (1, .int (iI ge)), (2, .int (iI fl))]) dX6_partner_21 (by decide) rfl ?_
    have lp2 : ∀ (nlp2 : Nat) (i : Int) (fo : Int) (le : Int) (Mc : Mem) (hi0 : 0 ≤ i) (hi1 : i ≤ s.1) (hfo : fo = (ptF s ge fl i.toNat).1) (hle : le = (ptF s ge fl i.toNat).2) (hO_Mc : Only M Mc (md + 5) (md + 7)), (s.1 - i).toNat < nlp2 → WM G X 0 0 (bM X (PoI G (fun r M' => r = (oPart s ge fl).2 ∧ ∃ M1 : Mem, Only M M1 (md + 5) (md + 7) ∧ M' = sI M1 md 6 (oPart s ge fl).1)) 0 0 G) Mc 23 [(0, .ref md), (1, .int (iI ge)), (2, .int (iI fl)), (3, .int (iI fo)), (4, .int (iI le)), (5, .int (iI i))] [] := by
      intro nlp2
      induction nlp2 with
      | zero => intro i fo le Mc hi0 hi1 hfo hle hO_Mc hm; omega
      | succ nlp2 ihlp2 =>
        intro i fo le Mc hi0 hi1 hfo hle hO_Mc hm
        have hS_Mc := hO_Mc.mds hS_M
        have hpt := ptF_in hok (g := ge) (f := fl) (by omega) (by omega) (by omega) (by omega) i.toNat (by omega)
        refine r_iload B 5 dX6_partner_23 rfl ?_
        refine r_aload_n B 0 dX6_partner_25 rfl ?_
        refine rg6_s B hM.1 q_892 dX6_partner_26 ?_
        refine r_iconst B dX6_partner_29 ?_
        refine r_iaload B dX6_partner_30 hM.2.1 (by omega) (by omega) ?_
        refine r_vi (y := s.1) hS_Mc.1 ?_
        refine r_icmp_ge B dX6_partner_31 rfl ⟨by omega, by omega⟩ ⟨by omega, by omega⟩ (fun h3 => ?_) (fun h3 => ?_)
        · refine r_aload_n B 0 dX6_partner_86 rfl ?_
          refine r_iload_n B 3 dX6_partner_87 rfl ?_
          refine r_Vi1 B (c_X6_tells l G Mc md hM fo) ⟨rfl, rfl⟩ ok_X6_tells vi_X6_tells q_980 hM.1 rfl (fun _ => rfl) ⟨Nat.le_of_ble_eq_true rfl, Nat.le_of_ble_eq_true rfl, Nat.le_of_ble_eq_true rfl⟩ ⟨Nat.le_of_ble_eq_true rfl, Nat.le_of_ble_eq_true rfl⟩ dX6_partner_88 (fun rf Mf hff => ?_)
          obtain ⟨hf1, hf2⟩ := hff
          rw [hf1, hf2]
          clear hf1 hf2
          have ho : oPart s ge fl = (0, fo) := by unfold oPart; rw [if_neg (by omega), hfo, show i = s.1 by omega]
          exact r_iret B dX6_partner_91 ⟨by rw [ho], _, hO_Mc, by rw [ho]⟩
        · refine r_iload B 5 dX6_partner_34 rfl ?_
          refine r_iload_n B 1 dX6_partner_36 rfl ?_
          refine r_icmp_eq B dX6_partner_37 rfl ⟨by omega, by omega⟩ ⟨by omega, by omega⟩ (fun h4 => ?_) (fun h4 => ?_)
          · refine r_iinc B (lv' := [(5, .int (iI (i + 1))), (0, .ref md), (1, .int (iI ge)), (2, .int (iI fl)), (3, .int (iI fo)), (4, .int (iI le))]) dX6_partner_80 (j := 5) rfl (by decide) rfl ?_
            refine r_goto B dX6_partner_83 rfl ?_
            refine WM.pick [1, 2, 3, 4, 5, 0] rfl ?_
            exact ihlp2 (i + 1) _ _ Mc (by omega) (by omega) (by rw [ptF_s _ _ _ hi0, if_pos h4]; exact hfo) (by rw [ptF_s _ _ _ hi0, if_pos h4]; exact hle) hO_Mc (by omega)
          · have hgi := gcG_in hok (g := ge) (k := i) (by omega) (by omega) (by omega) (by omega)
            have hik := hok.2.2.2.2.1 i (by omega) (by omega)
            obtain ⟨hik1, hik2, -⟩ := id hik
            have hph : 0 ≤ phG s ge i fl ∧ phG s ge i fl ≤ 100 := by have w := psF_in (erG s ge i fl) (gcG s ge i - 1).toNat; unfold phG; omega
            have her := erG_in hok (g := ge) (k := i) (f := fl) (by omega) (by omega) (by omega) (by omega) (by omega) (by omega) (phG s ge i fl)
            refine r_aload_n B 0 dX6_partner_40 rfl ?_
            refine r_iload_n B 1 dX6_partner_41 rfl ?_
            refine r_iload B 5 dX6_partner_42 rfl ?_
            refine r_iload_n B 2 dX6_partner_44 rfl ?_
            refine r_Vi3 B (c_X6_phaseOf l G Mc md hM s hS_Mc hok ge i fl (by omega) (by omega) (by omega) (by omega) (by omega) (by omega)) ⟨rfl, rfl⟩ ok_X6_phaseOf vi_X6_phaseOf q_1256 hM.1 rfl (fun _ => rfl) ⟨Nat.le_of_ble_eq_true rfl, Nat.le_of_ble_eq_true rfl, Nat.le_of_ble_eq_true rfl⟩ ⟨Nat.le_of_ble_eq_true rfl, Nat.le_of_ble_eq_true rfl⟩ dX6_partner_45 (fun rp Y5 hyY5 => ?_)
            obtain ⟨hyr, hla_Y5, hY_Y5⟩ := hyY5
            rw [hyr]
            clear hyr
            have hS_Y5 := hY_Y5.mds hS_Mc
            have hO_Y5 := hO_Mc.tr hY_Y5
            refine r_istore B (lv' := [(6, .int (iI (phG s ge i fl))), (0, .ref md), (1, .int (iI ge)), (2, .int (iI fl)), (3, .int (iI fo)), (4, .int (iI le)), (5, .int (iI i))]) dX6_partner_48 (by decide) rfl ?_
            refine r_aload_n B 1 dX6_partner_50 rfl ?_
            refine r_iload_n B 2 dX6_partner_51 rfl ?_
            refine r_iload B 6 dX6_partner_52 rfl ?_
            refine r_iload B 0 dX6_partner_54 rfl ?_
            refine r_pVi3 B (c_X6_errorAt l G Y5 md hM s hS_Y5 hok ge i (phG s ge i fl) fl (by omega) (by omega) (by omega) (by omega) (by omega) (by omega) (by omega) (by omega) hla_Y5) ⟨rfl, rfl⟩ ok_X6_errorAt vi_X6_errorAt q_1245 hM.1 rfl (fun _ => rfl) ⟨Nat.le_of_ble_eq_true rfl, Nat.le_of_ble_eq_true rfl, Nat.le_of_ble_eq_true rfl⟩ ⟨Nat.le_of_ble_eq_true rfl, Nat.le_of_ble_eq_true rfl⟩ dX6_partner_56 ?_
            refine r_istore B (lv' := [(7, .int (iI (erG s ge i fl (phG s ge i fl)))), (6, .int (iI (phG s ge i fl))), (0, .ref md), (1, .int (iI ge)), (2, .int (iI fl)), (3, .int (iI fo)), (4, .int (iI le)), (5, .int (iI i))]) dX6_partner_59 (by decide) rfl ?_
            refine r_iload_n B 5 dX6_partner_61 rfl ?_
            refine r_iconst B dX6_partner_62 ?_
            refine r_icmp_eq B dX6_partner_63 rfl ⟨by omega, by omega⟩ ⟨by omega, by omega⟩ (fun h6 => ?_) (fun h6 => ?_)
            · refine r_iload B 7 dX6_partner_73 rfl ?_
              refine r_istore_n B (lv' := [(3, .int (iI i)), (7, .int (iI (erG s ge i fl (phG s ge i fl)))), (6, .int (iI (phG s ge i fl))), (0, .ref md), (1, .int (iI ge)), (2, .int (iI fl)), (4, .int (iI le)), (5, .int (iI i))]) dX6_partner_75 (by decide) rfl ?_
              refine r_iload B 1 dX6_partner_76 rfl ?_
              refine r_istore B (lv' := [(4, .int (iI (erG s ge i fl (phG s ge i fl)))), (3, .int (iI i)), (7, .int (iI (erG s ge i fl (phG s ge i fl)))), (6, .int (iI (phG s ge i fl))), (0, .ref md), (1, .int (iI ge)), (2, .int (iI fl)), (5, .int (iI i))]) dX6_partner_78 (by decide) rfl ?_
              refine r_iinc B (lv' := [(5, .int (iI (i + 1))), (4, .int (iI (erG s ge i fl (phG s ge i fl)))), (3, .int (iI i)), (7, .int (iI (erG s ge i fl (phG s ge i fl)))), (6, .int (iI (phG s ge i fl))), (0, .ref md), (1, .int (iI ge)), (2, .int (iI fl))]) dX6_partner_80 (j := 7) rfl (by decide) rfl ?_
              refine r_goto B dX6_partner_83 rfl ?_
              refine WM.pick [5, 6, 7, 2, 1, 0] rfl ?_
              exact ihlp2 (i + 1) i _ Y5 (by omega) (by omega) (by rw [ptF_s _ _ _ hi0, if_neg h4, if_pos (by omega)]) (by rw [ptF_s _ _ _ hi0, if_neg h4, if_pos (by omega)]) hO_Y5 (by omega)
            · refine r_iload B 0 dX6_partner_66 rfl ?_
              refine r_iload B 6 dX6_partner_68 rfl ?_
              refine r_icmp_ge B dX6_partner_70 rfl ⟨by omega, by omega⟩ ⟨by omega, by omega⟩ (fun h7 => ?_) (fun h7 => ?_)
              · refine r_iinc B (lv' := [(5, .int (iI (i + 1))), (7, .int (iI (erG s ge i fl (phG s ge i fl)))), (6, .int (iI (phG s ge i fl))), (0, .ref md), (1, .int (iI ge)), (2, .int (iI fl)), (3, .int (iI fo)), (4, .int (iI le))]) dX6_partner_80 (j := 7) rfl (by decide) rfl ?_
                refine r_goto B dX6_partner_83 rfl ?_
                refine WM.pick [3, 4, 5, 6, 7, 0] rfl ?_
                exact ihlp2 (i + 1) _ _ Y5 (by omega) (by omega) (by rw [ptF_s _ _ _ hi0, if_neg h4, if_neg (by omega)]; exact hfo) (by rw [ptF_s _ _ _ hi0, if_neg h4, if_neg (by omega)]; exact hle) hO_Y5 (by omega)
              · refine r_iload B 7 dX6_partner_73 rfl ?_
                refine r_istore_n B (lv' := [(3, .int (iI i)), (7, .int (iI (erG s ge i fl (phG s ge i fl)))), (6, .int (iI (phG s ge i fl))), (0, .ref md), (1, .int (iI ge)), (2, .int (iI fl)), (4, .int (iI le)), (5, .int (iI i))]) dX6_partner_75 (by decide) rfl ?_
                refine r_iload B 1 dX6_partner_76 rfl ?_
                refine r_istore B (lv' := [(4, .int (iI (erG s ge i fl (phG s ge i fl)))), (3, .int (iI i)), (7, .int (iI (erG s ge i fl (phG s ge i fl)))), (6, .int (iI (phG s ge i fl))), (0, .ref md), (1, .int (iI ge)), (2, .int (iI fl)), (5, .int (iI i))]) dX6_partner_78 (by decide) rfl ?_
                refine r_iinc B (lv' := [(5, .int (iI (i + 1))), (4, .int (iI (erG s ge i fl (phG s ge i fl)))), (3, .int (iI i)), (7, .int (iI (erG s ge i fl (phG s ge i fl)))), (6, .int (iI (phG s ge i fl))), (0, .ref md), (1, .int (iI ge)), (2, .int (iI fl))]) dX6_partner_80 (j := 7) rfl (by decide) rfl ?_
                refine r_goto B dX6_partner_83 rfl ?_
                refine WM.pick [5, 6, 7, 2, 1, 0] rfl ?_
                exact ihlp2 (i + 1) i _ Y5 (by omega) (by omega) (by rw [ptF_s _ _ _ hi0, if_neg h4, if_pos (by omega)]) (by rw [ptF_s _ _ _ hi0, if_neg h4, if_pos (by omega)]) hO_Y5 (by omega)
    refine WM.pick [3, 4, 5, 2, 1, 0] rfl ?_
    exact lp2 _ 0 (-1) 0 M (by omega) (by omega) rfl rfl Only.rf (Nat.lt_succ_self _)
  · have q_h1 := bF_0 h1
    refine r_aload_n B 0 dX6_partner_9 rfl ?_
    refine r_iconst B dX6_partner_10 ?_
    refine r_Vi1 B (c_X6_fails l G M md hM 1) ⟨rfl, rfl⟩ ok_X6_fails vi_X6_fails q_964 hM.1 rfl (fun _ => rfl) ⟨Nat.le_of_ble_eq_true rfl, Nat.le_of_ble_eq_true rfl, Nat.le_of_ble_eq_true rfl⟩ ⟨Nat.le_of_ble_eq_true rfl, Nat.le_of_ble_eq_true rfl⟩ dX6_partner_11 (fun rf Mf hff => ?_)
    obtain ⟨hf1, hf2⟩ := hff
    rw [hf1, hf2]
    clear hf1 hf2
    have ho : oPart s ge fl = (1, 0) := by unfold oPart; rw [if_pos (by omega)]
    exact r_iret B dX6_partner_14 ⟨by rw [ho], _, hO_M, by rw [ho]⟩
