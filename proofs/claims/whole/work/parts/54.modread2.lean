set_option maxRecDepth 100000 in
set_option maxHeartbeats 4000000 in
theorem c_X6_indexRange (l : Launch) (G : Gs) (M : Mem) (md : Nat) (hM : IsMd G md) (s : Ast) (hS_M : MdS M md s) (hok : StateOk s) (ge fl : Int) (h0 : 0 ≤ ge) (h1 : ge < s.1) (f0 : 0 ≤ fl) (f1 : fl < 2) : Ct l G yX6_indexRange cX6_indexRange 7 (some .int) rm_X6_indexRange [.ref md, .int (iI ge), .int (iI fl)] M (PoI G (Rd (irS (s.2.2.1 ge).1 ((s.2.2.1 ge).2.2 fl)) M)) 0 0 := by
  refine Ct.of (by decide +kernel) (Nat.le_of_ble_eq_true rfl) [(0, .ref md), (1, .int (iI ge)), (2, .int (iI fl))] rfl ?_
  intro X B
  have hs1 := hok.1
  have hs2 := hok.2.1
  have hs3 := hok.2.2.1
  have hs4 := hok.2.2.2.1
  have hF_M : FL M M md := FL.rf
  have hgk := hok.2.2.2.2.1 ge (by omega) (by omega)
  obtain ⟨hgk1, hgk2, hgk3, hgk4, hgk5⟩ := id hgk
  refine r_iconst B dX6_indexRange_0 ?_
  refine r_istore_n B (lv' := [(3, .int (iI 0)), (0, .ref md), (1, .int (iI ge)), (2, .int (iI fl))]) dX6_indexRange_1 (by decide) rfl ?_
  refine r_iconst B dX6_indexRange_2 ?_
  refine r_istore B (lv' := [(4, .int (iI 0)), (3, .int (iI 0)), (0, .ref md), (1, .int (iI ge)), (2, .int (iI fl))]) dX6_indexRange_3 (by decide) rfl ?_
  refine r_iconst B dX6_indexRange_5 ?_
  refine r_istore B (lv' := [(5, .int (iI 1)), (4, .int (iI 0)), (3, .int (iI 0)), (0, .ref md), (1, .int (iI ge)), (2, .int (iI fl))]) dX6_indexRange_6 (by decide) rfl ?_
  have lp1 : ∀ (nlp1 : Nat) (i : Int) (mo : Int) (le : Int) (hi0 : 1 ≤ i) (hi1 : i ≤ (s.2.2.1 ge).1 + 1) (hmo : mo = mxU (ixS (s.2.2.1 ge).1 ((s.2.2.1 ge).2.2 fl)) (i - 1).toNat) (hle : le = mnU (ixS (s.2.2.1 ge).1 ((s.2.2.1 ge).2.2 fl)) (i - 1).toNat), ((s.2.2.1 ge).1 + 1 - i).toNat < nlp1 → WM G X 0 0 (bM X (PoI G (Rd (irS (s.2.2.1 ge).1 ((s.2.2.1 ge).2.2 fl)) M)) 0 0 G) M 8 [(0, .ref md), (1, .int (iI ge)), (2, .int (iI fl)), (3, .int (iI mo)), (4, .int (iI le)), (5, .int (iI i))] [] := by
    intro nlp1
    induction nlp1 with
    | zero => intro i mo le hi0 hi1 hmo hle hm; omega
    | succ nlp1 ihlp1 =>
      intro i mo le hi0 hi1 hmo hle hm
      have hx0 := mxU_in (f := ixS (s.2.2.1 ge).1 ((s.2.2.1 ge).2.2 fl)) (A := 20000) (by omega) (i - 1).toNat (fun k a b => (hgk.ix f0 f1 (t := k) (by omega) (by omega)).2)
      have hn0 := mnU_in (f := ixS (s.2.2.1 ge).1 ((s.2.2.1 ge).2.2 fl)) (A := 20000) (by omega) (i - 1).toNat (fun k a b => (hgk.ix f0 f1 (t := k) (by omega) (by omega)).1)
      refine r_iload B 5 dX6_indexRange_8 rfl ?_
      refine r_aload_n B 0 dX6_indexRange_10 rfl ?_
      refine r_iload_n B 1 dX6_indexRange_11 rfl ?_
      refine r_pVi1 B (c_X6_teeth l G M md hM ge (by omega) (by omega)) ⟨rfl, rfl⟩ ok_X6_teeth vi_X6_teeth q_1013 hM.1 rfl (fun _ => rfl) ⟨Nat.le_of_ble_eq_true rfl, Nat.le_of_ble_eq_true rfl, Nat.le_of_ble_eq_true rfl⟩ ⟨Nat.le_of_ble_eq_true rfl, Nat.le_of_ble_eq_true rfl⟩ dX6_indexRange_12 ?_
      refine r_vi (y := (s.2.2.1 ge).1) (hS_M.2.2.1 ge (by omega) (by omega)).1 ?_
      refine r_icmp_gt B dX6_indexRange_15 rfl ⟨by omega, by omega⟩ ⟨by omega, by omega⟩ (fun h2 => ?_) (fun h2 => ?_)
      · refine r_iload_n B 3 dX6_indexRange_63 rfl ?_
        refine r_iload B 4 dX6_indexRange_64 rfl ?_
        refine r_isub B dX6_indexRange_66 ?_
        exact r_iret B dX6_indexRange_67 ⟨by unfold irS; rw [hmo, hle, show i - 1 = (s.2.2.1 ge).1 by omega], rfl⟩
      · have hv := hgk.ix f0 f1 (t := i) (by omega) (by omega)
        refine r_aload_n B 0 dX6_indexRange_18 rfl ?_
        refine r_iload_n B 1 dX6_indexRange_19 rfl ?_
        refine r_iload_n B 2 dX6_indexRange_20 rfl ?_
        refine r_iload B 5 dX6_indexRange_21 rfl ?_
        refine r_pVi3 B (c_X6_indexOf l G M md hM s hS_M hok ge fl i (by omega) (by omega) (by omega) (by omega) (by omega) (by omega)) ⟨rfl, rfl⟩ ok_X6_indexOf vi_X6_indexOf q_1090 hM.1 rfl (fun _ => rfl) ⟨Nat.le_of_ble_eq_true rfl, Nat.le_of_ble_eq_true rfl, Nat.le_of_ble_eq_true rfl⟩ ⟨Nat.le_of_ble_eq_true rfl, Nat.le_of_ble_eq_true rfl⟩ dX6_indexRange_23 ?_
        refine r_istore B (lv' := [(6, .int (iI (ixS (s.2.2.1 ge).1 ((s.2.2.1 ge).2.2 fl) i))), (0, .ref md), (1, .int (iI ge)), (2, .int (iI fl)), (3, .int (iI mo)), (4, .int (iI le)), (5, .int (iI i))]) dX6_indexRange_26 (by decide) rfl ?_
        refine r_iload B 0 dX6_indexRange_28 rfl ?_
        refine r_iload_n B 4 dX6_indexRange_30 rfl ?_
        have J3 : ∀ w1 : Int, (w1 = max mo (ixS (s.2.2.1 ge).1 ((s.2.2.1 ge).2.2 fl) i)) → WM G X 0 0 (bM X (PoI G (Rd (irS (s.2.2.1 ge).1 ((s.2.2.1 ge).2.2 fl)) M)) 0 0 G) M 40 [(6, .int (iI (ixS (s.2.2.1 ge).1 ((s.2.2.1 ge).2.2 fl) i))), (0, .ref md), (1, .int (iI ge)), (2, .int (iI fl)), (3, .int (iI mo)), (4, .int (iI le)), (5, .int (iI i))] [.int (iI w1)] := by
          intro w1 hw1
          refine r_istore_n B (lv' := [(3, .int (iI w1)), (6, .int (iI (ixS (s.2.2.1 ge).1 ((s.2.2.1 ge).2.2 fl) i))), (0, .ref md), (1, .int (iI ge)), (2, .int (iI fl)), (4, .int (iI le)), (5, .int (iI i))]) dX6_indexRange_40 (by decide) rfl ?_
          refine r_iload B 1 dX6_indexRange_41 rfl ?_
          refine r_iload B 5 dX6_indexRange_43 rfl ?_
          have J4 : ∀ w2 : Int, (w2 = min le (ixS (s.2.2.1 ge).1 ((s.2.2.1 ge).2.2 fl) i)) → WM G X 0 0 (bM X (PoI G (Rd (irS (s.2.2.1 ge).1 ((s.2.2.1 ge).2.2 fl)) M)) 0 0 G) M 55 [(3, .int (iI w1)), (6, .int (iI (ixS (s.2.2.1 ge).1 ((s.2.2.1 ge).2.2 fl) i))), (0, .ref md), (1, .int (iI ge)), (2, .int (iI fl)), (4, .int (iI le)), (5, .int (iI i))] [.int (iI w2)] := by
            intro w2 hw2
            refine r_istore B (lv' := [(4, .int (iI w2)), (3, .int (iI w1)), (6, .int (iI (ixS (s.2.2.1 ge).1 ((s.2.2.1 ge).2.2 fl) i))), (0, .ref md), (1, .int (iI ge)), (2, .int (iI fl)), (5, .int (iI i))]) dX6_indexRange_55 (by decide) rfl ?_
            refine r_iinc B (lv' := [(5, .int (iI (i + 1))), (4, .int (iI w2)), (3, .int (iI w1)), (6, .int (iI (ixS (s.2.2.1 ge).1 ((s.2.2.1 ge).2.2 fl) i))), (0, .ref md), (1, .int (iI ge)), (2, .int (iI fl))]) dX6_indexRange_57 (j := 6) rfl (by decide) rfl ?_
            refine r_goto B dX6_indexRange_60 rfl ?_
            refine WM.pick [4, 5, 6, 2, 1, 0] rfl ?_
            exact ihlp1 (i + 1) _ _ (by omega) (by omega) (by rw [show i + 1 - 1 = i by omega, mxU_s _ hi0, ← hmo]; exact hw1) (by rw [show i + 1 - 1 = i by omega, mnU_s _ hi0, ← hle]; exact hw2) (by omega)
          refine r_icmp_ge B dX6_indexRange_45 rfl ⟨by omega, by omega⟩ ⟨by omega, by omega⟩ (fun h5 => ?_) (fun h5 => ?_)
          · refine r_iload B 5 dX6_indexRange_53 rfl ?_
            exact J4 _ (by omega)
          · refine r_iload B 1 dX6_indexRange_48 rfl ?_
            refine r_goto B dX6_indexRange_50 rfl ?_
            exact J4 _ (by omega)
        refine r_icmp_le B dX6_indexRange_31 rfl ⟨by omega, by omega⟩ ⟨by omega, by omega⟩ (fun h6 => ?_) (fun h6 => ?_)
        · refine r_iload_n B 4 dX6_indexRange_39 rfl ?_
          exact J3 _ (by omega)
        · refine r_iload B 0 dX6_indexRange_34 rfl ?_
          refine r_goto B dX6_indexRange_36 rfl ?_
          exact J3 _ (by omega)
  refine WM.pick [3, 4, 5, 2, 1, 0] rfl ?_
  exact lp1 _ 1 0 0 (by omega) (by omega) rfl rfl (Nat.lt_succ_self _)

set_option maxRecDepth 100000 in
set_option maxHeartbeats 4000000 in
theorem c_X6_greatestPitch (l : Launch) (G : Gs) (M : Mem) (md : Nat) (hM : IsMd G md) (s : Ast) (hS_M : MdS M md s) (hok : StateOk s) (ge : Int) (h0 : 0 ≤ ge) (h1 : ge < s.1) : Ct l G yX6_greatestPitch cX6_greatestPitch 6 (some .int) rm_X6_greatestPitch [.ref md, .int (iI ge)] M (PoI G (Rd (max (gpS (s.2.2.1 ge).1 ((s.2.2.1 ge).2.2 0)) (gpS (s.2.2.1 ge).1 ((s.2.2.1 ge).2.2 1))) M)) 0 0 := by
  refine Ct.of (by decide +kernel) (Nat.le_of_ble_eq_true rfl) [(0, .ref md), (1, .int (iI ge))] rfl ?_
  intro X B
  have hs1 := hok.1
  have hs2 := hok.2.1
  have hs3 := hok.2.2.1
  have hs4 := hok.2.2.2.1
  have hF_M : FL M M md := FL.rf
  have hgk := hok.2.2.2.2.1 ge (by omega) (by omega)
  obtain ⟨hgk1, hgk2, hgk3, hgk4, hgk5⟩ := id hgk
  refine r_iconst B dX6_greatestPitch_0 ?_
  refine r_istore_n B (lv' := [(2, .int (iI 0)), (0, .ref md), (1, .int (iI ge))]) dX6_greatestPitch_1 (by decide) rfl ?_
  refine r_iconst B dX6_greatestPitch_2 ?_
  refine r_istore_n B (lv' := [(3, .int (iI 1)), (2, .int (iI 0)), (0, .ref md), (1, .int (iI ge))]) dX6_greatestPitch_3 (by decide) rfl ?_
  have lp1 : ∀ (nlp1 : Nat) (i : Int) (mo : Int) (hi0 : 1 ≤ i) (hi1 : i ≤ (s.2.2.1 ge).1 + 1) (hmo : mo = max (mxU (gpF (s.2.2.1 ge).1 ((s.2.2.1 ge).2.2 0)) (i - 1).toNat) (mxU (gpF (s.2.2.1 ge).1 ((s.2.2.1 ge).2.2 1)) (i - 1).toNat)), ((s.2.2.1 ge).1 + 1 - i).toNat < nlp1 → WM G X 0 0 (bM X (PoI G (Rd (max (gpS (s.2.2.1 ge).1 ((s.2.2.1 ge).2.2 0)) (gpS (s.2.2.1 ge).1 ((s.2.2.1 ge).2.2 1))) M)) 0 0 G) M 4 [(0, .ref md), (1, .int (iI ge)), (2, .int (iI mo)), (3, .int (iI i))] [] := by
    intro nlp1
    induction nlp1 with
    | zero => intro i mo hi0 hi1 hmo hm; omega
    | succ nlp1 ihlp1 =>
      intro i mo hi0 hi1 hmo hm
      have hx0 := mxU_in (f := gpF (s.2.2.1 ge).1 ((s.2.2.1 ge).2.2 0)) (A := 40000) (by omega) (i - 1).toNat (fun k a b => gpF_in hgk (s := 0) (by omega) (by omega) a (by omega))
      have hx1 := mxU_in (f := gpF (s.2.2.1 ge).1 ((s.2.2.1 ge).2.2 1)) (A := 40000) (by omega) (i - 1).toNat (fun k a b => gpF_in hgk (s := 1) (by omega) (by omega) a (by omega))
      refine r_iload_n B 3 dX6_greatestPitch_4 rfl ?_
      refine r_aload_n B 0 dX6_greatestPitch_5 rfl ?_
      refine r_iload_n B 1 dX6_greatestPitch_6 rfl ?_
      refine r_pVi1 B (c_X6_teeth l G M md hM ge (by omega) (by omega)) ⟨rfl, rfl⟩ ok_X6_teeth vi_X6_teeth q_1013 hM.1 rfl (fun _ => rfl) ⟨Nat.le_of_ble_eq_true rfl, Nat.le_of_ble_eq_true rfl, Nat.le_of_ble_eq_true rfl⟩ ⟨Nat.le_of_ble_eq_true rfl, Nat.le_of_ble_eq_true rfl⟩ dX6_greatestPitch_7 ?_
      refine r_vi (y := (s.2.2.1 ge).1) (hS_M.2.2.1 ge (by omega) (by omega)).1 ?_
      refine r_icmp_gt B dX6_greatestPitch_10 rfl ⟨by omega, by omega⟩ ⟨by omega, by omega⟩ (fun h2 => ?_) (fun h2 => ?_)
      · refine r_iload_n B 2 dX6_greatestPitch_60 rfl ?_
        exact r_iret B dX6_greatestPitch_61 ⟨by rw [gpS_eq, gpS_eq, hmo, show i - 1 = (s.2.2.1 ge).1 by omega], rfl⟩
      · have hg0 := gpF_in hgk (s := 0) (i := i) (by omega) (by omega) (by omega) (by omega)
        have ha0 := hgk.ix (s := 0) (t := i) (by omega) (by omega) (by omega) (by omega)
        have hb0 := hgk.ix (s := 0) (t := i - 1) (by omega) (by omega) (by omega) (by omega)
        have hs0x := mxU_s (gpF (s.2.2.1 ge).1 ((s.2.2.1 ge).2.2 0)) hi0
        have hg1 := gpF_in hgk (s := 1) (i := i) (by omega) (by omega) (by omega) (by omega)
        have ha1 := hgk.ix (s := 1) (t := i) (by omega) (by omega) (by omega) (by omega)
        have hb1 := hgk.ix (s := 1) (t := i - 1) (by omega) (by omega) (by omega) (by omega)
        have hs1x := mxU_s (gpF (s.2.2.1 ge).1 ((s.2.2.1 ge).2.2 1)) hi0
        refine r_iconst B dX6_greatestPitch_13 ?_
        refine r_istore B (lv' := [(4, .int (iI 0)), (0, .ref md), (1, .int (iI ge)), (2, .int (iI mo)), (3, .int (iI i))]) dX6_greatestPitch_14 (by decide) rfl ?_
        have lp3 : ∀ (nlp3 : Nat) (f : Int) (m2 : Int) (hf0 : 0 ≤ f) (hf1 : f ≤ 2) (hm2 : (f = 0 ∧ m2 = mo) ∨ (f = 1 ∧ m2 = max mo (gpF (s.2.2.1 ge).1 ((s.2.2.1 ge).2.2 0) i)) ∨ (f = 2 ∧ m2 = max (max mo (gpF (s.2.2.1 ge).1 ((s.2.2.1 ge).2.2 0) i)) (gpF (s.2.2.1 ge).1 ((s.2.2.1 ge).2.2 1) i))), (2 - f).toNat < nlp3 → WM G X 0 0 (bM X (PoI G (Rd (max (gpS (s.2.2.1 ge).1 ((s.2.2.1 ge).2.2 0)) (gpS (s.2.2.1 ge).1 ((s.2.2.1 ge).2.2 1))) M)) 0 0 G) M 16 [(0, .ref md), (1, .int (iI ge)), (2, .int (iI m2)), (3, .int (iI i)), (4, .int (iI f))] [] := by
          intro nlp3
          induction nlp3 with
          | zero => intro f m2 hf0 hf1 hm2 hm; omega
          | succ nlp3 ihlp3 =>
            intro f m2 hf0 hf1 hm2 hm
            have hvf := fun (p : 0 ≤ f) (q : f < 2) => hgk.ix (s := f) (t := i) p q (by omega) (by omega)
            have hvg := fun (p : 0 ≤ f) (q : f < 2) => hgk.ix (s := f) (t := i - 1) p q (by omega) (by omega)
            have hbm : 0 ≤ m2 ∧ m2 ≤ 40000 := by rcases hm2 with ⟨w1, w2⟩ | ⟨w1, w2⟩ | ⟨w1, w2⟩ <;> omega
            refine r_iload B 4 dX6_greatestPitch_16 rfl ?_
            refine r_iconst B dX6_greatestPitch_18 ?_
            refine r_icmp_ge B dX6_greatestPitch_19 rfl ⟨by omega, by omega⟩ ⟨by omega, by omega⟩ (fun h4 => ?_) (fun h4 => ?_)
            · refine r_iinc B (lv' := [(3, .int (iI (i + 1))), (0, .ref md), (1, .int (iI ge)), (2, .int (iI m2)), (4, .int (iI f))]) dX6_greatestPitch_54 (j := 3) rfl (by decide) rfl ?_
              refine r_goto B dX6_greatestPitch_57 rfl ?_
              refine WM.pick [1, 2, 3, 0] rfl ?_
              exact ihlp1 (i + 1) _ (by omega) (by omega) (by rw [show i + 1 - 1 = i by omega, hs0x, hs1x]; rcases hm2 with ⟨w1, w2⟩ | ⟨w1, w2⟩ | ⟨w1, w2⟩ <;> omega) (by omega)
            · have hvf1 := hvf (by omega) (by omega)
              have hvg1 := hvg (by omega) (by omega)
              refine r_aload_n B 0 dX6_greatestPitch_22 rfl ?_
              refine r_iload_n B 1 dX6_greatestPitch_23 rfl ?_
              refine r_iload B 4 dX6_greatestPitch_24 rfl ?_
              refine r_iload_n B 3 dX6_greatestPitch_26 rfl ?_
              refine r_pVi3 B (c_X6_pitchOf l G M md hM s hS_M hok ge f i (by omega) (by omega) (by omega) (by omega) (by omega) (by omega)) ⟨rfl, rfl⟩ ok_X6_pitchOf vi_X6_pitchOf q_1086 hM.1 rfl (fun _ => rfl) ⟨Nat.le_of_ble_eq_true rfl, Nat.le_of_ble_eq_true rfl, Nat.le_of_ble_eq_true rfl⟩ ⟨Nat.le_of_ble_eq_true rfl, Nat.le_of_ble_eq_true rfl⟩ dX6_greatestPitch_27 ?_
              refine r_pSi1 B (c_X6_size l G M  (ixS (s.2.2.1 ge).1 ((s.2.2.1 ge).2.2 f) i - ixS (s.2.2.1 ge).1 ((s.2.2.1 ge).2.2 f) (i - 1)) ⟨by omega, by omega⟩) ⟨rfl, rfl⟩ ok_X6_size q_1101 q_1100 ⟨Nat.le_of_ble_eq_true rfl, Nat.le_of_ble_eq_true rfl, Nat.le_of_ble_eq_true rfl⟩ ⟨Nat.le_of_ble_eq_true rfl, Nat.le_of_ble_eq_true rfl⟩ dX6_greatestPitch_30 ?_
              refine r_vi (y := gpF (s.2.2.1 ge).1 ((s.2.2.1 ge).2.2 f) i) rfl ?_
              have hgf := gpF_in hgk (s := f) (i := i) (by omega) (by omega) (by omega) (by omega)
              have hgf0 : 0 ≤ gpF (s.2.2.1 ge).1 ((s.2.2.1 ge).2.2 f) i := by show 0 ≤ max _ _; omega
              refine r_istore B (lv' := [(5, .int (iI (gpF (s.2.2.1 ge).1 ((s.2.2.1 ge).2.2 f) i))), (0, .ref md), (1, .int (iI ge)), (2, .int (iI m2)), (3, .int (iI i)), (4, .int (iI f))]) dX6_greatestPitch_33 (by decide) rfl ?_
              refine r_iload B 0 dX6_greatestPitch_35 rfl ?_
              refine r_iload_n B 3 dX6_greatestPitch_37 rfl ?_
              have J5 : ∀ w1 : Int, (w1 = max m2 (gpF (s.2.2.1 ge).1 ((s.2.2.1 ge).2.2 f) i)) → WM G X 0 0 (bM X (PoI G (Rd (max (gpS (s.2.2.1 ge).1 ((s.2.2.1 ge).2.2 0)) (gpS (s.2.2.1 ge).1 ((s.2.2.1 ge).2.2 1))) M)) 0 0 G) M 47 [(5, .int (iI (gpF (s.2.2.1 ge).1 ((s.2.2.1 ge).2.2 f) i))), (0, .ref md), (1, .int (iI ge)), (2, .int (iI m2)), (3, .int (iI i)), (4, .int (iI f))] [.int (iI w1)] := by
                intro w1 hw1
                refine r_istore_n B (lv' := [(2, .int (iI w1)), (5, .int (iI (gpF (s.2.2.1 ge).1 ((s.2.2.1 ge).2.2 f) i))), (0, .ref md), (1, .int (iI ge)), (3, .int (iI i)), (4, .int (iI f))]) dX6_greatestPitch_47 (by decide) rfl ?_
                refine r_iinc B (lv' := [(4, .int (iI (f + 1))), (2, .int (iI w1)), (5, .int (iI (gpF (s.2.2.1 ge).1 ((s.2.2.1 ge).2.2 f) i))), (0, .ref md), (1, .int (iI ge)), (3, .int (iI i))]) dX6_greatestPitch_48 (j := 5) rfl (by decide) rfl ?_
                refine r_goto B dX6_greatestPitch_51 rfl ?_
                refine WM.pick [3, 4, 1, 5, 0] rfl ?_
                exact ihlp3 (f + 1) _ (by omega) (by omega) (by rcases hm2 with ⟨w1, w2⟩ | ⟨w1, w2⟩ | ⟨w1, w2⟩; exact Or.inr (Or.inl ⟨by omega, by rw [hw1, w2, w1]⟩); exact Or.inr (Or.inr ⟨by omega, by rw [hw1, w2, w1]⟩); omega) (by omega)
              refine r_icmp_le B dX6_greatestPitch_38 rfl ⟨by omega, by omega⟩ ⟨by omega, by omega⟩ (fun h6 => ?_) (fun h6 => ?_)
              · refine r_iload_n B 3 dX6_greatestPitch_46 rfl ?_
                exact J5 _ (by omega)
              · refine r_iload B 0 dX6_greatestPitch_41 rfl ?_
                refine r_goto B dX6_greatestPitch_43 rfl ?_
                exact J5 _ (by omega)
        refine WM.pick [1, 2, 3, 4, 0] rfl ?_
        exact lp3 _ 0 _ (by omega) (by omega) (Or.inl ⟨rfl, rfl⟩) (Nat.lt_succ_self _)
  refine WM.pick [2, 3, 1, 0] rfl ?_
  exact lp1 _ 1 0 (by omega) (by omega) rfl (Nat.lt_succ_self _)

set_option maxRecDepth 100000 in
set_option maxHeartbeats 4000000 in
theorem c_X6_runout (l : Launch) (G : Gs) (M : Mem) (md : Nat) (hM : IsMd G md) (s : Ast) (hS_M : MdS M md s) (hok : StateOk s) (ge : Int) (h0 : 0 ≤ ge) (h1 : ge < s.1) : Ct l G yX6_runout cX6_runout 6 (some .int) rm_X6_runout [.ref md, .int (iI ge)] M (PoI G (Rd (ruS (s.2.2.1 ge).1 ((s.2.2.1 ge).2.2 2)) M)) 0 0 := by
  refine Ct.of (by decide +kernel) (Nat.le_of_ble_eq_true rfl) [(0, .ref md), (1, .int (iI ge))] rfl ?_
  intro X B
  have hs1 := hok.1
  have hs2 := hok.2.1
  have hs3 := hok.2.2.1
  have hs4 := hok.2.2.2.1
  have hF_M : FL M M md := FL.rf
  have hgk := hok.2.2.2.2.1 ge (by omega) (by omega)
  obtain ⟨hgk1, hgk2, hgk3, hgk4, hgk5⟩ := id hgk
  have hz2 : szS (s.2.2.1 ge).1 2 = (s.2.2.1 ge).1 := szS_2
  refine r_sipush B (z := (-5000)) dX6_runout_0 (by decide) ?_
  refine r_istore_n B (lv' := [(2, .int (iI (-5000))), (0, .ref md), (1, .int (iI ge))]) dX6_runout_3 (by decide) rfl ?_
  refine r_sipush B (z := 5000) dX6_runout_4 (by decide) ?_
  refine r_istore_n B (lv' := [(3, .int (iI 5000)), (2, .int (iI (-5000))), (0, .ref md), (1, .int (iI ge))]) dX6_runout_7 (by decide) rfl ?_
  refine r_iconst B dX6_runout_8 ?_
  refine r_istore B (lv' := [(4, .int (iI 0)), (3, .int (iI 5000)), (2, .int (iI (-5000))), (0, .ref md), (1, .int (iI ge))]) dX6_runout_9 (by decide) rfl ?_
  have lp1 : ∀ (nlp1 : Nat) (i : Int) (mo : Int) (le : Int) (hi0 : 0 ≤ i) (hi1 : i ≤ (s.2.2.1 ge).1) (hmo : (i = 0 ∧ mo = -5000 ∧ le = 5000) ∨ (1 ≤ i ∧ mo = mxF ((s.2.2.1 ge).2.2 2) (i - 1).toNat ∧ le = mnF ((s.2.2.1 ge).2.2 2) (i - 1).toNat)), ((s.2.2.1 ge).1 - i).toNat < nlp1 → WM G X 0 0 (bM X (PoI G (Rd (ruS (s.2.2.1 ge).1 ((s.2.2.1 ge).2.2 2)) M)) 0 0 G) M 11 [(0, .ref md), (1, .int (iI ge)), (2, .int (iI mo)), (3, .int (iI le)), (4, .int (iI i))] [] := by
    intro nlp1
    induction nlp1 with
    | zero => intro i mo le hi0 hi1 hmo hm; omega
    | succ nlp1 ihlp1 =>
      intro i mo le hi0 hi1 hmo hm
      have hbm : -5000 ≤ mo ∧ mo ≤ 5000 ∧ -5000 ≤ le ∧ le ≤ 5000 := by
        rcases hmo with ⟨w1, w2, w3⟩ | ⟨w1, w2, w3⟩
        · omega
        · have a1 := mxF_in (f := (s.2.2.1 ge).2.2 2) (L := -5000) (A := 5000) (i - 1).toNat (fun k a b => hgk.ra (k := k) a (by omega))
          have a2 := mnF_in (f := (s.2.2.1 ge).2.2 2) (L := -5000) (A := 5000) (i - 1).toNat (fun k a b => hgk.ra (k := k) a (by omega))
          omega
      refine r_iload B 4 dX6_runout_11 rfl ?_
      refine r_aload_n B 0 dX6_runout_13 rfl ?_
      refine r_iload_n B 1 dX6_runout_14 rfl ?_
      refine r_pVi1 B (c_X6_teeth l G M md hM ge (by omega) (by omega)) ⟨rfl, rfl⟩ ok_X6_teeth vi_X6_teeth q_1013 hM.1 rfl (fun _ => rfl) ⟨Nat.le_of_ble_eq_true rfl, Nat.le_of_ble_eq_true rfl, Nat.le_of_ble_eq_true rfl⟩ ⟨Nat.le_of_ble_eq_true rfl, Nat.le_of_ble_eq_true rfl⟩ dX6_runout_15 ?_
      refine r_vi (y := (s.2.2.1 ge).1) (hS_M.2.2.1 ge (by omega) (by omega)).1 ?_
      refine r_icmp_ge B dX6_runout_18 rfl ⟨by omega, by omega⟩ ⟨by omega, by omega⟩ (fun h2 => ?_) (fun h2 => ?_)
      · refine r_iload_n B 2 dX6_runout_63 rfl ?_
        refine r_iload_n B 3 dX6_runout_64 rfl ?_
        refine r_isub B dX6_runout_65 ?_
        exact r_iret B dX6_runout_66 ⟨by rcases hmo with ⟨w1, w2, w3⟩ | ⟨w1, w2, w3⟩; omega; unfold ruS; rw [w2, w3, show i - 1 = (s.2.2.1 ge).1 - 1 by omega], rfl⟩
      · have hv := hgk.ra (k := i) (by omega) (by omega)
        refine r_aload_n B 0 dX6_runout_21 rfl ?_
        refine r_iload_n B 1 dX6_runout_22 rfl ?_
        refine r_iconst B dX6_runout_23 ?_
        refine r_iload B 4 dX6_runout_24 rfl ?_
        refine r_pVi3 B (c_X6_readingOf l G M md hM ge 2 i (by omega) (by omega) (by omega) (by omega) (by omega) (by omega)) ⟨rfl, rfl⟩ ok_X6_readingOf vi_X6_readingOf q_1022 hM.1 rfl (fun _ => rfl) ⟨Nat.le_of_ble_eq_true rfl, Nat.le_of_ble_eq_true rfl, Nat.le_of_ble_eq_true rfl⟩ ⟨Nat.le_of_ble_eq_true rfl, Nat.le_of_ble_eq_true rfl⟩ dX6_runout_26 ?_
        refine r_vi (y := (s.2.2.1 ge).2.2 2 i) ((hS_M.2.2.1 ge (by omega) (by omega)).2.2 2 i (by omega) (by omega) (by omega) (by omega)) ?_
        refine r_istore B (lv' := [(5, .int (iI ((s.2.2.1 ge).2.2 2 i))), (0, .ref md), (1, .int (iI ge)), (2, .int (iI mo)), (3, .int (iI le)), (4, .int (iI i))]) dX6_runout_29 (by decide) rfl ?_
        refine r_iload B 0 dX6_runout_31 rfl ?_
        refine r_iload_n B 3 dX6_runout_33 rfl ?_
        have J3 : ∀ w1 : Int, (w1 = max mo ((s.2.2.1 ge).2.2 2 i)) → WM G X 0 0 (bM X (PoI G (Rd (ruS (s.2.2.1 ge).1 ((s.2.2.1 ge).2.2 2)) M)) 0 0 G) M 43 [(5, .int (iI ((s.2.2.1 ge).2.2 2 i))), (0, .ref md), (1, .int (iI ge)), (2, .int (iI mo)), (3, .int (iI le)), (4, .int (iI i))] [.int (iI w1)] := by
          intro w1 hw1
          refine r_istore_n B (lv' := [(2, .int (iI w1)), (5, .int (iI ((s.2.2.1 ge).2.2 2 i))), (0, .ref md), (1, .int (iI ge)), (3, .int (iI le)), (4, .int (iI i))]) dX6_runout_43 (by decide) rfl ?_
          refine r_iload B 1 dX6_runout_44 rfl ?_
          refine r_iload_n B 4 dX6_runout_46 rfl ?_
          have J4 : ∀ w2 : Int, (w2 = min le ((s.2.2.1 ge).2.2 2 i)) → WM G X 0 0 (bM X (PoI G (Rd (ruS (s.2.2.1 ge).1 ((s.2.2.1 ge).2.2 2)) M)) 0 0 G) M 56 [(2, .int (iI w1)), (5, .int (iI ((s.2.2.1 ge).2.2 2 i))), (0, .ref md), (1, .int (iI ge)), (3, .int (iI le)), (4, .int (iI i))] [.int (iI w2)] := by
            intro w2 hw2
            refine r_istore_n B (lv' := [(3, .int (iI w2)), (2, .int (iI w1)), (5, .int (iI ((s.2.2.1 ge).2.2 2 i))), (0, .ref md), (1, .int (iI ge)), (4, .int (iI i))]) dX6_runout_56 (by decide) rfl ?_
            refine r_iinc B (lv' := [(4, .int (iI (i + 1))), (3, .int (iI w2)), (2, .int (iI w1)), (5, .int (iI ((s.2.2.1 ge).2.2 2 i))), (0, .ref md), (1, .int (iI ge))]) dX6_runout_57 (j := 5) rfl (by decide) rfl ?_
            refine r_goto B dX6_runout_60 rfl ?_
            refine WM.pick [4, 5, 2, 1, 0] rfl ?_
            refine ihlp1 (i + 1) _ _ (by omega) (by omega) ?_ (by omega)
            · refine Or.inr ⟨by omega, ?_, ?_⟩
              · rw [show i + 1 - 1 = i by omega]
                rcases hmo with ⟨x1, x2, x3⟩ | ⟨x1, x2, x3⟩
                · rw [x1]; show w1 = (s.2.2.1 ge).2.2 2 0; rw [← x1]; omega
                · rw [mxF_s _ x1, ← x2]; exact hw1
              · rw [show i + 1 - 1 = i by omega]
                rcases hmo with ⟨x1, x2, x3⟩ | ⟨x1, x2, x3⟩
                · rw [x1]; show w2 = (s.2.2.1 ge).2.2 2 0; rw [← x1]; omega
                · rw [mnF_s _ x1, ← x3]; exact hw2
          refine r_icmp_ge B dX6_runout_47 rfl ⟨by omega, by omega⟩ ⟨by omega, by omega⟩ (fun h5 => ?_) (fun h5 => ?_)
          · refine r_iload_n B 4 dX6_runout_55 rfl ?_
            exact J4 _ (by omega)
          · refine r_iload B 1 dX6_runout_50 rfl ?_
            refine r_goto B dX6_runout_52 rfl ?_
            exact J4 _ (by omega)
        refine r_icmp_le B dX6_runout_34 rfl ⟨by omega, by omega⟩ ⟨by omega, by omega⟩ (fun h6 => ?_) (fun h6 => ?_)
        · refine r_iload_n B 3 dX6_runout_42 rfl ?_
          exact J3 _ (by omega)
        · refine r_iload B 0 dX6_runout_37 rfl ?_
          refine r_goto B dX6_runout_39 rfl ?_
          exact J3 _ (by omega)
  refine WM.pick [3, 4, 2, 1, 0] rfl ?_
  exact lp1 _ 0 (-5000) 5000 (by omega) (by omega) (Or.inl ⟨rfl, rfl, rfl⟩) (Nat.lt_succ_self _)

set_option maxRecDepth 100000 in
set_option maxHeartbeats 4000000 in
theorem c_X6_thickness (l : Launch) (G : Gs) (M : Mem) (md : Nat) (hM : IsMd G md) (s : Ast) (hS_M : MdS M md s) (hok : StateOk s) (ge tt : Int) (hge : In32 ge) (htt : In32 tt) : Ct l G yX6_thickness cX6_thickness 7 (some .int) rm_X6_thickness [.ref md, .int (iI ge), .int (iI tt)] M (PoI G (fun r M' => r = (oThick s ge tt).2 ∧ M' = sI M md 6 (oThick s ge tt).1)) 0 0 := by
  refine Ct.of (by decide +kernel) (Nat.le_of_ble_eq_true rfl) [(0, .ref md), (1, .int (iI ge)), (2, .int (iI tt))] rfl ?_
  intro X B
  have hs1 := hok.1
  have hs2 := hok.2.1
  have hs3 := hok.2.2.1
  have hs4 := hok.2.2.2.1
  have hF_M : FL M M md := FL.rf
  obtain ⟨hge1, hge2⟩ := hge
  obtain ⟨htt1, htt2⟩ := htt
  have i1 := inF_in ge 0 (s.1 - 1)
  refine r_aload_n B 0 dX6_thickness_0 rfl ?_
  refine r_iload_n B 1 dX6_thickness_1 rfl ?_
  refine r_pVz1 B (c_X6_isGear l G M md hM s hS_M hok ge ⟨by omega, by omega⟩) ⟨rfl, rfl⟩ ok_X6_isGear vi_X6_isGear q_988 hM.1 rfl (fun _ => rfl) ⟨Nat.le_of_ble_eq_true rfl, Nat.le_of_ble_eq_true rfl, Nat.le_of_ble_eq_true rfl⟩ ⟨Nat.le_of_ble_eq_true rfl, Nat.le_of_ble_eq_true rfl⟩ dX6_thickness_2 ?_
  refine r_if_eq B dX6_thickness_5 rfl ⟨by omega, by omega⟩ (fun h1 => ?_) (fun h1 => ?_)
  · have q_h1 := inF_0 h1
    refine r_aload_n B 0 dX6_thickness_27 rfl ?_
    refine r_iconst B dX6_thickness_28 ?_
    refine r_Vi1 B (c_X6_fails l G M md hM 1) ⟨rfl, rfl⟩ ok_X6_fails vi_X6_fails q_964 hM.1 rfl (fun _ => rfl) ⟨Nat.le_of_ble_eq_true rfl, Nat.le_of_ble_eq_true rfl, Nat.le_of_ble_eq_true rfl⟩ ⟨Nat.le_of_ble_eq_true rfl, Nat.le_of_ble_eq_true rfl⟩ dX6_thickness_29 (fun rf Mf hff => ?_)
    obtain ⟨hf1, hf2⟩ := hff
    rw [hf1, hf2]
    clear hf1 hf2
    have ho : oThick s ge tt = (1, 0) := by unfold oThick; rw [if_pos (by omega)]
    exact r_iret B dX6_thickness_32 ⟨by rw [ho], by rw [ho]⟩
  · have q_h1 := inF_1 h1
    have hgk := hok.2.2.2.2.1 ge (by omega) (by omega)
    obtain ⟨hgk1, hgk2, hgk3, hgk4, hgk5⟩ := id hgk
    have i2 := inF_in tt (-1) ((s.2.2.1 ge).1 - 1)
    refine r_iload_n B 2 dX6_thickness_8 rfl ?_
    refine r_i2l B dX6_thickness_9 ⟨by omega, by omega⟩ ?_
    refine r_ldc2 B (z := (-1)) dX6_thickness_10 q_1158 (by decide) ?_
    refine r_aload_n B 0 dX6_thickness_13 rfl ?_
    refine r_iload_n B 1 dX6_thickness_14 rfl ?_
    refine r_pVi1 B (c_X6_teeth l G M md hM ge (by omega) (by omega)) ⟨rfl, rfl⟩ ok_X6_teeth vi_X6_teeth q_1013 hM.1 rfl (fun _ => rfl) ⟨Nat.le_of_ble_eq_true rfl, Nat.le_of_ble_eq_true rfl, Nat.le_of_ble_eq_true rfl⟩ ⟨Nat.le_of_ble_eq_true rfl, Nat.le_of_ble_eq_true rfl⟩ dX6_thickness_15 ?_
    refine r_vi (y := (s.2.2.1 ge).1) (hS_M.2.2.1 ge (by omega) (by omega)).1 ?_
    refine r_iconst B dX6_thickness_18 ?_
    refine r_isub B dX6_thickness_19 ?_
    refine r_i2l B dX6_thickness_20 ⟨by omega, by omega⟩ ?_
    refine r_pSz3 B (c_X6_in l G M  tt (-1) (((s.2.2.1 ge).1) - 1) ⟨by omega, by omega⟩ ⟨by omega, by omega⟩ ⟨by omega, by omega⟩) ⟨rfl, rfl⟩ ok_X6_in q_961 q_960 ⟨Nat.le_of_ble_eq_true rfl, Nat.le_of_ble_eq_true rfl, Nat.le_of_ble_eq_true rfl⟩ ⟨Nat.le_of_ble_eq_true rfl, Nat.le_of_ble_eq_true rfl⟩ dX6_thickness_21 ?_
    refine r_if_ne B dX6_thickness_24 rfl ⟨by omega, by omega⟩ (fun h2 => ?_) (fun h2 => ?_)
    · have q_h2 := inF_1 h2
      refine r_iload_n B 2 dX6_thickness_33 rfl ?_
      refine r_iconst B dX6_thickness_34 ?_
      refine r_icmp_eq B dX6_thickness_35 rfl ⟨by omega, by omega⟩ ⟨by omega, by omega⟩ (fun h3 => ?_) (fun h3 => ?_)
      · refine r_aload_n B 0 dX6_thickness_49 rfl ?_
        refine r_iload_n B 1 dX6_thickness_50 rfl ?_
        refine r_iconst B dX6_thickness_51 ?_
        refine r_pVi2 B (c_X6_thick l G M md hM s hS_M hok ge 0 (by omega) (by omega) (by omega) (by omega)) ⟨rfl, rfl⟩ ok_X6_thick vi_X6_thick q_1159 hM.1 rfl (fun _ => rfl) ⟨Nat.le_of_ble_eq_true rfl, Nat.le_of_ble_eq_true rfl, Nat.le_of_ble_eq_true rfl⟩ ⟨Nat.le_of_ble_eq_true rfl, Nat.le_of_ble_eq_true rfl⟩ dX6_thickness_52 ?_
        refine r_istore_n B (lv' := [(3, .int (iI (thF (s.2.2.1 ge).1 (s.2.2.1 ge).2.2 0))), (0, .ref md), (1, .int (iI ge)), (2, .int (iI tt))]) dX6_thickness_55 (by decide) rfl ?_
        refine r_iload_n B 0 dX6_thickness_56 rfl ?_
        refine r_istore B (lv' := [(4, .int (iI (thF (s.2.2.1 ge).1 (s.2.2.1 ge).2.2 0))), (3, .int (iI (thF (s.2.2.1 ge).1 (s.2.2.1 ge).2.2 0))), (0, .ref md), (1, .int (iI ge)), (2, .int (iI tt))]) dX6_thickness_57 (by decide) rfl ?_
        refine r_iconst B dX6_thickness_59 ?_
        refine r_istore B (lv' := [(5, .int (iI 1)), (4, .int (iI (thF (s.2.2.1 ge).1 (s.2.2.1 ge).2.2 0))), (3, .int (iI (thF (s.2.2.1 ge).1 (s.2.2.1 ge).2.2 0))), (0, .ref md), (1, .int (iI ge)), (2, .int (iI tt))]) dX6_thickness_60 (by decide) rfl ?_
        have lp4 : ∀ (nlp4 : Nat) (i : Int) (mo : Int) (le : Int) (hi0 : 1 ≤ i) (hi1 : i ≤ (s.2.2.1 ge).1) (hmo : mo = mxF (thF (s.2.2.1 ge).1 (s.2.2.1 ge).2.2) (i - 1).toNat) (hle : le = mnF (thF (s.2.2.1 ge).1 (s.2.2.1 ge).2.2) (i - 1).toNat), ((s.2.2.1 ge).1 - i).toNat < nlp4 → WM G X 0 0 (bM X (PoI G (fun r M' => r = (oThick s ge tt).2 ∧ M' = sI M md 6 (oThick s ge tt).1)) 0 0 G) M 62 [(0, .ref md), (1, .int (iI ge)), (2, .int (iI tt)), (3, .int (iI mo)), (4, .int (iI le)), (5, .int (iI i))] [] := by
          intro nlp4
          induction nlp4 with
          | zero => intro i mo le hi0 hi1 hmo hle hm; omega
          | succ nlp4 ihlp4 =>
            intro i mo le hi0 hi1 hmo hle hm
            have hx0 := mxF_in (f := thF (s.2.2.1 ge).1 (s.2.2.1 ge).2.2) (L := -40000) (A := 40000) (i - 1).toNat (fun k a b => thF_in hgk (i := k) (by omega) (by omega))
            have hn0 := mnF_in (f := thF (s.2.2.1 ge).1 (s.2.2.1 ge).2.2) (L := -40000) (A := 40000) (i - 1).toNat (fun k a b => thF_in hgk (i := k) (by omega) (by omega))
            refine r_iload B 5 dX6_thickness_62 rfl ?_
            refine r_aload_n B 0 dX6_thickness_64 rfl ?_
            refine r_iload_n B 1 dX6_thickness_65 rfl ?_
            refine r_pVi1 B (c_X6_teeth l G M md hM ge (by omega) (by omega)) ⟨rfl, rfl⟩ ok_X6_teeth vi_X6_teeth q_1013 hM.1 rfl (fun _ => rfl) ⟨Nat.le_of_ble_eq_true rfl, Nat.le_of_ble_eq_true rfl, Nat.le_of_ble_eq_true rfl⟩ ⟨Nat.le_of_ble_eq_true rfl, Nat.le_of_ble_eq_true rfl⟩ dX6_thickness_66 ?_
            refine r_vi (y := (s.2.2.1 ge).1) (hS_M.2.2.1 ge (by omega) (by omega)).1 ?_
            refine r_icmp_ge B dX6_thickness_69 rfl ⟨by omega, by omega⟩ ⟨by omega, by omega⟩ (fun h5 => ?_) (fun h5 => ?_)
            · refine r_aload_n B 0 dX6_thickness_116 rfl ?_
              refine r_iload_n B 3 dX6_thickness_117 rfl ?_
              refine r_iload B 4 dX6_thickness_118 rfl ?_
              refine r_isub B dX6_thickness_120 ?_
              refine r_Vi1 B (c_X6_tells l G M md hM (mo - le)) ⟨rfl, rfl⟩ ok_X6_tells vi_X6_tells q_980 hM.1 rfl (fun _ => rfl) ⟨Nat.le_of_ble_eq_true rfl, Nat.le_of_ble_eq_true rfl, Nat.le_of_ble_eq_true rfl⟩ ⟨Nat.le_of_ble_eq_true rfl, Nat.le_of_ble_eq_true rfl⟩ dX6_thickness_121 (fun rf Mf hff => ?_)
              obtain ⟨hf1, hf2⟩ := hff
              rw [hf1, hf2]
              clear hf1 hf2
              have ho : oThick s ge tt = (0, mo - le) := by unfold oThick; rw [if_neg (by omega), if_pos (by omega)]; unfold thS; rw [hmo, hle, show i - 1 = (s.2.2.1 ge).1 - 1 by omega]
              exact r_iret B dX6_thickness_124 ⟨by rw [ho], by rw [ho]⟩
            · have hv := thF_in hgk (i := i) (by omega) (by omega)
              refine r_aload_n B 0 dX6_thickness_72 rfl ?_
              refine r_iload_n B 1 dX6_thickness_73 rfl ?_
              refine r_iload B 5 dX6_thickness_74 rfl ?_
              refine r_pVi2 B (c_X6_thick l G M md hM s hS_M hok ge i (by omega) (by omega) (by omega) (by omega)) ⟨rfl, rfl⟩ ok_X6_thick vi_X6_thick q_1159 hM.1 rfl (fun _ => rfl) ⟨Nat.le_of_ble_eq_true rfl, Nat.le_of_ble_eq_true rfl, Nat.le_of_ble_eq_true rfl⟩ ⟨Nat.le_of_ble_eq_true rfl, Nat.le_of_ble_eq_true rfl⟩ dX6_thickness_76 ?_
              refine r_istore B (lv' := [(6, .int (iI (thF (s.2.2.1 ge).1 (s.2.2.1 ge).2.2 i))), (0, .ref md), (1, .int (iI ge)), (2, .int (iI tt)), (3, .int (iI mo)), (4, .int (iI le)), (5, .int (iI i))]) dX6_thickness_79 (by decide) rfl ?_
              refine r_iload B 0 dX6_thickness_81 rfl ?_
              refine r_iload_n B 4 dX6_thickness_83 rfl ?_
              have J6 : ∀ w1 : Int, (w1 = max mo (thF (s.2.2.1 ge).1 (s.2.2.1 ge).2.2 i)) → WM G X 0 0 (bM X (PoI G (fun r M' => r = (oThick s ge tt).2 ∧ M' = sI M md 6 (oThick s ge tt).1)) 0 0 G) M 93 [(6, .int (iI (thF (s.2.2.1 ge).1 (s.2.2.1 ge).2.2 i))), (0, .ref md), (1, .int (iI ge)), (2, .int (iI tt)), (3, .int (iI mo)), (4, .int (iI le)), (5, .int (iI i))] [.int (iI w1)] := by
                intro w1 hw1
                refine r_istore_n B (lv' := [(3, .int (iI w1)), (6, .int (iI (thF (s.2.2.1 ge).1 (s.2.2.1 ge).2.2 i))), (0, .ref md), (1, .int (iI ge)), (2, .int (iI tt)), (4, .int (iI le)), (5, .int (iI i))]) dX6_thickness_93 (by decide) rfl ?_
                refine r_iload B 1 dX6_thickness_94 rfl ?_
                refine r_iload B 5 dX6_thickness_96 rfl ?_
                have J7 : ∀ w2 : Int, (w2 = min le (thF (s.2.2.1 ge).1 (s.2.2.1 ge).2.2 i)) → WM G X 0 0 (bM X (PoI G (fun r M' => r = (oThick s ge tt).2 ∧ M' = sI M md 6 (oThick s ge tt).1)) 0 0 G) M 108 [(3, .int (iI w1)), (6, .int (iI (thF (s.2.2.1 ge).1 (s.2.2.1 ge).2.2 i))), (0, .ref md), (1, .int (iI ge)), (2, .int (iI tt)), (4, .int (iI le)), (5, .int (iI i))] [.int (iI w2)] := by
                  intro w2 hw2
                  refine r_istore B (lv' := [(4, .int (iI w2)), (3, .int (iI w1)), (6, .int (iI (thF (s.2.2.1 ge).1 (s.2.2.1 ge).2.2 i))), (0, .ref md), (1, .int (iI ge)), (2, .int (iI tt)), (5, .int (iI i))]) dX6_thickness_108 (by decide) rfl ?_
                  refine r_iinc B (lv' := [(5, .int (iI (i + 1))), (4, .int (iI w2)), (3, .int (iI w1)), (6, .int (iI (thF (s.2.2.1 ge).1 (s.2.2.1 ge).2.2 i))), (0, .ref md), (1, .int (iI ge)), (2, .int (iI tt))]) dX6_thickness_110 (j := 6) rfl (by decide) rfl ?_
                  refine r_goto B dX6_thickness_113 rfl ?_
                  refine WM.pick [4, 5, 6, 2, 1, 0] rfl ?_
                  exact ihlp4 (i + 1) _ _ (by omega) (by omega) (by rw [show i + 1 - 1 = i by omega, mxF_s _ hi0, ← hmo]; exact hw1) (by rw [show i + 1 - 1 = i by omega, mnF_s _ hi0, ← hle]; exact hw2) (by omega)
                refine r_icmp_ge B dX6_thickness_98 rfl ⟨by omega, by omega⟩ ⟨by omega, by omega⟩ (fun h8 => ?_) (fun h8 => ?_)
                · refine r_iload B 5 dX6_thickness_106 rfl ?_
                  exact J7 _ (by omega)
                · refine r_iload B 1 dX6_thickness_101 rfl ?_
                  refine r_goto B dX6_thickness_103 rfl ?_
                  exact J7 _ (by omega)
              refine r_icmp_le B dX6_thickness_84 rfl ⟨by omega, by omega⟩ ⟨by omega, by omega⟩ (fun h9 => ?_) (fun h9 => ?_)
              · refine r_iload_n B 4 dX6_thickness_92 rfl ?_
                exact J6 _ (by omega)
              · refine r_iload B 0 dX6_thickness_87 rfl ?_
                refine r_goto B dX6_thickness_89 rfl ?_
                exact J6 _ (by omega)
        refine WM.pick [3, 4, 5, 2, 1, 0] rfl ?_
        exact lp4 _ 1 _ _ (by omega) (by omega) rfl rfl (Nat.lt_succ_self _)
      · refine r_aload_n B 0 dX6_thickness_38 rfl ?_
        refine r_aload_n B 0 dX6_thickness_39 rfl ?_
        refine r_iload_n B 1 dX6_thickness_40 rfl ?_
        refine r_iload_n B 2 dX6_thickness_41 rfl ?_
        refine r_pVi2 B (c_X6_thick l G M md hM s hS_M hok ge tt (by omega) (by omega) (by omega) (by omega)) ⟨rfl, rfl⟩ ok_X6_thick vi_X6_thick q_1159 hM.1 rfl (fun _ => rfl) ⟨Nat.le_of_ble_eq_true rfl, Nat.le_of_ble_eq_true rfl, Nat.le_of_ble_eq_true rfl⟩ ⟨Nat.le_of_ble_eq_true rfl, Nat.le_of_ble_eq_true rfl⟩ dX6_thickness_42 ?_
        refine r_Vi1 B (c_X6_tells l G M md hM (thF (s.2.2.1 ge).1 (s.2.2.1 ge).2.2 tt)) ⟨rfl, rfl⟩ ok_X6_tells vi_X6_tells q_980 hM.1 rfl (fun _ => rfl) ⟨Nat.le_of_ble_eq_true rfl, Nat.le_of_ble_eq_true rfl, Nat.le_of_ble_eq_true rfl⟩ ⟨Nat.le_of_ble_eq_true rfl, Nat.le_of_ble_eq_true rfl⟩ dX6_thickness_45 (fun rf Mf hff => ?_)
        obtain ⟨hf1, hf2⟩ := hff
        rw [hf1, hf2]
        clear hf1 hf2
        have ho : oThick s ge tt = (0, thF (s.2.2.1 ge).1 (s.2.2.1 ge).2.2 tt) := by unfold oThick; rw [if_neg (by omega), if_neg (by omega), if_pos (by omega)]
        exact r_iret B dX6_thickness_48 ⟨by rw [ho], by rw [ho]⟩
    · have q_h2 := inF_0 h2
      refine r_aload_n B 0 dX6_thickness_27 rfl ?_
      refine r_iconst B dX6_thickness_28 ?_
      refine r_Vi1 B (c_X6_fails l G M md hM 1) ⟨rfl, rfl⟩ ok_X6_fails vi_X6_fails q_964 hM.1 rfl (fun _ => rfl) ⟨Nat.le_of_ble_eq_true rfl, Nat.le_of_ble_eq_true rfl, Nat.le_of_ble_eq_true rfl⟩ ⟨Nat.le_of_ble_eq_true rfl, Nat.le_of_ble_eq_true rfl⟩ dX6_thickness_29 (fun rf Mf hff => ?_)
      obtain ⟨hf1, hf2⟩ := hff
      rw [hf1, hf2]
      clear hf1 hf2
      have ho : oThick s ge tt = (1, 0) := by unfold oThick; rw [if_neg (by omega), if_neg (by omega), if_neg (by omega)]
      exact r_iret B dX6_thickness_32 ⟨by rw [ho], by rw [ho]⟩

set_option maxRecDepth 100000 in
set_option maxHeartbeats 4000000 in
theorem c_X6_eccentricity (l : Launch) (G : Gs) (M : Mem) (md : Nat) (hM : IsMd G md) (s : Ast) (hS_M : MdS M md s) (hok : StateOk s) (ge : Int) (hge : In32 ge) : Ct l G yX6_eccentricity cX6_eccentricity 6 (some .double) rm_X6_eccentricity [.ref md, .int (iI ge)] M (PoD G (fun r M' => ((oEcc s ge).1 = 0 → r = halfD (oEcc s ge).2) ∧ M' = sI M md 6 (oEcc s ge).1)) 0 0 := by
  refine Ct.of (by decide +kernel) (Nat.le_of_ble_eq_true rfl) [(0, .ref md), (1, .int (iI ge))] rfl ?_
  intro X B
  have hs1 := hok.1
  have hs2 := hok.2.1
  have hs3 := hok.2.2.1
  have hs4 := hok.2.2.2.1
  have hF_M : FL M M md := FL.rf
  obtain ⟨hge1, hge2⟩ := hge
  have i1 := inF_in ge 0 (s.1 - 1)
  refine r_aload_n B 0 dX6_eccentricity_0 rfl ?_
  refine r_iload_n B 1 dX6_eccentricity_1 rfl ?_
  refine r_pVz1 B (c_X6_isGear l G M md hM s hS_M hok ge ⟨by omega, by omega⟩) ⟨rfl, rfl⟩ ok_X6_isGear vi_X6_isGear q_988 hM.1 rfl (fun _ => rfl) ⟨Nat.le_of_ble_eq_true rfl, Nat.le_of_ble_eq_true rfl, Nat.le_of_ble_eq_true rfl⟩ ⟨Nat.le_of_ble_eq_true rfl, Nat.le_of_ble_eq_true rfl⟩ dX6_eccentricity_2 ?_
  refine r_if_ne B dX6_eccentricity_5 rfl ⟨by omega, by omega⟩ (fun h1 => ?_) (fun h1 => ?_)
  · have q_h1 := inF_1 h1
    have hgk := hok.2.2.2.2.1 ge (by omega) (by omega)
    obtain ⟨hgk1, hgk2, hgk3, hgk4, hgk5⟩ := id hgk
    have hz2 : szS (s.2.2.1 ge).1 2 = (s.2.2.1 ge).1 := szS_2
    refine r_aload_n B 0 dX6_eccentricity_15 rfl ?_
    refine r_iload_n B 1 dX6_eccentricity_16 rfl ?_
    refine r_pVi1 B (c_X6_teeth l G M md hM ge (by omega) (by omega)) ⟨rfl, rfl⟩ ok_X6_teeth vi_X6_teeth q_1013 hM.1 rfl (fun _ => rfl) ⟨Nat.le_of_ble_eq_true rfl, Nat.le_of_ble_eq_true rfl, Nat.le_of_ble_eq_true rfl⟩ ⟨Nat.le_of_ble_eq_true rfl, Nat.le_of_ble_eq_true rfl⟩ dX6_eccentricity_17 ?_
    refine r_vi (y := (s.2.2.1 ge).1) (hS_M.2.2.1 ge (by omega) (by omega)).1 ?_
    refine r_istore_n B (lv' := [(2, .int (iI ((s.2.2.1 ge).1))), (0, .ref md), (1, .int (iI ge))]) dX6_eccentricity_20 (by decide) rfl ?_
    refine r_iconst B dX6_eccentricity_21 ?_
    refine r_istore_n B (lv' := [(3, .int (iI 0)), (2, .int (iI ((s.2.2.1 ge).1))), (0, .ref md), (1, .int (iI ge))]) dX6_eccentricity_22 (by decide) rfl ?_
    refine r_iconst B dX6_eccentricity_23 ?_
    refine r_istore B (lv' := [(4, .int (iI 0)), (3, .int (iI 0)), (2, .int (iI ((s.2.2.1 ge).1))), (0, .ref md), (1, .int (iI ge))]) dX6_eccentricity_24 (by decide) rfl ?_
    have lp2 : ∀ (nlp2 : Nat) (i : Int) (mo : Int) (hi0 : 0 ≤ i) (hi1 : i ≤ (s.2.2.1 ge).1) (hmo : mo = mxZ (opF (s.2.2.1 ge).1 ((s.2.2.1 ge).2.2 2)) i.toNat), ((s.2.2.1 ge).1 - i).toNat < nlp2 → WM G X 0 0 (bM X (PoD G (fun r M' => ((oEcc s ge).1 = 0 → r = halfD (oEcc s ge).2) ∧ M' = sI M md 6 (oEcc s ge).1)) 0 0 G) M 26 [(0, .ref md), (1, .int (iI ge)), (2, .int (iI ((s.2.2.1 ge).1))), (3, .int (iI mo)), (4, .int (iI i))] [] := by
      intro nlp2
      induction nlp2 with
      | zero => intro i mo hi0 hi1 hmo hm; omega
      | succ nlp2 ihlp2 =>
        intro i mo hi0 hi1 hmo hm
        have hb0 := mxZ_in (f := opF (s.2.2.1 ge).1 ((s.2.2.1 ge).2.2 2)) (A := 10000) (by omega) i.toNat (fun k a b => opF_in hgk (i := k) (by omega) (by omega))
        refine r_iload B 4 dX6_eccentricity_26 rfl ?_
        refine r_iload_n B 2 dX6_eccentricity_28 rfl ?_
        refine r_icmp_ge B dX6_eccentricity_29 rfl ⟨by omega, by omega⟩ ⟨by omega, by omega⟩ (fun h3 => ?_) (fun h3 => ?_)
        · refine r_aload_n B 0 dX6_eccentricity_79 rfl ?_
          refine r_iload_n B 3 dX6_eccentricity_80 rfl ?_
          refine r_Vi1 B (c_X6_tells l G M md hM mo) ⟨rfl, rfl⟩ ok_X6_tells vi_X6_tells q_980 hM.1 rfl (fun _ => rfl) ⟨Nat.le_of_ble_eq_true rfl, Nat.le_of_ble_eq_true rfl, Nat.le_of_ble_eq_true rfl⟩ ⟨Nat.le_of_ble_eq_true rfl, Nat.le_of_ble_eq_true rfl⟩ dX6_eccentricity_81 (fun rf Mf hff => ?_)
          obtain ⟨hf1, hf2⟩ := hff
          rw [hf1, hf2]
          clear hf1 hf2
          refine r_i2d B dX6_eccentricity_84 ?_
          refine r_ldc2d B (v := 4611686018427387904) dX6_eccentricity_85 q_1167 ?_
          refine r_ddiv B dX6_eccentricity_88 (n64_half _) ?_
          have ho : oEcc s ge = (0, mo) := by unfold oEcc; rw [if_neg (by omega), hmo, show i = (s.2.2.1 ge).1 by omega]; rfl
          exact r_dret B dX6_eccentricity_89 ⟨by rw [ho]; exact fun _ => rfl, by rw [ho]⟩
        · have har : 0 ≤ arS (s.2.2.1 ge).1 (i + (s.2.2.1 ge).1 / 2) ∧ arS (s.2.2.1 ge).1 (i + (s.2.2.1 ge).1 / 2) < (s.2.2.1 ge).1 := by unfold arS; split <;> omega
          have htd : (s.2.2.1 ge).1.tdiv 2 = (s.2.2.1 ge).1 / 2 := Int.tdiv_eq_ediv_of_nonneg (by omega)
          have hv1 := hgk.ra (k := i) (by omega) (by omega)
          have hv2 := hgk.ra (k := arS (s.2.2.1 ge).1 (i + (s.2.2.1 ge).1 / 2)) (by omega) (by omega)
          have hof := opF_in hgk (i := i) (by omega) (by omega)
          refine r_aload_n B 0 dX6_eccentricity_32 rfl ?_
          refine r_iload_n B 1 dX6_eccentricity_33 rfl ?_
          refine r_iconst B dX6_eccentricity_34 ?_
          refine r_iload B 4 dX6_eccentricity_35 rfl ?_
          refine r_pVi3 B (c_X6_readingOf l G M md hM ge 2 i (by omega) (by omega) (by omega) (by omega) (by omega) (by omega)) ⟨rfl, rfl⟩ ok_X6_readingOf vi_X6_readingOf q_1022 hM.1 rfl (fun _ => rfl) ⟨Nat.le_of_ble_eq_true rfl, Nat.le_of_ble_eq_true rfl, Nat.le_of_ble_eq_true rfl⟩ ⟨Nat.le_of_ble_eq_true rfl, Nat.le_of_ble_eq_true rfl⟩ dX6_eccentricity_37 ?_
          refine r_vi (y := (s.2.2.1 ge).2.2 2 i) ((hS_M.2.2.1 ge (by omega) (by omega)).2.2 2 i (by omega) (by omega) (by omega) (by omega)) ?_
          refine r_aload_n B 0 dX6_eccentricity_40 rfl ?_
          refine r_iload_n B 1 dX6_eccentricity_41 rfl ?_
          refine r_iconst B dX6_eccentricity_42 ?_
          refine r_iload B 4 dX6_eccentricity_43 rfl ?_
          refine r_iload_n B 2 dX6_eccentricity_45 rfl ?_
          refine r_iconst B dX6_eccentricity_46 ?_
          refine r_idiv B dX6_eccentricity_47 ⟨by omega, by omega⟩ ⟨by omega, by omega⟩ (by omega) ?_
          refine r_iadd B dX6_eccentricity_48 ?_
          refine r_iload_n B 2 dX6_eccentricity_49 rfl ?_
          refine r_irem B dX6_eccentricity_50 ⟨by omega, by omega⟩ ⟨by omega, by omega⟩ (by omega) ?_
          refine r_vi (y := arS (s.2.2.1 ge).1 (i + (s.2.2.1 ge).1 / 2)) (by rw [Int.tdiv_eq_ediv_of_nonneg (by omega), Int.tmod_eq_emod_of_nonneg (by omega)]; exact arS_mod (by omega) (by omega)) ?_
          refine r_pVi3 B (c_X6_readingOf l G M md hM ge 2 (arS (s.2.2.1 ge).1 (i + (s.2.2.1 ge).1 / 2)) (by omega) (by omega) (by omega) (by omega) (by omega) (by omega)) ⟨rfl, rfl⟩ ok_X6_readingOf vi_X6_readingOf q_1022 hM.1 rfl (fun _ => rfl) ⟨Nat.le_of_ble_eq_true rfl, Nat.le_of_ble_eq_true rfl, Nat.le_of_ble_eq_true rfl⟩ ⟨Nat.le_of_ble_eq_true rfl, Nat.le_of_ble_eq_true rfl⟩ dX6_eccentricity_51 ?_
          refine r_vi (y := (s.2.2.1 ge).2.2 2 (arS (s.2.2.1 ge).1 (i + (s.2.2.1 ge).1 / 2))) ((hS_M.2.2.1 ge (by omega) (by omega)).2.2 2 (arS (s.2.2.1 ge).1 (i + (s.2.2.1 ge).1 / 2)) (by omega) (by omega) (by omega) (by omega)) ?_
          refine r_isub B dX6_eccentricity_54 ?_
          refine r_pSi1 B (c_X6_size l G M  (((s.2.2.1 ge).2.2 2 i) - ((s.2.2.1 ge).2.2 2 (arS (s.2.2.1 ge).1 (i + (s.2.2.1 ge).1 / 2)))) ⟨by omega, by omega⟩) ⟨rfl, rfl⟩ ok_X6_size q_1101 q_1100 ⟨Nat.le_of_ble_eq_true rfl, Nat.le_of_ble_eq_true rfl, Nat.le_of_ble_eq_true rfl⟩ ⟨Nat.le_of_ble_eq_true rfl, Nat.le_of_ble_eq_true rfl⟩ dX6_eccentricity_55 ?_
          refine r_vi (y := opF (s.2.2.1 ge).1 ((s.2.2.1 ge).2.2 2) i) (absI_sub _ _) ?_
          have hof0 : 0 ≤ opF (s.2.2.1 ge).1 ((s.2.2.1 ge).2.2 2) i := by show 0 ≤ max _ _; omega
          refine r_istore B (lv' := [(5, .int (iI (opF (s.2.2.1 ge).1 ((s.2.2.1 ge).2.2 2) i))), (0, .ref md), (1, .int (iI ge)), (2, .int (iI ((s.2.2.1 ge).1))), (3, .int (iI mo)), (4, .int (iI i))]) dX6_eccentricity_58 (by decide) rfl ?_
          refine r_iload B 0 dX6_eccentricity_60 rfl ?_
          refine r_iload_n B 4 dX6_eccentricity_62 rfl ?_
          have J4 : ∀ w1 : Int, (w1 = max mo (opF (s.2.2.1 ge).1 ((s.2.2.1 ge).2.2 2) i)) → WM G X 0 0 (bM X (PoD G (fun r M' => ((oEcc s ge).1 = 0 → r = halfD (oEcc s ge).2) ∧ M' = sI M md 6 (oEcc s ge).1)) 0 0 G) M 72 [(5, .int (iI (opF (s.2.2.1 ge).1 ((s.2.2.1 ge).2.2 2) i))), (0, .ref md), (1, .int (iI ge)), (2, .int (iI ((s.2.2.1 ge).1))), (3, .int (iI mo)), (4, .int (iI i))] [.int (iI w1)] := by
            intro w1 hw1
            refine r_istore_n B (lv' := [(3, .int (iI w1)), (5, .int (iI (opF (s.2.2.1 ge).1 ((s.2.2.1 ge).2.2 2) i))), (0, .ref md), (1, .int (iI ge)), (2, .int (iI ((s.2.2.1 ge).1))), (4, .int (iI i))]) dX6_eccentricity_72 (by decide) rfl ?_
            refine r_iinc B (lv' := [(4, .int (iI (i + 1))), (3, .int (iI w1)), (5, .int (iI (opF (s.2.2.1 ge).1 ((s.2.2.1 ge).2.2 2) i))), (0, .ref md), (1, .int (iI ge)), (2, .int (iI ((s.2.2.1 ge).1)))]) dX6_eccentricity_73 (j := 5) rfl (by decide) rfl ?_
            refine r_goto B dX6_eccentricity_76 rfl ?_
            refine WM.pick [3, 4, 5, 1, 0] rfl ?_
            exact ihlp2 (i + 1) _ (by omega) (by omega) (by rw [mxZ_s _ hi0, ← hmo]; exact hw1) (by omega)
          refine r_icmp_le B dX6_eccentricity_63 rfl ⟨by omega, by omega⟩ ⟨by omega, by omega⟩ (fun h5 => ?_) (fun h5 => ?_)
          · refine r_iload_n B 4 dX6_eccentricity_71 rfl ?_
            exact J4 _ (by omega)
          · refine r_iload B 0 dX6_eccentricity_66 rfl ?_
            refine r_goto B dX6_eccentricity_68 rfl ?_
            exact J4 _ (by omega)
    refine WM.pick [3, 4, 2, 1, 0] rfl ?_
    exact lp2 _ 0 0 (by omega) (by omega) rfl (Nat.lt_succ_self _)
  · have q_h1 := inF_0 h1
    refine r_aload_n B 0 dX6_eccentricity_8 rfl ?_
    refine r_iconst B dX6_eccentricity_9 ?_
    refine r_Vi1 B (c_X6_fails l G M md hM 1) ⟨rfl, rfl⟩ ok_X6_fails vi_X6_fails q_964 hM.1 rfl (fun _ => rfl) ⟨Nat.le_of_ble_eq_true rfl, Nat.le_of_ble_eq_true rfl, Nat.le_of_ble_eq_true rfl⟩ ⟨Nat.le_of_ble_eq_true rfl, Nat.le_of_ble_eq_true rfl⟩ dX6_eccentricity_10 (fun rf Mf hff => ?_)
    obtain ⟨hf1, hf2⟩ := hff
    rw [hf1, hf2]
    clear hf1 hf2
    refine r_i2d B dX6_eccentricity_13 ?_
    have ho : oEcc s ge = (1, 0) := by unfold oEcc; rw [if_pos (by omega)]
    exact r_dret B dX6_eccentricity_14 ⟨by rw [ho]; intro w; exact absurd w (by decide), by rw [ho]⟩

set_option maxRecDepth 100000 in
set_option maxHeartbeats 4000000 in
theorem c_X6_span (l : Launch) (G : Gs) (M : Mem) (md : Nat) (hM : IsMd G md) (s : Ast) (hS_M : MdS M md s) (hok : StateOk s) (ge fl k : Int) (hge : In32 ge) (hfl : In32 fl) (hk : In32 k) : Ct l G yX6_span cX6_span 9 (some .int) rm_X6_span [.ref md, .int (iI ge), .int (iI fl), .int (iI k)] M (PoI G (fun r M' => r = (oSpan s ge fl k).2 ∧ M' = sI M md 6 (oSpan s ge fl k).1)) 0 0 := by
  refine Ct.of (by decide +kernel) (Nat.le_of_ble_eq_true rfl) [(0, .ref md), (1, .int (iI ge)), (2, .int (iI fl)), (3, .int (iI k))] rfl ?_
  intro X B
  have hs1 := hok.1
  have hs2 := hok.2.1
  have hs3 := hok.2.2.1
  have hs4 := hok.2.2.2.1
  have hF_M : FL M M md := FL.rf
  obtain ⟨hge1, hge2⟩ := hge
  obtain ⟨hfl1, hfl2⟩ := hfl
  obtain ⟨hk1, hk2⟩ := hk
  have i1 := bF_in ((0 ≤ ge ∧ ge < s.1) ∧ (0 ≤ fl ∧ fl < 2))
  refine r_aload_n B 0 dX6_span_0 rfl ?_
  refine r_iload_n B 1 dX6_span_1 rfl ?_
  refine r_iload_n B 2 dX6_span_2 rfl ?_
  refine r_pVz2 B (c_X6_isFlank l G M md hM s hS_M hok ge fl ⟨by omega, by omega⟩ ⟨by omega, by omega⟩) ⟨rfl, rfl⟩ ok_X6_isFlank vi_X6_isFlank q_1142 hM.1 rfl (fun _ => rfl) ⟨Nat.le_of_ble_eq_true rfl, Nat.le_of_ble_eq_true rfl, Nat.le_of_ble_eq_true rfl⟩ ⟨Nat.le_of_ble_eq_true rfl, Nat.le_of_ble_eq_true rfl⟩ dX6_span_3 ?_
  refine r_if_ne B dX6_span_6 rfl ⟨by omega, by omega⟩ (fun h1 => ?_) (fun h1 => ?_)
  · have q_h1 := bF_1 h1
    have hgk := hok.2.2.2.2.1 ge (by omega) (by omega)
    obtain ⟨hgk1, hgk2, hgk3, hgk4, hgk5⟩ := id hgk
    have i2 := inF_in k 1 (s.2.2.1 ge).1
    refine r_iload_n B 3 dX6_span_15 rfl ?_
    refine r_i2l B dX6_span_16 ⟨by omega, by omega⟩ ?_
    refine r_lconst1 B dX6_span_17 ?_
    refine r_aload_n B 0 dX6_span_18 rfl ?_
    refine r_iload_n B 1 dX6_span_19 rfl ?_
    refine r_pVi1 B (c_X6_teeth l G M md hM ge (by omega) (by omega)) ⟨rfl, rfl⟩ ok_X6_teeth vi_X6_teeth q_1013 hM.1 rfl (fun _ => rfl) ⟨Nat.le_of_ble_eq_true rfl, Nat.le_of_ble_eq_true rfl, Nat.le_of_ble_eq_true rfl⟩ ⟨Nat.le_of_ble_eq_true rfl, Nat.le_of_ble_eq_true rfl⟩ dX6_span_20 ?_
    refine r_vi (y := (s.2.2.1 ge).1) (hS_M.2.2.1 ge (by omega) (by omega)).1 ?_
    refine r_i2l B dX6_span_23 ⟨by omega, by omega⟩ ?_
    refine r_pSz3 B (c_X6_in l G M  k 1 ((s.2.2.1 ge).1) ⟨by omega, by omega⟩ ⟨by omega, by omega⟩ ⟨by omega, by omega⟩) ⟨rfl, rfl⟩ ok_X6_in q_961 q_960 ⟨Nat.le_of_ble_eq_true rfl, Nat.le_of_ble_eq_true rfl, Nat.le_of_ble_eq_true rfl⟩ ⟨Nat.le_of_ble_eq_true rfl, Nat.le_of_ble_eq_true rfl⟩ dX6_span_24 ?_
    refine r_if_ne B dX6_span_27 rfl ⟨by omega, by omega⟩ (fun h2 => ?_) (fun h2 => ?_)
    · have q_h2 := inF_1 h2
      refine r_aload_n B 0 dX6_span_36 rfl ?_
      refine r_iload_n B 1 dX6_span_37 rfl ?_
      refine r_pVi1 B (c_X6_teeth l G M md hM ge (by omega) (by omega)) ⟨rfl, rfl⟩ ok_X6_teeth vi_X6_teeth q_1013 hM.1 rfl (fun _ => rfl) ⟨Nat.le_of_ble_eq_true rfl, Nat.le_of_ble_eq_true rfl, Nat.le_of_ble_eq_true rfl⟩ ⟨Nat.le_of_ble_eq_true rfl, Nat.le_of_ble_eq_true rfl⟩ dX6_span_38 ?_
      refine r_vi (y := (s.2.2.1 ge).1) (hS_M.2.2.1 ge (by omega) (by omega)).1 ?_
      refine r_istore B (lv' := [(4, .int (iI ((s.2.2.1 ge).1))), (0, .ref md), (1, .int (iI ge)), (2, .int (iI fl)), (3, .int (iI k))]) dX6_span_41 (by decide) rfl ?_
      refine r_iconst B dX6_span_43 ?_
      refine r_istore B (lv' := [(5, .int (iI 0)), (4, .int (iI ((s.2.2.1 ge).1))), (0, .ref md), (1, .int (iI ge)), (2, .int (iI fl)), (3, .int (iI k))]) dX6_span_44 (by decide) rfl ?_
      refine r_iconst B dX6_span_46 ?_
      refine r_istore B (lv' := [(6, .int (iI 0)), (5, .int (iI 0)), (4, .int (iI ((s.2.2.1 ge).1))), (0, .ref md), (1, .int (iI ge)), (2, .int (iI fl)), (3, .int (iI k))]) dX6_span_47 (by decide) rfl ?_
      have lp3 : ∀ (nlp3 : Nat) (i : Int) (mo : Int) (hi0 : 0 ≤ i) (hi1 : i ≤ (s.2.2.1 ge).1) (hmo : mo = mxZ (spF (s.2.2.1 ge).1 ((s.2.2.1 ge).2.2 fl) k) i.toNat), ((s.2.2.1 ge).1 - i).toNat < nlp3 → WM G X 0 0 (bM X (PoI G (fun r M' => r = (oSpan s ge fl k).2 ∧ M' = sI M md 6 (oSpan s ge fl k).1)) 0 0 G) M 49 [(0, .ref md), (1, .int (iI ge)), (2, .int (iI fl)), (3, .int (iI k)), (4, .int (iI ((s.2.2.1 ge).1))), (5, .int (iI mo)), (6, .int (iI i))] [] := by
        intro nlp3
        induction nlp3 with
        | zero => intro i mo hi0 hi1 hmo hm; omega
        | succ nlp3 ihlp3 =>
          intro i mo hi0 hi1 hmo hm
          have hb0 := mxZ_in (f := spF (s.2.2.1 ge).1 ((s.2.2.1 ge).2.2 fl) k) (A := 40000) (by omega) i.toNat (fun q a b => spF_in hgk (s := fl) (k := k) (i := q) (by omega) (by omega) (by omega) (by omega) (by omega) (by omega))
          refine r_iload B 6 dX6_span_49 rfl ?_
          refine r_iload B 4 dX6_span_51 rfl ?_
          refine r_icmp_ge B dX6_span_53 rfl ⟨by omega, by omega⟩ ⟨by omega, by omega⟩ (fun h4 => ?_) (fun h4 => ?_)
          · refine r_aload_n B 0 dX6_span_123 rfl ?_
            refine r_iload B 5 dX6_span_124 rfl ?_
            refine r_Vi1 B (c_X6_tells l G M md hM mo) ⟨rfl, rfl⟩ ok_X6_tells vi_X6_tells q_980 hM.1 rfl (fun _ => rfl) ⟨Nat.le_of_ble_eq_true rfl, Nat.le_of_ble_eq_true rfl, Nat.le_of_ble_eq_true rfl⟩ ⟨Nat.le_of_ble_eq_true rfl, Nat.le_of_ble_eq_true rfl⟩ dX6_span_126 (fun rf Mf hff => ?_)
            obtain ⟨hf1, hf2⟩ := hff
            rw [hf1, hf2]
            clear hf1 hf2
            have ho : oSpan s ge fl k = (0, mo) := by unfold oSpan; rw [if_neg (by omega), if_neg (by omega)]; rw [hmo, show i = (s.2.2.1 ge).1 by omega]; rfl
            exact r_iret B dX6_span_129 ⟨by rw [ho], by rw [ho]⟩
          · have hxi := hgk.ix (s := fl) (t := i) (by omega) (by omega) (by omega) (by omega)
            refine r_iconst B dX6_span_56 ?_
            refine r_istore B (lv' := [(7, .int (iI 0)), (0, .ref md), (1, .int (iI ge)), (2, .int (iI fl)), (3, .int (iI k)), (4, .int (iI ((s.2.2.1 ge).1))), (5, .int (iI mo)), (6, .int (iI i))]) dX6_span_57 (by decide) rfl ?_
            refine r_iconst B dX6_span_59 ?_
            refine r_istore B (lv' := [(8, .int (iI 0)), (7, .int (iI 0)), (0, .ref md), (1, .int (iI ge)), (2, .int (iI fl)), (3, .int (iI k)), (4, .int (iI ((s.2.2.1 ge).1))), (5, .int (iI mo)), (6, .int (iI i))]) dX6_span_60 (by decide) rfl ?_
            have lp5 : ∀ (nlp5 : Nat) (j : Int) (su : Int) (hj0 : 0 ≤ j) (hj1 : j ≤ k) (hsu : su = ixS (s.2.2.1 ge).1 ((s.2.2.1 ge).2.2 fl) (arS (s.2.2.1 ge).1 (i + j)) - ixS (s.2.2.1 ge).1 ((s.2.2.1 ge).2.2 fl) i), (k - j).toNat < nlp5 → WM G X 0 0 (bM X (PoI G (fun r M' => r = (oSpan s ge fl k).2 ∧ M' = sI M md 6 (oSpan s ge fl k).1)) 0 0 G) M 62 [(0, .ref md), (1, .int (iI ge)), (2, .int (iI fl)), (3, .int (iI k)), (4, .int (iI ((s.2.2.1 ge).1))), (5, .int (iI mo)), (6, .int (iI i)), (7, .int (iI su)), (8, .int (iI j))] [] := by
              intro nlp5
              induction nlp5 with
              | zero => intro j su hj0 hj1 hsu hm; omega
              | succ nlp5 ihlp5 =>
                intro j su hj0 hj1 hsu hm
                have har : 0 ≤ arS (s.2.2.1 ge).1 (i + j) ∧ arS (s.2.2.1 ge).1 (i + j) < (s.2.2.1 ge).1 := by unfold arS; split <;> omega
                have hx1 := hgk.ix (s := fl) (t := arS (s.2.2.1 ge).1 (i + j)) (by omega) (by omega) (by omega) (by omega)
                have hx2 := hgk.ix (s := fl) (t := arS (s.2.2.1 ge).1 (i + j) + 1) (by omega) (by omega) (by omega) (by omega)
                refine r_iload B 8 dX6_span_62 rfl ?_
                refine r_iload_n B 3 dX6_span_64 rfl ?_
                refine r_icmp_ge B dX6_span_65 rfl ⟨by omega, by omega⟩ ⟨by omega, by omega⟩ (fun h6 => ?_) (fun h6 => ?_)
                · have hsp : absI su = spF (s.2.2.1 ge).1 ((s.2.2.1 ge).2.2 fl) k i := by rw [hsu, show j = k by omega]; rfl
                  have hspb := spF_in hgk (s := fl) (k := k) (i := i) (by omega) (by omega) (by omega) (by omega) (by omega) (by omega)
                  have hsp0 : 0 ≤ spF (s.2.2.1 ge).1 ((s.2.2.1 ge).2.2 fl) k i := by rw [← hsp]; show 0 ≤ max _ _; omega
                  refine r_iload B 7 dX6_span_95 rfl ?_
                  refine r_pSi1 B (c_X6_size l G M  su ⟨by omega, by omega⟩) ⟨rfl, rfl⟩ ok_X6_size q_1101 q_1100 ⟨Nat.le_of_ble_eq_true rfl, Nat.le_of_ble_eq_true rfl, Nat.le_of_ble_eq_true rfl⟩ ⟨Nat.le_of_ble_eq_true rfl, Nat.le_of_ble_eq_true rfl⟩ dX6_span_97 ?_
                  refine r_vi (y := spF (s.2.2.1 ge).1 ((s.2.2.1 ge).2.2 fl) k i) hsp ?_
                  refine r_iload B 5 dX6_span_100 rfl ?_
                  have J7 : ∀ w1 : Int, (w1 = max mo (spF (s.2.2.1 ge).1 ((s.2.2.1 ge).2.2 fl) k i)) → WM G X 0 0 (bM X (PoI G (fun r M' => r = (oSpan s ge fl k).2 ∧ M' = sI M md 6 (oSpan s ge fl k).1)) 0 0 G) M 115 [(0, .ref md), (1, .int (iI ge)), (2, .int (iI fl)), (3, .int (iI k)), (4, .int (iI ((s.2.2.1 ge).1))), (5, .int (iI mo)), (6, .int (iI i)), (7, .int (iI su)), (8, .int (iI j))] [.int (iI w1)] := by
                    intro w1 hw1
                    refine r_istore B (lv' := [(5, .int (iI w1)), (0, .ref md), (1, .int (iI ge)), (2, .int (iI fl)), (3, .int (iI k)), (4, .int (iI ((s.2.2.1 ge).1))), (6, .int (iI i)), (7, .int (iI su)), (8, .int (iI j))]) dX6_span_115 (by decide) rfl ?_
                    refine r_iinc B (lv' := [(6, .int (iI (i + 1))), (5, .int (iI w1)), (0, .ref md), (1, .int (iI ge)), (2, .int (iI fl)), (3, .int (iI k)), (4, .int (iI ((s.2.2.1 ge).1))), (7, .int (iI su)), (8, .int (iI j))]) dX6_span_117 (j := 6) rfl (by decide) rfl ?_
                    refine r_goto B dX6_span_120 rfl ?_
                    refine WM.pick [2, 3, 4, 5, 6, 1, 0] rfl ?_
                    exact ihlp3 (i + 1) _ (by omega) (by omega) (by rw [mxZ_s _ hi0, ← hmo]; exact hw1) (by omega)
                  refine r_icmp_le B dX6_span_102 rfl ⟨by omega, by omega⟩ ⟨by omega, by omega⟩ (fun h8 => ?_) (fun h8 => ?_)
                  · refine r_iload B 5 dX6_span_113 rfl ?_
                    exact J7 _ (by omega)
                  · refine r_iload B 7 dX6_span_105 rfl ?_
                    refine r_pSi1 B (c_X6_size l G M  su ⟨by omega, by omega⟩) ⟨rfl, rfl⟩ ok_X6_size q_1101 q_1100 ⟨Nat.le_of_ble_eq_true rfl, Nat.le_of_ble_eq_true rfl, Nat.le_of_ble_eq_true rfl⟩ ⟨Nat.le_of_ble_eq_true rfl, Nat.le_of_ble_eq_true rfl⟩ dX6_span_107 ?_
                    refine r_vi (y := spF (s.2.2.1 ge).1 ((s.2.2.1 ge).2.2 fl) k i) hsp ?_
                    refine r_goto B dX6_span_110 rfl ?_
                    exact J7 _ (by omega)
                · refine r_iload B 7 dX6_span_68 rfl ?_
                  refine r_aload_n B 0 dX6_span_70 rfl ?_
                  refine r_iload_n B 1 dX6_span_71 rfl ?_
                  refine r_iload_n B 2 dX6_span_72 rfl ?_
                  refine r_iload B 6 dX6_span_73 rfl ?_
                  refine r_iload B 8 dX6_span_75 rfl ?_
                  refine r_iadd B dX6_span_77 ?_
                  refine r_iload B 4 dX6_span_78 rfl ?_
                  refine r_irem B dX6_span_80 ⟨by omega, by omega⟩ ⟨by omega, by omega⟩ (by omega) ?_
                  refine r_vi (y := arS (s.2.2.1 ge).1 (i + j)) (by rw [Int.tmod_eq_emod_of_nonneg (by omega)]; exact arS_mod (by omega) (by omega)) ?_
                  refine r_iconst B dX6_span_81 ?_
                  refine r_iadd B dX6_span_82 ?_
                  refine r_pVi3 B (c_X6_pitchOf l G M md hM s hS_M hok ge fl ((arS (s.2.2.1 ge).1 (i + j)) + 1) (by omega) (by omega) (by omega) (by omega) (by omega) (by omega)) ⟨rfl, rfl⟩ ok_X6_pitchOf vi_X6_pitchOf q_1086 hM.1 rfl (fun _ => rfl) ⟨Nat.le_of_ble_eq_true rfl, Nat.le_of_ble_eq_true rfl, Nat.le_of_ble_eq_true rfl⟩ ⟨Nat.le_of_ble_eq_true rfl, Nat.le_of_ble_eq_true rfl⟩ dX6_span_83 ?_
                  refine r_iadd B dX6_span_86 ?_
                  refine r_istore B (lv' := [(7, .int (iI (su + (ixS (s.2.2.1 ge).1 ((s.2.2.1 ge).2.2 fl) ((arS (s.2.2.1 ge).1 (i + j)) + 1) - ixS (s.2.2.1 ge).1 ((s.2.2.1 ge).2.2 fl) (((arS (s.2.2.1 ge).1 (i + j)) + 1) - 1))))), (0, .ref md), (1, .int (iI ge)), (2, .int (iI fl)), (3, .int (iI k)), (4, .int (iI ((s.2.2.1 ge).1))), (5, .int (iI mo)), (6, .int (iI i)), (8, .int (iI j))]) dX6_span_87 (by decide) rfl ?_
                  refine r_iinc B (lv' := [(8, .int (iI (j + 1))), (7, .int (iI (su + (ixS (s.2.2.1 ge).1 ((s.2.2.1 ge).2.2 fl) ((arS (s.2.2.1 ge).1 (i + j)) + 1) - ixS (s.2.2.1 ge).1 ((s.2.2.1 ge).2.2 fl) (((arS (s.2.2.1 ge).1 (i + j)) + 1) - 1))))), (0, .ref md), (1, .int (iI ge)), (2, .int (iI fl)), (3, .int (iI k)), (4, .int (iI ((s.2.2.1 ge).1))), (5, .int (iI mo)), (6, .int (iI i))]) dX6_span_89 (j := 8) rfl (by decide) rfl ?_
                  refine r_goto B dX6_span_92 rfl ?_
                  refine WM.pick [2, 3, 4, 5, 6, 7, 8, 1, 0] rfl ?_
                  refine ihlp5 (j + 1) _ (by omega) (by omega) ?_ (by omega)
                  · rw [hsu, show arS (s.2.2.1 ge).1 (i + j) + 1 - 1 = arS (s.2.2.1 ge).1 (i + j) by omega]
                    have hst : ixS (s.2.2.1 ge).1 ((s.2.2.1 ge).2.2 fl) (arS (s.2.2.1 ge).1 (i + (j + 1))) = ixS (s.2.2.1 ge).1 ((s.2.2.1 ge).2.2 fl) (arS (s.2.2.1 ge).1 (i + j) + 1) := by
                      by_cases w : arS (s.2.2.1 ge).1 (i + j) + 1 = (s.2.2.1 ge).1
                      · rw [w, ixS_z (by omega), show arS (s.2.2.1 ge).1 (i + (j + 1)) = 0 by unfold arS at w ⊢; split at w <;> split <;> omega, ixS_0 (by omega)]
                      · rw [show arS (s.2.2.1 ge).1 (i + (j + 1)) = arS (s.2.2.1 ge).1 (i + j) + 1 by unfold arS at w ⊢; split at w <;> split <;> omega]
                    rw [hst]
                    omega
            refine WM.pick [2, 3, 4, 5, 6, 7, 8, 1, 0] rfl ?_
            exact lp5 _ 0 0 (by omega) (by omega) (by rw [show arS (s.2.2.1 ge).1 (i + 0) = i by unfold arS; rw [if_pos (by omega)]; omega]; omega) (Nat.lt_succ_self _)
      refine WM.pick [3, 4, 5, 6, 2, 1, 0] rfl ?_
      exact lp3 _ 0 0 (by omega) (by omega) rfl (Nat.lt_succ_self _)
    · have q_h2 := inF_0 h2
      refine r_aload_n B 0 dX6_span_30 rfl ?_
      refine r_iconst B dX6_span_31 ?_
      refine r_Vi1 B (c_X6_fails l G M md hM 2) ⟨rfl, rfl⟩ ok_X6_fails vi_X6_fails q_964 hM.1 rfl (fun _ => rfl) ⟨Nat.le_of_ble_eq_true rfl, Nat.le_of_ble_eq_true rfl, Nat.le_of_ble_eq_true rfl⟩ ⟨Nat.le_of_ble_eq_true rfl, Nat.le_of_ble_eq_true rfl⟩ dX6_span_32 (fun rf Mf hff => ?_)
      obtain ⟨hf1, hf2⟩ := hff
      rw [hf1, hf2]
      clear hf1 hf2
      have ho : oSpan s ge fl k = (2, 0) := by unfold oSpan; rw [if_neg (by omega), if_pos (by omega)]
      exact r_iret B dX6_span_35 ⟨by rw [ho], by rw [ho]⟩
  · have q_h1 := bF_0 h1
    refine r_aload_n B 0 dX6_span_9 rfl ?_
    refine r_iconst B dX6_span_10 ?_
    refine r_Vi1 B (c_X6_fails l G M md hM 1) ⟨rfl, rfl⟩ ok_X6_fails vi_X6_fails q_964 hM.1 rfl (fun _ => rfl) ⟨Nat.le_of_ble_eq_true rfl, Nat.le_of_ble_eq_true rfl, Nat.le_of_ble_eq_true rfl⟩ ⟨Nat.le_of_ble_eq_true rfl, Nat.le_of_ble_eq_true rfl⟩ dX6_span_11 (fun rf Mf hff => ?_)
    obtain ⟨hf1, hf2⟩ := hff
    rw [hf1, hf2]
    clear hf1 hf2
    have ho : oSpan s ge fl k = (1, 0) := by unfold oSpan; rw [if_pos (by omega)]
    exact r_iret B dX6_span_14 ⟨by rw [ho], by rw [ho]⟩
