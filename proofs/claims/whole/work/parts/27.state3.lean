set_option maxRecDepth 100000 in
set_option maxHeartbeats 4000000 in
theorem c_X3_copyFrom (l : Launch) (G : Gs) (M : Mem) (S O : Nat) (s : Ast) (hS : IsState G S) (hO : IsState G O) (hRG : RowG M S) (hRL : RowL M S) (hA : StateIs M O s) (hok : StateOk s) (hd : O + 53 ≤ S ∨ S + 53 ≤ O) : Ct l G yX3_copyFrom cX3_copyFrom 3 (none) rm_X3_copyFrom [.ref S, .ref O] M (PoV G (fun M' => StateIs M' S s ∧ Only M M' S (S + 53))) 0 0 := by
  refine Ct.of (by decide +kernel) (Nat.le_of_ble_eq_true rfl) [(0, .ref S), (1, .ref O)] rfl ?_
  intro X B
  have hs1 := hok.1
  have hs2 := hok.2.1
  have hs3 := hok.2.2.1
  have hs4 := hok.2.2.2.1
  refine r_aload_n B 0 dX3_copyFrom_0 rfl ?_
  refine r_aload_n B 1 dX3_copyFrom_1 rfl ?_
  refine rg3_gearCount B hO.1 q_93 dX3_copyFrom_2 ?_
  refine r_vi (y := s.1) hA.1 ?_
  refine rp3_gearCount B hS.1 q_93 dX3_copyFrom_5 ?_
  refine WM.nm (fun M1 eM1 => ?_)
  have f1 : ∀ c : Nat, c ≠ S → Same M M1 c := fun c q => by rw [eM1]; exact Same.sI q
  refine r_iconst B dX3_copyFrom_8 ?_
  refine r_istore_n B (lv' := [(2, .int (iI 0)), (0, .ref S), (1, .ref O)]) dX3_copyFrom_9 (by decide) rfl ?_
  have lp2 : ∀ (nlp2 : Nat) (i : Int) (Mc : Mem) (hi0 : 0 ≤ i) (hi1 : i ≤ s.1) (h0 : gI Mc S 0 = s.1) (hp1 : gP Mc (S + 1) = gP M (S + 1)) (hp2 : gP Mc (S + 2) = gP M (S + 2)) (hg : ∀ k : Int, 0 ≤ k → k < i → GrIs Mc (gP M (S + 1) k) (s.2.2.1 k)) (hf : Only M Mc S (S + 53)), (s.1 - i).toNat < nlp2 → WM G X 0 0 (bM X (PoV G (fun M' => StateIs M' S s ∧ Only M M' S (S + 53))) 0 0 G) Mc 10 [(0, .ref S), (1, .ref O), (2, .int (iI i))] [] := by
    intro nlp2
    induction nlp2 with
    | zero => intro i Mc hi0 hi1 h0 hp1 hp2 hg hf hm; omega
    | succ nlp2 ihlp2 =>
      intro i Mc hi0 hi1 h0 hp1 hp2 hg hf hm
      refine r_iload_n B 2 dX3_copyFrom_10 rfl ?_
      refine r_aload_n B 0 dX3_copyFrom_11 rfl ?_
      refine rg3_gearCount B hS.1 q_93 dX3_copyFrom_12 ?_
      refine r_vi (y := s.1) h0 ?_
      refine r_icmp_ge B dX3_copyFrom_15 rfl ⟨by omega, by omega⟩ ⟨by omega, by omega⟩ (fun h3 => ?_) (fun h3 => ?_)
      · refine r_aload_n B 0 dX3_copyFrom_39 rfl ?_
        refine r_aload_n B 1 dX3_copyFrom_40 rfl ?_
        refine rg3_lineCount B hO.1 q_95 dX3_copyFrom_41 ?_
        refine r_vi (y := s.2.1) (by rw [(hf O (by omega)).1]; exact hA.2.1) ?_
        refine rp3_lineCount B hS.1 q_95 dX3_copyFrom_44 ?_
        refine WM.nm (fun M4 eM4 => ?_)
        have f2 : ∀ c : Nat, c ≠ S → Same Mc M4 c := fun c q => by rw [eM4]; exact Same.sI q
        have f3 : Only M M4 S (S + 53) := hf.tr (by rw [eM4]; exact Only.sI (by omega) (by omega))
        refine r_iconst B dX3_copyFrom_47 ?_
        refine r_istore_n B (lv' := [(2, .int (iI 0)), (0, .ref S), (1, .ref O)]) dX3_copyFrom_48 (by decide) rfl ?_
        have lp5 : ∀ (nlp5 : Nat) (i : Int) (Md : Mem) (hi0 : 0 ≤ i) (hi1 : i ≤ s.2.1) (h0 : gI Md S 0 = s.1) (h1 : gI Md S 1 = s.2.1) (hp1 : gP Md (S + 1) = gP M (S + 1)) (hp2 : gP Md (S + 2) = gP M (S + 2)) (hg : ∀ k : Int, 0 ≤ k → k < s.1 → GrIs Md (gP M (S + 1) k) (s.2.2.1 k)) (hl : ∀ k : Int, 0 ≤ k → k < i → LnIs Md (gP M (S + 2) k) (s.2.2.2 k)) (hf : Only M Md S (S + 53)), (s.2.1 - i).toNat < nlp5 → WM G X 0 0 (bM X (PoV G (fun M' => StateIs M' S s ∧ Only M M' S (S + 53))) 0 0 G) Md 49 [(0, .ref S), (1, .ref O), (2, .int (iI i))] [] := by
          intro nlp5
          induction nlp5 with
          | zero => intro i Md hi0 hi1 h0 h1 hp1 hp2 hg hl hf hm; omega
          | succ nlp5 ihlp5 =>
            intro i Md hi0 hi1 h0 h1 hp1 hp2 hg hl hf hm
            refine r_iload_n B 2 dX3_copyFrom_49 rfl ?_
            refine r_aload_n B 0 dX3_copyFrom_50 rfl ?_
            refine rg3_lineCount B hS.1 q_95 dX3_copyFrom_51 ?_
            refine r_vi (y := s.2.1) h1 ?_
            refine r_icmp_ge B dX3_copyFrom_54 rfl ⟨by omega, by omega⟩ ⟨by omega, by omega⟩ (fun h6 => ?_) (fun h6 => ?_)
            · exact r_vret B dX3_copyFrom_78 ⟨⟨h0, h1, hRG.kept hp1, hRL.kept hp2, fun k p q => by rw [hp1]; exact hg k p q, fun k p q => by rw [hp2]; exact hl k p (by have q2 : k < s.2.1 := q; omega)⟩, hf⟩
            · have b1 := hRL.in (i := i) (by omega) (by omega)
              have b2 := hA.2.2.2.1.in (i := i) (by omega) (by omega)
              have hli := hok.2.2.2.2.2 i (by omega) (by omega)
              refine r_aload_n B 0 dX3_copyFrom_57 rfl ?_
              refine rg3_lineRow B hS.1 q_99 dX3_copyFrom_58 ?_
              refine r_iload_n B 2 dX3_copyFrom_61 rfl ?_
              refine r_aaload9 B dX3_copyFrom_62 hS.2.2.1 (by omega) (by omega) ?_
              refine r_va (y := gP M (S + 2) i) (by rw [hp2]) ?_
              refine r_aload_n B 1 dX3_copyFrom_63 rfl ?_
              refine rg3_lineRow B hO.1 q_99 dX3_copyFrom_64 ?_
              refine r_iload_n B 2 dX3_copyFrom_67 rfl ?_
              refine r_aaload9 B dX3_copyFrom_68 hO.2.2.1 (by omega) (by omega) ?_
              refine r_va (y := gP M (O + 2) i) (by rw [(hf (O + 2) (by omega)).2.2.2]) ?_
              refine r_Vv1 B (c_X1_copyFrom l G Md (gP M (S + 2) i) (gP M (O + 2) i) (s.2.2.2 i).1 (s.2.2.2 i).2.1 (s.2.2.2 i).2.2.1 (s.2.2.2 i).2.2.2 (RowL.line hS hRL (by omega) (by omega)) (RowL.line hO hA.2.2.2.1 (by omega) (by omega)) ((hA.2.2.2.2.2 i (by omega) (by omega)).kept (fun c q1 q2 => hf c (by omega))) hli.1.2.1 (by omega)) ⟨rfl, rfl⟩ ok_X1_copyFrom vi_X1_copyFrom q_254 (RowL.line hS hRL (i := i) (by omega) (by omega)).1 rfl (fun _ => rfl) ⟨Nat.le_of_ble_eq_true rfl, Nat.le_of_ble_eq_true rfl, Nat.le_of_ble_eq_true rfl⟩ ⟨Nat.le_of_ble_eq_true rfl, Nat.le_of_ble_eq_true rfl⟩ dX3_copyFrom_69 (fun Mr hr => ?_)
              refine r_iinc B (lv' := [(2, .int (iI (i + 1))), (0, .ref S), (1, .ref O)]) dX3_copyFrom_72 (j := 2) rfl (by decide) rfl ?_
              refine r_goto B dX3_copyFrom_75 rfl ?_
              refine WM.pick [1, 2, 0] rfl ?_
              refine ihlp5 (i + 1) Mr (by omega) (by omega) (by rw [hr.2.at (c := S) 0 (by omega)]; exact h0) (by rw [hr.2.at (c := S) 1 (by omega)]; exact h1) (by rw [(hr.2 (S + 1) (by omega)).2.2.2]; exact hp1) (by rw [(hr.2 (S + 2) (by omega)).2.2.2]; exact hp2) ?_ ?_ (hf.tr (hr.2.wide (by omega) (by omega))) (by omega)
              · intro k p q
                have b3 := hRG.in (i := k) p (by omega)
                exact (hg k p q).kept (fun c q1 q2 => hr.2 c (by omega))
              · intro k p q
                rcases (show k < i ∨ k = i by omega) with w | w
                · have b3 := hRL.in (i := k) p (by omega)
                  have b4 := hRL.apart (i := k) (i' := i) p (by omega) (by omega) (by omega) (by omega)
                  exact (hl k p w).kept (fun c q1 q2 => hr.2 c (by omega))
                · rw [w]; exact hr.1
        refine WM.pick [1, 2, 0] rfl ?_
        refine lp5 _ 0 M4 (by omega) (by omega) (by rw [eM4, gI_nk (by omega)]; exact h0) (by rw [eM4, gI_eq]) (by rw [(f2 (S + 1) (by omega)).2.2.2]; exact hp1) (by rw [(f2 (S + 2) (by omega)).2.2.2]; exact hp2) ?_ (fun k p q => absurd q (by omega)) f3 (Nat.lt_succ_self _)
        · intro k p q
          have b3 := hRG.in (i := k) p (by omega)
          exact (hg k p (by omega)).kept (fun c q1 q2 => f2 c (by omega))
      · have b1 := hRG.in (i := i) (by omega) (by omega)
        have b2 := hA.2.2.1.in (i := i) (by omega) (by omega)
        have hgi := hok.2.2.2.2.1 i (by omega) (by omega)
        refine r_aload_n B 0 dX3_copyFrom_18 rfl ?_
        refine rg3_gearRow B hS.1 q_97 dX3_copyFrom_19 ?_
        refine r_iload_n B 2 dX3_copyFrom_22 rfl ?_
        refine r_aaload8 B dX3_copyFrom_23 hS.2.1 (by omega) (by omega) ?_
        refine r_va (y := gP M (S + 1) i) (by rw [hp1]) ?_
        refine r_aload_n B 1 dX3_copyFrom_24 rfl ?_
        refine rg3_gearRow B hO.1 q_97 dX3_copyFrom_25 ?_
        refine r_iload_n B 2 dX3_copyFrom_28 rfl ?_
        refine r_aaload8 B dX3_copyFrom_29 hO.2.1 (by omega) (by omega) ?_
        refine r_va (y := gP M (O + 1) i) (by rw [(hf (O + 1) (by omega)).2.2.2]) ?_
        refine r_Vv1 B (c_X0_copyFrom l G Mc (gP M (S + 1) i) (gP M (O + 1) i) (s.2.2.1 i).1 (s.2.2.1 i).2.1 (s.2.2.1 i).2.2 (RowG.gear hS hRG (by omega) (by omega)) (RowG.gear hO hA.2.2.1 (by omega) (by omega)) ((hA.2.2.2.2.1 i (by omega) (by omega)).kept (fun c q1 q2 => hf c (by omega))) (by have := hgi.1; omega) hgi.2.1 (by omega)) ⟨rfl, rfl⟩ ok_X0_copyFrom vi_X0_copyFrom q_243 (RowG.gear hS hRG (i := i) (by omega) (by omega)).1 rfl (fun _ => rfl) ⟨Nat.le_of_ble_eq_true rfl, Nat.le_of_ble_eq_true rfl, Nat.le_of_ble_eq_true rfl⟩ ⟨Nat.le_of_ble_eq_true rfl, Nat.le_of_ble_eq_true rfl⟩ dX3_copyFrom_30 (fun Mr hr => ?_)
        refine r_iinc B (lv' := [(2, .int (iI (i + 1))), (0, .ref S), (1, .ref O)]) dX3_copyFrom_33 (j := 2) rfl (by decide) rfl ?_
        refine r_goto B dX3_copyFrom_36 rfl ?_
        refine WM.pick [1, 2, 0] rfl ?_
        refine ihlp2 (i + 1) Mr (by omega) (by omega) (by rw [hr.2.at (c := S) 0 (by omega)]; exact h0) (by rw [(hr.2 (S + 1) (by omega)).2.2.2]; exact hp1) (by rw [(hr.2 (S + 2) (by omega)).2.2.2]; exact hp2) ?_ (hf.tr (hr.2.wide (by omega) (by omega))) (by omega)
        · intro k p q
          rcases (show k < i ∨ k = i by omega) with w | w
          · have b3 := hRG.in (i := k) p (by omega)
            have b4 := hRG.apart (i := k) (i' := i) p (by omega) (by omega) (by omega) (by omega)
            exact (hg k p w).kept (fun c q1 q2 => hr.2 c (by omega))
          · rw [w]; exact hr.1
  refine WM.pick [1, 2, 0] rfl ?_
  exact lp2 _ 0 M1 (by omega) (by omega) (by rw [eM1, gI_eq]) ((f1 (S + 1) (by omega)).2.2.2) ((f1 (S + 2) (by omega)).2.2.2) (fun k p q => absurd q (by omega)) (by rw [eM1]; exact Only.sI (by omega) (by omega)) (Nat.lt_succ_self _)

set_option maxRecDepth 100000 in
set_option maxHeartbeats 4000000 in
theorem c_X3_dropGear (l : Launch) (G : Gs) (M : Mem) (S : Nat) (s : Ast) (hS : IsState G S) (hA : StateIs M S s) (hok : StateOk s) (ge : Int) (hg0 : 0 ≤ ge) (hg1 : ge < s.1) : Ct l G yX3_dropGear cX3_dropGear 5 (some .int) rm_X3_dropGear [.ref S, .int (iI ge)] M (PoI G (fun r M' => r = s.2.1 - (delG s ge).2.1 ∧ StateIs M' S (delG s ge) ∧ Only M M' S (S + 53))) 0 0 := by
  refine Ct.of (by decide +kernel) (Nat.le_of_ble_eq_true rfl) [(0, .ref S), (1, .int (iI ge))] rfl ?_
  intro X B
  have hs1 := hok.1
  have hs2 := hok.2.1
  have hs3 := hok.2.2.1
  have hs4 := hok.2.2.2.1
  refine r_aload_n B 0 dX3_dropGear_0 rfl ?_
  refine rg3_lineCount B hS.1 q_95 dX3_dropGear_1 ?_
  refine r_vi (y := s.2.1) hA.2.1 ?_
  refine r_istore_n B (lv' := [(2, .int (iI s.2.1)), (0, .ref S), (1, .int (iI ge))]) dX3_dropGear_4 (by decide) rfl ?_
  refine r_aload_n B 1 dX3_dropGear_5 rfl ?_
  refine rg3_lineCount B hS.1 q_95 dX3_dropGear_6 ?_
  refine r_vi (y := s.2.1) hA.2.1 ?_
  refine r_iconst B dX3_dropGear_9 ?_
  refine r_isub B dX3_dropGear_10 ?_
  refine r_istore_n B (lv' := [(3, .int (iI (s.2.1 - 1))), (2, .int (iI s.2.1)), (0, .ref S), (1, .int (iI ge))]) dX3_dropGear_11 (by decide) rfl ?_
  have lp1 : ∀ (nlp1 : Nat) (i : Int) (r : Ast) (Mc : Mem) (hi0 : -1 ≤ i) (hi1 : i < r.2.1) (hr : StateIs Mc S r) (hrk : StateOk r) (hrg : r.1 = s.1) (hst : rmL ge (i + 1).toNat r = rmL ge s.2.1.toNat s) (hf : Only M Mc S (S + 53)), (i + 1).toNat < nlp1 → WM G X 0 0 (bM X (PoI G (fun r M' => r = s.2.1 - (delG s ge).2.1 ∧ StateIs M' S (delG s ge) ∧ Only M M' S (S + 53))) 0 0 G) Mc 12 [(0, .ref S), (1, .int (iI ge)), (2, .int (iI s.2.1)), (3, .int (iI i))] [] := by
    intro nlp1
    induction nlp1 with
    | zero => intro i r Mc hi0 hi1 hr hrk hrg hst hf hm; omega
    | succ nlp1 ihlp1 =>
      intro i r Mc hi0 hi1 hr hrk hrg hst hf hm
      have hr1 := hrk.1
      have hr2 := hrk.2.1
      have hr3 := hrk.2.2.1
      have hr4 := hrk.2.2.2.1
      refine r_iload_n B 3 dX3_dropGear_12 rfl ?_
      refine r_if_lt B dX3_dropGear_13 rfl ⟨by omega, by omega⟩ (fun h2 => ?_) (fun h2 => ?_)
      · have hre : r = rmL ge s.2.1.toNat s := by rw [← hst, show i = -1 by omega]; rfl
        refine r_iconst B dX3_dropGear_40 ?_
        refine r_istore_n B (lv' := [(3, .int (iI 0)), (0, .ref S), (1, .int (iI ge)), (2, .int (iI s.2.1))]) dX3_dropGear_41 (by decide) rfl ?_
        have lp3 : ∀ (nlp3 : Nat) (i : Int) (Md : Mem) (hi0 : 0 ≤ i) (hi1 : i ≤ r.2.1) (hd : StateIs Md S (decP ge i r)) (hfd : Only M Md S (S + 53)), (r.2.1 - i).toNat < nlp3 → WM G X 0 0 (bM X (PoI G (fun r M' => r = s.2.1 - (delG s ge).2.1 ∧ StateIs M' S (delG s ge) ∧ Only M M' S (S + 53))) 0 0 G) Md 42 [(0, .ref S), (1, .int (iI ge)), (2, .int (iI s.2.1)), (3, .int (iI i))] [] := by
          intro nlp3
          induction nlp3 with
          | zero => intro i Md hi0 hi1 hd hfd hm; omega
          | succ nlp3 ihlp3 =>
            intro i Md hi0 hi1 hd hfd hm
            refine r_iload_n B 3 dX3_dropGear_42 rfl ?_
            refine r_aload_n B 0 dX3_dropGear_43 rfl ?_
            refine rg3_lineCount B hS.1 q_95 dX3_dropGear_44 ?_
            refine r_vi (y := r.2.1) hd.2.1 ?_
            refine r_icmp_ge B dX3_dropGear_47 rfl ⟨by omega, by omega⟩ ⟨by omega, by omega⟩ (fun h4 => ?_) (fun h4 => ?_)
            · have hD : StateIs Md S (decA ge r) := ⟨hd.1, hd.2.1, hd.2.2.1, hd.2.2.2.1, hd.2.2.2.2.1, fun k p q => by
                have w := hd.2.2.2.2.2 k p q
                have q2 : k < r.2.1 := q
                have e : (decP ge i r).2.2.2 k = (decA ge r).2.2.2 k := if_pos (by omega)
                rw [e] at w; exact w⟩
              refine r_aload_n B 0 dX3_dropGear_84 rfl ?_
              refine rg3_gearRow B hS.1 q_97 dX3_dropGear_85 ?_
              refine r_iload_n B 1 dX3_dropGear_88 rfl ?_
              refine r_aaload8 B dX3_dropGear_89 hS.2.1 (by omega) (by omega) ?_
              refine r_astore_n B (lv' := [(3, .ref (gP Md (S + 1) ge)), (0, .ref S), (1, .int (iI ge)), (2, .int (iI s.2.1))]) dX3_dropGear_90 (by decide) rfl ?_
              refine r_aload_n B 1 dX3_dropGear_91 rfl ?_
              refine r_dup B dX3_dropGear_92 rfl ?_
              refine rg3_gearCount B hS.1 q_93 dX3_dropGear_93 ?_
              refine r_vi (y := r.1) hD.1 ?_
              refine r_iconst B dX3_dropGear_96 ?_
              refine r_isub B dX3_dropGear_97 ?_
              refine rp3_gearCount B hS.1 q_93 dX3_dropGear_98 ?_
              refine WM.nm (fun M5 eM5 => ?_)
              have e1P : gP M5 = gP Md := by rw [eM5, gP_sI]
              have e1I : gI M5 S 0 = r.1 - 1 := by rw [eM5, gI_eq]
              have e1S : ∀ c : Nat, c ≠ S → Same Md M5 c := fun c q => by rw [eM5]; exact Same.sI q
              have e10 : gI M5 S 1 = r.2.1 := by rw [eM5, gI_nk (by omega)]; exact hD.2.1
              refine r_iload_n B 2 dX3_dropGear_101 rfl ?_
              refine r_istore B (lv' := [(4, .int (iI ge)), (3, .ref (gP Md (S + 1) ge)), (0, .ref S), (1, .int (iI ge)), (2, .int (iI s.2.1))]) dX3_dropGear_102 (by decide) rfl ?_
              have lp6 : ∀ (nlp6 : Nat) (j : Int) (Me : Mem) (hj0 : ge ≤ j) (hj1 : j ≤ r.1 - 1) (hI : gI Me S 0 = r.1 - 1) (h0 : gI Me S 1 = r.2.1) (hp : ∀ k : Int, gP Me (S + 1) k = if ge ≤ k ∧ k < j then gP Md (S + 1) (k + 1) else gP Md (S + 1) k) (hf3 : ∀ c : Nat, c ≠ S → c ≠ S + 1 → Same Md Me c), (r.1 - 1 - j).toNat < nlp6 → WM G X 0 0 (bM X (PoI G (fun r M' => r = s.2.1 - (delG s ge).2.1 ∧ StateIs M' S (delG s ge) ∧ Only M M' S (S + 53))) 0 0 G) Me 104 [(0, .ref S), (1, .int (iI ge)), (2, .int (iI s.2.1)), (3, .ref (gP Md (S + 1) ge)), (4, .int (iI j))] [] := by
                intro nlp6
                induction nlp6 with
                | zero => intro j Me hj0 hj1 hI h0 hp hf3 hm; omega
                | succ nlp6 ihlp6 =>
                  intro j Me hj0 hj1 hI h0 hp hf3 hm
                  refine r_iload B 4 dX3_dropGear_104 rfl ?_
                  refine r_aload_n B 0 dX3_dropGear_106 rfl ?_
                  refine rg3_gearCount B hS.1 q_93 dX3_dropGear_107 ?_
                  refine r_vi (y := r.1 - 1) hI ?_
                  refine r_icmp_ge B dX3_dropGear_110 rfl ⟨by omega, by omega⟩ ⟨by omega, by omega⟩ (fun h7 => ?_) (fun h7 => ?_)
                  · refine r_aload_n B 0 dX3_dropGear_135 rfl ?_
                    refine rg3_gearRow B hS.1 q_97 dX3_dropGear_136 ?_
                    refine r_aload_n B 0 dX3_dropGear_139 rfl ?_
                    refine rg3_gearCount B hS.1 q_93 dX3_dropGear_140 ?_
                    refine r_vi (y := r.1 - 1) hI ?_
                    refine r_aload_n B 3 dX3_dropGear_143 rfl ?_
                    refine r_aastore8 B dX3_dropGear_144 hS.2.1 (RowG.gear hS hD.2.2.1 (i := ge) (by omega) (by omega)).1 (by omega) (by omega) ?_
                    refine WM.nm (fun M8 eM8 => ?_)
                    refine r_iload_n B 2 dX3_dropGear_145 rfl ?_
                    refine r_aload_n B 0 dX3_dropGear_146 rfl ?_
                    refine rg3_lineCount B hS.1 q_95 dX3_dropGear_147 ?_
                    refine r_vi (y := r.2.1) (by rw [eM8, gI_sP]; exact h0) ?_
                    refine r_isub B dX3_dropGear_150 ?_
                    have hfin : ∀ k : Int, gP M8 (S + 1) k = gP Md (S + 1) (if k = r.1 - 1 then ge else if ge ≤ k ∧ k < r.1 - 1 then k + 1 else k) := fun k => by
                      rw [eM8]
                      by_cases w : k = r.1 - 1
                      · rw [w, gP_eq, if_pos rfl]
                      · rw [gP_nk w, hp, if_neg w, show j = r.1 - 1 by omega]
                        by_cases w2 : ge ≤ k ∧ k < r.1 - 1
                        · rw [if_pos w2, if_pos w2]
                        · rw [if_neg w2, if_neg w2]
                    have hsm : ∀ c : Nat, c ≠ S → c ≠ S + 1 → Same Md M8 c := fun c q1 q2 => (hf3 c q1 q2).tr (by rw [eM8]; exact Same.sP q2)
                    have hIm : gI M8 = gI Me := by rw [eM8, gI_sP]
                    have hPl : gP M8 (S + 2) = gP Md (S + 2) := (hsm (S + 2) (by omega) (by omega)).2.2.2
                    have hdel : delG s ge = remG (decA ge r) ge := by unfold delG; rw [hre]
                    have hst2 : StateIs M8 S (delG s ge) := by
                      rw [hdel]
                      refine ⟨by rw [hIm]; exact hI, by rw [hIm]; exact h0, hD.2.2.1.perm _ (fun k a b => ⟨?_, ?_, hfin k⟩) (fun k k' a b a' b' e => ?_), hD.2.2.2.1.kept hPl, fun k a b => ?_, fun k a b => ?_⟩
                      · by_cases w : k = r.1 - 1
                        · rw [if_pos w]; exact hg0
                        · rw [if_neg w]; split <;> omega
                      · by_cases w : k = r.1 - 1
                        · rw [if_pos w]; omega
                        · rw [if_neg w]; split <;> omega
                      · by_cases w : k = r.1 - 1
                        · by_cases w2 : k' = r.1 - 1
                          · omega
                          · rw [if_pos w, if_neg w2] at e; split at e <;> omega
                        · by_cases w2 : k' = r.1 - 1
                          · rw [if_neg w, if_pos w2] at e; split at e <;> omega
                          · rw [if_neg w, if_neg w2] at e; split at e <;> split at e <;> omega
                      · have b2 : k < r.1 - 1 := b
                        rw [hfin k, if_neg (by omega)]
                        show GrIs _ _ (rmF r.2.2.1 ge k)
                        by_cases w : k < ge
                        · have hb := hD.2.2.1.in a (by omega)
                          rw [if_neg (by omega), rmF_lt w]
                          exact (hD.2.2.2.2.1 k a (by show k < r.1; omega)).kept (fun c q1 q2 => hsm c (by omega) (by omega))
                        · have hb := hD.2.2.1.in (i := k + 1) (by omega) (by omega)
                          rw [if_pos (by omega), rmF_ge (by omega)]
                          exact (hD.2.2.2.2.1 (k + 1) (by omega) (by show k + 1 < r.1; omega)).kept (fun c q1 q2 => hsm c (by omega) (by omega))
                      · have b2 : k < r.2.1 := b
                        rw [hPl]
                        have hb := hD.2.2.2.1.in a (by omega)
                        exact (hD.2.2.2.2.2 k a b).kept (fun c q1 q2 => hsm c (by omega) (by omega))
                    have hfr : Only M M8 S (S + 53) := hfd.tr (fun c q => hsm c (by omega) (by omega))
                    exact r_iret B dX3_dropGear_151 ⟨by rw [hdel]; show s.2.1 - r.2.1 = s.2.1 - r.2.1; rfl, hst2, hfr⟩
                  · refine r_aload_n B 0 dX3_dropGear_113 rfl ?_
                    refine rg3_gearRow B hS.1 q_97 dX3_dropGear_114 ?_
                    refine r_iload B 4 dX3_dropGear_117 rfl ?_
                    refine r_aload_n B 0 dX3_dropGear_119 rfl ?_
                    refine rg3_gearRow B hS.1 q_97 dX3_dropGear_120 ?_
                    refine r_iload B 4 dX3_dropGear_123 rfl ?_
                    refine r_iconst B dX3_dropGear_125 ?_
                    refine r_iadd B dX3_dropGear_126 ?_
                    refine r_aaload8 B dX3_dropGear_127 hS.2.1 (by omega) (by omega) ?_
                    refine r_va (y := gP Md (S + 1) (j + 1)) (by rw [hp, if_neg (by omega)]) ?_
                    refine r_aastore8 B dX3_dropGear_128 hS.2.1 (RowG.gear hS hD.2.2.1 (i := (j + 1)) (by omega) (by omega)).1 (by omega) (by omega) ?_
                    refine WM.nm (fun M9 eM9 => ?_)
                    refine r_iinc B (lv' := [(4, .int (iI (j + 1))), (0, .ref S), (1, .int (iI ge)), (2, .int (iI s.2.1)), (3, .ref (gP Md (S + 1) ge))]) dX3_dropGear_129 (j := 4) rfl (by decide) rfl ?_
                    refine r_goto B dX3_dropGear_132 rfl ?_
                    refine WM.pick [1, 2, 3, 4, 0] rfl ?_
                    refine ihlp6 (j + 1) M9 (by omega) (by omega) (by rw [eM9, gI_sP]; exact hI) (by rw [eM9, gI_sP]; exact h0) ?_ (fun c q1 q2 => (hf3 c q1 q2).tr (by rw [eM9]; exact Same.sP q2)) (by omega)
                    · intro k
                      rw [eM9]
                      by_cases w : k = j
                      · rw [w, gP_eq, if_pos (by omega)]
                      · rw [gP_nk w, hp]
                        by_cases w2 : ge ≤ k ∧ k < j
                        · rw [if_pos w2, if_pos (by omega)]
                        · rw [if_neg w2, if_neg (by omega)]
              refine WM.pick [2, 3, 4, 1, 0] rfl ?_
              exact lp6 _ ge M5 (by omega) (by omega) e1I e10 (fun k => by rw [e1P, if_neg (by omega)]) (fun c q1 q2 => e1S c q1) (Nat.lt_succ_self _)
            · have hli := hrk.2.2.2.2.2 i (by omega) (by omega)
              have hdi : LnIs Md (gP Md (S + 2) i) (r.2.2.2 i) := by have w := hd.2.2.2.2.2 i hi0 (by show i < r.2.1; omega); rw [show (decP ge i r).2.2.2 i = r.2.2.2 i from if_neg (by omega)] at w; exact w
              refine r_aload_n B 0 dX3_dropGear_50 rfl ?_
              refine rg3_lineRow B hS.1 q_99 dX3_dropGear_51 ?_
              refine r_iload_n B 3 dX3_dropGear_54 rfl ?_
              refine r_aaload9 B dX3_dropGear_55 hS.2.2.1 (by omega) (by omega) ?_
              refine rg1_gear B (RowL.line hS hd.2.2.2.1 (i := i) (by omega) (by omega)).1 q_63 dX3_dropGear_56 ?_
              refine r_vi (y := (r.2.2.2 i).1) hdi.1 ?_
              refine r_iload_n B 1 dX3_dropGear_59 rfl ?_
              refine r_icmp_le B dX3_dropGear_60 rfl ⟨by omega, by omega⟩ ⟨by omega, by omega⟩ (fun h10 => ?_) (fun h10 => ?_)
              · have hde : decL ge (r.2.2.2 i) = r.2.2.2 i := by unfold decL; rw [if_neg (by omega)]
                refine r_iinc B (lv' := [(3, .int (iI (i + 1))), (0, .ref S), (1, .int (iI ge)), (2, .int (iI s.2.1))]) dX3_dropGear_78 (j := 3) rfl (by decide) rfl ?_
                refine r_goto B dX3_dropGear_81 rfl ?_
                refine WM.pick [1, 2, 3, 0] rfl ?_
                exact ihlp3 (i + 1) Md (by omega) (by omega) (by rw [decP_s hi0 hde]; exact hd) hfd (by omega)
              · have hde : decL ge (r.2.2.2 i) = ((r.2.2.2 i).1 - 1, (r.2.2.2 i).2) := by unfold decL; rw [if_pos (by omega)]
                refine r_aload_n B 0 dX3_dropGear_63 rfl ?_
                refine rg3_lineRow B hS.1 q_99 dX3_dropGear_64 ?_
                refine r_iload_n B 3 dX3_dropGear_67 rfl ?_
                refine r_aaload9 B dX3_dropGear_68 hS.2.2.1 (by omega) (by omega) ?_
                refine r_dup B dX3_dropGear_69 rfl ?_
                refine rg1_gear B (RowL.line hS hd.2.2.2.1 (i := i) (by omega) (by omega)).1 q_63 dX3_dropGear_70 ?_
                refine r_vi (y := (r.2.2.2 i).1) hdi.1 ?_
                refine r_iconst B dX3_dropGear_73 ?_
                refine r_isub B dX3_dropGear_74 ?_
                refine rp1_gear B (RowL.line hS hd.2.2.2.1 (i := i) (by omega) (by omega)).1 q_63 dX3_dropGear_75 ?_
                refine WM.nm (fun M11 eM11 => ?_)
                refine r_iinc B (lv' := [(3, .int (iI (i + 1))), (0, .ref S), (1, .int (iI ge)), (2, .int (iI s.2.1))]) dX3_dropGear_78 (j := 3) rfl (by decide) rfl ?_
                refine r_goto B dX3_dropGear_81 rfl ?_
                have hb := hd.2.2.2.1.in (i := i) (by omega) (by omega)
                have hsm : ∀ c : Nat, c ≠ gP Md (S + 2) i → Same Md M11 c := fun c q => by rw [eM11]; exact Same.sI q
                have hP1 := (hsm (S + 1) (by omega)).2.2.2
                have hP2 := (hsm (S + 2) (by omega)).2.2.2
                refine WM.pick [1, 2, 3, 0] rfl ?_
                refine ihlp3 (i + 1) M11 (by omega) (by omega) ?_ (hfd.tr (by rw [eM11]; exact Only.sI (by omega) (by omega))) (by omega)
                · refine ⟨by rw [(hsm S (by omega)).1]; exact hd.1, by rw [(hsm S (by omega)).1]; exact hd.2.1, hd.2.2.1.kept hP1, hd.2.2.2.1.kept hP2, fun k p q => ?_, fun k p q => ?_⟩
                  · have q2 : k < r.1 := q
                    have b3 := hd.2.2.1.in (i := k) p (by omega)
                    rw [hP1]; exact (hd.2.2.2.2.1 k p q).kept (fun c q1 q2 => hsm c (by omega))
                  · have q2 : k < r.2.1 := q
                    rw [hP2]
                    by_cases w : k = i
                    · rw [w, show (decP ge (i + 1) r).2.2.2 i = decL ge (r.2.2.2 i) from if_pos (by omega), hde, eM11]
                      obtain ⟨a1, a2, a3, a4, a5, a6, a7, a8⟩ := hdi
                      exact ⟨gI_eq, by rw [gI_nk (by omega)]; exact a2, by rw [gI_nk (by omega)]; exact a3, a4, a5, a6, a7, fun j x y => by rw [gI_ne (by omega)]; exact a8 j x y⟩
                    · have b4 := hd.2.2.2.1.in (i := k) p (by omega)
                      have b5 := hd.2.2.2.1.apart (i := k) (i' := i) p (by omega) (by omega) (by omega) w
                      have w2 := hd.2.2.2.2.2 k p q
                      have e : (decP ge (i + 1) r).2.2.2 k = (decP ge i r).2.2.2 k := decP_ne w
                      rw [e]; exact w2.kept (fun c q1 q2 => hsm c (by omega))
        refine WM.pick [1, 2, 3, 0] rfl ?_
        exact lp3 _ 0 Mc (by omega) (by omega) (by rw [decP_0]; exact hr) hf (Nat.lt_succ_self _)
      · have hli := hrk.2.2.2.2.2 i (by omega) (by omega)
        refine r_aload_n B 0 dX3_dropGear_16 rfl ?_
        refine rg3_lineRow B hS.1 q_99 dX3_dropGear_17 ?_
        refine r_iload_n B 3 dX3_dropGear_20 rfl ?_
        refine r_aaload9 B dX3_dropGear_21 hS.2.2.1 (by omega) (by omega) ?_
        refine rg1_gear B (RowL.line hS hr.2.2.2.1 (i := i) (by omega) (by omega)).1 q_63 dX3_dropGear_22 ?_
        refine r_vi (y := (r.2.2.2 i).1) (hr.2.2.2.2.2 i (by omega) (by omega)).1 ?_
        refine r_iload_n B 1 dX3_dropGear_25 rfl ?_
        refine r_icmp_ne B dX3_dropGear_26 rfl ⟨by omega, by omega⟩ ⟨by omega, by omega⟩ (fun h12 => ?_) (fun h12 => ?_)
        · refine r_iinc B (lv' := [(3, .int (iI (i + (-1)))), (0, .ref S), (1, .int (iI ge)), (2, .int (iI s.2.1))]) dX3_dropGear_34 (j := 3) rfl (by decide) rfl ?_
          refine r_goto B dX3_dropGear_37 rfl ?_
          refine WM.pick [1, 2, 3, 0] rfl ?_
          refine ihlp1 (i - 1) r Mc (by omega) (by omega) hr hrk hrg ?_ hf (by omega)
          · rw [← hst, show i - 1 + 1 = i by omega, rmL_s ge (i := i) (by omega) r, if_neg h12]
        · refine r_aload_n B 0 dX3_dropGear_29 rfl ?_
          refine r_iload_n B 3 dX3_dropGear_30 rfl ?_
          refine r_Vv1 B (c_X3_dropLine l G Mc S r hS hr hrk i (by omega) (by omega)) ⟨rfl, rfl⟩ ok_X3_dropLine vi_X3_dropLine q_559 hS.1 rfl (fun _ => rfl) ⟨Nat.le_of_ble_eq_true rfl, Nat.le_of_ble_eq_true rfl, Nat.le_of_ble_eq_true rfl⟩ ⟨Nat.le_of_ble_eq_true rfl, Nat.le_of_ble_eq_true rfl⟩ dX3_dropGear_31 (fun Mr hq => ?_)
          refine r_iinc B (lv' := [(3, .int (iI (i + (-1)))), (0, .ref S), (1, .int (iI ge)), (2, .int (iI s.2.1))]) dX3_dropGear_34 (j := 3) rfl (by decide) rfl ?_
          refine r_goto B dX3_dropGear_37 rfl ?_
          refine WM.pick [1, 2, 3, 0] rfl ?_
          refine ihlp1 (i - 1) (delL r i) Mr (by omega) (by show i - 1 < r.2.1 - 1; omega) hq.1 (delL_ok hrk (by omega) (by omega)) hrg ?_ (hf.tr (hq.2.wide (by omega) (by omega))) (by omega)
          · rw [← hst, show i - 1 + 1 = i by omega, rmL_s ge (i := i) (by omega) r, if_pos h12]
  refine WM.pick [2, 3, 1, 0] rfl ?_
  exact lp1 _ (s.2.1 - 1) s M (by omega) (by omega) hA hok rfl (by rw [show s.2.1 - 1 + 1 = s.2.1 by omega]) Only.rf (Nat.lt_succ_self _)
