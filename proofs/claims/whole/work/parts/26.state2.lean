set_option maxRecDepth 100000 in
set_option maxHeartbeats 4000000 in
theorem c_X3_dropLine (l : Launch) (G : Gs) (M : Mem) (S : Nat) (s : Ast) (hS : IsState G S) (hA : StateIs M S s) (hok : StateOk s) (li : Int) (hl0 : 0 ≤ li) (hl1 : li < s.2.1) : Ct l G yX3_dropLine cX3_dropLine 4 (none) rm_X3_dropLine [.ref S, .int (iI li)] M (PoV G (fun M' => StateIs M' S (delL s li) ∧ Only M M' S (S + 3))) 0 0 := by
  refine Ct.of (by decide +kernel) (Nat.le_of_ble_eq_true rfl) [(0, .ref S), (1, .int (iI li))] rfl ?_
  intro X B
  have hs1 := hok.1
  have hs2 := hok.2.1
  have hs3 := hok.2.2.1
  have hs4 := hok.2.2.2.1
  refine r_aload_n B 0 dX3_dropLine_0 rfl ?_
  refine rg3_lineRow B hS.1 q_99 dX3_dropLine_1 ?_
  refine r_iload_n B 1 dX3_dropLine_4 rfl ?_
  refine r_aaload9 B dX3_dropLine_5 hS.2.2.1 (by omega) (by omega) ?_
  refine r_astore_n B (lv' := [(2, .ref (gP M (S + 2) li)), (0, .ref S), (1, .int (iI li))]) dX3_dropLine_6 (by decide) rfl ?_
  refine r_aload_n B 1 dX3_dropLine_7 rfl ?_
  refine r_dup B dX3_dropLine_8 rfl ?_
  refine rg3_lineCount B hS.1 q_95 dX3_dropLine_9 ?_
  refine r_vi (y := s.2.1) hA.2.1 ?_
  refine r_iconst B dX3_dropLine_12 ?_
  refine r_isub B dX3_dropLine_13 ?_
  refine rp3_lineCount B hS.1 q_95 dX3_dropLine_14 ?_
  refine WM.nm (fun M1 eM1 => ?_)
  have e1P : gP M1 = gP M := by rw [eM1, gP_sI]
  have e1I : gI M1 S 1 = s.2.1 - 1 := by rw [eM1, gI_eq]
  have e1S : ∀ c : Nat, c ≠ S → Same M M1 c := fun c q => by rw [eM1]; exact Same.sI q
  have e10 : gI M1 S 0 = s.1 := by rw [eM1, gI_nk (by omega)]; exact hA.1
  refine r_iload_n B 2 dX3_dropLine_17 rfl ?_
  refine r_istore_n B (lv' := [(3, .int (iI li)), (2, .ref (gP M (S + 2) li)), (0, .ref S), (1, .int (iI li))]) dX3_dropLine_18 (by decide) rfl ?_
  have lp2 : ∀ (nlp2 : Nat) (i : Int) (Mc : Mem) (hi0 : li ≤ i) (hi1 : i ≤ s.2.1 - 1) (h0 : gI Mc S 0 = s.1) (hI : gI Mc S 1 = s.2.1 - 1) (hp : ∀ k : Int, gP Mc (S + 2) k = if li ≤ k ∧ k < i then gP M (S + 2) (k + 1) else gP M (S + 2) k) (hf : ∀ c : Nat, c ≠ S → c ≠ S + 2 → Same M Mc c), (s.2.1 - 1 - i).toNat < nlp2 → WM G X 0 0 (bM X (PoV G (fun M' => StateIs M' S (delL s li) ∧ Only M M' S (S + 3))) 0 0 G) Mc 19 [(0, .ref S), (1, .int (iI li)), (2, .ref (gP M (S + 2) li)), (3, .int (iI i))] [] := by
    intro nlp2
    induction nlp2 with
    | zero => intro i Mc hi0 hi1 h0 hI hp hf hm; omega
    | succ nlp2 ihlp2 =>
      intro i Mc hi0 hi1 h0 hI hp hf hm
      refine r_iload_n B 3 dX3_dropLine_19 rfl ?_
      refine r_aload_n B 0 dX3_dropLine_20 rfl ?_
      refine rg3_lineCount B hS.1 q_95 dX3_dropLine_21 ?_
      refine r_vi (y := s.2.1 - 1) hI ?_
      refine r_icmp_ge B dX3_dropLine_24 rfl ⟨by omega, by omega⟩ ⟨by omega, by omega⟩ (fun h3 => ?_) (fun h3 => ?_)
      · refine r_aload_n B 0 dX3_dropLine_47 rfl ?_
        refine rg3_lineRow B hS.1 q_99 dX3_dropLine_48 ?_
        refine r_aload_n B 0 dX3_dropLine_51 rfl ?_
        refine rg3_lineCount B hS.1 q_95 dX3_dropLine_52 ?_
        refine r_vi (y := s.2.1 - 1) hI ?_
        refine r_aload_n B 2 dX3_dropLine_55 rfl ?_
        refine r_aastore9 B dX3_dropLine_56 hS.2.2.1 (RowL.line hS hA.2.2.2.1 (i := li) (by omega) (by omega)).1 (by omega) (by omega) ?_
        refine WM.nm (fun M4 eM4 => ?_)
        have hfin : ∀ k : Int, gP M4 (S + 2) k = gP M (S + 2) (if k = s.2.1 - 1 then li else if li ≤ k ∧ k < s.2.1 - 1 then k + 1 else k) := fun k => by
          rw [eM4]
          by_cases w : k = s.2.1 - 1
          · rw [w, gP_eq, if_pos rfl]
          · rw [gP_nk w, hp, if_neg w, show i = s.2.1 - 1 by omega]
            by_cases w2 : li ≤ k ∧ k < s.2.1 - 1
            · rw [if_pos w2, if_pos w2]
            · rw [if_neg w2, if_neg w2]
        have hsm : ∀ c : Nat, c ≠ S → c ≠ S + 2 → Same M M4 c := fun c q1 q2 => (hf c q1 q2).tr (by rw [eM4]; exact Same.sP q2)
        have hIm : gI M4 = gI Mc := by rw [eM4, gI_sP]
        have hPg : gP M4 (S + 1) = gP M (S + 1) := (hsm (S + 1) (by omega) (by omega)).2.2.2
        refine r_vret B dX3_dropLine_57 ⟨⟨by rw [hIm]; exact h0, by rw [hIm]; exact hI, hA.2.2.1.kept hPg, hA.2.2.2.1.perm _ (fun k a b => ⟨?_, ?_, hfin k⟩) (fun k k' a b a' b' e => ?_), fun k a b => ?_, fun k a b => ?_⟩, fun c q => hsm c (by omega) (by omega)⟩
        · by_cases w : k = s.2.1 - 1
          · rw [if_pos w]; exact hl0
          · rw [if_neg w]; split <;> omega
        · by_cases w : k = s.2.1 - 1
          · rw [if_pos w]; omega
          · rw [if_neg w]; split <;> omega
        · by_cases w : k = s.2.1 - 1
          · by_cases w2 : k' = s.2.1 - 1
            · omega
            · rw [if_pos w, if_neg w2] at e; split at e <;> omega
          · by_cases w2 : k' = s.2.1 - 1
            · rw [if_neg w, if_pos w2] at e; split at e <;> omega
            · rw [if_neg w, if_neg w2] at e; split at e <;> split at e <;> omega
        · have hb := hA.2.2.1.in a (by have b2 : k < s.1 := b; omega)
          rw [hPg]
          exact (hA.2.2.2.2.1 k a b).kept (fun c q1 q2 => hsm c (by omega) (by omega))
        · have b2 : k < s.2.1 - 1 := b
          rw [hfin k, if_neg (by omega)]
          show LnIs _ _ (rmF s.2.2.2 li k)
          by_cases w : k < li
          · have hb := hA.2.2.2.1.in a (by omega)
            rw [if_neg (by omega), rmF_lt w]
            exact (hA.2.2.2.2.2 k a (by omega)).kept (fun c q1 q2 => hsm c (by omega) (by omega))
          · have hb := hA.2.2.2.1.in (i := k + 1) (by omega) (by omega)
            rw [if_pos (by omega), rmF_ge (by omega)]
            exact (hA.2.2.2.2.2 (k + 1) (by omega) (by omega)).kept (fun c q1 q2 => hsm c (by omega) (by omega))
      · refine r_aload_n B 0 dX3_dropLine_27 rfl ?_
        refine rg3_lineRow B hS.1 q_99 dX3_dropLine_28 ?_
        refine r_iload_n B 3 dX3_dropLine_31 rfl ?_
        refine r_aload_n B 0 dX3_dropLine_32 rfl ?_
        refine rg3_lineRow B hS.1 q_99 dX3_dropLine_33 ?_
        refine r_iload_n B 3 dX3_dropLine_36 rfl ?_
        refine r_iconst B dX3_dropLine_37 ?_
        refine r_iadd B dX3_dropLine_38 ?_
        refine r_aaload9 B dX3_dropLine_39 hS.2.2.1 (by omega) (by omega) ?_
        refine r_va (y := gP M (S + 2) (i + 1)) (by rw [hp, if_neg (by omega)]) ?_
        refine r_aastore9 B dX3_dropLine_40 hS.2.2.1 (RowL.line hS hA.2.2.2.1 (i := (i + 1)) (by omega) (by omega)).1 (by omega) (by omega) ?_
        refine WM.nm (fun M5 eM5 => ?_)
        refine r_iinc B (lv' := [(3, .int (iI (i + 1))), (0, .ref S), (1, .int (iI li)), (2, .ref (gP M (S + 2) li))]) dX3_dropLine_41 (j := 3) rfl (by decide) rfl ?_
        refine r_goto B dX3_dropLine_44 rfl ?_
        refine WM.pick [1, 2, 3, 0] rfl ?_
        refine ihlp2 (i + 1) M5 (by omega) (by omega) (by rw [eM5, gI_sP]; exact h0) (by rw [eM5, gI_sP]; exact hI) ?_ (fun c q1 q2 => (hf c q1 q2).tr (by rw [eM5]; exact Same.sP q2)) (by omega)
        · intro k
          rw [eM5]
          by_cases w : k = i
          · rw [w, gP_eq, if_pos (by omega)]
          · rw [gP_nk w, hp]
            by_cases w2 : li ≤ k ∧ k < i
            · rw [if_pos w2, if_pos (by omega)]
            · rw [if_neg w2, if_neg (by omega)]
  refine WM.pick [2, 3, 1, 0] rfl ?_
  exact lp2 _ li M1 (by omega) (by omega) e10 e1I (fun k => by rw [e1P, if_neg (by omega)]) (fun c q1 q2 => e1S c q1) (Nat.lt_succ_self _)

set_option maxRecDepth 100000 in
set_option maxHeartbeats 4000000 in
theorem c_X3_newGear (l : Launch) (G : Gs) (M : Mem) (S : Nat) (s : Ast) (hS : IsState G S) (hA : StateIs M S s) (hok : StateOk s) (t m : Int) (ht : t ≤ 30) : Ct l G yX3_newGear cX3_newGear 3 (some .int) rm_X3_newGear [.ref S, .int (iI t), .int (iI m)] M (PoI G (fun r M' => (s.1 < 6 ∧ r = s.1 ∧ StateIs M' S (addG s t m) ∧ Only M M' S (S + 53)) ∨ (6 ≤ s.1 ∧ r = -1 ∧ M' = M))) 0 0 := by
  refine Ct.of (by decide +kernel) (Nat.le_of_ble_eq_true rfl) [(0, .ref S), (1, .int (iI t)), (2, .int (iI m))] rfl ?_
  intro X B
  have hs1 := hok.1
  have hs2 := hok.2.1
  have hs3 := hok.2.2.1
  have hs4 := hok.2.2.2.1
  refine r_aload_n B 0 dX3_newGear_0 rfl ?_
  refine rg3_gearCount B hS.1 q_93 dX3_newGear_1 ?_
  refine r_vi (y := s.1) hA.1 ?_
  refine r_bipush B (z := 6) dX3_newGear_4 (by decide) ?_
  refine r_icmp_lt B dX3_newGear_6 rfl ⟨by omega, by omega⟩ ⟨by omega, by omega⟩ (fun h1 => ?_) (fun h1 => ?_)
  · have hb := hA.2.2.1.in (i := s.1) (by omega) (by omega)
    refine r_aload_n B 0 dX3_newGear_11 rfl ?_
    refine rg3_gearRow B hS.1 q_97 dX3_newGear_12 ?_
    refine r_aload_n B 0 dX3_newGear_15 rfl ?_
    refine rg3_gearCount B hS.1 q_93 dX3_newGear_16 ?_
    refine r_vi (y := s.1) hA.1 ?_
    refine r_aaload8 B dX3_newGear_19 hS.2.1 (by omega) (by omega) ?_
    refine r_iload_n B 1 dX3_newGear_20 rfl ?_
    refine r_iload_n B 2 dX3_newGear_21 rfl ?_
    refine r_Vv2 B (c_X0_reset l G M (gP M (S + 1) s.1) t m (RowG.gear hS hA.2.2.1 (by omega) (by omega)) (by omega)) ⟨rfl, rfl⟩ ok_X0_reset vi_X0_reset q_278 (RowG.gear hS hA.2.2.1 (i := s.1) (by omega) (by omega)).1 rfl (fun _ => rfl) ⟨Nat.le_of_ble_eq_true rfl, Nat.le_of_ble_eq_true rfl, Nat.le_of_ble_eq_true rfl⟩ ⟨Nat.le_of_ble_eq_true rfl, Nat.le_of_ble_eq_true rfl⟩ dX3_newGear_22 (fun Mr hr => ?_)
    refine r_aload_n B 0 dX3_newGear_25 rfl ?_
    refine r_dup B dX3_newGear_26 rfl ?_
    refine rg3_gearCount B hS.1 q_93 dX3_newGear_27 ?_
    refine r_vi (y := s.1) (by rw [hr.2.at (c := S) 0 (by omega)]; exact hA.1) ?_
    refine r_iconst B dX3_newGear_30 ?_
    refine r_iadd B dX3_newGear_31 ?_
    refine rp3_gearCount B hS.1 q_93 dX3_newGear_32 ?_
    refine WM.nm (fun M2 eM2 => ?_)
    refine r_aload_n B 0 dX3_newGear_35 rfl ?_
    refine rg3_gearCount B hS.1 q_93 dX3_newGear_36 ?_
    refine r_vi (y := s.1 + 1) (by rw [eM2, gI_eq]) ?_
    refine r_iconst B dX3_newGear_39 ?_
    refine r_isub B dX3_newGear_40 ?_
    have hsm : ∀ c : Nat, c ≠ S → (c < gP M (S + 1) (s.1) ∨ gP M (S + 1) (s.1) + 5 ≤ c) → Same M M2 c := fun c q1 q2 => (hr.2 c q2).tr (by rw [eM2]; exact Same.sI q1)
    have hP1 : gP M2 (S + 1) = gP M (S + 1) := (hsm (S + 1) (by omega) (by omega)).2.2.2
    have hP2 : gP M2 (S + 2) = gP M (S + 2) := (hsm (S + 2) (by omega) (by omega)).2.2.2
    have hst : StateIs M2 S (addG s t m) := by
      refine ⟨by rw [eM2, gI_eq]; rfl, by rw [eM2, gI_nk (by omega), hr.2.at (c := S) 1 (by omega)]; exact hA.2.1, hA.2.2.1.kept hP1, hA.2.2.2.1.kept hP2, fun k p q => ?_, fun k p q => ?_⟩
      · have q2 : k < s.1 + 1 := q
        rw [hP1]
        show GrIs _ _ (upF s.2.2.1 s.1 (t, m, fun _ _ => 0) k)
        by_cases w : k = s.1
        · rw [w, upF_eq]; exact hr.1.kept (fun c q1 q2 => by rw [eM2]; exact Same.sI (by omega))
        · rw [upF_ne w]
          have hb2 := hA.2.2.1.in (i := k) p (by omega)
          have hb3 := hA.2.2.1.apart (i := k) (i' := s.1) p (by omega) (by omega) (by omega) w
          exact (hA.2.2.2.2.1 k p (by omega)).kept (fun c q1 q2 => hsm c (by omega) (by omega))
      · have q2 : k < s.2.1 := q
        rw [hP2]
        have hb2 := hA.2.2.2.1.in (i := k) p (by omega)
        exact (hA.2.2.2.2.2 k p q).kept (fun c q1 q2 => hsm c (by omega) (by omega))
    exact r_iret B dX3_newGear_41 (Or.inl ⟨by omega, by omega, hst, fun c q => hsm c (by omega) (by omega)⟩)
  · refine r_iconst B dX3_newGear_9 ?_
    exact r_iret B dX3_newGear_10 (Or.inr ⟨by omega, rfl, rfl⟩)

set_option maxRecDepth 100000 in
set_option maxHeartbeats 4000000 in
theorem c_X3_newLine (l : Launch) (G : Gs) (M : Mem) (S : Nat) (s : Ast) (hS : IsState G S) (hA : StateIs M S s) (hok : StateOk s) (t m : Int) : Ct l G yX3_newLine cX3_newLine 3 (some .int) rm_X3_newLine [.ref S, .int (iI t), .int (iI m)] M (PoI G (fun r M' => (s.2.1 < 10 ∧ r = s.2.1 ∧ StateIs M' S (addL s t m) ∧ Only M M' S (S + 53)) ∨ (10 ≤ s.2.1 ∧ r = -1 ∧ M' = M))) 0 0 := by
  refine Ct.of (by decide +kernel) (Nat.le_of_ble_eq_true rfl) [(0, .ref S), (1, .int (iI t)), (2, .int (iI m))] rfl ?_
  intro X B
  have hs1 := hok.1
  have hs2 := hok.2.1
  have hs3 := hok.2.2.1
  have hs4 := hok.2.2.2.1
  refine r_aload_n B 0 dX3_newLine_0 rfl ?_
  refine rg3_lineCount B hS.1 q_95 dX3_newLine_1 ?_
  refine r_vi (y := s.2.1) hA.2.1 ?_
  refine r_bipush B (z := 10) dX3_newLine_4 (by decide) ?_
  refine r_icmp_lt B dX3_newLine_6 rfl ⟨by omega, by omega⟩ ⟨by omega, by omega⟩ (fun h1 => ?_) (fun h1 => ?_)
  · have hb := hA.2.2.2.1.in (i := s.2.1) (by omega) (by omega)
    refine r_aload_n B 0 dX3_newLine_11 rfl ?_
    refine rg3_lineRow B hS.1 q_99 dX3_newLine_12 ?_
    refine r_aload_n B 0 dX3_newLine_15 rfl ?_
    refine rg3_lineCount B hS.1 q_95 dX3_newLine_16 ?_
    refine r_vi (y := s.2.1) hA.2.1 ?_
    refine r_aaload9 B dX3_newLine_19 hS.2.2.1 (by omega) (by omega) ?_
    refine r_iload_n B 1 dX3_newLine_20 rfl ?_
    refine r_iload_n B 2 dX3_newLine_21 rfl ?_
    refine r_Vv2 B (c_X1_reset l G M (gP M (S + 2) s.2.1) t m (fun _ => 0) (RowL.line hS hA.2.2.2.1 (by omega) (by omega))) ⟨rfl, rfl⟩ ok_X1_reset vi_X1_reset q_303 (RowL.line hS hA.2.2.2.1 (i := s.2.1) (by omega) (by omega)).1 rfl (fun _ => rfl) ⟨Nat.le_of_ble_eq_true rfl, Nat.le_of_ble_eq_true rfl, Nat.le_of_ble_eq_true rfl⟩ ⟨Nat.le_of_ble_eq_true rfl, Nat.le_of_ble_eq_true rfl⟩ dX3_newLine_22 (fun Mr hr => ?_)
    refine r_aload_n B 0 dX3_newLine_25 rfl ?_
    refine r_dup B dX3_newLine_26 rfl ?_
    refine rg3_lineCount B hS.1 q_95 dX3_newLine_27 ?_
    refine r_vi (y := s.2.1) (by rw [hr.2.at (c := S) 1 (by omega)]; exact hA.2.1) ?_
    refine r_iconst B dX3_newLine_30 ?_
    refine r_iadd B dX3_newLine_31 ?_
    refine rp3_lineCount B hS.1 q_95 dX3_newLine_32 ?_
    refine WM.nm (fun M2 eM2 => ?_)
    refine r_aload_n B 0 dX3_newLine_35 rfl ?_
    refine rg3_lineCount B hS.1 q_95 dX3_newLine_36 ?_
    refine r_vi (y := s.2.1 + 1) (by rw [eM2, gI_eq]) ?_
    refine r_iconst B dX3_newLine_39 ?_
    refine r_isub B dX3_newLine_40 ?_
    have hsm : ∀ c : Nat, c ≠ S → (c < gP M (S + 2) (s.2.1) ∨ gP M (S + 2) (s.2.1) + 2 ≤ c) → Same M M2 c := fun c q1 q2 => (hr.2 c q2).tr (by rw [eM2]; exact Same.sI q1)
    have hP1 : gP M2 (S + 1) = gP M (S + 1) := (hsm (S + 1) (by omega) (by omega)).2.2.2
    have hP2 : gP M2 (S + 2) = gP M (S + 2) := (hsm (S + 2) (by omega) (by omega)).2.2.2
    have hst : StateIs M2 S (addL s t m) := by
      refine ⟨by rw [eM2, gI_nk (by omega), hr.2.at (c := S) 0 (by omega)]; exact hA.1, by rw [eM2, gI_eq]; rfl, hA.2.2.1.kept hP1, hA.2.2.2.1.kept hP2, fun k p q => ?_, fun k p q => ?_⟩
      · have q2 : k < s.1 := q
        rw [hP1]
        have hb2 := hA.2.2.1.in (i := k) p (by omega)
        exact (hA.2.2.2.2.1 k p q).kept (fun c q1 q2 => hsm c (by omega) (by omega))
      · have q2 : k < s.2.1 + 1 := q
        rw [hP2]
        show LnIs _ _ (upF s.2.2.2 s.2.1 (t, m, 0, fun _ => 0) k)
        by_cases w : k = s.2.1
        · rw [w, upF_eq]; exact hr.1.kept (fun c q1 q2 => by rw [eM2]; exact Same.sI (by omega))
        · rw [upF_ne w]
          have hb2 := hA.2.2.2.1.in (i := k) p (by omega)
          have hb3 := hA.2.2.2.1.apart (i := k) (i' := s.2.1) p (by omega) (by omega) (by omega) w
          exact (hA.2.2.2.2.2 k p (by omega)).kept (fun c q1 q2 => hsm c (by omega) (by omega))
    exact r_iret B dX3_newLine_41 (Or.inl ⟨by omega, by omega, hst, fun c q => hsm c (by omega) (by omega)⟩)
  · refine r_iconst B dX3_newLine_9 ?_
    exact r_iret B dX3_newLine_10 (Or.inr ⟨by omega, rfl, rfl⟩)
