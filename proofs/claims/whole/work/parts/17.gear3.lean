set_option maxRecDepth 100000 in
set_option maxHeartbeats 4000000 in
theorem c_X5_isDeviation (l : Launch) (G : Gs) (M : Mem) (v : Int) (hv : In32 v) : Ct l G yX5_isDeviation cX5_isDeviation 1 (some .boolean) rm_X5_isDeviation [.int (iI v)] M (PoI G (Rd (inB v) M)) 0 0 := by
  refine Ct.of (by decide +kernel) (Nat.le_of_ble_eq_true rfl) [(0, .int (iI v))] rfl ?_
  intro X B
  refine r_iload_n B 0 dX5_isDeviation_0 rfl ?_
  refine r_sipush B (z := (-5000)) dX5_isDeviation_1 (by decide) ?_
  refine r_icmp_lt B dX5_isDeviation_4 rfl ⟨by omega, by omega⟩ ⟨by omega, by omega⟩ (fun h1 => ?_) (fun h1 => ?_)
  · refine r_iconst B dX5_isDeviation_18 ?_
    exact r_zret B dX5_isDeviation_19 (by omega) ⟨by unfold inB; rw [if_neg (by omega)], rfl⟩
  · refine r_iload_n B 0 dX5_isDeviation_7 rfl ?_
    refine r_sipush B (z := 5000) dX5_isDeviation_8 (by decide) ?_
    refine r_icmp_gt B dX5_isDeviation_11 rfl ⟨by omega, by omega⟩ ⟨by omega, by omega⟩ (fun h2 => ?_) (fun h2 => ?_)
    · refine r_iconst B dX5_isDeviation_18 ?_
      exact r_zret B dX5_isDeviation_19 (by omega) ⟨by unfold inB; rw [if_neg (by omega)], rfl⟩
    · refine r_iconst B dX5_isDeviation_14 ?_
      refine r_goto B dX5_isDeviation_15 rfl ?_
      exact r_zret B dX5_isDeviation_19 (by omega) ⟨by unfold inB; rw [if_pos (by omega)], rfl⟩

set_option maxRecDepth 100000 in
set_option maxHeartbeats 4000000 in
theorem c_X0_reset (l : Launch) (G : Gs) (M : Mem) (g : Nat) (t m : Int) (hg : IsGear G g) (ht : t ≤ 30) : Ct l G yX0_reset cX0_reset 5 (none) rm_X0_reset [.ref g, .int (iI t), .int (iI m)] M (PoV G (fun M' => GearIs M' g t m (fun _ _ => 0) ∧ Only M M' g (g + 5))) 0 0 := by
  refine Ct.of (by decide +kernel) (Nat.le_of_ble_eq_true rfl) [(0, .ref g), (1, .int (iI t)), (2, .int (iI m))] rfl ?_
  intro X B
  refine r_aload_n B 0 dX0_reset_0 rfl ?_
  refine r_iload_n B 1 dX0_reset_1 rfl ?_
  refine rp0_teeth B hg.1 q_41 dX0_reset_2 ?_
  refine WM.nm (fun M1 eM1 => ?_)
  refine r_aload_n B 0 dX0_reset_5 rfl ?_
  refine r_iload_n B 2 dX0_reset_6 rfl ?_
  refine rp0_module B hg.1 q_44 dX0_reset_7 ?_
  refine WM.nm (fun M2 eM2 => ?_)
  refine r_iconst B dX0_reset_10 ?_
  refine r_istore_n B (lv' := [(3, .int (iI 0)), (0, .ref g), (1, .int (iI t)), (2, .int (iI m))]) dX0_reset_11 (by decide) rfl ?_
  have lp3 : ∀ (nlp3 : Nat) (i : Int) (Mc : Mem) (hi0 : 0 ≤ i) (hi1 : i ≤ 3) (h0 : gI Mc g 0 = t) (h1 : gI Mc g 1 = m) (hz : ∀ s k : Int, 0 ≤ s → s < i → 0 ≤ k → k < 31 → gI Mc (g + 1 + 1 + s.toNat) k = 0) (hf : Only M Mc g (g + 5)), (3 - i).toNat < nlp3 → WM G X 0 0 (bM X (PoV G (fun M' => GearIs M' g t m (fun _ _ => 0) ∧ Only M M' g (g + 5))) 0 0 G) Mc 12 [(0, .ref g), (1, .int (iI t)), (2, .int (iI m)), (3, .int (iI i))] [] := by
    intro nlp3
    induction nlp3 with
    | zero => intro i Mc hi0 hi1 h0 h1 hz hf hm; omega
    | succ nlp3 ihlp3 =>
      intro i Mc hi0 hi1 h0 h1 hz hf hm
      refine r_iload_n B 3 dX0_reset_12 rfl ?_
      refine r_iconst B dX0_reset_13 ?_
      refine r_icmp_ge B dX0_reset_14 rfl ⟨by omega, by omega⟩ ⟨by omega, by omega⟩ (fun h4 => ?_) (fun h4 => ?_)
      · exact r_vret B dX0_reset_49 ⟨⟨h0, h1, fun s k a b c d => hz s k a (by omega) c (by have := szS_le t s; omega)⟩, hf⟩
      · refine r_iconst B dX0_reset_17 ?_
        refine r_istore B (lv' := [(4, .int (iI 0)), (0, .ref g), (1, .int (iI t)), (2, .int (iI m)), (3, .int (iI i))]) dX0_reset_18 (by decide) rfl ?_
        have lp5 : ∀ (nlp5 : Nat) (j : Int) (Md : Mem) (hj0 : 0 ≤ j) (hj1 : j ≤ 31) (h0 : gI Md g 0 = t) (h1 : gI Md g 1 = m) (hz : ∀ s k : Int, 0 ≤ s → s < i → 0 ≤ k → k < 31 → gI Md (g + 1 + 1 + s.toNat) k = 0) (hj : ∀ k : Int, 0 ≤ k → k < j → gI Md (g + 1 + 1 + i.toNat) k = 0) (hf : Only M Md g (g + 5)), (31 - j).toNat < nlp5 → WM G X 0 0 (bM X (PoV G (fun M' => GearIs M' g t m (fun _ _ => 0) ∧ Only M M' g (g + 5))) 0 0 G) Md 20 [(0, .ref g), (1, .int (iI t)), (2, .int (iI m)), (3, .int (iI i)), (4, .int (iI j))] [] := by
          intro nlp5
          induction nlp5 with
          | zero => intro j Md hj0 hj1 h0 h1 hz hj hf hm; omega
          | succ nlp5 ihlp5 =>
            intro j Md hj0 hj1 h0 h1 hz hj hf hm
            refine r_iload B 4 dX0_reset_20 rfl ?_
            refine r_bipush B (z := 30) dX0_reset_22 (by decide) ?_
            refine r_icmp_gt B dX0_reset_24 rfl ⟨by omega, by omega⟩ ⟨by omega, by omega⟩ (fun h6 => ?_) (fun h6 => ?_)
            · refine r_iinc B (lv' := [(3, .int (iI (i + 1))), (0, .ref g), (1, .int (iI t)), (2, .int (iI m)), (4, .int (iI j))]) dX0_reset_43 (j := 3) rfl (by decide) rfl ?_
              refine r_goto B dX0_reset_46 rfl ?_
              refine WM.pick [1, 2, 3, 0] rfl ?_
              refine ihlp3 (i + 1) Md (by omega) (by omega) h0 h1 ?_ hf (by omega)
              · intro s k a b c d
                rcases (show s < i ∨ s = i by omega) with q | q
                · exact hz s k a q c d
                · subst q; exact hj k c (by omega)
            · refine r_aload_n B 0 dX0_reset_27 rfl ?_
              refine rg0_readings B hg.1 q_46 dX0_reset_28 ?_
              refine r_iload_n B 3 dX0_reset_31 rfl ?_
              refine r_aaload11 B dX0_reset_32 hg.2.1 (by omega) (by omega) ?_
              refine r_iload B 4 dX0_reset_33 rfl ?_
              refine r_iconst B dX0_reset_35 ?_
              refine r_iastore B dX0_reset_36 (hg.row (by omega) (by omega)) (by omega) (by omega) ?_
              refine WM.nm (fun M7 eM7 => ?_)
              refine r_iinc B (lv' := [(4, .int (iI (j + 1))), (0, .ref g), (1, .int (iI t)), (2, .int (iI m)), (3, .int (iI i))]) dX0_reset_37 (j := 4) rfl (by decide) rfl ?_
              refine r_goto B dX0_reset_40 rfl ?_
              refine WM.pick [1, 2, 3, 4, 0] rfl ?_
              refine ihlp5 (j + 1) M7 (by omega) (by omega) (by rw [eM7, gI_ne (by omega)]; exact h0) (by rw [eM7, gI_ne (by omega)]; exact h1) (fun s k a b c d => by rw [eM7, gI_ne (by omega)]; exact hz s k a b c d) ?_ (hf.tr (by rw [eM7]; exact Only.sI (by omega) (by omega))) (by omega)
              · intro k a b
                rcases (show k < j ∨ k = j by omega) with q | q
                · rw [eM7, gI_nk (by omega)]; exact hj k a q
                · rw [eM7, q, gI_eq]
        refine WM.pick [1, 2, 3, 4, 0] rfl ?_
        exact lp5 _ 0 Mc (by omega) (by omega) h0 h1 hz (fun k a b => absurd b (by omega)) hf (Nat.lt_succ_self _)
  refine WM.pick [1, 2, 3, 0] rfl ?_
  exact lp3 _ 0 M2 (by omega) (by omega) (by rw [eM2, gI_nk (by omega), eM1, gI_eq]) (by rw [eM2, gI_eq]) (fun s k a b => absurd b (by omega)) (by rw [eM2, eM1]; exact Only.tr (Only.sI (by omega) (by omega)) (Only.sI (by omega) (by omega))) (Nat.lt_succ_self _)

set_option maxRecDepth 100000 in
set_option maxHeartbeats 4000000 in
theorem c_X0_isInRange (l : Launch) (G : Gs) (M : Mem) (g : Nat) (z m : Int) (rd : Int → Int → Int) (hg : IsGear G g) (hA : GearIs M g z m rd) (hz5 : 5 ≤ z) (hz30 : z ≤ 30) (h32 : ∀ s k : Int, 0 ≤ s → s < 3 → 0 ≤ k → k < szS z s → In32 (rd s k)) : Ct l G yX0_isInRange cX0_isInRange 3 (some .boolean) rm_X0_isInRange [.ref g] M (PoI G (fun r M' => ((r = 1 ∧ RdIn z rd) ∨ (r = 0 ∧ ¬ RdIn z rd)) ∧ M' = M)) 0 0 := by
  refine Ct.of (by decide +kernel) (Nat.le_of_ble_eq_true rfl) [(0, .ref g)] rfl ?_
  intro X B
  refine r_iconst B dX0_isInRange_0 ?_
  refine r_istore_n B (lv' := [(1, .int (iI 0)), (0, .ref g)]) dX0_isInRange_1 (by decide) rfl ?_
  have lp1 : ∀ (nlp1 : Nat) (i : Int) (hi0 : 0 ≤ i) (hi1 : i ≤ 3) (hz : ∀ s k : Int, 0 ≤ s → s < i → 0 ≤ k → k < szS z s → -5000 ≤ rd s k ∧ rd s k ≤ 5000), (3 - i).toNat < nlp1 → WM G X 0 0 (bM X (PoI G (fun r M' => ((r = 1 ∧ RdIn z rd) ∨ (r = 0 ∧ ¬ RdIn z rd)) ∧ M' = M)) 0 0 G) M 2 [(0, .ref g), (1, .int (iI i))] [] := by
    intro nlp1
    induction nlp1 with
    | zero => intro i hi0 hi1 hz hm; omega
    | succ nlp1 ihlp1 =>
      intro i hi0 hi1 hz hm
      refine r_iload_n B 1 dX0_isInRange_2 rfl ?_
      refine r_iconst B dX0_isInRange_3 ?_
      refine r_icmp_ge B dX0_isInRange_4 rfl ⟨by omega, by omega⟩ ⟨by omega, by omega⟩ (fun h2 => ?_) (fun h2 => ?_)
      · refine r_iconst B dX0_isInRange_46 ?_
        exact r_zret B dX0_isInRange_47 (by omega) ⟨Or.inl ⟨rfl, fun s k a b c d => hz s k a (by omega) c d⟩, rfl⟩
      · refine r_iconst B dX0_isInRange_7 ?_
        refine r_istore_n B (lv' := [(2, .int (iI 0)), (0, .ref g), (1, .int (iI i))]) dX0_isInRange_8 (by decide) rfl ?_
        have lp3 : ∀ (nlp3 : Nat) (j : Int) (hj0 : 0 ≤ j) (hj1 : j ≤ szS z i) (hj : ∀ k : Int, 0 ≤ k → k < j → -5000 ≤ rd i k ∧ rd i k ≤ 5000), (40 - j).toNat < nlp3 → WM G X 0 0 (bM X (PoI G (fun r M' => ((r = 1 ∧ RdIn z rd) ∨ (r = 0 ∧ ¬ RdIn z rd)) ∧ M' = M)) 0 0 G) M 9 [(0, .ref g), (1, .int (iI i)), (2, .int (iI j))] [] := by
          intro nlp3
          induction nlp3 with
          | zero => intro j hj0 hj1 hj hm; omega
          | succ nlp3 ihlp3 =>
            intro j hj0 hj1 hj hm
            have hsz := szS_le z i
            refine r_iload_n B 2 dX0_isInRange_9 rfl ?_
            refine r_aload_n B 0 dX0_isInRange_10 rfl ?_
            refine r_iload_n B 1 dX0_isInRange_11 rfl ?_
            refine r_pVi1 B (c_X0_sizeOf l G M g z hg hA.1 i (by omega) (by omega)) ⟨rfl, rfl⟩ ok_X0_sizeOf vi_X0_sizeOf q_247 hg.1 rfl (fun _ => rfl) ⟨Nat.le_of_ble_eq_true rfl, Nat.le_of_ble_eq_true rfl, Nat.le_of_ble_eq_true rfl⟩ ⟨Nat.le_of_ble_eq_true rfl, Nat.le_of_ble_eq_true rfl⟩ dX0_isInRange_12 ?_
            refine r_icmp_ge B dX0_isInRange_15 rfl ⟨by omega, by omega⟩ ⟨by omega, by omega⟩ (fun h4 => ?_) (fun h4 => ?_)
            · refine r_iinc B (lv' := [(1, .int (iI (i + 1))), (0, .ref g), (2, .int (iI j))]) dX0_isInRange_40 (j := 1) rfl (by decide) rfl ?_
              refine r_goto B dX0_isInRange_43 rfl ?_
              refine WM.pick [1, 0] rfl ?_
              refine ihlp1 (i + 1) (by omega) (by omega) ?_ (by omega)
              · intro s k a b c d
                rcases (show s < i ∨ s = i by omega) with q | q
                · exact hz s k a q c d
                · subst q; exact hj k c (by omega)
            · have hb := h32 i j (by omega) (by omega) (by omega) (by omega)
              have hb2 : 0 ≤ inB (rd i j) ∧ inB (rd i j) ≤ 1 := by unfold inB; split <;> omega
              refine r_aload_n B 0 dX0_isInRange_18 rfl ?_
              refine rg0_readings B hg.1 q_46 dX0_isInRange_19 ?_
              refine r_iload_n B 1 dX0_isInRange_22 rfl ?_
              refine r_aaload11 B dX0_isInRange_23 hg.2.1 (by omega) (by omega) ?_
              refine r_iload_n B 2 dX0_isInRange_24 rfl ?_
              refine r_iaload B dX0_isInRange_25 (hg.row (by omega) (by omega)) (by omega) (by omega) ?_
              refine r_vi (y := rd i j) (hA.2.2 _ _ (by omega) (by omega) (by omega) (by omega)) ?_
              refine r_pNz1 B (host := "GearGauge") (c_X5_isDeviation l G M (rd i j) ⟨by omega, by omega⟩) ⟨rfl, rfl⟩ ok_X5_isDeviation q_291 (by decide) ⟨Nat.le_of_ble_eq_true rfl, Nat.le_of_ble_eq_true rfl, Nat.le_of_ble_eq_true rfl⟩ ⟨Nat.le_of_ble_eq_true rfl, Nat.le_of_ble_eq_true rfl⟩ dX0_isInRange_26 ?_
              refine r_if_ne B dX0_isInRange_29 rfl ⟨by omega, by omega⟩ (fun h5 => ?_) (fun h5 => ?_)
              · have hr : -5000 ≤ rd i j ∧ rd i j ≤ 5000 := Decidable.byContradiction (fun q => h5 (by unfold inB; rw [if_neg q]))
                refine r_iinc B (lv' := [(2, .int (iI (j + 1))), (0, .ref g), (1, .int (iI i))]) dX0_isInRange_34 (j := 2) rfl (by decide) rfl ?_
                refine r_goto B dX0_isInRange_37 rfl ?_
                refine WM.pick [1, 2, 0] rfl ?_
                refine ihlp3 (j + 1) (by omega) (by omega) ?_ (by omega)
                · intro k a b
                  rcases (show k < j ∨ k = j by omega) with q | q
                  · exact hj k a q
                  · rw [q]; exact hr
              · refine r_iconst B dX0_isInRange_32 ?_
                have hr : ¬ RdIn z rd := fun q => by
                  have q2 := q i j (by omega) (by omega) (by omega) (by omega)
                  unfold inB at h5
                  rw [if_pos q2] at h5
                  omega
                exact r_zret B dX0_isInRange_33 (by omega) ⟨Or.inr ⟨rfl, hr⟩, rfl⟩
        refine WM.pick [1, 2, 0] rfl ?_
        exact lp3 _ 0 (by omega) (by have := szS_le z i; omega) (fun k a b => absurd b (by omega)) (Nat.lt_succ_self _)
  refine WM.pick [1, 0] rfl ?_
  exact lp1 _ 0 (by omega) (by omega) (fun s k a b => absurd b (by omega)) (Nat.lt_succ_self _)
