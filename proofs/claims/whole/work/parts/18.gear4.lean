set_option maxRecDepth 100000 in
set_option maxHeartbeats 4000000 in
theorem c_X0_copyFrom (l : Launch) (G : Gs) (M : Mem) (g o : Nat) (z m : Int) (rd : Int → Int → Int) (hg : IsGear G g) (ho : IsGear G o) (hA : GearIs M o z m rd) (hz0 : 0 ≤ z) (hz30 : z ≤ 30) (hd : o + 5 ≤ g ∨ g + 5 ≤ o) : Ct l G yX0_copyFrom cX0_copyFrom 3 (none) rm_X0_copyFrom [.ref g, .ref o] M (PoV G (fun M' => GearIs M' g z m rd ∧ Only M M' g (g + 5))) 0 0 := by
  refine Ct.of (by decide +kernel) (Nat.le_of_ble_eq_true rfl) [(0, .ref g), (1, .ref o)] rfl ?_
  intro X B
  refine r_aload_n B 0 dX0_copyFrom_0 rfl ?_
  refine r_aload_n B 1 dX0_copyFrom_1 rfl ?_
  refine rg0_teeth B ho.1 q_41 dX0_copyFrom_2 ?_
  refine r_vi (y := z) hA.1 ?_
  refine rp0_teeth B hg.1 q_41 dX0_copyFrom_5 ?_
  refine WM.nm (fun M1 eM1 => ?_)
  refine r_aload_n B 0 dX0_copyFrom_8 rfl ?_
  refine r_aload_n B 1 dX0_copyFrom_9 rfl ?_
  refine rg0_module B ho.1 q_44 dX0_copyFrom_10 ?_
  refine r_vi (y := m) (by rw [eM1, gI_ne (by omega)]; exact hA.2.1) ?_
  refine rp0_module B hg.1 q_44 dX0_copyFrom_13 ?_
  refine WM.nm (fun M2 eM2 => ?_)
  refine r_iconst B dX0_copyFrom_16 ?_
  refine r_istore_n B (lv' := [(2, .int (iI 0)), (0, .ref g), (1, .ref o)]) dX0_copyFrom_17 (by decide) rfl ?_
  have lp3 : ∀ (nlp3 : Nat) (i : Int) (Mc : Mem) (hi0 : 0 ≤ i) (hi1 : i ≤ 3) (h0 : gI Mc g 0 = z) (h1 : gI Mc g 1 = m) (hz : ∀ s k : Int, 0 ≤ s → s < i → 0 ≤ k → k < szS z s → gI Mc (g + 1 + 1 + s.toNat) k = rd s k) (hf : Only M Mc g (g + 5)), (3 - i).toNat < nlp3 → WM G X 0 0 (bM X (PoV G (fun M' => GearIs M' g z m rd ∧ Only M M' g (g + 5))) 0 0 G) Mc 18 [(0, .ref g), (1, .ref o), (2, .int (iI i))] [] := by
    intro nlp3
    induction nlp3 with
    | zero => intro i Mc hi0 hi1 h0 h1 hz hf hm; omega
    | succ nlp3 ihlp3 =>
      intro i Mc hi0 hi1 h0 h1 hz hf hm
      have hsz := szS_le z i
      refine r_iload_n B 2 dX0_copyFrom_18 rfl ?_
      refine r_iconst B dX0_copyFrom_19 ?_
      refine r_icmp_ge B dX0_copyFrom_20 rfl ⟨by omega, by omega⟩ ⟨by omega, by omega⟩ (fun h4 => ?_) (fun h4 => ?_)
      · exact r_vret B dX0_copyFrom_51 ⟨⟨h0, h1, fun s k a b c d => hz s k a (by omega) c d⟩, hf⟩
      · refine r_aload_n B 1 dX0_copyFrom_23 rfl ?_
        refine rg0_readings B ho.1 q_46 dX0_copyFrom_24 ?_
        refine r_iload_n B 2 dX0_copyFrom_27 rfl ?_
        refine r_aaload11 B dX0_copyFrom_28 ho.2.1 (by omega) (by omega) ?_
        refine r_iconst B dX0_copyFrom_29 ?_
        refine r_aload_n B 0 dX0_copyFrom_30 rfl ?_
        refine rg0_readings B hg.1 q_46 dX0_copyFrom_31 ?_
        refine r_iload_n B 2 dX0_copyFrom_34 rfl ?_
        refine r_aaload11 B dX0_copyFrom_35 hg.2.1 (by omega) (by omega) ?_
        refine r_iconst B dX0_copyFrom_36 ?_
        refine r_aload_n B 0 dX0_copyFrom_37 rfl ?_
        refine r_iload_n B 2 dX0_copyFrom_38 rfl ?_
        refine r_pVi1 B (c_X0_sizeOf l G Mc g z hg h0 i (by omega) (by omega)) ⟨rfl, rfl⟩ ok_X0_sizeOf vi_X0_sizeOf q_247 hg.1 rfl (fun _ => rfl) ⟨Nat.le_of_ble_eq_true rfl, Nat.le_of_ble_eq_true rfl, Nat.le_of_ble_eq_true rfl⟩ ⟨Nat.le_of_ble_eq_true rfl, Nat.le_of_ble_eq_true rfl⟩ dX0_copyFrom_39 ?_
        refine r_copy B dX0_copyFrom_42 q_251 q_253 q_252 q_13 (ho.row (by omega) (by omega)) (hg.row (by omega) (by omega)) (by omega) (by omega) (by omega) (by omega) (by omega) ⟨Nat.le_of_ble_eq_true rfl, Nat.le_of_ble_eq_true rfl⟩ ?_
        refine WM.nm (fun M5 eM5 => ?_)
        refine r_iinc B (lv' := [(2, .int (iI (i + 1))), (0, .ref g), (1, .ref o)]) dX0_copyFrom_45 (j := 2) rfl (by decide) rfl ?_
        refine r_goto B dX0_copyFrom_48 rfl ?_
        refine WM.pick [1, 2, 0] rfl ?_
        refine ihlp3 (i + 1) M5 (by omega) (by omega) (by rw [eM5, gI_cp_ne (by omega)]; exact h0) (by rw [eM5, gI_cp_ne (by omega)]; exact h1) ?_ (hf.tr (by rw [eM5]; exact Only.cpI (by omega) (by omega))) (by omega)
        · intro s k a b c d
          rw [eM5]
          rcases (show s < i ∨ s = i by omega) with q | q
          · rw [gI_cp_ne (by omega)]; exact hz s k a q c d
          · rw [q] at d ⊢
            rw [gI_cp_eq c d, hf.at k (by omega)]
            exact hA.2.2 i k (by omega) (by omega) c d
  refine WM.pick [1, 2, 0] rfl ?_
  exact lp3 _ 0 M2 (by omega) (by omega) (by rw [eM2, gI_nk (by omega), eM1, gI_eq]) (by rw [eM2, gI_eq]) (fun s k a b => absurd b (by omega)) (by rw [eM2, eM1]; exact Only.tr (Only.sI (by omega) (by omega)) (Only.sI (by omega) (by omega))) (Nat.lt_succ_self _)

set_option maxRecDepth 100000 in
set_option maxHeartbeats 4000000 in
theorem c_X0_scatter (l : Launch) (G : Gs) (M : Mem) (g : Nat) (z m : Int) (rd : Int → Int → Int) (seed sp : Int) (hg : IsGear G g) (hA : GearIs M g z m rd) (hz5 : 5 ≤ z) (hz30 : z ≤ 30) (hsd0 : 0 ≤ seed) (hsd1 : seed ≤ 999999) (hsp0 : 0 ≤ sp) (hsp1 : sp ≤ 5000) : Ct l G yX0_scatter cX0_scatter 7 (none) rm_X0_scatter [.ref g, .int (iI seed), .int (iI sp)] M (PoV G (fun M' => GearIs M' g z m (fiV seed sp z) ∧ Only M M' g (g + 5))) 0 0 := by
  refine Ct.of (by decide +kernel) (Nat.le_of_ble_eq_true rfl) [(0, .ref g), (1, .int (iI seed)), (2, .int (iI sp))] rfl ?_
  intro X B
  refine r_iload_n B 1 dX0_scatter_0 rfl ?_
  refine r_i2l B dX0_scatter_1 ⟨by omega, by omega⟩ ?_
  refine r_lstore_n B (lv' := [(3, .long (lI seed)), (0, .ref g), (1, .int (iI seed)), (2, .int (iI sp))]) dX0_scatter_2 (by decide) rfl ?_
  refine r_iconst B dX0_scatter_3 ?_
  refine r_istore B (lv' := [(5, .int (iI 0)), (3, .long (lI seed)), (0, .ref g), (1, .int (iI seed)), (2, .int (iI sp))]) dX0_scatter_4 (by decide) rfl ?_
  have lp1 : ∀ (nlp1 : Nat) (i : Int) (sv : Int) (Mc : Mem) (hi0 : 0 ≤ i) (hi1 : i ≤ 3) (hsv : i < 3 → sv = lcgN seed (fiP z i 0).toNat) (hs0 : 0 ≤ sv) (hs1 : sv < 2147483648) (h0 : gI Mc g 0 = z) (h1 : gI Mc g 1 = m) (hz : ∀ s k : Int, 0 ≤ s → s < i → 0 ≤ k → k < szS z s → gI Mc (g + 1 + 1 + s.toNat) k = fiV seed sp z s k) (hf : Only M Mc g (g + 5)), (3 - i).toNat < nlp1 → WM G X 0 0 (bM X (PoV G (fun M' => GearIs M' g z m (fiV seed sp z) ∧ Only M M' g (g + 5))) 0 0 G) Mc 6 [(0, .ref g), (1, .int (iI seed)), (2, .int (iI sp)), (3, .long (lI sv)), (5, .int (iI i))] [] := by
    intro nlp1
    induction nlp1 with
    | zero => intro i sv Mc hi0 hi1 hsv hs0 hs1 h0 h1 hz hf hm; omega
    | succ nlp1 ihlp1 =>
      intro i sv Mc hi0 hi1 hsv hs0 hs1 h0 h1 hz hf hm
      refine r_iload B 4 dX0_scatter_6 rfl ?_
      refine r_iconst B dX0_scatter_8 ?_
      refine r_icmp_ge B dX0_scatter_9 rfl ⟨by omega, by omega⟩ ⟨by omega, by omega⟩ (fun h2 => ?_) (fun h2 => ?_)
      · exact r_vret B dX0_scatter_79 ⟨⟨h0, h1, fun s k a b c d => hz s k a (by omega) c d⟩, hf⟩
      · refine r_iconst B dX0_scatter_12 ?_
        refine r_istore B (lv' := [(6, .int (iI 0)), (0, .ref g), (1, .int (iI seed)), (2, .int (iI sp)), (3, .long (lI sv)), (5, .int (iI i))]) dX0_scatter_13 (by decide) rfl ?_
        have lp3 : ∀ (nlp3 : Nat) (j : Int) (sv : Int) (Md : Mem) (hj0 : 0 ≤ j) (hj1 : j ≤ szS z i) (hsv : sv = lcgN seed (fiP z i j).toNat) (hs0 : 0 ≤ sv) (hs1 : sv < 2147483648) (h0 : gI Md g 0 = z) (h1 : gI Md g 1 = m) (hz : ∀ s k : Int, 0 ≤ s → s < i → 0 ≤ k → k < szS z s → gI Md (g + 1 + 1 + s.toNat) k = fiV seed sp z s k) (hj : ∀ k : Int, 0 ≤ k → k < j → gI Md (g + 1 + 1 + i.toNat) k = fiV seed sp z i k) (hf : Only M Md g (g + 5)), (40 - j).toNat < nlp3 → WM G X 0 0 (bM X (PoV G (fun M' => GearIs M' g z m (fiV seed sp z) ∧ Only M M' g (g + 5))) 0 0 G) Md 15 [(0, .ref g), (1, .int (iI seed)), (2, .int (iI sp)), (3, .long (lI sv)), (5, .int (iI i)), (6, .int (iI j))] [] := by
          intro nlp3
          induction nlp3 with
          | zero => intro j sv Md hj0 hj1 hsv hs0 hs1 h0 h1 hz hj hf hm; omega
          | succ nlp3 ihlp3 =>
            intro j sv Md hj0 hj1 hsv hs0 hs1 h0 h1 hz hj hf hm
            have hsz := szS_le z i
            refine r_iload B 5 dX0_scatter_15 rfl ?_
            refine r_aload_n B 0 dX0_scatter_17 rfl ?_
            refine r_iload B 4 dX0_scatter_18 rfl ?_
            refine r_pVi1 B (c_X0_sizeOf l G Md g z hg h0 i (by omega) (by omega)) ⟨rfl, rfl⟩ ok_X0_sizeOf vi_X0_sizeOf q_247 hg.1 rfl (fun _ => rfl) ⟨Nat.le_of_ble_eq_true rfl, Nat.le_of_ble_eq_true rfl, Nat.le_of_ble_eq_true rfl⟩ ⟨Nat.le_of_ble_eq_true rfl, Nat.le_of_ble_eq_true rfl⟩ dX0_scatter_20 ?_
            refine r_icmp_ge B dX0_scatter_23 rfl ⟨by omega, by omega⟩ ⟨by omega, by omega⟩ (fun h4 => ?_) (fun h4 => ?_)
            · refine r_iinc B (lv' := [(5, .int (iI (i + 1))), (0, .ref g), (1, .int (iI seed)), (2, .int (iI sp)), (3, .long (lI sv)), (6, .int (iI j))]) dX0_scatter_73 (j := 4) rfl (by decide) rfl ?_
              refine r_goto B dX0_scatter_76 rfl ?_
              refine WM.pick [1, 2, 3, 4, 0] rfl ?_
              refine ihlp1 (i + 1) sv Md (by omega) (by omega) (fun q => by rw [fiP_n hi0 (by omega), hsv, show j = szS z i by omega]) hs0 hs1 h0 h1 ?_ hf (by omega)
              · intro s k a b c d
                rcases (show s < i ∨ s = i by omega) with q | q
                · exact hz s k a q c d
                · subst q; exact hj k c (by omega)
            · have hl := lcg_in sv
              have hmd := Int.emod_lt_of_pos (lcg sv / 65536) (show 0 < 2 * sp + 1 by omega)
              have hmd0 := Int.emod_nonneg (lcg sv / 65536) (show 2 * sp + 1 ≠ 0 by omega)
              refine r_ldc2 B (z := 1103515245) dX0_scatter_26 q_590 (by decide) ?_
              refine r_lload_n B 3 dX0_scatter_29 rfl ?_
              refine r_lmul B dX0_scatter_30 ?_
              refine r_ldc2 B (z := 12345) dX0_scatter_31 q_591 (by decide) ?_
              refine r_ladd B dX0_scatter_34 ?_
              refine r_ldc2 B (z := 2147483648) dX0_scatter_35 q_592 (by decide) ?_
              refine r_lrem B dX0_scatter_38 ⟨by omega, by omega⟩ ⟨by omega, by omega⟩ (by omega) ?_
              refine r_vl (y := lcg sv) (Int.tmod_eq_emod_of_nonneg (by omega)) ?_
              refine r_lstore_n B (lv' := [(3, .long (lI (lcg sv))), (0, .ref g), (1, .int (iI seed)), (2, .int (iI sp)), (5, .int (iI i)), (6, .int (iI j))]) dX0_scatter_39 (by decide) rfl ?_
              refine r_aload_n B 1 dX0_scatter_40 rfl ?_
              refine rg0_readings B hg.1 q_46 dX0_scatter_41 ?_
              refine r_iload B 4 dX0_scatter_44 rfl ?_
              refine r_aaload11 B dX0_scatter_46 hg.2.1 (by omega) (by omega) ?_
              refine r_iload B 5 dX0_scatter_47 rfl ?_
              refine r_lload_n B 0 dX0_scatter_49 rfl ?_
              refine r_ldc2 B (z := 65536) dX0_scatter_50 q_593 (by decide) ?_
              refine r_ldiv B dX0_scatter_53 ⟨by omega, by omega⟩ ⟨by omega, by omega⟩ (by omega) ?_
              refine r_vl (y := (lcg sv) / 65536) (Int.tdiv_eq_ediv_of_nonneg (by omega)) ?_
              refine r_ldc2 B (z := 2) dX0_scatter_54 q_594 (by decide) ?_
              refine r_iload_n B 3 dX0_scatter_57 rfl ?_
              refine r_i2l B dX0_scatter_58 ⟨by omega, by omega⟩ ?_
              refine r_lmul B dX0_scatter_59 ?_
              refine r_lconst1 B dX0_scatter_60 ?_
              refine r_ladd B dX0_scatter_61 ?_
              refine r_lrem B dX0_scatter_62 ⟨by omega, by omega⟩ ⟨by omega, by omega⟩ (by omega) ?_
              refine r_vl (y := (lcg sv) / 65536 % ((2 * sp) + 1)) (Int.tmod_eq_emod_of_nonneg (by omega)) ?_
              refine r_l2i B dX0_scatter_63 ?_
              refine r_iload_n B 3 dX0_scatter_64 rfl ?_
              refine r_isub B dX0_scatter_65 ?_
              refine r_iastore B dX0_scatter_66 (hg.row (by omega) (by omega)) (by omega) (by omega) ?_
              refine WM.nm (fun M5 eM5 => ?_)
              refine r_iinc B (lv' := [(6, .int (iI (j + 1))), (3, .long (lI (lcg sv))), (0, .ref g), (1, .int (iI seed)), (2, .int (iI sp)), (5, .int (iI i))]) dX0_scatter_67 (j := 5) rfl (by decide) rfl ?_
              refine r_goto B dX0_scatter_70 rfl ?_
              refine WM.pick [2, 3, 4, 1, 5, 0] rfl ?_
              refine ihlp3 (j + 1) _ M5 (by omega) (by omega) (by rw [fiP_s, lcgN_s _ (fiP_nn (by omega) hi0 (by omega) hj0), ← hsv]) hl.1 hl.2 (by rw [eM5, gI_ne (by omega)]; exact h0) (by rw [eM5, gI_ne (by omega)]; exact h1) (fun s k a b c d => by rw [eM5, gI_ne (by omega)]; exact hz s k a b c d) ?_ (hf.tr (by rw [eM5]; exact Only.sI (by omega) (by omega))) (by omega)
              · intro k a b
                rcases (show k < j ∨ k = j by omega) with q | q
                · rw [eM5, gI_nk (by omega)]; exact hj k a q
                · rw [eM5, q, gI_eq, fiV, lcgN_s _ (fiP_nn (by omega) hi0 (by omega) hj0), ← hsv]
        refine WM.pick [1, 2, 3, 4, 5, 0] rfl ?_
        exact lp3 _ 0 sv Mc (by omega) (by have := szS_le z i; omega) (hsv (by omega)) hs0 hs1 h0 h1 hz (fun k a b => absurd b (by omega)) hf (Nat.lt_succ_self _)
  refine WM.pick [2, 3, 4, 1, 0] rfl ?_
  exact lp1 _ 0 seed M (by omega) (by omega) (fun _ => rfl) (by omega) (by omega) hA.1 hA.2.1 (fun s k a b => absurd b (by omega)) Only.rf (Nat.lt_succ_self _)

set_option maxRecDepth 100000 in
set_option maxHeartbeats 4000000 in
theorem c_X0_becomeTurned (l : Launch) (G : Gs) (M : Mem) (g o : Nat) (z m : Int) (rd : Int → Int → Int) (k : Int) (hg : IsGear G g) (ho : IsGear G o) (hA : GearIs M o z m rd) (hok : GearOk z m rd) (hk0 : 0 ≤ k) (hk1 : k < z) (hd : o + 5 ≤ g ∨ g + 5 ≤ o) : Ct l G yX0_becomeTurned cX0_becomeTurned 8 (none) rm_X0_becomeTurned [.ref g, .ref o, .int (iI k)] M (PoV G (fun M' => GearIs M' g z m (trF z rd k) ∧ Only M M' g (g + 5))) 0 0 := by
  refine Ct.of (by decide +kernel) (Nat.le_of_ble_eq_true rfl) [(0, .ref g), (1, .ref o), (2, .int (iI k))] rfl ?_
  intro X B
  have hz1 := hok.1
  have hz2 := hok.2.1
  refine r_aload_n B 0 dX0_becomeTurned_0 rfl ?_
  refine r_aload_n B 1 dX0_becomeTurned_1 rfl ?_
  refine rg0_teeth B ho.1 q_41 dX0_becomeTurned_2 ?_
  refine r_vi (y := z) hA.1 ?_
  refine rp0_teeth B hg.1 q_41 dX0_becomeTurned_5 ?_
  refine WM.nm (fun M1 eM1 => ?_)
  refine r_aload_n B 0 dX0_becomeTurned_8 rfl ?_
  refine r_aload_n B 1 dX0_becomeTurned_9 rfl ?_
  refine rg0_module B ho.1 q_44 dX0_becomeTurned_10 ?_
  refine r_vi (y := m) (by rw [eM1, gI_ne (by omega)]; exact hA.2.1) ?_
  refine rp0_module B hg.1 q_44 dX0_becomeTurned_13 ?_
  refine WM.nm (fun M2 eM2 => ?_)
  refine r_iconst B dX0_becomeTurned_16 ?_
  refine r_istore_n B (lv' := [(3, .int (iI 0)), (0, .ref g), (1, .ref o), (2, .int (iI k))]) dX0_becomeTurned_17 (by decide) rfl ?_
  have lp3 : ∀ (nlp3 : Nat) (i : Int) (Mc : Mem) (hi0 : 0 ≤ i) (hi1 : i ≤ 3) (h0 : gI Mc g 0 = z) (h1 : gI Mc g 1 = m) (hz : ∀ s t : Int, 0 ≤ s → s < i → 0 ≤ t → t < szS z s → gI Mc (g + 1 + 1 + s.toNat) t = trF z rd k s t) (hf : Only M Mc g (g + 5)), (3 - i).toNat < nlp3 → WM G X 0 0 (bM X (PoV G (fun M' => GearIs M' g z m (trF z rd k) ∧ Only M M' g (g + 5))) 0 0 G) Mc 18 [(0, .ref g), (1, .ref o), (2, .int (iI k)), (3, .int (iI i))] [] := by
    intro nlp3
    induction nlp3 with
    | zero => intro i Mc hi0 hi1 h0 h1 hz hf hm; omega
    | succ nlp3 ihlp3 =>
      intro i Mc hi0 hi1 h0 h1 hz hf hm
      refine r_iload_n B 3 dX0_becomeTurned_18 rfl ?_
      refine r_iconst B dX0_becomeTurned_19 ?_
      refine r_icmp_ge B dX0_becomeTurned_20 rfl ⟨by omega, by omega⟩ ⟨by omega, by omega⟩ (fun h4 => ?_) (fun h4 => ?_)
      · exact r_vret B dX0_becomeTurned_135 ⟨⟨h0, h1, fun s t a b c d => hz s t a (by omega) c d⟩, hf⟩
      · refine r_iload_n B 3 dX0_becomeTurned_23 rfl ?_
        refine r_iconst B dX0_becomeTurned_24 ?_
        have J5 : ∀ cl : Int, (cl = if i = 2 then 0 else rd i z - rd i 0) → WM G X 0 0 (bM X (PoV G (fun M' => GearIs M' g z m (trF z rd k) ∧ Only M M' g (g + 5))) 0 0 G) Mc 37 [(0, .ref g), (1, .ref o), (2, .int (iI k)), (3, .int (iI i))] [.int (iI cl)] := by
          intro cl hcl
          have hc : -10000 ≤ cl ∧ cl ≤ 10000 := by
            by_cases q : i = 2
            · rw [hcl, if_pos q]; omega
            · rw [hcl, if_neg q]
              have a1 := hok.fl (s := i) hi0 (by omega) z (by omega) (by omega)
              have a2 := hok.fl (s := i) hi0 (by omega) 0 (by omega) (by omega)
              omega
          refine r_istore B (lv' := [(4, .int (iI cl)), (0, .ref g), (1, .ref o), (2, .int (iI k)), (3, .int (iI i))]) dX0_becomeTurned_37 (by decide) rfl ?_
          refine r_iconst B dX0_becomeTurned_39 ?_
          refine r_istore B (lv' := [(5, .int (iI 0)), (4, .int (iI cl)), (0, .ref g), (1, .ref o), (2, .int (iI k)), (3, .int (iI i))]) dX0_becomeTurned_40 (by decide) rfl ?_
          have lp6 : ∀ (nlp6 : Nat) (j : Int) (Md : Mem) (hj0 : 0 ≤ j) (hj1 : j ≤ szS z i) (h0 : gI Md g 0 = z) (h1 : gI Md g 1 = m) (hz : ∀ s t : Int, 0 ≤ s → s < i → 0 ≤ t → t < szS z s → gI Md (g + 1 + 1 + s.toNat) t = trF z rd k s t) (hj : ∀ t : Int, 0 ≤ t → t < j → gI Md (g + 1 + 1 + i.toNat) t = trF z rd k i t) (hf : Only M Md g (g + 5)), (40 - j).toNat < nlp6 → WM G X 0 0 (bM X (PoV G (fun M' => GearIs M' g z m (trF z rd k) ∧ Only M M' g (g + 5))) 0 0 G) Md 42 [(0, .ref g), (1, .ref o), (2, .int (iI k)), (3, .int (iI i)), (4, .int (iI cl)), (5, .int (iI j))] [] := by
            intro nlp6
            induction nlp6 with
            | zero => intro j Md hj0 hj1 h0 h1 hz hj hf hm; omega
            | succ nlp6 ihlp6 =>
              intro j Md hj0 hj1 h0 h1 hz hj hf hm
              have hsz := szS_le z i
              refine r_iload B 5 dX0_becomeTurned_42 rfl ?_
              refine r_aload_n B 0 dX0_becomeTurned_44 rfl ?_
              refine r_iload_n B 3 dX0_becomeTurned_45 rfl ?_
              refine r_pVi1 B (c_X0_sizeOf l G Md g z hg h0 i (by omega) (by omega)) ⟨rfl, rfl⟩ ok_X0_sizeOf vi_X0_sizeOf q_247 hg.1 rfl (fun _ => rfl) ⟨Nat.le_of_ble_eq_true rfl, Nat.le_of_ble_eq_true rfl, Nat.le_of_ble_eq_true rfl⟩ ⟨Nat.le_of_ble_eq_true rfl, Nat.le_of_ble_eq_true rfl⟩ dX0_becomeTurned_46 ?_
              refine r_icmp_ge B dX0_becomeTurned_49 rfl ⟨by omega, by omega⟩ ⟨by omega, by omega⟩ (fun h7 => ?_) (fun h7 => ?_)
              · refine r_iinc B (lv' := [(3, .int (iI (i + 1))), (0, .ref g), (1, .ref o), (2, .int (iI k)), (4, .int (iI cl)), (5, .int (iI j))]) dX0_becomeTurned_129 (j := 3) rfl (by decide) rfl ?_
                refine r_goto B dX0_becomeTurned_132 rfl ?_
                refine WM.pick [1, 2, 3, 0] rfl ?_
                refine ihlp3 (i + 1) Md (by omega) (by omega) h0 h1 ?_ hf (by omega)
                · intro s t a b c d
                  rcases (show s < i ∨ s = i by omega) with q | q
                  · exact hz s t a q c d
                  · subst q; exact hj t c (by omega)
              · refine r_iload_n B 2 dX0_becomeTurned_52 rfl ?_
                refine r_iload B 5 dX0_becomeTurned_53 rfl ?_
                refine r_iadd B dX0_becomeTurned_55 ?_
                refine r_aload_n B 0 dX0_becomeTurned_56 rfl ?_
                refine rg0_teeth B hg.1 q_41 dX0_becomeTurned_57 ?_
                refine r_vi (y := z) h0 ?_
                have J8 : ∀ sec : Int, (sec = if z ≤ k + j then 1 else 0) → WM G X 0 0 (bM X (PoV G (fun M' => GearIs M' g z m (trF z rd k) ∧ Only M M' g (g + 5))) 0 0 G) Md 68 [(0, .ref g), (1, .ref o), (2, .int (iI k)), (3, .int (iI i)), (4, .int (iI cl)), (5, .int (iI j))] [.int (iI sec)] := by
                  intro sec hsec
                  refine r_istore B (lv' := [(6, .int (iI sec)), (0, .ref g), (1, .ref o), (2, .int (iI k)), (3, .int (iI i)), (4, .int (iI cl)), (5, .int (iI j))]) dX0_becomeTurned_68 (by decide) rfl ?_
                  refine r_iload B 0 dX0_becomeTurned_70 rfl ?_
                  have hs01 : 0 ≤ sec ∧ sec ≤ 1 := by rw [hsec]; split <;> omega
                  have J9 : ∀ fr : Int, (fr = if z ≤ k + j then k + j - z else k + j) → WM G X 0 0 (bM X (PoV G (fun M' => GearIs M' g z m (trF z rd k) ∧ Only M M' g (g + 5))) 0 0 G) Md 91 [(6, .int (iI sec)), (0, .ref g), (1, .ref o), (2, .int (iI k)), (3, .int (iI i)), (4, .int (iI cl)), (5, .int (iI j))] [.int (iI fr)] := by
                    intro fr hfr
                    have hfr0 : 0 ≤ fr ∧ fr < szS z i := by
                      by_cases q : z ≤ k + j
                      · rw [hfr, if_pos q]; have := szS_le z i; omega
                      · rw [hfr, if_neg q]; have := szS_le z i; omega
                    have hb := hok.2.2.2.2 i fr (by omega) (by omega) hfr0.1 hfr0.2
                    refine r_istore B (lv' := [(7, .int (iI fr)), (6, .int (iI sec)), (0, .ref g), (1, .ref o), (2, .int (iI k)), (3, .int (iI i)), (4, .int (iI cl)), (5, .int (iI j))]) dX0_becomeTurned_91 (by decide) rfl ?_
                    refine r_aload_n B 2 dX0_becomeTurned_93 rfl ?_
                    refine rg0_readings B hg.1 q_46 dX0_becomeTurned_94 ?_
                    refine r_iload_n B 5 dX0_becomeTurned_97 rfl ?_
                    refine r_aaload11 B dX0_becomeTurned_98 hg.2.1 (by omega) (by omega) ?_
                    refine r_iload B 7 dX0_becomeTurned_99 rfl ?_
                    refine r_aload_n B 3 dX0_becomeTurned_101 rfl ?_
                    refine rg0_readings B ho.1 q_46 dX0_becomeTurned_102 ?_
                    refine r_iload_n B 5 dX0_becomeTurned_105 rfl ?_
                    refine r_aaload11 B dX0_becomeTurned_106 ho.2.1 (by omega) (by omega) ?_
                    refine r_iload B 0 dX0_becomeTurned_107 rfl ?_
                    refine r_iaload B dX0_becomeTurned_109 (ho.row (by omega) (by omega)) (by omega) (by omega) ?_
                    refine r_vi (y := rd i fr) ((hf.at _ (by omega)).trans (hA.2.2 i fr (by omega) (by omega) hfr0.1 hfr0.2)) ?_
                    refine r_iload B 1 dX0_becomeTurned_110 rfl ?_
                    have J10 : ∀ ad : Int, (ad = if sec = 0 then 0 else cl) → WM G X 0 0 (bM X (PoV G (fun M' => GearIs M' g z m (trF z rd k) ∧ Only M M' g (g + 5))) 0 0 G) Md 121 [(7, .int (iI fr)), (6, .int (iI sec)), (0, .ref g), (1, .ref o), (2, .int (iI k)), (3, .int (iI i)), (4, .int (iI cl)), (5, .int (iI j))] [.int (iI ad), .int (iI (rd i fr)), .int (iI j), .ref (g + 1 + 1 + Int.toNat i)] := by
                      intro ad had
                      refine r_iadd B dX0_becomeTurned_121 ?_
                      refine r_iastore B dX0_becomeTurned_122 (hg.row (by omega) (by omega)) (by omega) (by omega) ?_
                      refine WM.nm (fun M11 eM11 => ?_)
                      refine r_iinc B (lv' := [(5, .int (iI (j + 1))), (7, .int (iI fr)), (6, .int (iI sec)), (0, .ref g), (1, .ref o), (2, .int (iI k)), (3, .int (iI i)), (4, .int (iI cl))]) dX0_becomeTurned_123 (j := 7) rfl (by decide) rfl ?_
                      refine r_goto B dX0_becomeTurned_126 rfl ?_
                      refine WM.pick [3, 4, 5, 6, 7, 0] rfl ?_
                      refine ihlp6 (j + 1) M11 (by omega) (by omega) (by rw [eM11, gI_ne (by omega)]; exact h0) (by rw [eM11, gI_ne (by omega)]; exact h1) (fun s t a b c d => by rw [eM11, gI_ne (by omega)]; exact hz s t a b c d) ?_ (hf.tr (by rw [eM11]; exact Only.sI (by omega) (by omega))) (by omega)
                      · intro t a b
                        rcases (show t < j ∨ t = j by omega) with q | q
                        · rw [eM11, gI_nk (by omega)]; exact hj t a q
                        · rw [eM11, q, gI_eq, had]
                          unfold trF
                          by_cases w : z ≤ k + j
                          · rw [if_pos w, hfr, if_pos w, hsec, if_pos w, if_neg (by omega), hcl]
                          · rw [if_neg w, hfr, if_neg w, hsec, if_neg w, if_pos rfl]; omega
                    refine r_if_eq B dX0_becomeTurned_112 rfl ⟨by omega, by omega⟩ (fun h12 => ?_) (fun h12 => ?_)
                    · refine r_iconst B dX0_becomeTurned_120 ?_
                      exact J10 _ (by rw [if_pos h12])
                    · refine r_iload B 6 dX0_becomeTurned_115 rfl ?_
                      refine r_goto B dX0_becomeTurned_117 rfl ?_
                      exact J10 _ (by rw [if_neg h12])
                  refine r_if_eq B dX0_becomeTurned_72 rfl ⟨by omega, by omega⟩ (fun h13 => ?_) (fun h13 => ?_)
                  · refine r_iload_n B 3 dX0_becomeTurned_87 rfl ?_
                    refine r_iload B 6 dX0_becomeTurned_88 rfl ?_
                    refine r_iadd B dX0_becomeTurned_90 ?_
                    exact J9 _ (by rw [if_neg (fun w => by rw [hsec, if_pos w] at h13; omega)])
                  · refine r_iload_n B 3 dX0_becomeTurned_75 rfl ?_
                    refine r_iload B 6 dX0_becomeTurned_76 rfl ?_
                    refine r_iadd B dX0_becomeTurned_78 ?_
                    refine r_aload_n B 1 dX0_becomeTurned_79 rfl ?_
                    refine rg0_teeth B hg.1 q_41 dX0_becomeTurned_80 ?_
                    refine r_vi (y := z) h0 ?_
                    refine r_isub B dX0_becomeTurned_83 ?_
                    refine r_goto B dX0_becomeTurned_84 rfl ?_
                    exact J9 _ (by rw [if_pos (Decidable.byContradiction (fun w => by rw [hsec, if_neg w] at h13; omega))])
                refine r_icmp_lt B dX0_becomeTurned_60 rfl ⟨by omega, by omega⟩ ⟨by omega, by omega⟩ (fun h14 => ?_) (fun h14 => ?_)
                · refine r_iconst B dX0_becomeTurned_67 ?_
                  exact J8 _ (by rw [if_neg (by omega)])
                · refine r_iconst B dX0_becomeTurned_63 ?_
                  refine r_goto B dX0_becomeTurned_64 rfl ?_
                  exact J8 _ (by rw [if_pos (by omega)])
          refine WM.pick [2, 3, 4, 5, 1, 0] rfl ?_
          exact lp6 _ 0 Mc (by omega) (by have := szS_le z i; omega) h0 h1 hz (fun t a b => absurd b (by omega)) hf (Nat.lt_succ_self _)
        refine r_icmp_ne B dX0_becomeTurned_25 rfl ⟨by omega, by omega⟩ ⟨by omega, by omega⟩ (fun h15 => ?_) (fun h15 => ?_)
        · refine r_aload_n B 1 dX0_becomeTurned_32 rfl ?_
          refine r_iload_n B 3 dX0_becomeTurned_33 rfl ?_
          refine r_pVi1 B (c_X0_closingError l G Mc o z m rd ho (hA.only hf (by omega)) hok i (by omega) (by omega)) ⟨rfl, rfl⟩ ok_X0_closingError vi_X0_closingError q_350 ho.1 rfl (fun _ => rfl) ⟨Nat.le_of_ble_eq_true rfl, Nat.le_of_ble_eq_true rfl, Nat.le_of_ble_eq_true rfl⟩ ⟨Nat.le_of_ble_eq_true rfl, Nat.le_of_ble_eq_true rfl⟩ dX0_becomeTurned_34 ?_
          exact J5 _ (by rw [if_neg h15])
        · refine r_iconst B dX0_becomeTurned_28 ?_
          refine r_goto B dX0_becomeTurned_29 rfl ?_
          exact J5 _ (by rw [if_pos h15])
  refine WM.pick [1, 2, 3, 0] rfl ?_
  exact lp3 _ 0 M2 (by omega) (by omega) (by rw [eM2, gI_nk (by omega), eM1, gI_eq]) (by rw [eM2, gI_eq]) (fun s k a b => absurd b (by omega)) (by rw [eM2, eM1]; exact Only.tr (Only.sI (by omega) (by omega)) (Only.sI (by omega) (by omega))) (Nat.lt_succ_self _)
