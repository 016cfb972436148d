set_option maxRecDepth 100000 in
set_option maxHeartbeats 4000000 in
theorem c_X1_isMeasured (l : Launch) (G : Gs) (M : Mem) (a : Nat) (ge ki n : Int) (y : Int → Int) (ha : IsLine G a) (hA : LineIs M a ge ki n y) (hok : LineOk n y) : Ct l G yX1_isMeasured cX1_isMeasured 1 (some .boolean) rm_X1_isMeasured [.ref a] M (PoI G (Rd (msS n) M)) 0 0 := by
  refine Ct.of (by decide +kernel) (Nat.le_of_ble_eq_true rfl) [(0, .ref a)] rfl ?_
  intro X B
  have hn0 := hok.1
  have hn1 := hok.2.1
  refine r_aload_n B 0 dX1_isMeasured_0 rfl ?_
  refine rg1_count B ha.1 q_68 dX1_isMeasured_1 ?_
  refine r_vi (y := n) hA.2.2.1 ?_
  refine r_iconst B dX1_isMeasured_4 ?_
  refine r_icmp_lt B dX1_isMeasured_5 rfl ⟨by omega, by omega⟩ ⟨by omega, by omega⟩ (fun h1 => ?_) (fun h1 => ?_)
  · refine r_iconst B dX1_isMeasured_12 ?_
    exact r_zret B dX1_isMeasured_13 (by omega) ⟨by unfold msS; rw [if_neg (by omega)], rfl⟩
  · refine r_iconst B dX1_isMeasured_8 ?_
    refine r_goto B dX1_isMeasured_9 rfl ?_
    exact r_zret B dX1_isMeasured_13 (by omega) ⟨by unfold msS; rw [if_pos (by omega)], rfl⟩

set_option maxRecDepth 100000 in
set_option maxHeartbeats 4000000 in
theorem c_X1_denominator (l : Launch) (G : Gs) (M : Mem) (a : Nat) (ge ki n : Int) (y : Int → Int) (ha : IsLine G a) (hA : LineIs M a ge ki n y) (hok : LineOk n y) : Ct l G yX1_denominator cX1_denominator 1 (some .long) rm_X1_denominator [.ref a] M (PoL G (Rd (dnS n) M)) 0 0 := by
  refine Ct.of (by decide +kernel) (Nat.le_of_ble_eq_true rfl) [(0, .ref a)] rfl ?_
  intro X B
  have hn0 := hok.1
  have hn1 := hok.2.1
  refine r_aload_n B 0 dX1_denominator_0 rfl ?_
  refine rg1_count B ha.1 q_68 dX1_denominator_1 ?_
  refine r_vi (y := n) hA.2.2.1 ?_
  refine r_i2l B dX1_denominator_4 ⟨by omega, by omega⟩ ?_
  refine r_aload_n B 0 dX1_denominator_5 rfl ?_
  refine rg1_sumXX B ha.1 q_71 dX1_denominator_6 ?_
  refine r_vl (y := sumF (fun j => j * j) n.toNat) hA.2.2.2.2.1 ?_
  refine r_lmul B dX1_denominator_9 ?_
  refine r_aload_n B 0 dX1_denominator_10 rfl ?_
  refine rg1_sumX B ha.1 q_70 dX1_denominator_11 ?_
  refine r_vl (y := sumF (fun j => j) n.toNat) hA.2.2.2.1 ?_
  refine r_aload_n B 0 dX1_denominator_14 rfl ?_
  refine rg1_sumX B ha.1 q_70 dX1_denominator_15 ?_
  refine r_vl (y := sumF (fun j => j) n.toNat) hA.2.2.2.1 ?_
  refine r_lmul B dX1_denominator_18 ?_
  refine r_lsub B dX1_denominator_19 ?_
  exact r_lret B dX1_denominator_20 ⟨rfl, rfl⟩

set_option maxRecDepth 100000 in
set_option maxHeartbeats 4000000 in
theorem c_X1_slopeNumerator (l : Launch) (G : Gs) (M : Mem) (a : Nat) (ge ki n : Int) (y : Int → Int) (ha : IsLine G a) (hA : LineIs M a ge ki n y) (hok : LineOk n y) : Ct l G yX1_slopeNumerator cX1_slopeNumerator 1 (some .long) rm_X1_slopeNumerator [.ref a] M (PoL G (Rd (slS y n) M)) 0 0 := by
  refine Ct.of (by decide +kernel) (Nat.le_of_ble_eq_true rfl) [(0, .ref a)] rfl ?_
  intro X B
  have hn0 := hok.1
  have hn1 := hok.2.1
  refine r_aload_n B 0 dX1_slopeNumerator_0 rfl ?_
  refine rg1_count B ha.1 q_68 dX1_slopeNumerator_1 ?_
  refine r_vi (y := n) hA.2.2.1 ?_
  refine r_i2l B dX1_slopeNumerator_4 ⟨by omega, by omega⟩ ?_
  refine r_aload_n B 0 dX1_slopeNumerator_5 rfl ?_
  refine rg1_sumXY B ha.1 q_73 dX1_slopeNumerator_6 ?_
  refine r_vl (y := sumF (fun j => j * y j) n.toNat) hA.2.2.2.2.2.2.1 ?_
  refine r_lmul B dX1_slopeNumerator_9 ?_
  refine r_aload_n B 0 dX1_slopeNumerator_10 rfl ?_
  refine rg1_sumX B ha.1 q_70 dX1_slopeNumerator_11 ?_
  refine r_vl (y := sumF (fun j => j) n.toNat) hA.2.2.2.1 ?_
  refine r_aload_n B 0 dX1_slopeNumerator_14 rfl ?_
  refine rg1_sumY B ha.1 q_72 dX1_slopeNumerator_15 ?_
  refine r_vl (y := sumF y n.toNat) hA.2.2.2.2.2.1 ?_
  refine r_lmul B dX1_slopeNumerator_18 ?_
  refine r_lsub B dX1_slopeNumerator_19 ?_
  exact r_lret B dX1_slopeNumerator_20 ⟨rfl, rfl⟩

set_option maxRecDepth 100000 in
set_option maxHeartbeats 4000000 in
theorem c_X1_interceptNumerator (l : Launch) (G : Gs) (M : Mem) (a : Nat) (ge ki n : Int) (y : Int → Int) (ha : IsLine G a) (hA : LineIs M a ge ki n y) (hok : LineOk n y) : Ct l G yX1_interceptNumerator cX1_interceptNumerator 1 (some .long) rm_X1_interceptNumerator [.ref a] M (PoL G (Rd (inS y n) M)) 0 0 := by
  refine Ct.of (by decide +kernel) (Nat.le_of_ble_eq_true rfl) [(0, .ref a)] rfl ?_
  intro X B
  have hn0 := hok.1
  have hn1 := hok.2.1
  refine r_aload_n B 0 dX1_interceptNumerator_0 rfl ?_
  refine rg1_sumXX B ha.1 q_71 dX1_interceptNumerator_1 ?_
  refine r_vl (y := sumF (fun j => j * j) n.toNat) hA.2.2.2.2.1 ?_
  refine r_aload_n B 0 dX1_interceptNumerator_4 rfl ?_
  refine rg1_sumY B ha.1 q_72 dX1_interceptNumerator_5 ?_
  refine r_vl (y := sumF y n.toNat) hA.2.2.2.2.2.1 ?_
  refine r_lmul B dX1_interceptNumerator_8 ?_
  refine r_aload_n B 0 dX1_interceptNumerator_9 rfl ?_
  refine rg1_sumX B ha.1 q_70 dX1_interceptNumerator_10 ?_
  refine r_vl (y := sumF (fun j => j) n.toNat) hA.2.2.2.1 ?_
  refine r_aload_n B 0 dX1_interceptNumerator_13 rfl ?_
  refine rg1_sumXY B ha.1 q_73 dX1_interceptNumerator_14 ?_
  refine r_vl (y := sumF (fun j => j * y j) n.toNat) hA.2.2.2.2.2.2.1 ?_
  refine r_lmul B dX1_interceptNumerator_17 ?_
  refine r_lsub B dX1_interceptNumerator_18 ?_
  exact r_lret B dX1_interceptNumerator_19 ⟨rfl, rfl⟩

set_option maxRecDepth 100000 in
set_option maxHeartbeats 4000000 in
theorem c_X1_totalDeviation (l : Launch) (G : Gs) (M : Mem) (a : Nat) (ge ki n : Int) (y : Int → Int) (ha : IsLine G a) (hA : LineIs M a ge ki n y) (hok : LineOk n y) (hn : 1 ≤ n) : Ct l G yX1_totalDeviation cX1_totalDeviation 4 (some .int) rm_X1_totalDeviation [.ref a] M (PoI G (Rd (toS y n) M)) 0 0 := by
  refine Ct.of (by decide +kernel) (Nat.le_of_ble_eq_true rfl) [(0, .ref a)] rfl ?_
  intro X B
  have hn0 := hok.1
  have hn1 := hok.2.1
  refine r_aload_n B 0 dX1_totalDeviation_0 rfl ?_
  refine rg1_points B ha.1 q_74 dX1_totalDeviation_1 ?_
  refine r_iconst B dX1_totalDeviation_4 ?_
  refine r_iaload B dX1_totalDeviation_5 ha.2 (by omega) (by omega) ?_
  refine r_vi (y := y 0) (hA.2.2.2.2.2.2.2 _ (by omega) (by omega)) ?_
  refine r_istore_n B (lv' := [(1, .int (iI (y 0))), (0, .ref a)]) dX1_totalDeviation_6 (by decide) rfl ?_
  refine r_aload_n B 1 dX1_totalDeviation_7 rfl ?_
  refine rg1_points B ha.1 q_74 dX1_totalDeviation_8 ?_
  refine r_iconst B dX1_totalDeviation_11 ?_
  refine r_iaload B dX1_totalDeviation_12 ha.2 (by omega) (by omega) ?_
  refine r_vi (y := y 0) (hA.2.2.2.2.2.2.2 _ (by omega) (by omega)) ?_
  refine r_istore_n B (lv' := [(2, .int (iI (y 0))), (1, .int (iI (y 0))), (0, .ref a)]) dX1_totalDeviation_13 (by decide) rfl ?_
  refine r_iconst B dX1_totalDeviation_14 ?_
  refine r_istore_n B (lv' := [(3, .int (iI 1)), (2, .int (iI (y 0))), (1, .int (iI (y 0))), (0, .ref a)]) dX1_totalDeviation_15 (by decide) rfl ?_
  have lp1 : ∀ (nlp1 : Nat) (i : Int) (gr : Int) (le : Int) (hi0 : 1 ≤ i) (hi1 : i ≤ n) (hgr : gr = mxF y (i - 1).toNat) (hle : le = mnF y (i - 1).toNat), (n - i).toNat < nlp1 → WM G X 0 0 (bM X (PoI G (Rd (toS y n) M)) 0 0 G) M 16 [(0, .ref a), (1, .int (iI gr)), (2, .int (iI le)), (3, .int (iI i))] [] := by
    intro nlp1
    induction nlp1 with
    | zero => intro i gr le hi0 hi1 hgr hle hm; omega
    | succ nlp1 ihlp1 =>
      intro i gr le hi0 hi1 hgr hle hm
      have hgb := mxF_in (f := y) (L := -5000) (A := 5000) (i - 1).toNat (fun j a b => hok.2.2 j a (by omega))
      have hlb := mnF_in (f := y) (L := -5000) (A := 5000) (i - 1).toNat (fun j a b => hok.2.2 j a (by omega))
      refine r_iload_n B 3 dX1_totalDeviation_16 rfl ?_
      refine r_aload_n B 0 dX1_totalDeviation_17 rfl ?_
      refine rg1_count B ha.1 q_68 dX1_totalDeviation_18 ?_
      refine r_vi (y := n) hA.2.2.1 ?_
      refine r_icmp_ge B dX1_totalDeviation_21 rfl ⟨by omega, by omega⟩ ⟨by omega, by omega⟩ (fun h2 => ?_) (fun h2 => ?_)
      · refine r_iload_n B 1 dX1_totalDeviation_52 rfl ?_
        refine r_iload_n B 2 dX1_totalDeviation_53 rfl ?_
        refine r_isub B dX1_totalDeviation_54 ?_
        exact r_iret B dX1_totalDeviation_55 ⟨by rw [hgr, hle, show i = n by omega]; rfl, rfl⟩
      · have hib := hok.2.2 i (by omega) (by omega)
        refine r_iload_n B 1 dX1_totalDeviation_24 rfl ?_
        refine r_aload_n B 0 dX1_totalDeviation_25 rfl ?_
        refine rg1_points B ha.1 q_74 dX1_totalDeviation_26 ?_
        refine r_iload_n B 3 dX1_totalDeviation_29 rfl ?_
        refine r_iaload B dX1_totalDeviation_30 ha.2 (by omega) (by omega) ?_
        refine r_vi (y := y i) (hA.2.2.2.2.2.2.2 _ (by omega) (by omega)) ?_
        refine r_mmax B dX1_totalDeviation_31 q_395 q_365 q_15 q_366 ⟨by omega, by omega⟩ ⟨by omega, by omega⟩ ⟨Nat.le_of_ble_eq_true rfl, Nat.le_of_ble_eq_true rfl, Nat.le_of_ble_eq_true rfl, Nat.le_of_ble_eq_true rfl⟩ ?_
        refine r_istore_n B (lv' := [(1, .int (iI (max gr (y i)))), (0, .ref a), (2, .int (iI le)), (3, .int (iI i))]) dX1_totalDeviation_34 (by decide) rfl ?_
        refine r_iload_n B 2 dX1_totalDeviation_35 rfl ?_
        refine r_aload_n B 1 dX1_totalDeviation_36 rfl ?_
        refine rg1_points B ha.1 q_74 dX1_totalDeviation_37 ?_
        refine r_iload_n B 3 dX1_totalDeviation_40 rfl ?_
        refine r_iaload B dX1_totalDeviation_41 ha.2 (by omega) (by omega) ?_
        refine r_vi (y := y i) (hA.2.2.2.2.2.2.2 _ (by omega) (by omega)) ?_
        refine r_mmin B dX1_totalDeviation_42 q_396 q_373 q_15 q_374 ⟨by omega, by omega⟩ ⟨by omega, by omega⟩ ⟨Nat.le_of_ble_eq_true rfl, Nat.le_of_ble_eq_true rfl, Nat.le_of_ble_eq_true rfl, Nat.le_of_ble_eq_true rfl⟩ ?_
        refine r_istore_n B (lv' := [(2, .int (iI (min le (y i)))), (1, .int (iI (max gr (y i)))), (0, .ref a), (3, .int (iI i))]) dX1_totalDeviation_45 (by decide) rfl ?_
        refine r_iinc B (lv' := [(3, .int (iI (i + 1))), (2, .int (iI (min le (y i)))), (1, .int (iI (max gr (y i)))), (0, .ref a)]) dX1_totalDeviation_46 (j := 3) rfl (by decide) rfl ?_
        refine r_goto B dX1_totalDeviation_49 rfl ?_
        refine WM.pick [3, 2, 1, 0] rfl ?_
        exact ihlp1 (i + 1) _ _ (by omega) (by omega) (by rw [hgr, show i + 1 - 1 = i by omega, mxF_s _ hi0]) (by rw [hle, show i + 1 - 1 = i by omega, mnF_s _ hi0]) (by omega)
  refine WM.pick [3, 2, 1, 0] rfl ?_
  exact lp1 _ 1 _ _ (by omega) (by omega) rfl rfl (Nat.lt_succ_self _)

set_option maxRecDepth 100000 in
set_option maxHeartbeats 4000000 in
theorem c_X1_formNumerator (l : Launch) (G : Gs) (M : Mem) (a : Nat) (ge ki n : Int) (y : Int → Int) (ha : IsLine G a) (hA : LineIs M a ge ki n y) (hok : LineOk n y) (hn : 2 ≤ n) : Ct l G yX1_formNumerator cX1_formNumerator 14 (some .long) rm_X1_formNumerator [.ref a] M (PoL G (Rd (foN y n) M)) 0 0 := by
  refine Ct.of (by decide +kernel) (Nat.le_of_ble_eq_true rfl) [(0, .ref a)] rfl ?_
  intro X B
  have hn0 := hok.1
  have hn1 := hok.2.1
  have hd := dnS_in (n := n) (by omega) hn1
  have hsl := slS_in hok
  have hin := inS_in hok
  have hr0 := rsF_in (i := 0) hok (by omega) (by omega) (by omega)
  have hy0 := hok.2.2 0 (by omega) (by omega)
  refine r_aload_n B 0 dX1_formNumerator_0 rfl ?_
  refine r_pVl0 B (c_X1_interceptNumerator l G M a ge ki n y ha hA hok  ) ⟨rfl, rfl⟩ ok_X1_interceptNumerator vi_X1_interceptNumerator q_410 ha.1 rfl (fun _ => rfl) ⟨Nat.le_of_ble_eq_true rfl, Nat.le_of_ble_eq_true rfl, Nat.le_of_ble_eq_true rfl⟩ ⟨Nat.le_of_ble_eq_true rfl, Nat.le_of_ble_eq_true rfl⟩ dX1_formNumerator_1 ?_
  refine r_lstore_n B (lv' := [(1, .long (lI (inS y n))), (0, .ref a)]) dX1_formNumerator_4 (by decide) rfl ?_
  refine r_aload_n B 1 dX1_formNumerator_5 rfl ?_
  refine r_pVl0 B (c_X1_slopeNumerator l G M a ge ki n y ha hA hok  ) ⟨rfl, rfl⟩ ok_X1_slopeNumerator vi_X1_slopeNumerator q_397 ha.1 rfl (fun _ => rfl) ⟨Nat.le_of_ble_eq_true rfl, Nat.le_of_ble_eq_true rfl, Nat.le_of_ble_eq_true rfl⟩ ⟨Nat.le_of_ble_eq_true rfl, Nat.le_of_ble_eq_true rfl⟩ dX1_formNumerator_6 ?_
  refine r_lstore_n B (lv' := [(3, .long (lI (slS y n))), (1, .long (lI (inS y n))), (0, .ref a)]) dX1_formNumerator_9 (by decide) rfl ?_
  refine r_aload_n B 2 dX1_formNumerator_10 rfl ?_
  refine r_pVl0 B (c_X1_denominator l G M a ge ki n y ha hA hok  ) ⟨rfl, rfl⟩ ok_X1_denominator vi_X1_denominator q_401 ha.1 rfl (fun _ => rfl) ⟨Nat.le_of_ble_eq_true rfl, Nat.le_of_ble_eq_true rfl, Nat.le_of_ble_eq_true rfl⟩ ⟨Nat.le_of_ble_eq_true rfl, Nat.le_of_ble_eq_true rfl⟩ dX1_formNumerator_11 ?_
  refine r_lstore B (lv' := [(5, .long (lI (dnS n))), (3, .long (lI (slS y n))), (1, .long (lI (inS y n))), (0, .ref a)]) dX1_formNumerator_14 (by decide) rfl ?_
  refine r_aload_n B 3 dX1_formNumerator_16 rfl ?_
  refine rg1_points B ha.1 q_74 dX1_formNumerator_17 ?_
  refine r_iconst B dX1_formNumerator_20 ?_
  refine r_iaload B dX1_formNumerator_21 ha.2 (by omega) (by omega) ?_
  refine r_vi (y := y 0) (hA.2.2.2.2.2.2.2 _ (by omega) (by omega)) ?_
  refine r_i2l B dX1_formNumerator_22 ⟨by omega, by omega⟩ ?_
  refine r_lload B 0 dX1_formNumerator_23 rfl ?_
  refine r_lmul B dX1_formNumerator_25 ?_
  refine r_lload_n B 2 dX1_formNumerator_26 rfl ?_
  refine r_lsub B dX1_formNumerator_27 ?_
  refine r_lstore B (lv' := [(7, .long (lI (((y 0) * (dnS n)) - (inS y n)))), (5, .long (lI (dnS n))), (3, .long (lI (slS y n))), (1, .long (lI (inS y n))), (0, .ref a)]) dX1_formNumerator_28 (by decide) rfl ?_
  refine r_lload B 0 dX1_formNumerator_30 rfl ?_
  refine r_lstore B (lv' := [(9, .long (lI (((y 0) * (dnS n)) - (inS y n)))), (7, .long (lI (((y 0) * (dnS n)) - (inS y n)))), (5, .long (lI (dnS n))), (3, .long (lI (slS y n))), (1, .long (lI (inS y n))), (0, .ref a)]) dX1_formNumerator_32 (by decide) rfl ?_
  refine r_iconst B dX1_formNumerator_34 ?_
  refine r_istore B (lv' := [(11, .int (iI 1)), (9, .long (lI (((y 0) * (dnS n)) - (inS y n)))), (7, .long (lI (((y 0) * (dnS n)) - (inS y n)))), (5, .long (lI (dnS n))), (3, .long (lI (slS y n))), (1, .long (lI (inS y n))), (0, .ref a)]) dX1_formNumerator_35 (by decide) rfl ?_
  have lp1 : ∀ (nlp1 : Nat) (i : Int) (gr : Int) (le : Int) (hi0 : 1 ≤ i) (hi1 : i ≤ n) (hgr : gr = mxF (rsF y n) (i - 1).toNat) (hle : le = mnF (rsF y n) (i - 1).toNat), (n - i).toNat < nlp1 → WM G X 0 0 (bM X (PoL G (Rd (foN y n) M)) 0 0 G) M 37 [(0, .ref a), (1, .long (lI (inS y n))), (3, .long (lI (slS y n))), (5, .long (lI (dnS n))), (7, .long (lI gr)), (9, .long (lI le)), (11, .int (iI i))] [] := by
    intro nlp1
    induction nlp1 with
    | zero => intro i gr le hi0 hi1 hgr hle hm; omega
    | succ nlp1 ihlp1 =>
      intro i gr le hi0 hi1 hgr hle hm
      have hgb := mxF_in (f := rsF y n) (L := -400000000) (A := 400000000) (i - 1).toNat (fun j a b => rsF_in hok (by omega) a (by omega))
      have hlb := mnF_in (f := rsF y n) (L := -400000000) (A := 400000000) (i - 1).toNat (fun j a b => rsF_in hok (by omega) a (by omega))
      refine r_iload B 6 dX1_formNumerator_37 rfl ?_
      refine r_aload_n B 0 dX1_formNumerator_39 rfl ?_
      refine rg1_count B ha.1 q_68 dX1_formNumerator_40 ?_
      refine r_vi (y := n) hA.2.2.1 ?_
      refine r_icmp_ge B dX1_formNumerator_43 rfl ⟨by omega, by omega⟩ ⟨by omega, by omega⟩ (fun h2 => ?_) (fun h2 => ?_)
      · refine r_lload B 4 dX1_formNumerator_91 rfl ?_
        refine r_lload B 5 dX1_formNumerator_93 rfl ?_
        refine r_lsub B dX1_formNumerator_95 ?_
        exact r_lret B dX1_formNumerator_96 ⟨by rw [hgr, hle, show i = n by omega]; rfl, rfl⟩
      · have hib := hok.2.2 i (by omega) (by omega)
        have hri := rsF_in (i := i) hok (by omega) (by omega) (by omega)
        refine r_aload_n B 0 dX1_formNumerator_46 rfl ?_
        refine rg1_points B ha.1 q_74 dX1_formNumerator_47 ?_
        refine r_iload B 6 dX1_formNumerator_50 rfl ?_
        refine r_iaload B dX1_formNumerator_52 ha.2 (by omega) (by omega) ?_
        refine r_vi (y := y i) (hA.2.2.2.2.2.2.2 _ (by omega) (by omega)) ?_
        refine r_i2l B dX1_formNumerator_53 ⟨by omega, by omega⟩ ?_
        refine r_lload B 3 dX1_formNumerator_54 rfl ?_
        refine r_lmul B dX1_formNumerator_56 ?_
        refine r_lload_n B 1 dX1_formNumerator_57 rfl ?_
        refine r_lload_n B 2 dX1_formNumerator_58 rfl ?_
        refine r_iload B 6 dX1_formNumerator_59 rfl ?_
        refine r_i2l B dX1_formNumerator_61 ⟨by omega, by omega⟩ ?_
        refine r_lmul B dX1_formNumerator_62 ?_
        refine r_ladd B dX1_formNumerator_63 ?_
        refine r_lsub B dX1_formNumerator_64 ?_
        refine r_vl (y := rsF y n i) rfl ?_
        refine r_lstore B (lv' := [(12, .long (lI (rsF y n i))), (0, .ref a), (1, .long (lI (inS y n))), (3, .long (lI (slS y n))), (5, .long (lI (dnS n))), (7, .long (lI gr)), (9, .long (lI le)), (11, .int (iI i))]) dX1_formNumerator_65 (by decide) rfl ?_
        refine r_lload B 5 dX1_formNumerator_67 rfl ?_
        refine r_lload B 0 dX1_formNumerator_69 rfl ?_
        refine r_mlmax B dX1_formNumerator_71 q_414 q_415 q_15 q_416 ⟨by omega, by omega⟩ ⟨by omega, by omega⟩ ⟨Nat.le_of_ble_eq_true rfl, Nat.le_of_ble_eq_true rfl, Nat.le_of_ble_eq_true rfl, Nat.le_of_ble_eq_true rfl⟩ ?_
        refine r_lstore B (lv' := [(7, .long (lI (max gr (rsF y n i)))), (12, .long (lI (rsF y n i))), (0, .ref a), (1, .long (lI (inS y n))), (3, .long (lI (slS y n))), (5, .long (lI (dnS n))), (9, .long (lI le)), (11, .int (iI i))]) dX1_formNumerator_74 (by decide) rfl ?_
        refine r_lload B 6 dX1_formNumerator_76 rfl ?_
        refine r_lload B 1 dX1_formNumerator_78 rfl ?_
        refine r_mlmin B dX1_formNumerator_80 q_417 q_418 q_15 q_419 ⟨by omega, by omega⟩ ⟨by omega, by omega⟩ ⟨Nat.le_of_ble_eq_true rfl, Nat.le_of_ble_eq_true rfl, Nat.le_of_ble_eq_true rfl, Nat.le_of_ble_eq_true rfl⟩ ?_
        refine r_lstore B (lv' := [(9, .long (lI (min le (rsF y n i)))), (7, .long (lI (max gr (rsF y n i)))), (12, .long (lI (rsF y n i))), (0, .ref a), (1, .long (lI (inS y n))), (3, .long (lI (slS y n))), (5, .long (lI (dnS n))), (11, .int (iI i))]) dX1_formNumerator_83 (by decide) rfl ?_
        refine r_iinc B (lv' := [(11, .int (iI (i + 1))), (9, .long (lI (min le (rsF y n i)))), (7, .long (lI (max gr (rsF y n i)))), (12, .long (lI (rsF y n i))), (0, .ref a), (1, .long (lI (inS y n))), (3, .long (lI (slS y n))), (5, .long (lI (dnS n)))]) dX1_formNumerator_85 (j := 7) rfl (by decide) rfl ?_
        refine r_goto B dX1_formNumerator_88 rfl ?_
        refine WM.pick [4, 5, 6, 7, 2, 1, 0] rfl ?_
        exact ihlp1 (i + 1) _ _ (by omega) (by omega) (by rw [hgr, show i + 1 - 1 = i by omega, mxF_s _ hi0]) (by rw [hle, show i + 1 - 1 = i by omega, mnF_s _ hi0]) (by omega)
  refine WM.pick [6, 5, 4, 3, 2, 1, 0] rfl ?_
  refine lp1 _ 1 _ _ (by omega) (by omega) ?_ ?_ (Nat.lt_succ_self _)
  · show _ = rsF y n 0
    unfold rsF
    rw [Int.mul_zero, Int.add_zero]
  · show _ = rsF y n 0
    unfold rsF
    rw [Int.mul_zero, Int.add_zero]

set_option maxRecDepth 100000 in
set_option maxHeartbeats 4000000 in
theorem c_X1_deviationOf (l : Launch) (G : Gs) (M : Mem) (a : Nat) (ge ki n : Int) (y : Int → Int) (ha : IsLine G a) (hA : LineIs M a ge ki n y) (hok : LineOk n y) (what : Int) (hn : 2 ≤ n) (hw0 : 0 ≤ what) (hw1 : what < 3) : Ct l G yX1_deviationOf cX1_deviationOf 2 (some .int) rm_X1_deviationOf [.ref a, .int (iI what)] M (PoI G (Rd (ldS y n what) M)) 0 0 := by
  refine Ct.of (by decide +kernel) (Nat.le_of_ble_eq_true rfl) [(0, .ref a), (1, .int (iI what))] rfl ?_
  intro X B
  have hn0 := hok.1
  have hn1 := hok.2.1
  have hd := dnS_in (n := n) (by omega) hn1
  have hsl := slS_in hok
  have hsm := mulB (x := slS y n) (y := n - 1) (A := 20000000) (C := 11) (by omega) (by omega) (by omega) (by omega) (by omega)
  have hfo := foN_in hok (by omega)
  refine r_iload_n B 1 dX1_deviationOf_0 rfl ?_
  rcases (show what = 0 ∨ what = 1 ∨ what = 2 by omega) with rfl | rfl | rfl
  · refine r_look B dX1_deviationOf_1 (by decide) ⟨by omega, by omega⟩ (off := 27) (tgt := 28) rfl rfl ?_
    refine r_aload_n B 0 dX1_deviationOf_28 rfl ?_
    refine r_pVi0 B (c_X1_totalDeviation l G M a ge ki n y ha hA hok  (by omega)) ⟨rfl, rfl⟩ ok_X1_totalDeviation vi_X1_totalDeviation q_391 ha.1 rfl (fun _ => rfl) ⟨Nat.le_of_ble_eq_true rfl, Nat.le_of_ble_eq_true rfl, Nat.le_of_ble_eq_true rfl⟩ ⟨Nat.le_of_ble_eq_true rfl, Nat.le_of_ble_eq_true rfl⟩ dX1_deviationOf_29 ?_
    exact r_iret B dX1_deviationOf_32 ⟨rfl, rfl⟩
  · refine r_look B dX1_deviationOf_1 (by decide) ⟨by omega, by omega⟩ (off := 32) (tgt := 33) rfl rfl ?_
    refine r_aload_n B 0 dX1_deviationOf_33 rfl ?_
    refine r_pVl0 B (c_X1_slopeNumerator l G M a ge ki n y ha hA hok  ) ⟨rfl, rfl⟩ ok_X1_slopeNumerator vi_X1_slopeNumerator q_397 ha.1 rfl (fun _ => rfl) ⟨Nat.le_of_ble_eq_true rfl, Nat.le_of_ble_eq_true rfl, Nat.le_of_ble_eq_true rfl⟩ ⟨Nat.le_of_ble_eq_true rfl, Nat.le_of_ble_eq_true rfl⟩ dX1_deviationOf_34 ?_
    refine r_aload_n B 0 dX1_deviationOf_37 rfl ?_
    refine rg1_count B ha.1 q_68 dX1_deviationOf_38 ?_
    refine r_vi (y := n) hA.2.2.1 ?_
    refine r_iconst B dX1_deviationOf_41 ?_
    refine r_isub B dX1_deviationOf_42 ?_
    refine r_i2l B dX1_deviationOf_43 ⟨by omega, by omega⟩ ?_
    refine r_lmul B dX1_deviationOf_44 ?_
    refine r_aload_n B 0 dX1_deviationOf_45 rfl ?_
    refine r_pVl0 B (c_X1_denominator l G M a ge ki n y ha hA hok  ) ⟨rfl, rfl⟩ ok_X1_denominator vi_X1_denominator q_401 ha.1 rfl (fun _ => rfl) ⟨Nat.le_of_ble_eq_true rfl, Nat.le_of_ble_eq_true rfl, Nat.le_of_ble_eq_true rfl⟩ ⟨Nat.le_of_ble_eq_true rfl, Nat.le_of_ble_eq_true rfl⟩ dX1_deviationOf_46 ?_
    refine r_pNi2 B (host := "GearGauge") (c_X5_rounded l G M ((slS y n) * (n - 1)) (dnS n) (by omega) (by omega) (by omega) (by omega)) ⟨rfl, rfl⟩ ok_X5_rounded q_355 (by decide) ⟨Nat.le_of_ble_eq_true rfl, Nat.le_of_ble_eq_true rfl, Nat.le_of_ble_eq_true rfl⟩ ⟨Nat.le_of_ble_eq_true rfl, Nat.le_of_ble_eq_true rfl⟩ dX1_deviationOf_49 ?_
    exact r_iret B dX1_deviationOf_52 ⟨rfl, rfl⟩
  · refine r_look B dX1_deviationOf_1 (by decide) ⟨by omega, by omega⟩ (off := 52) (tgt := 53) rfl rfl ?_
    refine r_aload_n B 0 dX1_deviationOf_53 rfl ?_
    refine r_pVl0 B (c_X1_formNumerator l G M a ge ki n y ha hA hok  (by omega)) ⟨rfl, rfl⟩ ok_X1_formNumerator vi_X1_formNumerator q_406 ha.1 rfl (fun _ => rfl) ⟨Nat.le_of_ble_eq_true rfl, Nat.le_of_ble_eq_true rfl, Nat.le_of_ble_eq_true rfl⟩ ⟨Nat.le_of_ble_eq_true rfl, Nat.le_of_ble_eq_true rfl⟩ dX1_deviationOf_54 ?_
    refine r_aload_n B 0 dX1_deviationOf_57 rfl ?_
    refine r_pVl0 B (c_X1_denominator l G M a ge ki n y ha hA hok  ) ⟨rfl, rfl⟩ ok_X1_denominator vi_X1_denominator q_401 ha.1 rfl (fun _ => rfl) ⟨Nat.le_of_ble_eq_true rfl, Nat.le_of_ble_eq_true rfl, Nat.le_of_ble_eq_true rfl⟩ ⟨Nat.le_of_ble_eq_true rfl, Nat.le_of_ble_eq_true rfl⟩ dX1_deviationOf_58 ?_
    refine r_pNi2 B (host := "GearGauge") (c_X5_rounded l G M (foN y n) (dnS n) (by omega) (by omega) (by omega) (by omega)) ⟨rfl, rfl⟩ ok_X5_rounded q_355 (by decide) ⟨Nat.le_of_ble_eq_true rfl, Nat.le_of_ble_eq_true rfl, Nat.le_of_ble_eq_true rfl⟩ ⟨Nat.le_of_ble_eq_true rfl, Nat.le_of_ble_eq_true rfl⟩ dX1_deviationOf_61 ?_
    exact r_iret B dX1_deviationOf_64 ⟨rfl, rfl⟩

set_option maxRecDepth 100000 in
set_option maxHeartbeats 4000000 in
theorem c_X1_reset (l : Launch) (G : Gs) (M : Mem) (a : Nat) (ge ki : Int) (y : Int → Int) (ha : IsLine G a) : Ct l G yX1_reset cX1_reset 3 (none) rm_X1_reset [.ref a, .int (iI ge), .int (iI ki)] M (PoV G (fun M' => LineIs M' a ge ki 0 y ∧ Only M M' a (a + 2))) 0 0 := by
  refine Ct.of (by decide +kernel) (Nat.le_of_ble_eq_true rfl) [(0, .ref a), (1, .int (iI ge)), (2, .int (iI ki))] rfl ?_
  intro X B
  refine r_aload_n B 0 dX1_reset_0 rfl ?_
  refine r_iload_n B 1 dX1_reset_1 rfl ?_
  refine rp1_gear B ha.1 q_62 dX1_reset_2 ?_
  refine WM.nm (fun M1 eM1 => ?_)
  refine r_aload_n B 0 dX1_reset_5 rfl ?_
  refine r_iload_n B 2 dX1_reset_6 rfl ?_
  refine rp1_kind B ha.1 q_65 dX1_reset_7 ?_
  refine WM.nm (fun M2 eM2 => ?_)
  refine r_aload_n B 0 dX1_reset_10 rfl ?_
  refine r_iconst B dX1_reset_11 ?_
  refine rp1_count B ha.1 q_68 dX1_reset_12 ?_
  refine WM.nm (fun M3 eM3 => ?_)
  refine r_aload_n B 0 dX1_reset_15 rfl ?_
  refine r_lconst0 B dX1_reset_16 ?_
  refine rp1_sumX B ha.1 q_70 dX1_reset_17 ?_
  refine WM.nm (fun M4 eM4 => ?_)
  refine r_aload_n B 0 dX1_reset_20 rfl ?_
  refine r_lconst0 B dX1_reset_21 ?_
  refine rp1_sumXX B ha.1 q_71 dX1_reset_22 ?_
  refine WM.nm (fun M5 eM5 => ?_)
  refine r_aload_n B 0 dX1_reset_25 rfl ?_
  refine r_lconst0 B dX1_reset_26 ?_
  refine rp1_sumY B ha.1 q_72 dX1_reset_27 ?_
  refine WM.nm (fun M6 eM6 => ?_)
  refine r_aload_n B 0 dX1_reset_30 rfl ?_
  refine r_lconst0 B dX1_reset_31 ?_
  refine rp1_sumXY B ha.1 q_73 dX1_reset_32 ?_
  refine WM.nm (fun M7 eM7 => ?_)
  have hfr : Only M M7 a (a + 2) := by
    rw [eM7, eM6, eM5, eM4, eM3, eM2, eM1]
    exact Only.tr (Only.tr (Only.tr (Only.tr (Only.tr (Only.tr (Only.sI (by omega) (by omega)) (Only.sI (by omega) (by omega))) (Only.sI (by omega) (by omega))) (Only.sL (by omega) (by omega))) (Only.sL (by omega) (by omega))) (Only.sL (by omega) (by omega))) (Only.sL (by omega) (by omega))
  have hli : LineIs M7 a ge ki 0 y := by
    rw [eM7, eM6, eM5, eM4, eM3, eM2, eM1]
    exact ⟨by simp [gI_sI, gI_sL], by simp [gI_sI, gI_sL], by simp [gI_sI, gI_sL], by simp [gL_sL, gL_sI]; rfl, by simp [gL_sL, gL_sI]; rfl, by simp [gL_sL, gL_sI]; rfl, by simp [gL_sL, gL_sI]; rfl, fun j p q => absurd q (by omega)⟩
  exact r_vret B dX1_reset_35 ⟨hli, hfr⟩

set_option maxRecDepth 100000 in
set_option maxHeartbeats 4000000 in
theorem c_X1_push (l : Launch) (G : Gs) (M : Mem) (a : Nat) (ge ki n : Int) (y : Int → Int) (ha : IsLine G a) (hA : LineIs M a ge ki n y) (hok : LineOk n y) (v : Int) (hv1 : -5000 ≤ v) (hv2 : v ≤ 5000) (hn : n < 12) : Ct l G yX1_push cX1_push 2 (none) rm_X1_push [.ref a, .int (iI v)] M (PoV G (fun M' => LineIs M' a ge ki (n + 1) (ySet y n v) ∧ Only M M' a (a + 2))) 0 0 := by
  refine Ct.of (by decide +kernel) (Nat.le_of_ble_eq_true rfl) [(0, .ref a), (1, .int (iI v))] rfl ?_
  intro X B
  have hn0 := hok.1
  have hn1 := hok.2.1
  refine r_aload_n B 0 dX1_push_0 rfl ?_
  refine rg1_count B ha.1 q_68 dX1_push_1 ?_
  refine r_vi (y := n) hA.2.2.1 ?_
  refine r_bipush B (z := 12) dX1_push_4 (by decide) ?_
  refine r_icmp_ge B dX1_push_6 rfl ⟨by omega, by omega⟩ ⟨by omega, by omega⟩ (fun h1 => ?_) (fun h1 => ?_)
  · omega
  · refine r_aload_n B 0 dX1_push_9 rfl ?_
    refine rg1_points B ha.1 q_74 dX1_push_10 ?_
    refine r_aload_n B 0 dX1_push_13 rfl ?_
    refine rg1_count B ha.1 q_68 dX1_push_14 ?_
    refine r_vi (y := n) hA.2.2.1 ?_
    refine r_iload_n B 1 dX1_push_17 rfl ?_
    refine r_iastore B dX1_push_18 ha.2 (by omega) (by omega) ?_
    refine WM.nm (fun M2 eM2 => ?_)
    refine r_aload_n B 0 dX1_push_19 rfl ?_
    refine r_dup B dX1_push_20 rfl ?_
    refine rg1_sumX B ha.1 q_70 dX1_push_21 ?_
    refine r_vl (y := sumF (fun j => j) n.toNat) (by simp only [eM2, gI_sI, gI_sL, gL_sL, gL_sI]; first | exact hA.2.2.2.1 | (simp; exact hA.2.2.2.1)) ?_
    refine r_aload_n B 0 dX1_push_24 rfl ?_
    refine rg1_count B ha.1 q_68 dX1_push_25 ?_
    refine r_vi (y := n) (by simp only [eM2, gI_sI, gI_sL, gL_sL, gL_sI]; first | exact hA.2.2.1 | (simp; exact hA.2.2.1)) ?_
    refine r_i2l B dX1_push_28 ⟨by omega, by omega⟩ ?_
    refine r_ladd B dX1_push_29 ?_
    refine rp1_sumX B ha.1 q_70 dX1_push_30 ?_
    refine WM.nm (fun M3 eM3 => ?_)
    refine r_aload_n B 0 dX1_push_33 rfl ?_
    refine r_dup B dX1_push_34 rfl ?_
    refine rg1_sumXX B ha.1 q_71 dX1_push_35 ?_
    refine r_vl (y := sumF (fun j => j * j) n.toNat) (by simp only [eM3, eM2, gI_sI, gI_sL, gL_sL, gL_sI]; first | exact hA.2.2.2.2.1 | (simp; exact hA.2.2.2.2.1)) ?_
    refine r_aload_n B 0 dX1_push_38 rfl ?_
    refine rg1_count B ha.1 q_68 dX1_push_39 ?_
    refine r_vi (y := n) (by simp only [eM3, eM2, gI_sI, gI_sL, gL_sL, gL_sI]; first | exact hA.2.2.1 | (simp; exact hA.2.2.1)) ?_
    refine r_i2l B dX1_push_42 ⟨by omega, by omega⟩ ?_
    refine r_aload_n B 0 dX1_push_43 rfl ?_
    refine rg1_count B ha.1 q_68 dX1_push_44 ?_
    refine r_vi (y := n) (by simp only [eM3, eM2, gI_sI, gI_sL, gL_sL, gL_sI]; first | exact hA.2.2.1 | (simp; exact hA.2.2.1)) ?_
    refine r_i2l B dX1_push_47 ⟨by omega, by omega⟩ ?_
    refine r_lmul B dX1_push_48 ?_
    refine r_ladd B dX1_push_49 ?_
    refine rp1_sumXX B ha.1 q_71 dX1_push_50 ?_
    refine WM.nm (fun M4 eM4 => ?_)
    refine r_aload_n B 0 dX1_push_53 rfl ?_
    refine r_dup B dX1_push_54 rfl ?_
    refine rg1_sumY B ha.1 q_72 dX1_push_55 ?_
    refine r_vl (y := sumF y n.toNat) (by simp only [eM4, eM3, eM2, gI_sI, gI_sL, gL_sL, gL_sI]; first | exact hA.2.2.2.2.2.1 | (simp; exact hA.2.2.2.2.2.1)) ?_
    refine r_iload_n B 1 dX1_push_58 rfl ?_
    refine r_i2l B dX1_push_59 ⟨by omega, by omega⟩ ?_
    refine r_ladd B dX1_push_60 ?_
    refine rp1_sumY B ha.1 q_72 dX1_push_61 ?_
    refine WM.nm (fun M5 eM5 => ?_)
    refine r_aload_n B 0 dX1_push_64 rfl ?_
    refine r_dup B dX1_push_65 rfl ?_
    refine rg1_sumXY B ha.1 q_73 dX1_push_66 ?_
    refine r_vl (y := sumF (fun j => j * y j) n.toNat) (by simp only [eM5, eM4, eM3, eM2, gI_sI, gI_sL, gL_sL, gL_sI]; first | exact hA.2.2.2.2.2.2.1 | (simp; exact hA.2.2.2.2.2.2.1)) ?_
    refine r_aload_n B 0 dX1_push_69 rfl ?_
    refine rg1_count B ha.1 q_68 dX1_push_70 ?_
    refine r_vi (y := n) (by simp only [eM5, eM4, eM3, eM2, gI_sI, gI_sL, gL_sL, gL_sI]; first | exact hA.2.2.1 | (simp; exact hA.2.2.1)) ?_
    refine r_i2l B dX1_push_73 ⟨by omega, by omega⟩ ?_
    refine r_iload_n B 1 dX1_push_74 rfl ?_
    refine r_i2l B dX1_push_75 ⟨by omega, by omega⟩ ?_
    refine r_lmul B dX1_push_76 ?_
    refine r_ladd B dX1_push_77 ?_
    refine rp1_sumXY B ha.1 q_73 dX1_push_78 ?_
    refine WM.nm (fun M6 eM6 => ?_)
    refine r_aload_n B 0 dX1_push_81 rfl ?_
    refine r_dup B dX1_push_82 rfl ?_
    refine rg1_count B ha.1 q_68 dX1_push_83 ?_
    refine r_vi (y := n) (by simp only [eM6, eM5, eM4, eM3, eM2, gI_sI, gI_sL, gL_sL, gL_sI]; first | exact hA.2.2.1 | (simp; exact hA.2.2.1)) ?_
    refine r_iconst B dX1_push_86 ?_
    refine r_iadd B dX1_push_87 ?_
    refine rp1_count B ha.1 q_68 dX1_push_88 ?_
    refine WM.nm (fun M7 eM7 => ?_)
    have hfr : Only M M7 a (a + 2) := by
      rw [eM7, eM6, eM5, eM4, eM3, eM2]
      exact Only.tr (Only.tr (Only.tr (Only.tr (Only.tr (Only.sI (by omega) (by omega)) (Only.sL (by omega) (by omega))) (Only.sL (by omega) (by omega))) (Only.sL (by omega) (by omega))) (Only.sL (by omega) (by omega))) (Only.sI (by omega) (by omega))
    have hli : LineIs M7 a ge ki (n + 1) (ySet y n v) := by
      rw [eM7, eM6, eM5, eM4, eM3, eM2]
      refine ⟨?_, ?_, ?_, ?_, ?_, ?_, ?_, fun j p q => ?_⟩
      · simp only [gI_sI, gI_sL, gL_sL, gL_sI]; simp; exact hA.1
      · simp only [gI_sI, gI_sL, gL_sL, gL_sI]; simp; exact hA.2.1
      · simp [gI_sI, gI_sL, gL_sL, gL_sI]
      · simp only [gI_sI, gI_sL, gL_sL, gL_sI]; simp; rw [sumF_s _ hn0]
      · simp only [gI_sI, gI_sL, gL_sL, gL_sI]; simp; rw [sumF_s _ hn0]
      · simp only [gI_sI, gI_sL, gL_sL, gL_sI]; simp; rw [sum_push hn0]
      · simp only [gI_sI, gI_sL, gL_sL, gL_sI]; simp; rw [sum_pushX hn0]
      · rcases (show j < n ∨ j = n by omega) with w | w
        · rw [ySet_ne (by omega)]; simp only [gI_sI, gI_sL, gL_sL, gL_sI]; simp; rw [if_neg (by omega)]; exact hA.2.2.2.2.2.2.2 j p w
        · rw [w, ySet_n]; simp [gI_sI, gI_sL, gL_sL, gL_sI]
    exact r_vret B dX1_push_91 ⟨hli, hfr⟩

set_option maxRecDepth 100000 in
set_option maxHeartbeats 4000000 in
theorem c_X1_copyFrom (l : Launch) (G : Gs) (M : Mem) (a o : Nat) (ge ki n : Int) (y : Int → Int) (ha : IsLine G a) (ho : IsLine G o) (hA : LineIs M o ge ki n y) (hn : n ≤ 12) (hd : o + 2 ≤ a ∨ a + 2 ≤ o) : Ct l G yX1_copyFrom cX1_copyFrom 2 (none) rm_X1_copyFrom [.ref a, .ref o] M (PoV G (fun M' => LineIs M' a ge ki n y ∧ Only M M' a (a + 2))) 0 0 := by
  refine Ct.of (by decide +kernel) (Nat.le_of_ble_eq_true rfl) [(0, .ref a), (1, .ref o)] rfl ?_
  intro X B
  refine r_aload_n B 0 dX1_copyFrom_0 rfl ?_
  refine r_aload_n B 1 dX1_copyFrom_1 rfl ?_
  refine rg1_gear B ho.1 q_62 dX1_copyFrom_2 ?_
  refine r_vi (y := ge) hA.1 ?_
  refine rp1_gear B ha.1 q_62 dX1_copyFrom_5 ?_
  refine WM.nm (fun M1 eM1 => ?_)
  refine r_aload_n B 0 dX1_copyFrom_8 rfl ?_
  refine r_aload_n B 1 dX1_copyFrom_9 rfl ?_
  refine rg1_kind B ho.1 q_65 dX1_copyFrom_10 ?_
  refine r_vi (y := ki) (by rw [eM1, gI_ne (by omega)]; exact hA.2.1) ?_
  refine rp1_kind B ha.1 q_65 dX1_copyFrom_13 ?_
  refine WM.nm (fun M2 eM2 => ?_)
  refine r_aload_n B 0 dX1_copyFrom_16 rfl ?_
  refine r_aload_n B 1 dX1_copyFrom_17 rfl ?_
  refine rg1_count B ho.1 q_68 dX1_copyFrom_18 ?_
  refine r_vi (y := n) (by rw [eM2, gI_ne (by omega), eM1, gI_ne (by omega)]; exact hA.2.2.1) ?_
  refine rp1_count B ha.1 q_68 dX1_copyFrom_21 ?_
  refine WM.nm (fun M3 eM3 => ?_)
  refine r_aload_n B 0 dX1_copyFrom_24 rfl ?_
  refine r_aload_n B 1 dX1_copyFrom_25 rfl ?_
  refine rg1_sumX B ho.1 q_70 dX1_copyFrom_26 ?_
  refine r_vl (y := sumF (fun j => j) n.toNat) (by rw [eM3, gL_sI, eM2, gL_sI, eM1, gL_sI]; exact hA.2.2.2.1) ?_
  refine rp1_sumX B ha.1 q_70 dX1_copyFrom_29 ?_
  refine WM.nm (fun M4 eM4 => ?_)
  refine r_aload_n B 0 dX1_copyFrom_32 rfl ?_
  refine r_aload_n B 1 dX1_copyFrom_33 rfl ?_
  refine rg1_sumXX B ho.1 q_71 dX1_copyFrom_34 ?_
  refine r_vl (y := sumF (fun j => j * j) n.toNat) (by rw [eM4, gL_ne (by omega), eM3, gL_sI, eM2, gL_sI, eM1, gL_sI]; exact hA.2.2.2.2.1) ?_
  refine rp1_sumXX B ha.1 q_71 dX1_copyFrom_37 ?_
  refine WM.nm (fun M5 eM5 => ?_)
  refine r_aload_n B 0 dX1_copyFrom_40 rfl ?_
  refine r_aload_n B 1 dX1_copyFrom_41 rfl ?_
  refine rg1_sumY B ho.1 q_72 dX1_copyFrom_42 ?_
  refine r_vl (y := sumF y n.toNat) (by rw [eM5, gL_ne (by omega), eM4, gL_ne (by omega), eM3, gL_sI, eM2, gL_sI, eM1, gL_sI]; exact hA.2.2.2.2.2.1) ?_
  refine rp1_sumY B ha.1 q_72 dX1_copyFrom_45 ?_
  refine WM.nm (fun M6 eM6 => ?_)
  refine r_aload_n B 0 dX1_copyFrom_48 rfl ?_
  refine r_aload_n B 1 dX1_copyFrom_49 rfl ?_
  refine rg1_sumXY B ho.1 q_73 dX1_copyFrom_50 ?_
  refine r_vl (y := sumF (fun j => j * y j) n.toNat) (by rw [eM6, gL_ne (by omega), eM5, gL_ne (by omega), eM4, gL_ne (by omega), eM3, gL_sI, eM2, gL_sI, eM1, gL_sI]; exact hA.2.2.2.2.2.2.1) ?_
  refine rp1_sumXY B ha.1 q_73 dX1_copyFrom_53 ?_
  refine WM.nm (fun M7 eM7 => ?_)
  refine r_aload_n B 1 dX1_copyFrom_56 rfl ?_
  refine rg1_points B ho.1 q_74 dX1_copyFrom_57 ?_
  refine r_iconst B dX1_copyFrom_60 ?_
  refine r_aload_n B 0 dX1_copyFrom_61 rfl ?_
  refine rg1_points B ha.1 q_74 dX1_copyFrom_62 ?_
  refine r_iconst B dX1_copyFrom_65 ?_
  refine r_bipush B (z := 12) dX1_copyFrom_66 (by decide) ?_
  refine r_copy B dX1_copyFrom_68 q_258 q_253 q_252 q_13 ho.2 ha.2 (by omega) (by omega) (by omega) (by omega) (by omega) ⟨Nat.le_of_ble_eq_true rfl, Nat.le_of_ble_eq_true rfl⟩ ?_
  refine WM.nm (fun M8 eM8 => ?_)
  have hf0 : Only M M7 a (a + 2) := by
    rw [eM7, eM6, eM5, eM4, eM3, eM2, eM1]
    exact Only.tr (Only.tr (Only.tr (Only.tr (Only.tr (Only.tr (Only.sI (by omega) (by omega)) (Only.sI (by omega) (by omega))) (Only.sI (by omega) (by omega))) (Only.sL (by omega) (by omega))) (Only.sL (by omega) (by omega))) (Only.sL (by omega) (by omega))) (Only.sL (by omega) (by omega))
  have hfr : Only M M8 a (a + 2) := hf0.tr (by rw [eM8]; exact Only.cpI (by omega) (by omega))
  have hli : LineIs M8 a ge ki n y := by
    have hI : gI M8 a = gI M7 a := by rw [eM8]; exact Same.cpI (by omega) |>.1
    have hL : gL M8 a = gL M7 a := by rw [eM8]; exact (Same.cpI (by omega)).2.1
    refine ⟨?_, ?_, ?_, ?_, ?_, ?_, ?_, fun j p q => ?_⟩
    · rw [hI]; simp [eM7, eM6, eM5, eM4, eM3, eM2, eM1, gI_sI, gI_sL, gL_sL, gL_sI]
    · rw [hI]; simp [eM7, eM6, eM5, eM4, eM3, eM2, eM1, gI_sI, gI_sL, gL_sL, gL_sI]
    · rw [hI]; simp [eM7, eM6, eM5, eM4, eM3, eM2, eM1, gI_sI, gI_sL, gL_sL, gL_sI]
    · rw [hL]; simp [eM7, eM6, eM5, eM4, eM3, eM2, eM1, gI_sI, gI_sL, gL_sL, gL_sI]
    · rw [hL]; simp [eM7, eM6, eM5, eM4, eM3, eM2, eM1, gI_sI, gI_sL, gL_sL, gL_sI]
    · rw [hL]; simp [eM7, eM6, eM5, eM4, eM3, eM2, eM1, gI_sI, gI_sL, gL_sL, gL_sI]
    · rw [hL]; simp [eM7, eM6, eM5, eM4, eM3, eM2, eM1, gI_sI, gI_sL, gL_sL, gL_sI]
    · rw [eM8, gI_cp_eq p (by omega), hf0.at (c := o + 1) j (by omega)]; exact hA.2.2.2.2.2.2.2 j p q
  exact r_vret B dX1_copyFrom_71 ⟨hli, hfr⟩
