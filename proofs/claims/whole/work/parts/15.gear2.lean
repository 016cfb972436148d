set_option maxRecDepth 100000 in
set_option maxHeartbeats 4000000 in
theorem c_X0_greatestPitch (l : Launch) (G : Gs) (M : Mem) (g : Nat) (z m : Int) (rd : Int → Int → Int) (hg : IsGear G g) (hA : GearIs M g z m rd) (hok : GearOk z m rd) (fl : Int) (hf0 : 0 ≤ fl) (hf1 : fl < 2) : Ct l G yX0_greatestPitch cX0_greatestPitch 6 (some .int) rm_X0_greatestPitch [.ref g, .int (iI fl)] M (PoI G (Rd (gpS z (rd fl)) M)) 0 0 := by
  refine Ct.of (by decide +kernel) (Nat.le_of_ble_eq_true rfl) [(0, .ref g), (1, .int (iI fl))] rfl ?_
  intro X B
  have hz1 := hok.1
  have hz2 := hok.2.1
  refine r_iconst B dX0_greatestPitch_0 ?_
  refine r_istore_n B (lv' := [(2, .int (iI 0)), (0, .ref g), (1, .int (iI fl))]) dX0_greatestPitch_1 (by decide) rfl ?_
  refine r_iconst B dX0_greatestPitch_2 ?_
  refine r_istore_n B (lv' := [(3, .int (iI 0)), (2, .int (iI 0)), (0, .ref g), (1, .int (iI fl))]) dX0_greatestPitch_3 (by decide) rfl ?_
  refine r_iconst B dX0_greatestPitch_4 ?_
  refine r_istore B (lv' := [(4, .int (iI 1)), (3, .int (iI 0)), (2, .int (iI 0)), (0, .ref g), (1, .int (iI fl))]) dX0_greatestPitch_5 (by decide) rfl ?_
  have lp1 : ∀ (nlp1 : Nat) (i : Int) (gr : Int) (b : Int) (hi0 : 1 ≤ i) (hi1 : i ≤ z + 1) (hgr : gr = mxU (gpF z (rd fl)) (i - 1).toNat) (hb : b = ixS z (rd fl) (i - 1)), (z + 1 - i).toNat < nlp1 → WM G X 0 0 (bM X (PoI G (Rd (gpS z (rd fl)) M)) 0 0 G) M 7 [(0, .ref g), (1, .int (iI fl)), (2, .int (iI gr)), (3, .int (iI b)), (4, .int (iI i))] [] := by
    intro nlp1
    induction nlp1 with
    | zero => intro i gr b hi0 hi1 hgr hb hm; omega
    | succ nlp1 ihlp1 =>
      intro i gr b hi0 hi1 hgr hb hm
      have hbb := hok.ix hf0 hf1 (t := i - 1) (by omega) (by omega)
      have hgb := mxU_in (f := gpF z (rd fl)) (A := 40000) (by omega) (i - 1).toNat (fun j a b => gpF_in hok hf0 hf1 a (by omega))
      refine r_iload B 4 dX0_greatestPitch_7 rfl ?_
      refine r_aload_n B 0 dX0_greatestPitch_9 rfl ?_
      refine rg0_teeth B hg.1 q_41 dX0_greatestPitch_10 ?_
      refine r_vi (y := z) hA.1 ?_
      refine r_icmp_gt B dX0_greatestPitch_13 rfl ⟨by omega, by omega⟩ ⟨by omega, by omega⟩ (fun h2 => ?_) (fun h2 => ?_)
      · refine r_iload_n B 2 dX0_greatestPitch_46 rfl ?_
        exact r_iret B dX0_greatestPitch_47 ⟨by rw [hgr, show i - 1 = z by omega]; rfl, rfl⟩
      · have hib := hok.ix hf0 hf1 (t := i) (by omega) (by omega)
        refine r_aload_n B 0 dX0_greatestPitch_16 rfl ?_
        refine r_iload_n B 1 dX0_greatestPitch_17 rfl ?_
        refine r_iload B 4 dX0_greatestPitch_18 rfl ?_
        refine r_pVi2 B (c_X0_indexAt l G M g z m rd hg hA hok fl i (by omega) (by omega) (by omega) (by omega)) ⟨rfl, rfl⟩ ok_X0_indexAt vi_X0_indexAt q_346 hg.1 rfl (fun _ => rfl) ⟨Nat.le_of_ble_eq_true rfl, Nat.le_of_ble_eq_true rfl, Nat.le_of_ble_eq_true rfl⟩ ⟨Nat.le_of_ble_eq_true rfl, Nat.le_of_ble_eq_true rfl⟩ dX0_greatestPitch_20 ?_
        refine r_istore B (lv' := [(5, .int (iI (ixS z (rd fl) i))), (0, .ref g), (1, .int (iI fl)), (2, .int (iI gr)), (3, .int (iI b)), (4, .int (iI i))]) dX0_greatestPitch_23 (by decide) rfl ?_
        refine r_iload_n B 3 dX0_greatestPitch_25 rfl ?_
        refine r_iload B 0 dX0_greatestPitch_26 rfl ?_
        refine r_iload_n B 4 dX0_greatestPitch_28 rfl ?_
        refine r_isub B dX0_greatestPitch_29 ?_
        refine r_mabs B dX0_greatestPitch_30 q_361 q_362 q_15 q_363 ⟨by omega, by omega⟩ ⟨Nat.le_of_ble_eq_true rfl, Nat.le_of_ble_eq_true rfl, Nat.le_of_ble_eq_true rfl, Nat.le_of_ble_eq_true rfl⟩ ?_
        refine r_mmax B dX0_greatestPitch_33 q_364 q_365 q_15 q_366 ⟨by omega, by omega⟩ ⟨by omega, by omega⟩ ⟨Nat.le_of_ble_eq_true rfl, Nat.le_of_ble_eq_true rfl, Nat.le_of_ble_eq_true rfl, Nat.le_of_ble_eq_true rfl⟩ ?_
        refine r_istore_n B (lv' := [(2, .int (iI (max gr (max ((ixS z (rd fl) i) - b) (-((ixS z (rd fl) i) - b)))))), (5, .int (iI (ixS z (rd fl) i))), (0, .ref g), (1, .int (iI fl)), (3, .int (iI b)), (4, .int (iI i))]) dX0_greatestPitch_36 (by decide) rfl ?_
        refine r_iload B 1 dX0_greatestPitch_37 rfl ?_
        refine r_istore_n B (lv' := [(3, .int (iI (ixS z (rd fl) i))), (2, .int (iI (max gr (max ((ixS z (rd fl) i) - b) (-((ixS z (rd fl) i) - b)))))), (5, .int (iI (ixS z (rd fl) i))), (0, .ref g), (1, .int (iI fl)), (4, .int (iI i))]) dX0_greatestPitch_39 (by decide) rfl ?_
        refine r_iinc B (lv' := [(4, .int (iI (i + 1))), (3, .int (iI (ixS z (rd fl) i))), (2, .int (iI (max gr (max ((ixS z (rd fl) i) - b) (-((ixS z (rd fl) i) - b)))))), (5, .int (iI (ixS z (rd fl) i))), (0, .ref g), (1, .int (iI fl))]) dX0_greatestPitch_40 (j := 5) rfl (by decide) rfl ?_
        refine r_goto B dX0_greatestPitch_43 rfl ?_
        refine WM.pick [4, 5, 2, 1, 0] rfl ?_
        exact ihlp1 (i + 1) _ _ (by omega) (by omega) (by rw [hgr, hb, show i + 1 - 1 = i by omega, mxU_s _ hi0]; rfl) (by rw [show i + 1 - 1 = i by omega]) (by omega)
  refine WM.pick [3, 4, 2, 1, 0] rfl ?_
  exact lp1 _ 1 0 0 (by omega) (by omega) rfl (by rw [Int.sub_self, ixS_0 (by omega)]) (Nat.lt_succ_self _)

set_option maxRecDepth 100000 in
set_option maxHeartbeats 4000000 in
theorem c_X0_indexRange (l : Launch) (G : Gs) (M : Mem) (g : Nat) (z m : Int) (rd : Int → Int → Int) (hg : IsGear G g) (hA : GearIs M g z m rd) (hok : GearOk z m rd) (fl : Int) (hf0 : 0 ≤ fl) (hf1 : fl < 2) : Ct l G yX0_indexRange cX0_indexRange 6 (some .int) rm_X0_indexRange [.ref g, .int (iI fl)] M (PoI G (Rd (irS z (rd fl)) M)) 0 0 := by
  refine Ct.of (by decide +kernel) (Nat.le_of_ble_eq_true rfl) [(0, .ref g), (1, .int (iI fl))] rfl ?_
  intro X B
  have hz1 := hok.1
  have hz2 := hok.2.1
  refine r_iconst B dX0_indexRange_0 ?_
  refine r_istore_n B (lv' := [(2, .int (iI 0)), (0, .ref g), (1, .int (iI fl))]) dX0_indexRange_1 (by decide) rfl ?_
  refine r_iconst B dX0_indexRange_2 ?_
  refine r_istore_n B (lv' := [(3, .int (iI 0)), (2, .int (iI 0)), (0, .ref g), (1, .int (iI fl))]) dX0_indexRange_3 (by decide) rfl ?_
  refine r_iconst B dX0_indexRange_4 ?_
  refine r_istore B (lv' := [(4, .int (iI 1)), (3, .int (iI 0)), (2, .int (iI 0)), (0, .ref g), (1, .int (iI fl))]) dX0_indexRange_5 (by decide) rfl ?_
  have lp1 : ∀ (nlp1 : Nat) (i : Int) (gr : Int) (le : Int) (hi0 : 1 ≤ i) (hi1 : i ≤ z + 1) (hgr : gr = mxU (ixS z (rd fl)) (i - 1).toNat) (hle : le = mnU (ixS z (rd fl)) (i - 1).toNat), (z + 1 - i).toNat < nlp1 → WM G X 0 0 (bM X (PoI G (Rd (irS z (rd fl)) M)) 0 0 G) M 7 [(0, .ref g), (1, .int (iI fl)), (2, .int (iI gr)), (3, .int (iI le)), (4, .int (iI i))] [] := by
    intro nlp1
    induction nlp1 with
    | zero => intro i gr le hi0 hi1 hgr hle hm; omega
    | succ nlp1 ihlp1 =>
      intro i gr le hi0 hi1 hgr hle hm
      have hgb := mxU_in (f := ixS z (rd fl)) (A := 20000) (by omega) (i - 1).toNat (fun j a b => (hok.ix hf0 hf1 (t := j) (by omega) (by omega)).2)
      have hlb := mnU_in (f := ixS z (rd fl)) (A := 20000) (by omega) (i - 1).toNat (fun j a b => (hok.ix hf0 hf1 (t := j) (by omega) (by omega)).1)
      refine r_iload B 4 dX0_indexRange_7 rfl ?_
      refine r_aload_n B 0 dX0_indexRange_9 rfl ?_
      refine rg0_teeth B hg.1 q_41 dX0_indexRange_10 ?_
      refine r_vi (y := z) hA.1 ?_
      refine r_icmp_gt B dX0_indexRange_13 rfl ⟨by omega, by omega⟩ ⟨by omega, by omega⟩ (fun h2 => ?_) (fun h2 => ?_)
      · refine r_iload_n B 2 dX0_indexRange_45 rfl ?_
        refine r_iload_n B 3 dX0_indexRange_46 rfl ?_
        refine r_isub B dX0_indexRange_47 ?_
        exact r_iret B dX0_indexRange_48 ⟨by rw [hgr, hle, show i - 1 = z by omega]; rfl, rfl⟩
      · have hib := hok.ix hf0 hf1 (t := i) (by omega) (by omega)
        refine r_aload_n B 0 dX0_indexRange_16 rfl ?_
        refine r_iload_n B 1 dX0_indexRange_17 rfl ?_
        refine r_iload B 4 dX0_indexRange_18 rfl ?_
        refine r_pVi2 B (c_X0_indexAt l G M g z m rd hg hA hok fl i (by omega) (by omega) (by omega) (by omega)) ⟨rfl, rfl⟩ ok_X0_indexAt vi_X0_indexAt q_346 hg.1 rfl (fun _ => rfl) ⟨Nat.le_of_ble_eq_true rfl, Nat.le_of_ble_eq_true rfl, Nat.le_of_ble_eq_true rfl⟩ ⟨Nat.le_of_ble_eq_true rfl, Nat.le_of_ble_eq_true rfl⟩ dX0_indexRange_20 ?_
        refine r_istore B (lv' := [(5, .int (iI (ixS z (rd fl) i))), (0, .ref g), (1, .int (iI fl)), (2, .int (iI gr)), (3, .int (iI le)), (4, .int (iI i))]) dX0_indexRange_23 (by decide) rfl ?_
        refine r_iload_n B 3 dX0_indexRange_25 rfl ?_
        refine r_iload B 0 dX0_indexRange_26 rfl ?_
        refine r_mmax B dX0_indexRange_28 q_364 q_365 q_15 q_366 ⟨by omega, by omega⟩ ⟨by omega, by omega⟩ ⟨Nat.le_of_ble_eq_true rfl, Nat.le_of_ble_eq_true rfl, Nat.le_of_ble_eq_true rfl, Nat.le_of_ble_eq_true rfl⟩ ?_
        refine r_istore_n B (lv' := [(2, .int (iI (max gr (ixS z (rd fl) i)))), (5, .int (iI (ixS z (rd fl) i))), (0, .ref g), (1, .int (iI fl)), (3, .int (iI le)), (4, .int (iI i))]) dX0_indexRange_31 (by decide) rfl ?_
        refine r_iload_n B 4 dX0_indexRange_32 rfl ?_
        refine r_iload B 1 dX0_indexRange_33 rfl ?_
        refine r_mmin B dX0_indexRange_35 q_372 q_373 q_15 q_374 ⟨by omega, by omega⟩ ⟨by omega, by omega⟩ ⟨Nat.le_of_ble_eq_true rfl, Nat.le_of_ble_eq_true rfl, Nat.le_of_ble_eq_true rfl, Nat.le_of_ble_eq_true rfl⟩ ?_
        refine r_istore_n B (lv' := [(3, .int (iI (min le (ixS z (rd fl) i)))), (2, .int (iI (max gr (ixS z (rd fl) i)))), (5, .int (iI (ixS z (rd fl) i))), (0, .ref g), (1, .int (iI fl)), (4, .int (iI i))]) dX0_indexRange_38 (by decide) rfl ?_
        refine r_iinc B (lv' := [(4, .int (iI (i + 1))), (3, .int (iI (min le (ixS z (rd fl) i)))), (2, .int (iI (max gr (ixS z (rd fl) i)))), (5, .int (iI (ixS z (rd fl) i))), (0, .ref g), (1, .int (iI fl))]) dX0_indexRange_39 (j := 5) rfl (by decide) rfl ?_
        refine r_goto B dX0_indexRange_42 rfl ?_
        refine WM.pick [4, 5, 2, 1, 0] rfl ?_
        exact ihlp1 (i + 1) _ _ (by omega) (by omega) (by rw [hgr, show i + 1 - 1 = i by omega, mxU_s _ hi0]) (by rw [hle, show i + 1 - 1 = i by omega, mnU_s _ hi0]) (by omega)
  refine WM.pick [3, 4, 2, 1, 0] rfl ?_
  exact lp1 _ 1 0 0 (by omega) (by omega) rfl rfl (Nat.lt_succ_self _)

set_option maxRecDepth 100000 in
set_option maxHeartbeats 4000000 in
theorem c_X0_greatestSpan (l : Launch) (G : Gs) (M : Mem) (g : Nat) (z m : Int) (rd : Int → Int → Int) (hg : IsGear G g) (hA : GearIs M g z m rd) (hok : GearOk z m rd) (fl k : Int) (hf0 : 0 ≤ fl) (hf1 : fl < 2) (hk0 : 0 ≤ k) (hk1 : k ≤ z) : Ct l G yX0_greatestSpan cX0_greatestSpan 6 (some .int) rm_X0_greatestSpan [.ref g, .int (iI fl), .int (iI k)] M (PoI G (Rd (spS z (rd fl) k) M)) 0 0 := by
  refine Ct.of (by decide +kernel) (Nat.le_of_ble_eq_true rfl) [(0, .ref g), (1, .int (iI fl)), (2, .int (iI k))] rfl ?_
  intro X B
  have hz1 := hok.1
  have hz2 := hok.2.1
  refine r_iconst B dX0_greatestSpan_0 ?_
  refine r_istore_n B (lv' := [(3, .int (iI 0)), (0, .ref g), (1, .int (iI fl)), (2, .int (iI k))]) dX0_greatestSpan_1 (by decide) rfl ?_
  refine r_iconst B dX0_greatestSpan_2 ?_
  refine r_istore B (lv' := [(4, .int (iI 0)), (3, .int (iI 0)), (0, .ref g), (1, .int (iI fl)), (2, .int (iI k))]) dX0_greatestSpan_3 (by decide) rfl ?_
  have lp1 : ∀ (nlp1 : Nat) (i : Int) (gr : Int) (hi0 : 0 ≤ i) (hi1 : i ≤ z) (hgr : gr = mxZ (spF z (rd fl) k) i.toNat), (z - i).toNat < nlp1 → WM G X 0 0 (bM X (PoI G (Rd (spS z (rd fl) k) M)) 0 0 G) M 5 [(0, .ref g), (1, .int (iI fl)), (2, .int (iI k)), (3, .int (iI gr)), (4, .int (iI i))] [] := by
    intro nlp1
    induction nlp1 with
    | zero => intro i gr hi0 hi1 hgr hm; omega
    | succ nlp1 ihlp1 =>
      intro i gr hi0 hi1 hgr hm
      have hgb := mxZ_in (f := spF z (rd fl) k) (A := 40000) (by omega) i.toNat (fun j a b => spF_in hok hf0 hf1 a (by omega) hk0 hk1)
      refine r_iload B 4 dX0_greatestSpan_5 rfl ?_
      refine r_aload_n B 0 dX0_greatestSpan_7 rfl ?_
      refine rg0_teeth B hg.1 q_41 dX0_greatestSpan_8 ?_
      refine r_vi (y := z) hA.1 ?_
      refine r_icmp_ge B dX0_greatestSpan_11 rfl ⟨by omega, by omega⟩ ⟨by omega, by omega⟩ (fun h2 => ?_) (fun h2 => ?_)
      · refine r_iload_n B 3 dX0_greatestSpan_53 rfl ?_
        exact r_iret B dX0_greatestSpan_54 ⟨by rw [hgr, show i = z by omega]; rfl, rfl⟩
      · have har := arS_in (z := z) (t := i + k) (by omega) (by omega)
        have hib := hok.ix hf0 hf1 (t := i) (by omega) (by omega)
        have hia := hok.ix hf0 hf1 (t := arS z (i + k)) (by omega) (by omega)
        refine r_aload_n B 0 dX0_greatestSpan_14 rfl ?_
        refine r_iload_n B 1 dX0_greatestSpan_15 rfl ?_
        refine r_aload_n B 0 dX0_greatestSpan_16 rfl ?_
        refine r_iload B 4 dX0_greatestSpan_17 rfl ?_
        refine r_iload_n B 2 dX0_greatestSpan_19 rfl ?_
        refine r_iadd B dX0_greatestSpan_20 ?_
        refine r_pVi1 B (c_X0_around l G M g z m rd hg hA hok (i + k) (by omega) (by omega)) ⟨rfl, rfl⟩ ok_X0_around vi_X0_around q_660 hg.1 rfl (fun _ => rfl) ⟨Nat.le_of_ble_eq_true rfl, Nat.le_of_ble_eq_true rfl, Nat.le_of_ble_eq_true rfl⟩ ⟨Nat.le_of_ble_eq_true rfl, Nat.le_of_ble_eq_true rfl⟩ dX0_greatestSpan_21 ?_
        refine r_pVi2 B (c_X0_indexAt l G M g z m rd hg hA hok fl (arS z (i + k)) (by omega) (by omega) (by omega) (by omega)) ⟨rfl, rfl⟩ ok_X0_indexAt vi_X0_indexAt q_346 hg.1 rfl (fun _ => rfl) ⟨Nat.le_of_ble_eq_true rfl, Nat.le_of_ble_eq_true rfl, Nat.le_of_ble_eq_true rfl⟩ ⟨Nat.le_of_ble_eq_true rfl, Nat.le_of_ble_eq_true rfl⟩ dX0_greatestSpan_24 ?_
        refine r_aload_n B 0 dX0_greatestSpan_27 rfl ?_
        refine r_iload_n B 1 dX0_greatestSpan_28 rfl ?_
        refine r_iload B 4 dX0_greatestSpan_29 rfl ?_
        refine r_pVi2 B (c_X0_indexAt l G M g z m rd hg hA hok fl i (by omega) (by omega) (by omega) (by omega)) ⟨rfl, rfl⟩ ok_X0_indexAt vi_X0_indexAt q_346 hg.1 rfl (fun _ => rfl) ⟨Nat.le_of_ble_eq_true rfl, Nat.le_of_ble_eq_true rfl, Nat.le_of_ble_eq_true rfl⟩ ⟨Nat.le_of_ble_eq_true rfl, Nat.le_of_ble_eq_true rfl⟩ dX0_greatestSpan_31 ?_
        refine r_isub B dX0_greatestSpan_34 ?_
        refine r_istore B (lv' := [(5, .int (iI ((ixS z (rd fl) (arS z (i + k))) - (ixS z (rd fl) i)))), (0, .ref g), (1, .int (iI fl)), (2, .int (iI k)), (3, .int (iI gr)), (4, .int (iI i))]) dX0_greatestSpan_35 (by decide) rfl ?_
        refine r_iload_n B 4 dX0_greatestSpan_37 rfl ?_
        refine r_iload B 0 dX0_greatestSpan_38 rfl ?_
        refine r_mabs B dX0_greatestSpan_40 q_361 q_362 q_15 q_363 ⟨by omega, by omega⟩ ⟨Nat.le_of_ble_eq_true rfl, Nat.le_of_ble_eq_true rfl, Nat.le_of_ble_eq_true rfl, Nat.le_of_ble_eq_true rfl⟩ ?_
        refine r_mmax B dX0_greatestSpan_43 q_364 q_365 q_15 q_366 ⟨by omega, by omega⟩ ⟨by omega, by omega⟩ ⟨Nat.le_of_ble_eq_true rfl, Nat.le_of_ble_eq_true rfl, Nat.le_of_ble_eq_true rfl, Nat.le_of_ble_eq_true rfl⟩ ?_
        refine r_istore_n B (lv' := [(3, .int (iI (max gr (max ((ixS z (rd fl) (arS z (i + k))) - (ixS z (rd fl) i)) (-((ixS z (rd fl) (arS z (i + k))) - (ixS z (rd fl) i))))))), (5, .int (iI ((ixS z (rd fl) (arS z (i + k))) - (ixS z (rd fl) i)))), (0, .ref g), (1, .int (iI fl)), (2, .int (iI k)), (4, .int (iI i))]) dX0_greatestSpan_46 (by decide) rfl ?_
        refine r_iinc B (lv' := [(4, .int (iI (i + 1))), (3, .int (iI (max gr (max ((ixS z (rd fl) (arS z (i + k))) - (ixS z (rd fl) i)) (-((ixS z (rd fl) (arS z (i + k))) - (ixS z (rd fl) i))))))), (5, .int (iI ((ixS z (rd fl) (arS z (i + k))) - (ixS z (rd fl) i)))), (0, .ref g), (1, .int (iI fl)), (2, .int (iI k))]) dX0_greatestSpan_47 (j := 5) rfl (by decide) rfl ?_
        refine r_goto B dX0_greatestSpan_50 rfl ?_
        refine WM.pick [3, 4, 5, 1, 0] rfl ?_
        exact ihlp1 (i + 1) _ (by omega) (by omega) (by rw [hgr, mxZ_s _ hi0]; rfl) (by omega)
  refine WM.pick [2, 3, 4, 1, 0] rfl ?_
  exact lp1 _ 0 0 (by omega) (by omega) rfl (Nat.lt_succ_self _)

set_option maxRecDepth 100000 in
set_option maxHeartbeats 4000000 in
theorem c_X0_thicknessRange (l : Launch) (G : Gs) (M : Mem) (g : Nat) (z m : Int) (rd : Int → Int → Int) (hg : IsGear G g) (hA : GearIs M g z m rd) (hok : GearOk z m rd) : Ct l G yX0_thicknessRange cX0_thicknessRange 5 (some .int) rm_X0_thicknessRange [.ref g] M (PoI G (Rd (thS z rd) M)) 0 0 := by
  refine Ct.of (by decide +kernel) (Nat.le_of_ble_eq_true rfl) [(0, .ref g)] rfl ?_
  intro X B
  have hz1 := hok.1
  have hz2 := hok.2.1
  refine r_aload_n B 0 dX0_thicknessRange_0 rfl ?_
  refine r_iconst B dX0_thicknessRange_1 ?_
  refine r_pVi1 B (c_X0_thicknessAt l G M g z m rd hg hA hok 0 (by omega) (by omega)) ⟨rfl, rfl⟩ ok_X0_thicknessAt vi_X0_thicknessAt q_675 hg.1 rfl (fun _ => rfl) ⟨Nat.le_of_ble_eq_true rfl, Nat.le_of_ble_eq_true rfl, Nat.le_of_ble_eq_true rfl⟩ ⟨Nat.le_of_ble_eq_true rfl, Nat.le_of_ble_eq_true rfl⟩ dX0_thicknessRange_2 ?_
  refine r_istore_n B (lv' := [(1, .int (iI (thF z rd 0))), (0, .ref g)]) dX0_thicknessRange_5 (by decide) rfl ?_
  refine r_iload_n B 0 dX0_thicknessRange_6 rfl ?_
  refine r_istore_n B (lv' := [(2, .int (iI (thF z rd 0))), (1, .int (iI (thF z rd 0))), (0, .ref g)]) dX0_thicknessRange_7 (by decide) rfl ?_
  refine r_iconst B dX0_thicknessRange_8 ?_
  refine r_istore_n B (lv' := [(3, .int (iI 1)), (2, .int (iI (thF z rd 0))), (1, .int (iI (thF z rd 0))), (0, .ref g)]) dX0_thicknessRange_9 (by decide) rfl ?_
  have lp1 : ∀ (nlp1 : Nat) (i : Int) (gr : Int) (le : Int) (hi0 : 1 ≤ i) (hi1 : i ≤ z) (hgr : gr = mxF (thF z rd) (i - 1).toNat) (hle : le = mnF (thF z rd) (i - 1).toNat), (z - i).toNat < nlp1 → WM G X 0 0 (bM X (PoI G (Rd (thS z rd) M)) 0 0 G) M 10 [(0, .ref g), (1, .int (iI gr)), (2, .int (iI le)), (3, .int (iI i))] [] := by
    intro nlp1
    induction nlp1 with
    | zero => intro i gr le hi0 hi1 hgr hle hm; omega
    | succ nlp1 ihlp1 =>
      intro i gr le hi0 hi1 hgr hle hm
      have hgb := mxF_in (f := thF z rd) (L := -40000) (A := 40000) (i - 1).toNat (fun j a b => thF_in hok a (by omega))
      have hlb := mnF_in (f := thF z rd) (L := -40000) (A := 40000) (i - 1).toNat (fun j a b => thF_in hok a (by omega))
      refine r_iload_n B 3 dX0_thicknessRange_10 rfl ?_
      refine r_aload_n B 0 dX0_thicknessRange_11 rfl ?_
      refine rg0_teeth B hg.1 q_41 dX0_thicknessRange_12 ?_
      refine r_vi (y := z) hA.1 ?_
      refine r_icmp_ge B dX0_thicknessRange_15 rfl ⟨by omega, by omega⟩ ⟨by omega, by omega⟩ (fun h2 => ?_) (fun h2 => ?_)
      · refine r_iload_n B 1 dX0_thicknessRange_45 rfl ?_
        refine r_iload_n B 2 dX0_thicknessRange_46 rfl ?_
        refine r_isub B dX0_thicknessRange_47 ?_
        exact r_iret B dX0_thicknessRange_48 ⟨by rw [hgr, hle, show i = z by omega]; rfl, rfl⟩
      · have hib := thF_in hok (i := i) (by omega) (by omega)
        refine r_aload_n B 0 dX0_thicknessRange_18 rfl ?_
        refine r_iload_n B 3 dX0_thicknessRange_19 rfl ?_
        refine r_pVi1 B (c_X0_thicknessAt l G M g z m rd hg hA hok i (by omega) (by omega)) ⟨rfl, rfl⟩ ok_X0_thicknessAt vi_X0_thicknessAt q_675 hg.1 rfl (fun _ => rfl) ⟨Nat.le_of_ble_eq_true rfl, Nat.le_of_ble_eq_true rfl, Nat.le_of_ble_eq_true rfl⟩ ⟨Nat.le_of_ble_eq_true rfl, Nat.le_of_ble_eq_true rfl⟩ dX0_thicknessRange_20 ?_
        refine r_istore B (lv' := [(4, .int (iI (thF z rd i))), (0, .ref g), (1, .int (iI gr)), (2, .int (iI le)), (3, .int (iI i))]) dX0_thicknessRange_23 (by decide) rfl ?_
        refine r_iload_n B 2 dX0_thicknessRange_25 rfl ?_
        refine r_iload B 0 dX0_thicknessRange_26 rfl ?_
        refine r_mmax B dX0_thicknessRange_28 q_364 q_365 q_15 q_366 ⟨by omega, by omega⟩ ⟨by omega, by omega⟩ ⟨Nat.le_of_ble_eq_true rfl, Nat.le_of_ble_eq_true rfl, Nat.le_of_ble_eq_true rfl, Nat.le_of_ble_eq_true rfl⟩ ?_
        refine r_istore_n B (lv' := [(1, .int (iI (max gr (thF z rd i)))), (4, .int (iI (thF z rd i))), (0, .ref g), (2, .int (iI le)), (3, .int (iI i))]) dX0_thicknessRange_31 (by decide) rfl ?_
        refine r_iload_n B 3 dX0_thicknessRange_32 rfl ?_
        refine r_iload B 1 dX0_thicknessRange_33 rfl ?_
        refine r_mmin B dX0_thicknessRange_35 q_372 q_373 q_15 q_374 ⟨by omega, by omega⟩ ⟨by omega, by omega⟩ ⟨Nat.le_of_ble_eq_true rfl, Nat.le_of_ble_eq_true rfl, Nat.le_of_ble_eq_true rfl, Nat.le_of_ble_eq_true rfl⟩ ?_
        refine r_istore_n B (lv' := [(2, .int (iI (min le (thF z rd i)))), (1, .int (iI (max gr (thF z rd i)))), (4, .int (iI (thF z rd i))), (0, .ref g), (3, .int (iI i))]) dX0_thicknessRange_38 (by decide) rfl ?_
        refine r_iinc B (lv' := [(3, .int (iI (i + 1))), (2, .int (iI (min le (thF z rd i)))), (1, .int (iI (max gr (thF z rd i)))), (4, .int (iI (thF z rd i))), (0, .ref g)]) dX0_thicknessRange_39 (j := 4) rfl (by decide) rfl ?_
        refine r_goto B dX0_thicknessRange_42 rfl ?_
        refine WM.pick [4, 2, 1, 0] rfl ?_
        exact ihlp1 (i + 1) _ _ (by omega) (by omega) (by rw [hgr, show i + 1 - 1 = i by omega, mxF_s _ hi0]) (by rw [hle, show i + 1 - 1 = i by omega, mnF_s _ hi0]) (by omega)
  refine WM.pick [3, 2, 1, 0] rfl ?_
  exact lp1 _ 1 _ _ (by omega) (by omega) rfl rfl (Nat.lt_succ_self _)

set_option maxRecDepth 100000 in
set_option maxHeartbeats 4000000 in
theorem c_X0_runout (l : Launch) (G : Gs) (M : Mem) (g : Nat) (z m : Int) (rd : Int → Int → Int) (hg : IsGear G g) (hA : GearIs M g z m rd) (hok : GearOk z m rd) : Ct l G yX0_runout cX0_runout 4 (some .int) rm_X0_runout [.ref g] M (PoI G (Rd (ruS z (rd 2)) M)) 0 0 := by
  refine Ct.of (by decide +kernel) (Nat.le_of_ble_eq_true rfl) [(0, .ref g)] rfl ?_
  intro X B
  have hz1 := hok.1
  have hz2 := hok.2.1
  refine r_aload_n B 0 dX0_runout_0 rfl ?_
  refine rg0_readings B hg.1 q_46 dX0_runout_1 ?_
  refine r_iconst B dX0_runout_4 ?_
  refine r_aaload11 B dX0_runout_5 hg.2.1 (by omega) (by omega) ?_
  refine r_iconst B dX0_runout_6 ?_
  refine r_iaload B dX0_runout_7 (hg.row (by omega) (by omega)) (by omega) (by omega) ?_
  have b_5 := hok.ra (k := 0) (by omega) (by omega)
  refine r_vi (y := rd 2 0) (hA.ra (by omega) (by omega)) ?_
  refine r_istore_n B (lv' := [(1, .int (iI (rd 2 0))), (0, .ref g)]) dX0_runout_8 (by decide) rfl ?_
  refine r_iload_n B 0 dX0_runout_9 rfl ?_
  refine r_istore_n B (lv' := [(2, .int (iI (rd 2 0))), (1, .int (iI (rd 2 0))), (0, .ref g)]) dX0_runout_10 (by decide) rfl ?_
  refine r_iconst B dX0_runout_11 ?_
  refine r_istore_n B (lv' := [(3, .int (iI 1)), (2, .int (iI (rd 2 0))), (1, .int (iI (rd 2 0))), (0, .ref g)]) dX0_runout_12 (by decide) rfl ?_
  have lp1 : ∀ (nlp1 : Nat) (i : Int) (gr : Int) (le : Int) (hi0 : 1 ≤ i) (hi1 : i ≤ z) (hgr : gr = mxF (rd 2) (i - 1).toNat) (hle : le = mnF (rd 2) (i - 1).toNat), (z - i).toNat < nlp1 → WM G X 0 0 (bM X (PoI G (Rd (ruS z (rd 2)) M)) 0 0 G) M 13 [(0, .ref g), (1, .int (iI gr)), (2, .int (iI le)), (3, .int (iI i))] [] := by
    intro nlp1
    induction nlp1 with
    | zero => intro i gr le hi0 hi1 hgr hle hm; omega
    | succ nlp1 ihlp1 =>
      intro i gr le hi0 hi1 hgr hle hm
      have hgb := mxF_in (f := rd 2) (L := -5000) (A := 5000) (i - 1).toNat (fun j a b => hok.ra a (by omega))
      have hlb := mnF_in (f := rd 2) (L := -5000) (A := 5000) (i - 1).toNat (fun j a b => hok.ra a (by omega))
      refine r_iload_n B 3 dX0_runout_13 rfl ?_
      refine r_aload_n B 0 dX0_runout_14 rfl ?_
      refine rg0_teeth B hg.1 q_41 dX0_runout_15 ?_
      refine r_vi (y := z) hA.1 ?_
      refine r_icmp_ge B dX0_runout_18 rfl ⟨by omega, by omega⟩ ⟨by omega, by omega⟩ (fun h2 => ?_) (fun h2 => ?_)
      · refine r_iload_n B 1 dX0_runout_53 rfl ?_
        refine r_iload_n B 2 dX0_runout_54 rfl ?_
        refine r_isub B dX0_runout_55 ?_
        exact r_iret B dX0_runout_56 ⟨by rw [hgr, hle, show i = z by omega]; rfl, rfl⟩
      · have hib := hok.ra (k := i) (by omega) (by omega)
        refine r_iload_n B 1 dX0_runout_21 rfl ?_
        refine r_aload_n B 0 dX0_runout_22 rfl ?_
        refine rg0_readings B hg.1 q_46 dX0_runout_23 ?_
        refine r_iconst B dX0_runout_26 ?_
        refine r_aaload11 B dX0_runout_27 hg.2.1 (by omega) (by omega) ?_
        refine r_iload_n B 3 dX0_runout_28 rfl ?_
        refine r_iaload B dX0_runout_29 (hg.row (by omega) (by omega)) (by omega) (by omega) ?_
        have b_6 := hok.ra (k := i) (by omega) (by omega)
        refine r_vi (y := rd 2 i) (hA.ra (by omega) (by omega)) ?_
        refine r_mmax B dX0_runout_30 q_364 q_365 q_15 q_366 ⟨by omega, by omega⟩ ⟨by omega, by omega⟩ ⟨Nat.le_of_ble_eq_true rfl, Nat.le_of_ble_eq_true rfl, Nat.le_of_ble_eq_true rfl, Nat.le_of_ble_eq_true rfl⟩ ?_
        refine r_istore_n B (lv' := [(1, .int (iI (max gr (rd 2 i)))), (0, .ref g), (2, .int (iI le)), (3, .int (iI i))]) dX0_runout_33 (by decide) rfl ?_
        refine r_iload_n B 2 dX0_runout_34 rfl ?_
        refine r_aload_n B 1 dX0_runout_35 rfl ?_
        refine rg0_readings B hg.1 q_46 dX0_runout_36 ?_
        refine r_iconst B dX0_runout_39 ?_
        refine r_aaload11 B dX0_runout_40 hg.2.1 (by omega) (by omega) ?_
        refine r_iload_n B 3 dX0_runout_41 rfl ?_
        refine r_iaload B dX0_runout_42 (hg.row (by omega) (by omega)) (by omega) (by omega) ?_
        have b_7 := hok.ra (k := i) (by omega) (by omega)
        refine r_vi (y := rd 2 i) (hA.ra (by omega) (by omega)) ?_
        refine r_mmin B dX0_runout_43 q_372 q_373 q_15 q_374 ⟨by omega, by omega⟩ ⟨by omega, by omega⟩ ⟨Nat.le_of_ble_eq_true rfl, Nat.le_of_ble_eq_true rfl, Nat.le_of_ble_eq_true rfl, Nat.le_of_ble_eq_true rfl⟩ ?_
        refine r_istore_n B (lv' := [(2, .int (iI (min le (rd 2 i)))), (1, .int (iI (max gr (rd 2 i)))), (0, .ref g), (3, .int (iI i))]) dX0_runout_46 (by decide) rfl ?_
        refine r_iinc B (lv' := [(3, .int (iI (i + 1))), (2, .int (iI (min le (rd 2 i)))), (1, .int (iI (max gr (rd 2 i)))), (0, .ref g)]) dX0_runout_47 (j := 3) rfl (by decide) rfl ?_
        refine r_goto B dX0_runout_50 rfl ?_
        refine WM.pick [3, 2, 1, 0] rfl ?_
        exact ihlp1 (i + 1) _ _ (by omega) (by omega) (by rw [hgr, show i + 1 - 1 = i by omega, mxF_s _ hi0]) (by rw [hle, show i + 1 - 1 = i by omega, mnF_s _ hi0]) (by omega)
  refine WM.pick [3, 2, 1, 0] rfl ?_
  exact lp1 _ 1 _ _ (by omega) (by omega) rfl rfl (Nat.lt_succ_self _)

set_option maxRecDepth 100000 in
set_option maxHeartbeats 4000000 in
theorem c_X0_greatestOpposite (l : Launch) (G : Gs) (M : Mem) (g : Nat) (z m : Int) (rd : Int → Int → Int) (hg : IsGear G g) (hA : GearIs M g z m rd) (hok : GearOk z m rd) : Ct l G yX0_greatestOpposite cX0_greatestOpposite 4 (some .int) rm_X0_greatestOpposite [.ref g] M (PoI G (Rd (opS z (rd 2)) M)) 0 0 := by
  refine Ct.of (by decide +kernel) (Nat.le_of_ble_eq_true rfl) [(0, .ref g)] rfl ?_
  intro X B
  have hz1 := hok.1
  have hz2 := hok.2.1
  refine r_iconst B dX0_greatestOpposite_0 ?_
  refine r_istore_n B (lv' := [(1, .int (iI 0)), (0, .ref g)]) dX0_greatestOpposite_1 (by decide) rfl ?_
  refine r_iconst B dX0_greatestOpposite_2 ?_
  refine r_istore_n B (lv' := [(2, .int (iI 0)), (1, .int (iI 0)), (0, .ref g)]) dX0_greatestOpposite_3 (by decide) rfl ?_
  have lp1 : ∀ (nlp1 : Nat) (i : Int) (gr : Int) (hi0 : 0 ≤ i) (hi1 : i ≤ z) (hgr : gr = mxZ (opF z (rd 2)) i.toNat), (z - i).toNat < nlp1 → WM G X 0 0 (bM X (PoI G (Rd (opS z (rd 2)) M)) 0 0 G) M 4 [(0, .ref g), (1, .int (iI gr)), (2, .int (iI i))] [] := by
    intro nlp1
    induction nlp1 with
    | zero => intro i gr hi0 hi1 hgr hm; omega
    | succ nlp1 ihlp1 =>
      intro i gr hi0 hi1 hgr hm
      have hgb := mxZ_in (f := opF z (rd 2)) (A := 10000) (by omega) i.toNat (fun j a b => opF_in hok a (by omega))
      refine r_iload_n B 2 dX0_greatestOpposite_4 rfl ?_
      refine r_aload_n B 0 dX0_greatestOpposite_5 rfl ?_
      refine rg0_teeth B hg.1 q_41 dX0_greatestOpposite_6 ?_
      refine r_vi (y := z) hA.1 ?_
      refine r_icmp_ge B dX0_greatestOpposite_9 rfl ⟨by omega, by omega⟩ ⟨by omega, by omega⟩ (fun h2 => ?_) (fun h2 => ?_)
      · refine r_iload_n B 1 dX0_greatestOpposite_56 rfl ?_
        exact r_iret B dX0_greatestOpposite_57 ⟨by rw [hgr, show i = z by omega]; rfl, rfl⟩
      · have har := arS_in (z := z) (t := i + z / 2) (by omega) (by omega)
        have hb1 := hok.ra (k := i) (by omega) (by omega)
        have hb2 := hok.ra (k := arS z (i + z / 2)) (by omega) (by omega)
        refine r_aload_n B 0 dX0_greatestOpposite_12 rfl ?_
        refine rg0_readings B hg.1 q_46 dX0_greatestOpposite_13 ?_
        refine r_iconst B dX0_greatestOpposite_16 ?_
        refine r_aaload11 B dX0_greatestOpposite_17 hg.2.1 (by omega) (by omega) ?_
        refine r_aload_n B 0 dX0_greatestOpposite_18 rfl ?_
        refine r_iload_n B 2 dX0_greatestOpposite_19 rfl ?_
        refine r_aload_n B 0 dX0_greatestOpposite_20 rfl ?_
        refine rg0_teeth B hg.1 q_41 dX0_greatestOpposite_21 ?_
        refine r_vi (y := z) hA.1 ?_
        refine r_iconst B dX0_greatestOpposite_24 ?_
        refine r_idiv B dX0_greatestOpposite_25 ⟨by omega, by omega⟩ ⟨by omega, by omega⟩ (by omega) ?_
        refine r_vi (y := z / 2) (Int.tdiv_eq_ediv_of_nonneg (by omega)) ?_
        refine r_iadd B dX0_greatestOpposite_26 ?_
        refine r_pVi1 B (c_X0_around l G M g z m rd hg hA hok (i + (z / 2)) (by omega) (by omega)) ⟨rfl, rfl⟩ ok_X0_around vi_X0_around q_660 hg.1 rfl (fun _ => rfl) ⟨Nat.le_of_ble_eq_true rfl, Nat.le_of_ble_eq_true rfl, Nat.le_of_ble_eq_true rfl⟩ ⟨Nat.le_of_ble_eq_true rfl, Nat.le_of_ble_eq_true rfl⟩ dX0_greatestOpposite_27 ?_
        refine r_iaload B dX0_greatestOpposite_30 (hg.row (by omega) (by omega)) (by omega) (by omega) ?_
        have b_8 := hok.ra (k := (arS z (i + (z / 2)))) (by omega) (by omega)
        refine r_vi (y := rd 2 (arS z (i + (z / 2)))) (hA.ra (by omega) (by omega)) ?_
        refine r_aload_n B 0 dX0_greatestOpposite_31 rfl ?_
        refine rg0_readings B hg.1 q_46 dX0_greatestOpposite_32 ?_
        refine r_iconst B dX0_greatestOpposite_35 ?_
        refine r_aaload11 B dX0_greatestOpposite_36 hg.2.1 (by omega) (by omega) ?_
        refine r_iload_n B 2 dX0_greatestOpposite_37 rfl ?_
        refine r_iaload B dX0_greatestOpposite_38 (hg.row (by omega) (by omega)) (by omega) (by omega) ?_
        have b_9 := hok.ra (k := i) (by omega) (by omega)
        refine r_vi (y := rd 2 i) (hA.ra (by omega) (by omega)) ?_
        refine r_isub B dX0_greatestOpposite_39 ?_
        refine r_istore_n B (lv' := [(3, .int (iI ((rd 2 (arS z (i + (z / 2)))) - (rd 2 i)))), (0, .ref g), (1, .int (iI gr)), (2, .int (iI i))]) dX0_greatestOpposite_40 (by decide) rfl ?_
        refine r_iload_n B 2 dX0_greatestOpposite_41 rfl ?_
        refine r_iload_n B 0 dX0_greatestOpposite_42 rfl ?_
        refine r_mabs B dX0_greatestOpposite_43 q_361 q_362 q_15 q_363 ⟨by omega, by omega⟩ ⟨Nat.le_of_ble_eq_true rfl, Nat.le_of_ble_eq_true rfl, Nat.le_of_ble_eq_true rfl, Nat.le_of_ble_eq_true rfl⟩ ?_
        refine r_mmax B dX0_greatestOpposite_46 q_364 q_365 q_15 q_366 ⟨by omega, by omega⟩ ⟨by omega, by omega⟩ ⟨Nat.le_of_ble_eq_true rfl, Nat.le_of_ble_eq_true rfl, Nat.le_of_ble_eq_true rfl, Nat.le_of_ble_eq_true rfl⟩ ?_
        refine r_istore_n B (lv' := [(1, .int (iI (max gr (max ((rd 2 (arS z (i + (z / 2)))) - (rd 2 i)) (-((rd 2 (arS z (i + (z / 2)))) - (rd 2 i))))))), (3, .int (iI ((rd 2 (arS z (i + (z / 2)))) - (rd 2 i)))), (0, .ref g), (2, .int (iI i))]) dX0_greatestOpposite_49 (by decide) rfl ?_
        refine r_iinc B (lv' := [(2, .int (iI (i + 1))), (1, .int (iI (max gr (max ((rd 2 (arS z (i + (z / 2)))) - (rd 2 i)) (-((rd 2 (arS z (i + (z / 2)))) - (rd 2 i))))))), (3, .int (iI ((rd 2 (arS z (i + (z / 2)))) - (rd 2 i)))), (0, .ref g)]) dX0_greatestOpposite_50 (j := 3) rfl (by decide) rfl ?_
        refine r_goto B dX0_greatestOpposite_53 rfl ?_
        refine WM.pick [3, 1, 0] rfl ?_
        exact ihlp1 (i + 1) _ (by omega) (by omega) (by rw [hgr, mxZ_s _ hi0]; rfl) (by omega)
  refine WM.pick [2, 1, 0] rfl ?_
  exact lp1 _ 0 0 (by omega) (by omega) rfl (Nat.lt_succ_self _)
