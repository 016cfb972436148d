set_option maxRecDepth 100000 in
set_option maxHeartbeats 4000000 in
theorem c_X6_in (l : Launch) (G : Gs) (M : Mem) (v lo hi : Int) (hv : In64 v) (hlo : In64 lo) (hhi : In64 hi) : Ct l G yX6_in cX6_in 6 (some .boolean) rm_X6_in [.long (lI v), .long (lI lo), .long (lI hi)] M (PoI G (Rd (inF v lo hi) M)) 0 0 := by
  refine Ct.of (by decide +kernel) (Nat.le_of_ble_eq_true rfl) [(0, .long (lI v)), (2, .long (lI lo)), (4, .long (lI hi))] rfl ?_
  intro X B
  obtain ⟨hv1, hv2⟩ := hv
  obtain ⟨hlo1, hlo2⟩ := hlo
  obtain ⟨hhi1, hhi2⟩ := hhi
  refine r_lload_n B 0 dX6_in_0 rfl ?_
  refine r_lload_n B 1 dX6_in_1 rfl ?_
  refine r_lcmp_lt B dX6_in_2 dX6_in_3 rfl ⟨by omega, by omega⟩ ⟨by omega, by omega⟩ (fun h1 => ?_) (fun h1 => ?_)
  · refine r_iconst B dX6_in_17 ?_
    exact r_zret B dX6_in_18 (by omega) ⟨by unfold inF; rw [if_neg (by omega)], rfl⟩
  · refine r_lload_n B 0 dX6_in_6 rfl ?_
    refine r_lload B 2 dX6_in_7 rfl ?_
    refine r_lcmp_gt B dX6_in_9 dX6_in_10 rfl ⟨by omega, by omega⟩ ⟨by omega, by omega⟩ (fun h2 => ?_) (fun h2 => ?_)
    · refine r_iconst B dX6_in_17 ?_
      exact r_zret B dX6_in_18 (by omega) ⟨by unfold inF; rw [if_neg (by omega)], rfl⟩
    · refine r_iconst B dX6_in_13 ?_
      refine r_goto B dX6_in_14 rfl ?_
      exact r_zret B dX6_in_18 (by omega) ⟨by unfold inF; rw [if_pos (by omega)], rfl⟩

set_option maxRecDepth 100000 in
set_option maxHeartbeats 4000000 in
theorem c_X6_fails (l : Launch) (G : Gs) (M : Mem) (md : Nat) (hM : IsMd G md) (k : Int) : Ct l G yX6_fails cX6_fails 2 (some .int) rm_X6_fails [.ref md, .int (iI k)] M (PoI G (fun r M' => r = 0 ∧ M' = sI M md 6 k)) 0 0 := by
  refine Ct.of (by decide +kernel) (Nat.le_of_ble_eq_true rfl) [(0, .ref md), (1, .int (iI k))] rfl ?_
  intro X B
  refine r_aload_n B 0 dX6_fails_0 rfl ?_
  refine r_iload_n B 1 dX6_fails_1 rfl ?_
  refine rp6_thrown B hM.1 q_898 dX6_fails_2 ?_
  refine WM.nm (fun M1 eM1 => ?_)
  refine r_iconst B dX6_fails_5 ?_
  exact r_iret B dX6_fails_6 ⟨rfl, eM1⟩

set_option maxRecDepth 100000 in
set_option maxHeartbeats 4000000 in
theorem c_X6_tells (l : Launch) (G : Gs) (M : Mem) (md : Nat) (hM : IsMd G md) (v : Int) : Ct l G yX6_tells cX6_tells 2 (some .int) rm_X6_tells [.ref md, .int (iI v)] M (PoI G (fun r M' => r = v ∧ M' = sI M md 6 0)) 0 0 := by
  refine Ct.of (by decide +kernel) (Nat.le_of_ble_eq_true rfl) [(0, .ref md), (1, .int (iI v))] rfl ?_
  intro X B
  refine r_aload_n B 0 dX6_tells_0 rfl ?_
  refine r_iconst B dX6_tells_1 ?_
  refine rp6_thrown B hM.1 q_898 dX6_tells_2 ?_
  refine WM.nm (fun M1 eM1 => ?_)
  refine r_iload_n B 1 dX6_tells_5 rfl ?_
  exact r_iret B dX6_tells_6 ⟨rfl, eM1⟩

set_option maxRecDepth 100000 in
set_option maxHeartbeats 4000000 in
theorem c_X6_thrown (l : Launch) (G : Gs) (M : Mem) (md : Nat) (hM : IsMd G md) (k : Int) (hk : gI M md 6 = k) : Ct l G yX6_thrown cX6_thrown 1 (some .int) rm_X6_thrown [.ref md] M (PoI G (Rd k M)) 0 0 := by
  refine Ct.of (by decide +kernel) (Nat.le_of_ble_eq_true rfl) [(0, .ref md)] rfl ?_
  intro X B
  refine r_aload_n B 0 dX6_thrown_0 rfl ?_
  refine rg6_thrown B hM.1 q_898 dX6_thrown_1 ?_
  refine r_vi (y := k) hk ?_
  exact r_iret B dX6_thrown_4 ⟨rfl, rfl⟩

set_option maxRecDepth 100000 in
set_option maxHeartbeats 4000000 in
theorem c_X6_floor (l : Launch) (G : Gs) (M : Mem) (x y : Int) (hx1 : -1000000000000000 ≤ x) (hx2 : x ≤ 1000000000000000) (hy : 0 < y) (hy2 : y ≤ 1000000000000000) : Ct l G yX6_floor cX6_floor 6 (some .long) rm_X6_floor [.long (lI x), .long (lI y)] M (PoL G (Rd (x / y) M)) 0 0 := by
  refine Ct.of (by decide +kernel) (Nat.le_of_ble_eq_true rfl) [(0, .long (lI x)), (2, .long (lI y))] rfl ?_
  intro X B
  have hd := tdiv_le_self (x := x) hy
  have hm := tdiv_mul_in (x := x) hy
  have hmt : x.tdiv y * y + x.tmod y = x := by rw [Int.mul_comm]; exact Int.mul_tdiv_add_tmod x y
  refine r_lload_n B 0 dX6_floor_0 rfl ?_
  refine r_lload_n B 1 dX6_floor_1 rfl ?_
  refine r_ldiv B dX6_floor_2 ⟨by omega, by omega⟩ ⟨by omega, by omega⟩ (by omega) ?_
  refine r_lstore B (lv' := [(4, .long (lI (x.tdiv y))), (0, .long (lI x)), (2, .long (lI y))]) dX6_floor_3 (by decide) rfl ?_
  refine r_lload_n B 1 dX6_floor_5 rfl ?_
  refine r_lload_n B 2 dX6_floor_6 rfl ?_
  refine r_lrem B dX6_floor_7 ⟨by omega, by omega⟩ ⟨by omega, by omega⟩ (by omega) ?_
  refine r_lconst0 B dX6_floor_8 ?_
  refine r_lcmp_eq B dX6_floor_9 dX6_floor_10 rfl ⟨by omega, by omega⟩ ⟨by omega, by omega⟩ (fun h1 => ?_) (fun h1 => ?_)
  · refine r_lload B 0 dX6_floor_26 rfl ?_
    exact r_lret B dX6_floor_28 ⟨by rw [floor_of_tdiv hy, if_neg (by omega)], rfl⟩
  · refine r_lload_n B 1 dX6_floor_13 rfl ?_
    refine r_lconst0 B dX6_floor_14 ?_
    refine r_lcmp_ge B dX6_floor_15 dX6_floor_16 rfl ⟨by omega, by omega⟩ ⟨by omega, by omega⟩ (fun h2 => ?_) (fun h2 => ?_)
    · refine r_lload B 0 dX6_floor_26 rfl ?_
      exact r_lret B dX6_floor_28 ⟨by rw [floor_of_tdiv hy, if_neg (by omega)], rfl⟩
    · refine r_lload B 0 dX6_floor_19 rfl ?_
      refine r_lconst1 B dX6_floor_21 ?_
      refine r_lsub B dX6_floor_22 ?_
      refine r_goto B dX6_floor_23 rfl ?_
      exact r_lret B dX6_floor_28 ⟨by rw [floor_of_tdiv hy, if_pos (by omega)], rfl⟩

set_option maxRecDepth 100000 in
set_option maxHeartbeats 4000000 in
theorem c_X6_round (l : Launch) (G : Gs) (M : Mem) (p q : Int) (hp1 : -100000000000000 ≤ p) (hp2 : p ≤ 100000000000000) (hq : 1 ≤ q) (hq2 : q ≤ 100000000000000) : Ct l G yX6_round cX6_round 4 (some .int) rm_X6_round [.long (lI p), .long (lI q)] M (PoI G (Rd (rnd p q) M)) 0 0 := by
  refine Ct.of (by decide +kernel) (Nat.le_of_ble_eq_true rfl) [(0, .long (lI p)), (2, .long (lI q))] rfl ?_
  intro X B
  refine r_ldc2 B (z := 2) dX6_round_0 q_1008 (by decide) ?_
  refine r_lload_n B 0 dX6_round_3 rfl ?_
  refine r_lmul B dX6_round_4 ?_
  refine r_lload_n B 1 dX6_round_5 rfl ?_
  refine r_ladd B dX6_round_6 ?_
  refine r_ldc2 B (z := 2) dX6_round_7 q_1008 (by decide) ?_
  refine r_lload_n B 1 dX6_round_10 rfl ?_
  refine r_lmul B dX6_round_11 ?_
  refine r_pSl2 B (c_X6_floor l G M  ((2 * p) + q) (2 * q) (by omega) (by omega) (by omega) (by omega)) ⟨rfl, rfl⟩ ok_X6_floor q_1098 q_1097 ⟨Nat.le_of_ble_eq_true rfl, Nat.le_of_ble_eq_true rfl, Nat.le_of_ble_eq_true rfl⟩ ⟨Nat.le_of_ble_eq_true rfl, Nat.le_of_ble_eq_true rfl⟩ dX6_round_12 ?_
  refine r_l2i B dX6_round_15 ?_
  exact r_iret B dX6_round_16 ⟨rfl, rfl⟩

set_option maxRecDepth 100000 in
set_option maxHeartbeats 4000000 in
theorem c_X6_size (l : Launch) (G : Gs) (M : Mem) (v : Int) (hv : In32 v) : Ct l G yX6_size cX6_size 1 (some .int) rm_X6_size [.int (iI v)] M (PoI G (Rd (absI v) M)) 0 0 := by
  refine Ct.of (by decide +kernel) (Nat.le_of_ble_eq_true rfl) [(0, .int (iI v))] rfl ?_
  intro X B
  obtain ⟨hv1, hv2⟩ := hv
  refine r_iload_n B 0 dX6_size_0 rfl ?_
  refine r_if_ge B dX6_size_1 rfl ⟨by omega, by omega⟩ (fun h1 => ?_) (fun h1 => ?_)
  · refine r_iload_n B 0 dX6_size_9 rfl ?_
    exact r_iret B dX6_size_10 ⟨by unfold absI; omega, rfl⟩
  · refine r_iload_n B 0 dX6_size_4 rfl ?_
    refine r_ineg B dX6_size_5 ?_
    refine r_goto B dX6_size_6 rfl ?_
    exact r_iret B dX6_size_10 ⟨by unfold absI; omega, rfl⟩

set_option maxRecDepth 100000 in
set_option maxHeartbeats 4000000 in
theorem c_X6_hold (l : Launch) (G : Gs) (M : Mem) (md : Nat) (hM : IsMd G md) : Ct l G yX6_hold cX6_hold 2 (none) rm_X6_hold [.ref md] M (PoV G (fun M' => (∀ k : Int, 0 ≤ k → k < 722 → gI M' (md + 3) k = gI M (md + 1) k) ∧ ∀ c : Nat, c ≠ md + 3 → Same M M' c)) 0 0 := by
  refine Ct.of (by decide +kernel) (Nat.le_of_ble_eq_true rfl) [(0, .ref md)] rfl ?_
  intro X B
  refine r_iconst B dX6_hold_0 ?_
  refine r_istore_n B (lv' := [(1, .int (iI 0)), (0, .ref md)]) dX6_hold_1 (by decide) rfl ?_
  have lp1 : ∀ (nlp1 : Nat) (i : Int) (Mc : Mem) (hi0 : 0 ≤ i) (hi1 : i ≤ 722) (hr : ∀ k : Int, 0 ≤ k → k < i → gI Mc (md + 3) k = gI M (md + 1) k) (hf : ∀ c : Nat, c ≠ md + 3 → Same M Mc c), (722 - i).toNat < nlp1 → WM G X 0 0 (bM X (PoV G (fun M' => (∀ k : Int, 0 ≤ k → k < 722 → gI M' (md + 3) k = gI M (md + 1) k) ∧ ∀ c : Nat, c ≠ md + 3 → Same M M' c)) 0 0 G) Mc 2 [(0, .ref md), (1, .int (iI i))] [] := by
    intro nlp1
    induction nlp1 with
    | zero => intro i Mc hi0 hi1 hr hf hm; omega
    | succ nlp1 ihlp1 =>
      intro i Mc hi0 hi1 hr hf hm
      refine r_iload_n B 1 dX6_hold_2 rfl ?_
      refine r_sipush B (z := 722) dX6_hold_3 (by decide) ?_
      refine r_icmp_ge B dX6_hold_6 rfl ⟨by omega, by omega⟩ ⟨by omega, by omega⟩ (fun h2 => ?_) (fun h2 => ?_)
      · exact r_vret B dX6_hold_27 ⟨fun k p q => (hr k p (by omega)), fun c p => hf c p⟩
      · refine r_aload_n B 0 dX6_hold_9 rfl ?_
        refine rg6_aside B hM.1 q_894 dX6_hold_10 ?_
        refine r_iload_n B 1 dX6_hold_13 rfl ?_
        refine r_aload_n B 0 dX6_hold_14 rfl ?_
        refine rg6_s B hM.1 q_892 dX6_hold_15 ?_
        refine r_iload_n B 1 dX6_hold_18 rfl ?_
        refine r_iaload B dX6_hold_19 hM.2.1 (by omega) (by omega) ?_
        refine r_vi (y := gI M (md + 1) i) (by rw [(hf (md + 1) (by omega)).1]) ?_
        refine r_iastore B dX6_hold_20 hM.2.2.2.1 (by omega) (by omega) ?_
        refine WM.nm (fun M3 eM3 => ?_)
        refine r_iinc B (lv' := [(1, .int (iI (i + 1))), (0, .ref md)]) dX6_hold_21 (j := 1) rfl (by decide) rfl ?_
        refine r_goto B dX6_hold_24 rfl ?_
        refine WM.pick [1, 0] rfl ?_
        refine ihlp1 (i + 1) M3 (by omega) (by omega) ?_ (fun c p => (hf c p).tr (by rw [eM3]; exact Same.sI p)) (by omega)
        · intro k p q
          rw [eM3]
          by_cases w : k = i
          · rw [w, gI_eq]
          · rw [gI_nk w]; exact hr k p (by omega)
  refine WM.pick [1, 0] rfl ?_
  exact lp1 _ 0 M (by omega) (by omega) (fun k p q => by omega) (fun c _ => Same.rf M c) (Nat.lt_succ_self _)

set_option maxRecDepth 100000 in
set_option maxHeartbeats 4000000 in
theorem c_X6_restore (l : Launch) (G : Gs) (M : Mem) (md : Nat) (hM : IsMd G md) : Ct l G yX6_restore cX6_restore 2 (none) rm_X6_restore [.ref md] M (PoV G (fun M' => (∀ k : Int, 0 ≤ k → k < 722 → gI M' (md + 1) k = gI M (md + 3) k) ∧ ∀ c : Nat, c ≠ md + 1 → Same M M' c)) 0 0 := by
  refine Ct.of (by decide +kernel) (Nat.le_of_ble_eq_true rfl) [(0, .ref md)] rfl ?_
  intro X B
  refine r_iconst B dX6_restore_0 ?_
  refine r_istore_n B (lv' := [(1, .int (iI 0)), (0, .ref md)]) dX6_restore_1 (by decide) rfl ?_
  have lp1 : ∀ (nlp1 : Nat) (i : Int) (Mc : Mem) (hi0 : 0 ≤ i) (hi1 : i ≤ 722) (hr : ∀ k : Int, 0 ≤ k → k < i → gI Mc (md + 1) k = gI M (md + 3) k) (hf : ∀ c : Nat, c ≠ md + 1 → Same M Mc c), (722 - i).toNat < nlp1 → WM G X 0 0 (bM X (PoV G (fun M' => (∀ k : Int, 0 ≤ k → k < 722 → gI M' (md + 1) k = gI M (md + 3) k) ∧ ∀ c : Nat, c ≠ md + 1 → Same M M' c)) 0 0 G) Mc 2 [(0, .ref md), (1, .int (iI i))] [] := by
    intro nlp1
    induction nlp1 with
    | zero => intro i Mc hi0 hi1 hr hf hm; omega
    | succ nlp1 ihlp1 =>
      intro i Mc hi0 hi1 hr hf hm
      refine r_iload_n B 1 dX6_restore_2 rfl ?_
      refine r_sipush B (z := 722) dX6_restore_3 (by decide) ?_
      refine r_icmp_ge B dX6_restore_6 rfl ⟨by omega, by omega⟩ ⟨by omega, by omega⟩ (fun h2 => ?_) (fun h2 => ?_)
      · exact r_vret B dX6_restore_27 ⟨fun k p q => (hr k p (by omega)), fun c p => hf c p⟩
      · refine r_aload_n B 0 dX6_restore_9 rfl ?_
        refine rg6_s B hM.1 q_892 dX6_restore_10 ?_
        refine r_iload_n B 1 dX6_restore_13 rfl ?_
        refine r_aload_n B 0 dX6_restore_14 rfl ?_
        refine rg6_aside B hM.1 q_894 dX6_restore_15 ?_
        refine r_iload_n B 1 dX6_restore_18 rfl ?_
        refine r_iaload B dX6_restore_19 hM.2.2.2.1 (by omega) (by omega) ?_
        refine r_vi (y := gI M (md + 3) i) (by rw [(hf (md + 3) (by omega)).1]) ?_
        refine r_iastore B dX6_restore_20 hM.2.1 (by omega) (by omega) ?_
        refine WM.nm (fun M3 eM3 => ?_)
        refine r_iinc B (lv' := [(1, .int (iI (i + 1))), (0, .ref md)]) dX6_restore_21 (j := 1) rfl (by decide) rfl ?_
        refine r_goto B dX6_restore_24 rfl ?_
        refine WM.pick [1, 0] rfl ?_
        refine ihlp1 (i + 1) M3 (by omega) (by omega) ?_ (fun c p => (hf c p).tr (by rw [eM3]; exact Same.sI p)) (by omega)
        · intro k p q
          rw [eM3]
          by_cases w : k = i
          · rw [w, gI_eq]
          · rw [gI_nk w]; exact hr k p (by omega)
  refine WM.pick [1, 0] rfl ?_
  exact lp1 _ 0 M (by omega) (by omega) (fun k p q => by omega) (fun c _ => Same.rf M c) (Nat.lt_succ_self _)

set_option maxRecDepth 100000 in
set_option maxHeartbeats 4000000 in
theorem c_X6_teeth (l : Launch) (G : Gs) (M : Mem) (md : Nat) (hM : IsMd G md) (ge : Int) (h0 : 0 ≤ ge) (h1 : ge < 6) : Ct l G yX6_teeth cX6_teeth 2 (some .int) rm_X6_teeth [.ref md, .int (iI ge)] M (PoI G (Rd (gI M (md + 1) (1 + 95 * ge)) M)) 0 0 := by
  refine Ct.of (by decide +kernel) (Nat.le_of_ble_eq_true rfl) [(0, .ref md), (1, .int (iI ge))] rfl ?_
  intro X B
  refine r_aload_n B 0 dX6_teeth_0 rfl ?_
  refine rg6_s B hM.1 q_892 dX6_teeth_1 ?_
  refine r_iconst B dX6_teeth_4 ?_
  refine r_bipush B (z := 95) dX6_teeth_5 (by decide) ?_
  refine r_iload_n B 1 dX6_teeth_7 rfl ?_
  refine r_imul B dX6_teeth_8 ?_
  refine r_iadd B dX6_teeth_9 ?_
  refine r_iaload B dX6_teeth_10 hM.2.1 (by omega) (by omega) ?_
  exact r_iret B dX6_teeth_11 ⟨rfl, rfl⟩

set_option maxRecDepth 100000 in
set_option maxHeartbeats 4000000 in
theorem c_X6_moduleOf (l : Launch) (G : Gs) (M : Mem) (md : Nat) (hM : IsMd G md) (ge : Int) (h0 : 0 ≤ ge) (h1 : ge < 6) : Ct l G yX6_moduleOf cX6_moduleOf 2 (some .int) rm_X6_moduleOf [.ref md, .int (iI ge)] M (PoI G (Rd (gI M (md + 1) (1 + 95 * ge + 1)) M)) 0 0 := by
  refine Ct.of (by decide +kernel) (Nat.le_of_ble_eq_true rfl) [(0, .ref md), (1, .int (iI ge))] rfl ?_
  intro X B
  refine r_aload_n B 0 dX6_moduleOf_0 rfl ?_
  refine rg6_s B hM.1 q_892 dX6_moduleOf_1 ?_
  refine r_iconst B dX6_moduleOf_4 ?_
  refine r_bipush B (z := 95) dX6_moduleOf_5 (by decide) ?_
  refine r_iload_n B 1 dX6_moduleOf_7 rfl ?_
  refine r_imul B dX6_moduleOf_8 ?_
  refine r_iadd B dX6_moduleOf_9 ?_
  refine r_iconst B dX6_moduleOf_10 ?_
  refine r_iadd B dX6_moduleOf_11 ?_
  refine r_iaload B dX6_moduleOf_12 hM.2.1 (by omega) (by omega) ?_
  exact r_iret B dX6_moduleOf_13 ⟨rfl, rfl⟩

set_option maxRecDepth 100000 in
set_option maxHeartbeats 4000000 in
theorem c_X6_placeOf (l : Launch) (G : Gs) (M : Mem) (ge se k : Int) : Ct l G yX6_placeOf cX6_placeOf 3 (some .int) rm_X6_placeOf [.int (iI ge), .int (iI se), .int (iI k)] M (PoI G (Rd (1 + 95 * ge + 2 + 31 * se + k) M)) 0 0 := by
  refine Ct.of (by decide +kernel) (Nat.le_of_ble_eq_true rfl) [(0, .int (iI ge)), (1, .int (iI se)), (2, .int (iI k))] rfl ?_
  intro X B
  refine r_iconst B dX6_placeOf_0 ?_
  refine r_bipush B (z := 95) dX6_placeOf_1 (by decide) ?_
  refine r_iload_n B 0 dX6_placeOf_3 rfl ?_
  refine r_imul B dX6_placeOf_4 ?_
  refine r_iadd B dX6_placeOf_5 ?_
  refine r_iconst B dX6_placeOf_6 ?_
  refine r_iadd B dX6_placeOf_7 ?_
  refine r_bipush B (z := 31) dX6_placeOf_8 (by decide) ?_
  refine r_iload_n B 1 dX6_placeOf_10 rfl ?_
  refine r_imul B dX6_placeOf_11 ?_
  refine r_iadd B dX6_placeOf_12 ?_
  refine r_iload_n B 2 dX6_placeOf_13 rfl ?_
  refine r_iadd B dX6_placeOf_14 ?_
  exact r_iret B dX6_placeOf_15 ⟨rfl, rfl⟩

set_option maxRecDepth 100000 in
set_option maxHeartbeats 4000000 in
theorem c_X6_readingOf (l : Launch) (G : Gs) (M : Mem) (md : Nat) (hM : IsMd G md) (ge se k : Int) (h0 : 0 ≤ ge) (h1 : ge < 6) (s0 : 0 ≤ se) (s1 : se < 3) (k0 : 0 ≤ k) (k1 : k < 31) : Ct l G yX6_readingOf cX6_readingOf 4 (some .int) rm_X6_readingOf [.ref md, .int (iI ge), .int (iI se), .int (iI k)] M (PoI G (Rd (gI M (md + 1) (1 + 95 * ge + 2 + 31 * se + k)) M)) 0 0 := by
  refine Ct.of (by decide +kernel) (Nat.le_of_ble_eq_true rfl) [(0, .ref md), (1, .int (iI ge)), (2, .int (iI se)), (3, .int (iI k))] rfl ?_
  intro X B
  refine r_aload_n B 0 dX6_readingOf_0 rfl ?_
  refine rg6_s B hM.1 q_892 dX6_readingOf_1 ?_
  refine r_iload_n B 1 dX6_readingOf_4 rfl ?_
  refine r_iload_n B 2 dX6_readingOf_5 rfl ?_
  refine r_iload_n B 3 dX6_readingOf_6 rfl ?_
  refine r_pSi3 B (c_X6_placeOf l G M  ge se k ) ⟨rfl, rfl⟩ ok_X6_placeOf q_1027 q_1026 ⟨Nat.le_of_ble_eq_true rfl, Nat.le_of_ble_eq_true rfl, Nat.le_of_ble_eq_true rfl⟩ ⟨Nat.le_of_ble_eq_true rfl, Nat.le_of_ble_eq_true rfl⟩ dX6_readingOf_7 ?_
  refine r_iaload B dX6_readingOf_10 hM.2.1 (by omega) (by omega) ?_
  exact r_iret B dX6_readingOf_11 ⟨rfl, rfl⟩

set_option maxRecDepth 100000 in
set_option maxHeartbeats 4000000 in
theorem c_X6_of (l : Launch) (G : Gs) (M : Mem) (md : Nat) (hM : IsMd G md) (li w : Int) (h0 : 0 ≤ li) (h1 : li < 10) (w0 : 0 ≤ w) (w1 : w < 15) : Ct l G yX6_of cX6_of 3 (some .int) rm_X6_of [.ref md, .int (iI li), .int (iI w)] M (PoI G (Rd (gI M (md + 1) (572 + 15 * li + w)) M)) 0 0 := by
  refine Ct.of (by decide +kernel) (Nat.le_of_ble_eq_true rfl) [(0, .ref md), (1, .int (iI li)), (2, .int (iI w))] rfl ?_
  intro X B
  refine r_aload_n B 0 dX6_of_0 rfl ?_
  refine rg6_s B hM.1 q_892 dX6_of_1 ?_
  refine r_sipush B (z := 572) dX6_of_4 (by decide) ?_
  refine r_bipush B (z := 15) dX6_of_7 (by decide) ?_
  refine r_iload_n B 1 dX6_of_9 rfl ?_
  refine r_imul B dX6_of_10 ?_
  refine r_iadd B dX6_of_11 ?_
  refine r_iload_n B 2 dX6_of_12 rfl ?_
  refine r_iadd B dX6_of_13 ?_
  refine r_iaload B dX6_of_14 hM.2.1 (by omega) (by omega) ?_
  exact r_iret B dX6_of_15 ⟨rfl, rfl⟩

set_option maxRecDepth 100000 in
set_option maxHeartbeats 4000000 in
theorem c_X6_isSize (l : Launch) (G : Gs) (M : Mem) (t m : Int) (ht : In32 t) (hm : In32 m) : Ct l G yX6_isSize cX6_isSize 2 (some .boolean) rm_X6_isSize [.int (iI t), .int (iI m)] M (PoI G (Rd (szF t m) M)) 0 0 := by
  refine Ct.of (by decide +kernel) (Nat.le_of_ble_eq_true rfl) [(0, .int (iI t)), (1, .int (iI m))] rfl ?_
  intro X B
  obtain ⟨ht1, ht2⟩ := ht
  obtain ⟨hm1, hm2⟩ := hm
  have hit := inF_in t 5 30
  have him := inF_in m 1 20
  refine r_iload_n B 0 dX6_isSize_0 rfl ?_
  refine r_i2l B dX6_isSize_1 ⟨by omega, by omega⟩ ?_
  refine r_ldc2 B (z := 5) dX6_isSize_2 q_958 (by decide) ?_
  refine r_ldc2 B (z := 30) dX6_isSize_5 q_959 (by decide) ?_
  refine r_pSz3 B (c_X6_in l G M  t 5 30 ⟨by omega, by omega⟩ ⟨by omega, by omega⟩ ⟨by omega, by omega⟩) ⟨rfl, rfl⟩ ok_X6_in q_961 q_960 ⟨Nat.le_of_ble_eq_true rfl, Nat.le_of_ble_eq_true rfl, Nat.le_of_ble_eq_true rfl⟩ ⟨Nat.le_of_ble_eq_true rfl, Nat.le_of_ble_eq_true rfl⟩ dX6_isSize_8 ?_
  refine r_if_eq B dX6_isSize_11 rfl ⟨by omega, by omega⟩ (fun h1 => ?_) (fun h1 => ?_)
  · refine r_iconst B dX6_isSize_30 ?_
    exact r_zret B dX6_isSize_31 (by omega) ⟨by unfold szF; rw [if_neg (fun z => by have w2 := inF_0 (v := t) (lo := 5) (hi := 30) (by omega); unfold isG at z; omega)], rfl⟩
  · refine r_iload_n B 1 dX6_isSize_14 rfl ?_
    refine r_i2l B dX6_isSize_15 ⟨by omega, by omega⟩ ?_
    refine r_lconst1 B dX6_isSize_16 ?_
    refine r_ldc2 B (z := 20) dX6_isSize_17 q_963 (by decide) ?_
    refine r_pSz3 B (c_X6_in l G M  m 1 20 ⟨by omega, by omega⟩ ⟨by omega, by omega⟩ ⟨by omega, by omega⟩) ⟨rfl, rfl⟩ ok_X6_in q_961 q_960 ⟨Nat.le_of_ble_eq_true rfl, Nat.le_of_ble_eq_true rfl, Nat.le_of_ble_eq_true rfl⟩ ⟨Nat.le_of_ble_eq_true rfl, Nat.le_of_ble_eq_true rfl⟩ dX6_isSize_20 ?_
    refine r_if_eq B dX6_isSize_23 rfl ⟨by omega, by omega⟩ (fun h2 => ?_) (fun h2 => ?_)
    · refine r_iconst B dX6_isSize_30 ?_
      exact r_zret B dX6_isSize_31 (by omega) ⟨by unfold szF; rw [if_neg (fun z => by have w2 := inF_0 (v := m) (lo := 1) (hi := 20) (by omega); unfold isG at z; omega)], rfl⟩
    · refine r_iconst B dX6_isSize_26 ?_
      refine r_goto B dX6_isSize_27 rfl ?_
      exact r_zret B dX6_isSize_31 (by omega) ⟨by unfold szF; rw [if_pos (by have w1 := inF_1 (v := t) (lo := 5) (hi := 30) (by omega); have w2 := inF_1 (v := m) (lo := 1) (hi := 20) (by omega); unfold isG; omega)], rfl⟩

set_option maxRecDepth 100000 in
set_option maxHeartbeats 4000000 in
theorem c_X6_isValue (l : Launch) (G : Gs) (M : Mem) (v : Int) (hv : In32 v) : Ct l G yX6_isValue cX6_isValue 1 (some .boolean) rm_X6_isValue [.int (iI v)] M (PoI G (Rd (inF v (-5000) 5000) M)) 0 0 := by
  refine Ct.of (by decide +kernel) (Nat.le_of_ble_eq_true rfl) [(0, .int (iI v))] rfl ?_
  intro X B
  obtain ⟨hv1, hv2⟩ := hv
  have hi := inF_in v (-5000) 5000
  refine r_iload_n B 0 dX6_isValue_0 rfl ?_
  refine r_i2l B dX6_isValue_1 ⟨by omega, by omega⟩ ?_
  refine r_ldc2 B (z := (-5000)) dX6_isValue_2 q_1020 (by decide) ?_
  refine r_ldc2 B (z := 5000) dX6_isValue_5 q_1021 (by decide) ?_
  refine r_pSz3 B (c_X6_in l G M  v (-5000) 5000 ⟨by omega, by omega⟩ ⟨by omega, by omega⟩ ⟨by omega, by omega⟩) ⟨rfl, rfl⟩ ok_X6_in q_961 q_960 ⟨Nat.le_of_ble_eq_true rfl, Nat.le_of_ble_eq_true rfl, Nat.le_of_ble_eq_true rfl⟩ ⟨Nat.le_of_ble_eq_true rfl, Nat.le_of_ble_eq_true rfl⟩ dX6_isValue_8 ?_
  exact r_zret B dX6_isValue_11 (by omega) ⟨rfl, rfl⟩

set_option maxRecDepth 100000 in
set_option maxHeartbeats 4000000 in
theorem c_X6_isGear (l : Launch) (G : Gs) (M : Mem) (md : Nat) (hM : IsMd G md) (s : Ast) (hS_M : MdS M md s) (hok : StateOk s) (ge : Int) (hge : In32 ge) : Ct l G yX6_isGear cX6_isGear 2 (some .boolean) rm_X6_isGear [.ref md, .int (iI ge)] M (PoI G (Rd (inF ge 0 (s.1 - 1)) M)) 0 0 := by
  refine Ct.of (by decide +kernel) (Nat.le_of_ble_eq_true rfl) [(0, .ref md), (1, .int (iI ge))] rfl ?_
  intro X B
  have hs1 := hok.1
  have hs2 := hok.2.1
  have hs3 := hok.2.2.1
  have hs4 := hok.2.2.2.1
  have hF_M : FL M M md := FL.rf
  obtain ⟨hge1, hge2⟩ := hge
  have hi := inF_in ge 0 (s.1 - 1)
  refine r_iload_n B 1 dX6_isGear_0 rfl ?_
  refine r_i2l B dX6_isGear_1 ⟨by omega, by omega⟩ ?_
  refine r_lconst0 B dX6_isGear_2 ?_
  refine r_aload_n B 0 dX6_isGear_3 rfl ?_
  refine rg6_s B hM.1 q_892 dX6_isGear_4 ?_
  refine r_iconst B dX6_isGear_7 ?_
  refine r_iaload B dX6_isGear_8 hM.2.1 (by omega) (by omega) ?_
  refine r_vi (y := s.1) hS_M.1 ?_
  refine r_iconst B dX6_isGear_9 ?_
  refine r_isub B dX6_isGear_10 ?_
  refine r_i2l B dX6_isGear_11 ⟨by omega, by omega⟩ ?_
  refine r_pSz3 B (c_X6_in l G M  ge 0 (s.1 - 1) ⟨by omega, by omega⟩ ⟨by omega, by omega⟩ ⟨by omega, by omega⟩) ⟨rfl, rfl⟩ ok_X6_in q_961 q_960 ⟨Nat.le_of_ble_eq_true rfl, Nat.le_of_ble_eq_true rfl, Nat.le_of_ble_eq_true rfl⟩ ⟨Nat.le_of_ble_eq_true rfl, Nat.le_of_ble_eq_true rfl⟩ dX6_isGear_12 ?_
  exact r_zret B dX6_isGear_15 (by omega) ⟨rfl, rfl⟩

set_option maxRecDepth 100000 in
set_option maxHeartbeats 4000000 in
theorem c_X6_isLine (l : Launch) (G : Gs) (M : Mem) (md : Nat) (hM : IsMd G md) (s : Ast) (hS_M : MdS M md s) (hok : StateOk s) (li : Int) (hli : In32 li) : Ct l G yX6_isLine cX6_isLine 2 (some .boolean) rm_X6_isLine [.ref md, .int (iI li)] M (PoI G (Rd (inF li 0 (s.2.1 - 1)) M)) 0 0 := by
  refine Ct.of (by decide +kernel) (Nat.le_of_ble_eq_true rfl) [(0, .ref md), (1, .int (iI li))] rfl ?_
  intro X B
  have hs1 := hok.1
  have hs2 := hok.2.1
  have hs3 := hok.2.2.1
  have hs4 := hok.2.2.2.1
  have hF_M : FL M M md := FL.rf
  obtain ⟨hli1, hli2⟩ := hli
  have hi := inF_in li 0 (s.2.1 - 1)
  refine r_iload_n B 1 dX6_isLine_0 rfl ?_
  refine r_i2l B dX6_isLine_1 ⟨by omega, by omega⟩ ?_
  refine r_lconst0 B dX6_isLine_2 ?_
  refine r_aload_n B 0 dX6_isLine_3 rfl ?_
  refine rg6_s B hM.1 q_892 dX6_isLine_4 ?_
  refine r_sipush B (z := 571) dX6_isLine_7 (by decide) ?_
  refine r_iaload B dX6_isLine_10 hM.2.1 (by omega) (by omega) ?_
  refine r_vi (y := s.2.1) hS_M.2.1 ?_
  refine r_iconst B dX6_isLine_11 ?_
  refine r_isub B dX6_isLine_12 ?_
  refine r_i2l B dX6_isLine_13 ⟨by omega, by omega⟩ ?_
  refine r_pSz3 B (c_X6_in l G M  li 0 (s.2.1 - 1) ⟨by omega, by omega⟩ ⟨by omega, by omega⟩ ⟨by omega, by omega⟩) ⟨rfl, rfl⟩ ok_X6_in q_961 q_960 ⟨Nat.le_of_ble_eq_true rfl, Nat.le_of_ble_eq_true rfl, Nat.le_of_ble_eq_true rfl⟩ ⟨Nat.le_of_ble_eq_true rfl, Nat.le_of_ble_eq_true rfl⟩ dX6_isLine_14 ?_
  exact r_zret B dX6_isLine_17 (by omega) ⟨rfl, rfl⟩

set_option maxRecDepth 100000 in
set_option maxHeartbeats 4000000 in
theorem c_X6_longOf (l : Launch) (G : Gs) (M : Mem) (md : Nat) (hM : IsMd G md) (s : Ast) (hS_M : MdS M md s) (hok : StateOk s) (ge se : Int) (h0 : 0 ≤ ge) (h1 : ge < s.1) (s0 : 0 ≤ se) (s1 : se < 3) : Ct l G yX6_longOf cX6_longOf 3 (some .int) rm_X6_longOf [.ref md, .int (iI ge), .int (iI se)] M (PoI G (Rd (szS (s.2.2.1 ge).1 se) M)) 0 0 := by
  refine Ct.of (by decide +kernel) (Nat.le_of_ble_eq_true rfl) [(0, .ref md), (1, .int (iI ge)), (2, .int (iI se))] rfl ?_
  intro X B
  have hs1 := hok.1
  have hs2 := hok.2.1
  have hs3 := hok.2.2.1
  have hs4 := hok.2.2.2.1
  have hF_M : FL M M md := FL.rf
  refine r_iload_n B 2 dX6_longOf_0 rfl ?_
  refine r_iconst B dX6_longOf_1 ?_
  refine r_icmp_ne B dX6_longOf_2 rfl ⟨by omega, by omega⟩ ⟨by omega, by omega⟩ (fun h1 => ?_) (fun h1 => ?_)
  · refine r_aload_n B 0 dX6_longOf_13 rfl ?_
    refine r_iload_n B 1 dX6_longOf_14 rfl ?_
    refine r_pVi1 B (c_X6_teeth l G M md hM ge (by omega) (by omega)) ⟨rfl, rfl⟩ ok_X6_teeth vi_X6_teeth q_1013 hM.1 rfl (fun _ => rfl) ⟨Nat.le_of_ble_eq_true rfl, Nat.le_of_ble_eq_true rfl, Nat.le_of_ble_eq_true rfl⟩ ⟨Nat.le_of_ble_eq_true rfl, Nat.le_of_ble_eq_true rfl⟩ dX6_longOf_15 ?_
    refine r_vi (y := (s.2.2.1 ge).1) (hS_M.2.2.1 ge (by omega) (by omega)).1 ?_
    refine r_iconst B dX6_longOf_18 ?_
    refine r_iadd B dX6_longOf_19 ?_
    exact r_iret B dX6_longOf_20 ⟨by unfold szS; rw [if_neg h1], rfl⟩
  · refine r_aload_n B 0 dX6_longOf_5 rfl ?_
    refine r_iload_n B 1 dX6_longOf_6 rfl ?_
    refine r_pVi1 B (c_X6_teeth l G M md hM ge (by omega) (by omega)) ⟨rfl, rfl⟩ ok_X6_teeth vi_X6_teeth q_1013 hM.1 rfl (fun _ => rfl) ⟨Nat.le_of_ble_eq_true rfl, Nat.le_of_ble_eq_true rfl, Nat.le_of_ble_eq_true rfl⟩ ⟨Nat.le_of_ble_eq_true rfl, Nat.le_of_ble_eq_true rfl⟩ dX6_longOf_7 ?_
    refine r_vi (y := (s.2.2.1 ge).1) (hS_M.2.2.1 ge (by omega) (by omega)).1 ?_
    refine r_goto B dX6_longOf_10 rfl ?_
    exact r_iret B dX6_longOf_20 ⟨by unfold szS; rw [if_pos h1], rfl⟩

set_option maxRecDepth 100000 in
set_option maxHeartbeats 4000000 in
theorem c_X6_closing (l : Launch) (G : Gs) (M : Mem) (md : Nat) (hM : IsMd G md) (s : Ast) (hS_M : MdS M md s) (hok : StateOk s) (ge fl : Int) (h0 : 0 ≤ ge) (h1 : ge < s.1) (f0 : 0 ≤ fl) (f1 : fl < 2) : Ct l G yX6_closing cX6_closing 3 (some .int) rm_X6_closing [.ref md, .int (iI ge), .int (iI fl)] M (PoI G (Rd ((s.2.2.1 ge).2.2 fl (s.2.2.1 ge).1 - (s.2.2.1 ge).2.2 fl 0) M)) 0 0 := by
  refine Ct.of (by decide +kernel) (Nat.le_of_ble_eq_true rfl) [(0, .ref md), (1, .int (iI ge)), (2, .int (iI fl))] rfl ?_
  intro X B
  have hs1 := hok.1
  have hs2 := hok.2.1
  have hs3 := hok.2.2.1
  have hs4 := hok.2.2.2.1
  have hF_M : FL M M md := FL.rf
  have hgk := hok.2.2.2.2.1 ge (by omega) (by omega)
  obtain ⟨hgk1, hgk2, hgk3, hgk4, hgk5⟩ := id hgk
  have hz0 : szS (s.2.2.1 ge).1 fl = (s.2.2.1 ge).1 + 1 := by unfold szS; rw [if_neg (by omega)]
  refine r_aload_n B 0 dX6_closing_0 rfl ?_
  refine r_iload_n B 1 dX6_closing_1 rfl ?_
  refine r_iload_n B 2 dX6_closing_2 rfl ?_
  refine r_aload_n B 0 dX6_closing_3 rfl ?_
  refine r_iload_n B 1 dX6_closing_4 rfl ?_
  refine r_pVi1 B (c_X6_teeth l G M md hM ge (by omega) (by omega)) ⟨rfl, rfl⟩ ok_X6_teeth vi_X6_teeth q_1013 hM.1 rfl (fun _ => rfl) ⟨Nat.le_of_ble_eq_true rfl, Nat.le_of_ble_eq_true rfl, Nat.le_of_ble_eq_true rfl⟩ ⟨Nat.le_of_ble_eq_true rfl, Nat.le_of_ble_eq_true rfl⟩ dX6_closing_5 ?_
  refine r_vi (y := (s.2.2.1 ge).1) (hS_M.2.2.1 ge (by omega) (by omega)).1 ?_
  refine r_pVi3 B (c_X6_readingOf l G M md hM ge fl ((s.2.2.1 ge).1) (by omega) (by omega) (by omega) (by omega) (by omega) (by omega)) ⟨rfl, rfl⟩ ok_X6_readingOf vi_X6_readingOf q_1022 hM.1 rfl (fun _ => rfl) ⟨Nat.le_of_ble_eq_true rfl, Nat.le_of_ble_eq_true rfl, Nat.le_of_ble_eq_true rfl⟩ ⟨Nat.le_of_ble_eq_true rfl, Nat.le_of_ble_eq_true rfl⟩ dX6_closing_8 ?_
  refine r_vi (y := (s.2.2.1 ge).2.2 fl ((s.2.2.1 ge).1)) ((hS_M.2.2.1 ge (by omega) (by omega)).2.2 fl ((s.2.2.1 ge).1) (by omega) (by omega) (by omega) (by omega)) ?_
  refine r_aload_n B 0 dX6_closing_11 rfl ?_
  refine r_iload_n B 1 dX6_closing_12 rfl ?_
  refine r_iload_n B 2 dX6_closing_13 rfl ?_
  refine r_iconst B dX6_closing_14 ?_
  refine r_pVi3 B (c_X6_readingOf l G M md hM ge fl 0 (by omega) (by omega) (by omega) (by omega) (by omega) (by omega)) ⟨rfl, rfl⟩ ok_X6_readingOf vi_X6_readingOf q_1022 hM.1 rfl (fun _ => rfl) ⟨Nat.le_of_ble_eq_true rfl, Nat.le_of_ble_eq_true rfl, Nat.le_of_ble_eq_true rfl⟩ ⟨Nat.le_of_ble_eq_true rfl, Nat.le_of_ble_eq_true rfl⟩ dX6_closing_15 ?_
  refine r_vi (y := (s.2.2.1 ge).2.2 fl 0) ((hS_M.2.2.1 ge (by omega) (by omega)).2.2 fl 0 (by omega) (by omega) (by omega) (by omega)) ?_
  refine r_isub B dX6_closing_18 ?_
  exact r_iret B dX6_closing_19 ⟨rfl, rfl⟩
