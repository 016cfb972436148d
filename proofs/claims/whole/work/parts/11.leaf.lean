set_option maxRecDepth 100000 in
set_option maxHeartbeats 4000000 in
/-- Math.floorDiv -/
theorem c_J9_floorDiv_f86c9 (l : Launch) (G : Gs) (M : Mem) (x y : Int) (hx1 : -1000000000000000 ≤ x) (hx2 : x ≤ 1000000000000000) (hy : 0 < y) (hy2 : y ≤ 1000000000000000) : Ct l G yJ9_floorDiv_f86c9 cJ9_floorDiv_f86c9 6 (some .long) rm_J9_floorDiv_f86c9 [.long (lI x), .long (lI y)] M (PoL G (Rd (x / y) M)) 0 0 := by
  refine Ct.of (by decide +kernel) (Nat.le_of_ble_eq_true rfl) [(0, .long (lI x)), (2, .long (lI y))] rfl ?_
  intro X B
  have hb := lxI_in x y
  have hd := tdiv_le_self (x := x) hy
  have hm := tdiv_mul_in (x := x) hy
  refine r_lload_n B 0 dJ9_floorDiv_f86c9_0 rfl ?_
  refine r_lload_n B 1 dJ9_floorDiv_f86c9_1 rfl ?_
  refine r_ldiv B dJ9_floorDiv_f86c9_2 ⟨by omega, by omega⟩ ⟨by omega, by omega⟩ (by omega) ?_
  refine r_lstore B (lv' := [(4, .long (lI (x.tdiv y))), (0, .long (lI x)), (2, .long (lI y))]) dJ9_floorDiv_f86c9_3 (by decide) rfl ?_
  refine r_lload_n B 1 dJ9_floorDiv_f86c9_5 rfl ?_
  refine r_lload_n B 2 dJ9_floorDiv_f86c9_6 rfl ?_
  refine r_lxor B dJ9_floorDiv_f86c9_7 ?_
  refine r_lconst0 B dJ9_floorDiv_f86c9_8 ?_
  refine r_lcmp_ge B dJ9_floorDiv_f86c9_9 dJ9_floorDiv_f86c9_10 rfl ⟨by omega, by omega⟩ ⟨by omega, by omega⟩ (fun h1 => ?_) (fun h1 => ?_)
  · refine r_lload B 0 dJ9_floorDiv_f86c9_27 rfl ?_
    exact r_lret B dJ9_floorDiv_f86c9_29 ⟨by rw [floor_of_tdiv hy, if_neg (fun q => by have := (lxI_neg (x := x) (y := y) ⟨by omega, by omega⟩ ⟨by omega, by omega⟩); omega)], rfl⟩
  · have hxn := (lxI_neg (x := x) (y := y) ⟨by omega, by omega⟩ ⟨by omega, by omega⟩)
    have hx0 : x < 0 := by omega
    refine r_lload B 0 dJ9_floorDiv_f86c9_13 rfl ?_
    refine r_lload_n B 2 dJ9_floorDiv_f86c9_15 rfl ?_
    refine r_lmul B dJ9_floorDiv_f86c9_16 ?_
    refine r_lload_n B 1 dJ9_floorDiv_f86c9_17 rfl ?_
    refine r_lcmp_eq B dJ9_floorDiv_f86c9_18 dJ9_floorDiv_f86c9_19 rfl ⟨by omega, by omega⟩ ⟨by omega, by omega⟩ (fun h2 => ?_) (fun h2 => ?_)
    · refine r_lload B 0 dJ9_floorDiv_f86c9_27 rfl ?_
      exact r_lret B dJ9_floorDiv_f86c9_29 ⟨by rw [floor_of_tdiv hy, if_neg (fun q => q.2 h2)], rfl⟩
    · refine r_lload B 0 dJ9_floorDiv_f86c9_22 rfl ?_
      refine r_lconst1 B dJ9_floorDiv_f86c9_24 ?_
      refine r_lsub B dJ9_floorDiv_f86c9_25 ?_
      exact r_lret B dJ9_floorDiv_f86c9_26 ⟨by rw [floor_of_tdiv hy, if_pos ⟨hx0, h2⟩], rfl⟩

set_option maxRecDepth 100000 in
set_option maxHeartbeats 4000000 in
/-- GearGauge.rounded -/
theorem c_X5_rounded (l : Launch) (G : Gs) (M : Mem) (p q : Int) (hp1 : -100000000000000 ≤ p) (hp2 : p ≤ 100000000000000) (hq : 1 ≤ q) (hq2 : q ≤ 100000000000000) : Ct l G yX5_rounded cX5_rounded 4 (some .int) rm_X5_rounded [.long (lI p), .long (lI q)] M (PoI G (Rd (rnd p q) M)) 0 0 := by
  refine Ct.of (by decide +kernel) (Nat.le_of_ble_eq_true rfl) [(0, .long (lI p)), (2, .long (lI q))] rfl ?_
  intro X B
  refine r_lload_n B 1 dX5_rounded_0 rfl ?_
  refine r_lconst1 B dX5_rounded_1 ?_
  refine r_lcmp_ge B dX5_rounded_2 dX5_rounded_3 rfl ⟨by omega, by omega⟩ ⟨by omega, by omega⟩ (fun h1 => ?_) (fun h1 => ?_)
  · refine r_ldc2 B (z := 2) dX5_rounded_8 q_357 (by decide) ?_
    refine r_lload_n B 0 dX5_rounded_11 rfl ?_
    refine r_lmul B dX5_rounded_12 ?_
    refine r_lload_n B 1 dX5_rounded_13 rfl ?_
    refine r_ladd B dX5_rounded_14 ?_
    refine r_ldc2 B (z := 2) dX5_rounded_15 q_357 (by decide) ?_
    refine r_lload_n B 1 dX5_rounded_18 rfl ?_
    refine r_lmul B dX5_rounded_19 ?_
    refine r_pSl2 B (c_J9_floorDiv_f86c9 l G M ((2 * p) + q) (2 * q) (by omega) (by omega) (by omega) (by omega)) ⟨rfl, rfl⟩ ok_J9_floorDiv_f86c9 q_359 q_358 ⟨Nat.le_of_ble_eq_true rfl, Nat.le_of_ble_eq_true rfl, Nat.le_of_ble_eq_true rfl⟩ ⟨Nat.le_of_ble_eq_true rfl, Nat.le_of_ble_eq_true rfl⟩ dX5_rounded_20 ?_
    refine r_l2i B dX5_rounded_23 ?_
    exact r_iret B dX5_rounded_24 ⟨rfl, rfl⟩
  · exact absurd hq (by omega)
