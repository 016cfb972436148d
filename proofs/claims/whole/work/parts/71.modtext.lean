set_option maxRecDepth 100000 in
set_option maxHeartbeats 4000000 in
theorem c_X6_here (l : Launch) (G : Gs) (M : Mem) (md : Nat) (hM : IsMd G md) (len : Int) (b : Int → Int) (p : Int) (hlen : gI M md 5 = len) (htx : ∀ i : Int, 0 ≤ i → i < len → gI M (md + 4) i = b i) (hp : gI M md 13 = p) (htk : TxOk len b) (p0 : 0 ≤ p) (hp1x : p ≤ 1000) : Ct l G yX6_here cX6_here 1 (some .int) rm_X6_here [.ref md] M (PoI G (Rd (hrF b len p) M)) 0 0 := by
  refine Ct.of (by decide +kernel) (Nat.le_of_ble_eq_true rfl) [(0, .ref md)] rfl ?_
  intro X B
  have ht0 := htk.1
  have ht1 := htk.2.1
  have hp1 : p ≤ 1000 := hp1x
  refine r_aload_n B 0 dX6_here_0 rfl ?_
  refine rg6_at B hM.1 q_905 dX6_here_1 ?_
  refine r_vi (y := p) hp ?_
  refine r_aload_n B 0 dX6_here_4 rfl ?_
  refine rg6_typed B hM.1 q_897 dX6_here_5 ?_
  refine r_vi (y := len) hlen ?_
  refine r_icmp_ge B dX6_here_8 rfl ⟨by omega, by omega⟩ ⟨by omega, by omega⟩ (fun h1 => ?_) (fun h1 => ?_)
  · refine r_iconst B dX6_here_23 ?_
    exact r_iret B dX6_here_24 ⟨by unfold hrF; rw [if_neg (by omega)], rfl⟩
  · refine r_aload_n B 0 dX6_here_11 rfl ?_
    refine rg6_text B hM.1 q_896 dX6_here_12 ?_
    refine r_aload_n B 0 dX6_here_15 rfl ?_
    refine rg6_at B hM.1 q_905 dX6_here_16 ?_
    refine r_vi (y := p) hp ?_
    refine r_iaload B dX6_here_19 hM.2.2.2.2.1 (by omega) (by omega) ?_
    refine r_vi (y := b p) (htx p p0 (by omega)) ?_
    refine r_goto B dX6_here_20 rfl ?_
    exact r_iret B dX6_here_24 ⟨by unfold hrF; rw [if_pos (by omega)], rfl⟩

set_option maxRecDepth 100000 in
set_option maxHeartbeats 4000000 in
theorem c_X6_fewest (l : Launch) (G : Gs) (M : Mem) (le : Int) (hle : In32 le) : Ct l G yX6_fewest cX6_fewest 1 (some .int) rm_X6_fewest [.int (iI le)] M (PoI G (Rd (mnN le) M)) 0 0 := by
  refine Ct.of (by decide +kernel) (Nat.le_of_ble_eq_true rfl) [(0, .int (iI le))] rfl ?_
  intro X B
  obtain ⟨hle1, hle2⟩ := hle
  refine r_iload_n B 0 dX6_fewest_0 rfl ?_
  refine r_bipush B (z := 103) dX6_fewest_1 (by decide) ?_
  refine r_icmp_ne B dX6_fewest_3 rfl ⟨by omega, by omega⟩ ⟨by omega, by omega⟩ (fun h1 => ?_) (fun h1 => ?_)
  · refine r_iload_n B 0 dX6_fewest_10 rfl ?_
    refine r_bipush B (z := 112) dX6_fewest_11 (by decide) ?_
    refine r_icmp_eq B dX6_fewest_13 rfl ⟨by omega, by omega⟩ ⟨by omega, by omega⟩ (fun h2 => ?_) (fun h2 => ?_)
    · refine r_iconst B dX6_fewest_22 ?_
      refine r_goto B dX6_fewest_23 rfl ?_
      exact r_iret B dX6_fewest_27 ⟨by unfold mnN; rw [if_neg (by omega), if_pos (by omega)], rfl⟩
    · refine r_iload_n B 0 dX6_fewest_16 rfl ?_
      refine r_bipush B (z := 104) dX6_fewest_17 (by decide) ?_
      refine r_icmp_ne B dX6_fewest_19 rfl ⟨by omega, by omega⟩ ⟨by omega, by omega⟩ (fun h3 => ?_) (fun h3 => ?_)
      · refine r_iconst B dX6_fewest_26 ?_
        exact r_iret B dX6_fewest_27 ⟨by unfold mnN; rw [if_neg (by omega), if_neg (by omega)], rfl⟩
      · refine r_iconst B dX6_fewest_22 ?_
        refine r_goto B dX6_fewest_23 rfl ?_
        exact r_iret B dX6_fewest_27 ⟨by unfold mnN; rw [if_neg (by omega), if_pos (by omega)], rfl⟩
  · refine r_iconst B dX6_fewest_6 ?_
    refine r_goto B dX6_fewest_7 rfl ?_
    exact r_iret B dX6_fewest_27 ⟨by unfold mnN; rw [if_pos (by omega)], rfl⟩

set_option maxRecDepth 100000 in
set_option maxHeartbeats 4000000 in
theorem c_X6_most (l : Launch) (G : Gs) (M : Mem) (le : Int) (hle : In32 le) : Ct l G yX6_most cX6_most 1 (some .int) rm_X6_most [.int (iI le)] M (PoI G (Rd (moN le) M)) 0 0 := by
  refine Ct.of (by decide +kernel) (Nat.le_of_ble_eq_true rfl) [(0, .int (iI le))] rfl ?_
  intro X B
  obtain ⟨hle1, hle2⟩ := hle
  refine r_iload_n B 0 dX6_most_0 rfl ?_
  refine r_bipush B (z := 103) dX6_most_1 (by decide) ?_
  refine r_icmp_ne B dX6_most_3 rfl ⟨by omega, by omega⟩ ⟨by omega, by omega⟩ (fun h1 => ?_) (fun h1 => ?_)
  · refine r_iload_n B 0 dX6_most_10 rfl ?_
    refine r_bipush B (z := 112) dX6_most_11 (by decide) ?_
    refine r_icmp_eq B dX6_most_13 rfl ⟨by omega, by omega⟩ ⟨by omega, by omega⟩ (fun h2 => ?_) (fun h2 => ?_)
    · refine r_bipush B (z := 12) dX6_most_22 (by decide) ?_
      refine r_goto B dX6_most_24 rfl ?_
      exact r_iret B dX6_most_29 ⟨by unfold moN; rw [if_neg (by omega), if_pos (by omega)], rfl⟩
    · refine r_iload_n B 0 dX6_most_16 rfl ?_
      refine r_bipush B (z := 104) dX6_most_17 (by decide) ?_
      refine r_icmp_ne B dX6_most_19 rfl ⟨by omega, by omega⟩ ⟨by omega, by omega⟩ (fun h3 => ?_) (fun h3 => ?_)
      · refine r_bipush B (z := 80) dX6_most_27 (by decide) ?_
        exact r_iret B dX6_most_29 ⟨by unfold moN; rw [if_neg (by omega), if_neg (by omega)], rfl⟩
      · refine r_bipush B (z := 12) dX6_most_22 (by decide) ?_
        refine r_goto B dX6_most_24 rfl ?_
        exact r_iret B dX6_most_29 ⟨by unfold moN; rw [if_neg (by omega), if_pos (by omega)], rfl⟩
  · refine r_iconst B dX6_most_6 ?_
    refine r_goto B dX6_most_7 rfl ?_
    exact r_iret B dX6_most_29 ⟨by unfold moN; rw [if_pos (by omega)], rfl⟩

set_option maxRecDepth 100000 in
set_option maxHeartbeats 4000000 in
theorem c_X6_isNumber (l : Launch) (G : Gs) (M : Mem) (md : Nat) (hM : IsMd G md) (len : Int) (b : Int → Int) (p : Int) (hlen : gI M md 5 = len) (htx : ∀ i : Int, 0 ≤ i → i < len → gI M (md + 4) i = b i) (hp : gI M md 13 = p) (htk : TxOk len b) (p0 : 0 ≤ p) (le nu : Int) (va : Int → Int) (hpl0 : p ≤ len) (hl0 : ¬ le = 0) (hnu1 : 1 ≤ nu) (hnu2 : nu ≤ 80) (hnm : gI M md 16 = nu - 1) (hns : NuS b p le nu va 0 0 0) : Ct l G yX6_isNumber cX6_isNumber 4 (some .boolean) rm_X6_isNumber [.ref md] M (PoI G (fun r M' => ∃ (c v di less : Int), p ≤ c ∧ c ≤ len ∧ NuS b c le nu va less v di ∧ (0 ≤ di ∧ di ≤ 4) ∧ (less = 0 ∨ less = 1) ∧ (0 ≤ v ∧ v ≤ 9999) ∧ (di = 4 ∨ ¬ (48 ≤ hrF b len c ∧ hrF b len c ≤ 57)) ∧ (less = 1 ∨ di > 0 ∨ ¬ hrF b len c = 45) ∧ r = bF (0 < di) ∧ gI M' md 13 = c ∧ gI M' md 16 = nu ∧ gI M' (md + 7) (nu - 1) = (if less = 0 then v else -v) ∧ (∀ k : Int, k ≠ nu - 1 → gI M' (md + 7) k = gI M (md + 7) k) ∧ (∀ k : Int, k ≠ 13 → k ≠ 16 → gI M' md k = gI M md k) ∧ (∀ d : Nat, d ≠ md → d ≠ md + 7 → Same M M' d) ∧ ∀ k : Int, p ≤ k → k < c → ¬ b k = 59)) 0 0 := by
  refine Ct.of (by decide +kernel) (Nat.le_of_ble_eq_true rfl) [(0, .ref md)] rfl ?_
  intro X B
  have ht0 := htk.1
  have ht1 := htk.2.1
  have hrp := hrF_in htk (p := p) p0
  obtain ⟨hn1, hn2, hn3, hn4, hn5, hn6, hn7⟩ := id hns
  refine r_aload_n B 0 dX6_isNumber_0 rfl ?_
  refine r_pVi0 B (c_X6_here l G M md hM len b p hlen htx hp htk (by omega) (by omega)) ⟨rfl, rfl⟩ ok_X6_here vi_X6_here q_1293 hM.1 rfl (fun _ => rfl) ⟨Nat.le_of_ble_eq_true rfl, Nat.le_of_ble_eq_true rfl, Nat.le_of_ble_eq_true rfl⟩ ⟨Nat.le_of_ble_eq_true rfl, Nat.le_of_ble_eq_true rfl⟩ dX6_isNumber_1 ?_
  refine r_bipush B (z := 45) dX6_isNumber_4 (by decide) ?_
  have J1 : ∀ less : Int, ((hrF b len p = 45 ∧ less = 1) ∨ (¬ hrF b len p = 45 ∧ less = 0)) → WM G X 0 0 (bM X (PoI G (fun r M' => ∃ (c v di less : Int), p ≤ c ∧ c ≤ len ∧ NuS b c le nu va less v di ∧ (0 ≤ di ∧ di ≤ 4) ∧ (less = 0 ∨ less = 1) ∧ (0 ≤ v ∧ v ≤ 9999) ∧ (di = 4 ∨ ¬ (48 ≤ hrF b len c ∧ hrF b len c ≤ 57)) ∧ (less = 1 ∨ di > 0 ∨ ¬ hrF b len c = 45) ∧ r = bF (0 < di) ∧ gI M' md 13 = c ∧ gI M' md 16 = nu ∧ gI M' (md + 7) (nu - 1) = (if less = 0 then v else -v) ∧ (∀ k : Int, k ≠ nu - 1 → gI M' (md + 7) k = gI M (md + 7) k) ∧ (∀ k : Int, k ≠ 13 → k ≠ 16 → gI M' md k = gI M md k) ∧ (∀ d : Nat, d ≠ md → d ≠ md + 7 → Same M M' d) ∧ ∀ k : Int, p ≤ k → k < c → ¬ b k = 59)) 0 0 G) M 14 [(0, .ref md)] [.int (iI less)] := by
    intro less hless
    refine r_istore_n B (lv' := [(1, .int (iI less)), (0, .ref md)]) dX6_isNumber_14 (by decide) rfl ?_
    refine r_aload_n B 1 dX6_isNumber_15 rfl ?_
    refine r_dup B dX6_isNumber_16 rfl ?_
    refine rg6_at B hM.1 q_905 dX6_isNumber_17 ?_
    refine r_vi (y := p) hp ?_
    refine r_iload_n B 0 dX6_isNumber_20 rfl ?_
    have J2 : ∀ w2 : Int, (w2 = less) → WM G X 0 0 (bM X (PoI G (fun r M' => ∃ (c v di less : Int), p ≤ c ∧ c ≤ len ∧ NuS b c le nu va less v di ∧ (0 ≤ di ∧ di ≤ 4) ∧ (less = 0 ∨ less = 1) ∧ (0 ≤ v ∧ v ≤ 9999) ∧ (di = 4 ∨ ¬ (48 ≤ hrF b len c ∧ hrF b len c ≤ 57)) ∧ (less = 1 ∨ di > 0 ∨ ¬ hrF b len c = 45) ∧ r = bF (0 < di) ∧ gI M' md 13 = c ∧ gI M' md 16 = nu ∧ gI M' (md + 7) (nu - 1) = (if less = 0 then v else -v) ∧ (∀ k : Int, k ≠ nu - 1 → gI M' (md + 7) k = gI M (md + 7) k) ∧ (∀ k : Int, k ≠ 13 → k ≠ 16 → gI M' md k = gI M md k) ∧ (∀ d : Nat, d ≠ md → d ≠ md + 7 → Same M M' d) ∧ ∀ k : Int, p ≤ k → k < c → ¬ b k = 59)) 0 0 G) M 29 [(1, .int (iI less)), (0, .ref md)] [.int (iI w2), .int (iI p), .ref md] := by
      intro w2 hw2
      refine r_iadd B dX6_isNumber_29 ?_
      refine rp6_at B hM.1 q_905 dX6_isNumber_30 ?_
      refine WM.nm (fun M3 eM3 => ?_)
      have hc0 : NuS b (p + w2) le nu va less 0 0 ∧ p + w2 ≤ len ∧ (less = 0 ∨ less = 1) ∧ (less = 1 ∨ ¬ hrF b len (p + w2) = 45) ∧ (∀ k : Int, p ≤ k → k < p + w2 → ¬ b k = 59) := by
        rcases hless with ⟨x1, x2⟩ | ⟨x1, x2⟩
        · have hpl : p < len := Decidable.byContradiction (fun q => by unfold hrF at x1; rw [if_neg q] at x1; omega)
          have hbp : b p = 45 := by unfold hrF at x1; rw [if_pos hpl] at x1; exact x1
          rw [x2, show w2 = 1 by omega]
          exact ⟨hns.minus hl0 p0 hbp rfl, by omega, Or.inr rfl, Or.inl rfl, fun k q0 q1 => by rw [show k = p by omega, hbp]; omega⟩
        · rw [x2, show w2 = 0 by omega, show p + 0 = p by omega]
          exact ⟨hns, hpl0, Or.inl rfl, Or.inr x1, fun k q0 q1 => by omega⟩
      obtain ⟨hc0, hc1, hls, hmi, hno0⟩ := hc0
      refine r_iconst B dX6_isNumber_33 ?_
      refine r_istore_n B (lv' := [(2, .int (iI 0)), (1, .int (iI less)), (0, .ref md)]) dX6_isNumber_34 (by decide) rfl ?_
      refine r_iconst B dX6_isNumber_35 ?_
      refine r_istore_n B (lv' := [(3, .int (iI 0)), (2, .int (iI 0)), (1, .int (iI less)), (0, .ref md)]) dX6_isNumber_36 (by decide) rfl ?_
      have lp4 : ∀ (nlp4 : Nat) (c : Int) (v : Int) (di : Int) (Mc : Mem) (hpc : p ≤ c) (hcl : c ≤ len) (hN : NuS b c le nu va less v di) (hd0 : 0 ≤ di) (hd1 : di ≤ 4) (hv0 : 0 ≤ v) (hv1 : v ≤ p10 di) (hmi2 : less = 1 ∨ di > 0 ∨ ¬ hrF b len c = 45) (h13 : gI Mc md 13 = c) (h16 : gI Mc md 16 = nu - 1) (hk5 : gI Mc md 5 = gI M md 5) (h7 : ∀ k : Int, gI Mc (md + 7) k = gI M (md + 7) k) (hki : ∀ k : Int, k ≠ 13 → k ≠ 16 → gI Mc md k = gI M md k) (hsm : ∀ d : Nat, d ≠ md → d ≠ md + 7 → Same M Mc d) (hno : ∀ k : Int, p ≤ k → k < c → ¬ b k = 59), (5 - di).toNat < nlp4 → WM G X 0 0 (bM X (PoI G (fun r M' => ∃ (c v di less : Int), p ≤ c ∧ c ≤ len ∧ NuS b c le nu va less v di ∧ (0 ≤ di ∧ di ≤ 4) ∧ (less = 0 ∨ less = 1) ∧ (0 ≤ v ∧ v ≤ 9999) ∧ (di = 4 ∨ ¬ (48 ≤ hrF b len c ∧ hrF b len c ≤ 57)) ∧ (less = 1 ∨ di > 0 ∨ ¬ hrF b len c = 45) ∧ r = bF (0 < di) ∧ gI M' md 13 = c ∧ gI M' md 16 = nu ∧ gI M' (md + 7) (nu - 1) = (if less = 0 then v else -v) ∧ (∀ k : Int, k ≠ nu - 1 → gI M' (md + 7) k = gI M (md + 7) k) ∧ (∀ k : Int, k ≠ 13 → k ≠ 16 → gI M' md k = gI M md k) ∧ (∀ d : Nat, d ≠ md → d ≠ md + 7 → Same M M' d) ∧ ∀ k : Int, p ≤ k → k < c → ¬ b k = 59)) 0 0 G) Mc 37 [(0, .ref md), (1, .int (iI less)), (2, .int (iI v)), (3, .int (iI di))] [] := by
        intro nlp4
        induction nlp4 with
        | zero => intro c v di Mc hpc hcl hN hd0 hd1 hv0 hv1 hmi2 h13 h16 hk5 h7 hki hsm hno hm; omega
        | succ nlp4 ihlp4 =>
          intro c v di Mc hpc hcl hN hd0 hd1 hv0 hv1 hmi2 h13 h16 hk5 h7 hki hsm hno hm
          have hrc := hrF_in htk (p := c) (by omega)
          have hv9 := p10_in di
          have i1 := inF_in (hrF b len c) 48 57
          refine r_iload_n B 3 dX6_isNumber_37 rfl ?_
          refine r_iconst B dX6_isNumber_38 ?_
          refine r_icmp_ge B dX6_isNumber_39 rfl ⟨by omega, by omega⟩ ⟨by omega, by omega⟩ (fun h5 => ?_) (fun h5 => ?_)
          · refine r_aload_n B 0 dX6_isNumber_88 rfl ?_
            refine rg6_numbers B hM.1 q_907 dX6_isNumber_89 ?_
            refine r_aload_n B 0 dX6_isNumber_92 rfl ?_
            refine rg6_numberMany B hM.1 q_908 dX6_isNumber_93 ?_
            refine r_vi (y := nu - 1) h16 ?_
            refine r_iload_n B 1 dX6_isNumber_96 rfl ?_
            have J6 : ∀ w3 : Int, (w3 = if less = 0 then v else -v) → WM G X 0 0 (bM X (PoI G (fun r M' => ∃ (c v di less : Int), p ≤ c ∧ c ≤ len ∧ NuS b c le nu va less v di ∧ (0 ≤ di ∧ di ≤ 4) ∧ (less = 0 ∨ less = 1) ∧ (0 ≤ v ∧ v ≤ 9999) ∧ (di = 4 ∨ ¬ (48 ≤ hrF b len c ∧ hrF b len c ≤ 57)) ∧ (less = 1 ∨ di > 0 ∨ ¬ hrF b len c = 45) ∧ r = bF (0 < di) ∧ gI M' md 13 = c ∧ gI M' md 16 = nu ∧ gI M' (md + 7) (nu - 1) = (if less = 0 then v else -v) ∧ (∀ k : Int, k ≠ nu - 1 → gI M' (md + 7) k = gI M (md + 7) k) ∧ (∀ k : Int, k ≠ 13 → k ≠ 16 → gI M' md k = gI M md k) ∧ (∀ d : Nat, d ≠ md → d ≠ md + 7 → Same M M' d) ∧ ∀ k : Int, p ≤ k → k < c → ¬ b k = 59)) 0 0 G) Mc 106 [(0, .ref md), (1, .int (iI less)), (2, .int (iI v)), (3, .int (iI di))] [.int (iI w3), .int (iI (nu - 1)), .ref (md + 7)] := by
              intro w3 hw3
              refine r_iastore B dX6_isNumber_106 hM.2.2.2.2.2.2.2 (by omega) (by omega) ?_
              refine WM.nm (fun M7 eM7 => ?_)
              refine r_aload_n B 0 dX6_isNumber_107 rfl ?_
              refine r_dup B dX6_isNumber_108 rfl ?_
              refine rg6_numberMany B hM.1 q_908 dX6_isNumber_109 ?_
              refine r_vi (y := nu - 1) (by rw [eM7, gI_ne (by omega)]; exact h16) ?_
              refine r_iconst B dX6_isNumber_112 ?_
              refine r_iadd B dX6_isNumber_113 ?_
              refine rp6_numberMany B hM.1 q_908 dX6_isNumber_114 ?_
              refine WM.nm (fun M8 eM8 => ?_)
              refine r_iload_n B 3 dX6_isNumber_117 rfl ?_
              refine r_if_le B dX6_isNumber_118 rfl ⟨by omega, by omega⟩ (fun h9 => ?_) (fun h9 => ?_)
              · refine r_iconst B dX6_isNumber_125 ?_
                exact r_zret B dX6_isNumber_126 (by omega) ⟨c, v, di, less, by omega, hcl, hN, ⟨hd0, hd1⟩, hls, ⟨hv0, by omega⟩, Or.inl (by omega), hmi2, by unfold bF; rw [if_neg (by omega)], by rw [eM8, gI_nk (by omega), eM7, gI_ne (by omega)]; exact h13, by rw [eM8, gI_eq]; omega, by rw [eM8, gI_ne (by omega), eM7, gI_eq]; exact hw3, fun k q => by rw [eM8, gI_ne (by omega), eM7, gI_nk q]; rw [h7 k], fun k q1 q2 => by rw [eM8, gI_nk q2, eM7, gI_ne (by omega)]; exact hki k q1 q2, fun d q1 q2 => (hsm d q1 q2).tr (by rw [eM8, eM7]; exact (Same.sI q2).tr (Same.sI q1)), hno⟩
              · refine r_iconst B dX6_isNumber_121 ?_
                refine r_goto B dX6_isNumber_122 rfl ?_
                exact r_zret B dX6_isNumber_126 (by omega) ⟨c, v, di, less, by omega, hcl, hN, ⟨hd0, hd1⟩, hls, ⟨hv0, by omega⟩, Or.inl (by omega), hmi2, by unfold bF; rw [if_pos (by omega)], by rw [eM8, gI_nk (by omega), eM7, gI_ne (by omega)]; exact h13, by rw [eM8, gI_eq]; omega, by rw [eM8, gI_ne (by omega), eM7, gI_eq]; exact hw3, fun k q => by rw [eM8, gI_ne (by omega), eM7, gI_nk q]; rw [h7 k], fun k q1 q2 => by rw [eM8, gI_nk q2, eM7, gI_ne (by omega)]; exact hki k q1 q2, fun d q1 q2 => (hsm d q1 q2).tr (by rw [eM8, eM7]; exact (Same.sI q2).tr (Same.sI q1)), hno⟩
            refine r_if_eq B dX6_isNumber_97 rfl ⟨by omega, by omega⟩ (fun h10 => ?_) (fun h10 => ?_)
            · refine r_iload_n B 2 dX6_isNumber_105 rfl ?_
              exact J6 _ (by rw [if_pos h10])
            · refine r_iload_n B 2 dX6_isNumber_100 rfl ?_
              refine r_ineg B dX6_isNumber_101 ?_
              refine r_goto B dX6_isNumber_102 rfl ?_
              exact J6 _ (by rw [if_neg h10])
          · refine r_aload_n B 0 dX6_isNumber_42 rfl ?_
            refine r_pVi0 B (c_X6_here l G Mc md hM len b c (by rw [hk5]; exact hlen) (fun i a d => by rw [(hsm (md + 4) (by omega) (by omega)).1]; exact htx i a d) h13 htk (by omega) (by omega)) ⟨rfl, rfl⟩ ok_X6_here vi_X6_here q_1293 hM.1 rfl (fun _ => rfl) ⟨Nat.le_of_ble_eq_true rfl, Nat.le_of_ble_eq_true rfl, Nat.le_of_ble_eq_true rfl⟩ ⟨Nat.le_of_ble_eq_true rfl, Nat.le_of_ble_eq_true rfl⟩ dX6_isNumber_43 ?_
            refine r_i2l B dX6_isNumber_46 ⟨by omega, by omega⟩ ?_
            refine r_ldc2 B (z := 48) dX6_isNumber_47 q_1301 (by decide) ?_
            refine r_ldc2 B (z := 57) dX6_isNumber_50 q_1302 (by decide) ?_
            refine r_pSz3 B (c_X6_in l G Mc  (hrF b len c) 48 57 ⟨by omega, by omega⟩ ⟨by omega, by omega⟩ ⟨by omega, by omega⟩) ⟨rfl, rfl⟩ ok_X6_in q_961 q_960 ⟨Nat.le_of_ble_eq_true rfl, Nat.le_of_ble_eq_true rfl, Nat.le_of_ble_eq_true rfl⟩ ⟨Nat.le_of_ble_eq_true rfl, Nat.le_of_ble_eq_true rfl⟩ dX6_isNumber_53 ?_
            refine r_if_eq B dX6_isNumber_56 rfl ⟨by omega, by omega⟩ (fun h11 => ?_) (fun h11 => ?_)
            · have q_h11 := inF_0 h11
              refine r_aload_n B 0 dX6_isNumber_88 rfl ?_
              refine rg6_numbers B hM.1 q_907 dX6_isNumber_89 ?_
              refine r_aload_n B 0 dX6_isNumber_92 rfl ?_
              refine rg6_numberMany B hM.1 q_908 dX6_isNumber_93 ?_
              refine r_vi (y := nu - 1) h16 ?_
              refine r_iload_n B 1 dX6_isNumber_96 rfl ?_
              have J12 : ∀ w3 : Int, (w3 = if less = 0 then v else -v) → WM G X 0 0 (bM X (PoI G (fun r M' => ∃ (c v di less : Int), p ≤ c ∧ c ≤ len ∧ NuS b c le nu va less v di ∧ (0 ≤ di ∧ di ≤ 4) ∧ (less = 0 ∨ less = 1) ∧ (0 ≤ v ∧ v ≤ 9999) ∧ (di = 4 ∨ ¬ (48 ≤ hrF b len c ∧ hrF b len c ≤ 57)) ∧ (less = 1 ∨ di > 0 ∨ ¬ hrF b len c = 45) ∧ r = bF (0 < di) ∧ gI M' md 13 = c ∧ gI M' md 16 = nu ∧ gI M' (md + 7) (nu - 1) = (if less = 0 then v else -v) ∧ (∀ k : Int, k ≠ nu - 1 → gI M' (md + 7) k = gI M (md + 7) k) ∧ (∀ k : Int, k ≠ 13 → k ≠ 16 → gI M' md k = gI M md k) ∧ (∀ d : Nat, d ≠ md → d ≠ md + 7 → Same M M' d) ∧ ∀ k : Int, p ≤ k → k < c → ¬ b k = 59)) 0 0 G) Mc 106 [(0, .ref md), (1, .int (iI less)), (2, .int (iI v)), (3, .int (iI di))] [.int (iI w3), .int (iI (nu - 1)), .ref (md + 7)] := by
                intro w3 hw3
                refine r_iastore B dX6_isNumber_106 hM.2.2.2.2.2.2.2 (by omega) (by omega) ?_
                refine WM.nm (fun M13 eM13 => ?_)
                refine r_aload_n B 0 dX6_isNumber_107 rfl ?_
                refine r_dup B dX6_isNumber_108 rfl ?_
                refine rg6_numberMany B hM.1 q_908 dX6_isNumber_109 ?_
                refine r_vi (y := nu - 1) (by rw [eM13, gI_ne (by omega)]; exact h16) ?_
                refine r_iconst B dX6_isNumber_112 ?_
                refine r_iadd B dX6_isNumber_113 ?_
                refine rp6_numberMany B hM.1 q_908 dX6_isNumber_114 ?_
                refine WM.nm (fun M14 eM14 => ?_)
                refine r_iload_n B 3 dX6_isNumber_117 rfl ?_
                refine r_if_le B dX6_isNumber_118 rfl ⟨by omega, by omega⟩ (fun h15 => ?_) (fun h15 => ?_)
                · refine r_iconst B dX6_isNumber_125 ?_
                  exact r_zret B dX6_isNumber_126 (by omega) ⟨c, v, di, less, by omega, hcl, hN, ⟨hd0, hd1⟩, hls, ⟨hv0, by omega⟩, Or.inr (by omega), hmi2, by unfold bF; rw [if_neg (by omega)], by rw [eM14, gI_nk (by omega), eM13, gI_ne (by omega)]; exact h13, by rw [eM14, gI_eq]; omega, by rw [eM14, gI_ne (by omega), eM13, gI_eq]; exact hw3, fun k q => by rw [eM14, gI_ne (by omega), eM13, gI_nk q]; rw [h7 k], fun k q1 q2 => by rw [eM14, gI_nk q2, eM13, gI_ne (by omega)]; exact hki k q1 q2, fun d q1 q2 => (hsm d q1 q2).tr (by rw [eM14, eM13]; exact (Same.sI q2).tr (Same.sI q1)), hno⟩
                · refine r_iconst B dX6_isNumber_121 ?_
                  refine r_goto B dX6_isNumber_122 rfl ?_
                  exact r_zret B dX6_isNumber_126 (by omega) ⟨c, v, di, less, by omega, hcl, hN, ⟨hd0, hd1⟩, hls, ⟨hv0, by omega⟩, Or.inr (by omega), hmi2, by unfold bF; rw [if_pos (by omega)], by rw [eM14, gI_nk (by omega), eM13, gI_ne (by omega)]; exact h13, by rw [eM14, gI_eq]; omega, by rw [eM14, gI_ne (by omega), eM13, gI_eq]; exact hw3, fun k q => by rw [eM14, gI_ne (by omega), eM13, gI_nk q]; rw [h7 k], fun k q1 q2 => by rw [eM14, gI_nk q2, eM13, gI_ne (by omega)]; exact hki k q1 q2, fun d q1 q2 => (hsm d q1 q2).tr (by rw [eM14, eM13]; exact (Same.sI q2).tr (Same.sI q1)), hno⟩
              refine r_if_eq B dX6_isNumber_97 rfl ⟨by omega, by omega⟩ (fun h16 => ?_) (fun h16 => ?_)
              · refine r_iload_n B 2 dX6_isNumber_105 rfl ?_
                exact J12 _ (by rw [if_pos h16])
              · refine r_iload_n B 2 dX6_isNumber_100 rfl ?_
                refine r_ineg B dX6_isNumber_101 ?_
                refine r_goto B dX6_isNumber_102 rfl ?_
                exact J12 _ (by rw [if_neg h16])
            · have q_h11 := inF_1 h11
              have hcl2 : c < len := Decidable.byContradiction (fun q => by unfold hrF at q_h11; rw [if_neg q] at q_h11; omega)
              have hbc : hrF b len c = b c := by unfold hrF; rw [if_pos hcl2]
              have hps := p10_s (d := di) (v := v) (x := b c - 48) hd0 (by omega) hv0 hv1 (by omega) (by omega)
              refine r_bipush B (z := 10) dX6_isNumber_59 (by decide) ?_
              refine r_iload_n B 2 dX6_isNumber_61 rfl ?_
              refine r_imul B dX6_isNumber_62 ?_
              refine r_aload_n B 0 dX6_isNumber_63 rfl ?_
              refine r_pVi0 B (c_X6_here l G Mc md hM len b c (by rw [hk5]; exact hlen) (fun i a d => by rw [(hsm (md + 4) (by omega) (by omega)).1]; exact htx i a d) h13 htk (by omega) (by omega)) ⟨rfl, rfl⟩ ok_X6_here vi_X6_here q_1293 hM.1 rfl (fun _ => rfl) ⟨Nat.le_of_ble_eq_true rfl, Nat.le_of_ble_eq_true rfl, Nat.le_of_ble_eq_true rfl⟩ ⟨Nat.le_of_ble_eq_true rfl, Nat.le_of_ble_eq_true rfl⟩ dX6_isNumber_64 ?_
              refine r_iadd B dX6_isNumber_67 ?_
              refine r_bipush B (z := 48) dX6_isNumber_68 (by decide) ?_
              refine r_isub B dX6_isNumber_70 ?_
              refine r_istore_n B (lv' := [(2, .int (iI (((10 * v) + (hrF b len c)) - 48))), (0, .ref md), (1, .int (iI less)), (3, .int (iI di))]) dX6_isNumber_71 (by decide) rfl ?_
              refine r_iinc B (lv' := [(3, .int (iI (di + 1))), (2, .int (iI (((10 * v) + (hrF b len c)) - 48))), (0, .ref md), (1, .int (iI less))]) dX6_isNumber_72 (j := 3) rfl (by decide) rfl ?_
              refine r_aload_n B 2 dX6_isNumber_75 rfl ?_
              refine r_dup B dX6_isNumber_76 rfl ?_
              refine rg6_at B hM.1 q_905 dX6_isNumber_77 ?_
              refine r_vi (y := c) h13 ?_
              refine r_iconst B dX6_isNumber_80 ?_
              refine r_iadd B dX6_isNumber_81 ?_
              refine rp6_at B hM.1 q_905 dX6_isNumber_82 ?_
              refine WM.nm (fun M17 eM17 => ?_)
              refine r_goto B dX6_isNumber_85 rfl ?_
              refine WM.pick [2, 3, 1, 0] rfl ?_
              exact ihlp4 (c + 1) _ (di + 1) M17 (by omega) (by omega) (by rw [hbc]; exact hN.digit hl0 (by omega) (by omega) (by omega) (by omega)) (by omega) (by omega) (by omega) (by omega) (Or.inr (Or.inl (by omega))) (by rw [eM17, gI_eq]) (by rw [eM17, gI_nk (by omega)]; exact h16) (by rw [eM17, gI_nk (by omega)]; exact hk5) (fun k => by rw [eM17, gI_ne (by omega)]; exact h7 k) (fun k q1 q2 => by rw [eM17, gI_nk q1]; exact hki k q1 q2) (fun d q1 q2 => (hsm d q1 q2).tr (by rw [eM17]; exact Same.sI q1)) (fun k q0 q1 => by rcases (show k < c ∨ k = c by omega) with w | w; exact hno k q0 w; rw [w]; omega) (by omega)
      refine WM.pick [3, 2, 1, 0] rfl ?_
      exact lp4 _ (p + w2) 0 0 M3 (by omega) hc1 hc0 (by omega) (by omega) (by omega) (by show (0 : Int) ≤ 0; omega) (by rcases hmi with w | w; exact Or.inl w; exact Or.inr (Or.inr w)) (by rw [eM3, gI_eq]) (by rw [eM3, gI_nk (by omega)]; exact hnm) (by rw [eM3, gI_nk (by omega)]) (fun k => by rw [eM3, gI_ne (by omega)]) (fun k q1 q2 => by rw [eM3, gI_nk q1]) (fun d q1 q2 => by rw [eM3]; exact Same.sI q1) hno0 (Nat.lt_succ_self _)
    refine r_if_eq B dX6_isNumber_21 rfl ⟨by omega, by omega⟩ (fun h18 => ?_) (fun h18 => ?_)
    · refine r_iconst B dX6_isNumber_28 ?_
      exact J2 _ (by omega)
    · refine r_iconst B dX6_isNumber_24 ?_
      refine r_goto B dX6_isNumber_25 rfl ?_
      exact J2 _ (by omega)
  refine r_icmp_ne B dX6_isNumber_6 rfl ⟨by omega, by omega⟩ ⟨by omega, by omega⟩ (fun h19 => ?_) (fun h19 => ?_)
  · refine r_iconst B dX6_isNumber_13 ?_
    exact J1 _ (Or.inr ⟨h19, rfl⟩)
  · refine r_iconst B dX6_isNumber_9 ?_
    refine r_goto B dX6_isNumber_10 rfl ?_
    exact J1 _ (Or.inl ⟨by omega, rfl⟩)
