set_option maxRecDepth 100000 in
set_option maxHeartbeats 4000000 in
theorem c_X6_isCommand (l : Launch) (G : Gs) (M : Mem) (md : Nat) (hM : IsMd G md) (len : Int) (b : Int → Int) (p : Int) (hlen : gI M md 5 = len) (htx : ∀ i : Int, 0 ≤ i → i < len → gI M (md + 4) i = b i) (hp : gI M md 13 = p) (htk : TxOk len b) (p0 : 0 ≤ p) (p1 : p < len) (hok : Okto b p) (hz : (auS b p.toNat).1 = 0) : Ct l G yX6_isCommand cX6_isCommand 2 (some .boolean) rm_X6_isCommand [.ref md] M (PoI G (fun r M' => ((r = 1 ∧ ∃ e : Int, p ≤ e ∧ e < len ∧ b e = 59 ∧ Okto b (e + 1) ∧ (∀ k : Int, p ≤ k → k < e → ¬ b k = 59) ∧ gI M' md 13 = e + 1 ∧ gI M' md 14 = (auS b e.toNat).1 ∧ gI M' md 16 = (auS b e.toNat).2.1 ∧ (∀ k : Int, 0 ≤ k → k < (auS b e.toNat).2.1 → gI M' (md + 7) k = (auS b e.toNat).2.2.2.2 k)) ∨ (r = 0 ∧ SynE b len (gI M' md 13) ∧ ¬ gI M' md 13 = -1)) ∧ (∀ k : Int, k ≠ 13 → k ≠ 14 → k ≠ 16 → gI M' md k = gI M md k) ∧ ∀ d : Nat, d ≠ md → d ≠ md + 7 → Same M M' d)) 0 0 := by
  refine Ct.of (by decide +kernel) (Nat.le_of_ble_eq_true rfl) [(0, .ref md)] rfl ?_
  intro X B
  have ht0 := htk.1
  have ht1 := htk.2.1
  have hbp := htk.2.2 p p0 p1
  have hrp : hrF b len p = b p := if_pos p1
  refine r_aload_n B 0 dX6_isCommand_0 rfl ?_
  refine r_aload_n B 0 dX6_isCommand_1 rfl ?_
  refine r_pVi0 B (c_X6_here l G M md hM len b p hlen htx hp htk (by omega) (by omega)) ⟨rfl, rfl⟩ ok_X6_here vi_X6_here q_1293 hM.1 rfl (fun _ => rfl) ⟨Nat.le_of_ble_eq_true rfl, Nat.le_of_ble_eq_true rfl, Nat.le_of_ble_eq_true rfl⟩ ⟨Nat.le_of_ble_eq_true rfl, Nat.le_of_ble_eq_true rfl⟩ dX6_isCommand_2 ?_
  refine r_vi (y := b p) hrp ?_
  refine rp6_letter B hM.1 q_906 dX6_isCommand_5 ?_
  refine WM.nm (fun M1 eM1 => ?_)
  have h64 : isLet (b p) → WM G X 0 0 (bM X (PoI G (fun r M' => ((r = 1 ∧ ∃ e : Int, p ≤ e ∧ e < len ∧ b e = 59 ∧ Okto b (e + 1) ∧ (∀ k : Int, p ≤ k → k < e → ¬ b k = 59) ∧ gI M' md 13 = e + 1 ∧ gI M' md 14 = (auS b e.toNat).1 ∧ gI M' md 16 = (auS b e.toNat).2.1 ∧ (∀ k : Int, 0 ≤ k → k < (auS b e.toNat).2.1 → gI M' (md + 7) k = (auS b e.toNat).2.2.2.2 k)) ∨ (r = 0 ∧ SynE b len (gI M' md 13) ∧ ¬ gI M' md 13 = -1)) ∧ (∀ k : Int, k ≠ 13 → k ≠ 14 → k ≠ 16 → gI M' md k = gI M md k) ∧ ∀ d : Nat, d ≠ md → d ≠ md + 7 → Same M M' d)) 0 0 G) M1 64 [(0, .ref md)] [] := by
    intro hlet
    have hl0 : ¬ b p = 0 := by unfold isLet at hlet; omega
    refine r_aload_n B 0 dX6_isCommand_64 rfl ?_
    refine r_dup B dX6_isCommand_65 rfl ?_
    refine rg6_at B hM.1 q_905 dX6_isCommand_66 ?_
    refine r_vi (y := p) (by rw [eM1, gI_nk (by omega)]; exact hp) ?_
    refine r_iconst B dX6_isCommand_69 ?_
    refine r_iadd B dX6_isCommand_70 ?_
    refine rp6_at B hM.1 q_905 dX6_isCommand_71 ?_
    refine WM.nm (fun M2 eM2 => ?_)
    refine r_aload_n B 0 dX6_isCommand_74 rfl ?_
    refine r_iconst B dX6_isCommand_75 ?_
    refine rp6_numberMany B hM.1 q_908 dX6_isCommand_76 ?_
    refine WM.nm (fun M3 eM3 => ?_)
    have hq1 : auS b (p + 1).toNat = stQ (b p, 0, 0, 0, fun _ => 0) := by rw [auS_tk p0 (by unfold isLet at hlet; omega)]; unfold tkQ; rw [if_pos hz]
    have hN0 : NuS b (p + 1) (b p) 1 (fun _ => 0) 0 0 0 := ⟨hok.succ p0 (Or.inl ⟨hz, hlet⟩), by rw [hq1]; rfl, by rw [hq1]; rfl, by rw [hq1]; rfl, by rw [hq1]; rfl, by rw [hq1]; show upF (fun _ => (0 : Int)) 0 0 (1 - 1) = _; rw [show (1 : Int) - 1 = 0 by omega, upF_eq]; rfl, fun k q0 q1 => by omega⟩
    refine r_iconst B dX6_isCommand_79 ?_
    refine r_istore_n B (lv' := [(1, .int (iI 1)), (0, .ref md)]) dX6_isCommand_80 (by decide) rfl ?_
    have lp4 : ∀ (nlp4 : Nat) (c : Int) (mo : Int) (nu : Int) (Mc : Mem) (va : Int → Int) (hmo1 : mo = 1) (hpc : p ≤ c) (hcl : c ≤ len) (hN : NuS b c (b p) nu va 0 0 0) (hnu1 : 1 ≤ nu) (h13 : gI Mc md 13 = c) (h14 : gI Mc md 14 = b p) (h16 : gI Mc md 16 = nu - 1) (hva : ∀ k : Int, 0 ≤ k → k < nu - 1 → gI Mc (md + 7) k = va k) (hki : ∀ k : Int, k ≠ 13 → k ≠ 14 → k ≠ 16 → gI Mc md k = gI M md k) (hsm : ∀ d : Nat, d ≠ md → d ≠ md + 7 → Same M Mc d) (hno : ∀ k : Int, p ≤ k → k < c → ¬ b k = 59), (len + 1 - c).toNat < nlp4 → WM G X 0 0 (bM X (PoI G (fun r M' => ((r = 1 ∧ ∃ e : Int, p ≤ e ∧ e < len ∧ b e = 59 ∧ Okto b (e + 1) ∧ (∀ k : Int, p ≤ k → k < e → ¬ b k = 59) ∧ gI M' md 13 = e + 1 ∧ gI M' md 14 = (auS b e.toNat).1 ∧ gI M' md 16 = (auS b e.toNat).2.1 ∧ (∀ k : Int, 0 ≤ k → k < (auS b e.toNat).2.1 → gI M' (md + 7) k = (auS b e.toNat).2.2.2.2 k)) ∨ (r = 0 ∧ SynE b len (gI M' md 13) ∧ ¬ gI M' md 13 = -1)) ∧ (∀ k : Int, k ≠ 13 → k ≠ 14 → k ≠ 16 → gI M' md k = gI M md k) ∧ ∀ d : Nat, d ≠ md → d ≠ md + 7 → Same M M' d)) 0 0 G) Mc 81 [(0, .ref md), (1, .int (iI mo))] [] := by
      intro nlp4
      induction nlp4 with
      | zero => intro c mo nu Mc va hmo1 hpc hcl hN hnu1 h13 h14 h16 hva hki hsm hno hm; omega
      | succ nlp4 ihlp4 =>
        intro c mo nu Mc va hmo1 hpc hcl hN hnu1 h13 h14 h16 hva hki hsm hno hm
        have hau := auS_in (b := b) c.toNat (by rw [show ((c.toNat : Nat) : Int) = c by omega]; exact hN.1)
        have hnu80 : nu ≤ 80 := by rcases hau with w | w; rw [hN.2.1] at w; exact absurd w hl0; have w2 := w.2.2.1; rw [hN.2.2.1] at w2; omega
        refine r_iload_n B 1 dX6_isCommand_81 rfl ?_
        refine r_if_eq B dX6_isCommand_82 rfl ⟨by omega, by omega⟩ (fun h5 => ?_) (fun h5 => ?_)
        · omega
        · refine r_aload_n B 0 dX6_isCommand_85 rfl ?_
          refine r_Vz0 B (c_X6_isNumber l G Mc md hM len b c (by rw [hki 5 (by omega) (by omega) (by omega)]; exact hlen) (fun i a d => by rw [(hsm (md + 4) (by omega) (by omega)).1]; exact htx i a d) h13 htk (by omega) (b p) nu va hcl hl0 hnu1 hnu80 h16 hN) ⟨rfl, rfl⟩ ok_X6_isNumber vi_X6_isNumber q_1297 hM.1 rfl (fun _ => rfl) ⟨Nat.le_of_ble_eq_true rfl, Nat.le_of_ble_eq_true rfl, Nat.le_of_ble_eq_true rfl⟩ ⟨Nat.le_of_ble_eq_true rfl, Nat.le_of_ble_eq_true rfl⟩ dX6_isCommand_86 (fun rn Mn hnum => ?_)
          obtain ⟨c2, v, di, less, k1, k2, hN2, k3, k4, k5, k6, k7, k8, k9, k10, k11, k12, k13, k14, k15⟩ := hnum
          rw [k8]
          obtain ⟨j1, j2, j3, j4, j5, j6, j7⟩ := id hN2
          have i1 := bF_in (0 < di)
          have hau2 := auS_in (b := b) c2.toNat (by rw [show ((c2.toNat : Nat) : Int) = c2 by omega]; exact j1)
          have hau3 : 2 * nu - 1 ≤ c2 ∧ (0 < di → 2 * nu ≤ c2) := by rcases hau2 with w | w; rw [j2] at w; exact absurd w hl0; have w2 := w.2.2.1; have w3 := w.2.2.2.1; rw [j3] at w2 w3; rw [j4] at w3; exact ⟨by omega, fun x => by have := w3 x; omega⟩
          have hno2 : ∀ k : Int, p ≤ k → k < c2 → ¬ b k = 59 := fun k q0 q1 => by rcases (show k < c ∨ c ≤ k by omega) with w | w; exact hno k q0 w; exact k15 k w q1
          have hnums : ∀ k : Int, 0 ≤ k → k < nu → gI Mn (md + 7) k = (auS b c2.toNat).2.2.2.2 k := fun k q0 q1 => by by_cases w : k = nu - 1; rw [w, k11, j6]; rw [k12 k w, hva k q0 (by omega), j7 k q0 (by omega)]
          have hrc2 := hrF_in htk (p := c2) (by omega)
          refine r_if_ne B dX6_isCommand_89 rfl ⟨by omega, by omega⟩ (fun h6 => ?_) (fun h6 => ?_)
          · have q_h6 := bF_1 h6
            have hdi : 0 < di := q_h6
            have hmo : 2 ≤ moN (b p) ∧ moN (b p) ≤ 80 := by unfold moN; split; omega; split <;> omega
            refine r_aload_n B 0 dX6_isCommand_94 rfl ?_
            refine r_pVi0 B (c_X6_here l G Mn md hM len b c2 (by rw [k13 5 (by omega) (by omega), hki 5 (by omega) (by omega) (by omega)]; exact hlen) (fun i a d => by rw [(k14 (md + 4) (by omega) (by omega)).1, (hsm (md + 4) (by omega) (by omega)).1]; exact htx i a d) k9 htk (by omega) (by omega)) ⟨rfl, rfl⟩ ok_X6_here vi_X6_here q_1293 hM.1 rfl (fun _ => rfl) ⟨Nat.le_of_ble_eq_true rfl, Nat.le_of_ble_eq_true rfl, Nat.le_of_ble_eq_true rfl⟩ ⟨Nat.le_of_ble_eq_true rfl, Nat.le_of_ble_eq_true rfl⟩ dX6_isCommand_95 ?_
            refine r_bipush B (z := 44) dX6_isCommand_98 (by decide) ?_
            have J7 : ∀ more : Int, ((more = 1 ∧ hrF b len c2 = 44 ∧ nu < moN (b p)) ∨ (more = 0 ∧ ¬ (hrF b len c2 = 44 ∧ nu < moN (b p)))) → WM G X 0 0 (bM X (PoI G (fun r M' => ((r = 1 ∧ ∃ e : Int, p ≤ e ∧ e < len ∧ b e = 59 ∧ Okto b (e + 1) ∧ (∀ k : Int, p ≤ k → k < e → ¬ b k = 59) ∧ gI M' md 13 = e + 1 ∧ gI M' md 14 = (auS b e.toNat).1 ∧ gI M' md 16 = (auS b e.toNat).2.1 ∧ (∀ k : Int, 0 ≤ k → k < (auS b e.toNat).2.1 → gI M' (md + 7) k = (auS b e.toNat).2.2.2.2 k)) ∨ (r = 0 ∧ SynE b len (gI M' md 13) ∧ ¬ gI M' md 13 = -1)) ∧ (∀ k : Int, k ≠ 13 → k ≠ 14 → k ≠ 16 → gI M' md k = gI M md k) ∧ ∀ d : Nat, d ≠ md → d ≠ md + 7 → Same M M' d)) 0 0 G) Mn 122 [(0, .ref md), (1, .int (iI mo))] [.int (iI more)] := by
              intro more hmore
              refine r_istore_n B (lv' := [(1, .int (iI more)), (0, .ref md)]) dX6_isCommand_122 (by decide) rfl ?_
              refine r_aload_n B 1 dX6_isCommand_123 rfl ?_
              refine r_dup B dX6_isCommand_124 rfl ?_
              refine rg6_at B hM.1 q_905 dX6_isCommand_125 ?_
              refine r_vi (y := c2) k9 ?_
              refine r_iload_n B 0 dX6_isCommand_128 rfl ?_
              have J8 : ∀ w5 : Int, (w5 = more) → WM G X 0 0 (bM X (PoI G (fun r M' => ((r = 1 ∧ ∃ e : Int, p ≤ e ∧ e < len ∧ b e = 59 ∧ Okto b (e + 1) ∧ (∀ k : Int, p ≤ k → k < e → ¬ b k = 59) ∧ gI M' md 13 = e + 1 ∧ gI M' md 14 = (auS b e.toNat).1 ∧ gI M' md 16 = (auS b e.toNat).2.1 ∧ (∀ k : Int, 0 ≤ k → k < (auS b e.toNat).2.1 → gI M' (md + 7) k = (auS b e.toNat).2.2.2.2 k)) ∨ (r = 0 ∧ SynE b len (gI M' md 13) ∧ ¬ gI M' md 13 = -1)) ∧ (∀ k : Int, k ≠ 13 → k ≠ 14 → k ≠ 16 → gI M' md k = gI M md k) ∧ ∀ d : Nat, d ≠ md → d ≠ md + 7 → Same M M' d)) 0 0 G) Mn 137 [(1, .int (iI more)), (0, .ref md)] [.int (iI w5), .int (iI c2), .ref md] := by
                intro w5 hw5
                refine r_iadd B dX6_isCommand_137 ?_
                refine rp6_at B hM.1 q_905 dX6_isCommand_138 ?_
                refine WM.nm (fun M9 eM9 => ?_)
                refine r_goto B dX6_isCommand_141 rfl ?_
                rcases hmore with ⟨m1x, m2x, m3x⟩ | ⟨m1x, m2x⟩
                · have hc2l : c2 < len := Decidable.byContradiction (fun q => by unfold hrF at m2x; rw [if_neg q] at m2x; omega)
                  have hbc : b c2 = 44 := by unfold hrF at m2x; rw [if_pos hc2l] at m2x; exact m2x
                  have hqc : ¬ (auS b c2.toNat).1 = 0 := by rw [j2]; exact hl0
                  have hst : auS b (c2 + 1).toNat = stQ (auS b c2.toNat) := by rw [auS_tk (by omega) (by omega), hbc, tkQ_comma hqc]
                  have hmx : nu < mxN (b p) := by unfold moN at m3x; unfold mxN; split at m3x; rename_i y; rw [if_pos y]; omega; rename_i y; rw [if_neg y]; split at m3x; rename_i y2; rw [if_pos y2]; omega; rename_i y2; rw [if_neg y2]; omega
                  have hN3 : NuS b (c2 + 1) (b p) (nu + 1) (auS b c2.toNat).2.2.2.2 0 0 0 := ⟨j1.succ (by omega) (Or.inr ⟨hqc, Or.inr (Or.inr (Or.inl ⟨hbc, by rw [j4]; exact hdi, by rw [j3, j2]; exact hmx⟩))⟩), by rw [hst]; exact j2, by rw [hst]; show (auS b c2.toNat).2.1 + 1 = nu + 1; rw [j3], by rw [hst]; rfl, by rw [hst]; rfl, by rw [hst]; show upF (auS b c2.toNat).2.2.2.2 (auS b c2.toNat).2.1 0 (nu + 1 - 1) = _; rw [j3, show nu + 1 - 1 = nu by omega, upF_eq]; rfl, fun k q0 q1 => by rw [hst]; show upF (auS b c2.toNat).2.2.2.2 (auS b c2.toNat).2.1 0 k = _; rw [j3, upF_ne (by omega)]⟩
                  refine WM.pick [1, 0] rfl ?_
                  exact ihlp4 (c2 + 1) more (nu + 1) M9 (auS b c2.toNat).2.2.2.2 m1x (by omega) (by omega) hN3 (by omega) (by rw [eM9, gI_eq]; omega) (by rw [eM9, gI_nk (by omega), k13 14 (by omega) (by omega)]; exact h14) (by rw [eM9, gI_nk (by omega), k10]; omega) (fun k q0 q1 => by rw [eM9, gI_ne (by omega)]; exact hnums k q0 (by omega)) (fun k q1 q2 q3 => by rw [eM9, gI_nk q1, k13 k q1 q3]; exact hki k q1 q2 q3) (fun d q1 q2 => (hsm d q1 q2).tr ((k14 d q1 q2).tr (by rw [eM9]; exact Same.sI q1))) (fun k q0 q1 => by rcases (show k < c2 ∨ k = c2 by omega) with w | w; exact hno2 k q0 w; rw [w, hbc]; omega) (by omega)
                · have h13e : gI M9 md 13 = c2 := by rw [eM9, gI_eq]; omega
                  refine r_iload_n B 0 dX6_isCommand_81 rfl ?_
                  refine r_if_eq B dX6_isCommand_82 rfl ⟨by omega, by omega⟩ (fun h10 => ?_) (fun h10 => ?_)
                  · have hmn := mnN_in (b p)
                    refine r_aload_n B 1 dX6_isCommand_144 rfl ?_
                    refine r_pVi0 B (c_X6_here l G M9 md hM len b c2 (by rw [eM9, gI_nk (by omega), k13 5 (by omega) (by omega), hki 5 (by omega) (by omega) (by omega)]; exact hlen) (fun i a d => by rw [eM9, gI_ne (by omega), (k14 (md + 4) (by omega) (by omega)).1, (hsm (md + 4) (by omega) (by omega)).1]; exact htx i a d) h13e htk (by omega) (by omega)) ⟨rfl, rfl⟩ ok_X6_here vi_X6_here q_1293 hM.1 rfl (fun _ => rfl) ⟨Nat.le_of_ble_eq_true rfl, Nat.le_of_ble_eq_true rfl, Nat.le_of_ble_eq_true rfl⟩ ⟨Nat.le_of_ble_eq_true rfl, Nat.le_of_ble_eq_true rfl⟩ dX6_isCommand_145 ?_
                    refine r_bipush B (z := 59) dX6_isCommand_148 (by decide) ?_
                    refine r_icmp_ne B dX6_isCommand_150 rfl ⟨by omega, by omega⟩ ⟨by omega, by omega⟩ (fun h11 => ?_) (fun h11 => ?_)
                    · refine r_iconst B dX6_isCommand_167 ?_
                      have hmm : c2 < len → nu < mxN (b p) → b c2 = 44 → nu < moN (b p) := fun y0 y y2 => by unfold mxN at y; unfold moN; split at y; rename_i y3; rw [if_pos y3]; omega; rename_i y3; rw [if_neg y3]; split at y; rename_i y4; rw [if_pos y4]; omega; rename_i y4; rw [if_neg y4]; have := hau3.2 hdi; omega
                      exact r_zret B dX6_isCommand_168 (by omega) ⟨Or.inr ⟨rfl, by rw [h13e]; rcases (show c2 = len ∨ c2 < len by omega) with w | w; exact Or.inr (Or.inr ⟨w, by rw [← w]; exact j1, by rw [← w, j2]; exact hl0⟩); exact Or.inr (Or.inl ⟨by omega, w, j1, fun x => by have hrb : hrF b len c2 = b c2 := if_pos w; rw [hrb] at k6 k7 m2x h11; unfold posQ at x; rw [j2, j3, j4, j5] at x; omega⟩), by rw [h13e]; omega⟩, fun k q1 q2 q3 => by rw [eM9, gI_nk q1, k13 k q1 q3]; exact hki k q1 q2 q3, fun d q1 q2 => (hsm d q1 q2).tr ((k14 d q1 q2).tr (by rw [eM9]; exact Same.sI q1))⟩
                    · refine r_aload_n B 1 dX6_isCommand_153 rfl ?_
                      refine rg6_numberMany B hM.1 q_908 dX6_isCommand_154 ?_
                      refine r_vi (y := nu) (by rw [eM9, gI_nk (by omega)]; exact k10) ?_
                      refine r_aload_n B 1 dX6_isCommand_157 rfl ?_
                      refine rg6_letter B hM.1 q_906 dX6_isCommand_158 ?_
                      refine r_vi (y := b p) (by rw [eM9, gI_nk (by omega), k13 14 (by omega) (by omega)]; exact h14) ?_
                      refine r_pSi1 B (c_X6_fewest l G M9  (b p) ⟨by omega, by omega⟩) ⟨rfl, rfl⟩ ok_X6_fewest q_1307 q_1306 ⟨Nat.le_of_ble_eq_true rfl, Nat.le_of_ble_eq_true rfl, Nat.le_of_ble_eq_true rfl⟩ ⟨Nat.le_of_ble_eq_true rfl, Nat.le_of_ble_eq_true rfl⟩ dX6_isCommand_161 ?_
                      refine r_icmp_ge B dX6_isCommand_164 rfl ⟨by omega, by omega⟩ ⟨by omega, by omega⟩ (fun h12 => ?_) (fun h12 => ?_)
                      · have hc2l : c2 < len := Decidable.byContradiction (fun q => by unfold hrF at h11; rw [if_neg q] at h11; omega)
                        have hbc : b c2 = 59 := by unfold hrF at h11; rw [if_pos hc2l] at h11; omega
                        refine r_aload_n B 1 dX6_isCommand_169 rfl ?_
                        refine r_dup B dX6_isCommand_170 rfl ?_
                        refine rg6_at B hM.1 q_905 dX6_isCommand_171 ?_
                        refine r_vi (y := c2) h13e ?_
                        refine r_iconst B dX6_isCommand_174 ?_
                        refine r_iadd B dX6_isCommand_175 ?_
                        refine rp6_at B hM.1 q_905 dX6_isCommand_176 ?_
                        refine WM.nm (fun M13 eM13 => ?_)
                        refine r_iconst B dX6_isCommand_179 ?_
                        exact r_zret B dX6_isCommand_180 (by omega) ⟨Or.inl ⟨rfl, c2, by omega, hc2l, hbc, j1.succ (by omega) (Or.inr ⟨by rw [j2]; exact hl0, Or.inr (Or.inr (Or.inr ⟨hbc, by rw [j4]; exact hdi, by rw [j2, j3]; omega⟩))⟩), hno2, by rw [eM13, gI_eq], by rw [eM13, gI_nk (by omega), eM9, gI_nk (by omega), k13 14 (by omega) (by omega), h14, j2], by rw [eM13, gI_nk (by omega), eM9, gI_nk (by omega), k10, j3], fun k q0 q1 => by rw [eM13, gI_ne (by omega), eM9, gI_ne (by omega)]; exact hnums k q0 (by rw [← j3]; exact q1)⟩, fun k q1 q2 q3 => by rw [eM13, gI_nk q1, eM9, gI_nk q1, k13 k q1 q3]; exact hki k q1 q2 q3, fun d q1 q2 => (hsm d q1 q2).tr ((k14 d q1 q2).tr (by rw [eM13, eM9]; exact (Same.sI q1).tr (Same.sI q1)))⟩
                      · refine r_iconst B dX6_isCommand_167 ?_
                        have hmm : c2 < len → nu < mxN (b p) → b c2 = 44 → nu < moN (b p) := fun y0 y y2 => by unfold mxN at y; unfold moN; split at y; rename_i y3; rw [if_pos y3]; omega; rename_i y3; rw [if_neg y3]; split at y; rename_i y4; rw [if_pos y4]; omega; rename_i y4; rw [if_neg y4]; have := hau3.2 hdi; omega
                        exact r_zret B dX6_isCommand_168 (by omega) ⟨Or.inr ⟨rfl, by rw [h13e]; rcases (show c2 = len ∨ c2 < len by omega) with w | w; exact Or.inr (Or.inr ⟨w, by rw [← w]; exact j1, by rw [← w, j2]; exact hl0⟩); exact Or.inr (Or.inl ⟨by omega, w, j1, fun x => by have hrb : hrF b len c2 = b c2 := if_pos w; rw [hrb] at k6 k7 m2x h11; unfold posQ at x; rw [j2, j3, j4, j5] at x; omega⟩), by rw [h13e]; omega⟩, fun k q1 q2 q3 => by rw [eM9, gI_nk q1, k13 k q1 q3]; exact hki k q1 q2 q3, fun d q1 q2 => (hsm d q1 q2).tr ((k14 d q1 q2).tr (by rw [eM9]; exact Same.sI q1))⟩
                  · omega
              refine r_if_eq B dX6_isCommand_129 rfl ⟨by omega, by omega⟩ (fun h14 => ?_) (fun h14 => ?_)
              · refine r_iconst B dX6_isCommand_136 ?_
                exact J8 _ (by omega)
              · refine r_iconst B dX6_isCommand_132 ?_
                refine r_goto B dX6_isCommand_133 rfl ?_
                exact J8 _ (by omega)
            refine r_icmp_ne B dX6_isCommand_100 rfl ⟨by omega, by omega⟩ ⟨by omega, by omega⟩ (fun h15 => ?_) (fun h15 => ?_)
            · refine r_iconst B dX6_isCommand_121 ?_
              exact J7 _ (Or.inr ⟨rfl, fun q => h15 q.1⟩)
            · refine r_aload_n B 0 dX6_isCommand_103 rfl ?_
              refine rg6_numberMany B hM.1 q_908 dX6_isCommand_104 ?_
              refine r_vi (y := nu) k10 ?_
              refine r_aload_n B 0 dX6_isCommand_107 rfl ?_
              refine rg6_letter B hM.1 q_906 dX6_isCommand_108 ?_
              refine r_vi (y := b p) (by rw [k13 14 (by omega) (by omega)]; exact h14) ?_
              refine r_pSi1 B (c_X6_most l G Mn  (b p) ⟨by omega, by omega⟩) ⟨rfl, rfl⟩ ok_X6_most q_1304 q_1303 ⟨Nat.le_of_ble_eq_true rfl, Nat.le_of_ble_eq_true rfl, Nat.le_of_ble_eq_true rfl⟩ ⟨Nat.le_of_ble_eq_true rfl, Nat.le_of_ble_eq_true rfl⟩ dX6_isCommand_111 ?_
              refine r_icmp_ge B dX6_isCommand_114 rfl ⟨by omega, by omega⟩ ⟨by omega, by omega⟩ (fun h16 => ?_) (fun h16 => ?_)
              · refine r_iconst B dX6_isCommand_121 ?_
                exact J7 _ (Or.inr ⟨rfl, fun q => by omega⟩)
              · refine r_iconst B dX6_isCommand_117 ?_
                refine r_goto B dX6_isCommand_118 rfl ?_
                exact J7 _ (Or.inl ⟨rfl, by omega, by omega⟩)
          · have q_h6 := bF_0 h6
            refine r_iconst B dX6_isCommand_92 ?_
            exact r_zret B dX6_isCommand_93 (by omega) ⟨Or.inr ⟨rfl, by rw [k9]; rcases (show c2 = len ∨ c2 < len by omega) with w | w; exact Or.inr (Or.inr ⟨w, by rw [← w]; exact j1, by rw [← w, j2]; exact hl0⟩); exact Or.inr (Or.inl ⟨by omega, w, j1, fun x => by have hrb : hrF b len c2 = b c2 := if_pos w; rw [hrb] at k6 k7 ; unfold posQ at x; rw [j2, j3, j4, j5] at x; omega⟩), by rw [k9]; omega⟩, fun k q1 q2 q3 => by rw [k13 k q1 q3]; exact hki k q1 q2 q3, fun d q1 q2 => (hsm d q1 q2).tr (k14 d q1 q2)⟩
    refine WM.pick [1, 0] rfl ?_
    exact lp4 _ (p + 1) 1 1 M3 (fun _ => 0) rfl (by omega) (by omega) hN0 (by omega) (by rw [eM3, gI_nk (by omega), eM2, gI_eq]) (by rw [eM3, gI_nk (by omega), eM2, gI_nk (by omega), eM1, gI_eq]) (by rw [eM3, gI_eq]; omega) (fun k q0 q1 => by omega) (fun k q1 q2 q3 => by rw [eM3, gI_nk q3, eM2, gI_nk q1, eM1, gI_nk q2]) (fun d q1 q2 => by rw [eM3, eM2, eM1]; exact ((Same.sI q1).tr (Same.sI q1)).tr (Same.sI q1)) (fun k q0 q1 => by rw [show k = p by omega]; unfold isLet at hlet; omega) (Nat.lt_succ_self _)
  refine r_aload_n B 0 dX6_isCommand_8 rfl ?_
  refine rg6_letter B hM.1 q_906 dX6_isCommand_9 ?_
  refine r_vi (y := b p) (by rw [eM1, gI_eq]) ?_
  refine r_bipush B (z := 103) dX6_isCommand_12 (by decide) ?_
  refine r_icmp_eq B dX6_isCommand_14 rfl ⟨by omega, by omega⟩ ⟨by omega, by omega⟩ (fun h17 => ?_) (fun h17 => ?_)
  · exact h64 (by unfold isLet; omega)
  · refine r_aload_n B 0 dX6_isCommand_17 rfl ?_
    refine rg6_letter B hM.1 q_906 dX6_isCommand_18 ?_
    refine r_vi (y := b p) (by rw [eM1, gI_eq]) ?_
    refine r_bipush B (z := 108) dX6_isCommand_21 (by decide) ?_
    refine r_icmp_eq B dX6_isCommand_23 rfl ⟨by omega, by omega⟩ ⟨by omega, by omega⟩ (fun h18 => ?_) (fun h18 => ?_)
    · exact h64 (by unfold isLet; omega)
    · refine r_aload_n B 0 dX6_isCommand_26 rfl ?_
      refine rg6_letter B hM.1 q_906 dX6_isCommand_27 ?_
      refine r_vi (y := b p) (by rw [eM1, gI_eq]) ?_
      refine r_bipush B (z := 114) dX6_isCommand_30 (by decide) ?_
      refine r_icmp_eq B dX6_isCommand_32 rfl ⟨by omega, by omega⟩ ⟨by omega, by omega⟩ (fun h19 => ?_) (fun h19 => ?_)
      · exact h64 (by unfold isLet; omega)
      · refine r_aload_n B 0 dX6_isCommand_35 rfl ?_
        refine rg6_letter B hM.1 q_906 dX6_isCommand_36 ?_
        refine r_vi (y := b p) (by rw [eM1, gI_eq]) ?_
        refine r_bipush B (z := 102) dX6_isCommand_39 (by decide) ?_
        refine r_icmp_eq B dX6_isCommand_41 rfl ⟨by omega, by omega⟩ ⟨by omega, by omega⟩ (fun h20 => ?_) (fun h20 => ?_)
        · exact h64 (by unfold isLet; omega)
        · refine r_aload_n B 0 dX6_isCommand_44 rfl ?_
          refine rg6_letter B hM.1 q_906 dX6_isCommand_45 ?_
          refine r_vi (y := b p) (by rw [eM1, gI_eq]) ?_
          refine r_bipush B (z := 112) dX6_isCommand_48 (by decide) ?_
          refine r_icmp_eq B dX6_isCommand_50 rfl ⟨by omega, by omega⟩ ⟨by omega, by omega⟩ (fun h21 => ?_) (fun h21 => ?_)
          · exact h64 (by unfold isLet; omega)
          · refine r_aload_n B 0 dX6_isCommand_53 rfl ?_
            refine rg6_letter B hM.1 q_906 dX6_isCommand_54 ?_
            refine r_vi (y := b p) (by rw [eM1, gI_eq]) ?_
            refine r_bipush B (z := 104) dX6_isCommand_57 (by decide) ?_
            refine r_icmp_eq B dX6_isCommand_59 rfl ⟨by omega, by omega⟩ ⟨by omega, by omega⟩ (fun h22 => ?_) (fun h22 => ?_)
            · exact h64 (by unfold isLet; omega)
            · refine r_iconst B dX6_isCommand_62 ?_
              exact r_zret B dX6_isCommand_63 (by omega) ⟨Or.inr ⟨rfl, by rw [eM1, gI_nk (by omega), hp]; exact Or.inr (Or.inl ⟨p0, p1, hok, fun x => by unfold posQ isLet at x; omega⟩), by rw [eM1, gI_nk (by omega), hp]; omega⟩, fun k q1 q2 q3 => by rw [eM1, gI_nk q2], fun d q1 q2 => by rw [eM1]; exact Same.sI q1⟩
