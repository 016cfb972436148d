set_option maxRecDepth 100000 in
set_option maxHeartbeats 4000000 in
theorem c_X4_leastNumbers (l : Launch) (G : Gs) (M : Mem) (a : Nat) (le : Int) (ha : IsText G a) (hle : gI M a 2 = le) (hl0 : -1000 ≤ le) (hl1 : le ≤ 1000) : Ct l G yX4_leastNumbers cX4_leastNumbers 1 (some .int) rm_X4_leastNumbers [.ref a] M (PoI G (Rd (mnN le) M)) 0 0 := by
  refine Ct.of (by decide +kernel) (Nat.le_of_ble_eq_true rfl) [(0, .ref a)] rfl ?_
  intro X B
  refine r_aload_n B 0 dX4_leastNumbers_0 rfl ?_
  refine rg4_letter B ha.1 q_121 dX4_leastNumbers_1 ?_
  refine r_vi (y := le) hle ?_
  by_cases w1 : le = 103
  · subst w1
    refine r_look B dX4_leastNumbers_4 (by decide) ⟨by omega, by omega⟩ (off := 36) (tgt := 40) rfl rfl ?_
    refine r_iconst B dX4_leastNumbers_40 ?_
    exact r_iret B dX4_leastNumbers_41 ⟨by unfold mnN; rw [if_pos rfl], rfl⟩
  · by_cases w2 : le = 104
    · subst w2
      refine r_look B dX4_leastNumbers_4 (by decide) ⟨by omega, by omega⟩ (off := 38) (tgt := 42) rfl rfl ?_
      refine r_iconst B dX4_leastNumbers_42 ?_
      exact r_iret B dX4_leastNumbers_43 ⟨by unfold mnN; rw [if_neg (by omega), if_pos (Or.inr rfl)], rfl⟩
    · by_cases w3 : le = 112
      · subst w3
        refine r_look B dX4_leastNumbers_4 (by decide) ⟨by omega, by omega⟩ (off := 38) (tgt := 42) rfl rfl ?_
        refine r_iconst B dX4_leastNumbers_42 ?_
        exact r_iret B dX4_leastNumbers_43 ⟨by unfold mnN; rw [if_neg (by omega), if_pos (Or.inl rfl)], rfl⟩
      · refine r_look B dX4_leastNumbers_4 (by decide) ⟨by omega, by omega⟩ (off := 40) (tgt := 44) (by show Op.lookupswitch.offset [(103, 36), (104, 38), (112, 38)] 40 le = 40; simp [Op.lookupswitch.offset, w1, w2, w3]; try omega) rfl ?_
        refine r_iconst B dX4_leastNumbers_44 ?_
        exact r_iret B dX4_leastNumbers_45 ⟨by unfold mnN; rw [if_neg w1, if_neg (fun q => q.elim w3 w2)], rfl⟩

set_option maxRecDepth 100000 in
set_option maxHeartbeats 4000000 in
theorem c_X4_mostNumbers (l : Launch) (G : Gs) (M : Mem) (a : Nat) (le : Int) (ha : IsText G a) (hle : gI M a 2 = le) (hl0 : -1000 ≤ le) (hl1 : le ≤ 1000) : Ct l G yX4_mostNumbers cX4_mostNumbers 1 (some .int) rm_X4_mostNumbers [.ref a] M (PoI G (Rd (mxN le) M)) 0 0 := by
  refine Ct.of (by decide +kernel) (Nat.le_of_ble_eq_true rfl) [(0, .ref a)] rfl ?_
  intro X B
  refine r_aload_n B 0 dX4_mostNumbers_0 rfl ?_
  refine rg4_letter B ha.1 q_121 dX4_mostNumbers_1 ?_
  refine r_vi (y := le) hle ?_
  by_cases w1 : le = 103
  · subst w1
    refine r_look B dX4_mostNumbers_4 (by decide) ⟨by omega, by omega⟩ (off := 36) (tgt := 40) rfl rfl ?_
    refine r_iconst B dX4_mostNumbers_40 ?_
    exact r_iret B dX4_mostNumbers_41 ⟨by unfold mxN; rw [if_pos rfl], rfl⟩
  · by_cases w2 : le = 104
    · subst w2
      refine r_look B dX4_mostNumbers_4 (by decide) ⟨by omega, by omega⟩ (off := 38) (tgt := 42) rfl rfl ?_
      refine r_bipush B (z := 12) dX4_mostNumbers_42 (by decide) ?_
      exact r_iret B dX4_mostNumbers_44 ⟨by unfold mxN; rw [if_neg (by omega), if_pos (Or.inr rfl)], rfl⟩
    · by_cases w3 : le = 112
      · subst w3
        refine r_look B dX4_mostNumbers_4 (by decide) ⟨by omega, by omega⟩ (off := 38) (tgt := 42) rfl rfl ?_
        refine r_bipush B (z := 12) dX4_mostNumbers_42 (by decide) ?_
        exact r_iret B dX4_mostNumbers_44 ⟨by unfold mxN; rw [if_neg (by omega), if_pos (Or.inl rfl)], rfl⟩
      · refine r_look B dX4_mostNumbers_4 (by decide) ⟨by omega, by omega⟩ (off := 41) (tgt := 45) (by show Op.lookupswitch.offset [(103, 36), (104, 38), (112, 38)] 41 le = 41; simp [Op.lookupswitch.offset, w1, w2, w3]; try omega) rfl ?_
        refine r_sipush B (z := 160) dX4_mostNumbers_45 (by decide) ?_
        exact r_iret B dX4_mostNumbers_48 ⟨by unfold mxN; rw [if_neg w1, if_neg (fun q => q.elim w3 w2)], rfl⟩

set_option maxRecDepth 100000 in
set_option maxHeartbeats 4000000 in
theorem c_X4_isPossible (l : Launch) (G : Gs) (M : Mem) (a : Nat) (q : Sq) (c j : Int) (ha : IsText G a) (hq : TxS M a q) (hi : AuI q j) (hj : j ≤ 160) (hc0 : 0 ≤ c) (hc1 : c ≤ 127) : Ct l G yX4_isPossible cX4_isPossible 2 (some .boolean) rm_X4_isPossible [.ref a, .int (iI c)] M (PoI G (fun r M' => ((posQ q c ∧ r = 1) ∨ (¬ posQ q c ∧ r = 0)) ∧ M' = M)) 0 0 := by
  refine Ct.of (by decide +kernel) (Nat.le_of_ble_eq_true rfl) [(0, .ref a), (1, .int (iI c))] rfl ?_
  intro X B
  have hlb : -1000 ≤ q.1 ∧ q.1 ≤ 1000 := by
    rcases hi with w | w
    · omega
    · have := w.1; unfold isLet at this; omega
  have hdb : ¬ q.1 = 0 → 0 ≤ q.2.1 ∧ q.2.1 ≤ 161 ∧ 0 ≤ q.2.2.1 ∧ q.2.2.1 ≤ 4 ∧ 0 ≤ q.2.2.2.1 ∧ q.2.2.2.1 ≤ 1 := fun n0 => by
    rcases hi with w | ⟨w1, w2, w3, w4, w5, w6, w7, w8, -⟩
    · exact absurd w n0
    · omega
  refine r_aload_n B 0 dX4_isPossible_0 rfl ?_
  refine rg4_letter B ha.1 q_121 dX4_isPossible_1 ?_
  refine r_vi (y := q.1) hq.1 ?_
  refine r_if_ne B dX4_isPossible_4 rfl ⟨by omega, by omega⟩ (fun h1 => ?_) (fun h1 => ?_)
  · have hl : ¬ q.1 = 0 := h1
    have hmx := mxN_in q.1
    have hmn := mnN_in q.1
    refine r_iload_n B 1 dX4_isPossible_49 rfl ?_
    refine r_bipush B (z := 48) dX4_isPossible_50 (by decide) ?_
    refine r_icmp_lt B dX4_isPossible_52 rfl ⟨by omega, by omega⟩ ⟨by omega, by omega⟩ (fun h2 => ?_) (fun h2 => ?_)
    · refine r_iload_n B 1 dX4_isPossible_75 rfl ?_
      by_cases w1 : c = 44
      · subst w1
        refine r_look B dX4_isPossible_76 (by decide) ⟨by omega, by omega⟩ (off := 56) (tgt := 132) rfl rfl ?_
        refine r_aload_n B 0 dX4_isPossible_132 rfl ?_
        refine rg4_digits B ha.1 q_127 dX4_isPossible_133 ?_
        refine r_vi (y := q.2.2.1) (hq.2 hl).2.1 ?_
        refine r_if_le B dX4_isPossible_136 rfl ⟨by omega, by omega⟩ (fun h3 => ?_) (fun h3 => ?_)
        · refine r_iconst B dX4_isPossible_154 ?_
          exact r_zret B dX4_isPossible_155 (by omega) ⟨Or.inr ⟨by unfold posQ isLet; omega, rfl⟩, rfl⟩
        · refine r_aload_n B 0 dX4_isPossible_139 rfl ?_
          refine rg4_numbers B ha.1 q_123 dX4_isPossible_140 ?_
          refine r_vi (y := q.2.1) (hq.2 hl).1 ?_
          refine r_aload_n B 0 dX4_isPossible_143 rfl ?_
          refine r_pVi0 B (c_X4_mostNumbers l G M a q.1 ha hq.1 (by omega) (by omega)) ⟨rfl, rfl⟩ ok_X4_mostNumbers vi_X4_mostNumbers q_223 ha.1 rfl (fun _ => rfl) ⟨Nat.le_of_ble_eq_true rfl, Nat.le_of_ble_eq_true rfl, Nat.le_of_ble_eq_true rfl⟩ ⟨Nat.le_of_ble_eq_true rfl, Nat.le_of_ble_eq_true rfl⟩ dX4_isPossible_144 ?_
          refine r_icmp_ge B dX4_isPossible_147 rfl ⟨by omega, by omega⟩ ⟨by omega, by omega⟩ (fun h4 => ?_) (fun h4 => ?_)
          · refine r_iconst B dX4_isPossible_154 ?_
            exact r_zret B dX4_isPossible_155 (by omega) ⟨Or.inr ⟨by unfold posQ isLet; omega, rfl⟩, rfl⟩
          · refine r_iconst B dX4_isPossible_150 ?_
            refine r_goto B dX4_isPossible_151 rfl ?_
            exact r_zret B dX4_isPossible_155 (by omega) ⟨Or.inl ⟨by unfold posQ isLet; omega, rfl⟩, rfl⟩
      · by_cases w2 : c = 45
        · subst w2
          refine r_look B dX4_isPossible_76 (by decide) ⟨by omega, by omega⟩ (off := 36) (tgt := 112) rfl rfl ?_
          refine r_aload_n B 0 dX4_isPossible_112 rfl ?_
          refine rg4_digits B ha.1 q_127 dX4_isPossible_113 ?_
          refine r_vi (y := q.2.2.1) (hq.2 hl).2.1 ?_
          refine r_if_ne B dX4_isPossible_116 rfl ⟨by omega, by omega⟩ (fun h5 => ?_) (fun h5 => ?_)
          · refine r_iconst B dX4_isPossible_130 ?_
            exact r_zret B dX4_isPossible_131 (by omega) ⟨Or.inr ⟨by unfold posQ isLet; omega, rfl⟩, rfl⟩
          · refine r_aload_n B 0 dX4_isPossible_119 rfl ?_
            refine rg4_negative B ha.1 q_128 dX4_isPossible_120 ?_
            refine r_vi (y := q.2.2.2.1) (hq.2 hl).2.2.1 ?_
            refine r_if_ne B dX4_isPossible_123 rfl ⟨by omega, by omega⟩ (fun h6 => ?_) (fun h6 => ?_)
            · refine r_iconst B dX4_isPossible_130 ?_
              exact r_zret B dX4_isPossible_131 (by omega) ⟨Or.inr ⟨by unfold posQ isLet; omega, rfl⟩, rfl⟩
            · refine r_iconst B dX4_isPossible_126 ?_
              refine r_goto B dX4_isPossible_127 rfl ?_
              exact r_zret B dX4_isPossible_131 (by omega) ⟨Or.inl ⟨by unfold posQ isLet; omega, rfl⟩, rfl⟩
        · by_cases w3 : c = 59
          · subst w3
            refine r_look B dX4_isPossible_76 (by decide) ⟨by omega, by omega⟩ (off := 80) (tgt := 156) rfl rfl ?_
            refine r_aload_n B 0 dX4_isPossible_156 rfl ?_
            refine rg4_digits B ha.1 q_127 dX4_isPossible_157 ?_
            refine r_vi (y := q.2.2.1) (hq.2 hl).2.1 ?_
            refine r_if_le B dX4_isPossible_160 rfl ⟨by omega, by omega⟩ (fun h7 => ?_) (fun h7 => ?_)
            · refine r_iconst B dX4_isPossible_178 ?_
              exact r_zret B dX4_isPossible_179 (by omega) ⟨Or.inr ⟨by unfold posQ isLet; omega, rfl⟩, rfl⟩
            · refine r_aload_n B 0 dX4_isPossible_163 rfl ?_
              refine rg4_numbers B ha.1 q_123 dX4_isPossible_164 ?_
              refine r_vi (y := q.2.1) (hq.2 hl).1 ?_
              refine r_aload_n B 0 dX4_isPossible_167 rfl ?_
              refine r_pVi0 B (c_X4_leastNumbers l G M a q.1 ha hq.1 (by omega) (by omega)) ⟨rfl, rfl⟩ ok_X4_leastNumbers vi_X4_leastNumbers q_227 ha.1 rfl (fun _ => rfl) ⟨Nat.le_of_ble_eq_true rfl, Nat.le_of_ble_eq_true rfl, Nat.le_of_ble_eq_true rfl⟩ ⟨Nat.le_of_ble_eq_true rfl, Nat.le_of_ble_eq_true rfl⟩ dX4_isPossible_168 ?_
              refine r_icmp_lt B dX4_isPossible_171 rfl ⟨by omega, by omega⟩ ⟨by omega, by omega⟩ (fun h8 => ?_) (fun h8 => ?_)
              · refine r_iconst B dX4_isPossible_178 ?_
                exact r_zret B dX4_isPossible_179 (by omega) ⟨Or.inr ⟨by unfold posQ isLet; omega, rfl⟩, rfl⟩
              · refine r_iconst B dX4_isPossible_174 ?_
                refine r_goto B dX4_isPossible_175 rfl ?_
                exact r_zret B dX4_isPossible_179 (by omega) ⟨Or.inl ⟨by unfold posQ isLet; omega, rfl⟩, rfl⟩
          · refine r_look B dX4_isPossible_76 (by decide) ⟨by omega, by omega⟩ (off := 104) (tgt := 180) (by show Op.lookupswitch.offset [(44, 56), (45, 36), (59, 80)] 104 c = 104; simp [Op.lookupswitch.offset, w1, w2, w3]; try omega) rfl ?_
            refine r_iconst B dX4_isPossible_180 ?_
            exact r_zret B dX4_isPossible_181 (by omega) ⟨Or.inr ⟨by unfold posQ isLet; omega, rfl⟩, rfl⟩
    · refine r_iload_n B 1 dX4_isPossible_55 rfl ?_
      refine r_bipush B (z := 57) dX4_isPossible_56 (by decide) ?_
      refine r_icmp_gt B dX4_isPossible_58 rfl ⟨by omega, by omega⟩ ⟨by omega, by omega⟩ (fun h9 => ?_) (fun h9 => ?_)
      · refine r_iload_n B 1 dX4_isPossible_75 rfl ?_
        by_cases w1 : c = 44
        · subst w1
          refine r_look B dX4_isPossible_76 (by decide) ⟨by omega, by omega⟩ (off := 56) (tgt := 132) rfl rfl ?_
          refine r_aload_n B 0 dX4_isPossible_132 rfl ?_
          refine rg4_digits B ha.1 q_127 dX4_isPossible_133 ?_
          refine r_vi (y := q.2.2.1) (hq.2 hl).2.1 ?_
          refine r_if_le B dX4_isPossible_136 rfl ⟨by omega, by omega⟩ (fun h10 => ?_) (fun h10 => ?_)
          · refine r_iconst B dX4_isPossible_154 ?_
            exact r_zret B dX4_isPossible_155 (by omega) ⟨Or.inr ⟨by unfold posQ isLet; omega, rfl⟩, rfl⟩
          · refine r_aload_n B 0 dX4_isPossible_139 rfl ?_
            refine rg4_numbers B ha.1 q_123 dX4_isPossible_140 ?_
            refine r_vi (y := q.2.1) (hq.2 hl).1 ?_
            refine r_aload_n B 0 dX4_isPossible_143 rfl ?_
            refine r_pVi0 B (c_X4_mostNumbers l G M a q.1 ha hq.1 (by omega) (by omega)) ⟨rfl, rfl⟩ ok_X4_mostNumbers vi_X4_mostNumbers q_223 ha.1 rfl (fun _ => rfl) ⟨Nat.le_of_ble_eq_true rfl, Nat.le_of_ble_eq_true rfl, Nat.le_of_ble_eq_true rfl⟩ ⟨Nat.le_of_ble_eq_true rfl, Nat.le_of_ble_eq_true rfl⟩ dX4_isPossible_144 ?_
            refine r_icmp_ge B dX4_isPossible_147 rfl ⟨by omega, by omega⟩ ⟨by omega, by omega⟩ (fun h11 => ?_) (fun h11 => ?_)
            · refine r_iconst B dX4_isPossible_154 ?_
              exact r_zret B dX4_isPossible_155 (by omega) ⟨Or.inr ⟨by unfold posQ isLet; omega, rfl⟩, rfl⟩
            · refine r_iconst B dX4_isPossible_150 ?_
              refine r_goto B dX4_isPossible_151 rfl ?_
              exact r_zret B dX4_isPossible_155 (by omega) ⟨Or.inl ⟨by unfold posQ isLet; omega, rfl⟩, rfl⟩
        · by_cases w2 : c = 45
          · subst w2
            refine r_look B dX4_isPossible_76 (by decide) ⟨by omega, by omega⟩ (off := 36) (tgt := 112) rfl rfl ?_
            refine r_aload_n B 0 dX4_isPossible_112 rfl ?_
            refine rg4_digits B ha.1 q_127 dX4_isPossible_113 ?_
            refine r_vi (y := q.2.2.1) (hq.2 hl).2.1 ?_
            refine r_if_ne B dX4_isPossible_116 rfl ⟨by omega, by omega⟩ (fun h12 => ?_) (fun h12 => ?_)
            · refine r_iconst B dX4_isPossible_130 ?_
              exact r_zret B dX4_isPossible_131 (by omega) ⟨Or.inr ⟨by unfold posQ isLet; omega, rfl⟩, rfl⟩
            · refine r_aload_n B 0 dX4_isPossible_119 rfl ?_
              refine rg4_negative B ha.1 q_128 dX4_isPossible_120 ?_
              refine r_vi (y := q.2.2.2.1) (hq.2 hl).2.2.1 ?_
              refine r_if_ne B dX4_isPossible_123 rfl ⟨by omega, by omega⟩ (fun h13 => ?_) (fun h13 => ?_)
              · refine r_iconst B dX4_isPossible_130 ?_
                exact r_zret B dX4_isPossible_131 (by omega) ⟨Or.inr ⟨by unfold posQ isLet; omega, rfl⟩, rfl⟩
              · refine r_iconst B dX4_isPossible_126 ?_
                refine r_goto B dX4_isPossible_127 rfl ?_
                exact r_zret B dX4_isPossible_131 (by omega) ⟨Or.inl ⟨by unfold posQ isLet; omega, rfl⟩, rfl⟩
          · by_cases w3 : c = 59
            · subst w3
              refine r_look B dX4_isPossible_76 (by decide) ⟨by omega, by omega⟩ (off := 80) (tgt := 156) rfl rfl ?_
              refine r_aload_n B 0 dX4_isPossible_156 rfl ?_
              refine rg4_digits B ha.1 q_127 dX4_isPossible_157 ?_
              refine r_vi (y := q.2.2.1) (hq.2 hl).2.1 ?_
              refine r_if_le B dX4_isPossible_160 rfl ⟨by omega, by omega⟩ (fun h14 => ?_) (fun h14 => ?_)
              · refine r_iconst B dX4_isPossible_178 ?_
                exact r_zret B dX4_isPossible_179 (by omega) ⟨Or.inr ⟨by unfold posQ isLet; omega, rfl⟩, rfl⟩
              · refine r_aload_n B 0 dX4_isPossible_163 rfl ?_
                refine rg4_numbers B ha.1 q_123 dX4_isPossible_164 ?_
                refine r_vi (y := q.2.1) (hq.2 hl).1 ?_
                refine r_aload_n B 0 dX4_isPossible_167 rfl ?_
                refine r_pVi0 B (c_X4_leastNumbers l G M a q.1 ha hq.1 (by omega) (by omega)) ⟨rfl, rfl⟩ ok_X4_leastNumbers vi_X4_leastNumbers q_227 ha.1 rfl (fun _ => rfl) ⟨Nat.le_of_ble_eq_true rfl, Nat.le_of_ble_eq_true rfl, Nat.le_of_ble_eq_true rfl⟩ ⟨Nat.le_of_ble_eq_true rfl, Nat.le_of_ble_eq_true rfl⟩ dX4_isPossible_168 ?_
                refine r_icmp_lt B dX4_isPossible_171 rfl ⟨by omega, by omega⟩ ⟨by omega, by omega⟩ (fun h15 => ?_) (fun h15 => ?_)
                · refine r_iconst B dX4_isPossible_178 ?_
                  exact r_zret B dX4_isPossible_179 (by omega) ⟨Or.inr ⟨by unfold posQ isLet; omega, rfl⟩, rfl⟩
                · refine r_iconst B dX4_isPossible_174 ?_
                  refine r_goto B dX4_isPossible_175 rfl ?_
                  exact r_zret B dX4_isPossible_179 (by omega) ⟨Or.inl ⟨by unfold posQ isLet; omega, rfl⟩, rfl⟩
            · refine r_look B dX4_isPossible_76 (by decide) ⟨by omega, by omega⟩ (off := 104) (tgt := 180) (by show Op.lookupswitch.offset [(44, 56), (45, 36), (59, 80)] 104 c = 104; simp [Op.lookupswitch.offset, w1, w2, w3]; try omega) rfl ?_
              refine r_iconst B dX4_isPossible_180 ?_
              exact r_zret B dX4_isPossible_181 (by omega) ⟨Or.inr ⟨by unfold posQ isLet; omega, rfl⟩, rfl⟩
      · refine r_aload_n B 0 dX4_isPossible_61 rfl ?_
        refine rg4_digits B ha.1 q_127 dX4_isPossible_62 ?_
        refine r_vi (y := q.2.2.1) (hq.2 hl).2.1 ?_
        refine r_iconst B dX4_isPossible_65 ?_
        refine r_icmp_ge B dX4_isPossible_66 rfl ⟨by omega, by omega⟩ ⟨by omega, by omega⟩ (fun h16 => ?_) (fun h16 => ?_)
        · refine r_iconst B dX4_isPossible_73 ?_
          exact r_zret B dX4_isPossible_74 (by omega) ⟨Or.inr ⟨by unfold posQ isLet; omega, rfl⟩, rfl⟩
        · refine r_iconst B dX4_isPossible_69 ?_
          refine r_goto B dX4_isPossible_70 rfl ?_
          exact r_zret B dX4_isPossible_74 (by omega) ⟨Or.inl ⟨by unfold posQ isLet; omega, rfl⟩, rfl⟩
  · refine r_iload_n B 1 dX4_isPossible_7 rfl ?_
    refine r_bipush B (z := 103) dX4_isPossible_8 (by decide) ?_
    refine r_icmp_eq B dX4_isPossible_10 rfl ⟨by omega, by omega⟩ ⟨by omega, by omega⟩ (fun h17 => ?_) (fun h17 => ?_)
    · refine r_iconst B dX4_isPossible_43 ?_
      refine r_goto B dX4_isPossible_44 rfl ?_
      exact r_zret B dX4_isPossible_48 (by omega) ⟨Or.inl ⟨by unfold posQ isLet; omega, rfl⟩, rfl⟩
    · refine r_iload_n B 1 dX4_isPossible_13 rfl ?_
      refine r_bipush B (z := 108) dX4_isPossible_14 (by decide) ?_
      refine r_icmp_eq B dX4_isPossible_16 rfl ⟨by omega, by omega⟩ ⟨by omega, by omega⟩ (fun h18 => ?_) (fun h18 => ?_)
      · refine r_iconst B dX4_isPossible_43 ?_
        refine r_goto B dX4_isPossible_44 rfl ?_
        exact r_zret B dX4_isPossible_48 (by omega) ⟨Or.inl ⟨by unfold posQ isLet; omega, rfl⟩, rfl⟩
      · refine r_iload_n B 1 dX4_isPossible_19 rfl ?_
        refine r_bipush B (z := 114) dX4_isPossible_20 (by decide) ?_
        refine r_icmp_eq B dX4_isPossible_22 rfl ⟨by omega, by omega⟩ ⟨by omega, by omega⟩ (fun h19 => ?_) (fun h19 => ?_)
        · refine r_iconst B dX4_isPossible_43 ?_
          refine r_goto B dX4_isPossible_44 rfl ?_
          exact r_zret B dX4_isPossible_48 (by omega) ⟨Or.inl ⟨by unfold posQ isLet; omega, rfl⟩, rfl⟩
        · refine r_iload_n B 1 dX4_isPossible_25 rfl ?_
          refine r_bipush B (z := 102) dX4_isPossible_26 (by decide) ?_
          refine r_icmp_eq B dX4_isPossible_28 rfl ⟨by omega, by omega⟩ ⟨by omega, by omega⟩ (fun h20 => ?_) (fun h20 => ?_)
          · refine r_iconst B dX4_isPossible_43 ?_
            refine r_goto B dX4_isPossible_44 rfl ?_
            exact r_zret B dX4_isPossible_48 (by omega) ⟨Or.inl ⟨by unfold posQ isLet; omega, rfl⟩, rfl⟩
          · refine r_iload_n B 1 dX4_isPossible_31 rfl ?_
            refine r_bipush B (z := 112) dX4_isPossible_32 (by decide) ?_
            refine r_icmp_eq B dX4_isPossible_34 rfl ⟨by omega, by omega⟩ ⟨by omega, by omega⟩ (fun h21 => ?_) (fun h21 => ?_)
            · refine r_iconst B dX4_isPossible_43 ?_
              refine r_goto B dX4_isPossible_44 rfl ?_
              exact r_zret B dX4_isPossible_48 (by omega) ⟨Or.inl ⟨by unfold posQ isLet; omega, rfl⟩, rfl⟩
            · refine r_iload_n B 1 dX4_isPossible_37 rfl ?_
              refine r_bipush B (z := 104) dX4_isPossible_38 (by decide) ?_
              refine r_icmp_ne B dX4_isPossible_40 rfl ⟨by omega, by omega⟩ ⟨by omega, by omega⟩ (fun h22 => ?_) (fun h22 => ?_)
              · refine r_iconst B dX4_isPossible_47 ?_
                exact r_zret B dX4_isPossible_48 (by omega) ⟨Or.inr ⟨by unfold posQ isLet; omega, rfl⟩, rfl⟩
              · refine r_iconst B dX4_isPossible_43 ?_
                refine r_goto B dX4_isPossible_44 rfl ?_
                exact r_zret B dX4_isPossible_48 (by omega) ⟨Or.inl ⟨by unfold posQ isLet; omega, rfl⟩, rfl⟩

set_option maxRecDepth 100000 in
set_option maxHeartbeats 4000000 in
theorem c_X4_startNumber (l : Launch) (G : Gs) (M : Mem) (a : Nat) (nu : Int) (ha : IsText G a) (hnu : gI M a 3 = nu) (hn0 : 0 ≤ nu) (hn1 : nu < 160) : Ct l G yX4_startNumber cX4_startNumber 1 (none) rm_X4_startNumber [.ref a] M (PoV G (fun M' => M' = sI (sI (sI (sI M (a + 2) nu 0) a 3 (nu + 1)) a 5 0) a 6 0)) 0 0 := by
  refine Ct.of (by decide +kernel) (Nat.le_of_ble_eq_true rfl) [(0, .ref a)] rfl ?_
  intro X B
  refine r_aload_n B 0 dX4_startNumber_0 rfl ?_
  refine rg4_numbers B ha.1 q_123 dX4_startNumber_1 ?_
  refine r_vi (y := nu) hnu ?_
  refine r_sipush B (z := 160) dX4_startNumber_4 (by decide) ?_
  refine r_icmp_ge B dX4_startNumber_7 rfl ⟨by omega, by omega⟩ ⟨by omega, by omega⟩ (fun h1 => ?_) (fun h1 => ?_)
  · omega
  · refine r_aload_n B 0 dX4_startNumber_10 rfl ?_
    refine rg4_values B ha.1 q_125 dX4_startNumber_11 ?_
    refine r_aload_n B 0 dX4_startNumber_14 rfl ?_
    refine rg4_numbers B ha.1 q_123 dX4_startNumber_15 ?_
    refine r_vi (y := nu) hnu ?_
    refine r_iconst B dX4_startNumber_18 ?_
    refine r_iastore B dX4_startNumber_19 ha.2.2 (by omega) (by omega) ?_
    refine WM.nm (fun M2 eM2 => ?_)
    refine r_aload_n B 0 dX4_startNumber_20 rfl ?_
    refine r_dup B dX4_startNumber_21 rfl ?_
    refine rg4_numbers B ha.1 q_123 dX4_startNumber_22 ?_
    refine r_vi (y := nu) (by rw [eM2, gI_ne (by omega)]; exact hnu) ?_
    refine r_iconst B dX4_startNumber_25 ?_
    refine r_iadd B dX4_startNumber_26 ?_
    refine rp4_numbers B ha.1 q_123 dX4_startNumber_27 ?_
    refine WM.nm (fun M3 eM3 => ?_)
    refine r_aload_n B 0 dX4_startNumber_30 rfl ?_
    refine r_iconst B dX4_startNumber_31 ?_
    refine rp4_digits B ha.1 q_127 dX4_startNumber_32 ?_
    refine WM.nm (fun M4 eM4 => ?_)
    refine r_aload_n B 0 dX4_startNumber_35 rfl ?_
    refine r_iconst B dX4_startNumber_36 ?_
    refine rp4_negative B (by omega) ha.1 q_128 dX4_startNumber_37 ?_
    refine WM.nm (fun M5 eM5 => ?_)
    exact r_vret B dX4_startNumber_40 (by rw [eM5, eM4, eM3, eM2])

set_option maxRecDepth 100000 in
set_option maxHeartbeats 4000000 in
theorem c_X4_isInRange (l : Launch) (G : Gs) (M : Mem) (a : Nat) (nu : Int) (va : Int → Int) (ha : IsText G a) (hnu : gI M a 3 = nu) (hva : ∀ k : Int, 0 ≤ k → k < nu → gI M (a + 2) k = va k) (hn0 : 0 ≤ nu) (hn1 : nu ≤ 160) (hvb : ∀ k : Int, 0 ≤ k → k < nu → -9999 ≤ va k ∧ va k ≤ 9999) : Ct l G yX4_isInRange cX4_isInRange 2 (some .boolean) rm_X4_isInRange [.ref a] M (PoI G (fun r M' => (((∀ k : Int, 0 ≤ k → k < nu → -5000 ≤ va k ∧ va k ≤ 5000) ∧ r = 1) ∨ ((¬ ∀ k : Int, 0 ≤ k → k < nu → -5000 ≤ va k ∧ va k ≤ 5000) ∧ r = 0)) ∧ M' = M)) 0 0 := by
  refine Ct.of (by decide +kernel) (Nat.le_of_ble_eq_true rfl) [(0, .ref a)] rfl ?_
  intro X B
  refine r_iconst B dX4_isInRange_0 ?_
  refine r_istore_n B (lv' := [(1, .int (iI 0)), (0, .ref a)]) dX4_isInRange_1 (by decide) rfl ?_
  have lp1 : ∀ (nlp1 : Nat) (i : Int) (hi0 : 0 ≤ i) (hi1 : i ≤ nu) (hx : ∀ k : Int, 0 ≤ k → k < i → -5000 ≤ va k ∧ va k ≤ 5000), (nu - i).toNat < nlp1 → WM G X 0 0 (bM X (PoI G (fun r M' => (((∀ k : Int, 0 ≤ k → k < nu → -5000 ≤ va k ∧ va k ≤ 5000) ∧ r = 1) ∨ ((¬ ∀ k : Int, 0 ≤ k → k < nu → -5000 ≤ va k ∧ va k ≤ 5000) ∧ r = 0)) ∧ M' = M)) 0 0 G) M 2 [(0, .ref a), (1, .int (iI i))] [] := by
    intro nlp1
    induction nlp1 with
    | zero => intro i hi0 hi1 hx hm; omega
    | succ nlp1 ihlp1 =>
      intro i hi0 hi1 hx hm
      refine r_iload_n B 1 dX4_isInRange_2 rfl ?_
      refine r_aload_n B 0 dX4_isInRange_3 rfl ?_
      refine rg4_numbers B ha.1 q_123 dX4_isInRange_4 ?_
      refine r_vi (y := nu) hnu ?_
      refine r_icmp_ge B dX4_isInRange_7 rfl ⟨by omega, by omega⟩ ⟨by omega, by omega⟩ (fun h2 => ?_) (fun h2 => ?_)
      · refine r_iconst B dX4_isInRange_30 ?_
        exact r_zret B dX4_isInRange_31 (by omega) ⟨Or.inl ⟨fun k p q => hx k p (by omega), rfl⟩, rfl⟩
      · have hb := hvb i (by omega) (by omega)
        have hb2 : 0 ≤ inB (va i) ∧ inB (va i) ≤ 1 := by unfold inB; split <;> omega
        refine r_aload_n B 0 dX4_isInRange_10 rfl ?_
        refine rg4_values B ha.1 q_125 dX4_isInRange_11 ?_
        refine r_iload_n B 1 dX4_isInRange_14 rfl ?_
        refine r_iaload B dX4_isInRange_15 ha.2.2 (by omega) (by omega) ?_
        refine r_vi (y := va i) (hva i (by omega) (by omega)) ?_
        refine r_pNz1 B (host := "GearGauge") (c_X5_isDeviation l G M (va i) ⟨by omega, by omega⟩) ⟨rfl, rfl⟩ ok_X5_isDeviation q_291 (by decide) ⟨Nat.le_of_ble_eq_true rfl, Nat.le_of_ble_eq_true rfl, Nat.le_of_ble_eq_true rfl⟩ ⟨Nat.le_of_ble_eq_true rfl, Nat.le_of_ble_eq_true rfl⟩ dX4_isInRange_16 ?_
        refine r_if_ne B dX4_isInRange_19 rfl ⟨by omega, by omega⟩ (fun h3 => ?_) (fun h3 => ?_)
        · have hr : -5000 ≤ va i ∧ va i ≤ 5000 := Decidable.byContradiction (fun q => h3 (by unfold inB; rw [if_neg q]))
          refine r_iinc B (lv' := [(1, .int (iI (i + 1))), (0, .ref a)]) dX4_isInRange_24 (j := 1) rfl (by decide) rfl ?_
          refine r_goto B dX4_isInRange_27 rfl ?_
          refine WM.pick [1, 0] rfl ?_
          refine ihlp1 (i + 1) (by omega) (by omega) ?_ (by omega)
          · intro k p q
            rcases (show k < i ∨ k = i by omega) with w | w
            · exact hx k p w
            · rw [w]; exact hr
        · refine r_iconst B dX4_isInRange_22 ?_
          have hr : ¬ ∀ k : Int, 0 ≤ k → k < nu → -5000 ≤ va k ∧ va k ≤ 5000 := fun q => by
            have q2 := q i (by omega) (by omega)
            unfold inB at h3
            rw [if_pos q2] at h3
            omega
          exact r_zret B dX4_isInRange_23 (by omega) ⟨Or.inr ⟨hr, rfl⟩, rfl⟩
  refine WM.pick [1, 0] rfl ?_
  exact lp1 _ 0 (by omega) (by omega) (fun k p q => absurd q (by omega)) (Nat.lt_succ_self _)

set_option maxRecDepth 100000 in
set_option maxHeartbeats 4000000 in
theorem c_X4_rewind (l : Launch) (G : Gs) (M : Mem) (a : Nat) (ha : IsText G a) : Ct l G yX4_rewind cX4_rewind 1 (none) rm_X4_rewind [.ref a] M (PoV G (fun M' => M' = sI M a 7 0)) 0 0 := by
  refine Ct.of (by decide +kernel) (Nat.le_of_ble_eq_true rfl) [(0, .ref a)] rfl ?_
  intro X B
  refine r_aload_n B 0 dX4_rewind_0 rfl ?_
  refine r_iconst B dX4_rewind_1 ?_
  refine rp4_cursor B ha.1 q_129 dX4_rewind_2 ?_
  refine WM.nm (fun M1 eM1 => ?_)
  exact r_vret B dX4_rewind_5 eM1

set_option maxRecDepth 100000 in
set_option maxHeartbeats 4000000 in
theorem c_X4_take (l : Launch) (G : Gs) (M : Mem) (a : Nat) (q : Sq) (c : Int) (ha : IsText G a) (hq : TxS M a q) (hnu : ¬ q.1 = 0 → 1 ≤ q.2.1 ∧ q.2.1 < 160 ∧ 0 ≤ q.2.2.2.1 ∧ q.2.2.2.1 ≤ 1) (hlb : -1000 ≤ q.1 ∧ q.1 ≤ 1000) (hc0 : 0 ≤ c) (hc1 : c ≤ 127) : Ct l G yX4_take cX4_take 3 (none) rm_X4_take [.ref a, .int (iI c)] M (PoV G (fun M' => TxS M' a (tkQ q c) ∧ Scan M M' a ∧ gI M' a 7 = gI M a 7)) 0 0 := by
  refine Ct.of (by decide +kernel) (Nat.le_of_ble_eq_true rfl) [(0, .ref a), (1, .int (iI c))] rfl ?_
  intro X B
  refine r_aload_n B 0 dX4_take_0 rfl ?_
  refine rg4_letter B ha.1 q_121 dX4_take_1 ?_
  refine r_vi (y := q.1) hq.1 ?_
  refine r_if_ne B dX4_take_4 rfl ⟨by omega, by omega⟩ (fun h1 => ?_) (fun h1 => ?_)
  · have hl : ¬ q.1 = 0 := h1
    have hnb := hnu hl
    refine r_iload_n B 1 dX4_take_24 rfl ?_
    refine r_bipush B (z := 44) dX4_take_25 (by decide) ?_
    refine r_icmp_ne B dX4_take_27 rfl ⟨by omega, by omega⟩ ⟨by omega, by omega⟩ (fun h2 => ?_) (fun h2 => ?_)
    · refine r_iload_n B 1 dX4_take_37 rfl ?_
      refine r_bipush B (z := 45) dX4_take_38 (by decide) ?_
      refine r_icmp_ne B dX4_take_40 rfl ⟨by omega, by omega⟩ ⟨by omega, by omega⟩ (fun h3 => ?_) (fun h3 => ?_)
      · refine r_aload_n B 0 dX4_take_51 rfl ?_
        refine rg4_numbers B ha.1 q_123 dX4_take_52 ?_
        refine r_vi (y := q.2.1) (hq.2 hl).1 ?_
        refine r_if_le B dX4_take_55 rfl ⟨by omega, by omega⟩ (fun h4 => ?_) (fun h4 => ?_)
        · omega
        · refine r_iload_n B 1 dX4_take_58 rfl ?_
          refine r_bipush B (z := 48) dX4_take_59 (by decide) ?_
          refine r_isub B dX4_take_61 ?_
          refine r_istore_n B (lv' := [(2, .int (iI (c - 48))), (0, .ref a), (1, .int (iI c))]) dX4_take_62 (by decide) rfl ?_
          refine r_aload_n B 1 dX4_take_63 rfl ?_
          refine rg4_values B ha.1 q_125 dX4_take_64 ?_
          refine r_aload_n B 1 dX4_take_67 rfl ?_
          refine rg4_numbers B ha.1 q_123 dX4_take_68 ?_
          refine r_vi (y := q.2.1) (hq.2 hl).1 ?_
          refine r_iconst B dX4_take_71 ?_
          refine r_isub B dX4_take_72 ?_
          refine r_aload_n B 1 dX4_take_73 rfl ?_
          refine rg4_values B ha.1 q_125 dX4_take_74 ?_
          refine r_aload_n B 1 dX4_take_77 rfl ?_
          refine rg4_numbers B ha.1 q_123 dX4_take_78 ?_
          refine r_vi (y := q.2.1) (hq.2 hl).1 ?_
          refine r_iconst B dX4_take_81 ?_
          refine r_isub B dX4_take_82 ?_
          refine r_iaload B dX4_take_83 ha.2.2 (by omega) (by omega) ?_
          refine r_vi (y := q.2.2.2.2 (q.2.1 - 1)) ((hq.2 hl).2.2.2 _ (by omega) (by omega)) ?_
          refine r_bipush B (z := 10) dX4_take_84 (by decide) ?_
          refine r_imul B dX4_take_86 ?_
          refine r_aload_n B 1 dX4_take_87 rfl ?_
          refine rg4_negative B ha.1 q_128 dX4_take_88 ?_
          refine r_vi (y := q.2.2.2.1) (hq.2 hl).2.2.1 ?_
          have J5 : ∀ sg : Int, (sg = if q.2.2.2.1 = 0 then c - 48 else -(c - 48)) → WM G X 0 0 (bM X (PoV G (fun M' => TxS M' a (tkQ q c) ∧ Scan M M' a ∧ gI M' a 7 = gI M a 7)) 0 0 G) M 100 [(2, .int (iI (c - 48))), (0, .ref a), (1, .int (iI c))] [.int (iI sg), .int (iI ((q.2.2.2.2 (q.2.1 - 1)) * 10)), .int (iI (q.2.1 - 1)), .ref (a + 2)] := by
            intro sg hsg
            refine r_iadd B dX4_take_100 ?_
            refine r_iastore B dX4_take_101 ha.2.2 (by omega) (by omega) ?_
            refine WM.nm (fun M6 eM6 => ?_)
            refine r_aload_n B 1 dX4_take_102 rfl ?_
            refine r_dup B dX4_take_103 rfl ?_
            refine rg4_digits B ha.1 q_127 dX4_take_104 ?_
            refine r_vi (y := q.2.2.1) (by rw [eM6, gI_ne (by omega)]; exact (hq.2 hl).2.1) ?_
            refine r_iconst B dX4_take_107 ?_
            refine r_iadd B dX4_take_108 ?_
            refine rp4_digits B ha.1 q_127 dX4_take_109 ?_
            refine WM.nm (fun M7 eM7 => ?_)
            have hsc : Scan M M7 a := by rw [eM7, eM6]; exact Scan.v.tr (Scan.f (by omega))
            have htk : tkQ q c = (q.1, q.2.1, q.2.2.1 + 1, q.2.2.2.1, upF q.2.2.2.2 (q.2.1 - 1) (dgQ q c)) := by unfold tkQ; rw [if_neg hl, if_neg h2, if_neg h3]
            have hts : TxS M7 a (tkQ q c) := by
              rw [htk]
              refine ⟨?_, fun _ => ⟨?_, ?_, ?_, fun k p w => ?_⟩⟩
              · rw [eM7, gI_nk (by omega), eM6, gI_ne (by omega)]; exact hq.1
              · rw [eM7, gI_nk (by omega), eM6, gI_ne (by omega)]; exact (hq.2 hl).1
              · rw [eM7, gI_eq]
              · rw [eM7, gI_nk (by omega), eM6, gI_ne (by omega)]; exact (hq.2 hl).2.2.1
              · rw [eM7, gI_ne (by omega), eM6]
                show _ = upF q.2.2.2.2 (q.2.1 - 1) (dgQ q c) k
                by_cases z : k = q.2.1 - 1
                · rw [z, gI_eq, upF_eq, hsg]; rfl
                · rw [gI_nk z, upF_ne z]; exact (hq.2 hl).2.2.2 k p w
            exact r_vret B dX4_take_112 ⟨hts, hsc, by rw [eM7, gI_nk (by omega), eM6, gI_ne (by omega)]⟩
          refine r_if_eq B dX4_take_91 rfl ⟨by omega, by omega⟩ (fun h8 => ?_) (fun h8 => ?_)
          · refine r_iload_n B 0 dX4_take_99 rfl ?_
            exact J5 _ (by rw [if_pos h8])
          · refine r_iload_n B 0 dX4_take_94 rfl ?_
            refine r_ineg B dX4_take_95 ?_
            refine r_goto B dX4_take_96 rfl ?_
            exact J5 _ (by rw [if_neg h8])
      · refine r_aload_n B 0 dX4_take_43 rfl ?_
        refine r_iconst B dX4_take_44 ?_
        refine rp4_negative B (by omega) ha.1 q_128 dX4_take_45 ?_
        refine WM.nm (fun M9 eM9 => ?_)
        refine r_goto B dX4_take_48 rfl ?_
        have htk : tkQ q c = (q.1, q.2.1, q.2.2.1, 1, q.2.2.2.2) := by unfold tkQ; rw [if_neg hl, if_neg h2, if_pos h3]
        have hts : TxS M9 a (tkQ q c) := by
          rw [htk, eM9]
          exact ⟨by rw [gI_nk (by omega)]; exact hq.1, fun _ => ⟨by rw [gI_nk (by omega)]; exact (hq.2 hl).1, by rw [gI_nk (by omega)]; exact (hq.2 hl).2.1, gI_eq, fun k p w => by rw [gI_ne (by omega)]; exact (hq.2 hl).2.2.2 k p w⟩⟩
        exact r_vret B dX4_take_112 ⟨hts, by rw [eM9]; exact Scan.f (by omega), by rw [eM9, gI_nk (by omega)]⟩
    · refine r_aload_n B 0 dX4_take_30 rfl ?_
      refine r_Vv0 B (c_X4_startNumber l G M a q.2.1 ha (hq.2 hl).1 (by omega) (by omega)) ⟨rfl, rfl⟩ ok_X4_startNumber vi_X4_startNumber q_235 ha.1 rfl (fun _ => rfl) ⟨Nat.le_of_ble_eq_true rfl, Nat.le_of_ble_eq_true rfl, Nat.le_of_ble_eq_true rfl⟩ ⟨Nat.le_of_ble_eq_true rfl, Nat.le_of_ble_eq_true rfl⟩ dX4_take_31 (fun Mr hr => ?_)
      refine r_goto B dX4_take_34 rfl ?_
      have htk : tkQ q c = stQ q := by unfold tkQ; rw [if_neg hl, if_pos h2]
      have hts : TxS Mr a (tkQ q c) := by
        rw [htk, hr]
        refine ⟨by rw [gI_nk (by omega), gI_nk (by omega), gI_nk (by omega), gI_ne (by omega)]; exact hq.1, fun _ => ⟨by rw [gI_nk (by omega), gI_nk (by omega), gI_eq]; rfl, by rw [gI_nk (by omega), gI_eq]; rfl, by rw [gI_eq]; rfl, fun k p w => ?_⟩⟩
        have w2 : k < q.2.1 + 1 := w
        rw [gI_ne (by omega), gI_ne (by omega), gI_ne (by omega)]
        show _ = upF q.2.2.2.2 q.2.1 0 k
        by_cases z : k = q.2.1
        · rw [z, gI_eq, upF_eq]
        · rw [gI_nk z, upF_ne z]; exact (hq.2 hl).2.2.2 k p (by omega)
      exact r_vret B dX4_take_112 ⟨hts, by rw [hr]; exact Scan.tr (Scan.tr (Scan.tr Scan.v (Scan.f (by omega))) (Scan.f (by omega))) (Scan.f (by omega)), by rw [hr, gI_nk (by omega), gI_nk (by omega), gI_nk (by omega), gI_ne (by omega)]⟩
  · refine r_aload_n B 0 dX4_take_7 rfl ?_
    refine r_iload_n B 1 dX4_take_8 rfl ?_
    refine rp4_letter B ha.1 q_121 dX4_take_9 ?_
    refine WM.nm (fun M10 eM10 => ?_)
    refine r_aload_n B 0 dX4_take_12 rfl ?_
    refine r_iconst B dX4_take_13 ?_
    refine rp4_numbers B ha.1 q_123 dX4_take_14 ?_
    refine WM.nm (fun M11 eM11 => ?_)
    refine r_aload_n B 0 dX4_take_17 rfl ?_
    refine r_Vv0 B (c_X4_startNumber l G M11 a 0 ha (by rw [eM11, gI_eq]) (by omega) (by omega)) ⟨rfl, rfl⟩ ok_X4_startNumber vi_X4_startNumber q_235 ha.1 rfl (fun _ => rfl) ⟨Nat.le_of_ble_eq_true rfl, Nat.le_of_ble_eq_true rfl, Nat.le_of_ble_eq_true rfl⟩ ⟨Nat.le_of_ble_eq_true rfl, Nat.le_of_ble_eq_true rfl⟩ dX4_take_18 (fun Mr hr => ?_)
    refine r_goto B dX4_take_21 rfl ?_
    have htk : tkQ q c = stQ (c, 0, 0, 0, fun _ => 0) := by unfold tkQ; rw [if_pos h1]
    have hts : TxS Mr a (tkQ q c) := by
      rw [htk, hr]
      refine ⟨by rw [gI_nk (by omega), gI_nk (by omega), gI_nk (by omega), gI_ne (by omega), eM11, gI_nk (by omega), eM10, gI_eq]; rfl, fun _ => ⟨by rw [gI_nk (by omega), gI_nk (by omega), gI_eq]; rfl, by rw [gI_nk (by omega), gI_eq]; rfl, by rw [gI_eq]; rfl, fun k p w => ?_⟩⟩
      have w2 : k < 0 + 1 := w
      rw [gI_ne (by omega), gI_ne (by omega), gI_ne (by omega)]
      show _ = upF (fun _ => 0) 0 0 k
      rw [show k = 0 by omega, gI_eq, upF_eq]
    exact r_vret B dX4_take_112 ⟨hts, by rw [hr, eM11, eM10]; exact Scan.tr (Scan.tr (Scan.tr (Scan.tr (Scan.tr (Scan.f (by omega)) (Scan.f (by omega))) Scan.v) (Scan.f (by omega))) (Scan.f (by omega))) (Scan.f (by omega)), by rw [hr, gI_nk (by omega), gI_nk (by omega), gI_nk (by omega), gI_ne (by omega), eM11, gI_nk (by omega), eM10, gI_nk (by omega)]⟩

set_option maxRecDepth 100000 in
set_option maxHeartbeats 4000000 in
theorem c_X4_syntaxError (l : Launch) (G : Gs) (M : Mem) (a : Nat) (len : Int) (b : Int → Int) (ha : IsText G a) (hb : TxB M a len b) (hbo : TxOk len b) : Ct l G yX4_syntaxError cX4_syntaxError 2 (some .int) rm_X4_syntaxError [.ref a] M (PoI G (fun r M' => SynE b len r ∧ Scan M M' a)) 0 0 := by
  refine Ct.of (by decide +kernel) (Nat.le_of_ble_eq_true rfl) [(0, .ref a)] rfl ?_
  intro X B
  have hl0 := hbo.1
  have hl1 := hbo.2.1
  refine r_aload_n B 0 dX4_syntaxError_0 rfl ?_
  refine r_iconst B dX4_syntaxError_1 ?_
  refine rp4_letter B ha.1 q_121 dX4_syntaxError_2 ?_
  refine WM.nm (fun M1 eM1 => ?_)
  refine r_iconst B dX4_syntaxError_5 ?_
  refine r_istore_n B (lv' := [(1, .int (iI 0)), (0, .ref a)]) dX4_syntaxError_6 (by decide) rfl ?_
  have lp2 : ∀ (nlp2 : Nat) (i : Int) (Mc : Mem) (hi0 : 0 ≤ i) (hi1 : i ≤ len) (hts : TxS Mc a (auS b i.toNat)) (hsc : Scan M Mc a) (hok2 : Okto b i), (len - i).toNat < nlp2 → WM G X 0 0 (bM X (PoI G (fun r M' => SynE b len r ∧ Scan M M' a)) 0 0 G) Mc 7 [(0, .ref a), (1, .int (iI i))] [] := by
    intro nlp2
    induction nlp2 with
    | zero => intro i Mc hi0 hi1 hts hsc hok2 hm; omega
    | succ nlp2 ihlp2 =>
      intro i Mc hi0 hi1 hts hsc hok2 hm
      have hai : AuI (auS b i.toNat) i := by have w := auS_in i.toNat (fun k p z => hok2 k p (by omega)); rw [show ((i.toNat : Nat) : Int) = i by omega] at w; exact w
      refine r_iload_n B 1 dX4_syntaxError_7 rfl ?_
      refine r_aload_n B 0 dX4_syntaxError_8 rfl ?_
      refine rg4_length B ha.1 q_119 dX4_syntaxError_9 ?_
      refine r_vi (y := len) (hb.scan hsc).1 ?_
      refine r_icmp_ge B dX4_syntaxError_12 rfl ⟨by omega, by omega⟩ ⟨by omega, by omega⟩ (fun h3 => ?_) (fun h3 => ?_)
      · have hlb : -1000 ≤ (auS b i.toNat).1 ∧ (auS b i.toNat).1 ≤ 1000 := by
          rcases hai with w | w
          · omega
          · have := w.1; unfold isLet at this; omega
        have hil : i = len := by omega
        refine r_aload_n B 0 dX4_syntaxError_65 rfl ?_
        refine rg4_letter B ha.1 q_121 dX4_syntaxError_66 ?_
        refine r_vi (y := (auS b i.toNat).1) hts.1 ?_
        refine r_if_ne B dX4_syntaxError_69 rfl ⟨by omega, by omega⟩ (fun h4 => ?_) (fun h4 => ?_)
        · refine r_aload_n B 0 dX4_syntaxError_76 rfl ?_
          refine rg4_length B ha.1 q_119 dX4_syntaxError_77 ?_
          refine r_vi (y := len) (hb.scan hsc).1 ?_
          exact r_iret B dX4_syntaxError_80 ⟨Or.inr (Or.inr ⟨rfl, by rw [← hil]; exact hok2, by rw [← hil]; exact h4⟩), hsc⟩
        · refine r_iconst B dX4_syntaxError_72 ?_
          refine r_goto B dX4_syntaxError_73 rfl ?_
          exact r_iret B dX4_syntaxError_80 ⟨Or.inl ⟨rfl, by rw [← hil]; exact hok2, by rw [← hil]; exact h4⟩, hsc⟩
      · have hbi := hbo.2.2 i (by omega) (by omega)
        refine r_aload_n B 0 dX4_syntaxError_15 rfl ?_
        refine r_aload_n B 0 dX4_syntaxError_16 rfl ?_
        refine rg4_bytes B ha.1 q_117 dX4_syntaxError_17 ?_
        refine r_iload_n B 1 dX4_syntaxError_20 rfl ?_
        refine r_iaload B dX4_syntaxError_21 ha.2.1 (by omega) (by omega) ?_
        refine r_vi (y := b i) ((hb.scan hsc).2 i (by omega) (by omega)) ?_
        refine r_Vz1 B (c_X4_isPossible l G Mc a (auS b i.toNat) (b i) i ha hts hai (by omega) (by omega) (by omega)) ⟨rfl, rfl⟩ ok_X4_isPossible vi_X4_isPossible q_219 ha.1 rfl (fun _ => rfl) ⟨Nat.le_of_ble_eq_true rfl, Nat.le_of_ble_eq_true rfl, Nat.le_of_ble_eq_true rfl⟩ ⟨Nat.le_of_ble_eq_true rfl, Nat.le_of_ble_eq_true rfl⟩ dX4_syntaxError_22 (fun pr Mp hpr => ?_)
        obtain ⟨hpr, hMp⟩ := hpr
        rw [hMp]
        have hpr01 : 0 ≤ pr ∧ pr ≤ 1 := by rcases hpr with w | w <;> omega
        refine r_if_ne B dX4_syntaxError_25 rfl ⟨by omega, by omega⟩ (fun h5 => ?_) (fun h5 => ?_)
        · have hp : posQ (auS b i.toNat) (b i) := by rcases hpr with w | w; exact w.1; exact absurd w.2 h5
          have hok3 : Okto b (i + 1) := fun k p z => by
            rcases (show k < i ∨ k = i by omega) with w | w
            · exact hok2 k p w
            · rw [w]; exact hp
          refine r_aload_n B 0 dX4_syntaxError_30 rfl ?_
          refine rg4_bytes B ha.1 q_117 dX4_syntaxError_31 ?_
          refine r_iload_n B 1 dX4_syntaxError_34 rfl ?_
          refine r_iaload B dX4_syntaxError_35 ha.2.1 (by omega) (by omega) ?_
          refine r_vi (y := b i) ((hb.scan hsc).2 i (by omega) (by omega)) ?_
          refine r_bipush B (z := 59) dX4_syntaxError_36 (by decide) ?_
          refine r_icmp_ne B dX4_syntaxError_38 rfl ⟨by omega, by omega⟩ ⟨by omega, by omega⟩ (fun h6 => ?_) (fun h6 => ?_)
          · have hst := (hai.step hp hi0 h6)
            refine r_aload_n B 0 dX4_syntaxError_49 rfl ?_
            refine r_aload_n B 0 dX4_syntaxError_50 rfl ?_
            refine rg4_bytes B ha.1 q_117 dX4_syntaxError_51 ?_
            refine r_iload_n B 1 dX4_syntaxError_54 rfl ?_
            refine r_iaload B dX4_syntaxError_55 ha.2.1 (by omega) (by omega) ?_
            refine r_vi (y := b i) ((hb.scan hsc).2 i (by omega) (by omega)) ?_
            refine r_Vv1 B (c_X4_take l G Mc a (auS b i.toNat) (b i) ha hts (fun n0 => by rcases hai with w | ⟨w1, w2, w3, w4, w5, w6, w7, w8, -⟩; exact absurd w n0; omega) (by rcases hai with w | w; omega; have := w.1; unfold isLet at this; omega) (by omega) (by omega)) ⟨rfl, rfl⟩ ok_X4_take vi_X4_take q_231 ha.1 rfl (fun _ => rfl) ⟨Nat.le_of_ble_eq_true rfl, Nat.le_of_ble_eq_true rfl, Nat.le_of_ble_eq_true rfl⟩ ⟨Nat.le_of_ble_eq_true rfl, Nat.le_of_ble_eq_true rfl⟩ dX4_syntaxError_56 (fun Mr hr => ?_)
            refine r_iinc B (lv' := [(1, .int (iI (i + 1))), (0, .ref a)]) dX4_syntaxError_59 (j := 1) rfl (by decide) rfl ?_
            refine r_goto B dX4_syntaxError_62 rfl ?_
            refine WM.pick [1, 0] rfl ?_
            exact ihlp2 (i + 1) Mr (by omega) (by omega) (by rw [auS_s b hi0, if_neg h6]; exact hr.1) (hsc.tr hr.2.1) hok3 (by omega)
          · refine r_aload_n B 0 dX4_syntaxError_41 rfl ?_
            refine r_iconst B dX4_syntaxError_42 ?_
            refine rp4_letter B ha.1 q_121 dX4_syntaxError_43 ?_
            refine WM.nm (fun M7 eM7 => ?_)
            refine r_goto B dX4_syntaxError_46 rfl ?_
            refine r_iinc B (lv' := [(1, .int (iI (i + 1))), (0, .ref a)]) dX4_syntaxError_59 (j := 1) rfl (by decide) rfl ?_
            refine r_goto B dX4_syntaxError_62 rfl ?_
            refine WM.pick [1, 0] rfl ?_
            exact ihlp2 (i + 1) M7 (by omega) (by omega) (by rw [auS_s b hi0, if_pos h6, eM7]; exact ⟨gI_eq, fun w => absurd rfl w⟩) (hsc.tr (by rw [eM7]; exact Scan.f (by omega))) hok3 (by omega)
        · refine r_iload_n B 1 dX4_syntaxError_28 rfl ?_
          exact r_iret B dX4_syntaxError_29 ⟨Or.inr (Or.inl ⟨hi0, by omega, hok2, by rcases hpr with w | w; exact absurd h5 (by omega); exact w.1⟩), hsc⟩
  refine WM.pick [1, 0] rfl ?_
  exact lp2 _ 0 M1 (by omega) (by omega) (by rw [eM1]; exact ⟨gI_eq, fun w => absurd rfl w⟩) (by rw [eM1]; exact Scan.f (by omega)) (fun k p q => absurd q (by omega)) (Nat.lt_succ_self _)

set_option maxRecDepth 100000 in
set_option maxHeartbeats 4000000 in
theorem c_X4_readCommand (l : Launch) (G : Gs) (M : Mem) (a : Nat) (len : Int) (b : Int → Int) (ha : IsText G a) (hb : TxB M a len b) (hbo : TxOk len b) (p : Int) (hsy : Okto b len ∧ (auS b len.toNat).1 = 0) (hp0 : 0 ≤ p) (hp1 : p ≤ len) (hps : (auS b p.toNat).1 = 0) (hcu : gI M a 7 = p) : Ct l G yX4_readCommand cX4_readCommand 2 (some .boolean) rm_X4_readCommand [.ref a] M (PoI G (fun r M' => ((p = len ∧ r = 0 ∧ gI M' a 7 = p) ∨ (r = 1 ∧ ∃ e : Int, p ≤ e ∧ e < len ∧ b e = 59 ∧ (∀ k : Int, p ≤ k → k < e → ¬ b k = 59) ∧ TxS M' a (auS b e.toNat) ∧ gI M' a 7 = e + 1)) ∧ Scan M M' a)) 0 0 := by
  refine Ct.of (by decide +kernel) (Nat.le_of_ble_eq_true rfl) [(0, .ref a)] rfl ?_
  intro X B
  have hl0 := hbo.1
  have hl1 := hbo.2.1
  refine r_aload_n B 0 dX4_readCommand_0 rfl ?_
  refine r_iconst B dX4_readCommand_1 ?_
  refine rp4_letter B ha.1 q_121 dX4_readCommand_2 ?_
  refine WM.nm (fun M1 eM1 => ?_)
  have lp2 : ∀ (nlp2 : Nat) (j : Int) (Mc : Mem) (hj0 : p ≤ j) (hj1 : j ≤ len) (hts : TxS Mc a (auS b j.toNat)) (hsc : Scan M Mc a) (hcu : gI Mc a 7 = j) (hno : ∀ k : Int, p ≤ k → k < j → ¬ b k = 59) (hnz : p < j → ¬ (auS b j.toNat).1 = 0), (len - j).toNat < nlp2 → WM G X 0 0 (bM X (PoI G (fun r M' => ((p = len ∧ r = 0 ∧ gI M' a 7 = p) ∨ (r = 1 ∧ ∃ e : Int, p ≤ e ∧ e < len ∧ b e = 59 ∧ (∀ k : Int, p ≤ k → k < e → ¬ b k = 59) ∧ TxS M' a (auS b e.toNat) ∧ gI M' a 7 = e + 1)) ∧ Scan M M' a)) 0 0 G) Mc 5 [(0, .ref a)] [] := by
    intro nlp2
    induction nlp2 with
    | zero => intro j Mc hj0 hj1 hts hsc hcu hno hnz hm; omega
    | succ nlp2 ihlp2 =>
      intro j Mc hj0 hj1 hts hsc hcu hno hnz hm
      have haj : AuI (auS b j.toNat) j := by have w := auS_in j.toNat (fun k p z => hsy.1 k p (by omega)); rw [show ((j.toNat : Nat) : Int) = j by omega] at w; exact w
      refine r_aload_n B 0 dX4_readCommand_5 rfl ?_
      refine rg4_cursor B ha.1 q_129 dX4_readCommand_6 ?_
      refine r_vi (y := j) hcu ?_
      refine r_aload_n B 0 dX4_readCommand_9 rfl ?_
      refine rg4_length B ha.1 q_119 dX4_readCommand_10 ?_
      refine r_vi (y := len) (hb.scan hsc).1 ?_
      refine r_icmp_ge B dX4_readCommand_13 rfl ⟨by omega, by omega⟩ ⟨by omega, by omega⟩ (fun h3 => ?_) (fun h3 => ?_)
      · refine r_iconst B dX4_readCommand_52 ?_
        have hjp : j = p := by
          rcases (show j = p ∨ p < j by omega) with w | w
          · exact w
          · exact absurd (by rw [show j = len by omega]; exact hsy.2) (hnz w)
        exact r_zret B dX4_readCommand_53 (by omega) ⟨Or.inl ⟨by omega, rfl, by rw [hcu]; exact hjp⟩, hsc⟩
      · have hbj := hbo.2.2 j (by omega) (by omega)
        have hpj := hsy.1 j (by omega) (by omega)
        refine r_aload_n B 0 dX4_readCommand_16 rfl ?_
        refine rg4_bytes B ha.1 q_117 dX4_readCommand_17 ?_
        refine r_aload_n B 0 dX4_readCommand_20 rfl ?_
        refine rg4_cursor B ha.1 q_129 dX4_readCommand_21 ?_
        refine r_vi (y := j) hcu ?_
        refine r_iaload B dX4_readCommand_24 ha.2.1 (by omega) (by omega) ?_
        refine r_vi (y := b j) ((hb.scan hsc).2 j (by omega) (by omega)) ?_
        refine r_istore_n B (lv' := [(1, .int (iI (b j))), (0, .ref a)]) dX4_readCommand_25 (by decide) rfl ?_
        refine r_aload_n B 1 dX4_readCommand_26 rfl ?_
        refine r_dup B dX4_readCommand_27 rfl ?_
        refine rg4_cursor B ha.1 q_129 dX4_readCommand_28 ?_
        refine r_vi (y := j) hcu ?_
        refine r_iconst B dX4_readCommand_31 ?_
        refine r_iadd B dX4_readCommand_32 ?_
        refine rp4_cursor B ha.1 q_129 dX4_readCommand_33 ?_
        refine WM.nm (fun M4 eM4 => ?_)
        have hts2 : TxS M4 a (auS b j.toNat) := by
          rw [eM4]; exact ⟨by rw [gI_nk (by omega)]; exact hts.1, fun w => ⟨by rw [gI_nk (by omega)]; exact (hts.2 w).1, by rw [gI_nk (by omega)]; exact (hts.2 w).2.1, by rw [gI_nk (by omega)]; exact (hts.2 w).2.2.1, fun k p z => by rw [gI_ne (by omega)]; exact (hts.2 w).2.2.2 k p z⟩⟩
        have hsc2 : Scan M M4 a := hsc.tr (by rw [eM4]; exact Scan.f (by omega))
        have hcu2 : gI M4 a 7 = j + 1 := by rw [eM4, gI_eq]
        refine r_iload_n B 0 dX4_readCommand_36 rfl ?_
        refine r_bipush B (z := 59) dX4_readCommand_37 (by decide) ?_
        refine r_icmp_ne B dX4_readCommand_39 rfl ⟨by omega, by omega⟩ ⟨by omega, by omega⟩ (fun h5 => ?_) (fun h5 => ?_)
        · have hst := (haj.step hpj (by omega) h5)
          refine r_aload_n B 1 dX4_readCommand_44 rfl ?_
          refine r_iload_n B 0 dX4_readCommand_45 rfl ?_
          refine r_Vv1 B (c_X4_take l G M4 a (auS b j.toNat) (b j) ha hts2 (fun n0 => by rcases haj with w | ⟨w1, w2, w3, w4, w5, w6, w7, w8, -⟩; exact absurd w n0; omega) (by rcases haj with w | w; omega; have := w.1; unfold isLet at this; omega) (by omega) (by omega)) ⟨rfl, rfl⟩ ok_X4_take vi_X4_take q_231 ha.1 rfl (fun _ => rfl) ⟨Nat.le_of_ble_eq_true rfl, Nat.le_of_ble_eq_true rfl, Nat.le_of_ble_eq_true rfl⟩ ⟨Nat.le_of_ble_eq_true rfl, Nat.le_of_ble_eq_true rfl⟩ dX4_readCommand_46 (fun Mr hr => ?_)
          refine r_goto B dX4_readCommand_49 rfl ?_
          refine WM.pick [1] rfl ?_
          refine ihlp2 (j + 1) Mr (by omega) (by omega) (by rw [auS_s b (by omega), if_neg h5]; exact hr.1) (hsc2.tr hr.2.1) (hr.2.2.trans hcu2) ?_ (fun _ => by rw [auS_s b (by omega), if_neg h5]; exact hst.2) (by omega)
          · intro k p1 q
            rcases (show k < j ∨ k = j by omega) with w | w
            · exact hno k p1 w
            · rw [w]; exact h5
        · refine r_iconst B dX4_readCommand_42 ?_
          exact r_zret B dX4_readCommand_43 (by omega) ⟨Or.inr ⟨rfl, j, hj0, by omega, h5, hno, hts2, hcu2⟩, hsc2⟩
  refine WM.pick [0] rfl ?_
  exact lp2 _ p M1 (by omega) (by omega) (by rw [eM1]; exact ⟨by rw [gI_eq, hps], fun w => absurd hps w⟩) (by rw [eM1]; exact Scan.f (by omega)) (by rw [eM1, gI_nk (by omega)]; exact hcu) (fun k p q => absurd q (by omega)) (fun q => absurd q (by omega)) (Nat.lt_succ_self _)
