set_option maxRecDepth 100000 in
set_option maxHeartbeats 4000000 in
theorem c_X3_carryOut (l : Launch) (G : Gs) (M : Mem) (S : Nat) (s : Ast) (ta : Nat) (q : Sq) (hS : IsState G S) (hA : StateIs M S s) (hok : StateOk s) (ha : IsText G ta) (hd : ta + 3 ≤ S ∨ S + 53 ≤ ta) (hl : ¬ q.1 = 0) (hq : TxS M ta q) (hn1 : 1 ≤ q.2.1) (hn2 : q.2.1 ≤ 160) (hvb : ∀ k : Int, 0 ≤ k → k < q.2.1 → -9999 ≤ q.2.2.2.2 k ∧ q.2.2.2.2 k ≤ 9999) (hlet : isLet q.1) (hmn : mnN q.1 ≤ q.2.1) (hmx : q.2.1 ≤ mxN q.1) : Ct l G yX3_carryOut cX3_carryOut 2 (some .boolean) rm_X3_carryOut [.ref S, .ref ta] M (PoI G (fun r M' => (∃ s' : Ast, CmR s q (some s') ∧ r = 1 ∧ StateIs M' S s' ∧ Only M M' S (S + 53)) ∨ (CmR s q none ∧ r = 0 ∧ M' = M))) 0 0 := by
  refine Ct.of (by decide +kernel) (Nat.le_of_ble_eq_true rfl) [(0, .ref S), (1, .ref ta)] rfl ?_
  intro X B
  have hs1 := hok.1
  have hs2 := hok.2.1
  have hs3 := hok.2.2.1
  have hs4 := hok.2.2.2.1
  have hlr : 102 ≤ q.1 ∧ q.1 ≤ 114 := by unfold isLet at hlet; omega
  refine r_aload_n B 1 dX3_carryOut_0 rfl ?_
  refine rg4_letter B ha.1 q_122 dX3_carryOut_1 ?_
  refine r_vi (y := q.1) hq.1 ?_
  rcases (show q.1 = 103 ∨ q.1 = 108 ∨ q.1 = 114 ∨ q.1 = 102 ∨ q.1 = 112 ∨ q.1 = 104 from hlet) with w | w | w | w | w | w
  · refine r_vi (y := 103) w ?_
    refine r_tabIn B dX3_carryOut_4 ⟨by omega, by omega⟩ (off := 68) (tgt := 72) (by omega) (by omega) rfl rfl ?_
    have hn : 2 ≤ q.2.1 := by rw [w] at hmn; exact hmn
    have v0 := hvb 0 (by omega) (by omega)
    have v1 := hvb 1 (by omega) (by omega)
    refine r_aload_n B 1 dX3_carryOut_72 rfl ?_
    refine rg4_values B ha.1 q_126 dX3_carryOut_73 ?_
    refine r_iconst B dX3_carryOut_76 ?_
    refine r_iaload B dX3_carryOut_77 ha.2.2 (by omega) (by omega) ?_
    refine r_vi (y := q.2.2.2.2 0) ((hq.2 hl).2.2.2 _ (by omega) (by omega)) ?_
    refine r_aload_n B 1 dX3_carryOut_78 rfl ?_
    refine rg4_values B ha.1 q_126 dX3_carryOut_79 ?_
    refine r_iconst B dX3_carryOut_82 ?_
    refine r_iaload B dX3_carryOut_83 ha.2.2 (by omega) (by omega) ?_
    refine r_vi (y := q.2.2.2.2 1) ((hq.2 hl).2.2.2 _ (by omega) (by omega)) ?_
    refine r_Nz2 B (host := "GearGauge") (c_X5_isGear l G M (q.2.2.2.2 0) (q.2.2.2.2 1) ⟨by omega, by omega⟩ ⟨by omega, by omega⟩) ⟨rfl, rfl⟩ ok_X5_isGear q_272 (by decide) ⟨Nat.le_of_ble_eq_true rfl, Nat.le_of_ble_eq_true rfl, Nat.le_of_ble_eq_true rfl⟩ ⟨Nat.le_of_ble_eq_true rfl, Nat.le_of_ble_eq_true rfl⟩ dX3_carryOut_84 (fun ig Mg hig => ?_)
    obtain ⟨hig, hMg⟩ := hig
    rw [hMg]
    have hig01 : 0 ≤ ig ∧ ig ≤ 1 := by rcases hig with w | w <;> omega
    refine r_if_eq B dX3_carryOut_87 rfl ⟨by omega, by omega⟩ (fun h1 => ?_) (fun h1 => ?_)
    · refine r_iconst B dX3_carryOut_114 ?_
      exact r_zret B dX3_carryOut_115 (by omega) (Or.inr ⟨Or.inl ⟨w, Or.inr ⟨fun z => by rcases hig with y | y; omega; exact y.1 z.1, rfl⟩⟩, rfl, rfl⟩)
    · have hig1 : isG (q.2.2.2.2 0) (q.2.2.2.2 1) := by rcases hig with y | y; exact y.1; exact absurd y.2 h1
      have hig2 := hig1
      unfold isG at hig2
      refine r_aload_n B 0 dX3_carryOut_90 rfl ?_
      refine r_aload_n B 1 dX3_carryOut_91 rfl ?_
      refine rg4_values B ha.1 q_126 dX3_carryOut_92 ?_
      refine r_iconst B dX3_carryOut_95 ?_
      refine r_iaload B dX3_carryOut_96 ha.2.2 (by omega) (by omega) ?_
      refine r_vi (y := q.2.2.2.2 0) ((hq.2 hl).2.2.2 _ (by omega) (by omega)) ?_
      refine r_aload_n B 1 dX3_carryOut_97 rfl ?_
      refine rg4_values B ha.1 q_126 dX3_carryOut_98 ?_
      refine r_iconst B dX3_carryOut_101 ?_
      refine r_iaload B dX3_carryOut_102 ha.2.2 (by omega) (by omega) ?_
      refine r_vi (y := q.2.2.2.2 1) ((hq.2 hl).2.2.2 _ (by omega) (by omega)) ?_
      refine r_Vi2 B (c_X3_newGear l G M S s hS hA hok (q.2.2.2.2 0) (q.2.2.2.2 1) (by omega)) ⟨rfl, rfl⟩ ok_X3_newGear vi_X3_newGear q_274 hS.1 rfl (fun _ => rfl) ⟨Nat.le_of_ble_eq_true rfl, Nat.le_of_ble_eq_true rfl, Nat.le_of_ble_eq_true rfl⟩ ⟨Nat.le_of_ble_eq_true rfl, Nat.le_of_ble_eq_true rfl⟩ dX3_carryOut_103 (fun ng Mn hng => ?_)
      rcases hng with ⟨hroom, hnr, hst, hfr⟩ | ⟨hfull, hnr, hMn⟩
      · subst hnr
        refine r_iconst B dX3_carryOut_106 ?_
        refine r_icmp_eq B dX3_carryOut_107 rfl ⟨by omega, by omega⟩ ⟨by omega, by omega⟩ (fun h2 => ?_) (fun h2 => ?_)
        · omega
        · refine r_iconst B dX3_carryOut_110 ?_
          refine r_goto B dX3_carryOut_111 rfl ?_
          exact r_zret B dX3_carryOut_115 (by omega) (Or.inl ⟨_, Or.inl ⟨w, Or.inl ⟨hig1, hroom, rfl⟩⟩, rfl, hst, hfr⟩)
      · subst hnr
        rw [hMn]
        refine r_iconst B dX3_carryOut_106 ?_
        refine r_icmp_eq B dX3_carryOut_107 rfl ⟨by omega, by omega⟩ ⟨by omega, by omega⟩ (fun h3 => ?_) (fun h3 => ?_)
        · refine r_iconst B dX3_carryOut_114 ?_
          exact r_zret B dX3_carryOut_115 (by omega) (Or.inr ⟨Or.inl ⟨w, Or.inr ⟨fun z => by omega, rfl⟩⟩, rfl, rfl⟩)
        · exact absurd rfl h3
  · refine r_vi (y := 108) w ?_
    refine r_tabIn B dX3_carryOut_4 ⟨by omega, by omega⟩ (off := 112) (tgt := 116) (by omega) (by omega) rfl rfl ?_
    refine r_aload_n B 0 dX3_carryOut_116 rfl ?_
    refine r_iconst B dX3_carryOut_117 ?_
    refine r_aload_n B 1 dX3_carryOut_118 rfl ?_
    refine r_Vz2 B (c_X3_takeSeries l G M S s ta q 0 hS hA hok ha hd hl hq hn1 hn2 hvb (by omega) (by omega)) ⟨rfl, rfl⟩ ok_X3_takeSeries vi_X3_takeSeries q_282 hS.1 rfl (fun _ => rfl) ⟨Nat.le_of_ble_eq_true rfl, Nat.le_of_ble_eq_true rfl, Nat.le_of_ble_eq_true rfl⟩ ⟨Nat.le_of_ble_eq_true rfl, Nat.le_of_ble_eq_true rfl⟩ dX3_carryOut_119 (fun tr Mt htr => ?_)
    rcases htr with ⟨htc, hr1, hst, hfr⟩ | ⟨htc, hr1, hMt⟩
    · subst hr1
      exact r_zret B dX3_carryOut_122 (by omega) (Or.inl ⟨_, Or.inr (Or.inl ⟨0, Or.inl ⟨w, rfl⟩, Or.inl ⟨htc.1, htc.2.1, htc.2.2, rfl⟩⟩), rfl, hst, hfr⟩)
    · subst hr1
      rw [hMt]
      exact r_zret B dX3_carryOut_122 (by omega) (Or.inr ⟨Or.inr (Or.inl ⟨0, Or.inl ⟨w, rfl⟩, Or.inr ⟨htc, rfl⟩⟩), rfl, rfl⟩)
  · refine r_vi (y := 114) w ?_
    refine r_tabIn B dX3_carryOut_4 ⟨by omega, by omega⟩ (off := 119) (tgt := 123) (by omega) (by omega) rfl rfl ?_
    refine r_aload_n B 0 dX3_carryOut_123 rfl ?_
    refine r_iconst B dX3_carryOut_124 ?_
    refine r_aload_n B 1 dX3_carryOut_125 rfl ?_
    refine r_Vz2 B (c_X3_takeSeries l G M S s ta q 1 hS hA hok ha hd hl hq hn1 hn2 hvb (by omega) (by omega)) ⟨rfl, rfl⟩ ok_X3_takeSeries vi_X3_takeSeries q_282 hS.1 rfl (fun _ => rfl) ⟨Nat.le_of_ble_eq_true rfl, Nat.le_of_ble_eq_true rfl, Nat.le_of_ble_eq_true rfl⟩ ⟨Nat.le_of_ble_eq_true rfl, Nat.le_of_ble_eq_true rfl⟩ dX3_carryOut_126 (fun tr Mt htr => ?_)
    rcases htr with ⟨htc, hr1, hst, hfr⟩ | ⟨htc, hr1, hMt⟩
    · subst hr1
      exact r_zret B dX3_carryOut_129 (by omega) (Or.inl ⟨_, Or.inr (Or.inl ⟨1, Or.inr (Or.inl ⟨w, rfl⟩), Or.inl ⟨htc.1, htc.2.1, htc.2.2, rfl⟩⟩), rfl, hst, hfr⟩)
    · subst hr1
      rw [hMt]
      exact r_zret B dX3_carryOut_129 (by omega) (Or.inr ⟨Or.inr (Or.inl ⟨1, Or.inr (Or.inl ⟨w, rfl⟩), Or.inr ⟨htc, rfl⟩⟩), rfl, rfl⟩)
  · refine r_vi (y := 102) w ?_
    refine r_tabIn B dX3_carryOut_4 ⟨by omega, by omega⟩ (off := 126) (tgt := 130) (by omega) (by omega) rfl rfl ?_
    refine r_aload_n B 0 dX3_carryOut_130 rfl ?_
    refine r_iconst B dX3_carryOut_131 ?_
    refine r_aload_n B 1 dX3_carryOut_132 rfl ?_
    refine r_Vz2 B (c_X3_takeSeries l G M S s ta q 2 hS hA hok ha hd hl hq hn1 hn2 hvb (by omega) (by omega)) ⟨rfl, rfl⟩ ok_X3_takeSeries vi_X3_takeSeries q_282 hS.1 rfl (fun _ => rfl) ⟨Nat.le_of_ble_eq_true rfl, Nat.le_of_ble_eq_true rfl, Nat.le_of_ble_eq_true rfl⟩ ⟨Nat.le_of_ble_eq_true rfl, Nat.le_of_ble_eq_true rfl⟩ dX3_carryOut_133 (fun tr Mt htr => ?_)
    rcases htr with ⟨htc, hr1, hst, hfr⟩ | ⟨htc, hr1, hMt⟩
    · subst hr1
      exact r_zret B dX3_carryOut_136 (by omega) (Or.inl ⟨_, Or.inr (Or.inl ⟨2, Or.inr (Or.inr ⟨w, rfl⟩), Or.inl ⟨htc.1, htc.2.1, htc.2.2, rfl⟩⟩), rfl, hst, hfr⟩)
    · subst hr1
      rw [hMt]
      exact r_zret B dX3_carryOut_136 (by omega) (Or.inr ⟨Or.inr (Or.inl ⟨2, Or.inr (Or.inr ⟨w, rfl⟩), Or.inr ⟨htc, rfl⟩⟩), rfl, rfl⟩)
  · refine r_vi (y := 112) w ?_
    refine r_tabIn B dX3_carryOut_4 ⟨by omega, by omega⟩ (off := 133) (tgt := 137) (by omega) (by omega) rfl rfl ?_
    refine r_aload_n B 0 dX3_carryOut_137 rfl ?_
    refine r_iconst B dX3_carryOut_138 ?_
    refine r_aload_n B 1 dX3_carryOut_139 rfl ?_
    refine r_Vz2 B (c_X3_takeLine l G M S s ta q 0 hS hA hok ha hd hl hq hn1 hn2 hvb (by omega) (by omega) (by rw [w] at hmx; exact hmx)) ⟨rfl, rfl⟩ ok_X3_takeLine vi_X3_takeLine q_295 hS.1 rfl (fun _ => rfl) ⟨Nat.le_of_ble_eq_true rfl, Nat.le_of_ble_eq_true rfl, Nat.le_of_ble_eq_true rfl⟩ ⟨Nat.le_of_ble_eq_true rfl, Nat.le_of_ble_eq_true rfl⟩ dX3_carryOut_140 (fun tr Mt htr => ?_)
    rcases htr with ⟨htc, hr1, hst, hfr⟩ | ⟨htc, hr1, hMt⟩
    · subst hr1
      exact r_zret B dX3_carryOut_143 (by omega) (Or.inl ⟨_, Or.inr (Or.inr ⟨0, Or.inl ⟨w, rfl⟩, Or.inl ⟨htc.1, htc.2.1, htc.2.2, rfl⟩⟩), rfl, hst, hfr⟩)
    · subst hr1
      rw [hMt]
      exact r_zret B dX3_carryOut_143 (by omega) (Or.inr ⟨Or.inr (Or.inr ⟨0, Or.inl ⟨w, rfl⟩, Or.inr ⟨htc, rfl⟩⟩), rfl, rfl⟩)
  · refine r_vi (y := 104) w ?_
    refine r_tabIn B dX3_carryOut_4 ⟨by omega, by omega⟩ (off := 140) (tgt := 144) (by omega) (by omega) rfl rfl ?_
    refine r_aload_n B 0 dX3_carryOut_144 rfl ?_
    refine r_iconst B dX3_carryOut_145 ?_
    refine r_aload_n B 1 dX3_carryOut_146 rfl ?_
    refine r_Vz2 B (c_X3_takeLine l G M S s ta q 1 hS hA hok ha hd hl hq hn1 hn2 hvb (by omega) (by omega) (by rw [w] at hmx; exact hmx)) ⟨rfl, rfl⟩ ok_X3_takeLine vi_X3_takeLine q_295 hS.1 rfl (fun _ => rfl) ⟨Nat.le_of_ble_eq_true rfl, Nat.le_of_ble_eq_true rfl, Nat.le_of_ble_eq_true rfl⟩ ⟨Nat.le_of_ble_eq_true rfl, Nat.le_of_ble_eq_true rfl⟩ dX3_carryOut_147 (fun tr Mt htr => ?_)
    rcases htr with ⟨htc, hr1, hst, hfr⟩ | ⟨htc, hr1, hMt⟩
    · subst hr1
      exact r_zret B dX3_carryOut_150 (by omega) (Or.inl ⟨_, Or.inr (Or.inr ⟨1, Or.inr ⟨w, rfl⟩, Or.inl ⟨htc.1, htc.2.1, htc.2.2, rfl⟩⟩), rfl, hst, hfr⟩)
    · subst hr1
      rw [hMt]
      exact r_zret B dX3_carryOut_150 (by omega) (Or.inr ⟨Or.inr (Or.inr ⟨1, Or.inr ⟨w, rfl⟩, Or.inr ⟨htc, rfl⟩⟩), rfl, rfl⟩)
