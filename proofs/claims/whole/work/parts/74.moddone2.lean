set_option maxRecDepth 100000 in
set_option maxHeartbeats 4000000 in
theorem c_X6_isDone (l : Launch) (G : Gs) (M : Mem) (md : Nat) (hM : IsMd G md) (s : Ast) (hS_M : MdS M md s) (hok : StateOk s) (q : Sq) (hlt : gI M md 14 = q.1) (hnm : gI M md 16 = q.2.1) (hnv : ∀ k : Int, 0 ≤ k → k < q.2.1 → gI M (md + 7) k = q.2.2.2.2 k) (hlet : isLet q.1) (hmn : mnN q.1 ≤ q.2.1) (hmx : q.2.1 ≤ mxN q.1) (hn80 : q.2.1 ≤ 80) (hvb : ∀ k : Int, 0 ≤ k → k < q.2.1 → -9999 ≤ q.2.2.2.2 k ∧ q.2.2.2.2 k ≤ 9999) : Ct l G yX6_isDone cX6_isDone 5 (some .boolean) rm_X6_isDone [.ref md] M (PoI G (fun r M' => ((∃ s' : Ast, CmR s q (some s') ∧ r = 1 ∧ MdS M' md s') ∨ (CmR s q none ∧ r = 0 ∧ MdS M' md s)) ∧ ∀ c : Nat, c ≠ md + 1 → Same M M' c)) 0 0 := by
  refine Ct.of (by decide +kernel) (Nat.le_of_ble_eq_true rfl) [(0, .ref md)] rfl ?_
  intro X B
  have hs1 := hok.1
  have hs2 := hok.2.1
  have hs3 := hok.2.2.1
  have hs4 := hok.2.2.2.1
  have hF_M : FL M M md := FL.rf
  have hmn1 := mnN_in q.1
  have hlr : 102 ≤ q.1 ∧ q.1 ≤ 114 := by unfold isLet at hlet; omega
  refine r_aload_n B 0 dX6_isDone_0 rfl ?_
  refine rg6_s B hM.1 q_892 dX6_isDone_1 ?_
  refine r_iconst B dX6_isDone_4 ?_
  refine r_iaload B dX6_isDone_5 hM.2.1 (by omega) (by omega) ?_
  refine r_vi (y := s.1) hS_M.1 ?_
  refine r_iconst B dX6_isDone_6 ?_
  refine r_isub B dX6_isDone_7 ?_
  refine r_istore_n B (lv' := [(1, .int (iI (s.1 - 1))), (0, .ref md)]) dX6_isDone_8 (by decide) rfl ?_
  refine r_aload_n B 1 dX6_isDone_9 rfl ?_
  refine rg6_letter B hM.1 q_906 dX6_isDone_10 ?_
  refine r_vi (y := q.1) hlt ?_
  refine r_bipush B (z := 103) dX6_isDone_13 (by decide) ?_
  refine r_icmp_ne B dX6_isDone_15 rfl ⟨by omega, by omega⟩ ⟨by omega, by omega⟩ (fun h1 => ?_) (fun h1 => ?_)
  · have hl3 : ¬ q.1 = 103 := h1
    refine r_iload_n B 0 dX6_isDone_67 rfl ?_
    have J2 : ∀ is0 : Int, ((1 ≤ s.1 ∧ is0 = 1) ∨ (¬ 1 ≤ s.1 ∧ is0 = 0)) → WM G X 0 0 (bM X (PoI G (fun r M' => ((∃ s' : Ast, CmR s q (some s') ∧ r = 1 ∧ MdS M' md s') ∨ (CmR s q none ∧ r = 0 ∧ MdS M' md s)) ∧ ∀ c : Nat, c ≠ md + 1 → Same M M' c)) 0 0 G) M 76 [(1, .int (iI (s.1 - 1))), (0, .ref md)] [.int (iI is0)] := by
      intro is0 his0
      refine r_istore_n B (lv' := [(2, .int (iI is0)), (1, .int (iI (s.1 - 1))), (0, .ref md)]) dX6_isDone_76 (by decide) rfl ?_
      refine r_iconst B dX6_isDone_77 ?_
      refine r_istore_n B (lv' := [(3, .int (iI 0)), (2, .int (iI is0)), (1, .int (iI (s.1 - 1))), (0, .ref md)]) dX6_isDone_78 (by decide) rfl ?_
      have lp3 : ∀ (nlp3 : Nat) (k : Int) (is : Int) (hk0 : 0 ≤ k) (hk1 : k ≤ q.2.1) (his : (is = 1 ∧ (1 ≤ s.1 ∧ inRg k q.2.2.2.2)) ∨ (is = 0 ∧ ¬ (1 ≤ s.1 ∧ inRg k q.2.2.2.2))), (q.2.1 - k).toNat < nlp3 → WM G X 0 0 (bM X (PoI G (fun r M' => ((∃ s' : Ast, CmR s q (some s') ∧ r = 1 ∧ MdS M' md s') ∨ (CmR s q none ∧ r = 0 ∧ MdS M' md s)) ∧ ∀ c : Nat, c ≠ md + 1 → Same M M' c)) 0 0 G) M 79 [(0, .ref md), (1, .int (iI (s.1 - 1))), (2, .int (iI is)), (3, .int (iI k))] [] := by
        intro nlp3
        induction nlp3 with
        | zero => intro k is hk0 hk1 his hm; omega
        | succ nlp3 ihlp3 =>
          intro k is hk0 hk1 his hm
          have is01 : 0 ≤ is ∧ is ≤ 1 := by rcases his with w | w <;> omega
          refine r_iload_n B 3 dX6_isDone_79 rfl ?_
          refine r_aload_n B 0 dX6_isDone_80 rfl ?_
          refine rg6_numberMany B hM.1 q_908 dX6_isDone_81 ?_
          refine r_vi (y := q.2.1) hnm ?_
          refine r_icmp_ge B dX6_isDone_84 rfl ⟨by omega, by omega⟩ ⟨by omega, by omega⟩ (fun h4 => ?_) (fun h4 => ?_)
          · have hkq : k = q.2.1 := by omega
            rw [hkq] at his
            refine r_aload_n B 0 dX6_isDone_115 rfl ?_
            refine rg6_letter B hM.1 q_906 dX6_isDone_116 ?_
            refine r_vi (y := q.1) hlt ?_
            refine r_bipush B (z := 112) dX6_isDone_119 (by decide) ?_
            refine r_icmp_eq B dX6_isDone_121 rfl ⟨by omega, by omega⟩ ⟨by omega, by omega⟩ (fun h5 => ?_) (fun h5 => ?_)
            · refine r_iload_n B 2 dX6_isDone_133 rfl ?_
              have J6 : ∀ i2 : Int, ((i2 = 1 ∧ (1 ≤ s.1 ∧ inRg q.2.1 q.2.2.2.2) ∧ s.2.1 < 10) ∨ (i2 = 0 ∧ ¬ ((1 ≤ s.1 ∧ inRg q.2.1 q.2.2.2.2) ∧ s.2.1 < 10))) → WM G X 0 0 (bM X (PoI G (fun r M' => ((∃ s' : Ast, CmR s q (some s') ∧ r = 1 ∧ MdS M' md s') ∨ (CmR s q none ∧ r = 0 ∧ MdS M' md s)) ∧ ∀ c : Nat, c ≠ md + 1 → Same M M' c)) 0 0 G) M 155 [(0, .ref md), (1, .int (iI (s.1 - 1))), (2, .int (iI is)), (3, .int (iI k))] [.int (iI i2)] := by
                intro i2 hi2
                have i201 : 0 ≤ i2 ∧ i2 ≤ 1 := by rcases hi2 with w | w <;> omega
                have hlph : q.1 = 112 ∨ q.1 = 104 := by omega
                refine r_istore_n B (lv' := [(2, .int (iI i2)), (0, .ref md), (1, .int (iI (s.1 - 1))), (3, .int (iI k))]) dX6_isDone_155 (by decide) rfl ?_
                refine r_iload_n B 0 dX6_isDone_156 rfl ?_
                refine r_if_eq B dX6_isDone_157 rfl ⟨by omega, by omega⟩ (fun h7 => ?_) (fun h7 => ?_)
                · refine r_iconst B dX6_isDone_179 ?_
                  refine r_istore_n B (lv' := [(3, .int (iI 0)), (2, .int (iI i2)), (0, .ref md), (1, .int (iI (s.1 - 1)))]) dX6_isDone_180 (by decide) rfl ?_
                  refine r_iload_n B 0 dX6_isDone_181 rfl ?_
                  refine r_aload_n B 2 dX6_isDone_182 rfl ?_
                  refine rg6_numberMany B hM.1 q_908 dX6_isDone_183 ?_
                  refine r_vi (y := q.2.1) hnm ?_
                  refine r_icmp_ge B dX6_isDone_186 rfl ⟨by omega, by omega⟩ ⟨by omega, by omega⟩ (fun h8 => ?_) (fun h8 => ?_)
                  · refine r_iload_n B 1 dX6_isDone_219 rfl ?_
                    exact r_zret B dX6_isDone_220 (by omega) ⟨Or.inr ⟨Or.inr (Or.inr ⟨if q.1 = 112 then 0 else 1, by split <;> omega, Or.inr ⟨fun z => by rcases hi2 with w | w; omega; exact w.2 ⟨⟨z.1, z.2.1⟩, z.2.2⟩, rfl⟩⟩), by omega, hS_M⟩, fun c p => Same.rf M c⟩
                  · refine r_iload_n B 1 dX6_isDone_189 rfl ?_
                    refine r_if_eq B dX6_isDone_190 rfl ⟨by omega, by omega⟩ (fun h9 => ?_) (fun h9 => ?_)
                    · refine r_iload_n B 1 dX6_isDone_219 rfl ?_
                      exact r_zret B dX6_isDone_220 (by omega) ⟨Or.inr ⟨Or.inr (Or.inr ⟨if q.1 = 112 then 0 else 1, by split <;> omega, Or.inr ⟨fun z => by rcases hi2 with w | w; omega; exact w.2 ⟨⟨z.1, z.2.1⟩, z.2.2⟩, rfl⟩⟩), by omega, hS_M⟩, fun c p => Same.rf M c⟩
                    · omega
                · obtain ⟨hin, hroom⟩ : (1 ≤ s.1 ∧ inRg q.2.1 q.2.2.2.2) ∧ s.2.1 < 10 := by rcases hi2 with w | w; exact w.2; omega
                  have hmx12 : q.2.1 ≤ 12 := by unfold mxN at hmx; rw [if_neg hl3, if_pos (by omega)] at hmx; exact hmx
                  refine r_aload_n B 1 dX6_isDone_160 rfl ?_
                  refine r_iload_n B 2 dX6_isDone_161 rfl ?_
                  refine r_aload_n B 1 dX6_isDone_162 rfl ?_
                  refine rg6_letter B hM.1 q_906 dX6_isDone_163 ?_
                  refine r_vi (y := q.1) hlt ?_
                  refine r_bipush B (z := 112) dX6_isDone_166 (by decide) ?_
                  have J10 : ∀ ki : Int, ((q.1 = 112 ∧ ki = 0) ∨ (¬ q.1 = 112 ∧ ki = 1)) → WM G X 0 0 (bM X (PoI G (fun r M' => ((∃ s' : Ast, CmR s q (some s') ∧ r = 1 ∧ MdS M' md s') ∨ (CmR s q none ∧ r = 0 ∧ MdS M' md s)) ∧ ∀ c : Nat, c ≠ md + 1 → Same M M' c)) 0 0 G) M 176 [(2, .int (iI i2)), (0, .ref md), (1, .int (iI (s.1 - 1))), (3, .int (iI k))] [.int (iI ki), .int (iI (s.1 - 1)), .ref md] := by
                    intro ki hki
                    have hki : (q.1 = 112 ∧ ki = 0) ∨ (q.1 = 104 ∧ ki = 1) := by omega
                    refine r_Vv2 B (c_X6_putsLine l G M md hM s hS_M hok (s.1 - 1) ki (by omega)) ⟨rfl, rfl⟩ ok_X6_putsLine vi_X6_putsLine q_1180 hM.1 rfl (fun _ => rfl) ⟨Nat.le_of_ble_eq_true rfl, Nat.le_of_ble_eq_true rfl, Nat.le_of_ble_eq_true rfl⟩ ⟨Nat.le_of_ble_eq_true rfl, Nat.le_of_ble_eq_true rfl⟩ dX6_isDone_176 (fun Mp hpl => ?_)
                    refine r_iconst B dX6_isDone_179 ?_
                    refine r_istore_n B (lv' := [(3, .int (iI 0)), (2, .int (iI i2)), (0, .ref md), (1, .int (iI (s.1 - 1)))]) dX6_isDone_180 (by decide) rfl ?_
                    have lp11 : ∀ (nlp11 : Nat) (j : Int) (Mc : Mem) (hj0 : 0 ≤ j) (hj1 : j ≤ q.2.1) (hT : MdS Mc md (addN s ki j q.2.2.2.2)) (hf : ∀ c : Nat, c ≠ md + 1 → Same M Mc c), (q.2.1 - j).toNat < nlp11 → WM G X 0 0 (bM X (PoI G (fun r M' => ((∃ s' : Ast, CmR s q (some s') ∧ r = 1 ∧ MdS M' md s') ∨ (CmR s q none ∧ r = 0 ∧ MdS M' md s)) ∧ ∀ c : Nat, c ≠ md + 1 → Same M M' c)) 0 0 G) Mc 181 [(0, .ref md), (1, .int (iI (s.1 - 1))), (2, .int (iI i2)), (3, .int (iI j))] [] := by
                      intro nlp11
                      induction nlp11 with
                      | zero => intro j Mc hj0 hj1 hT hf hm; omega
                      | succ nlp11 ihlp11 =>
                        intro j Mc hj0 hj1 hT hf hm
                        refine r_iload_n B 3 dX6_isDone_181 rfl ?_
                        refine r_aload_n B 0 dX6_isDone_182 rfl ?_
                        refine rg6_numberMany B hM.1 q_908 dX6_isDone_183 ?_
                        refine r_vi (y := q.2.1) (by rw [(hf md (by omega)).1]; exact hnm) ?_
                        refine r_icmp_ge B dX6_isDone_186 rfl ⟨by omega, by omega⟩ ⟨by omega, by omega⟩ (fun h12 => ?_) (fun h12 => ?_)
                        · refine r_iload_n B 2 dX6_isDone_219 rfl ?_
                          exact r_zret B dX6_isDone_220 (by omega) ⟨Or.inl ⟨addN s ki q.2.1 q.2.2.2.2, Or.inr (Or.inr ⟨ki, hki, Or.inl ⟨hin.1, hin.2, hroom, rfl⟩⟩), by omega, by rw [← show j = q.2.1 by omega]; exact hT⟩, hf⟩
                        · have hvj := hvb j hj0 (by omega)
                          refine r_iload_n B 2 dX6_isDone_189 rfl ?_
                          refine r_if_eq B dX6_isDone_190 rfl ⟨by omega, by omega⟩ (fun h13 => ?_) (fun h13 => ?_)
                          · omega
                          · refine r_aload_n B 0 dX6_isDone_193 rfl ?_
                            refine r_aload_n B 0 dX6_isDone_194 rfl ?_
                            refine rg6_s B hM.1 q_892 dX6_isDone_195 ?_
                            refine r_sipush B (z := 571) dX6_isDone_198 (by decide) ?_
                            refine r_iaload B dX6_isDone_201 hM.2.1 (by omega) (by omega) ?_
                            refine r_vi (y := s.2.1 + 1) hT.2.1 ?_
                            refine r_iconst B dX6_isDone_202 ?_
                            refine r_isub B dX6_isDone_203 ?_
                            refine r_vi (y := s.2.1) (by omega) ?_
                            refine r_aload_n B 0 dX6_isDone_204 rfl ?_
                            refine rg6_numbers B hM.1 q_907 dX6_isDone_205 ?_
                            refine r_iload_n B 3 dX6_isDone_208 rfl ?_
                            refine r_iaload B dX6_isDone_209 hM.2.2.2.2.2.2.2 (by omega) (by omega) ?_
                            refine r_vi (y := q.2.2.2.2 j) (by rw [(hf (md + 7) (by omega)).1]; exact hnv _ (by omega) (by omega)) ?_
                            refine r_Vv2 B (c_X6_putsPoint l G Mc md hM (addN s ki j q.2.2.2.2) hT (addN_okk hok hin.1 hroom (by omega) (by omega) hj0 (by omega) (fun k q0 q1 => hin.2 k q0 (by omega))) s.2.1 (q.2.2.2.2 j) (by omega) (by show s.2.1 < s.2.1 + 1; omega) (by show (upF s.2.2.2 s.2.1 _ s.2.1).2.2.1 < 12; rw [upF_eq]; show j < 12; omega)) ⟨rfl, rfl⟩ ok_X6_putsPoint vi_X6_putsPoint q_1192 hM.1 rfl (fun _ => rfl) ⟨Nat.le_of_ble_eq_true rfl, Nat.le_of_ble_eq_true rfl, Nat.le_of_ble_eq_true rfl⟩ ⟨Nat.le_of_ble_eq_true rfl, Nat.le_of_ble_eq_true rfl⟩ dX6_isDone_210 (fun Mq hpp => ?_)
                            refine r_iinc B (lv' := [(3, .int (iI (j + 1))), (0, .ref md), (1, .int (iI (s.1 - 1))), (2, .int (iI i2))]) dX6_isDone_213 (j := 3) rfl (by decide) rfl ?_
                            refine r_goto B dX6_isDone_216 rfl ?_
                            refine WM.pick [1, 2, 3, 0] rfl ?_
                            exact ihlp11 (j + 1) Mq (by omega) (by omega) (by have w := hpp.1; rw [addP_addN] at w; exact w) (fun c p => (hf c p).tr (hpp.2 c p)) (by omega)
                    refine WM.pick [2, 3, 1, 0] rfl ?_
                    exact lp11 _ 0 Mp (by omega) (by omega) (RowS.w_addN0 hpl.1) hpl.2 (Nat.lt_succ_self _)
                  refine r_icmp_ne B dX6_isDone_168 rfl ⟨by omega, by omega⟩ ⟨by omega, by omega⟩ (fun h14 => ?_) (fun h14 => ?_)
                  · refine r_iconst B dX6_isDone_175 ?_
                    exact J10 _ (by omega)
                  · refine r_iconst B dX6_isDone_171 ?_
                    refine r_goto B dX6_isDone_172 rfl ?_
                    exact J10 _ (by omega)
              refine r_if_eq B dX6_isDone_134 rfl ⟨by omega, by omega⟩ (fun h15 => ?_) (fun h15 => ?_)
              · refine r_iconst B dX6_isDone_154 ?_
                exact J6 _ (Or.inr ⟨rfl, fun w => by rcases his with x | x; omega; exact x.2 w.1⟩)
              · refine r_aload_n B 0 dX6_isDone_137 rfl ?_
                refine rg6_s B hM.1 q_892 dX6_isDone_138 ?_
                refine r_sipush B (z := 571) dX6_isDone_141 (by decide) ?_
                refine r_iaload B dX6_isDone_144 hM.2.1 (by omega) (by omega) ?_
                refine r_vi (y := s.2.1) hS_M.2.1 ?_
                refine r_bipush B (z := 10) dX6_isDone_145 (by decide) ?_
                refine r_icmp_ge B dX6_isDone_147 rfl ⟨by omega, by omega⟩ ⟨by omega, by omega⟩ (fun h16 => ?_) (fun h16 => ?_)
                · refine r_iconst B dX6_isDone_154 ?_
                  exact J6 _ (Or.inr ⟨rfl, fun w => by omega⟩)
                · refine r_iconst B dX6_isDone_150 ?_
                  refine r_goto B dX6_isDone_151 rfl ?_
                  exact J6 _ (Or.inl ⟨rfl, by rcases his with x | x; exact x.2; omega, by omega⟩)
            · refine r_aload_n B 0 dX6_isDone_124 rfl ?_
              refine rg6_letter B hM.1 q_906 dX6_isDone_125 ?_
              refine r_vi (y := q.1) hlt ?_
              refine r_bipush B (z := 104) dX6_isDone_128 (by decide) ?_
              refine r_icmp_ne B dX6_isDone_130 rfl ⟨by omega, by omega⟩ ⟨by omega, by omega⟩ (fun h17 => ?_) (fun h17 => ?_)
              · refine r_aload_n B 0 dX6_isDone_221 rfl ?_
                refine rg6_letter B hM.1 q_906 dX6_isDone_222 ?_
                refine r_vi (y := q.1) hlt ?_
                refine r_bipush B (z := 108) dX6_isDone_225 (by decide) ?_
                have J18 : ∀ se : Int, ((q.1 = 108 ∧ se = 0) ∨ (q.1 = 114 ∧ se = 1) ∨ (¬ q.1 = 108 ∧ ¬ q.1 = 114 ∧ se = 2)) → WM G X 0 0 (bM X (PoI G (fun r M' => ((∃ s' : Ast, CmR s q (some s') ∧ r = 1 ∧ MdS M' md s') ∨ (CmR s q none ∧ r = 0 ∧ MdS M' md s)) ∧ ∀ c : Nat, c ≠ md + 1 → Same M M' c)) 0 0 G) M 248 [(0, .ref md), (1, .int (iI (s.1 - 1))), (2, .int (iI is)), (3, .int (iI k))] [.int (iI se)] := by
                  intro se hse
                  have hse : (q.1 = 108 ∧ se = 0) ∨ (q.1 = 114 ∧ se = 1) ∨ (q.1 = 102 ∧ se = 2) := by unfold isLet at hlet; omega
                  refine r_istore_n B (lv' := [(3, .int (iI se)), (0, .ref md), (1, .int (iI (s.1 - 1))), (2, .int (iI is))]) dX6_isDone_248 (by decide) rfl ?_
                  refine r_iload_n B 3 dX6_isDone_249 rfl ?_
                  have J19 : ∀ i3 : Int, ((i3 = 1 ∧ (1 ≤ s.1 ∧ inRg q.2.1 q.2.2.2.2 ∧ q.2.1 = szS (s.2.2.1 (s.1 - 1)).1 se)) ∨ (i3 = 0 ∧ ¬ (1 ≤ s.1 ∧ inRg q.2.1 q.2.2.2.2 ∧ q.2.1 = szS (s.2.2.1 (s.1 - 1)).1 se))) → WM G X 0 0 (bM X (PoI G (fun r M' => ((∃ s' : Ast, CmR s q (some s') ∧ r = 1 ∧ MdS M' md s') ∨ (CmR s q none ∧ r = 0 ∧ MdS M' md s)) ∧ ∀ c : Nat, c ≠ md + 1 → Same M M' c)) 0 0 G) M 271 [(3, .int (iI se)), (0, .ref md), (1, .int (iI (s.1 - 1))), (2, .int (iI is))] [.int (iI i3)] := by
                    intro i3 hi3
                    have i301 : 0 ≤ i3 ∧ i3 ≤ 1 := by rcases hi3 with w | w <;> omega
                    refine r_istore_n B (lv' := [(2, .int (iI i3)), (3, .int (iI se)), (0, .ref md), (1, .int (iI (s.1 - 1)))]) dX6_isDone_271 (by decide) rfl ?_
                    refine r_iconst B dX6_isDone_272 ?_
                    refine r_istore B (lv' := [(4, .int (iI 0)), (2, .int (iI i3)), (3, .int (iI se)), (0, .ref md), (1, .int (iI (s.1 - 1)))]) dX6_isDone_273 (by decide) rfl ?_
                    have lp20 : ∀ (nlp20 : Nat) (j : Int) (Mc : Mem) (hj0 : 0 ≤ j) (hj1 : j ≤ q.2.1) (hw : ∀ k : Int, 0 ≤ k → k < j → gI Mc (md + 1) (1 + 95 * (s.1 - 1) + 2 + 31 * se + k) = q.2.2.2.2 k) (hu : ∀ k : Int, (k < 1 + 95 * (s.1 - 1) + 2 + 31 * se ∨ 1 + 95 * (s.1 - 1) + 2 + 31 * se + 31 ≤ k) → gI Mc (md + 1) k = gI M (md + 1) k) (hu0 : i3 = 0 → gI Mc (md + 1) = gI M (md + 1)) (hf : ∀ c : Nat, c ≠ md + 1 → Same M Mc c), (q.2.1 - j).toNat < nlp20 → WM G X 0 0 (bM X (PoI G (fun r M' => ((∃ s' : Ast, CmR s q (some s') ∧ r = 1 ∧ MdS M' md s') ∨ (CmR s q none ∧ r = 0 ∧ MdS M' md s)) ∧ ∀ c : Nat, c ≠ md + 1 → Same M M' c)) 0 0 G) Mc 275 [(0, .ref md), (1, .int (iI (s.1 - 1))), (2, .int (iI i3)), (3, .int (iI se)), (4, .int (iI j))] [] := by
                      intro nlp20
                      induction nlp20 with
                      | zero => intro j Mc hj0 hj1 hw hu hu0 hf hm; omega
                      | succ nlp20 ihlp20 =>
                        intro j Mc hj0 hj1 hw hu hu0 hf hm
                        refine r_iload B 4 dX6_isDone_275 rfl ?_
                        refine r_aload_n B 0 dX6_isDone_277 rfl ?_
                        refine rg6_numberMany B hM.1 q_908 dX6_isDone_278 ?_
                        refine r_vi (y := q.2.1) (by rw [(hf md (by omega)).1]; exact hnm) ?_
                        refine r_icmp_ge B dX6_isDone_281 rfl ⟨by omega, by omega⟩ ⟨by omega, by omega⟩ (fun h21 => ?_) (fun h21 => ?_)
                        · rcases hi3 with ⟨y1, y2⟩ | ⟨y1, y2⟩
                          · refine r_iload_n B 2 dX6_isDone_313 rfl ?_
                            exact r_zret B dX6_isDone_314 (by omega) ⟨Or.inl ⟨setS s se q.2.2.2.2, Or.inr (Or.inl ⟨se, hse, Or.inl ⟨y2.1, y2.2.1, y2.2.2, rfl⟩⟩), by omega, RowS.w_setS hS_M hok y2.1 (fun k q0 q1 => hw k q0 (by omega)) hu (by omega) (by omega)⟩, hf⟩
                          · refine r_iload_n B 2 dX6_isDone_313 rfl ?_
                            exact r_zret B dX6_isDone_314 (by omega) ⟨Or.inr ⟨Or.inr (Or.inl ⟨se, hse, Or.inr ⟨y2, rfl⟩⟩), by omega, hS_M.congr hok (fun k q0 q1 => by rw [hu0 y1])⟩, hf⟩
                        · refine r_iload_n B 2 dX6_isDone_284 rfl ?_
                          refine r_if_eq B dX6_isDone_285 rfl ⟨by omega, by omega⟩ (fun h22 => ?_) (fun h22 => ?_)
                          · refine r_iload_n B 2 dX6_isDone_313 rfl ?_
                            exact r_zret B dX6_isDone_314 (by omega) ⟨Or.inr ⟨Or.inr (Or.inl ⟨se, hse, Or.inr ⟨by rcases hi3 with w | w; omega; exact w.2, rfl⟩⟩), by omega, hS_M.congr hok (fun k q0 q1 => by rw [hu0 (by omega)])⟩, hf⟩
                          · have hpr : (1 ≤ s.1 ∧ inRg q.2.1 q.2.2.2.2 ∧ q.2.1 = szS (s.2.2.1 (s.1 - 1)).1 se) := by rcases hi3 with w | w; exact w.2; omega
                            have hzz := szS_30 (z := (s.2.2.1 (s.1 - 1)).1) (t := se) (hok.2.2.2.2.1 (s.1 - 1) (by omega) (by omega)).2.1
                            refine r_aload_n B 0 dX6_isDone_288 rfl ?_
                            refine rg6_s B hM.1 q_892 dX6_isDone_289 ?_
                            refine r_iload_n B 1 dX6_isDone_292 rfl ?_
                            refine r_iload_n B 3 dX6_isDone_293 rfl ?_
                            refine r_iload B 4 dX6_isDone_294 rfl ?_
                            refine r_pSi3 B (c_X6_placeOf l G Mc  (s.1 - 1) se j ) ⟨rfl, rfl⟩ ok_X6_placeOf q_1027 q_1026 ⟨Nat.le_of_ble_eq_true rfl, Nat.le_of_ble_eq_true rfl, Nat.le_of_ble_eq_true rfl⟩ ⟨Nat.le_of_ble_eq_true rfl, Nat.le_of_ble_eq_true rfl⟩ dX6_isDone_296 ?_
                            refine r_aload_n B 0 dX6_isDone_299 rfl ?_
                            refine rg6_numbers B hM.1 q_907 dX6_isDone_300 ?_
                            refine r_iload B 4 dX6_isDone_303 rfl ?_
                            refine r_iaload B dX6_isDone_305 hM.2.2.2.2.2.2.2 (by omega) (by omega) ?_
                            refine r_vi (y := q.2.2.2.2 j) (by rw [(hf (md + 7) (by omega)).1]; exact hnv _ (by omega) (by omega)) ?_
                            refine r_iastore B dX6_isDone_306 hM.2.1 (by omega) (by omega) ?_
                            refine WM.nm (fun M23 eM23 => ?_)
                            refine r_iinc B (lv' := [(4, .int (iI (j + 1))), (0, .ref md), (1, .int (iI (s.1 - 1))), (2, .int (iI i3)), (3, .int (iI se))]) dX6_isDone_307 (j := 4) rfl (by decide) rfl ?_
                            refine r_goto B dX6_isDone_310 rfl ?_
                            refine WM.pick [1, 2, 3, 4, 0] rfl ?_
                            refine ihlp20 (j + 1) M23 (by omega) (by omega) ?_ ?_ (fun w => by omega) (fun c p => (hf c p).tr (by rw [eM23]; exact Same.sI p)) (by omega)
                            · intro k q0 q1
                              rw [eM23]
                              by_cases w : k = j
                              · rw [w, gI_eq]
                              · rw [gI_nk (by omega)]; exact hw k q0 (by omega)
                            · intro k w
                              rw [eM23, gI_nk (by omega)]; exact hu k w
                    refine WM.pick [3, 4, 1, 2, 0] rfl ?_
                    exact lp20 _ 0 M (by omega) (by omega) (fun k q0 q1 => by omega) (fun k w => rfl) (fun _ => rfl) (fun c p => Same.rf M c) (Nat.lt_succ_self _)
                  refine r_if_eq B dX6_isDone_250 rfl ⟨by omega, by omega⟩ (fun h24 => ?_) (fun h24 => ?_)
                  · refine r_iconst B dX6_isDone_270 ?_
                    exact J19 _ (Or.inr ⟨rfl, fun w => by rcases his with x | x; omega; exact x.2 ⟨w.1, w.2.1⟩⟩)
                  · have hin : 1 ≤ s.1 ∧ inRg q.2.1 q.2.2.2.2 := by rcases his with x | x; exact x.2; omega
                    have hzz := szS_30 (z := (s.2.2.1 (s.1 - 1)).1) (t := se) (hok.2.2.2.2.1 (s.1 - 1) (by omega) (by omega)).2.1
                    have hzl := szS_le (s.2.2.1 (s.1 - 1)).1 se
                    have hz5 := (hok.2.2.2.2.1 (s.1 - 1) (by omega) (by omega)).1
                    refine r_aload_n B 1 dX6_isDone_253 rfl ?_
                    refine rg6_numberMany B hM.1 q_908 dX6_isDone_254 ?_
                    refine r_vi (y := q.2.1) hnm ?_
                    refine r_aload_n B 1 dX6_isDone_257 rfl ?_
                    refine r_iload_n B 2 dX6_isDone_258 rfl ?_
                    refine r_iload_n B 0 dX6_isDone_259 rfl ?_
                    refine r_pVi2 B (c_X6_longOf l G M md hM s hS_M hok (s.1 - 1) se (by omega) (by omega) (by omega) (by omega)) ⟨rfl, rfl⟩ ok_X6_longOf vi_X6_longOf q_1009 hM.1 rfl (fun _ => rfl) ⟨Nat.le_of_ble_eq_true rfl, Nat.le_of_ble_eq_true rfl, Nat.le_of_ble_eq_true rfl⟩ ⟨Nat.le_of_ble_eq_true rfl, Nat.le_of_ble_eq_true rfl⟩ dX6_isDone_260 ?_
                    refine r_icmp_ne B dX6_isDone_263 rfl ⟨by omega, by omega⟩ ⟨by omega, by omega⟩ (fun h25 => ?_) (fun h25 => ?_)
                    · refine r_iconst B dX6_isDone_270 ?_
                      exact J19 _ (Or.inr ⟨rfl, fun w => h25 w.2.2⟩)
                    · refine r_iconst B dX6_isDone_266 ?_
                      refine r_goto B dX6_isDone_267 rfl ?_
                      exact J19 _ (Or.inl ⟨rfl, hin.1, hin.2, h25⟩)
                refine r_icmp_ne B dX6_isDone_227 rfl ⟨by omega, by omega⟩ ⟨by omega, by omega⟩ (fun h26 => ?_) (fun h26 => ?_)
                · refine r_aload_n B 0 dX6_isDone_234 rfl ?_
                  refine rg6_letter B hM.1 q_906 dX6_isDone_235 ?_
                  refine r_vi (y := q.1) hlt ?_
                  refine r_bipush B (z := 114) dX6_isDone_238 (by decide) ?_
                  refine r_icmp_ne B dX6_isDone_240 rfl ⟨by omega, by omega⟩ ⟨by omega, by omega⟩ (fun h27 => ?_) (fun h27 => ?_)
                  · refine r_iconst B dX6_isDone_247 ?_
                    exact J18 _ (by omega)
                  · refine r_iconst B dX6_isDone_243 ?_
                    refine r_goto B dX6_isDone_244 rfl ?_
                    exact J18 _ (by omega)
                · refine r_iconst B dX6_isDone_230 ?_
                  refine r_goto B dX6_isDone_231 rfl ?_
                  exact J18 _ (by omega)
              · refine r_iload_n B 2 dX6_isDone_133 rfl ?_
                have J28 : ∀ i2 : Int, ((i2 = 1 ∧ (1 ≤ s.1 ∧ inRg q.2.1 q.2.2.2.2) ∧ s.2.1 < 10) ∨ (i2 = 0 ∧ ¬ ((1 ≤ s.1 ∧ inRg q.2.1 q.2.2.2.2) ∧ s.2.1 < 10))) → WM G X 0 0 (bM X (PoI G (fun r M' => ((∃ s' : Ast, CmR s q (some s') ∧ r = 1 ∧ MdS M' md s') ∨ (CmR s q none ∧ r = 0 ∧ MdS M' md s)) ∧ ∀ c : Nat, c ≠ md + 1 → Same M M' c)) 0 0 G) M 155 [(0, .ref md), (1, .int (iI (s.1 - 1))), (2, .int (iI is)), (3, .int (iI k))] [.int (iI i2)] := by
                  intro i2 hi2
                  have i201 : 0 ≤ i2 ∧ i2 ≤ 1 := by rcases hi2 with w | w <;> omega
                  have hlph : q.1 = 112 ∨ q.1 = 104 := by omega
                  refine r_istore_n B (lv' := [(2, .int (iI i2)), (0, .ref md), (1, .int (iI (s.1 - 1))), (3, .int (iI k))]) dX6_isDone_155 (by decide) rfl ?_
                  refine r_iload_n B 0 dX6_isDone_156 rfl ?_
                  refine r_if_eq B dX6_isDone_157 rfl ⟨by omega, by omega⟩ (fun h29 => ?_) (fun h29 => ?_)
                  · refine r_iconst B dX6_isDone_179 ?_
                    refine r_istore_n B (lv' := [(3, .int (iI 0)), (2, .int (iI i2)), (0, .ref md), (1, .int (iI (s.1 - 1)))]) dX6_isDone_180 (by decide) rfl ?_
                    refine r_iload_n B 0 dX6_isDone_181 rfl ?_
                    refine r_aload_n B 2 dX6_isDone_182 rfl ?_
                    refine rg6_numberMany B hM.1 q_908 dX6_isDone_183 ?_
                    refine r_vi (y := q.2.1) hnm ?_
                    refine r_icmp_ge B dX6_isDone_186 rfl ⟨by omega, by omega⟩ ⟨by omega, by omega⟩ (fun h30 => ?_) (fun h30 => ?_)
                    · refine r_iload_n B 1 dX6_isDone_219 rfl ?_
                      exact r_zret B dX6_isDone_220 (by omega) ⟨Or.inr ⟨Or.inr (Or.inr ⟨if q.1 = 112 then 0 else 1, by split <;> omega, Or.inr ⟨fun z => by rcases hi2 with w | w; omega; exact w.2 ⟨⟨z.1, z.2.1⟩, z.2.2⟩, rfl⟩⟩), by omega, hS_M⟩, fun c p => Same.rf M c⟩
                    · refine r_iload_n B 1 dX6_isDone_189 rfl ?_
                      refine r_if_eq B dX6_isDone_190 rfl ⟨by omega, by omega⟩ (fun h31 => ?_) (fun h31 => ?_)
                      · refine r_iload_n B 1 dX6_isDone_219 rfl ?_
                        exact r_zret B dX6_isDone_220 (by omega) ⟨Or.inr ⟨Or.inr (Or.inr ⟨if q.1 = 112 then 0 else 1, by split <;> omega, Or.inr ⟨fun z => by rcases hi2 with w | w; omega; exact w.2 ⟨⟨z.1, z.2.1⟩, z.2.2⟩, rfl⟩⟩), by omega, hS_M⟩, fun c p => Same.rf M c⟩
                      · omega
                  · obtain ⟨hin, hroom⟩ : (1 ≤ s.1 ∧ inRg q.2.1 q.2.2.2.2) ∧ s.2.1 < 10 := by rcases hi2 with w | w; exact w.2; omega
                    have hmx12 : q.2.1 ≤ 12 := by unfold mxN at hmx; rw [if_neg hl3, if_pos (by omega)] at hmx; exact hmx
                    refine r_aload_n B 1 dX6_isDone_160 rfl ?_
                    refine r_iload_n B 2 dX6_isDone_161 rfl ?_
                    refine r_aload_n B 1 dX6_isDone_162 rfl ?_
                    refine rg6_letter B hM.1 q_906 dX6_isDone_163 ?_
                    refine r_vi (y := q.1) hlt ?_
                    refine r_bipush B (z := 112) dX6_isDone_166 (by decide) ?_
                    have J32 : ∀ ki : Int, ((q.1 = 112 ∧ ki = 0) ∨ (¬ q.1 = 112 ∧ ki = 1)) → WM G X 0 0 (bM X (PoI G (fun r M' => ((∃ s' : Ast, CmR s q (some s') ∧ r = 1 ∧ MdS M' md s') ∨ (CmR s q none ∧ r = 0 ∧ MdS M' md s)) ∧ ∀ c : Nat, c ≠ md + 1 → Same M M' c)) 0 0 G) M 176 [(2, .int (iI i2)), (0, .ref md), (1, .int (iI (s.1 - 1))), (3, .int (iI k))] [.int (iI ki), .int (iI (s.1 - 1)), .ref md] := by
                      intro ki hki
                      have hki : (q.1 = 112 ∧ ki = 0) ∨ (q.1 = 104 ∧ ki = 1) := by omega
                      refine r_Vv2 B (c_X6_putsLine l G M md hM s hS_M hok (s.1 - 1) ki (by omega)) ⟨rfl, rfl⟩ ok_X6_putsLine vi_X6_putsLine q_1180 hM.1 rfl (fun _ => rfl) ⟨Nat.le_of_ble_eq_true rfl, Nat.le_of_ble_eq_true rfl, Nat.le_of_ble_eq_true rfl⟩ ⟨Nat.le_of_ble_eq_true rfl, Nat.le_of_ble_eq_true rfl⟩ dX6_isDone_176 (fun Mp hpl => ?_)
                      refine r_iconst B dX6_isDone_179 ?_
                      refine r_istore_n B (lv' := [(3, .int (iI 0)), (2, .int (iI i2)), (0, .ref md), (1, .int (iI (s.1 - 1)))]) dX6_isDone_180 (by decide) rfl ?_
                      have lp33 : ∀ (nlp33 : Nat) (j : Int) (Mc : Mem) (hj0 : 0 ≤ j) (hj1 : j ≤ q.2.1) (hT : MdS Mc md (addN s ki j q.2.2.2.2)) (hf : ∀ c : Nat, c ≠ md + 1 → Same M Mc c), (q.2.1 - j).toNat < nlp33 → WM G X 0 0 (bM X (PoI G (fun r M' => ((∃ s' : Ast, CmR s q (some s') ∧ r = 1 ∧ MdS M' md s') ∨ (CmR s q none ∧ r = 0 ∧ MdS M' md s)) ∧ ∀ c : Nat, c ≠ md + 1 → Same M M' c)) 0 0 G) Mc 181 [(0, .ref md), (1, .int (iI (s.1 - 1))), (2, .int (iI i2)), (3, .int (iI j))] [] := by
                        intro nlp33
                        induction nlp33 with
                        | zero => intro j Mc hj0 hj1 hT hf hm; omega
                        | succ nlp33 ihlp33 =>
                          intro j Mc hj0 hj1 hT hf hm
                          refine r_iload_n B 3 dX6_isDone_181 rfl ?_
                          refine r_aload_n B 0 dX6_isDone_182 rfl ?_
                          refine rg6_numberMany B hM.1 q_908 dX6_isDone_183 ?_
                          refine r_vi (y := q.2.1) (by rw [(hf md (by omega)).1]; exact hnm) ?_
                          refine r_icmp_ge B dX6_isDone_186 rfl ⟨by omega, by omega⟩ ⟨by omega, by omega⟩ (fun h34 => ?_) (fun h34 => ?_)
                          · refine r_iload_n B 2 dX6_isDone_219 rfl ?_
                            exact r_zret B dX6_isDone_220 (by omega) ⟨Or.inl ⟨addN s ki q.2.1 q.2.2.2.2, Or.inr (Or.inr ⟨ki, hki, Or.inl ⟨hin.1, hin.2, hroom, rfl⟩⟩), by omega, by rw [← show j = q.2.1 by omega]; exact hT⟩, hf⟩
                          · have hvj := hvb j hj0 (by omega)
                            refine r_iload_n B 2 dX6_isDone_189 rfl ?_
                            refine r_if_eq B dX6_isDone_190 rfl ⟨by omega, by omega⟩ (fun h35 => ?_) (fun h35 => ?_)
                            · omega
                            · refine r_aload_n B 0 dX6_isDone_193 rfl ?_
                              refine r_aload_n B 0 dX6_isDone_194 rfl ?_
                              refine rg6_s B hM.1 q_892 dX6_isDone_195 ?_
                              refine r_sipush B (z := 571) dX6_isDone_198 (by decide) ?_
                              refine r_iaload B dX6_isDone_201 hM.2.1 (by omega) (by omega) ?_
                              refine r_vi (y := s.2.1 + 1) hT.2.1 ?_
                              refine r_iconst B dX6_isDone_202 ?_
                              refine r_isub B dX6_isDone_203 ?_
                              refine r_vi (y := s.2.1) (by omega) ?_
                              refine r_aload_n B 0 dX6_isDone_204 rfl ?_
                              refine rg6_numbers B hM.1 q_907 dX6_isDone_205 ?_
                              refine r_iload_n B 3 dX6_isDone_208 rfl ?_
                              refine r_iaload B dX6_isDone_209 hM.2.2.2.2.2.2.2 (by omega) (by omega) ?_
                              refine r_vi (y := q.2.2.2.2 j) (by rw [(hf (md + 7) (by omega)).1]; exact hnv _ (by omega) (by omega)) ?_
                              refine r_Vv2 B (c_X6_putsPoint l G Mc md hM (addN s ki j q.2.2.2.2) hT (addN_okk hok hin.1 hroom (by omega) (by omega) hj0 (by omega) (fun k q0 q1 => hin.2 k q0 (by omega))) s.2.1 (q.2.2.2.2 j) (by omega) (by show s.2.1 < s.2.1 + 1; omega) (by show (upF s.2.2.2 s.2.1 _ s.2.1).2.2.1 < 12; rw [upF_eq]; show j < 12; omega)) ⟨rfl, rfl⟩ ok_X6_putsPoint vi_X6_putsPoint q_1192 hM.1 rfl (fun _ => rfl) ⟨Nat.le_of_ble_eq_true rfl, Nat.le_of_ble_eq_true rfl, Nat.le_of_ble_eq_true rfl⟩ ⟨Nat.le_of_ble_eq_true rfl, Nat.le_of_ble_eq_true rfl⟩ dX6_isDone_210 (fun Mq hpp => ?_)
                              refine r_iinc B (lv' := [(3, .int (iI (j + 1))), (0, .ref md), (1, .int (iI (s.1 - 1))), (2, .int (iI i2))]) dX6_isDone_213 (j := 3) rfl (by decide) rfl ?_
                              refine r_goto B dX6_isDone_216 rfl ?_
                              refine WM.pick [1, 2, 3, 0] rfl ?_
                              exact ihlp33 (j + 1) Mq (by omega) (by omega) (by have w := hpp.1; rw [addP_addN] at w; exact w) (fun c p => (hf c p).tr (hpp.2 c p)) (by omega)
                      refine WM.pick [2, 3, 1, 0] rfl ?_
                      exact lp33 _ 0 Mp (by omega) (by omega) (RowS.w_addN0 hpl.1) hpl.2 (Nat.lt_succ_self _)
                    refine r_icmp_ne B dX6_isDone_168 rfl ⟨by omega, by omega⟩ ⟨by omega, by omega⟩ (fun h36 => ?_) (fun h36 => ?_)
                    · refine r_iconst B dX6_isDone_175 ?_
                      exact J32 _ (by omega)
                    · refine r_iconst B dX6_isDone_171 ?_
                      refine r_goto B dX6_isDone_172 rfl ?_
                      exact J32 _ (by omega)
                refine r_if_eq B dX6_isDone_134 rfl ⟨by omega, by omega⟩ (fun h37 => ?_) (fun h37 => ?_)
                · refine r_iconst B dX6_isDone_154 ?_
                  exact J28 _ (Or.inr ⟨rfl, fun w => by rcases his with x | x; omega; exact x.2 w.1⟩)
                · refine r_aload_n B 0 dX6_isDone_137 rfl ?_
                  refine rg6_s B hM.1 q_892 dX6_isDone_138 ?_
                  refine r_sipush B (z := 571) dX6_isDone_141 (by decide) ?_
                  refine r_iaload B dX6_isDone_144 hM.2.1 (by omega) (by omega) ?_
                  refine r_vi (y := s.2.1) hS_M.2.1 ?_
                  refine r_bipush B (z := 10) dX6_isDone_145 (by decide) ?_
                  refine r_icmp_ge B dX6_isDone_147 rfl ⟨by omega, by omega⟩ ⟨by omega, by omega⟩ (fun h38 => ?_) (fun h38 => ?_)
                  · refine r_iconst B dX6_isDone_154 ?_
                    exact J28 _ (Or.inr ⟨rfl, fun w => by omega⟩)
                  · refine r_iconst B dX6_isDone_150 ?_
                    refine r_goto B dX6_isDone_151 rfl ?_
                    exact J28 _ (Or.inl ⟨rfl, by rcases his with x | x; exact x.2; omega, by omega⟩)
          · have hvk := hvb k hk0 (by omega)
            have i5 := inF_in (q.2.2.2.2 k) (-5000) 5000
            refine r_iload_n B 2 dX6_isDone_87 rfl ?_
            have J39 : ∀ nw : Int, ((nw = 1 ∧ (1 ≤ s.1 ∧ inRg (k + 1) q.2.2.2.2)) ∨ (nw = 0 ∧ ¬ (1 ≤ s.1 ∧ inRg (k + 1) q.2.2.2.2))) → WM G X 0 0 (bM X (PoI G (fun r M' => ((∃ s' : Ast, CmR s q (some s') ∧ r = 1 ∧ MdS M' md s') ∨ (CmR s q none ∧ r = 0 ∧ MdS M' md s)) ∧ ∀ c : Nat, c ≠ md + 1 → Same M M' c)) 0 0 G) M 108 [(0, .ref md), (1, .int (iI (s.1 - 1))), (2, .int (iI is)), (3, .int (iI k))] [.int (iI nw)] := by
              intro nw hnw
              refine r_istore_n B (lv' := [(2, .int (iI nw)), (0, .ref md), (1, .int (iI (s.1 - 1))), (3, .int (iI k))]) dX6_isDone_108 (by decide) rfl ?_
              refine r_iinc B (lv' := [(3, .int (iI (k + 1))), (2, .int (iI nw)), (0, .ref md), (1, .int (iI (s.1 - 1)))]) dX6_isDone_109 (j := 3) rfl (by decide) rfl ?_
              refine r_goto B dX6_isDone_112 rfl ?_
              refine WM.pick [2, 3, 1, 0] rfl ?_
              exact ihlp3 (k + 1) _ (by omega) (by omega) hnw (by omega)
            refine r_if_eq B dX6_isDone_88 rfl ⟨by omega, by omega⟩ (fun h40 => ?_) (fun h40 => ?_)
            · refine r_iconst B dX6_isDone_107 ?_
              exact J39 _ (Or.inr ⟨rfl, fun w => by rcases his with x | x; omega; exact x.2 ⟨w.1, fun y y0 y1 => w.2 y y0 (by omega)⟩⟩)
            · refine r_aload_n B 0 dX6_isDone_91 rfl ?_
              refine rg6_numbers B hM.1 q_907 dX6_isDone_92 ?_
              refine r_iload_n B 3 dX6_isDone_95 rfl ?_
              refine r_iaload B dX6_isDone_96 hM.2.2.2.2.2.2.2 (by omega) (by omega) ?_
              refine r_vi (y := q.2.2.2.2 k) (hnv _ (by omega) (by omega)) ?_
              refine r_pSz1 B (c_X6_isValue l G M  (q.2.2.2.2 k) ⟨by omega, by omega⟩) ⟨rfl, rfl⟩ ok_X6_isValue q_1018 q_1017 ⟨Nat.le_of_ble_eq_true rfl, Nat.le_of_ble_eq_true rfl, Nat.le_of_ble_eq_true rfl⟩ ⟨Nat.le_of_ble_eq_true rfl, Nat.le_of_ble_eq_true rfl⟩ dX6_isDone_97 ?_
              refine r_if_eq B dX6_isDone_100 rfl ⟨by omega, by omega⟩ (fun h41 => ?_) (fun h41 => ?_)
              · have q_h41 := inF_0 h41
                refine r_iconst B dX6_isDone_107 ?_
                exact J39 _ (Or.inr ⟨rfl, fun w => q_h41 (w.2 k hk0 (by omega))⟩)
              · have q_h41 := inF_1 h41
                refine r_iconst B dX6_isDone_103 ?_
                refine r_goto B dX6_isDone_104 rfl ?_
                exact J39 _ (Or.inl ⟨rfl, by rcases his with x | x; exact x.2.1; omega, fun y y0 y1 => by rcases (show y < k ∨ y = k by omega) with u | u; rcases his with x | x; exact x.2.2 y y0 u; omega; rw [u]; exact q_h41⟩)
      refine WM.pick [3, 2, 1, 0] rfl ?_
      exact lp3 _ 0 _ (by omega) (by omega) (by rcases his0 with w | w; exact Or.inl ⟨w.2, w.1, fun y y0 y1 => by omega⟩; exact Or.inr ⟨w.2, fun z => w.1 z.1⟩) (Nat.lt_succ_self _)
    refine r_if_lt B dX6_isDone_68 rfl ⟨by omega, by omega⟩ (fun h42 => ?_) (fun h42 => ?_)
    · refine r_iconst B dX6_isDone_75 ?_
      exact J2 _ (by omega)
    · refine r_iconst B dX6_isDone_71 ?_
      refine r_goto B dX6_isDone_72 rfl ?_
      exact J2 _ (by omega)
  · have hl3 : q.1 = 103 := by omega
    have hn2 : 2 ≤ q.2.1 := by rw [hl3] at hmn; exact hmn
    have v0 := hvb 0 (by omega) (by omega)
    have v1 := hvb 1 (by omega) (by omega)
    have i1 : 0 ≤ szF (q.2.2.2.2 0) (q.2.2.2.2 1) ∧ szF (q.2.2.2.2 0) (q.2.2.2.2 1) ≤ 1 := by unfold szF; split <;> omega
    refine r_aload_n B 1 dX6_isDone_18 rfl ?_
    refine rg6_numbers B hM.1 q_907 dX6_isDone_19 ?_
    refine r_iconst B dX6_isDone_22 ?_
    refine r_iaload B dX6_isDone_23 hM.2.2.2.2.2.2.2 (by omega) (by omega) ?_
    refine r_vi (y := q.2.2.2.2 0) (hnv _ (by omega) (by omega)) ?_
    refine r_aload_n B 1 dX6_isDone_24 rfl ?_
    refine rg6_numbers B hM.1 q_907 dX6_isDone_25 ?_
    refine r_iconst B dX6_isDone_28 ?_
    refine r_iaload B dX6_isDone_29 hM.2.2.2.2.2.2.2 (by omega) (by omega) ?_
    refine r_vi (y := q.2.2.2.2 1) (hnv _ (by omega) (by omega)) ?_
    refine r_pSz2 B (c_X6_isSize l G M  (q.2.2.2.2 0) (q.2.2.2.2 1) ⟨by omega, by omega⟩ ⟨by omega, by omega⟩) ⟨rfl, rfl⟩ ok_X6_isSize q_956 q_955 ⟨Nat.le_of_ble_eq_true rfl, Nat.le_of_ble_eq_true rfl, Nat.le_of_ble_eq_true rfl⟩ ⟨Nat.le_of_ble_eq_true rfl, Nat.le_of_ble_eq_true rfl⟩ dX6_isDone_30 ?_
    refine r_if_eq B dX6_isDone_33 rfl ⟨by omega, by omega⟩ (fun h43 => ?_) (fun h43 => ?_)
    · refine r_iconst B dX6_isDone_47 ?_
      exact r_zret B dX6_isDone_48 (by omega) ⟨Or.inr ⟨Or.inl ⟨hl3, Or.inr ⟨fun z => by unfold szF at h43; rw [if_pos z.1] at h43; omega, rfl⟩⟩, rfl, hS_M⟩, fun c p => Same.rf M c⟩
    · have hgt : isG (q.2.2.2.2 0) (q.2.2.2.2 1) := Decidable.byContradiction (fun z => h43 (by unfold szF; rw [if_neg z]))
      have hgt2 : 5 ≤ q.2.2.2.2 0 ∧ q.2.2.2.2 0 ≤ 30 := ⟨hgt.1, hgt.2.1⟩
      refine r_aload_n B 1 dX6_isDone_36 rfl ?_
      refine rg6_s B hM.1 q_892 dX6_isDone_37 ?_
      refine r_iconst B dX6_isDone_40 ?_
      refine r_iaload B dX6_isDone_41 hM.2.1 (by omega) (by omega) ?_
      refine r_vi (y := s.1) hS_M.1 ?_
      refine r_bipush B (z := 6) dX6_isDone_42 (by decide) ?_
      refine r_icmp_ne B dX6_isDone_44 rfl ⟨by omega, by omega⟩ ⟨by omega, by omega⟩ (fun h44 => ?_) (fun h44 => ?_)
      · refine r_aload_n B 1 dX6_isDone_49 rfl ?_
        refine r_aload_n B 1 dX6_isDone_50 rfl ?_
        refine rg6_numbers B hM.1 q_907 dX6_isDone_51 ?_
        refine r_iconst B dX6_isDone_54 ?_
        refine r_iaload B dX6_isDone_55 hM.2.2.2.2.2.2.2 (by omega) (by omega) ?_
        refine r_vi (y := q.2.2.2.2 0) (hnv _ (by omega) (by omega)) ?_
        refine r_aload_n B 1 dX6_isDone_56 rfl ?_
        refine rg6_numbers B hM.1 q_907 dX6_isDone_57 ?_
        refine r_iconst B dX6_isDone_60 ?_
        refine r_iaload B dX6_isDone_61 hM.2.2.2.2.2.2.2 (by omega) (by omega) ?_
        refine r_vi (y := q.2.2.2.2 1) (hnv _ (by omega) (by omega)) ?_
        refine r_Vv2 B (c_X6_putsGear l G M md hM s hS_M hok (q.2.2.2.2 0) (q.2.2.2.2 1) (by omega) (by omega)) ⟨rfl, rfl⟩ ok_X6_putsGear vi_X6_putsGear q_972 hM.1 rfl (fun _ => rfl) ⟨Nat.le_of_ble_eq_true rfl, Nat.le_of_ble_eq_true rfl, Nat.le_of_ble_eq_true rfl⟩ ⟨Nat.le_of_ble_eq_true rfl, Nat.le_of_ble_eq_true rfl⟩ dX6_isDone_62 (fun Mw hw => ?_)
        refine r_iconst B dX6_isDone_65 ?_
        exact r_zret B dX6_isDone_66 (by omega) ⟨Or.inl ⟨_, Or.inl ⟨hl3, Or.inl ⟨hgt, by omega, rfl⟩⟩, rfl, hw.1⟩, hw.2⟩
      · refine r_iconst B dX6_isDone_47 ?_
        exact r_zret B dX6_isDone_48 (by omega) ⟨Or.inr ⟨Or.inl ⟨hl3, Or.inr ⟨fun z => by have := z.2; omega, rfl⟩⟩, rfl, hS_M⟩, fun c p => Same.rf M c⟩
