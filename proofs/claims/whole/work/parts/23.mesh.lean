set_option maxRecDepth 100000 in
set_option maxHeartbeats 4000000 in
theorem c_X5_commonDivisor (l : Launch) (G : Gs) (M : Mem) (a b : Int) (ha1 : -1000000000000 ≤ a) (ha2 : a ≤ 1000000000000) (hb1 : -1000000000000 ≤ b) (hb2 : b ≤ 1000000000000) : Ct l G yX5_commonDivisor cX5_commonDivisor 11 (some .long) rm_X5_commonDivisor [.long (lI a), .long (lI b)] M (PoL G (Rd ((Int.gcd a b : Nat) : Int) M)) 0 0 := by
  refine Ct.of (by decide +kernel) (Nat.le_of_ble_eq_true rfl) [(0, .long (lI a)), (2, .long (lI b))] rfl ?_
  intro X B
  refine r_lload_n B 0 dX5_commonDivisor_0 rfl ?_
  refine r_mlabs B dX5_commonDivisor_1 q_774 q_775 q_15 q_776 ⟨by omega, by omega⟩ ⟨Nat.le_of_ble_eq_true rfl, Nat.le_of_ble_eq_true rfl, Nat.le_of_ble_eq_true rfl, Nat.le_of_ble_eq_true rfl⟩ ?_
  refine r_lstore B (lv' := [(4, .long (lI (max a (-a)))), (0, .long (lI a)), (2, .long (lI b))]) dX5_commonDivisor_4 (by decide) rfl ?_
  refine r_lload_n B 2 dX5_commonDivisor_6 rfl ?_
  refine r_mlabs B dX5_commonDivisor_7 q_774 q_775 q_15 q_776 ⟨by omega, by omega⟩ ⟨Nat.le_of_ble_eq_true rfl, Nat.le_of_ble_eq_true rfl, Nat.le_of_ble_eq_true rfl, Nat.le_of_ble_eq_true rfl⟩ ?_
  refine r_lstore B (lv' := [(6, .long (lI (max b (-b)))), (4, .long (lI (max a (-a)))), (0, .long (lI a)), (2, .long (lI b))]) dX5_commonDivisor_10 (by decide) rfl ?_
  refine r_iconst B dX5_commonDivisor_12 ?_
  refine r_istore B (lv' := [(8, .int (iI 0)), (6, .long (lI (max b (-b)))), (4, .long (lI (max a (-a)))), (0, .long (lI a)), (2, .long (lI b))]) dX5_commonDivisor_13 (by decide) rfl ?_
  have lp1 : ∀ (nlp1 : Nat) (i : Int) (Bg : Int) (Sm : Int) (hi0 : 0 ≤ i) (hi1 : i ≤ 100) (hB0 : 0 ≤ Bg) (hB1 : Bg ≤ 1099511627776) (hS0 : 0 ≤ Sm) (hS1 : Sm ≤ 1099511627776) (hg : Int.gcd Bg Sm = Int.gcd a b) (hp : EuI i Bg Sm), (100 - i).toNat < nlp1 → WM G X 0 0 (bM X (PoL G (Rd ((Int.gcd a b : Nat) : Int) M)) 0 0 G) M 15 [(0, .long (lI a)), (2, .long (lI b)), (4, .long (lI Bg)), (6, .long (lI Sm)), (8, .int (iI i))] [] := by
    intro nlp1
    induction nlp1 with
    | zero => intro i Bg Sm hi0 hi1 hB0 hB1 hS0 hS1 hg hp hm; omega
    | succ nlp1 ihlp1 =>
      intro i Bg Sm hi0 hi1 hB0 hB1 hS0 hS1 hg hp hm
      refine r_iload B 4 dX5_commonDivisor_15 rfl ?_
      refine r_bipush B (z := 100) dX5_commonDivisor_17 (by decide) ?_
      refine r_icmp_ge B dX5_commonDivisor_19 rfl ⟨by omega, by omega⟩ ⟨by omega, by omega⟩ (fun h2 => ?_) (fun h2 => ?_)
      · have hS : Sm = 0 := EuI.last (B := Bg) (by rw [show (100 : Int) = i by omega]; exact hp) hS0
        refine r_lload B 2 dX5_commonDivisor_50 rfl ?_
        exact r_lret B dX5_commonDivisor_52 ⟨by rw [← hg, hS, gcd_0 hB0], rfl⟩
      · refine r_lload B 3 dX5_commonDivisor_22 rfl ?_
        refine r_lconst0 B dX5_commonDivisor_24 ?_
        refine r_lcmp_eq B dX5_commonDivisor_25 dX5_commonDivisor_26 rfl ⟨by omega, by omega⟩ ⟨by omega, by omega⟩ (fun h3 => ?_) (fun h3 => ?_)
        · refine r_lload B 2 dX5_commonDivisor_50 rfl ?_
          exact r_lret B dX5_commonDivisor_52 ⟨by rw [← hg, h3, gcd_0 hB0], rfl⟩
        · have hm0 := Int.emod_nonneg Bg (show Sm ≠ 0 by omega)
          have hm1 := Int.emod_lt_of_pos Bg (show 0 < Sm by omega)
          refine r_lload B 2 dX5_commonDivisor_29 rfl ?_
          refine r_lload B 3 dX5_commonDivisor_31 rfl ?_
          refine r_lrem B dX5_commonDivisor_33 ⟨by omega, by omega⟩ ⟨by omega, by omega⟩ (by omega) ?_
          refine r_vl (y := Bg % Sm) (Int.tmod_eq_emod_of_nonneg hB0) ?_
          refine r_lstore B (lv' := [(9, .long (lI (Bg % Sm))), (0, .long (lI a)), (2, .long (lI b)), (4, .long (lI Bg)), (6, .long (lI Sm)), (8, .int (iI i))]) dX5_commonDivisor_34 (by decide) rfl ?_
          refine r_lload B 4 dX5_commonDivisor_36 rfl ?_
          refine r_lstore B (lv' := [(4, .long (lI Sm)), (9, .long (lI (Bg % Sm))), (0, .long (lI a)), (2, .long (lI b)), (6, .long (lI Sm)), (8, .int (iI i))]) dX5_commonDivisor_38 (by decide) rfl ?_
          refine r_lload B 1 dX5_commonDivisor_40 rfl ?_
          refine r_lstore B (lv' := [(6, .long (lI (Bg % Sm))), (4, .long (lI Sm)), (9, .long (lI (Bg % Sm))), (0, .long (lI a)), (2, .long (lI b)), (8, .int (iI i))]) dX5_commonDivisor_42 (by decide) rfl ?_
          refine r_iinc B (lv' := [(8, .int (iI (i + 1))), (6, .long (lI (Bg % Sm))), (4, .long (lI Sm)), (9, .long (lI (Bg % Sm))), (0, .long (lI a)), (2, .long (lI b))]) dX5_commonDivisor_44 (j := 5) rfl (by decide) rfl ?_
          refine r_goto B dX5_commonDivisor_47 rfl ?_
          refine WM.pick [4, 5, 2, 1, 0] rfl ?_
          exact ihlp1 (i + 1) _ _ (by omega) (by omega) (by omega) (by omega) (by omega) (by omega) (by rw [gcd_step hB0 (by omega), hg]) (hp.step hi0 hB0 hB1 (by omega) hS1) (by omega)
  refine WM.pick [3, 4, 2, 1, 0] rfl ?_
  exact lp1 _ 0 _ _ (by omega) (by omega) (by omega) (by omega) (by omega) (by omega) (by rw [gcd_abs]) (Or.inl rfl) (Nat.lt_succ_self _)

set_option maxRecDepth 100000 in
set_option maxHeartbeats 4000000 in
theorem c_X2_sort (l : Launch) (G : Gs) (M : Mem) (a g px py : Nat) (p z m fl : Int) (rd : Int → Int → Int) (ha : IsMesh G a) (hg : IsGear G g) (hX : At G px 7 30) (hY : At G py 7 30) (hA : GearIs M g z m rd) (hok : GearOk z m rd) (hp : gI M a 0 = p) (hf0 : 0 ≤ fl) (hf1 : fl < 2) (hp1 : 1 ≤ p) (hp2 : p ≤ 30) (hxa : px ≠ a ∧ py ≠ a ∧ px ≠ py) (hxg : (px < g ∨ g + 5 ≤ px) ∧ (py < g ∨ g + 5 ≤ py)) : Ct l G yX2_sort cX2_sort 8 (none) rm_X2_sort [.ref a, .ref g, .int (iI fl), .ref px, .ref py] M (PoV G (fun M' => (∀ r : Int, 0 ≤ r → r < p → r < z → gI M' px r = cmx (ixS z (rd fl)) p r z.toNat ∧ gI M' py r = cmn (ixS z (rd fl)) p r z.toNat) ∧ ∀ c : Nat, c ≠ px → c ≠ py → Same M M' c)) 0 0 := by
  refine Ct.of (by decide +kernel) (Nat.le_of_ble_eq_true rfl) [(0, .ref a), (1, .ref g), (2, .int (iI fl)), (3, .ref px), (4, .ref py)] rfl ?_
  intro X B
  have hz1 := hok.1
  have hz2 := hok.2.1
  refine r_iconst B dX2_sort_0 ?_
  refine r_istore B (lv' := [(5, .int (iI 0)), (0, .ref a), (1, .ref g), (2, .int (iI fl)), (3, .ref px), (4, .ref py)]) dX2_sort_1 (by decide) rfl ?_
  have lp1 : ∀ (nlp1 : Nat) (i : Int) (Mc : Mem) (hi0 : 0 ≤ i) (hi1 : i ≤ z) (hx : ∀ r : Int, 0 ≤ r → r < p → r < i → gI Mc px r = cmx (ixS z (rd fl)) p r i.toNat ∧ gI Mc py r = cmn (ixS z (rd fl)) p r i.toNat) (hf : ∀ c : Nat, c ≠ px → c ≠ py → Same M Mc c), (z - i).toNat < nlp1 → WM G X 0 0 (bM X (PoV G (fun M' => (∀ r : Int, 0 ≤ r → r < p → r < z → gI M' px r = cmx (ixS z (rd fl)) p r z.toNat ∧ gI M' py r = cmn (ixS z (rd fl)) p r z.toNat) ∧ ∀ c : Nat, c ≠ px → c ≠ py → Same M M' c)) 0 0 G) Mc 3 [(0, .ref a), (1, .ref g), (2, .int (iI fl)), (3, .ref px), (4, .ref py), (5, .int (iI i))] [] := by
    intro nlp1
    induction nlp1 with
    | zero => intro i Mc hi0 hi1 hx hf hm; omega
    | succ nlp1 ihlp1 =>
      intro i Mc hi0 hi1 hx hf hm
      have hm0 := Int.emod_nonneg i (show p ≠ 0 by omega)
      have hm1 := Int.emod_lt_of_pos i (show 0 < p by omega)
      have hml : i % p ≤ i := by have := Int.emod_add_mul_ediv i p; have h2 := Int.mul_nonneg (show 0 ≤ p by omega) (Int.ediv_nonneg hi0 (show 0 ≤ p by omega)); omega
      refine r_iload B 5 dX2_sort_3 rfl ?_
      refine r_aload_n B 1 dX2_sort_5 rfl ?_
      refine rg0_teeth B hg.1 q_42 dX2_sort_6 ?_
      refine r_vi (y := z) (hA.kept (fun c q1 q2 => hf c (by omega) (by omega))).1 ?_
      refine r_icmp_ge B dX2_sort_9 rfl ⟨by omega, by omega⟩ ⟨by omega, by omega⟩ (fun h2 => ?_) (fun h2 => ?_)
      · exact r_vret B dX2_sort_92 ⟨fun r q1 q2 q3 => by have w := hx r q1 q2 (by omega); rw [show i = z by omega] at w; exact w, hf⟩
      · have hib := hok.ix hf0 hf1 (t := i) (by omega) (by omega)
        have hcx := cmx_in (f := ixS z (rd fl)) (p := p) (r := i % p) (A := 20000) (by omega) i.toNat (fun j a b => hok.ix hf0 hf1 (t := j) a (by omega))
        have hcn := cmn_in (f := ixS z (rd fl)) (p := p) (r := i % p) (A := 20000) (by omega) i.toNat (fun j a b => hok.ix hf0 hf1 (t := j) a (by omega))
        refine r_aload_n B 1 dX2_sort_12 rfl ?_
        refine r_iload_n B 2 dX2_sort_13 rfl ?_
        refine r_iload B 5 dX2_sort_14 rfl ?_
        refine r_pVi2 B (c_X0_indexAt l G Mc g z m rd hg (hA.kept (fun c q1 q2 => hf c (by omega) (by omega))) hok fl i (by omega) (by omega) (by omega) (by omega)) ⟨rfl, rfl⟩ ok_X0_indexAt vi_X0_indexAt q_822 hg.1 rfl (fun _ => rfl) ⟨Nat.le_of_ble_eq_true rfl, Nat.le_of_ble_eq_true rfl, Nat.le_of_ble_eq_true rfl⟩ ⟨Nat.le_of_ble_eq_true rfl, Nat.le_of_ble_eq_true rfl⟩ dX2_sort_16 ?_
        refine r_istore B (lv' := [(6, .int (iI (ixS z (rd fl) i))), (0, .ref a), (1, .ref g), (2, .int (iI fl)), (3, .ref px), (4, .ref py), (5, .int (iI i))]) dX2_sort_19 (by decide) rfl ?_
        refine r_iload B 6 dX2_sort_21 rfl ?_
        refine r_aload_n B 1 dX2_sort_23 rfl ?_
        refine rg2_period B ha.1 q_153 dX2_sort_24 ?_
        refine r_vi (y := p) (by rw [(hf a (by omega) (by omega)).1]; exact hp) ?_
        refine r_irem B dX2_sort_27 ⟨by omega, by omega⟩ ⟨by omega, by omega⟩ (by omega) ?_
        refine r_vi (y := i % p) (Int.tmod_eq_emod_of_nonneg hi0) ?_
        refine r_istore B (lv' := [(7, .int (iI (i % p))), (6, .int (iI (ixS z (rd fl) i))), (0, .ref a), (1, .ref g), (2, .int (iI fl)), (3, .ref px), (4, .ref py), (5, .int (iI i))]) dX2_sort_28 (by decide) rfl ?_
        refine r_aload_n B 5 dX2_sort_30 rfl ?_
        refine r_iload B 0 dX2_sort_31 rfl ?_
        refine r_iload B 7 dX2_sort_33 rfl ?_
        refine r_aload_n B 2 dX2_sort_35 rfl ?_
        refine rg2_period B ha.1 q_153 dX2_sort_36 ?_
        refine r_vi (y := p) (by rw [(hf a (by omega) (by omega)).1]; exact hp) ?_
        have J3 : ∀ mo : Int, (mo = if i < p then ixS z (rd fl) i else max (cmx (ixS z (rd fl)) p (i % p) i.toNat) (ixS z (rd fl) i)) → WM G X 0 0 (bM X (PoV G (fun M' => (∀ r : Int, 0 ≤ r → r < p → r < z → gI M' px r = cmx (ixS z (rd fl)) p r z.toNat ∧ gI M' py r = cmn (ixS z (rd fl)) p r z.toNat) ∧ ∀ c : Nat, c ≠ px → c ≠ py → Same M M' c)) 0 0 G) Mc 56 [(7, .int (iI (i % p))), (6, .int (iI (ixS z (rd fl) i))), (0, .ref a), (1, .ref g), (2, .int (iI fl)), (3, .ref px), (4, .ref py), (5, .int (iI i))] [.int (iI mo), .int (iI (i % p)), .ref px] := by
          intro mo hmo
          refine r_iastore B dX2_sort_56 hX (by omega) (by omega) ?_
          refine WM.nm (fun M4 eM4 => ?_)
          refine r_aload B 6 dX2_sort_57 rfl ?_
          refine r_iload B 0 dX2_sort_59 rfl ?_
          refine r_iload B 7 dX2_sort_61 rfl ?_
          refine r_aload_n B 2 dX2_sort_63 rfl ?_
          refine rg2_period B ha.1 q_153 dX2_sort_64 ?_
          refine r_vi (y := p) (by rw [eM4, gI_ne (by omega), (hf a (by omega) (by omega)).1]; exact hp) ?_
          have J5 : ∀ le : Int, (le = if i < p then ixS z (rd fl) i else min (cmn (ixS z (rd fl)) p (i % p) i.toNat) (ixS z (rd fl) i)) → WM G X 0 0 (bM X (PoV G (fun M' => (∀ r : Int, 0 ≤ r → r < p → r < z → gI M' px r = cmx (ixS z (rd fl)) p r z.toNat ∧ gI M' py r = cmn (ixS z (rd fl)) p r z.toNat) ∧ ∀ c : Nat, c ≠ px → c ≠ py → Same M M' c)) 0 0 G) M4 85 [(7, .int (iI (i % p))), (6, .int (iI (ixS z (rd fl) i))), (0, .ref a), (1, .ref g), (2, .int (iI fl)), (3, .ref px), (4, .ref py), (5, .int (iI i))] [.int (iI le), .int (iI (i % p)), .ref py] := by
            intro le hle
            refine r_iastore B dX2_sort_85 hY (by omega) (by omega) ?_
            refine WM.nm (fun M6 eM6 => ?_)
            refine r_iinc B (lv' := [(5, .int (iI (i + 1))), (7, .int (iI (i % p))), (6, .int (iI (ixS z (rd fl) i))), (0, .ref a), (1, .ref g), (2, .int (iI fl)), (3, .ref px), (4, .ref py)]) dX2_sort_86 (j := 7) rfl (by decide) rfl ?_
            refine r_goto B dX2_sort_89 rfl ?_
            refine WM.pick [3, 4, 5, 6, 7, 0] rfl ?_
            refine ihlp1 (i + 1) M6 (by omega) (by omega) ?_ ?_ (by omega)
            · intro r q1 q2 q3
              rw [eM6, eM4, cmx_s _ _ _ hi0, cmn_s _ _ _ hi0]
              by_cases w : i % p = r
              · subst w
                rw [if_pos rfl, if_pos rfl, gI_eq, gI_ne (by omega), gI_eq]
                exact ⟨hmo, hle⟩
              · rw [if_neg w, if_neg w, gI_nk (fun q => w q.symm), gI_nk (fun q => w q.symm), gI_nk (fun q => w q.symm), gI_nk (fun q => w q.symm)]
                refine hx r q1 q2 ?_
                rcases (show r < i ∨ r = i by omega) with q | q
                · exact q
                · exact absurd (Int.emod_eq_of_lt q1 q2) (by rw [q] at w ⊢; exact fun z => w z)
            · intro c q1 q2
              exact (hf c q1 q2).tr (by rw [eM6, eM4]; exact (Same.sI q1).tr (Same.sI q2))
          refine r_icmp_ge B dX2_sort_67 rfl ⟨by omega, by omega⟩ ⟨by omega, by omega⟩ (fun h7 => ?_) (fun h7 => ?_)
          · have hlt : i % p < i := by omega
            refine r_aload B 6 dX2_sort_75 rfl ?_
            refine r_iload B 0 dX2_sort_77 rfl ?_
            refine r_iaload B dX2_sort_79 hY (by omega) (by omega) ?_
            refine r_vi (y := cmn (ixS z (rd fl)) p (i % p) i.toNat) (by rw [eM4, gI_ne (by omega)]; exact (hx (i % p) hm0 hm1 hlt).2) ?_
            refine r_iload B 1 dX2_sort_80 rfl ?_
            refine r_mmin B dX2_sort_82 q_823 q_373 q_15 q_374 ⟨by omega, by omega⟩ ⟨by omega, by omega⟩ ⟨Nat.le_of_ble_eq_true rfl, Nat.le_of_ble_eq_true rfl, Nat.le_of_ble_eq_true rfl, Nat.le_of_ble_eq_true rfl⟩ ?_
            exact J5 _ (by rw [if_neg (by omega)])
          · refine r_iload B 1 dX2_sort_70 rfl ?_
            refine r_goto B dX2_sort_72 rfl ?_
            exact J5 _ (by rw [if_pos (by omega)])
        refine r_icmp_ge B dX2_sort_39 rfl ⟨by omega, by omega⟩ ⟨by omega, by omega⟩ (fun h8 => ?_) (fun h8 => ?_)
        · have hlt : i % p < i := by omega
          refine r_aload_n B 5 dX2_sort_47 rfl ?_
          refine r_iload B 0 dX2_sort_48 rfl ?_
          refine r_iaload B dX2_sort_50 hX (by omega) (by omega) ?_
          refine r_vi (y := cmx (ixS z (rd fl)) p (i % p) i.toNat) (hx (i % p) hm0 hm1 hlt).1 ?_
          refine r_iload B 1 dX2_sort_51 rfl ?_
          refine r_mmax B dX2_sort_53 q_817 q_365 q_15 q_366 ⟨by omega, by omega⟩ ⟨by omega, by omega⟩ ⟨Nat.le_of_ble_eq_true rfl, Nat.le_of_ble_eq_true rfl, Nat.le_of_ble_eq_true rfl, Nat.le_of_ble_eq_true rfl⟩ ?_
          exact J3 _ (by rw [if_neg (by omega)])
        · refine r_iload B 1 dX2_sort_42 rfl ?_
          refine r_goto B dX2_sort_44 rfl ?_
          exact J3 _ (by rw [if_pos (by omega)])
  refine WM.pick [1, 2, 3, 4, 5, 0] rfl ?_
  exact lp1 _ 0 M (by omega) (by omega) (fun r q1 q2 q3 => absurd q3 (by omega)) (fun c _ _ => Same.rf M c) (Nat.lt_succ_self _)

set_option maxRecDepth 100000 in
set_option maxHeartbeats 4000000 in
theorem c_X2_engage (l : Launch) (G : Gs) (M : Mem) (a g1 g2 : Nat) (z1 m1 z2 m2 fl : Int) (r1 r2 : Int → Int → Int) (ha : IsMesh G a) (hg1 : IsGear G g1) (hg2 : IsGear G g2) (hA1 : GearIs M g1 z1 m1 r1) (hA2 : GearIs M g2 z2 m2 r2) (hok1 : GearOk z1 m1 r1) (hok2 : GearOk z2 m2 r2) (hfl0 : 0 ≤ fl) (hfl1 : fl < 2) (hd1 : g1 + 5 ≤ a ∨ a + 5 ≤ g1) (hd2 : g2 + 5 ≤ a ∨ a + 5 ≤ g2) : Ct l G yX2_engage cX2_engage 4 (none) rm_X2_engage [.ref a, .ref g1, .ref g2, .int (iI fl)] M (PoV G (fun M' => MeshIs M' a (Int.gcd z1 z2 : Int) (fun r => cmx (ixS z1 (r1 fl)) (Int.gcd z1 z2 : Int) r z1.toNat) (fun r => cmn (ixS z1 (r1 fl)) (Int.gcd z1 z2 : Int) r z1.toNat) (fun r => cmx (ixS z2 (r2 fl)) (Int.gcd z1 z2 : Int) r z2.toNat) (fun r => cmn (ixS z2 (r2 fl)) (Int.gcd z1 z2 : Int) r z2.toNat) ∧ Only M M' a (a + 5))) 0 0 := by
  refine Ct.of (by decide +kernel) (Nat.le_of_ble_eq_true rfl) [(0, .ref a), (1, .ref g1), (2, .ref g2), (3, .int (iI fl))] rfl ?_
  intro X B
  have hz1 := hok1.1
  have hz2 := hok1.2.1
  have hz3 := hok2.1
  have hz4 := hok2.2.1
  have hgz : 1 ≤ (Int.gcd z1 z2 : Int) ∧ (Int.gcd z1 z2 : Int) ≤ z1 ∧ (Int.gcd z1 z2 : Int) ≤ z2 := gcd_z (by omega) (by omega)
  refine r_aload_n B 0 dX2_engage_0 rfl ?_
  refine r_iconst B dX2_engage_1 ?_
  refine r_aload_n B 1 dX2_engage_2 rfl ?_
  refine rg0_teeth B hg1.1 q_42 dX2_engage_3 ?_
  refine r_vi (y := z1) hA1.1 ?_
  refine r_i2l B dX2_engage_6 ⟨by omega, by omega⟩ ?_
  refine r_aload_n B 2 dX2_engage_7 rfl ?_
  refine rg0_teeth B hg2.1 q_42 dX2_engage_8 ?_
  refine r_vi (y := z2) hA2.1 ?_
  refine r_i2l B dX2_engage_11 ⟨by omega, by omega⟩ ?_
  refine r_pNl2 B (host := "GearGauge") (c_X5_commonDivisor l G M z1 z2 (by omega) (by omega) (by omega) (by omega)) ⟨rfl, rfl⟩ ok_X5_commonDivisor q_772 (by decide) ⟨Nat.le_of_ble_eq_true rfl, Nat.le_of_ble_eq_true rfl, Nat.le_of_ble_eq_true rfl⟩ ⟨Nat.le_of_ble_eq_true rfl, Nat.le_of_ble_eq_true rfl⟩ dX2_engage_12 ?_
  refine r_l2i B dX2_engage_15 ?_
  refine r_mmax B dX2_engage_16 q_817 q_365 q_15 q_366 ⟨by omega, by omega⟩ ⟨by omega, by omega⟩ ⟨Nat.le_of_ble_eq_true rfl, Nat.le_of_ble_eq_true rfl, Nat.le_of_ble_eq_true rfl, Nat.le_of_ble_eq_true rfl⟩ ?_
  refine r_vi (y := (Int.gcd z1 z2 : Int)) (Int.max_eq_right hgz.1) ?_
  refine rp2_period B ha.1 q_153 dX2_engage_19 ?_
  refine WM.nm (fun M1 eM1 => ?_)
  have hf1 : ∀ c : Nat, c ≠ a → Same M M1 c := fun c q => by rw [eM1]; exact Same.sI q
  have hp1 : gI M1 a 0 = Int.gcd z1 z2 := by rw [eM1, gI_eq]
  refine r_aload_n B 0 dX2_engage_22 rfl ?_
  refine r_aload_n B 1 dX2_engage_23 rfl ?_
  refine r_iload_n B 3 dX2_engage_24 rfl ?_
  refine r_aload_n B 0 dX2_engage_25 rfl ?_
  refine rg2_firstMost B ha.1 q_154 dX2_engage_26 ?_
  refine r_aload_n B 0 dX2_engage_29 rfl ?_
  refine rg2_firstLeast B ha.1 q_155 dX2_engage_30 ?_
  refine r_Vv4 B (c_X2_sort l G M1 a g1 (a + 1) (a + 2) (Int.gcd z1 z2 : Int) z1 m1 fl r1 ha hg1 ha.2.1 ha.2.2.1 (hA1.kept (fun c q1 q2 => hf1 c (by omega))) hok1 hp1 hfl0 hfl1 (by omega) (by omega) (by omega) (by omega)) ⟨rfl, rfl⟩ ok_X2_sort vi_X2_sort q_818 ha.1 rfl (fun _ => rfl) ⟨Nat.le_of_ble_eq_true rfl, Nat.le_of_ble_eq_true rfl, Nat.le_of_ble_eq_true rfl⟩ ⟨Nat.le_of_ble_eq_true rfl, Nat.le_of_ble_eq_true rfl⟩ dX2_engage_33 (fun Ms1 hs1 => ?_)
  have hf2 : ∀ c : Nat, c ≠ a → c ≠ a + 1 → c ≠ a + 2 → Same M Ms1 c := fun c q0 q1 q2 => (hf1 c q0).tr (hs1.2 c q1 q2)
  have hf2 : ∀ c : Nat, (c < a ∨ a + 5 ≤ c) → Same M Ms1 c := fun c q => hf2 c (by omega) (by omega) (by omega)
  have hp2 : gI Ms1 a 0 = Int.gcd z1 z2 := by rw [(hs1.2 a (by omega) (by omega)).1]; exact hp1
  refine r_aload_n B 0 dX2_engage_36 rfl ?_
  refine r_aload_n B 2 dX2_engage_37 rfl ?_
  refine r_iload_n B 3 dX2_engage_38 rfl ?_
  refine r_aload_n B 0 dX2_engage_39 rfl ?_
  refine rg2_secondMost B ha.1 q_156 dX2_engage_40 ?_
  refine r_aload_n B 0 dX2_engage_43 rfl ?_
  refine rg2_secondLeast B ha.1 q_157 dX2_engage_44 ?_
  refine r_Vv4 B (c_X2_sort l G Ms1 a g2 (a + 3) (a + 4) (Int.gcd z1 z2 : Int) z2 m2 fl r2 ha hg2 ha.2.2.2.1 ha.2.2.2.2 (hA2.kept (fun c q1 q2 => hf2 c (by omega))) hok2 hp2 hfl0 hfl1 (by omega) (by omega) (by omega) (by omega)) ⟨rfl, rfl⟩ ok_X2_sort vi_X2_sort q_818 ha.1 rfl (fun _ => rfl) ⟨Nat.le_of_ble_eq_true rfl, Nat.le_of_ble_eq_true rfl, Nat.le_of_ble_eq_true rfl⟩ ⟨Nat.le_of_ble_eq_true rfl, Nat.le_of_ble_eq_true rfl⟩ dX2_engage_47 (fun Ms2 hs2 => ?_)
  have hp3 : gI Ms2 a 0 = Int.gcd z1 z2 := by rw [(hs2.2 a (by omega) (by omega)).1]; exact hp2
  exact r_vret B dX2_engage_50 ⟨⟨hp3, fun r q1 q2 => ⟨by rw [(hs2.2 (a + 1) (by omega) (by omega)).1]; exact (hs1.1 r q1 q2 (by omega)).1, by rw [(hs2.2 (a + 2) (by omega) (by omega)).1]; exact (hs1.1 r q1 q2 (by omega)).2, (hs2.1 r q1 q2 (by omega)).1, (hs2.1 r q1 q2 (by omega)).2⟩⟩, fun c q => (hf2 c q).tr (hs2.2 c (by omega) (by omega))⟩

set_option maxRecDepth 100000 in
set_option maxHeartbeats 4000000 in
theorem c_X2_errorAt (l : Launch) (G : Gs) (M : Mem) (a : Nat) (p : Int) (fM fL sM sL : Int → Int) (ha : IsMesh G a) (hA : MeshIs M a p fM fL sM sL) (hok : MeshOk p fM fL sM sL) (ph : Int) (hp0 : 0 ≤ ph) (hp1 : ph ≤ 100) : Ct l G yX2_errorAt cX2_errorAt 6 (some .int) rm_X2_errorAt [.ref a, .int (iI ph)] M (PoI G (Rd (erS p fM fL sM sL ph) M)) 0 0 := by
  refine Ct.of (by decide +kernel) (Nat.le_of_ble_eq_true rfl) [(0, .ref a), (1, .int (iI ph))] rfl ?_
  intro X B
  have hq1 := hok.1
  have hq2 := hok.2.1
  have hm00 := Int.emod_nonneg (0 + ph) (show p ≠ 0 by omega)
  have hm01 := Int.emod_lt_of_pos (0 + ph) (show 0 < p by omega)
  refine r_aload_n B 0 dX2_errorAt_0 rfl ?_
  refine rg2_firstMost B ha.1 q_154 dX2_errorAt_1 ?_
  refine r_iconst B dX2_errorAt_4 ?_
  refine r_iaload B dX2_errorAt_5 ha.2.1 (by omega) (by omega) ?_
  refine r_vi (y := fM 0) (hA.2 _ (by omega) (by omega)).1 ?_
  refine r_aload_n B 0 dX2_errorAt_6 rfl ?_
  refine rg2_secondMost B ha.1 q_156 dX2_errorAt_7 ?_
  refine r_iload_n B 1 dX2_errorAt_10 rfl ?_
  refine r_aload_n B 0 dX2_errorAt_11 rfl ?_
  refine rg2_period B ha.1 q_153 dX2_errorAt_12 ?_
  refine r_vi (y := p) hA.1 ?_
  refine r_irem B dX2_errorAt_15 ⟨by omega, by omega⟩ ⟨by omega, by omega⟩ (by omega) ?_
  refine r_vi (y := (0 + ph) % p) (by rw [Int.zero_add]; exact Int.tmod_eq_emod_of_nonneg (by omega)) ?_
  refine r_iaload B dX2_errorAt_16 ha.2.2.2.1 (by omega) (by omega) ?_
  refine r_vi (y := sM ((0 + ph) % p)) (hA.2 _ (by omega) (by omega)).2.2.1 ?_
  refine r_iadd B dX2_errorAt_17 ?_
  refine r_istore_n B (lv' := [(2, .int (iI ((fM 0) + (sM ((0 + ph) % p))))), (0, .ref a), (1, .int (iI ph))]) dX2_errorAt_18 (by decide) rfl ?_
  refine r_aload_n B 1 dX2_errorAt_19 rfl ?_
  refine rg2_firstLeast B ha.1 q_155 dX2_errorAt_20 ?_
  refine r_iconst B dX2_errorAt_23 ?_
  refine r_iaload B dX2_errorAt_24 ha.2.2.1 (by omega) (by omega) ?_
  refine r_vi (y := fL 0) (hA.2 _ (by omega) (by omega)).2.1 ?_
  refine r_aload_n B 1 dX2_errorAt_25 rfl ?_
  refine rg2_secondLeast B ha.1 q_157 dX2_errorAt_26 ?_
  refine r_iload_n B 2 dX2_errorAt_29 rfl ?_
  refine r_aload_n B 1 dX2_errorAt_30 rfl ?_
  refine rg2_period B ha.1 q_153 dX2_errorAt_31 ?_
  refine r_vi (y := p) hA.1 ?_
  refine r_irem B dX2_errorAt_34 ⟨by omega, by omega⟩ ⟨by omega, by omega⟩ (by omega) ?_
  refine r_vi (y := (0 + ph) % p) (by rw [Int.zero_add]; exact Int.tmod_eq_emod_of_nonneg (by omega)) ?_
  refine r_iaload B dX2_errorAt_35 ha.2.2.2.2 (by omega) (by omega) ?_
  refine r_vi (y := sL ((0 + ph) % p)) (hA.2 _ (by omega) (by omega)).2.2.2 ?_
  refine r_iadd B dX2_errorAt_36 ?_
  refine r_istore_n B (lv' := [(3, .int (iI ((fL 0) + (sL ((0 + ph) % p))))), (2, .int (iI ((fM 0) + (sM ((0 + ph) % p))))), (0, .ref a), (1, .int (iI ph))]) dX2_errorAt_37 (by decide) rfl ?_
  refine r_iconst B dX2_errorAt_38 ?_
  refine r_istore B (lv' := [(4, .int (iI 1)), (3, .int (iI ((fL 0) + (sL ((0 + ph) % p))))), (2, .int (iI ((fM 0) + (sM ((0 + ph) % p))))), (0, .ref a), (1, .int (iI ph))]) dX2_errorAt_39 (by decide) rfl ?_
  have lp1 : ∀ (nlp1 : Nat) (i : Int) (gr : Int) (le : Int) (hi0 : 1 ≤ i) (hi1 : i ≤ p) (hgr : gr = mxF (fun r => fM r + sM ((r + ph) % p)) (i - 1).toNat) (hle : le = mnF (fun r => fL r + sL ((r + ph) % p)) (i - 1).toNat), (p - i).toNat < nlp1 → WM G X 0 0 (bM X (PoI G (Rd (erS p fM fL sM sL ph) M)) 0 0 G) M 41 [(0, .ref a), (1, .int (iI ph)), (2, .int (iI gr)), (3, .int (iI le)), (4, .int (iI i))] [] := by
    intro nlp1
    induction nlp1 with
    | zero => intro i gr le hi0 hi1 hgr hle hm; omega
    | succ nlp1 ihlp1 =>
      intro i gr le hi0 hi1 hgr hle hm
      have hgb := mxF_in (f := (fun r => fM r + sM ((r + ph) % p))) (L := -40000) (A := 40000) (i - 1).toNat (fun j a b => by
        have b1 := hok.2.2 j a (by omega)
        have b2 := hok.2.2 ((j + ph) % p) (Int.emod_nonneg _ (by omega)) (Int.emod_lt_of_pos _ (by omega))
        omega)
      have hlb := mnF_in (f := (fun r => fL r + sL ((r + ph) % p))) (L := -40000) (A := 40000) (i - 1).toNat (fun j a b => by
        have b1 := hok.2.2 j a (by omega)
        have b2 := hok.2.2 ((j + ph) % p) (Int.emod_nonneg _ (by omega)) (Int.emod_lt_of_pos _ (by omega))
        omega)
      refine r_iload B 4 dX2_errorAt_41 rfl ?_
      refine r_aload_n B 0 dX2_errorAt_43 rfl ?_
      refine rg2_period B ha.1 q_153 dX2_errorAt_44 ?_
      refine r_vi (y := p) hA.1 ?_
      refine r_icmp_ge B dX2_errorAt_47 rfl ⟨by omega, by omega⟩ ⟨by omega, by omega⟩ (fun h2 => ?_) (fun h2 => ?_)
      · refine r_iload_n B 2 dX2_errorAt_107 rfl ?_
        refine r_iload_n B 3 dX2_errorAt_108 rfl ?_
        refine r_isub B dX2_errorAt_109 ?_
        exact r_iret B dX2_errorAt_110 ⟨by rw [hgr, hle, show i = p by omega]; rfl, rfl⟩
      · have hmi0 := Int.emod_nonneg (i + ph) (show p ≠ 0 by omega)
        have hmi1 := Int.emod_lt_of_pos (i + ph) (show 0 < p by omega)
        have hbi := hok.2.2 i (by omega) (by omega)
        have hci := hok.2.2 ((i + ph) % p) (by omega) (by omega)
        refine r_iload B 4 dX2_errorAt_50 rfl ?_
        refine r_iload_n B 1 dX2_errorAt_52 rfl ?_
        refine r_iadd B dX2_errorAt_53 ?_
        refine r_aload_n B 0 dX2_errorAt_54 rfl ?_
        refine rg2_period B ha.1 q_153 dX2_errorAt_55 ?_
        refine r_vi (y := p) hA.1 ?_
        refine r_irem B dX2_errorAt_58 ⟨by omega, by omega⟩ ⟨by omega, by omega⟩ (by omega) ?_
        refine r_vi (y := (i + ph) % p) (Int.tmod_eq_emod_of_nonneg (by omega)) ?_
        refine r_istore B (lv' := [(5, .int (iI ((i + ph) % p))), (0, .ref a), (1, .int (iI ph)), (2, .int (iI gr)), (3, .int (iI le)), (4, .int (iI i))]) dX2_errorAt_59 (by decide) rfl ?_
        refine r_iload_n B 3 dX2_errorAt_61 rfl ?_
        refine r_aload_n B 1 dX2_errorAt_62 rfl ?_
        refine rg2_firstMost B ha.1 q_154 dX2_errorAt_63 ?_
        refine r_iload B 5 dX2_errorAt_66 rfl ?_
        refine r_iaload B dX2_errorAt_68 ha.2.1 (by omega) (by omega) ?_
        refine r_vi (y := fM i) (hA.2 _ (by omega) (by omega)).1 ?_
        refine r_aload_n B 1 dX2_errorAt_69 rfl ?_
        refine rg2_secondMost B ha.1 q_156 dX2_errorAt_70 ?_
        refine r_iload B 0 dX2_errorAt_73 rfl ?_
        refine r_iaload B dX2_errorAt_75 ha.2.2.2.1 (by omega) (by omega) ?_
        refine r_vi (y := sM ((i + ph) % p)) (hA.2 _ (by omega) (by omega)).2.2.1 ?_
        refine r_iadd B dX2_errorAt_76 ?_
        refine r_mmax B dX2_errorAt_77 q_817 q_365 q_15 q_366 ⟨by omega, by omega⟩ ⟨by omega, by omega⟩ ⟨Nat.le_of_ble_eq_true rfl, Nat.le_of_ble_eq_true rfl, Nat.le_of_ble_eq_true rfl, Nat.le_of_ble_eq_true rfl⟩ ?_
        refine r_istore_n B (lv' := [(2, .int (iI (max gr ((fM i) + (sM ((i + ph) % p)))))), (5, .int (iI ((i + ph) % p))), (0, .ref a), (1, .int (iI ph)), (3, .int (iI le)), (4, .int (iI i))]) dX2_errorAt_80 (by decide) rfl ?_
        refine r_iload_n B 4 dX2_errorAt_81 rfl ?_
        refine r_aload_n B 2 dX2_errorAt_82 rfl ?_
        refine rg2_firstLeast B ha.1 q_155 dX2_errorAt_83 ?_
        refine r_iload B 5 dX2_errorAt_86 rfl ?_
        refine r_iaload B dX2_errorAt_88 ha.2.2.1 (by omega) (by omega) ?_
        refine r_vi (y := fL i) (hA.2 _ (by omega) (by omega)).2.1 ?_
        refine r_aload_n B 2 dX2_errorAt_89 rfl ?_
        refine rg2_secondLeast B ha.1 q_157 dX2_errorAt_90 ?_
        refine r_iload B 1 dX2_errorAt_93 rfl ?_
        refine r_iaload B dX2_errorAt_95 ha.2.2.2.2 (by omega) (by omega) ?_
        refine r_vi (y := sL ((i + ph) % p)) (hA.2 _ (by omega) (by omega)).2.2.2 ?_
        refine r_iadd B dX2_errorAt_96 ?_
        refine r_mmin B dX2_errorAt_97 q_823 q_373 q_15 q_374 ⟨by omega, by omega⟩ ⟨by omega, by omega⟩ ⟨Nat.le_of_ble_eq_true rfl, Nat.le_of_ble_eq_true rfl, Nat.le_of_ble_eq_true rfl, Nat.le_of_ble_eq_true rfl⟩ ?_
        refine r_istore_n B (lv' := [(3, .int (iI (min le ((fL i) + (sL ((i + ph) % p)))))), (2, .int (iI (max gr ((fM i) + (sM ((i + ph) % p)))))), (5, .int (iI ((i + ph) % p))), (0, .ref a), (1, .int (iI ph)), (4, .int (iI i))]) dX2_errorAt_100 (by decide) rfl ?_
        refine r_iinc B (lv' := [(4, .int (iI (i + 1))), (3, .int (iI (min le ((fL i) + (sL ((i + ph) % p)))))), (2, .int (iI (max gr ((fM i) + (sM ((i + ph) % p)))))), (5, .int (iI ((i + ph) % p))), (0, .ref a), (1, .int (iI ph))]) dX2_errorAt_101 (j := 5) rfl (by decide) rfl ?_
        refine r_goto B dX2_errorAt_104 rfl ?_
        refine WM.pick [4, 5, 2, 1, 0] rfl ?_
        exact ihlp1 (i + 1) _ _ (by omega) (by omega) (by rw [hgr, show i + 1 - 1 = i by omega, mxF_s _ hi0]) (by rw [hle, show i + 1 - 1 = i by omega, mnF_s _ hi0]) (by omega)
  refine WM.pick [3, 4, 2, 1, 0] rfl ?_
  exact lp1 _ 1 _ _ (by omega) (by omega) rfl rfl (Nat.lt_succ_self _)

set_option maxRecDepth 100000 in
set_option maxHeartbeats 4000000 in
theorem c_X2_phaseOfSmallest (l : Launch) (G : Gs) (M : Mem) (a : Nat) (p : Int) (fM fL sM sL : Int → Int) (ha : IsMesh G a) (hA : MeshIs M a p fM fL sM sL) (hok : MeshOk p fM fL sM sL) : Ct l G yX2_phaseOfSmallest cX2_phaseOfSmallest 5 (some .int) rm_X2_phaseOfSmallest [.ref a] M (PoI G (Rd (psF (erS p fM fL sM sL) (p - 1).toNat) M)) 0 0 := by
  refine Ct.of (by decide +kernel) (Nat.le_of_ble_eq_true rfl) [(0, .ref a)] rfl ?_
  intro X B
  have hq1 := hok.1
  have hq2 := hok.2.1
  refine r_iconst B dX2_phaseOfSmallest_0 ?_
  refine r_istore_n B (lv' := [(1, .int (iI 0)), (0, .ref a)]) dX2_phaseOfSmallest_1 (by decide) rfl ?_
  refine r_aload_n B 1 dX2_phaseOfSmallest_2 rfl ?_
  refine r_iconst B dX2_phaseOfSmallest_3 ?_
  refine r_pVi1 B (c_X2_errorAt l G M a p fM fL sM sL ha hA hok 0 (by omega) (by omega)) ⟨rfl, rfl⟩ ok_X2_errorAt vi_X2_errorAt q_839 ha.1 rfl (fun _ => rfl) ⟨Nat.le_of_ble_eq_true rfl, Nat.le_of_ble_eq_true rfl, Nat.le_of_ble_eq_true rfl⟩ ⟨Nat.le_of_ble_eq_true rfl, Nat.le_of_ble_eq_true rfl⟩ dX2_phaseOfSmallest_4 ?_
  refine r_istore_n B (lv' := [(2, .int (iI (erS p fM fL sM sL 0))), (1, .int (iI 0)), (0, .ref a)]) dX2_phaseOfSmallest_7 (by decide) rfl ?_
  refine r_iconst B dX2_phaseOfSmallest_8 ?_
  refine r_istore_n B (lv' := [(3, .int (iI 1)), (2, .int (iI (erS p fM fL sM sL 0))), (1, .int (iI 0)), (0, .ref a)]) dX2_phaseOfSmallest_9 (by decide) rfl ?_
  have lp1 : ∀ (nlp1 : Nat) (i : Int) (fo : Int) (sm : Int) (hi0 : 1 ≤ i) (hi1 : i ≤ p) (hfo : fo = psF (erS p fM fL sM sL) (i - 1).toNat) (hsm : sm = erS p fM fL sM sL fo), (p - i).toNat < nlp1 → WM G X 0 0 (bM X (PoI G (Rd (psF (erS p fM fL sM sL) (p - 1).toNat) M)) 0 0 G) M 10 [(0, .ref a), (1, .int (iI fo)), (2, .int (iI sm)), (3, .int (iI i))] [] := by
    intro nlp1
    induction nlp1 with
    | zero => intro i fo sm hi0 hi1 hfo hsm hm; omega
    | succ nlp1 ihlp1 =>
      intro i fo sm hi0 hi1 hfo hsm hm
      have hbf := psF_in (erS p fM fL sM sL) (i - 1).toNat
      have hb1 := erS_in hok i
      have hb2 := erS_in hok fo
      refine r_iload_n B 3 dX2_phaseOfSmallest_10 rfl ?_
      refine r_aload_n B 0 dX2_phaseOfSmallest_11 rfl ?_
      refine rg2_period B ha.1 q_153 dX2_phaseOfSmallest_12 ?_
      refine r_vi (y := p) hA.1 ?_
      refine r_icmp_ge B dX2_phaseOfSmallest_15 rfl ⟨by omega, by omega⟩ ⟨by omega, by omega⟩ (fun h2 => ?_) (fun h2 => ?_)
      · refine r_iload_n B 1 dX2_phaseOfSmallest_42 rfl ?_
        exact r_iret B dX2_phaseOfSmallest_43 ⟨by rw [hfo, show i = p by omega], rfl⟩
      · refine r_aload_n B 0 dX2_phaseOfSmallest_18 rfl ?_
        refine r_iload_n B 3 dX2_phaseOfSmallest_19 rfl ?_
        refine r_pVi1 B (c_X2_errorAt l G M a p fM fL sM sL ha hA hok i (by omega) (by omega)) ⟨rfl, rfl⟩ ok_X2_errorAt vi_X2_errorAt q_839 ha.1 rfl (fun _ => rfl) ⟨Nat.le_of_ble_eq_true rfl, Nat.le_of_ble_eq_true rfl, Nat.le_of_ble_eq_true rfl⟩ ⟨Nat.le_of_ble_eq_true rfl, Nat.le_of_ble_eq_true rfl⟩ dX2_phaseOfSmallest_20 ?_
        refine r_istore B (lv' := [(4, .int (iI (erS p fM fL sM sL i))), (0, .ref a), (1, .int (iI fo)), (2, .int (iI sm)), (3, .int (iI i))]) dX2_phaseOfSmallest_23 (by decide) rfl ?_
        refine r_iload B 0 dX2_phaseOfSmallest_25 rfl ?_
        refine r_iload_n B 3 dX2_phaseOfSmallest_27 rfl ?_
        refine r_icmp_ge B dX2_phaseOfSmallest_28 rfl ⟨by omega, by omega⟩ ⟨by omega, by omega⟩ (fun h3 => ?_) (fun h3 => ?_)
        · refine r_iinc B (lv' := [(3, .int (iI (i + 1))), (4, .int (iI (erS p fM fL sM sL i))), (0, .ref a), (1, .int (iI fo)), (2, .int (iI sm))]) dX2_phaseOfSmallest_36 (j := 4) rfl (by decide) rfl ?_
          refine r_goto B dX2_phaseOfSmallest_39 rfl ?_
          refine WM.pick [2, 3, 4, 0] rfl ?_
          exact ihlp1 (i + 1) _ _ (by omega) (by omega) (by rw [show i + 1 - 1 = i by omega, psF_s _ hi0, ← hfo, if_neg (by omega)]) hsm (by omega)
        · refine r_iload_n B 4 dX2_phaseOfSmallest_31 rfl ?_
          refine r_istore_n B (lv' := [(1, .int (iI i)), (4, .int (iI (erS p fM fL sM sL i))), (0, .ref a), (2, .int (iI sm)), (3, .int (iI i))]) dX2_phaseOfSmallest_32 (by decide) rfl ?_
          refine r_iload B 1 dX2_phaseOfSmallest_33 rfl ?_
          refine r_istore_n B (lv' := [(2, .int (iI (erS p fM fL sM sL i))), (1, .int (iI i)), (4, .int (iI (erS p fM fL sM sL i))), (0, .ref a), (3, .int (iI i))]) dX2_phaseOfSmallest_35 (by decide) rfl ?_
          refine r_iinc B (lv' := [(3, .int (iI (i + 1))), (2, .int (iI (erS p fM fL sM sL i))), (1, .int (iI i)), (4, .int (iI (erS p fM fL sM sL i))), (0, .ref a)]) dX2_phaseOfSmallest_36 (j := 4) rfl (by decide) rfl ?_
          refine r_goto B dX2_phaseOfSmallest_39 rfl ?_
          refine WM.pick [4, 2, 1, 0] rfl ?_
          exact ihlp1 (i + 1) _ _ (by omega) (by omega) (by rw [show i + 1 - 1 = i by omega, psF_s _ hi0, ← hfo, if_pos (by omega)]) rfl (by omega)
  refine WM.pick [3, 2, 1, 0] rfl ?_
  exact lp1 _ 1 0 _ (by omega) (by omega) rfl rfl (Nat.lt_succ_self _)
