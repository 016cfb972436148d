set_option maxRecDepth 100000 in
set_option maxHeartbeats 4000000 in
theorem c_X6_ends (l : Launch) (G : Gs) (M : Mem) (md : Nat) (hM : IsMd G md) (s : Ast) (cn : Int) (sv : Int → Ast) (hcn : gI M md 3 = cn) (hsv : SvR (gI M (md + 2)) cn sv) (hAs : RowS (gI M (md + 3)) s) (hbk : GgOk (s, cn, sv)) (v : Int) : Ct l G yX6_ends cX6_ends 3 (some .int) rm_X6_ends [.ref md, .int (iI v)] M (PoI G (fun r M' => r = v ∧ gI M' md 6 = 0 ∧ gI M' md 3 = (savG (s, cn, sv)).2.1 ∧ SvR (gI M' (md + 2)) (savG (s, cn, sv)).2.1 (savG (s, cn, sv)).2.2 ∧ (∀ c : Nat, c ≠ md → c ≠ md + 2 → Same M M' c) ∧ gI M' md 5 = gI M md 5)) 0 0 := by
  refine Ct.of (by decide +kernel) (Nat.le_of_ble_eq_true rfl) [(0, .ref md), (1, .int (iI v))] rfl ?_
  intro X B
  have hc0 : 0 ≤ cn := hbk.2.1
  have hc4 : cn ≤ 4 := hbk.2.2.1
  have h49 : ∀ (Mr : Mem) (c : Int) (tv : Int → Ast), 0 ≤ c → c < 4 → gI Mr md 3 = c → SvR (gI Mr (md + 2)) c tv → (∀ i : Int, 0 ≤ i → i < c → StateOk (tv i)) → (∀ d : Nat, d ≠ md → d ≠ md + 2 → Same M Mr d) → gI Mr md 5 = gI M md 5 → savG (s, cn, sv) = (s, c + 1, upF tv c s) → WM G X 0 0 (bM X (PoI G (fun r M' => r = v ∧ gI M' md 6 = 0 ∧ gI M' md 3 = (savG (s, cn, sv)).2.1 ∧ SvR (gI M' (md + 2)) (savG (s, cn, sv)).2.1 (savG (s, cn, sv)).2.2 ∧ (∀ c : Nat, c ≠ md → c ≠ md + 2 → Same M M' c) ∧ gI M' md 5 = gI M md 5)) 0 0 G) Mr 49 [(0, .ref md), (1, .int (iI v))] [] := by
    intro Mr c tv c0 c1 hr3 hrs hro hrf hr5 hsg
    refine r_iconst B dX6_ends_49 ?_
    refine r_istore_n B (lv' := [(2, .int (iI 0)), (0, .ref md), (1, .int (iI v))]) dX6_ends_50 (by decide) rfl ?_
    have lp1 : ∀ (nlp1 : Nat) (k : Int) (Mc : Mem) (k0 : 0 ≤ k) (k1 : k ≤ 722) (h3 : gI Mc md 3 = c) (hlo : ∀ q : Int, 0 ≤ q → q < 722 * c → gI Mc (md + 2) q = gI Mr (md + 2) q) (hhi : ∀ q : Int, 0 ≤ q → q < k → gI Mc (md + 2) (722 * c + q) = gI M (md + 3) q) (hf : ∀ d : Nat, d ≠ md → d ≠ md + 2 → Same M Mc d) (h5 : gI Mc md 5 = gI M md 5), (722 - k).toNat < nlp1 → WM G X 0 0 (bM X (PoI G (fun r M' => r = v ∧ gI M' md 6 = 0 ∧ gI M' md 3 = (savG (s, cn, sv)).2.1 ∧ SvR (gI M' (md + 2)) (savG (s, cn, sv)).2.1 (savG (s, cn, sv)).2.2 ∧ (∀ c : Nat, c ≠ md → c ≠ md + 2 → Same M M' c) ∧ gI M' md 5 = gI M md 5)) 0 0 G) Mc 51 [(0, .ref md), (1, .int (iI v)), (2, .int (iI k))] [] := by
      intro nlp1
      induction nlp1 with
      | zero => intro k Mc k0 k1 h3 hlo hhi hf h5 hm; omega
      | succ nlp1 ihlp1 =>
        intro k Mc k0 k1 h3 hlo hhi hf h5 hm
        have hm722 : 722 * c = 722 * c := rfl
        refine r_iload_n B 2 dX6_ends_51 rfl ?_
        refine r_sipush B (z := 722) dX6_ends_52 (by decide) ?_
        refine r_icmp_ge B dX6_ends_55 rfl ⟨by omega, by omega⟩ ⟨by omega, by omega⟩ (fun h2 => ?_) (fun h2 => ?_)
        · refine r_aload_n B 0 dX6_ends_85 rfl ?_
          refine r_dup B dX6_ends_86 rfl ?_
          refine rg6_pasts B hM.1 q_895 dX6_ends_87 ?_
          refine r_vi (y := c) h3 ?_
          refine r_iconst B dX6_ends_90 ?_
          refine r_iadd B dX6_ends_91 ?_
          refine rp6_pasts B hM.1 q_895 dX6_ends_92 ?_
          refine WM.nm (fun M3 eM3 => ?_)
          refine r_aload_n B 0 dX6_ends_95 rfl ?_
          refine r_iload_n B 1 dX6_ends_96 rfl ?_
          refine r_Vi1 B (c_X6_tells l G M3 md hM v) ⟨rfl, rfl⟩ ok_X6_tells vi_X6_tells q_980 hM.1 rfl (fun _ => rfl) ⟨Nat.le_of_ble_eq_true rfl, Nat.le_of_ble_eq_true rfl, Nat.le_of_ble_eq_true rfl⟩ ⟨Nat.le_of_ble_eq_true rfl, Nat.le_of_ble_eq_true rfl⟩ dX6_ends_97 (fun rf Mf hff => ?_)
          obtain ⟨hf1, hf2⟩ := hff
          rw [hf1, hf2]
          clear hf1 hf2
          exact r_iret B dX6_ends_100 ⟨rfl, gI_eq, by rw [hsg, gI_nk (by omega), eM3, gI_eq], by rw [hsg, (Same.sI (show md + 2 ≠ md by omega)).1, eM3, (Same.sI (show md + 2 ≠ md by omega)).1]; exact hrs.push hro hAs hbk.1 (fun q q0 q1 => hlo q q0 q1) (fun q q0 q1 => hhi q q0 (by omega)), fun d p q => (hf d p q).tr (by rw [eM3]; exact (Same.sI p).tr (Same.sI p)), by rw [gI_nk (by omega), eM3, gI_nk (by omega)]; exact h5⟩
        · refine r_aload_n B 0 dX6_ends_58 rfl ?_
          refine rg6_past B hM.1 q_893 dX6_ends_59 ?_
          refine r_sipush B (z := 722) dX6_ends_62 (by decide) ?_
          refine r_aload_n B 0 dX6_ends_65 rfl ?_
          refine rg6_pasts B hM.1 q_895 dX6_ends_66 ?_
          refine r_vi (y := c) h3 ?_
          refine r_imul B dX6_ends_69 ?_
          refine r_iload_n B 2 dX6_ends_70 rfl ?_
          refine r_iadd B dX6_ends_71 ?_
          refine r_aload_n B 0 dX6_ends_72 rfl ?_
          refine rg6_aside B hM.1 q_894 dX6_ends_73 ?_
          refine r_iload_n B 2 dX6_ends_76 rfl ?_
          refine r_iaload B dX6_ends_77 hM.2.2.2.1 (by omega) (by omega) ?_
          refine r_vi (y := gI M (md + 3) k) (by rw [(hf (md + 3) (by omega) (by omega)).1]) ?_
          refine r_iastore B dX6_ends_78 hM.2.2.1 (by omega) (by omega) ?_
          refine WM.nm (fun M4 eM4 => ?_)
          refine r_iinc B (lv' := [(2, .int (iI (k + 1))), (0, .ref md), (1, .int (iI v))]) dX6_ends_79 (j := 2) rfl (by decide) rfl ?_
          refine r_goto B dX6_ends_82 rfl ?_
          refine WM.pick [1, 2, 0] rfl ?_
          refine ihlp1 (k + 1) M4 (by omega) (by omega) (by rw [eM4, gI_ne (by omega)]; exact h3) ?_ ?_ (fun d p q => (hf d p q).tr (by rw [eM4]; exact Same.sI q)) (by rw [eM4, gI_ne (by omega)]; exact h5) (by omega)
          · intro q q0 q1
            rw [eM4, gI_nk (by omega)]
            exact hlo q q0 q1
          · intro q q0 q1
            rw [eM4]
            by_cases w : q = k
            · rw [w, gI_eq]
            · rw [gI_nk (by omega)]; exact hhi q q0 (by omega)
    refine WM.pick [1, 2, 0] rfl ?_
    exact lp1 _ 0 Mr (by omega) (by omega) hr3 (fun q q0 q1 => rfl) (fun q q0 q1 => by omega) hrf hr5 (Nat.lt_succ_self _)
  refine r_aload_n B 0 dX6_ends_0 rfl ?_
  refine rg6_pasts B hM.1 q_895 dX6_ends_1 ?_
  refine r_vi (y := cn) hcn ?_
  refine r_iconst B dX6_ends_4 ?_
  refine r_icmp_ne B dX6_ends_5 rfl ⟨by omega, by omega⟩ ⟨by omega, by omega⟩ (fun h5 => ?_) (fun h5 => ?_)
  · exact h49 M cn sv (by omega) (by omega) hcn hsv (fun i p q => hbk.2.2.2 i p q) (fun d p q => Same.rf M d) rfl (by unfold savG; rw [if_neg (by show ¬ 4 ≤ cn; omega)])
  · refine r_iconst B dX6_ends_8 ?_
    refine r_istore_n B (lv' := [(2, .int (iI 0)), (0, .ref md), (1, .int (iI v))]) dX6_ends_9 (by decide) rfl ?_
    have lp6 : ∀ (nlp6 : Nat) (k : Int) (Mc : Mem) (k0 : 0 ≤ k) (k1 : k ≤ 2166) (h3 : gI Mc md 3 = cn) (hsh : ∀ q : Int, 0 ≤ q → q < k → gI Mc (md + 2) q = gI M (md + 2) (q + 722)) (hun : ∀ q : Int, k ≤ q → gI Mc (md + 2) q = gI M (md + 2) q) (hf : ∀ d : Nat, d ≠ md → d ≠ md + 2 → Same M Mc d) (h5 : gI Mc md 5 = gI M md 5), (2166 - k).toNat < nlp6 → WM G X 0 0 (bM X (PoI G (fun r M' => r = v ∧ gI M' md 6 = 0 ∧ gI M' md 3 = (savG (s, cn, sv)).2.1 ∧ SvR (gI M' (md + 2)) (savG (s, cn, sv)).2.1 (savG (s, cn, sv)).2.2 ∧ (∀ c : Nat, c ≠ md → c ≠ md + 2 → Same M M' c) ∧ gI M' md 5 = gI M md 5)) 0 0 G) Mc 10 [(0, .ref md), (1, .int (iI v)), (2, .int (iI k))] [] := by
      intro nlp6
      induction nlp6 with
      | zero => intro k Mc k0 k1 h3 hsh hun hf h5 hm; omega
      | succ nlp6 ihlp6 =>
        intro k Mc k0 k1 h3 hsh hun hf h5 hm
        refine r_iload_n B 2 dX6_ends_10 rfl ?_
        refine r_sipush B (z := 2166) dX6_ends_11 (by decide) ?_
        refine r_icmp_ge B dX6_ends_14 rfl ⟨by omega, by omega⟩ ⟨by omega, by omega⟩ (fun h7 => ?_) (fun h7 => ?_)
        · refine r_aload_n B 0 dX6_ends_39 rfl ?_
          refine r_dup B dX6_ends_40 rfl ?_
          refine rg6_pasts B hM.1 q_895 dX6_ends_41 ?_
          refine r_vi (y := cn) h3 ?_
          refine r_iconst B dX6_ends_44 ?_
          refine r_isub B dX6_ends_45 ?_
          refine rp6_pasts B hM.1 q_895 dX6_ends_46 ?_
          refine WM.nm (fun M8 eM8 => ?_)
          refine WM.pick [0, 1] rfl ?_
          exact h49 M8 3 (fun i => sv (i + 1)) (by omega) (by omega) (by rw [eM8, gI_eq]; omega) (by rw [eM8, (Same.sI (show md + 2 ≠ md by omega)).1]; exact (by rw [show cn = 4 by omega] at hsv; exact hsv : SvR (gI M (md + 2)) 4 sv).shift (fun i p q => hbk.2.2.2 i p (by show i < cn; omega)) (fun q q0 q1 => hsh q q0 (by omega))) (fun i p q => hbk.2.2.2 (i + 1) (by omega) (by show i + 1 < cn; omega)) (fun d p q => (hf d p q).tr (by rw [eM8]; exact Same.sI p)) (by rw [eM8, gI_nk (by omega)]; exact h5) (by unfold savG; rw [if_pos (by show 4 ≤ cn; omega)]; rfl)
        · refine r_aload_n B 0 dX6_ends_17 rfl ?_
          refine rg6_past B hM.1 q_893 dX6_ends_18 ?_
          refine r_iload_n B 2 dX6_ends_21 rfl ?_
          refine r_aload_n B 0 dX6_ends_22 rfl ?_
          refine rg6_past B hM.1 q_893 dX6_ends_23 ?_
          refine r_iload_n B 2 dX6_ends_26 rfl ?_
          refine r_sipush B (z := 722) dX6_ends_27 (by decide) ?_
          refine r_iadd B dX6_ends_30 ?_
          refine r_iaload B dX6_ends_31 hM.2.2.1 (by omega) (by omega) ?_
          refine r_vi (y := gI M (md + 2) (k + 722)) (hun _ (by omega)) ?_
          refine r_iastore B dX6_ends_32 hM.2.2.1 (by omega) (by omega) ?_
          refine WM.nm (fun M9 eM9 => ?_)
          refine r_iinc B (lv' := [(2, .int (iI (k + 1))), (0, .ref md), (1, .int (iI v))]) dX6_ends_33 (j := 2) rfl (by decide) rfl ?_
          refine r_goto B dX6_ends_36 rfl ?_
          refine WM.pick [1, 2, 0] rfl ?_
          refine ihlp6 (k + 1) M9 (by omega) (by omega) (by rw [eM9, gI_ne (by omega)]; exact h3) ?_ ?_ (fun d p q => (hf d p q).tr (by rw [eM9]; exact Same.sI q)) (by rw [eM9, gI_ne (by omega)]; exact h5) (by omega)
          · intro q q0 q1
            rw [eM9]
            by_cases w : q = k
            · rw [w, gI_eq]
            · rw [gI_nk w]; exact hsh q q0 (by omega)
          · intro q q1
            rw [eM9, gI_nk (by omega)]
            exact hun q (by omega)
    refine WM.pick [1, 2, 0] rfl ?_
    exact lp6 _ 0 M (by omega) (by omega) hcn (fun q q0 q1 => by omega) (fun q q1 => rfl) (fun d p q => Same.rf M d) rfl (Nat.lt_succ_self _)

set_option maxRecDepth 100000 in
set_option maxHeartbeats 4000000 in
theorem c_X6_putsGear (l : Launch) (G : Gs) (M : Mem) (md : Nat) (hM : IsMd G md) (s : Ast) (hS_M : MdS M md s) (hok : StateOk s) (t mo : Int) (hn : s.1 < 6) (ht : t ≤ 30) : Ct l G yX6_putsGear cX6_putsGear 5 (none) rm_X6_putsGear [.ref md, .int (iI t), .int (iI mo)] M (PoV G (fun M' => MdS M' md (addG s t mo) ∧ ∀ c : Nat, c ≠ md + 1 → Same M M' c)) 0 0 := by
  refine Ct.of (by decide +kernel) (Nat.le_of_ble_eq_true rfl) [(0, .ref md), (1, .int (iI t)), (2, .int (iI mo))] rfl ?_
  intro X B
  have hs1 := hok.1
  have hs2 := hok.2.1
  have hs3 := hok.2.2.1
  have hs4 := hok.2.2.2.1
  have hF_M : FL M M md := FL.rf
  refine r_iconst B dX6_putsGear_0 ?_
  refine r_bipush B (z := 95) dX6_putsGear_1 (by decide) ?_
  refine r_aload_n B 0 dX6_putsGear_3 rfl ?_
  refine rg6_s B hM.1 q_892 dX6_putsGear_4 ?_
  refine r_iconst B dX6_putsGear_7 ?_
  refine r_iaload B dX6_putsGear_8 hM.2.1 (by omega) (by omega) ?_
  refine r_vi (y := s.1) hS_M.1 ?_
  refine r_imul B dX6_putsGear_9 ?_
  refine r_iadd B dX6_putsGear_10 ?_
  refine r_istore_n B (lv' := [(3, .int (iI (1 + (95 * s.1)))), (0, .ref md), (1, .int (iI t)), (2, .int (iI mo))]) dX6_putsGear_11 (by decide) rfl ?_
  refine r_iconst B dX6_putsGear_12 ?_
  refine r_istore B (lv' := [(4, .int (iI 0)), (3, .int (iI (1 + (95 * s.1)))), (0, .ref md), (1, .int (iI t)), (2, .int (iI mo))]) dX6_putsGear_13 (by decide) rfl ?_
  have lp1 : ∀ (nlp1 : Nat) (k : Int) (Mc : Mem) (k0 : 0 ≤ k) (k1 : k ≤ 95) (hz : ∀ q : Int, 0 ≤ q → q < k → gI Mc (md + 1) (1 + 95 * s.1 + q) = 0) (hu : ∀ q : Int, (q < 1 + 95 * s.1 ∨ 1 + 95 * s.1 + 95 ≤ q) → gI Mc (md + 1) q = gI M (md + 1) q) (h00 : gI Mc (md + 1) 0 = s.1) (hf : ∀ d : Nat, d ≠ md + 1 → Same M Mc d), (95 - k).toNat < nlp1 → WM G X 0 0 (bM X (PoV G (fun M' => MdS M' md (addG s t mo) ∧ ∀ c : Nat, c ≠ md + 1 → Same M M' c)) 0 0 G) Mc 15 [(0, .ref md), (1, .int (iI t)), (2, .int (iI mo)), (3, .int (iI (1 + 95 * s.1))), (4, .int (iI k))] [] := by
    intro nlp1
    induction nlp1 with
    | zero => intro k Mc k0 k1 hz hu h00 hf hm; omega
    | succ nlp1 ihlp1 =>
      intro k Mc k0 k1 hz hu h00 hf hm
      refine r_iload B 4 dX6_putsGear_15 rfl ?_
      refine r_bipush B (z := 95) dX6_putsGear_17 (by decide) ?_
      refine r_icmp_ge B dX6_putsGear_19 rfl ⟨by omega, by omega⟩ ⟨by omega, by omega⟩ (fun h2 => ?_) (fun h2 => ?_)
      · refine r_aload_n B 0 dX6_putsGear_38 rfl ?_
        refine rg6_s B hM.1 q_892 dX6_putsGear_39 ?_
        refine r_iload_n B 3 dX6_putsGear_42 rfl ?_
        refine r_iload_n B 1 dX6_putsGear_43 rfl ?_
        refine r_iastore B dX6_putsGear_44 hM.2.1 (by omega) (by omega) ?_
        refine WM.nm (fun M3 eM3 => ?_)
        refine r_aload_n B 0 dX6_putsGear_45 rfl ?_
        refine rg6_s B hM.1 q_892 dX6_putsGear_46 ?_
        refine r_iload_n B 3 dX6_putsGear_49 rfl ?_
        refine r_iconst B dX6_putsGear_50 ?_
        refine r_iadd B dX6_putsGear_51 ?_
        refine r_iload_n B 2 dX6_putsGear_52 rfl ?_
        refine r_iastore B dX6_putsGear_53 hM.2.1 (by omega) (by omega) ?_
        refine WM.nm (fun M4 eM4 => ?_)
        refine r_aload_n B 0 dX6_putsGear_54 rfl ?_
        refine rg6_s B hM.1 q_892 dX6_putsGear_55 ?_
        refine r_iconst B dX6_putsGear_58 ?_
        refine r_dup2 B dX6_putsGear_59 rfl rfl ?_
        refine r_iaload B dX6_putsGear_60 hM.2.1 (by omega) (by omega) ?_
        refine r_vi (y := s.1) (by rw [eM4, gI_nk (by omega), eM3, gI_nk (by omega)]; exact h00) ?_
        refine r_iconst B dX6_putsGear_61 ?_
        refine r_iadd B dX6_putsGear_62 ?_
        refine r_iastore B dX6_putsGear_63 hM.2.1 (by omega) (by omega) ?_
        refine WM.nm (fun M5 eM5 => ?_)
        exact r_vret B dX6_putsGear_64 ⟨hS_M.w_addG hok hn ht (by rw [eM5, gI_eq]) (by rw [eM5, gI_nk (by omega), eM4, gI_nk (by omega), eM3, gI_eq]) (by rw [eM5, gI_nk (by omega), eM4, gI_eq]) (fun k p q => by rw [eM5, gI_nk (by omega), eM4, gI_nk (by omega), eM3, gI_nk (by omega), show k = 1 + 95 * s.1 + (k - (1 + 95 * s.1)) by omega]; exact hz _ (by omega) (by omega)) (fun k p q w => by rw [eM5, gI_nk (by omega), eM4, gI_nk (by omega), eM3, gI_nk (by omega)]; exact hu k (by omega)), fun d p => (hf d p).tr (by rw [eM5, eM4, eM3]; exact ((Same.sI p).tr (Same.sI p)).tr (Same.sI p))⟩
      · refine r_aload_n B 0 dX6_putsGear_22 rfl ?_
        refine rg6_s B hM.1 q_892 dX6_putsGear_23 ?_
        refine r_iload_n B 3 dX6_putsGear_26 rfl ?_
        refine r_iload B 4 dX6_putsGear_27 rfl ?_
        refine r_iadd B dX6_putsGear_29 ?_
        refine r_iconst B dX6_putsGear_30 ?_
        refine r_iastore B dX6_putsGear_31 hM.2.1 (by omega) (by omega) ?_
        refine WM.nm (fun M6 eM6 => ?_)
        refine r_iinc B (lv' := [(4, .int (iI (k + 1))), (0, .ref md), (1, .int (iI t)), (2, .int (iI mo)), (3, .int (iI (1 + 95 * s.1)))]) dX6_putsGear_32 (j := 4) rfl (by decide) rfl ?_
        refine r_goto B dX6_putsGear_35 rfl ?_
        refine WM.pick [1, 2, 3, 4, 0] rfl ?_
        refine ihlp1 (k + 1) M6 (by omega) (by omega) ?_ ?_ (by rw [eM6, gI_nk (by omega)]; exact h00) (fun d p => (hf d p).tr (by rw [eM6]; exact Same.sI p)) (by omega)
        · intro q q0 q1
          rw [eM6]
          by_cases w : q = k
          · rw [w, gI_eq]
          · rw [gI_nk (by omega)]; exact hz q q0 (by omega)
        · intro q q1
          rw [eM6, gI_nk (by omega)]
          exact hu q q1
  refine WM.pick [2, 3, 4, 1, 0] rfl ?_
  exact lp1 _ 0 M (by omega) (by omega) (fun q q0 q1 => by omega) (fun q q1 => rfl) hS_M.1 (fun d p => Same.rf M d) (Nat.lt_succ_self _)

set_option maxRecDepth 100000 in
set_option maxHeartbeats 4000000 in
theorem c_X6_putsLine (l : Launch) (G : Gs) (M : Mem) (md : Nat) (hM : IsMd G md) (s : Ast) (hS_M : MdS M md s) (hok : StateOk s) (u w : Int) (hn : s.2.1 < 10) : Ct l G yX6_putsLine cX6_putsLine 4 (none) rm_X6_putsLine [.ref md, .int (iI u), .int (iI w)] M (PoV G (fun M' => MdS M' md (addL s u w) ∧ ∀ c : Nat, c ≠ md + 1 → Same M M' c)) 0 0 := by
  refine Ct.of (by decide +kernel) (Nat.le_of_ble_eq_true rfl) [(0, .ref md), (1, .int (iI u)), (2, .int (iI w))] rfl ?_
  intro X B
  have hs1 := hok.1
  have hs2 := hok.2.1
  have hs3 := hok.2.2.1
  have hs4 := hok.2.2.2.1
  have hF_M : FL M M md := FL.rf
  refine r_sipush B (z := 572) dX6_putsLine_0 (by decide) ?_
  refine r_bipush B (z := 15) dX6_putsLine_3 (by decide) ?_
  refine r_aload_n B 0 dX6_putsLine_5 rfl ?_
  refine rg6_s B hM.1 q_892 dX6_putsLine_6 ?_
  refine r_sipush B (z := 571) dX6_putsLine_9 (by decide) ?_
  refine r_iaload B dX6_putsLine_12 hM.2.1 (by omega) (by omega) ?_
  refine r_vi (y := s.2.1) hS_M.2.1 ?_
  refine r_imul B dX6_putsLine_13 ?_
  refine r_iadd B dX6_putsLine_14 ?_
  refine r_istore_n B (lv' := [(3, .int (iI (572 + (15 * s.2.1)))), (0, .ref md), (1, .int (iI u)), (2, .int (iI w))]) dX6_putsLine_15 (by decide) rfl ?_
  refine r_aload_n B 1 dX6_putsLine_16 rfl ?_
  refine rg6_s B hM.1 q_892 dX6_putsLine_17 ?_
  refine r_iload_n B 0 dX6_putsLine_20 rfl ?_
  refine r_iload_n B 2 dX6_putsLine_21 rfl ?_
  refine r_iastore B dX6_putsLine_22 hM.2.1 (by omega) (by omega) ?_
  refine WM.nm (fun M1 eM1 => ?_)
  refine r_aload_n B 1 dX6_putsLine_23 rfl ?_
  refine rg6_s B hM.1 q_892 dX6_putsLine_24 ?_
  refine r_iload_n B 0 dX6_putsLine_27 rfl ?_
  refine r_iconst B dX6_putsLine_28 ?_
  refine r_iadd B dX6_putsLine_29 ?_
  refine r_iload_n B 3 dX6_putsLine_30 rfl ?_
  refine r_iastore B dX6_putsLine_31 hM.2.1 (by omega) (by omega) ?_
  refine WM.nm (fun M2 eM2 => ?_)
  refine r_aload_n B 1 dX6_putsLine_32 rfl ?_
  refine rg6_s B hM.1 q_892 dX6_putsLine_33 ?_
  refine r_iload_n B 0 dX6_putsLine_36 rfl ?_
  refine r_iconst B dX6_putsLine_37 ?_
  refine r_iadd B dX6_putsLine_38 ?_
  refine r_iconst B dX6_putsLine_39 ?_
  refine r_iastore B dX6_putsLine_40 hM.2.1 (by omega) (by omega) ?_
  refine WM.nm (fun M3 eM3 => ?_)
  refine r_aload_n B 1 dX6_putsLine_41 rfl ?_
  refine rg6_s B hM.1 q_892 dX6_putsLine_42 ?_
  refine r_sipush B (z := 571) dX6_putsLine_45 (by decide) ?_
  refine r_dup2 B dX6_putsLine_48 rfl rfl ?_
  refine r_iaload B dX6_putsLine_49 hM.2.1 (by omega) (by omega) ?_
  refine r_vi (y := s.2.1) (by rw [eM3, gI_nk (by omega), eM2, gI_nk (by omega), eM1, gI_nk (by omega)]; exact hS_M.2.1) ?_
  refine r_iconst B dX6_putsLine_50 ?_
  refine r_iadd B dX6_putsLine_51 ?_
  refine r_iastore B dX6_putsLine_52 hM.2.1 (by omega) (by omega) ?_
  refine WM.nm (fun M4 eM4 => ?_)
  exact r_vret B dX6_putsLine_53 ⟨hS_M.w_addL hok hn (by rw [eM4, gI_eq]) (by rw [eM4, gI_nk (by omega), eM3, gI_nk (by omega), eM2, gI_nk (by omega), eM1, gI_eq]) (by rw [eM4, gI_nk (by omega), eM3, gI_nk (by omega), eM2, gI_eq]) (by rw [eM4, gI_nk (by omega), eM3, gI_eq]) (fun k p q w1 w2 => by rw [eM4, gI_nk (by omega), eM3, gI_nk (by omega), eM2, gI_nk (by omega), eM1, gI_nk (by omega)]), fun d p => by rw [eM4, eM3, eM2, eM1]; exact (((Same.sI p).tr (Same.sI p)).tr (Same.sI p)).tr (Same.sI p)⟩

set_option maxRecDepth 100000 in
set_option maxHeartbeats 4000000 in
theorem c_X6_putsPoint (l : Launch) (G : Gs) (M : Mem) (md : Nat) (hM : IsMd G md) (s : Ast) (hS_M : MdS M md s) (hok : StateOk s) (li v : Int) (h0 : 0 ≤ li) (h1 : li < s.2.1) (hn : (s.2.2.2 li).2.2.1 < 12) : Ct l G yX6_putsPoint cX6_putsPoint 4 (none) rm_X6_putsPoint [.ref md, .int (iI li), .int (iI v)] M (PoV G (fun M' => MdS M' md (addP s li v) ∧ ∀ c : Nat, c ≠ md + 1 → Same M M' c)) 0 0 := by
  refine Ct.of (by decide +kernel) (Nat.le_of_ble_eq_true rfl) [(0, .ref md), (1, .int (iI li)), (2, .int (iI v))] rfl ?_
  intro X B
  have hs1 := hok.1
  have hs2 := hok.2.1
  have hs3 := hok.2.2.1
  have hs4 := hok.2.2.2.1
  have hF_M : FL M M md := FL.rf
  have hlk := hok.2.2.2.2.2 li (by omega) (by omega)
  obtain ⟨⟨hln0, hln1, hlv⟩, hlg0, hlg1, hlk0, hlk1⟩ := id hlk
  refine r_sipush B (z := 572) dX6_putsPoint_0 (by decide) ?_
  refine r_bipush B (z := 15) dX6_putsPoint_3 (by decide) ?_
  refine r_iload_n B 1 dX6_putsPoint_5 rfl ?_
  refine r_imul B dX6_putsPoint_6 ?_
  refine r_iadd B dX6_putsPoint_7 ?_
  refine r_istore_n B (lv' := [(3, .int (iI (572 + (15 * li)))), (0, .ref md), (1, .int (iI li)), (2, .int (iI v))]) dX6_putsPoint_8 (by decide) rfl ?_
  refine r_aload_n B 1 dX6_putsPoint_9 rfl ?_
  refine rg6_s B hM.1 q_892 dX6_putsPoint_10 ?_
  refine r_iload_n B 0 dX6_putsPoint_13 rfl ?_
  refine r_iconst B dX6_putsPoint_14 ?_
  refine r_iadd B dX6_putsPoint_15 ?_
  refine r_aload_n B 1 dX6_putsPoint_16 rfl ?_
  refine rg6_s B hM.1 q_892 dX6_putsPoint_17 ?_
  refine r_iload_n B 0 dX6_putsPoint_20 rfl ?_
  refine r_iconst B dX6_putsPoint_21 ?_
  refine r_iadd B dX6_putsPoint_22 ?_
  refine r_iaload B dX6_putsPoint_23 hM.2.1 (by omega) (by omega) ?_
  refine r_vi (y := (s.2.2.2 li).2.2.1) (hS_M.2.2.2 li (by omega) (by omega)).2.2.1 ?_
  refine r_iadd B dX6_putsPoint_24 ?_
  refine r_iload_n B 3 dX6_putsPoint_25 rfl ?_
  refine r_iastore B dX6_putsPoint_26 hM.2.1 (by omega) (by omega) ?_
  refine WM.nm (fun M1 eM1 => ?_)
  refine r_aload_n B 1 dX6_putsPoint_27 rfl ?_
  refine rg6_s B hM.1 q_892 dX6_putsPoint_28 ?_
  refine r_iload_n B 0 dX6_putsPoint_31 rfl ?_
  refine r_iconst B dX6_putsPoint_32 ?_
  refine r_iadd B dX6_putsPoint_33 ?_
  refine r_dup2 B dX6_putsPoint_34 rfl rfl ?_
  refine r_iaload B dX6_putsPoint_35 hM.2.1 (by omega) (by omega) ?_
  refine r_vi (y := (s.2.2.2 li).2.2.1) (by rw [eM1, gI_nk (by omega)]; exact (hS_M.2.2.2 li (by omega) (by omega)).2.2.1) ?_
  refine r_iconst B dX6_putsPoint_36 ?_
  refine r_iadd B dX6_putsPoint_37 ?_
  refine r_iastore B dX6_putsPoint_38 hM.2.1 (by omega) (by omega) ?_
  refine WM.nm (fun M2 eM2 => ?_)
  exact r_vret B dX6_putsPoint_39 ⟨hS_M.w_addP hok h0 h1 hn (by rw [eM2, gI_eq]) (by rw [eM2, gI_nk (by omega), eM1, gI_eq]) (fun k p q w1 w2 => by rw [eM2, gI_nk (by omega), eM1, gI_nk (by omega)]), fun d p => by rw [eM2, eM1]; exact (Same.sI p).tr (Same.sI p)⟩

set_option maxRecDepth 100000 in
set_option maxHeartbeats 4000000 in
theorem c_X6_dropsLine (l : Launch) (G : Gs) (M : Mem) (md : Nat) (hM : IsMd G md) (s : Ast) (hS_M : MdS M md s) (hok : StateOk s) (li : Int) (h0 : 0 ≤ li) (h1 : li < s.2.1) : Ct l G yX6_dropsLine cX6_dropsLine 3 (none) rm_X6_dropsLine [.ref md, .int (iI li)] M (PoV G (fun M' => MdS M' md (delL s li) ∧ ∀ c : Nat, c ≠ md + 1 → Same M M' c)) 0 0 := by
  refine Ct.of (by decide +kernel) (Nat.le_of_ble_eq_true rfl) [(0, .ref md), (1, .int (iI li))] rfl ?_
  intro X B
  have hs1 := hok.1
  have hs2 := hok.2.1
  have hs3 := hok.2.2.1
  have hs4 := hok.2.2.2.1
  have hF_M : FL M M md := FL.rf
  refine r_aload_n B 0 dX6_dropsLine_0 rfl ?_
  refine rg6_s B hM.1 q_892 dX6_dropsLine_1 ?_
  refine r_sipush B (z := 571) dX6_dropsLine_4 (by decide) ?_
  refine r_dup2 B dX6_dropsLine_7 rfl rfl ?_
  refine r_iaload B dX6_dropsLine_8 hM.2.1 (by omega) (by omega) ?_
  refine r_vi (y := s.2.1) hS_M.2.1 ?_
  refine r_iconst B dX6_dropsLine_9 ?_
  refine r_isub B dX6_dropsLine_10 ?_
  refine r_iastore B dX6_dropsLine_11 hM.2.1 (by omega) (by omega) ?_
  refine WM.nm (fun M1 eM1 => ?_)
  refine r_sipush B (z := 572) dX6_dropsLine_12 (by decide) ?_
  refine r_bipush B (z := 15) dX6_dropsLine_15 (by decide) ?_
  refine r_iload_n B 1 dX6_dropsLine_17 rfl ?_
  refine r_imul B dX6_dropsLine_18 ?_
  refine r_iadd B dX6_dropsLine_19 ?_
  refine r_istore_n B (lv' := [(2, .int (iI (572 + (15 * li)))), (0, .ref md), (1, .int (iI li))]) dX6_dropsLine_20 (by decide) rfl ?_
  have lp2 : ∀ (nlp2 : Nat) (k : Int) (Mc : Mem) (k0 : 572 + 15 * li ≤ k) (k1 : k ≤ 572 + 15 * (s.2.1 - 1)) (h571 : gI Mc (md + 1) 571 = s.2.1 - 1) (hsh : ∀ q : Int, 572 + 15 * li ≤ q → q < k → gI Mc (md + 1) q = gI M (md + 1) (q + 15)) (hun : ∀ q : Int, (q < 572 + 15 * li ∨ k ≤ q) → q ≠ 571 → gI Mc (md + 1) q = gI M (md + 1) q) (hf : ∀ d : Nat, d ≠ md + 1 → Same M Mc d), (572 + 15 * (s.2.1 - 1) - k).toNat < nlp2 → WM G X 0 0 (bM X (PoV G (fun M' => MdS M' md (delL s li) ∧ ∀ c : Nat, c ≠ md + 1 → Same M M' c)) 0 0 G) Mc 21 [(0, .ref md), (1, .int (iI li)), (2, .int (iI k))] [] := by
    intro nlp2
    induction nlp2 with
    | zero => intro k Mc k0 k1 h571 hsh hun hf hm; omega
    | succ nlp2 ihlp2 =>
      intro k Mc k0 k1 h571 hsh hun hf hm
      refine r_iload_n B 2 dX6_dropsLine_21 rfl ?_
      refine r_sipush B (z := 572) dX6_dropsLine_22 (by decide) ?_
      refine r_bipush B (z := 15) dX6_dropsLine_25 (by decide) ?_
      refine r_aload_n B 0 dX6_dropsLine_27 rfl ?_
      refine rg6_s B hM.1 q_892 dX6_dropsLine_28 ?_
      refine r_sipush B (z := 571) dX6_dropsLine_31 (by decide) ?_
      refine r_iaload B dX6_dropsLine_34 hM.2.1 (by omega) (by omega) ?_
      refine r_vi (y := s.2.1 - 1) h571 ?_
      refine r_imul B dX6_dropsLine_35 ?_
      refine r_iadd B dX6_dropsLine_36 ?_
      refine r_icmp_ge B dX6_dropsLine_37 rfl ⟨by omega, by omega⟩ ⟨by omega, by omega⟩ (fun h3 => ?_) (fun h3 => ?_)
      · exact r_vret B dX6_dropsLine_61 ⟨hS_M.w_delL hok h0 h1 h571 (fun q q0 q1 => hsh q q0 (by omega)) (fun q q0 q1 q2 => hun q (by omega) q2), hf⟩
      · refine r_aload_n B 0 dX6_dropsLine_40 rfl ?_
        refine rg6_s B hM.1 q_892 dX6_dropsLine_41 ?_
        refine r_iload_n B 2 dX6_dropsLine_44 rfl ?_
        refine r_aload_n B 0 dX6_dropsLine_45 rfl ?_
        refine rg6_s B hM.1 q_892 dX6_dropsLine_46 ?_
        refine r_iload_n B 2 dX6_dropsLine_49 rfl ?_
        refine r_bipush B (z := 15) dX6_dropsLine_50 (by decide) ?_
        refine r_iadd B dX6_dropsLine_52 ?_
        refine r_iaload B dX6_dropsLine_53 hM.2.1 (by omega) (by omega) ?_
        refine r_vi (y := gI M (md + 1) (k + 15)) (hun _ (by omega) (by omega)) ?_
        refine r_iastore B dX6_dropsLine_54 hM.2.1 (by omega) (by omega) ?_
        refine WM.nm (fun M4 eM4 => ?_)
        refine r_iinc B (lv' := [(2, .int (iI (k + 1))), (0, .ref md), (1, .int (iI li))]) dX6_dropsLine_55 (j := 2) rfl (by decide) rfl ?_
        refine r_goto B dX6_dropsLine_58 rfl ?_
        refine WM.pick [1, 2, 0] rfl ?_
        refine ihlp2 (k + 1) M4 (by omega) (by omega) (by rw [eM4, gI_nk (by omega)]; exact h571) ?_ ?_ (fun d p => (hf d p).tr (by rw [eM4]; exact Same.sI p)) (by omega)
        · intro q q0 q1
          rw [eM4]
          by_cases w : q = k
          · rw [w, gI_eq]
          · rw [gI_nk w]; exact hsh q q0 (by omega)
        · intro q q1 q2
          rw [eM4, gI_nk (by omega)]
          exact hun q (by omega) q2
  refine WM.pick [1, 2, 0] rfl ?_
  exact lp2 _ (572 + 15 * li) M1 (by omega) (by omega) (by rw [eM1, gI_eq]) (fun q q0 q1 => by omega) (fun q q1 q2 => by rw [eM1, gI_nk q2]) (fun d p => by rw [eM1]; exact Same.sI p) (Nat.lt_succ_self _)
