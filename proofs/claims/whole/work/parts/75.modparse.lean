set_option maxRecDepth 100000 in
set_option maxHeartbeats 4000000 in
theorem c_X6_parse (l : Launch) (G : Gs) (M : Mem) (md : Nat) (hM : IsMd G md) (s : Ast) (cn : Int) (sv : Int → Ast) (hmg : MdG M md (s, cn, sv)) (hbk : GgOk (s, cn, sv)) (len : Int) (b : Int → Int) (hlen : gI M md 5 = len) (htx : ∀ i : Int, 0 ≤ i → i < len → gI M (md + 4) i = b i) (htk : TxOk len b) : Ct l G yX6_parse cX6_parse 3 (some .int) rm_X6_parse [.ref md] M (PoI G (fun r M' => ∃ o : Option Ast, PaR s b len r o ∧ gI M' md 6 = 0 ∧ MdG M' md (paS (s, cn, sv) o) ∧ MdF M M' md)) 0 0 := by
  refine Ct.of (by decide +kernel) (Nat.le_of_ble_eq_true rfl) [(0, .ref md)] rfl ?_
  intro X B
  have hS_M : MdS M md s := hmg.1
  have hok : StateOk s := hbk.1
  have hF_M : FL M M md := FL.rf
  have hc0 : 0 ≤ cn := hbk.2.1
  have hc4 : cn ≤ 4 := hbk.2.2.1
  have hs1 := hok.1
  have hs2 := hok.2.1
  have hs3 := hok.2.2.1
  have hs4 := hok.2.2.2.1
  have ht0 := htk.1
  have ht1 := htk.2.1
  refine r_aload_n B 0 dX6_parse_0 rfl ?_
  refine r_iconst B dX6_parse_1 ?_
  refine rp6_thrown B hM.1 q_898 dX6_parse_2 ?_
  refine WM.nm (fun M1 eM1 => ?_)
  refine r_aload_n B 0 dX6_parse_5 rfl ?_
  refine r_iconst B dX6_parse_6 ?_
  refine rp6_at B hM.1 q_905 dX6_parse_7 ?_
  refine WM.nm (fun M2 eM2 => ?_)
  have lp3 : ∀ (nlp3 : Nat) (p : Int) (Mc : Mem) (hp0 : 0 ≤ p) (hp1 : p ≤ len) (hokp : Okto b p) (hpz : (auS b p.toNat).1 = 0) (h13 : gI Mc md 13 = p) (hki0 : ∀ k : Int, k ≠ 13 → k ≠ 14 → k ≠ 16 → gI Mc md k = gI M2 md k) (hsm : ∀ d : Nat, d ≠ md → d ≠ md + 7 → Same M Mc d), (len + 1 - p).toNat < nlp3 → WM G X 0 0 (bM X (PoI G (fun r M' => ∃ o : Option Ast, PaR s b len r o ∧ gI M' md 6 = 0 ∧ MdG M' md (paS (s, cn, sv) o) ∧ MdF M M' md)) 0 0 G) Mc 10 [(0, .ref md)] [] := by
    intro nlp3
    induction nlp3 with
    | zero => intro p Mc hp0 hp1 hokp hpz h13 hki0 hsm hm; omega
    | succ nlp3 ihlp3 =>
      intro p Mc hp0 hp1 hokp hpz h13 hki0 hsm hm
      have hk3 : gI Mc md 3 = gI M md 3 := by rw [hki0 3 (by omega) (by omega) (by omega), eM2, gI_nk (by omega), eM1, gI_nk (by omega)]
      have hk5 : gI Mc md 5 = gI M md 5 := by rw [hki0 5 (by omega) (by omega) (by omega), eM2, gI_nk (by omega), eM1, gI_nk (by omega)]
      refine r_aload_n B 0 dX6_parse_10 rfl ?_
      refine rg6_at B hM.1 q_905 dX6_parse_11 ?_
      refine r_vi (y := p) h13 ?_
      refine r_aload_n B 0 dX6_parse_14 rfl ?_
      refine rg6_typed B hM.1 q_897 dX6_parse_15 ?_
      refine r_vi (y := len) (by rw [hk5]; exact hlen) ?_
      refine r_icmp_ge B dX6_parse_18 rfl ⟨by omega, by omega⟩ ⟨by omega, by omega⟩ (fun h4 => ?_) (fun h4 => ?_)
      · have hpl : p = len := by omega
        rw [hpl] at hokp hpz
        have hsyn : SynE b len (-1) := Or.inl ⟨rfl, hokp, hpz⟩
        have hS_Mc : MdS Mc md s := by unfold MdS; rw [(hsm (md + 1) (by omega) (by omega)).1]; exact hS_M
        refine r_aload_n B 0 dX6_parse_36 rfl ?_
        refine r_Vv0 B (c_X6_hold l G Mc md hM) ⟨rfl, rfl⟩ ok_X6_hold vi_X6_hold q_968 hM.1 rfl (fun _ => rfl) ⟨Nat.le_of_ble_eq_true rfl, Nat.le_of_ble_eq_true rfl, Nat.le_of_ble_eq_true rfl⟩ ⟨Nat.le_of_ble_eq_true rfl, Nat.le_of_ble_eq_true rfl⟩ dX6_parse_37 (fun Mh hh => ?_)
        have hS_Mh : MdS Mh md s := by unfold MdS; rw [(hh.2 (md + 1) (by omega)).1]; exact hS_Mc
        have hAs : RowS (gI Mh (md + 3)) s := hS_Mc.congr hok (fun k p q => hh.1 k p q)
        refine r_aload_n B 0 dX6_parse_40 rfl ?_
        refine r_iconst B dX6_parse_41 ?_
        refine rp6_at B hM.1 q_905 dX6_parse_42 ?_
        refine WM.nm (fun M5 eM5 => ?_)
        refine r_iconst B dX6_parse_45 ?_
        refine r_istore_n B (lv' := [(1, .int (iI 0)), (0, .ref md)]) dX6_parse_46 (by decide) rfl ?_
        have hm4 : ∀ d : Nat, d ≠ md → Same Mh M5 d := fun d q => by rw [eM5]; exact Same.sI q
        have lp6 : ∀ (nlp6 : Nat) (n : Int) (p2 : Int) (Md : Mem) (t : Ast) (hn0 : 0 ≤ n) (hp20 : 0 ≤ p2) (hp21 : p2 ≤ len) (hpz2 : (auS b p2.toNat).1 = 0) (g13 : gI Md md 13 = p2) (hT : MdS Md md t) (hokt : StateOk t) (hrun : runP b s p2.toNat = (n, some t)) (hnp : n ≤ p2) (hkj : ∀ k : Int, k ≠ 13 → k ≠ 14 → k ≠ 16 → gI Md md k = gI Mh md k) (hsn : ∀ d : Nat, d ≠ md → d ≠ md + 1 → d ≠ md + 7 → Same Mh Md d), (len + 1 - p2).toNat < nlp6 → WM G X 0 0 (bM X (PoI G (fun r M' => ∃ o : Option Ast, PaR s b len r o ∧ gI M' md 6 = 0 ∧ MdG M' md (paS (s, cn, sv) o) ∧ MdF M M' md)) 0 0 G) Md 47 [(0, .ref md), (1, .int (iI n))] [] := by
          intro nlp6
          induction nlp6 with
          | zero => intro n p2 Md t hn0 hp20 hp21 hpz2 g13 hT hokt hrun hnp hkj hsn hm; omega
          | succ nlp6 ihlp6 =>
            intro n p2 Md t hn0 hp20 hp21 hpz2 g13 hT hokt hrun hnp hkj hsn hm
            refine r_aload_n B 0 dX6_parse_47 rfl ?_
            refine rg6_at B hM.1 q_905 dX6_parse_48 ?_
            refine r_vi (y := p2) g13 ?_
            refine r_aload_n B 0 dX6_parse_51 rfl ?_
            refine rg6_typed B hM.1 q_897 dX6_parse_52 ?_
            refine r_vi (y := len) (by rw [hkj 5 (by omega) (by omega) (by omega), (hh.2 md (by omega)).1, hk5]; exact hlen) ?_
            refine r_icmp_ge B dX6_parse_55 rfl ⟨by omega, by omega⟩ ⟨by omega, by omega⟩ (fun h7 => ?_) (fun h7 => ?_)
            · have hp2l : p2 = len := by omega
              refine r_aload_n B 0 dX6_parse_86 rfl ?_
              refine r_iload_n B 1 dX6_parse_87 rfl ?_
              refine r_Vi1 B (c_X6_ends l G Md md hM s cn sv (by rw [hkj 3 (by omega) (by omega) (by omega), (hh.2 md (by omega)).1, hk3]; exact hmg.2.1) (by rw [(hsn (md + 2) (by omega) (by omega) (by omega)).1, (hh.2 (md + 2) (by omega)).1, (hsm (md + 2) (by omega) (by omega)).1]; exact hmg.2.2) (by rw [(hsn (md + 3) (by omega) (by omega) (by omega)).1]; exact hAs) hbk n) ⟨rfl, rfl⟩ ok_X6_ends vi_X6_ends q_976 hM.1 rfl (fun _ => rfl) ⟨Nat.le_of_ble_eq_true rfl, Nat.le_of_ble_eq_true rfl, Nat.le_of_ble_eq_true rfl⟩ ⟨Nat.le_of_ble_eq_true rfl, Nat.le_of_ble_eq_true rfl⟩ dX6_parse_88 (fun re Me hen => ?_)
              obtain ⟨hev, he6, he3, hesr, hesm, he5⟩ := hen
              rw [hev]
              clear hev
              exact r_iret B dX6_parse_91 ⟨some t, Or.inr (Or.inr ⟨hsyn, t, by rw [← hp2l]; exact hrun, rfl⟩), he6, ⟨by unfold MdS; rw [(hesm (md + 1) (by omega) (by omega)).1]; exact hT, he3, hesr⟩, by rw [(hesm (md + 4) (by omega) (by omega)).1, (hsn (md + 4) (by omega) (by omega) (by omega)).1, (hh.2 (md + 4) (by omega)).1, (hsm (md + 4) (by omega) (by omega)).1], by rw [he5, hkj 5 (by omega) (by omega) (by omega), (hh.2 md (by omega)).1, hk5], fun c w => (((hsm c (by omega) (by omega)).tr (hh.2 c (by omega))).tr (hsn c (by omega) (by omega) (by omega))).tr (hesm c (by omega) (by omega))⟩
            · refine r_aload_n B 0 dX6_parse_58 rfl ?_
              refine r_Vz0 B (c_X6_isCommand l G Md md hM len b p2 (by rw [hkj 5 (by omega) (by omega) (by omega), (hh.2 md (by omega)).1, hk5]; exact hlen) (fun i a d => by rw [(hsn (md + 4) (by omega) (by omega) (by omega)).1, (hh.2 (md + 4) (by omega)).1, (hsm (md + 4) (by omega) (by omega)).1]; exact htx i a d) g13 htk (by omega) (by omega) (fun i a c => hokp i a (by omega)) hpz2) ⟨rfl, rfl⟩ ok_X6_isCommand vi_X6_isCommand q_1289 hM.1 rfl (fun _ => rfl) ⟨Nat.le_of_ble_eq_true rfl, Nat.le_of_ble_eq_true rfl, Nat.le_of_ble_eq_true rfl⟩ ⟨Nat.le_of_ble_eq_true rfl, Nat.le_of_ble_eq_true rfl⟩ dX6_parse_59 (fun rc Mi hic => ?_)
              obtain ⟨hic, hik, him⟩ := hic
              have rc01 : 0 ≤ rc ∧ rc ≤ 1 := by rcases hic with w | w <;> omega
              refine r_istore_n B (lv' := [(2, .int (iI rc)), (0, .ref md), (1, .int (iI n))]) dX6_parse_62 (by decide) rfl ?_
              obtain ⟨e, e0, e1, e59, eok, eno, e13, e14, e16, env⟩ : ∃ e : Int, p2 ≤ e ∧ e < len ∧ b e = 59 ∧ Okto b (e + 1) ∧ (∀ k : Int, p2 ≤ k → k < e → ¬ b k = 59) ∧ gI Mi md 13 = e + 1 ∧ gI Mi md 14 = (auS b e.toNat).1 ∧ gI Mi md 16 = (auS b e.toNat).2.1 ∧ (∀ k : Int, 0 ≤ k → k < (auS b e.toNat).2.1 → gI Mi (md + 7) k = (auS b e.toNat).2.2.2.2 k) := by rcases hic with w | w; exact w.2; exact absurd (SynE.unique ht0 w.2.1 hsyn) w.2.2
              clear hic
              obtain ⟨a1, a2, a3, a4, a5, a6⟩ := cmd_at hokp (by omega) e1 e59
              have hau := auS_in (b := b) e.toNat (fun i a c => hokp i a (by omega))
              have hn80 : (auS b e.toNat).2.1 ≤ 80 := by rcases hau with w | w; exact absurd w a1; have := w.2.2.1; omega
              have hTi : MdS Mi md t := by unfold MdS; rw [(him (md + 1) (by omega) (by omega)).1]; exact hT
              have hrune : runP b s e.toNat = (n, some t) := by rw [runP_skip (p := p2.toNat) e.toNat (by omega) (fun k a c => eno k (by omega) (by omega))]; exact hrun
              have hen : ((e.toNat : Nat) : Int) = e := by omega
              refine r_aload_n B 1 dX6_parse_63 rfl ?_
              refine r_Vz0 B (c_X6_isDone l G Mi md hM t hTi hokt (auS b e.toNat) e14 e16 env a2 a4 a5 hn80 a6) ⟨rfl, rfl⟩ ok_X6_isDone vi_X6_isDone q_1309 hM.1 rfl (fun _ => rfl) ⟨Nat.le_of_ble_eq_true rfl, Nat.le_of_ble_eq_true rfl, Nat.le_of_ble_eq_true rfl⟩ ⟨Nat.le_of_ble_eq_true rfl, Nat.le_of_ble_eq_true rfl⟩ dX6_parse_64 (fun rd Mj hid => ?_)
              obtain ⟨hid, hjm⟩ := hid
              have rd01 : 0 ≤ rd ∧ rd ≤ 1 := by rcases hid with ⟨w0, w1, w2, w3⟩ | ⟨w1, w2, w3⟩ <;> omega
              refine r_if_ne B dX6_parse_67 rfl ⟨by omega, by omega⟩ (fun h8 => ?_) (fun h8 => ?_)
              · obtain ⟨t2, hcm, hT2⟩ : ∃ t2 : Ast, CmR t (auS b e.toNat) (some t2) ∧ MdS Mj md t2 := by rcases hid with ⟨w0, w1, w2, w3⟩ | ⟨w1, w2, w3⟩; exact ⟨w0, w1, w3⟩; omega
                clear hid
                refine r_iinc B (lv' := [(1, .int (iI (n + 1))), (2, .int (iI rc)), (0, .ref md)]) dX6_parse_80 (j := 2) rfl (by decide) rfl ?_
                refine r_goto B dX6_parse_83 rfl ?_
                refine WM.pick [2, 0] rfl ?_
                exact ihlp6 (n + 1) (e + 1) Mj t2 (by omega) (by omega) (by omega) (by rw [auS_s b (show 0 ≤ e by omega), if_pos e59]; rfl) (by rw [(hjm md (by omega)).1]; exact e13) hT2 (hcm.ok hokt (by omega) a5) (by rw [show (e + 1).toNat = e.toNat + 1 by omega]; exact runP_some hrune (by rw [hen]; exact e59) (cmF_eq hcm)) (by omega) (fun k q1 q2 q3 => by rw [(hjm md (by omega)).1, hik k q1 q2 q3]; exact hkj k q1 q2 q3) (fun d q1 q2 q3 => (hsn d q1 q2 q3).tr ((him d q1 q3).tr (hjm d q2))) (by omega)
              · obtain ⟨hcm, hrd0⟩ : CmR t (auS b e.toNat) none ∧ rd = 0 := by rcases hid with ⟨w0, w1, w2, w3⟩ | ⟨w1, w2, w3⟩; omega; exact ⟨w1, w2⟩
                clear hid
                have hrunz : runP b s len.toNat = (n, none) := runP_none (p := e.toNat + 1) (runP_no hrune (by rw [hen]; exact e59) (cmF_eq hcm)) len.toNat (by omega)
                refine r_aload_n B 1 dX6_parse_70 rfl ?_
                refine r_Vv0 B (c_X6_restore l G Mj md hM) ⟨rfl, rfl⟩ ok_X6_restore vi_X6_restore q_1050 hM.1 rfl (fun _ => rfl) ⟨Nat.le_of_ble_eq_true rfl, Nat.le_of_ble_eq_true rfl, Nat.le_of_ble_eq_true rfl⟩ ⟨Nat.le_of_ble_eq_true rfl, Nat.le_of_ble_eq_true rfl⟩ dX6_parse_71 (fun Mr hrs => ?_)
                refine r_sipush B (z := (-1000)) dX6_parse_74 (by decide) ?_
                refine r_iload_n B 2 dX6_parse_77 rfl ?_
                refine r_isub B dX6_parse_78 ?_
                have hall : ∀ c : Nat, c ≠ md → c ≠ md + 1 → c ≠ md + 3 → c ≠ md + 7 → Same M Mr c := fun c q1 q2 q3 q4 => ((((hsm c q1 q4).tr (hh.2 c q3)).tr (hsn c q1 q2 q4)).tr ((him c q1 q4).tr (hjm c q2))).tr (hrs.2 c q2)
                have hint : ∀ k : Int, k ≠ 13 → k ≠ 14 → k ≠ 16 → gI Mr md k = gI M2 md k := fun k q1 q2 q3 => by rw [(hrs.2 md (by omega)).1, (hjm md (by omega)).1, hik k q1 q2 q3, hkj k q1 q2 q3, (hh.2 md (by omega)).1, hki0 k q1 q2 q3]
                exact r_iret B dX6_parse_79 ⟨none, Or.inr (Or.inl ⟨hsyn, ⟨n, hrunz, rfl⟩, rfl⟩), by rw [hint 6 (by omega) (by omega) (by omega), eM2, gI_nk (by omega), eM1, gI_eq], ⟨hS_Mc.congr hok (fun k q0 q1 => by rw [hrs.1 k q0 q1, (hjm (md + 3) (by omega)).1, (him (md + 3) (by omega) (by omega)).1, (hsn (md + 3) (by omega) (by omega) (by omega)).1, hh.1 k q0 q1]), by rw [hint 3 (by omega) (by omega) (by omega), eM2, gI_nk (by omega), eM1, gI_nk (by omega)]; exact hmg.2.1, by rw [(hall (md + 2) (by omega) (by omega) (by omega) (by omega)).1]; exact hmg.2.2⟩, (hall (md + 4) (by omega) (by omega) (by omega) (by omega)).1, by rw [hint 5 (by omega) (by omega) (by omega), eM2, gI_nk (by omega), eM1, gI_nk (by omega)], fun c w => hall c (by omega) (by omega) (by omega) (by omega)⟩
        refine WM.pick [1, 0] rfl ?_
        exact lp6 _ 0 0 M5 s (by omega) (by omega) (by omega) rfl (by rw [eM5, gI_eq]) (by unfold MdS; rw [(hm4 (md + 1) (by omega)).1]; exact hS_Mh) hok rfl (by omega) (fun k q1 q2 q3 => by rw [eM5, gI_nk q1]) (fun d q1 q2 q3 => hm4 d q1) (Nat.lt_succ_self _)
      · refine r_aload_n B 0 dX6_parse_21 rfl ?_
        refine r_Vz0 B (c_X6_isCommand l G Mc md hM len b p (by rw [hk5]; exact hlen) (fun i a d => by rw [(hsm (md + 4) (by omega) (by omega)).1]; exact htx i a d) h13 htk (by omega) (by omega) hokp hpz) ⟨rfl, rfl⟩ ok_X6_isCommand vi_X6_isCommand q_1289 hM.1 rfl (fun _ => rfl) ⟨Nat.le_of_ble_eq_true rfl, Nat.le_of_ble_eq_true rfl, Nat.le_of_ble_eq_true rfl⟩ ⟨Nat.le_of_ble_eq_true rfl, Nat.le_of_ble_eq_true rfl⟩ dX6_parse_22 (fun rc Mi hic => ?_)
        obtain ⟨hic, hik, him⟩ := hic
        have rc01 : 0 ≤ rc ∧ rc ≤ 1 := by rcases hic with w | w <;> omega
        refine r_if_ne B dX6_parse_25 rfl ⟨by omega, by omega⟩ (fun h9 => ?_) (fun h9 => ?_)
        · obtain ⟨e, e0, e1, e59, eok, eno, e13, e14, e16, env⟩ : ∃ e : Int, p ≤ e ∧ e < len ∧ b e = 59 ∧ Okto b (e + 1) ∧ (∀ k : Int, p ≤ k → k < e → ¬ b k = 59) ∧ gI Mi md 13 = e + 1 ∧ gI Mi md 14 = (auS b e.toNat).1 ∧ gI Mi md 16 = (auS b e.toNat).2.1 ∧ (∀ k : Int, 0 ≤ k → k < (auS b e.toNat).2.1 → gI Mi (md + 7) k = (auS b e.toNat).2.2.2.2 k) := by rcases hic with w | w; exact w.2; omega
          clear hic
          refine WM.pick [0] rfl ?_
          exact ihlp3 (e + 1) Mi (by omega) (by omega) eok (by rw [auS_s b (show 0 ≤ e by omega), if_pos e59]; rfl) e13 (fun k q1 q2 q3 => by rw [hik k q1 q2 q3]; exact hki0 k q1 q2 q3) (fun d q1 q2 => (hsm d q1 q2).tr (him d q1 q2)) (by omega)
        · have hbad : SynE b len (gI Mi md 13) ∧ ¬ gI Mi md 13 = -1 := by rcases hic with w | w; omega; exact w.2
          clear hic
          have hbb : -1 ≤ gI Mi md 13 ∧ gI Mi md 13 ≤ len := by rcases hbad.1 with w | w | w <;> omega
          refine r_bipush B (z := (-10)) dX6_parse_28 (by decide) ?_
          refine r_aload_n B 0 dX6_parse_30 rfl ?_
          refine rg6_at B hM.1 q_905 dX6_parse_31 ?_
          refine r_isub B dX6_parse_34 ?_
          exact r_iret B dX6_parse_35 ⟨none, Or.inl ⟨_, hbad.1, hbad.2, rfl, rfl⟩, by rw [hik 6 (by omega) (by omega) (by omega), hki0 6 (by omega) (by omega) (by omega), eM2, gI_nk (by omega), eM1, gI_eq], hmg.only ((hsm (md + 1) (by omega) (by omega)).tr (him (md + 1) (by omega) (by omega))).1 ((hsm (md + 2) (by omega) (by omega)).tr (him (md + 2) (by omega) (by omega))).1 (by rw [hik 3 (by omega) (by omega) (by omega)]; exact hk3), ((hsm (md + 4) (by omega) (by omega)).tr (him (md + 4) (by omega) (by omega))).1, by rw [hik 5 (by omega) (by omega) (by omega)]; exact hk5, fun c w => (hsm c (by omega) (by omega)).tr (him c (by omega) (by omega))⟩
  refine WM.pick [0] rfl ?_
  exact lp3 _ 0 M2 (by omega) (by omega) (fun i a c => by omega) rfl (by rw [eM2, gI_eq]) (fun k q1 q2 q3 => rfl) (fun d q1 q2 => by rw [eM2, eM1]; exact (Same.sI q1).tr (Same.sI q1)) (Nat.lt_succ_self _)
