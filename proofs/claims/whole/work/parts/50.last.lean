set_option maxRecDepth 100000 in
set_option maxHeartbeats 4000000 in
theorem c_X5_gears (l : Launch) (G : Gs) (M : Mem) (N : Nat) (s : Ast) (hG : IsGg G N) (hA : StateIs M (N + 1) s) (hok : StateOk s) : Ct l G yX5_gears cX5_gears 1 (some .int) rm_X5_gears [.ref N] M (PoI G (Rd s.1 M)) 0 0 := by
  refine Ct.of (by decide +kernel) (Nat.le_of_ble_eq_true rfl) [(0, .ref N)] rfl ?_
  intro X B
  have hs1 := hok.1
  have hs2 := hok.2.1
  have hs3 := hok.2.2.1
  have hs4 := hok.2.2.2.1
  refine r_aload_n B 0 dX5_gears_0 rfl ?_
  refine rg5_now B hG.1 q_171 dX5_gears_1 ?_
  refine rg3_gearCount B hG.2.1.1 q_94 dX5_gears_4 ?_
  refine r_vi (y := s.1) hA.1 ?_
  exact r_iret B dX5_gears_7 ⟨rfl, rfl⟩

set_option maxRecDepth 100000 in
set_option maxHeartbeats 4000000 in
theorem c_X5_lines (l : Launch) (G : Gs) (M : Mem) (N : Nat) (s : Ast) (hG : IsGg G N) (hA : StateIs M (N + 1) s) (hok : StateOk s) : Ct l G yX5_lines cX5_lines 1 (some .int) rm_X5_lines [.ref N] M (PoI G (Rd s.2.1 M)) 0 0 := by
  refine Ct.of (by decide +kernel) (Nat.le_of_ble_eq_true rfl) [(0, .ref N)] rfl ?_
  intro X B
  have hs1 := hok.1
  have hs2 := hok.2.1
  have hs3 := hok.2.2.1
  have hs4 := hok.2.2.2.1
  refine r_aload_n B 0 dX5_lines_0 rfl ?_
  refine rg5_now B hG.1 q_171 dX5_lines_1 ?_
  refine rg3_lineCount B hG.2.1.1 q_96 dX5_lines_4 ?_
  refine r_vi (y := s.2.1) hA.2.1 ?_
  exact r_iret B dX5_lines_7 ⟨rfl, rfl⟩

set_option maxRecDepth 100000 in
set_option maxHeartbeats 4000000 in
theorem c_X5_clearText (l : Launch) (G : Gs) (M : Mem) (N : Nat) (hG : IsGg G N) (len : Int) (b : Int → Int) (hT : TxB M (N + 320) len b) (htk : TxOk len b) : Ct l G yX5_clearText cX5_clearText 2 (some .int) rm_X5_clearText [.ref N] M (PoI G (fun r M' => r = len ∧ M' = sI M (N + 320) 1 0)) 0 0 := by
  refine Ct.of (by decide +kernel) (Nat.le_of_ble_eq_true rfl) [(0, .ref N)] rfl ?_
  intro X B
  have ht0 := htk.1
  have ht1 := htk.2.1
  refine r_aload_n B 0 dX5_clearText_0 rfl ?_
  refine rg5_text B hG.1 q_175 dX5_clearText_1 ?_
  refine rg4_length B hG.2.2.2.2.2.1.1 q_120 dX5_clearText_4 ?_
  refine r_vi (y := len) hT.1 ?_
  refine r_istore_n B (lv' := [(1, .int (iI len)), (0, .ref N)]) dX5_clearText_7 (by decide) rfl ?_
  refine r_aload_n B 1 dX5_clearText_8 rfl ?_
  refine rg5_text B hG.1 q_175 dX5_clearText_9 ?_
  refine r_iconst B dX5_clearText_12 ?_
  refine rp4_length B hG.2.2.2.2.2.1.1 q_120 dX5_clearText_13 ?_
  refine WM.nm (fun M1 eM1 => ?_)
  refine r_iload_n B 0 dX5_clearText_16 rfl ?_
  exact r_iret B dX5_clearText_17 ⟨rfl, eM1⟩

set_option maxRecDepth 100000 in
set_option maxHeartbeats 4000000 in
theorem c_X5_append (l : Launch) (hst : l.stackTraces = false) (G : Gs) (M : Mem) (N : Nat) (hG : IsGg G N) (len : Int) (b : Int → Int) (hT : TxB M (N + 320) len b) (htk : TxOk len b) (v : Int) (hv : In32 v) : CtX l G yX5_append cX5_append 2 (some .int) rx_X5_append [.ref N, .int (iI v)] M (PoI G (fun r M' => oApp len v = (0, r) ∧ M' = sI (sI M (N + 320 + 1) len v) (N + 320) 1 (len + 1))) (fun E M' => (E = eIAE ∧ oApp len v = (1, 0) ∨ E = eISE ∧ oApp len v = (2, 0)) ∧ M' = M) 1 6 := by
  refine CtX.of (by decide +kernel) (Nat.le_of_ble_eq_true rfl) [(0, .ref N), (1, .int (iI v))] rfl ?_
  intro X B Tx
  have ht0 := htk.1
  have ht1 := htk.2.1
  obtain ⟨hv1, hv2⟩ := hv
  refine r_iload_n B 1 dX5_append_0 rfl ?_
  refine r_if_lt B dX5_append_1 rfl ⟨by omega, by omega⟩ (fun h1 => ?_) (fun h1 => ?_)
  · exact r_thrA B Tx hst (is := 94) (text := "value out of range") (by decide +kernel) dX5_append_10 dX5_append_13 dX5_append_14 dX5_append_16 dX5_append_19 ⟨Nat.le_of_ble_eq_true rfl, Nat.le_of_ble_eq_true rfl, Nat.le_of_ble_eq_true rfl, Nat.le_of_ble_eq_true rfl⟩ ⟨Nat.le_of_ble_eq_true rfl, Nat.le_of_ble_eq_true rfl⟩ ⟨Or.inl ⟨rfl, by unfold oApp; rw [if_pos (by omega)]⟩, rfl⟩
  · refine r_iload_n B 1 dX5_append_4 rfl ?_
    refine r_bipush B (z := 127) dX5_append_5 (by decide) ?_
    refine r_icmp_le B dX5_append_7 rfl ⟨by omega, by omega⟩ ⟨by omega, by omega⟩ (fun h2 => ?_) (fun h2 => ?_)
    · refine r_aload_n B 0 dX5_append_20 rfl ?_
      refine rg5_text B hG.1 q_175 dX5_append_21 ?_
      refine rg4_length B hG.2.2.2.2.2.1.1 q_120 dX5_append_24 ?_
      refine r_vi (y := len) hT.1 ?_
      refine r_sipush B (z := 160) dX5_append_27 (by decide) ?_
      refine r_icmp_lt B dX5_append_30 rfl ⟨by omega, by omega⟩ ⟨by omega, by omega⟩ (fun h3 => ?_) (fun h3 => ?_)
      · refine r_aload_n B 0 dX5_append_44 rfl ?_
        refine rg5_text B hG.1 q_175 dX5_append_45 ?_
        refine rg4_bytes B hG.2.2.2.2.2.1.1 q_118 dX5_append_48 ?_
        refine r_aload_n B 0 dX5_append_51 rfl ?_
        refine rg5_text B hG.1 q_175 dX5_append_52 ?_
        refine rg4_length B hG.2.2.2.2.2.1.1 q_120 dX5_append_55 ?_
        refine r_vi (y := len) hT.1 ?_
        refine r_iload_n B 1 dX5_append_58 rfl ?_
        refine r_iastore B dX5_append_59 hG.2.2.2.2.2.1.2.1 (by omega) (by omega) ?_
        refine WM.nm (fun M4 eM4 => ?_)
        refine r_aload_n B 0 dX5_append_60 rfl ?_
        refine rg5_text B hG.1 q_175 dX5_append_61 ?_
        refine r_dup B dX5_append_64 rfl ?_
        refine rg4_length B hG.2.2.2.2.2.1.1 q_120 dX5_append_65 ?_
        refine r_vi (y := len) (by rw [eM4, gI_ne (by omega)]; exact hT.1) ?_
        refine r_iconst B dX5_append_68 ?_
        refine r_iadd B dX5_append_69 ?_
        refine rp4_length B hG.2.2.2.2.2.1.1 q_120 dX5_append_70 ?_
        refine WM.nm (fun M5 eM5 => ?_)
        refine r_aload_n B 0 dX5_append_73 rfl ?_
        refine rg5_text B hG.1 q_175 dX5_append_74 ?_
        refine rg4_length B hG.2.2.2.2.2.1.1 q_120 dX5_append_77 ?_
        refine r_vi (y := len + 1) (by rw [eM5, gI_eq]) ?_
        exact WM.xret (Nat.le_of_ble_eq_true rfl) (Nat.le_of_ble_eq_true rfl) (r_iret B dX5_append_80 ⟨by unfold oApp; rw [if_neg (by omega), if_neg (by omega)], by rw [eM5, eM4]⟩)
      · exact r_thrSW B Tx hst (is := 277) (text := "no room for a byte") (by decide +kernel) dX5_append_33 dX5_append_36 dX5_append_37 dX5_append_40 dX5_append_43 ⟨Nat.le_of_ble_eq_true rfl, Nat.le_of_ble_eq_true rfl, Nat.le_of_ble_eq_true rfl, Nat.le_of_ble_eq_true rfl⟩ ⟨Nat.le_of_ble_eq_true rfl, Nat.le_of_ble_eq_true rfl⟩ ⟨Or.inr ⟨rfl, by unfold oApp; rw [if_neg (by omega), if_pos (by omega)]⟩, rfl⟩
    · exact r_thrA B Tx hst (is := 94) (text := "value out of range") (by decide +kernel) dX5_append_10 dX5_append_13 dX5_append_14 dX5_append_16 dX5_append_19 ⟨Nat.le_of_ble_eq_true rfl, Nat.le_of_ble_eq_true rfl, Nat.le_of_ble_eq_true rfl, Nat.le_of_ble_eq_true rfl⟩ ⟨Nat.le_of_ble_eq_true rfl, Nat.le_of_ble_eq_true rfl⟩ ⟨Or.inl ⟨rfl, by unfold oApp; rw [if_pos (by omega)]⟩, rfl⟩

set_option maxRecDepth 100000 in
set_option maxHeartbeats 4000000 in
theorem c_X5_undo (l : Launch) (hst : l.stackTraces = false) (G : Gs) (M : Mem) (N : Nat) (s : Ast) (cn : Int) (sv : Int → Ast) (hG : IsGg G N) (hB : GgIs M N (s, cn, sv)) (hbk : GgOk (s, cn, sv)) : CtX l G yX5_undo cX5_undo 1 (some .int) rx_X5_undo [.ref N] M (PoI G (fun r M' => (1 ≤ cn ∧ r = cn - 1) ∧ GgIs M' N (sv (cn - 1), cn - 1, sv) ∧ Fg M M' N)) (fun E M' => E = eISE ∧ ¬ 1 ≤ cn ∧ M' = M) 1 6 := by
  refine CtX.of (by decide +kernel) (Nat.le_of_ble_eq_true rfl) [(0, .ref N)] rfl ?_
  intro X B Tx
  have hA : StateIs M (N + 1) s := hB.1
  have hok : StateOk s := hbk.1
  have hs1 := hok.1
  have hs2 := hok.2.1
  have hs3 := hok.2.2.1
  have hs4 := hok.2.2.2.1
  have hc0 : 0 ≤ cn := hbk.2.1
  have hc4 : cn ≤ 4 := hbk.2.2.1
  refine r_aload_n B 0 dX5_undo_0 rfl ?_
  refine rg5_savedCount B hG.1 q_174 dX5_undo_1 ?_
  refine r_vi (y := cn) hB.2.1 ?_
  refine r_iconst B dX5_undo_4 ?_
  refine r_icmp_ge B dX5_undo_5 rfl ⟨by omega, by omega⟩ ⟨by omega, by omega⟩ (fun h1 => ?_) (fun h1 => ?_)
  · refine r_aload_n B 0 dX5_undo_19 rfl ?_
    refine r_dup B dX5_undo_20 rfl ?_
    refine rg5_savedCount B hG.1 q_174 dX5_undo_21 ?_
    refine r_vi (y := cn) hB.2.1 ?_
    refine r_iconst B dX5_undo_24 ?_
    refine r_isub B dX5_undo_25 ?_
    refine rp5_savedCount B hG.1 q_174 dX5_undo_26 ?_
    refine WM.nm (fun M2 eM2 => ?_)
    have hB1 : GgIs M2 N (s, cn - 1, sv) := hB.cut hbk (by omega) (by rw [eM2]; exact gI_eq) (fun d p => by rw [eM2]; exact Same.sI p)
    have hP1 : gP M2 (N + 107) = gP M (N + 107) := by rw [eM2, gP_sI]
    have hbi := RowS.in hB1.2.2.1 (i := cn - 1) (by omega) (by omega)
    have hSs : StateIs M2 (gP M2 (N + 107) (cn - 1)) (sv (cn - 1)) := by
      have w := hB.2.2.2.2.1 (cn - 1) (by omega) (by show cn - 1 < cn; omega)
      rw [hP1]
      rw [hP1] at hbi
      exact w.kept (hbk.2.2.2 (cn - 1) (by omega) (by show cn - 1 < cn; omega)) (fun d _ _ => by rw [eM2]; exact Same.sI (by omega))
    refine r_aload_n B 0 dX5_undo_29 rfl ?_
    refine rg5_now B hG.1 q_171 dX5_undo_30 ?_
    refine r_aload_n B 0 dX5_undo_33 rfl ?_
    refine rg5_saved B hG.1 q_173 dX5_undo_34 ?_
    refine r_aload_n B 0 dX5_undo_37 rfl ?_
    refine rg5_savedCount B hG.1 q_174 dX5_undo_38 ?_
    refine r_vi (y := cn - 1) hB1.2.1 ?_
    refine r_aaload10 B dX5_undo_41 hG.2.2.2.1 (by omega) (by omega) ?_
    refine r_Vv1 B (c_X3_copyFrom l G M2 (N + 1) (gP M2 (N + 107) (cn - 1)) (sv (cn - 1)) hG.2.1 (RowS.state hG hB1.2.2.1 (i := cn - 1) (by omega) (by omega)) hB1.1.2.2.1 hB1.1.2.2.2.1 hSs (hbk.2.2.2 (cn - 1) (by omega) (by show cn - 1 < cn; omega)) (by omega)) ⟨rfl, rfl⟩ ok_X3_copyFrom vi_X3_copyFrom q_239 hG.2.1.1 rfl (fun _ => rfl) ⟨Nat.le_of_ble_eq_true rfl, Nat.le_of_ble_eq_true rfl, Nat.le_of_ble_eq_true rfl⟩ ⟨Nat.le_of_ble_eq_true rfl, Nat.le_of_ble_eq_true rfl⟩ dX5_undo_42 (fun Mk hks => ?_)
    have hk1 : GgOk (s, cn - 1, sv) := ⟨hbk.1, by show 0 ≤ cn - 1; omega, by show cn - 1 ≤ 4; omega, fun i p q => hbk.2.2.2 i p (by have q2 : i < cn - 1 := q; show i < cn; omega)⟩
    refine r_aload_n B 0 dX5_undo_45 rfl ?_
    refine rg5_savedCount B hG.1 q_174 dX5_undo_46 ?_
    refine r_vi (y := cn - 1) (by rw [(hks.2 N (by omega)).1]; exact hB1.2.1) ?_
    exact WM.xret (Nat.le_of_ble_eq_true rfl) (Nat.le_of_ble_eq_true rfl) (r_iret B dX5_undo_49 ⟨⟨by omega, rfl⟩, hB1.now hk1 hks.1 hks.2, fun d p => (by rw [eM2]; exact Same.sI (by omega) : Same M M2 d).tr (hks.2 d (by omega))⟩)
  · exact r_thrSW B Tx hst (is := 301) (text := "no saved state") (by decide +kernel) dX5_undo_8 dX5_undo_11 dX5_undo_12 dX5_undo_15 dX5_undo_18 ⟨Nat.le_of_ble_eq_true rfl, Nat.le_of_ble_eq_true rfl, Nat.le_of_ble_eq_true rfl, Nat.le_of_ble_eq_true rfl⟩ ⟨Nat.le_of_ble_eq_true rfl, Nat.le_of_ble_eq_true rfl⟩ ⟨rfl, by omega, rfl⟩

set_option maxRecDepth 100000 in
set_option maxHeartbeats 4000000 in
theorem c_X5_parse (l : Launch) (G : Gs) (M : Mem) (N : Nat) (s : Ast) (cn : Int) (sv : Int → Ast) (hG : IsGg G N) (hB : GgIs M N (s, cn, sv)) (hbk : GgOk (s, cn, sv)) (len : Int) (b : Int → Int) (hT : TxB M (N + 320) len b) (htk : TxOk len b) : Ct l G yX5_parse cX5_parse 4 (some .int) rm_X5_parse [.ref N] M (PoI G (fun r M' => ∃ o : Option Ast, PaR s b len r o ∧ GgIs M' N (paS (s, cn, sv) o) ∧ TxB M' (N + 320) len b ∧ Only M M' N (N + 335))) 0 0 := by
  refine Ct.of (by decide +kernel) (Nat.le_of_ble_eq_true rfl) [(0, .ref N)] rfl ?_
  intro X B
  have hA : StateIs M (N + 1) s := hB.1
  have hok : StateOk s := hbk.1
  have hs1 := hok.1
  have hs2 := hok.2.1
  have hs3 := hok.2.2.1
  have hs4 := hok.2.2.2.1
  have ht0 := htk.1
  have ht1 := htk.2.1
  have hta : IsText G (N + 320) := hG.2.2.2.2.2.1
  refine r_aload_n B 0 dX5_parse_0 rfl ?_
  refine rg5_text B hG.1 q_175 dX5_parse_1 ?_
  refine r_Vi0 B (c_X4_syntaxError l G M (N + 320) len b hta hT htk) ⟨rfl, rfl⟩ ok_X4_syntaxError vi_X4_syntaxError q_215 hG.2.2.2.2.2.1.1 rfl (fun _ => rfl) ⟨Nat.le_of_ble_eq_true rfl, Nat.le_of_ble_eq_true rfl, Nat.le_of_ble_eq_true rfl⟩ ⟨Nat.le_of_ble_eq_true rfl, Nat.le_of_ble_eq_true rfl⟩ dX5_parse_4 (fun er Me her => ?_)
  obtain ⟨hsy, hsc⟩ := her
  have heb : -1 ≤ er ∧ er ≤ len := by rcases hsy with w | w | w <;> omega
  refine r_istore_n B (lv' := [(1, .int (iI er)), (0, .ref N)]) dX5_parse_7 (by decide) rfl ?_
  have hBe : GgIs Me N (s, cn, sv) := hB.kept hbk (by rw [(hsc.1 N (by omega) (by omega)).1]) (fun c p q => hsc.1 c (by omega) (by omega))
  have hTe : TxB Me (N + 320) len b := hT.scan hsc
  have hOe : Only M Me N (N + 335) := hsc.only.wide (by omega) (by omega)
  refine r_iload_n B 0 dX5_parse_8 rfl ?_
  refine r_iconst B dX5_parse_9 ?_
  refine r_icmp_eq B dX5_parse_10 rfl ⟨by omega, by omega⟩ ⟨by omega, by omega⟩ (fun h1 => ?_) (fun h1 => ?_)
  · have hsyn : SynE b len (-1) := by rw [show (-1 : Int) = er by omega]; exact hsy
    have hok59 : Okto b len ∧ (auS b len.toNat).1 = 0 := by rcases hsyn with w | w | w; exact w.2; omega; omega
    refine r_aload_n B 1 dX5_parse_18 rfl ?_
    refine rg5_trial B hG.1 q_172 dX5_parse_19 ?_
    refine r_aload_n B 1 dX5_parse_22 rfl ?_
    refine rg5_now B hG.1 q_171 dX5_parse_23 ?_
    refine r_Vv1 B (c_X3_copyFrom l G Me (N + 54) (N + 1) s hG.2.2.1 hG.2.1 hBe.2.2.2.2.2.1 hBe.2.2.2.2.2.2 hBe.1 hok (by omega)) ⟨rfl, rfl⟩ ok_X3_copyFrom vi_X3_copyFrom q_239 hG.2.2.1.1 rfl (fun _ => rfl) ⟨Nat.le_of_ble_eq_true rfl, Nat.le_of_ble_eq_true rfl, Nat.le_of_ble_eq_true rfl⟩ ⟨Nat.le_of_ble_eq_true rfl, Nat.le_of_ble_eq_true rfl⟩ dX5_parse_26 (fun Mk hks => ?_)
    refine r_iconst B dX5_parse_29 ?_
    refine r_istore_n B (lv' := [(2, .int (iI 0)), (1, .int (iI er)), (0, .ref N)]) dX5_parse_30 (by decide) rfl ?_
    refine r_aload_n B 2 dX5_parse_31 rfl ?_
    refine rg5_text B hG.1 q_175 dX5_parse_32 ?_
    refine r_Vv0 B (c_X4_rewind l G Mk (N + 320) hta) ⟨rfl, rfl⟩ ok_X4_rewind vi_X4_rewind q_259 hG.2.2.2.2.2.1.1 rfl (fun _ => rfl) ⟨Nat.le_of_ble_eq_true rfl, Nat.le_of_ble_eq_true rfl, Nat.le_of_ble_eq_true rfl⟩ ⟨Nat.le_of_ble_eq_true rfl, Nat.le_of_ble_eq_true rfl⟩ dX5_parse_35 (fun Mw hmw => ?_)
    refine r_iconst B dX5_parse_38 ?_
    refine r_istore_n B (lv' := [(3, .int (iI 0)), (2, .int (iI 0)), (1, .int (iI er)), (0, .ref N)]) dX5_parse_39 (by decide) rfl ?_
    have hw0 : ∀ c : Nat, c ≠ N + 320 → Same Mk Mw c := fun c p => by rw [hmw]; exact Same.sI p
    have lp2 : ∀ (nlp2 : Nat) (i : Int) (p : Int) (Mc : Mem) (t : Ast) (hi0 : 0 ≤ i) (hip : 2 * i ≤ p) (hp0 : 0 ≤ p) (hp1 : p ≤ len) (hpz : (auS b p.toNat).1 = 0) (hcu : gI Mc (N + 320) 7 = p) (hTc : TxB Mc (N + 320) len b) (hSt : StateIs Mc (N + 54) t) (hokt : StateOk t) (hrun : runP b s p.toNat = (i, some t)) (hfo : Only Mk Mc (N + 54) (N + 323)) (hno : ∀ c : Nat, N + 107 ≤ c → c < N + 320 → Same Mk Mc c), (len + 1 - p).toNat < nlp2 → WM G X 0 0 (bM X (PoI G (fun r M' => ∃ o : Option Ast, PaR s b len r o ∧ GgIs M' N (paS (s, cn, sv) o) ∧ TxB M' (N + 320) len b ∧ Only M M' N (N + 335))) 0 0 G) Mc 40 [(0, .ref N), (1, .int (iI er)), (2, .int (iI i)), (3, .int (iI i))] [] := by
      intro nlp2
      induction nlp2 with
      | zero => intro i p Mc t hi0 hip hp0 hp1 hpz hcu hTc hSt hokt hrun hfo hno hm; omega
      | succ nlp2 ihlp2 =>
        intro i p Mc t hi0 hip hp0 hp1 hpz hcu hTc hSt hokt hrun hfo hno hm
        refine r_iload_n B 3 dX5_parse_40 rfl ?_
        refine r_sipush B (z := 160) dX5_parse_41 (by decide) ?_
        refine r_icmp_ge B dX5_parse_44 rfl ⟨by omega, by omega⟩ ⟨by omega, by omega⟩ (fun h3 => ?_) (fun h3 => ?_)
        · omega
        · refine r_aload_n B 0 dX5_parse_47 rfl ?_
          refine rg5_text B hG.1 q_175 dX5_parse_48 ?_
          refine r_Vz0 B (c_X4_readCommand l G Mc (N + 320) len b hta hTc htk p hok59 hp0 hp1 hpz hcu) ⟨rfl, rfl⟩ ok_X4_readCommand vi_X4_readCommand q_263 hG.2.2.2.2.2.1.1 rfl (fun _ => rfl) ⟨Nat.le_of_ble_eq_true rfl, Nat.le_of_ble_eq_true rfl, Nat.le_of_ble_eq_true rfl⟩ ⟨Nat.le_of_ble_eq_true rfl, Nat.le_of_ble_eq_true rfl⟩ dX5_parse_51 (fun rc Mr hrc => ?_)
          obtain ⟨hrc, hscr⟩ := hrc
          have hrc01 : 0 ≤ rc ∧ rc ≤ 1 := by rcases hrc with w | w <;> omega
          have hStr : StateIs Mr (N + 54) t := hSt.only hokt (a := N + 320) (b := N + 323) hscr.only (by omega)
          have hTr : TxB Mr (N + 320) len b := hTc.scan hscr
          have hfr : Only Mk Mr (N + 54) (N + 323) := hfo.tr (hscr.only.wide (by omega) (by omega))
          have hnr : ∀ c : Nat, N + 107 ≤ c → c < N + 320 → Same Mk Mr c := fun c p q => (hno c p q).tr (hscr.1 c (by omega) (by omega))
          refine r_if_eq B dX5_parse_54 rfl ⟨by omega, by omega⟩ (fun h4 => ?_) (fun h4 => ?_)
          · have hpl : p = len := by rcases hrc with w | w; exact w.1; omega
            have hBr : GgIs Mr N (s, cn, sv) := by
              have k1 : ∀ c : Nat, (c < N + 54 ∨ (N + 107 ≤ c ∧ c < N + 320)) → Same Me Mr c := fun c w => (hks.2 c (by omega)).tr (by rcases w with w | w; exact hfr c (by omega); exact hnr c w.1 w.2)
              obtain ⟨b1, b2, b3, b4, b5, b6, b7⟩ := hBe
              have eP := (k1 (N + 107) (by omega)).2.2.2
              refine ⟨b1.kept hok (fun c _ _ => k1 c (by omega)), by rw [(k1 N (by omega)).1]; exact b2, b3.kept eP, fun j hj => ⟨(b4 j hj).1.kept (k1 _ (by omega)).2.2.2, (b4 j hj).2.kept (k1 _ (by omega)).2.2.2⟩, fun q u v => ?_, hStr.2.2.1, hStr.2.2.2.1⟩
              rw [eP]
              have v4 : q < 4 := by have w := hbk.2.2.1; have w2 : cn ≤ 4 := w; have w3 : q < cn := v; omega
              have hi := RowS.in b3 u v4
              exact (b5 q u v).kept (hbk.2.2.2 q u v) (fun c _ _ => k1 c (by omega))
            refine r_aload_n B 0 dX5_parse_86 rfl ?_
            refine r_Vv0 B (c_X5_save l G Mr N s cn sv hG hBr hbk) ⟨rfl, rfl⟩ ok_X5_save vi_X5_save q_311 hG.1 rfl (fun _ => rfl) ⟨Nat.le_of_ble_eq_true rfl, Nat.le_of_ble_eq_true rfl, Nat.le_of_ble_eq_true rfl⟩ ⟨Nat.le_of_ble_eq_true rfl, Nat.le_of_ble_eq_true rfl⟩ dX5_parse_87 (fun Ms hsv => ?_)
            have hA1 : StateIs Ms (N + 1) s := StateIs.sav hsv.1
            refine r_aload_n B 0 dX5_parse_90 rfl ?_
            refine rg5_now B hG.1 q_171 dX5_parse_91 ?_
            refine r_aload_n B 0 dX5_parse_94 rfl ?_
            refine rg5_trial B hG.1 q_172 dX5_parse_95 ?_
            refine r_Vv1 B (c_X3_copyFrom l G Ms (N + 1) (N + 54) t hG.2.1 hG.2.2.1 hA1.2.2.1 hA1.2.2.2.1 (hStr.kept hokt (fun c p q => hsv.2 c (by omega) (by omega))) hokt (by omega)) ⟨rfl, rfl⟩ ok_X3_copyFrom vi_X3_copyFrom q_239 hG.2.1.1 rfl (fun _ => rfl) ⟨Nat.le_of_ble_eq_true rfl, Nat.le_of_ble_eq_true rfl, Nat.le_of_ble_eq_true rfl⟩ ⟨Nat.le_of_ble_eq_true rfl, Nat.le_of_ble_eq_true rfl⟩ dX5_parse_98 (fun Mz hkz => ?_)
            refine r_iload_n B 2 dX5_parse_101 rfl ?_
            have hres := GgIs.save2 hsv.1 hbk hsv.2 hkz.1 hkz.2
            exact r_iret B dX5_parse_102 ⟨some t, Or.inr (Or.inr ⟨hsyn, t, by rw [← hpl]; exact hrun, rfl⟩), hres.1, hTr.fg hres.2, fun c w => ((hOe c (by omega)).tr ((hks.2 c (by omega)).tr (hfr c (by omega)))).tr (hres.2 c (by omega))⟩
          · obtain ⟨e, he0, he1, heb59, hskip, htxs, hcue⟩ : ∃ e : Int, p ≤ e ∧ e < len ∧ b e = 59 ∧ (∀ k : Int, p ≤ k → k < e → ¬ b k = 59) ∧ TxS Mr (N + 320) (auS b e.toNat) ∧ gI Mr (N + 320) 7 = e + 1 := by rcases hrc with w | w; omega; exact w.2
            clear hrc
            obtain ⟨hca1, hca2, hca3, hca4, hca5, hca6⟩ := cmd_at hok59.1 (by omega) he1 heb59
            have hmx160 := mxN_in (auS b e.toNat).1
            have hrune : runP b s e.toNat = (i, some t) := by rw [runP_skip (p := p.toNat) e.toNat (by omega) (fun k a c => hskip k (by omega) (by omega))]; exact hrun
            have hen : ((e.toNat : Nat) : Int) = e := by omega
            have hpe : p + 1 ≤ e := by rcases (show p = e ∨ p + 1 ≤ e by omega) with w | w; rw [← w] at hca1; exact absurd hpz hca1; exact w
            refine r_aload_n B 0 dX5_parse_57 rfl ?_
            refine rg5_trial B hG.1 q_172 dX5_parse_58 ?_
            refine r_aload_n B 0 dX5_parse_61 rfl ?_
            refine rg5_text B hG.1 q_175 dX5_parse_62 ?_
            refine r_Vz1 B (c_X3_carryOut l G Mr (N + 54) t (N + 320) (auS b e.toNat) hG.2.2.1 hStr hokt hta (by omega) hca1 htxs hca3 (by omega) hca6 hca2 hca4 hca5) ⟨rfl, rfl⟩ ok_X3_carryOut vi_X3_carryOut q_267 hG.2.2.1.1 rfl (fun _ => rfl) ⟨Nat.le_of_ble_eq_true rfl, Nat.le_of_ble_eq_true rfl, Nat.le_of_ble_eq_true rfl⟩ ⟨Nat.le_of_ble_eq_true rfl, Nat.le_of_ble_eq_true rfl⟩ dX5_parse_65 (fun co Mo hco => ?_)
            have hco01 : 0 ≤ co ∧ co ≤ 1 := by rcases hco with ⟨w0, w1, w2, w3⟩ | ⟨w1, w2, w3⟩ <;> omega
            refine r_if_ne B dX5_parse_68 rfl ⟨by omega, by omega⟩ (fun h5 => ?_) (fun h5 => ?_)
            · obtain ⟨t2, hcm, hSt2, hfo2⟩ : ∃ t2 : Ast, CmR t (auS b e.toNat) (some t2) ∧ StateIs Mo (N + 54) t2 ∧ Only Mr Mo (N + 54) (N + 54 + 53) := by rcases hco with ⟨w0, w1, w2, w3, w4⟩ | ⟨w1, w2, w3⟩; exact ⟨w0, w1, w3, w4⟩; omega
              clear hco
              refine r_iinc B (lv' := [(2, .int (iI (i + 1))), (0, .ref N), (1, .int (iI er)), (3, .int (iI i))]) dX5_parse_77 (j := 2) rfl (by decide) rfl ?_
              refine r_iinc B (lv' := [(3, .int (iI (i + 1))), (2, .int (iI (i + 1))), (0, .ref N), (1, .int (iI er))]) dX5_parse_80 (j := 3) rfl (by decide) rfl ?_
              refine r_goto B dX5_parse_83 rfl ?_
              refine WM.pick [2, 3, 1, 0] rfl ?_
              exact ihlp2 (i + 1) (e + 1) Mo t2 (by omega) (by omega) (by omega) (by omega) (by rw [auS_s b (show 0 ≤ e by omega), if_pos heb59]; rfl) (by rw [(hfo2 (N + 320) (by omega)).1]; exact hcue) ⟨by rw [(hfo2 (N + 320) (by omega)).1]; exact hTr.1, fun k u v => by rw [(hfo2 (N + 320 + 1) (by omega)).1]; exact hTr.2 k u v⟩ hSt2 (hcm.ok hokt (by omega) hca5) (by rw [show (e + 1).toNat = e.toNat + 1 by omega]; exact runP_some hrune (by rw [hen]; exact heb59) (cmF_eq hcm)) (hfr.tr (hfo2.wide (by omega) (by omega))) (fun c u v => (hnr c u v).tr (hfo2 c (by omega))) (by omega)
            · obtain ⟨hcm, hmo⟩ : CmR t (auS b e.toNat) none ∧ Mo = Mr := by rcases hco with ⟨w0, w1, w2, w3, w4⟩ | ⟨w1, w2, w3⟩; omega; exact ⟨w1, w3⟩
              clear hco
              have hrunz : runP b s len.toNat = (i, none) := runP_none (p := e.toNat + 1) (runP_no hrune (by rw [hen]; exact heb59) (cmF_eq hcm)) len.toNat (by omega)
              subst hmo
              have hBr : GgIs Mo N (s, cn, sv) := by
                have k1 : ∀ c : Nat, (c < N + 54 ∨ (N + 107 ≤ c ∧ c < N + 320)) → Same Me Mo c := fun c w => (hks.2 c (by omega)).tr (by rcases w with w | w; exact hfr c (by omega); exact hnr c w.1 w.2)
                obtain ⟨b1, b2, b3, b4, b5, b6, b7⟩ := hBe
                have eP := (k1 (N + 107) (by omega)).2.2.2
                refine ⟨b1.kept hok (fun c _ _ => k1 c (by omega)), by rw [(k1 N (by omega)).1]; exact b2, b3.kept eP, fun j hj => ⟨(b4 j hj).1.kept (k1 _ (by omega)).2.2.2, (b4 j hj).2.kept (k1 _ (by omega)).2.2.2⟩, fun q u v => ?_, hStr.2.2.1, hStr.2.2.2.1⟩
                rw [eP]
                have v4 : q < 4 := by have w := hbk.2.2.1; have w2 : cn ≤ 4 := w; have w3 : q < cn := v; omega
                have hi := RowS.in b3 u v4
                exact (b5 q u v).kept (hbk.2.2.2 q u v) (fun c _ _ => k1 c (by omega))
              refine r_sipush B (z := (-1000)) dX5_parse_71 (by decide) ?_
              refine r_iload_n B 2 dX5_parse_74 rfl ?_
              refine r_isub B dX5_parse_75 ?_
              exact r_iret B dX5_parse_76 ⟨none, Or.inr (Or.inl ⟨hsyn, ⟨i, hrunz, rfl⟩, rfl⟩), hBr, hTr, fun c w => (hOe c (by omega)).tr ((hks.2 c (by omega)).tr (hfr c (by omega)))⟩
    refine WM.pick [3, 2, 1, 0] rfl ?_
    exact lp2 _ 0 0 Mw s (by omega) (by omega) (by omega) (by omega) rfl (by rw [hmw]; exact gI_eq) ⟨by rw [hmw, gI_nk (by omega), (hks.2 (N + 320) (by omega)).1]; exact hTe.1, fun k u v => by rw [hmw, gI_ne (by omega), (hks.2 (N + 320 + 1) (by omega)).1]; exact hTe.2 k u v⟩ (hks.1.kept hok (fun c _ _ => hw0 c (by omega))) hok rfl (fun c w => hw0 c (by omega)) (fun c u v => hw0 c (by omega)) (Nat.lt_succ_self _)
  · refine r_bipush B (z := (-10)) dX5_parse_13 (by decide) ?_
    refine r_iload_n B 0 dX5_parse_15 rfl ?_
    refine r_isub B dX5_parse_16 ?_
    exact r_iret B dX5_parse_17 ⟨none, Or.inl ⟨er, hsy, h1, rfl, rfl⟩, hBe, hTe, hOe⟩

set_option maxRecDepth 100000 in
set_option maxHeartbeats 4000000 in
theorem c_X5_digest (l : Launch) (G : Gs) (M : Mem) (N : Nat) (s : Ast) (cn : Int) (sv : Int → Ast) (hG : IsGg G N) (hB : GgIs M N (s, cn, sv)) (hbk : GgOk (s, cn, sv)) (len : Int) (b : Int → Int) (hT : TxB M (N + 320) len b) (htk : TxOk len b) : Ct l G yX5_digest cX5_digest 7 (some .long) rm_X5_digest [.ref N] M (PoL G (Rd (dgS s len cn) M)) 0 0 := by
  refine Ct.of (by decide +kernel) (Nat.le_of_ble_eq_true rfl) [(0, .ref N)] rfl ?_
  intro X B
  have hA : StateIs M (N + 1) s := hB.1
  have hok : StateOk s := hbk.1
  have hs1 := hok.1
  have hs2 := hok.2.1
  have hs3 := hok.2.2.1
  have hs4 := hok.2.2.2.1
  have ht0 := htk.1
  have ht1 := htk.2.1
  have hc0 : 0 ≤ cn := hbk.2.1
  have hc4 : cn ≤ 4 := hbk.2.2.1
  refine r_ldc2 B (z := 2963) dX5_digest_0 q_319 (by decide) ?_
  refine r_aload_n B 0 dX5_digest_3 rfl ?_
  refine rg5_text B hG.1 q_175 dX5_digest_4 ?_
  refine rg4_length B hG.2.2.2.2.2.1.1 q_120 dX5_digest_7 ?_
  refine r_vi (y := len) hT.1 ?_
  refine r_pSl2 B (c_X5_mixed l G M 2963 len ⟨by omega, by omega⟩) ⟨rfl, rfl⟩ ok_X5_mixed q_321 q_320 ⟨Nat.le_of_ble_eq_true rfl, Nat.le_of_ble_eq_true rfl, Nat.le_of_ble_eq_true rfl⟩ ⟨Nat.le_of_ble_eq_true rfl, Nat.le_of_ble_eq_true rfl⟩ dX5_digest_10 ?_
  refine r_lstore_n B (lv' := [(1, .long (lI (31 * 2963 + len))), (0, .ref N)]) dX5_digest_13 (by decide) rfl ?_
  refine r_lload_n B 0 dX5_digest_14 rfl ?_
  refine r_aload_n B 1 dX5_digest_15 rfl ?_
  refine rg5_now B hG.1 q_171 dX5_digest_16 ?_
  refine rg3_gearCount B hG.2.1.1 q_94 dX5_digest_19 ?_
  refine r_vi (y := s.1) hA.1 ?_
  refine r_pSl2 B (c_X5_mixed l G M (31 * 2963 + len) s.1 ⟨by omega, by omega⟩) ⟨rfl, rfl⟩ ok_X5_mixed q_321 q_320 ⟨Nat.le_of_ble_eq_true rfl, Nat.le_of_ble_eq_true rfl, Nat.le_of_ble_eq_true rfl⟩ ⟨Nat.le_of_ble_eq_true rfl, Nat.le_of_ble_eq_true rfl⟩ dX5_digest_22 ?_
  refine r_lstore_n B (lv' := [(1, .long (lI (31 * (31 * 2963 + len) + s.1))), (0, .ref N)]) dX5_digest_25 (by decide) rfl ?_
  refine r_iconst B dX5_digest_26 ?_
  refine r_istore_n B (lv' := [(3, .int (iI 0)), (1, .long (lI (31 * (31 * 2963 + len) + s.1))), (0, .ref N)]) dX5_digest_27 (by decide) rfl ?_
  have lp1 : ∀ (nlp1 : Nat) (i : Int) (h : Int) (hi0 : 0 ≤ i) (hi1 : i ≤ s.1) (hh : h = dgF s i.toNat (31 * (31 * 2963 + len) + s.1)), (s.1 - i).toNat < nlp1 → WM G X 0 0 (bM X (PoL G (Rd (dgS s len cn) M)) 0 0 G) M 28 [(0, .ref N), (1, .long (lI h)), (3, .int (iI i))] [] := by
    intro nlp1
    induction nlp1 with
    | zero => intro i h hi0 hi1 hh hm; omega
    | succ nlp1 ihlp1 =>
      intro i h hi0 hi1 hh hm
      refine r_iload_n B 2 dX5_digest_28 rfl ?_
      refine r_aload_n B 0 dX5_digest_29 rfl ?_
      refine rg5_now B hG.1 q_171 dX5_digest_30 ?_
      refine rg3_gearCount B hG.2.1.1 q_94 dX5_digest_33 ?_
      refine r_vi (y := s.1) hA.1 ?_
      refine r_icmp_ge B dX5_digest_36 rfl ⟨by omega, by omega⟩ ⟨by omega, by omega⟩ (fun h2 => ?_) (fun h2 => ?_)
      · have hi : i = s.1 := by omega
        refine r_lload_n B 1 dX5_digest_198 rfl ?_
        refine r_aload_n B 0 dX5_digest_199 rfl ?_
        refine rg5_now B hG.1 q_171 dX5_digest_200 ?_
        refine rg3_lineCount B hG.2.1.1 q_96 dX5_digest_203 ?_
        refine r_vi (y := s.2.1) hA.2.1 ?_
        refine r_pSl2 B (c_X5_mixed l G M h s.2.1 ⟨by omega, by omega⟩) ⟨rfl, rfl⟩ ok_X5_mixed q_321 q_320 ⟨Nat.le_of_ble_eq_true rfl, Nat.le_of_ble_eq_true rfl, Nat.le_of_ble_eq_true rfl⟩ ⟨Nat.le_of_ble_eq_true rfl, Nat.le_of_ble_eq_true rfl⟩ dX5_digest_206 ?_
        refine r_lstore_n B (lv' := [(1, .long (lI (31 * h + s.2.1))), (0, .ref N), (3, .int (iI i))]) dX5_digest_209 (by decide) rfl ?_
        refine r_iconst B dX5_digest_210 ?_
        refine r_istore_n B (lv' := [(3, .int (iI 0)), (1, .long (lI (31 * h + s.2.1))), (0, .ref N)]) dX5_digest_211 (by decide) rfl ?_
        have lp3 : ∀ (nlp3 : Nat) (j : Int) (dv4 : Int) (hj0 : 0 ≤ j) (hj1 : j ≤ s.2.1) (hj : dv4 = dlF s j.toNat (31 * h + s.2.1)), (s.2.1 - j).toNat < nlp3 → WM G X 0 0 (bM X (PoL G (Rd (dgS s len cn) M)) 0 0 G) M 212 [(0, .ref N), (1, .long (lI dv4)), (3, .int (iI j))] [] := by
          intro nlp3
          induction nlp3 with
          | zero => intro j dv4 hj0 hj1 hj hm; omega
          | succ nlp3 ihlp3 =>
            intro j dv4 hj0 hj1 hj hm
            refine r_iload_n B 2 dX5_digest_212 rfl ?_
            refine r_aload_n B 0 dX5_digest_213 rfl ?_
            refine rg5_now B hG.1 q_171 dX5_digest_214 ?_
            refine rg3_lineCount B hG.2.1.1 q_96 dX5_digest_217 ?_
            refine r_vi (y := s.2.1) hA.2.1 ?_
            refine r_icmp_ge B dX5_digest_220 rfl ⟨by omega, by omega⟩ ⟨by omega, by omega⟩ (fun h4 => ?_) (fun h4 => ?_)
            · refine r_lload_n B 1 dX5_digest_333 rfl ?_
              refine r_aload_n B 0 dX5_digest_334 rfl ?_
              refine rg5_savedCount B hG.1 q_174 dX5_digest_335 ?_
              refine r_vi (y := cn) hB.2.1 ?_
              refine r_pSl2 B (c_X5_mixed l G M dv4 cn ⟨by omega, by omega⟩) ⟨rfl, rfl⟩ ok_X5_mixed q_321 q_320 ⟨Nat.le_of_ble_eq_true rfl, Nat.le_of_ble_eq_true rfl, Nat.le_of_ble_eq_true rfl⟩ ⟨Nat.le_of_ble_eq_true rfl, Nat.le_of_ble_eq_true rfl⟩ dX5_digest_338 ?_
              exact r_lret B dX5_digest_341 ⟨by unfold dgS; rw [hj, hh, show j = s.2.1 by omega, hi], rfl⟩
            · have hlk := hok.2.2.2.2.2 j (by omega) (by omega)
              obtain ⟨⟨hln0, hln1, hlv⟩, hlg0, hlg1, hlk0, hlk1⟩ := id hlk
              refine r_aload_n B 0 dX5_digest_223 rfl ?_
              refine rg5_now B hG.1 q_171 dX5_digest_224 ?_
              refine rg3_lineRow B hG.2.1.1 q_100 dX5_digest_227 ?_
              refine r_iload_n B 2 dX5_digest_230 rfl ?_
              refine r_aaload9 B dX5_digest_231 hG.2.1.2.2.1 (by omega) (by omega) ?_
              refine r_astore B (lv' := [(4, .ref (gP M (N + 1 + 2) j)), (0, .ref N), (1, .long (lI dv4)), (3, .int (iI j))]) dX5_digest_232 (by decide) rfl ?_
              refine r_lload_n B 2 dX5_digest_234 rfl ?_
              refine r_aload B 0 dX5_digest_235 rfl ?_
              refine rg1_gear B (RowL.line hG.2.1 hA.2.2.2.1 (i := j) (by omega) (by omega)).1 q_64 dX5_digest_237 ?_
              refine r_vi (y := (s.2.2.2 j).1) (hA.2.2.2.2.2 j (by omega) (by omega)).1 ?_
              refine r_pSl2 B (c_X5_mixed l G M dv4 ((s.2.2.2 j).1) ⟨by omega, by omega⟩) ⟨rfl, rfl⟩ ok_X5_mixed q_321 q_320 ⟨Nat.le_of_ble_eq_true rfl, Nat.le_of_ble_eq_true rfl, Nat.le_of_ble_eq_true rfl⟩ ⟨Nat.le_of_ble_eq_true rfl, Nat.le_of_ble_eq_true rfl⟩ dX5_digest_240 ?_
              refine r_aload B 0 dX5_digest_243 rfl ?_
              refine rg1_kind B (RowL.line hG.2.1 hA.2.2.2.1 (i := j) (by omega) (by omega)).1 q_67 dX5_digest_245 ?_
              refine r_vi (y := (s.2.2.2 j).2.1) (hA.2.2.2.2.2 j (by omega) (by omega)).2.1 ?_
              refine r_pSl2 B (c_X5_mixed l G M (31 * dv4 + ((s.2.2.2 j).1)) ((s.2.2.2 j).2.1) ⟨by omega, by omega⟩) ⟨rfl, rfl⟩ ok_X5_mixed q_321 q_320 ⟨Nat.le_of_ble_eq_true rfl, Nat.le_of_ble_eq_true rfl, Nat.le_of_ble_eq_true rfl⟩ ⟨Nat.le_of_ble_eq_true rfl, Nat.le_of_ble_eq_true rfl⟩ dX5_digest_248 ?_
              refine r_aload B 0 dX5_digest_251 rfl ?_
              refine rg1_count B (RowL.line hG.2.1 hA.2.2.2.1 (i := j) (by omega) (by omega)).1 q_69 dX5_digest_253 ?_
              refine r_vi (y := (s.2.2.2 j).2.2.1) (hA.2.2.2.2.2 j (by omega) (by omega)).2.2.1 ?_
              refine r_pSl2 B (c_X5_mixed l G M (31 * (31 * dv4 + ((s.2.2.2 j).1)) + ((s.2.2.2 j).2.1)) ((s.2.2.2 j).2.2.1) ⟨by omega, by omega⟩) ⟨rfl, rfl⟩ ok_X5_mixed q_321 q_320 ⟨Nat.le_of_ble_eq_true rfl, Nat.le_of_ble_eq_true rfl, Nat.le_of_ble_eq_true rfl⟩ ⟨Nat.le_of_ble_eq_true rfl, Nat.le_of_ble_eq_true rfl⟩ dX5_digest_256 ?_
              refine r_lstore_n B (lv' := [(1, .long (lI (31 * (31 * (31 * dv4 + ((s.2.2.2 j).1)) + ((s.2.2.2 j).2.1)) + ((s.2.2.2 j).2.2.1)))), (4, .ref (gP M (N + 1 + 2) j)), (0, .ref N), (3, .int (iI j))]) dX5_digest_259 (by decide) rfl ?_
              refine r_iconst B dX5_digest_260 ?_
              refine r_istore B (lv' := [(5, .int (iI 0)), (1, .long (lI (31 * (31 * (31 * dv4 + ((s.2.2.2 j).1)) + ((s.2.2.2 j).2.1)) + ((s.2.2.2 j).2.2.1)))), (4, .ref (gP M (N + 1 + 2) j)), (0, .ref N), (3, .int (iI j))]) dX5_digest_261 (by decide) rfl ?_
              have lp5 : ∀ (nlp5 : Nat) (k : Int) (dv5 : Int) (hk0 : 0 ≤ k) (hk1 : k ≤ (s.2.2.2 j).2.2.1) (hk2 : dv5 = mfF (s.2.2.2 j).2.2.2 k.toNat (31 * (31 * (31 * dv4 + (s.2.2.2 j).1) + (s.2.2.2 j).2.1) + (s.2.2.2 j).2.2.1)), ((s.2.2.2 j).2.2.1 - k).toNat < nlp5 → WM G X 0 0 (bM X (PoL G (Rd (dgS s len cn) M)) 0 0 G) M 263 [(0, .ref N), (1, .long (lI dv5)), (3, .int (iI j)), (4, .ref (gP M (N + 1 + 2) j)), (5, .int (iI k))] [] := by
                intro nlp5
                induction nlp5 with
                | zero => intro k dv5 hk0 hk1 hk2 hm; omega
                | succ nlp5 ihlp5 =>
                  intro k dv5 hk0 hk1 hk2 hm
                  have hlvk := hlv k
                  refine r_iload B 4 dX5_digest_263 rfl ?_
                  refine r_aload B 3 dX5_digest_265 rfl ?_
                  refine rg1_count B (RowL.line hG.2.1 hA.2.2.2.1 (i := j) (by omega) (by omega)).1 q_69 dX5_digest_267 ?_
                  refine r_vi (y := (s.2.2.2 j).2.2.1) (hA.2.2.2.2.2 j (by omega) (by omega)).2.2.1 ?_
                  refine r_icmp_ge B dX5_digest_270 rfl ⟨by omega, by omega⟩ ⟨by omega, by omega⟩ (fun h6 => ?_) (fun h6 => ?_)
                  · refine r_iconst B dX5_digest_292 ?_
                    refine r_istore B (lv' := [(5, .int (iI 0)), (0, .ref N), (1, .long (lI dv5)), (3, .int (iI j)), (4, .ref (gP M (N + 1 + 2) j))]) dX5_digest_293 (by decide) rfl ?_
                    have lp7 : ∀ (nlp7 : Nat) (u : Int) (dv6 : Int) (hu0 : 0 ≤ u) (hu1 : u ≤ 3) (hu2 : u = 0 ∨ 3 ≤ (s.2.2.2 j).2.2.1) (hu : dv6 = mfF (ldS (s.2.2.2 j).2.2.2 (s.2.2.2 j).2.2.1) u.toNat dv5), (3 - u).toNat < nlp7 → WM G X 0 0 (bM X (PoL G (Rd (dgS s len cn) M)) 0 0 G) M 295 [(0, .ref N), (1, .long (lI dv6)), (3, .int (iI j)), (4, .ref (gP M (N + 1 + 2) j)), (5, .int (iI u))] [] := by
                      intro nlp7
                      induction nlp7 with
                      | zero => intro u dv6 hu0 hu1 hu2 hu hm; omega
                      | succ nlp7 ihlp7 =>
                        intro u dv6 hu0 hu1 hu2 hu hm
                        have hms : (3 ≤ (s.2.2.2 j).2.2.1 ∧ msS (s.2.2.2 j).2.2.1 = 1) ∨ (¬ 3 ≤ (s.2.2.2 j).2.2.1 ∧ msS (s.2.2.2 j).2.2.1 = 0) := by unfold msS; split; exact Or.inl ⟨by omega, rfl⟩; exact Or.inr ⟨by omega, rfl⟩
                        refine r_aload B 3 dX5_digest_295 rfl ?_
                        refine r_pVz0 B (c_X1_isMeasured l G M (gP M (N + 1 + 2) j) (s.2.2.2 j).1 (s.2.2.2 j).2.1 (s.2.2.2 j).2.2.1 (s.2.2.2 j).2.2.2 (RowL.line hG.2.1 hA.2.2.2.1 (i := j) (by omega) (by omega)) (hA.2.2.2.2.2 j (by omega) (by omega)) (hok.2.2.2.2.2 j (by omega) (by omega)).1  ) ⟨rfl, rfl⟩ ok_X1_isMeasured vi_X1_isMeasured q_430 (RowL.line hG.2.1 hA.2.2.2.1 (i := j) (by omega) (by omega)).1 rfl (fun _ => rfl) ⟨Nat.le_of_ble_eq_true rfl, Nat.le_of_ble_eq_true rfl, Nat.le_of_ble_eq_true rfl⟩ ⟨Nat.le_of_ble_eq_true rfl, Nat.le_of_ble_eq_true rfl⟩ dX5_digest_297 ?_
                        refine r_if_eq B dX5_digest_300 rfl ⟨by omega, by omega⟩ (fun h8 => ?_) (fun h8 => ?_)
                        · refine r_iinc B (lv' := [(3, .int (iI (j + 1))), (0, .ref N), (1, .long (lI dv6)), (4, .ref (gP M (N + 1 + 2) j)), (5, .int (iI u))]) dX5_digest_327 (j := 2) rfl (by decide) rfl ?_
                          refine r_goto B dX5_digest_330 rfl ?_
                          refine WM.pick [1, 2, 0] rfl ?_
                          exact ihlp3 (j + 1) _ (by omega) (by omega) (by rw [dlF_s _ _ hj0, hu, hk2, show k = (s.2.2.2 j).2.2.1 by omega]; unfold dgL; rw [if_neg (by omega), show u = 0 by omega, hj]; rfl) (by omega)
                        · have h3 : 3 ≤ (s.2.2.2 j).2.2.1 := by omega
                          refine r_iload B 4 dX5_digest_303 rfl ?_
                          refine r_iconst B dX5_digest_305 ?_
                          refine r_icmp_ge B dX5_digest_306 rfl ⟨by omega, by omega⟩ ⟨by omega, by omega⟩ (fun h9 => ?_) (fun h9 => ?_)
                          · refine r_iinc B (lv' := [(3, .int (iI (j + 1))), (0, .ref N), (1, .long (lI dv6)), (4, .ref (gP M (N + 1 + 2) j)), (5, .int (iI u))]) dX5_digest_327 (j := 2) rfl (by decide) rfl ?_
                            refine r_goto B dX5_digest_330 rfl ?_
                            refine WM.pick [1, 2, 0] rfl ?_
                            exact ihlp3 (j + 1) _ (by omega) (by omega) (by rw [dlF_s _ _ hj0, hu, hk2, show k = (s.2.2.2 j).2.2.1 by omega]; unfold dgL; rw [if_pos h3, show u = 3 by omega, hj]; rfl) (by omega)
                          · have hld := ldS_in (what := u) hlk.1 (by omega)
                            refine r_lload_n B 1 dX5_digest_309 rfl ?_
                            refine r_aload B 3 dX5_digest_310 rfl ?_
                            refine r_iload B 4 dX5_digest_312 rfl ?_
                            refine r_pVi1 B (c_X1_deviationOf l G M (gP M (N + 1 + 2) j) (s.2.2.2 j).1 (s.2.2.2 j).2.1 (s.2.2.2 j).2.2.1 (s.2.2.2 j).2.2.2 (RowL.line hG.2.1 hA.2.2.2.1 (i := j) (by omega) (by omega)) (hA.2.2.2.2.2 j (by omega) (by omega)) (hok.2.2.2.2.2 j (by omega) (by omega)).1 u (by omega) (by omega) (by omega)) ⟨rfl, rfl⟩ ok_X1_deviationOf vi_X1_deviationOf q_431 (RowL.line hG.2.1 hA.2.2.2.1 (i := j) (by omega) (by omega)).1 rfl (fun _ => rfl) ⟨Nat.le_of_ble_eq_true rfl, Nat.le_of_ble_eq_true rfl, Nat.le_of_ble_eq_true rfl⟩ ⟨Nat.le_of_ble_eq_true rfl, Nat.le_of_ble_eq_true rfl⟩ dX5_digest_314 ?_
                            refine r_pSl2 B (c_X5_mixed l G M dv6 (ldS ((s.2.2.2 j).2.2.2) ((s.2.2.2 j).2.2.1) u) ⟨by omega, by omega⟩) ⟨rfl, rfl⟩ ok_X5_mixed q_321 q_320 ⟨Nat.le_of_ble_eq_true rfl, Nat.le_of_ble_eq_true rfl, Nat.le_of_ble_eq_true rfl⟩ ⟨Nat.le_of_ble_eq_true rfl, Nat.le_of_ble_eq_true rfl⟩ dX5_digest_317 ?_
                            refine r_lstore_n B (lv' := [(1, .long (lI (31 * dv6 + (ldS ((s.2.2.2 j).2.2.2) ((s.2.2.2 j).2.2.1) u)))), (0, .ref N), (3, .int (iI j)), (4, .ref (gP M (N + 1 + 2) j)), (5, .int (iI u))]) dX5_digest_320 (by decide) rfl ?_
                            refine r_iinc B (lv' := [(5, .int (iI (u + 1))), (1, .long (lI (31 * dv6 + (ldS ((s.2.2.2 j).2.2.2) ((s.2.2.2 j).2.2.1) u)))), (0, .ref N), (3, .int (iI j)), (4, .ref (gP M (N + 1 + 2) j))]) dX5_digest_321 (j := 4) rfl (by decide) rfl ?_
                            refine r_goto B dX5_digest_324 rfl ?_
                            refine WM.pick [2, 1, 3, 4, 0] rfl ?_
                            exact ihlp7 (u + 1) _ (by omega) (by omega) (by omega) (by rw [mfF_s _ _ hu0, ← hu]) (by omega)
                    refine WM.pick [1, 2, 3, 4, 0] rfl ?_
                    exact lp7 _ 0 _ (by omega) (by omega) (Or.inl rfl) rfl (Nat.lt_succ_self _)
                  · refine r_lload_n B 1 dX5_digest_273 rfl ?_
                    refine r_aload B 3 dX5_digest_274 rfl ?_
                    refine rg1_points B (RowL.line hG.2.1 hA.2.2.2.1 (i := j) (by omega) (by omega)).1 q_75 dX5_digest_276 ?_
                    refine r_iload B 4 dX5_digest_279 rfl ?_
                    refine r_iaload B dX5_digest_281 (RowL.line hG.2.1 hA.2.2.2.1 (i := j) (by omega) (by omega)).2 (by omega) (by omega) ?_
                    refine r_vi (y := (s.2.2.2 j).2.2.2 k) ((hA.2.2.2.2.2 j (by omega) (by omega)).2.2.2.2.2.2.2 k (by omega) (by omega)) ?_
                    refine r_pSl2 B (c_X5_mixed l G M dv5 ((s.2.2.2 j).2.2.2 k) ⟨by omega, by omega⟩) ⟨rfl, rfl⟩ ok_X5_mixed q_321 q_320 ⟨Nat.le_of_ble_eq_true rfl, Nat.le_of_ble_eq_true rfl, Nat.le_of_ble_eq_true rfl⟩ ⟨Nat.le_of_ble_eq_true rfl, Nat.le_of_ble_eq_true rfl⟩ dX5_digest_282 ?_
                    refine r_lstore_n B (lv' := [(1, .long (lI (31 * dv5 + ((s.2.2.2 j).2.2.2 k)))), (0, .ref N), (3, .int (iI j)), (4, .ref (gP M (N + 1 + 2) j)), (5, .int (iI k))]) dX5_digest_285 (by decide) rfl ?_
                    refine r_iinc B (lv' := [(5, .int (iI (k + 1))), (1, .long (lI (31 * dv5 + ((s.2.2.2 j).2.2.2 k)))), (0, .ref N), (3, .int (iI j)), (4, .ref (gP M (N + 1 + 2) j))]) dX5_digest_286 (j := 4) rfl (by decide) rfl ?_
                    refine r_goto B dX5_digest_289 rfl ?_
                    refine WM.pick [2, 1, 3, 4, 0] rfl ?_
                    exact ihlp5 (k + 1) _ (by omega) (by omega) (by rw [mfF_s _ _ hk0, ← hk2]) (by omega)
              refine WM.pick [3, 1, 4, 2, 0] rfl ?_
              exact lp5 _ 0 _ (by omega) (by omega) rfl (Nat.lt_succ_self _)
        refine WM.pick [2, 1, 0] rfl ?_
        exact lp3 _ 0 _ (by omega) (by omega) rfl (Nat.lt_succ_self _)
      · have hgk := hok.2.2.2.2.1 i (by omega) (by omega)
        obtain ⟨hgk1, hgk2, hgk3, hgk4, hgk5⟩ := id hgk
        have hlo := cnF_in s i s.2.1.toNat
        have hcg := cgS_in s i
        have hrd0z := hgk5 0 ((s.2.2.1 i).1) (by omega) (by omega) (by omega) (by unfold szS; rw [if_neg (by omega)]; omega)
        have hrd00 := hgk5 0 (0) (by omega) (by omega) (by omega) (by unfold szS; rw [if_neg (by omega)]; omega)
        have hrd1z := hgk5 1 ((s.2.2.1 i).1) (by omega) (by omega) (by omega) (by unfold szS; rw [if_neg (by omega)]; omega)
        have hrd10 := hgk5 1 (0) (by omega) (by omega) (by omega) (by unfold szS; rw [if_neg (by omega)]; omega)
        refine r_aload_n B 0 dX5_digest_39 rfl ?_
        refine rg5_now B hG.1 q_171 dX5_digest_40 ?_
        refine rg3_gearRow B hG.2.1.1 q_98 dX5_digest_43 ?_
        refine r_iload_n B 2 dX5_digest_46 rfl ?_
        refine r_aaload8 B dX5_digest_47 hG.2.1.2.1 (by omega) (by omega) ?_
        refine r_astore B (lv' := [(4, .ref (gP M (N + 1 + 1) i)), (0, .ref N), (1, .long (lI h)), (3, .int (iI i))]) dX5_digest_48 (by decide) rfl ?_
        refine r_lload_n B 2 dX5_digest_50 rfl ?_
        refine r_aload B 0 dX5_digest_51 rfl ?_
        refine rg0_teeth B (RowG.gear hG.2.1 hA.2.2.1 (i := i) (by omega) (by omega)).1 q_43 dX5_digest_53 ?_
        refine r_vi (y := (s.2.2.1 i).1) (hA.2.2.2.2.1 i (by omega) (by omega)).1 ?_
        refine r_pSl2 B (c_X5_mixed l G M h ((s.2.2.1 i).1) ⟨by omega, by omega⟩) ⟨rfl, rfl⟩ ok_X5_mixed q_321 q_320 ⟨Nat.le_of_ble_eq_true rfl, Nat.le_of_ble_eq_true rfl, Nat.le_of_ble_eq_true rfl⟩ ⟨Nat.le_of_ble_eq_true rfl, Nat.le_of_ble_eq_true rfl⟩ dX5_digest_56 ?_
        refine r_aload B 0 dX5_digest_59 rfl ?_
        refine rg0_module B (RowG.gear hG.2.1 hA.2.2.1 (i := i) (by omega) (by omega)).1 q_45 dX5_digest_61 ?_
        refine r_vi (y := (s.2.2.1 i).2.1) (hA.2.2.2.2.1 i (by omega) (by omega)).2.1 ?_
        refine r_pSl2 B (c_X5_mixed l G M (31 * h + ((s.2.2.1 i).1)) ((s.2.2.1 i).2.1) ⟨by omega, by omega⟩) ⟨rfl, rfl⟩ ok_X5_mixed q_321 q_320 ⟨Nat.le_of_ble_eq_true rfl, Nat.le_of_ble_eq_true rfl, Nat.le_of_ble_eq_true rfl⟩ ⟨Nat.le_of_ble_eq_true rfl, Nat.le_of_ble_eq_true rfl⟩ dX5_digest_64 ?_
        refine r_lstore_n B (lv' := [(1, .long (lI (31 * (31 * h + ((s.2.2.1 i).1)) + ((s.2.2.1 i).2.1)))), (4, .ref (gP M (N + 1 + 1) i)), (0, .ref N), (3, .int (iI i))]) dX5_digest_67 (by decide) rfl ?_
        refine r_lload_n B 0 dX5_digest_68 rfl ?_
        refine r_aload_n B 2 dX5_digest_69 rfl ?_
        refine rg5_now B hG.1 q_171 dX5_digest_70 ?_
        refine r_iload_n B 3 dX5_digest_73 rfl ?_
        refine r_pVi1 B (c_X3_linesOf l G M (N + 1) s hG.2.1 hA hok i (by omega) (by omega)) ⟨rfl, rfl⟩ ok_X3_linesOf vi_X3_linesOf q_324 hG.2.1.1 rfl (fun _ => rfl) ⟨Nat.le_of_ble_eq_true rfl, Nat.le_of_ble_eq_true rfl, Nat.le_of_ble_eq_true rfl⟩ ⟨Nat.le_of_ble_eq_true rfl, Nat.le_of_ble_eq_true rfl⟩ dX5_digest_74 ?_
        refine r_pSl2 B (c_X5_mixed l G M (31 * (31 * h + ((s.2.2.1 i).1)) + ((s.2.2.1 i).2.1)) (cnF s i s.2.1.toNat) ⟨by omega, by omega⟩) ⟨rfl, rfl⟩ ok_X5_mixed q_321 q_320 ⟨Nat.le_of_ble_eq_true rfl, Nat.le_of_ble_eq_true rfl, Nat.le_of_ble_eq_true rfl⟩ ⟨Nat.le_of_ble_eq_true rfl, Nat.le_of_ble_eq_true rfl⟩ dX5_digest_77 ?_
        refine r_aload_n B 2 dX5_digest_80 rfl ?_
        refine r_iload_n B 3 dX5_digest_81 rfl ?_
        refine r_pVi1 B (c_X5_classOfGear l G M N s hG hA hok i (by omega) (by omega)) ⟨rfl, rfl⟩ ok_X5_classOfGear vi_X5_classOfGear q_328 hG.1 rfl (fun _ => rfl) ⟨Nat.le_of_ble_eq_true rfl, Nat.le_of_ble_eq_true rfl, Nat.le_of_ble_eq_true rfl⟩ ⟨Nat.le_of_ble_eq_true rfl, Nat.le_of_ble_eq_true rfl⟩ dX5_digest_82 ?_
        refine r_pSl2 B (c_X5_mixed l G M (31 * (31 * (31 * h + ((s.2.2.1 i).1)) + ((s.2.2.1 i).2.1)) + (cnF s i s.2.1.toNat)) (cgS s i) ⟨by omega, by omega⟩) ⟨rfl, rfl⟩ ok_X5_mixed q_321 q_320 ⟨Nat.le_of_ble_eq_true rfl, Nat.le_of_ble_eq_true rfl, Nat.le_of_ble_eq_true rfl⟩ ⟨Nat.le_of_ble_eq_true rfl, Nat.le_of_ble_eq_true rfl⟩ dX5_digest_85 ?_
        refine r_lstore_n B (lv' := [(1, .long (lI (31 * (31 * (31 * (31 * h + ((s.2.2.1 i).1)) + ((s.2.2.1 i).2.1)) + (cnF s i s.2.1.toNat)) + (cgS s i)))), (4, .ref (gP M (N + 1 + 1) i)), (0, .ref N), (3, .int (iI i))]) dX5_digest_88 (by decide) rfl ?_
        refine r_lload_n B 0 dX5_digest_89 rfl ?_
        refine r_aload B 1 dX5_digest_90 rfl ?_
        refine r_iconst B dX5_digest_92 ?_
        refine r_pVi1 B (c_X0_closingError l G M (gP M (N + 1 + 1) i) (s.2.2.1 i).1 (s.2.2.1 i).2.1 (s.2.2.1 i).2.2 (RowG.gear hG.2.1 hA.2.2.1 (i := i) (by omega) (by omega)) (hA.2.2.2.2.1 i (by omega) (by omega)) (hok.2.2.2.2.1 i (by omega) (by omega)) 0 (by omega) (by omega)) ⟨rfl, rfl⟩ ok_X0_closingError vi_X0_closingError q_428 (RowG.gear hG.2.1 hA.2.2.1 (i := i) (by omega) (by omega)).1 rfl (fun _ => rfl) ⟨Nat.le_of_ble_eq_true rfl, Nat.le_of_ble_eq_true rfl, Nat.le_of_ble_eq_true rfl⟩ ⟨Nat.le_of_ble_eq_true rfl, Nat.le_of_ble_eq_true rfl⟩ dX5_digest_93 ?_
        refine r_pSl2 B (c_X5_mixed l G M (31 * (31 * (31 * (31 * h + ((s.2.2.1 i).1)) + ((s.2.2.1 i).2.1)) + (cnF s i s.2.1.toNat)) + (cgS s i)) ((s.2.2.1 i).2.2 0 (s.2.2.1 i).1 - (s.2.2.1 i).2.2 0 0) ⟨by omega, by omega⟩) ⟨rfl, rfl⟩ ok_X5_mixed q_321 q_320 ⟨Nat.le_of_ble_eq_true rfl, Nat.le_of_ble_eq_true rfl, Nat.le_of_ble_eq_true rfl⟩ ⟨Nat.le_of_ble_eq_true rfl, Nat.le_of_ble_eq_true rfl⟩ dX5_digest_96 ?_
        refine r_aload B 1 dX5_digest_99 rfl ?_
        refine r_iconst B dX5_digest_101 ?_
        refine r_pVi1 B (c_X0_closingError l G M (gP M (N + 1 + 1) i) (s.2.2.1 i).1 (s.2.2.1 i).2.1 (s.2.2.1 i).2.2 (RowG.gear hG.2.1 hA.2.2.1 (i := i) (by omega) (by omega)) (hA.2.2.2.2.1 i (by omega) (by omega)) (hok.2.2.2.2.1 i (by omega) (by omega)) 1 (by omega) (by omega)) ⟨rfl, rfl⟩ ok_X0_closingError vi_X0_closingError q_428 (RowG.gear hG.2.1 hA.2.2.1 (i := i) (by omega) (by omega)).1 rfl (fun _ => rfl) ⟨Nat.le_of_ble_eq_true rfl, Nat.le_of_ble_eq_true rfl, Nat.le_of_ble_eq_true rfl⟩ ⟨Nat.le_of_ble_eq_true rfl, Nat.le_of_ble_eq_true rfl⟩ dX5_digest_102 ?_
        refine r_pSl2 B (c_X5_mixed l G M (31 * (31 * (31 * (31 * (31 * h + ((s.2.2.1 i).1)) + ((s.2.2.1 i).2.1)) + (cnF s i s.2.1.toNat)) + (cgS s i)) + ((s.2.2.1 i).2.2 0 (s.2.2.1 i).1 - (s.2.2.1 i).2.2 0 0)) ((s.2.2.1 i).2.2 1 (s.2.2.1 i).1 - (s.2.2.1 i).2.2 1 0) ⟨by omega, by omega⟩) ⟨rfl, rfl⟩ ok_X5_mixed q_321 q_320 ⟨Nat.le_of_ble_eq_true rfl, Nat.le_of_ble_eq_true rfl, Nat.le_of_ble_eq_true rfl⟩ ⟨Nat.le_of_ble_eq_true rfl, Nat.le_of_ble_eq_true rfl⟩ dX5_digest_105 ?_
        refine r_lstore_n B (lv' := [(1, .long (lI (31 * (31 * (31 * (31 * (31 * (31 * h + ((s.2.2.1 i).1)) + ((s.2.2.1 i).2.1)) + (cnF s i s.2.1.toNat)) + (cgS s i)) + ((s.2.2.1 i).2.2 0 (s.2.2.1 i).1 - (s.2.2.1 i).2.2 0 0)) + ((s.2.2.1 i).2.2 1 (s.2.2.1 i).1 - (s.2.2.1 i).2.2 1 0)))), (4, .ref (gP M (N + 1 + 1) i)), (0, .ref N), (3, .int (iI i))]) dX5_digest_108 (by decide) rfl ?_
        refine r_iconst B dX5_digest_109 ?_
        refine r_istore B (lv' := [(5, .int (iI 0)), (1, .long (lI (31 * (31 * (31 * (31 * (31 * (31 * h + ((s.2.2.1 i).1)) + ((s.2.2.1 i).2.1)) + (cnF s i s.2.1.toNat)) + (cgS s i)) + ((s.2.2.1 i).2.2 0 (s.2.2.1 i).1 - (s.2.2.1 i).2.2 0 0)) + ((s.2.2.1 i).2.2 1 (s.2.2.1 i).1 - (s.2.2.1 i).2.2 1 0)))), (4, .ref (gP M (N + 1 + 1) i)), (0, .ref N), (3, .int (iI i))]) dX5_digest_110 (by decide) rfl ?_
        have lp10 : ∀ (nlp10 : Nat) (w : Int) (dv1 : Int) (hw0 : 0 ≤ w) (hw1 : w ≤ 3) (hw : dv1 = dgR s i w.toNat (mfF (tdS s i) 6 h)), (3 - w).toNat < nlp10 → WM G X 0 0 (bM X (PoL G (Rd (dgS s len cn) M)) 0 0 G) M 112 [(0, .ref N), (1, .long (lI dv1)), (3, .int (iI i)), (4, .ref (gP M (N + 1 + 1) i)), (5, .int (iI w))] [] := by
          intro nlp10
          induction nlp10 with
          | zero => intro w dv1 hw0 hw1 hw hm; omega
          | succ nlp10 ihlp10 =>
            intro w dv1 hw0 hw1 hw hm
            have hsz := szS_le (s.2.2.1 i).1 w
            refine r_iload B 4 dX5_digest_112 rfl ?_
            refine r_iconst B dX5_digest_114 ?_
            refine r_icmp_ge B dX5_digest_115 rfl ⟨by omega, by omega⟩ ⟨by omega, by omega⟩ (fun h11 => ?_) (fun h11 => ?_)
            · refine r_iconst B dX5_digest_161 ?_
              refine r_istore B (lv' := [(5, .int (iI 0)), (0, .ref N), (1, .long (lI dv1)), (3, .int (iI i)), (4, .ref (gP M (N + 1 + 1) i))]) dX5_digest_162 (by decide) rfl ?_
              have lp12 : ∀ (nlp12 : Nat) (v : Int) (dv3 : Int) (hv0 : 0 ≤ v) (hv1 : v ≤ 9) (hv : dv3 = mfF (dvS s i) v.toNat dv1), (9 - v).toNat < nlp12 → WM G X 0 0 (bM X (PoL G (Rd (dgS s len cn) M)) 0 0 G) M 164 [(0, .ref N), (1, .long (lI dv3)), (3, .int (iI i)), (4, .ref (gP M (N + 1 + 1) i)), (5, .int (iI v))] [] := by
                intro nlp12
                induction nlp12 with
                | zero => intro v dv3 hv0 hv1 hv hm; omega
                | succ nlp12 ihlp12 =>
                  intro v dv3 hv0 hv1 hv hm
                  have hdv := dvS_in hok (g := i) (w := v) (by omega) (by omega)
                  refine r_iload B 4 dX5_digest_164 rfl ?_
                  refine r_bipush B (z := 9) dX5_digest_166 (by decide) ?_
                  refine r_icmp_ge B dX5_digest_168 rfl ⟨by omega, by omega⟩ ⟨by omega, by omega⟩ (fun h13 => ?_) (fun h13 => ?_)
                  · refine r_iinc B (lv' := [(3, .int (iI (i + 1))), (0, .ref N), (1, .long (lI dv3)), (4, .ref (gP M (N + 1 + 1) i)), (5, .int (iI v))]) dX5_digest_192 (j := 2) rfl (by decide) rfl ?_
                    refine r_goto B dX5_digest_195 rfl ?_
                    refine WM.pick [1, 2, 0] rfl ?_
                    exact ihlp1 (i + 1) _ (by omega) (by omega) (by rw [dgF_s _ _ hi0, hv, show v = 9 by omega, hw, show w = 3 by omega, hh]; rfl) (by omega)
                  · refine r_lload_n B 1 dX5_digest_171 rfl ?_
                    refine r_aload_n B 0 dX5_digest_172 rfl ?_
                    refine rg5_now B hG.1 q_171 dX5_digest_173 ?_
                    refine r_iload_n B 2 dX5_digest_176 rfl ?_
                    refine r_iload B 4 dX5_digest_177 rfl ?_
                    refine r_pVi2 B (c_X3_deviationOf l G M (N + 1) s hG.2.1 hA hok i v (by omega) (by omega) (by omega) (by omega)) ⟨rfl, rfl⟩ ok_X3_deviationOf vi_X3_deviationOf q_338 hG.2.1.1 rfl (fun _ => rfl) ⟨Nat.le_of_ble_eq_true rfl, Nat.le_of_ble_eq_true rfl, Nat.le_of_ble_eq_true rfl⟩ ⟨Nat.le_of_ble_eq_true rfl, Nat.le_of_ble_eq_true rfl⟩ dX5_digest_179 ?_
                    refine r_pSl2 B (c_X5_mixed l G M dv3 (dvS s i v) ⟨by omega, by omega⟩) ⟨rfl, rfl⟩ ok_X5_mixed q_321 q_320 ⟨Nat.le_of_ble_eq_true rfl, Nat.le_of_ble_eq_true rfl, Nat.le_of_ble_eq_true rfl⟩ ⟨Nat.le_of_ble_eq_true rfl, Nat.le_of_ble_eq_true rfl⟩ dX5_digest_182 ?_
                    refine r_lstore_n B (lv' := [(1, .long (lI (31 * dv3 + (dvS s i v)))), (0, .ref N), (3, .int (iI i)), (4, .ref (gP M (N + 1 + 1) i)), (5, .int (iI v))]) dX5_digest_185 (by decide) rfl ?_
                    refine r_iinc B (lv' := [(5, .int (iI (v + 1))), (1, .long (lI (31 * dv3 + (dvS s i v)))), (0, .ref N), (3, .int (iI i)), (4, .ref (gP M (N + 1 + 1) i))]) dX5_digest_186 (j := 4) rfl (by decide) rfl ?_
                    refine r_goto B dX5_digest_189 rfl ?_
                    refine WM.pick [2, 1, 3, 4, 0] rfl ?_
                    exact ihlp12 (v + 1) _ (by omega) (by omega) (by rw [mfF_s _ _ hv0, ← hv]) (by omega)
              refine WM.pick [1, 2, 3, 4, 0] rfl ?_
              exact lp12 _ 0 _ (by omega) (by omega) rfl (Nat.lt_succ_self _)
            · refine r_iconst B dX5_digest_118 ?_
              refine r_istore B (lv' := [(6, .int (iI 0)), (0, .ref N), (1, .long (lI dv1)), (3, .int (iI i)), (4, .ref (gP M (N + 1 + 1) i)), (5, .int (iI w))]) dX5_digest_119 (by decide) rfl ?_
              have lp14 : ∀ (nlp14 : Nat) (k : Int) (dv2 : Int) (hk0 : 0 ≤ k) (hk1 : k ≤ szS (s.2.2.1 i).1 w) (hk : dv2 = mfF ((s.2.2.1 i).2.2 w) k.toNat dv1), (szS (s.2.2.1 i).1 w - k).toNat < nlp14 → WM G X 0 0 (bM X (PoL G (Rd (dgS s len cn) M)) 0 0 G) M 121 [(0, .ref N), (1, .long (lI dv2)), (3, .int (iI i)), (4, .ref (gP M (N + 1 + 1) i)), (5, .int (iI w)), (6, .int (iI k))] [] := by
                intro nlp14
                induction nlp14 with
                | zero => intro k dv2 hk0 hk1 hk hm; omega
                | succ nlp14 ihlp14 =>
                  intro k dv2 hk0 hk1 hk hm
                  have hrdv := hgk5 w k
                  refine r_iload B 5 dX5_digest_121 rfl ?_
                  refine r_aload B 3 dX5_digest_123 rfl ?_
                  refine r_iload B 4 dX5_digest_125 rfl ?_
                  refine r_pVi1 B (c_X0_sizeOf l G M (gP M (N + 1 + 1) i) (s.2.2.1 i).1 (RowG.gear hG.2.1 hA.2.2.1 (i := i) (by omega) (by omega)) (hA.2.2.2.2.1 i (by omega) (by omega)).1 w (by omega) (by omega)) ⟨rfl, rfl⟩ ok_X0_sizeOf vi_X0_sizeOf q_429 (RowG.gear hG.2.1 hA.2.2.1 (i := i) (by omega) (by omega)).1 rfl (fun _ => rfl) ⟨Nat.le_of_ble_eq_true rfl, Nat.le_of_ble_eq_true rfl, Nat.le_of_ble_eq_true rfl⟩ ⟨Nat.le_of_ble_eq_true rfl, Nat.le_of_ble_eq_true rfl⟩ dX5_digest_127 ?_
                  refine r_icmp_ge B dX5_digest_130 rfl ⟨by omega, by omega⟩ ⟨by omega, by omega⟩ (fun h15 => ?_) (fun h15 => ?_)
                  · refine r_iinc B (lv' := [(5, .int (iI (w + 1))), (0, .ref N), (1, .long (lI dv2)), (3, .int (iI i)), (4, .ref (gP M (N + 1 + 1) i)), (6, .int (iI k))]) dX5_digest_155 (j := 4) rfl (by decide) rfl ?_
                    refine r_goto B dX5_digest_158 rfl ?_
                    refine WM.pick [1, 2, 3, 4, 0] rfl ?_
                    exact ihlp10 (w + 1) _ (by omega) (by omega) (by rw [dgR_s _ _ _ hw0, ← hw, hk, show k = szS (s.2.2.1 i).1 w by omega]) (by omega)
                  · refine r_lload_n B 1 dX5_digest_133 rfl ?_
                    refine r_aload B 3 dX5_digest_134 rfl ?_
                    refine rg0_readings B (RowG.gear hG.2.1 hA.2.2.1 (i := i) (by omega) (by omega)).1 q_47 dX5_digest_136 ?_
                    refine r_iload B 4 dX5_digest_139 rfl ?_
                    refine r_aaload11 B dX5_digest_141 (RowG.gear hG.2.1 hA.2.2.1 (i := i) (by omega) (by omega)).2.1 (by omega) (by omega) ?_
                    refine r_iload B 5 dX5_digest_142 rfl ?_
                    refine r_iaload B dX5_digest_144 ((RowG.gear hG.2.1 hA.2.2.1 (i := i) (by omega) (by omega)).row (s := w) (by omega) (by omega)) (by omega) (by omega) ?_
                    refine r_vi (y := (s.2.2.1 i).2.2 w k) ((hA.2.2.2.2.1 i (by omega) (by omega)).2.2 w k (by omega) (by omega) (by omega) (by omega)) ?_
                    refine r_pSl2 B (c_X5_mixed l G M dv2 ((s.2.2.1 i).2.2 w k) ⟨by omega, by omega⟩) ⟨rfl, rfl⟩ ok_X5_mixed q_321 q_320 ⟨Nat.le_of_ble_eq_true rfl, Nat.le_of_ble_eq_true rfl, Nat.le_of_ble_eq_true rfl⟩ ⟨Nat.le_of_ble_eq_true rfl, Nat.le_of_ble_eq_true rfl⟩ dX5_digest_145 ?_
                    refine r_lstore_n B (lv' := [(1, .long (lI (31 * dv2 + ((s.2.2.1 i).2.2 w k)))), (0, .ref N), (3, .int (iI i)), (4, .ref (gP M (N + 1 + 1) i)), (5, .int (iI w)), (6, .int (iI k))]) dX5_digest_148 (by decide) rfl ?_
                    refine r_iinc B (lv' := [(6, .int (iI (k + 1))), (1, .long (lI (31 * dv2 + ((s.2.2.1 i).2.2 w k)))), (0, .ref N), (3, .int (iI i)), (4, .ref (gP M (N + 1 + 1) i)), (5, .int (iI w))]) dX5_digest_149 (j := 5) rfl (by decide) rfl ?_
                    refine r_goto B dX5_digest_152 rfl ?_
                    refine WM.pick [2, 1, 3, 4, 5, 0] rfl ?_
                    exact ihlp14 (k + 1) _ (by omega) (by omega) (by rw [mfF_s _ _ hk0, ← hk]) (by omega)
              refine WM.pick [1, 2, 3, 4, 5, 0] rfl ?_
              exact lp14 _ 0 _ (by omega) (by omega) rfl (Nat.lt_succ_self _)
        refine WM.pick [3, 1, 4, 2, 0] rfl ?_
        exact lp10 _ 0 _ (by omega) (by omega) rfl (Nat.lt_succ_self _)
  refine WM.pick [2, 1, 0] rfl ?_
  exact lp1 _ 0 _ (by omega) (by omega) rfl (Nat.lt_succ_self _)
