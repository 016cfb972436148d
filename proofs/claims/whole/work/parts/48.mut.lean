set_option maxRecDepth 100000 in
set_option maxHeartbeats 4000000 in
theorem c_X5_addGear (l : Launch) (hst : l.stackTraces = false) (G : Gs) (M : Mem) (N : Nat) (s : Ast) (cn : Int) (sv : Int → Ast) (hG : IsGg G N) (hB : GgIs M N (s, cn, sv)) (hbk : GgOk (s, cn, sv)) (t m : Int) (ht : In32 t) (hm : In32 m) : CtX l G yX5_addGear cX5_addGear 3 (some .int) rx_X5_addGear [.ref N, .int (iI t), .int (iI m)] M (PoI G (fun r M' => ∃ a' : Ast, oAddG s t m = (0, r, a') ∧ GgIs M' N (a', (savG (s, cn, sv)).2) ∧ Fg M M' N)) (fun E M' => (E = eIAE ∧ oAddG s t m = (1, 0, s) ∨ E = eISE ∧ oAddG s t m = (2, 0, s)) ∧ M' = M) 1 6 := by
  refine CtX.of (by decide +kernel) (Nat.le_of_ble_eq_true rfl) [(0, .ref N), (1, .int (iI t)), (2, .int (iI m))] rfl ?_
  intro X B Tx
  have hA : StateIs M (N + 1) s := hB.1
  have hok : StateOk s := hbk.1
  have hs1 := hok.1
  have hs2 := hok.2.1
  have hs3 := hok.2.2.1
  have hs4 := hok.2.2.2.1
  obtain ⟨ht1, ht2⟩ := ht
  obtain ⟨hm1, hm2⟩ := hm
  refine r_iload_n B 1 dX5_addGear_0 rfl ?_
  refine r_iload_n B 2 dX5_addGear_1 rfl ?_
  refine r_Sz2 B (c_X5_isGear l G M t m ⟨by omega, by omega⟩ ⟨by omega, by omega⟩) ⟨rfl, rfl⟩ ok_X5_isGear q_272 q_441 ⟨Nat.le_of_ble_eq_true rfl, Nat.le_of_ble_eq_true rfl, Nat.le_of_ble_eq_true rfl⟩ ⟨Nat.le_of_ble_eq_true rfl, Nat.le_of_ble_eq_true rfl⟩ dX5_addGear_2 (fun ig Mg hig => ?_)
  obtain ⟨hig, hMg⟩ := hig
  rw [hMg]
  have hig01 : 0 ≤ ig ∧ ig ≤ 1 := by rcases hig with w | w <;> omega
  refine r_if_ne B dX5_addGear_5 rfl ⟨by omega, by omega⟩ (fun h1 => ?_) (fun h1 => ?_)
  · have hgt : isG t m := by rcases hig with y | y; exact y.1; exact absurd y.2 h1
    have hgt2 := hgt
    unfold isG at hgt2
    refine r_aload_n B 0 dX5_addGear_18 rfl ?_
    refine rg5_now B hG.1 q_171 dX5_addGear_19 ?_
    refine rg3_gearCount B hG.2.1.1 q_94 dX5_addGear_22 ?_
    refine r_vi (y := s.1) hA.1 ?_
    refine r_bipush B (z := 6) dX5_addGear_25 (by decide) ?_
    refine r_icmp_lt B dX5_addGear_27 rfl ⟨by omega, by omega⟩ ⟨by omega, by omega⟩ (fun h2 => ?_) (fun h2 => ?_)
    · refine r_aload_n B 0 dX5_addGear_40 rfl ?_
      refine r_Vv0 B (c_X5_save l G M N s cn sv hG hB hbk) ⟨rfl, rfl⟩ ok_X5_save vi_X5_save q_311 hG.1 rfl (fun _ => rfl) ⟨Nat.le_of_ble_eq_true rfl, Nat.le_of_ble_eq_true rfl, Nat.le_of_ble_eq_true rfl⟩ ⟨Nat.le_of_ble_eq_true rfl, Nat.le_of_ble_eq_true rfl⟩ dX5_addGear_41 (fun Ms hsv => ?_)
      have hA1 : StateIs Ms (N + 1) s := StateIs.sav hsv.1
      have hPg : gP Ms (N + 1 + 1) = gP M (N + 1 + 1) := (hsv.2 (N + 1 + 1) (by omega) (by omega)).2.2.2
      have hPl : gP Ms (N + 1 + 2) = gP M (N + 1 + 2) := (hsv.2 (N + 1 + 2) (by omega) (by omega)).2.2.2
      refine r_aload_n B 0 dX5_addGear_44 rfl ?_
      refine rg5_now B hG.1 q_171 dX5_addGear_45 ?_
      refine r_iload_n B 1 dX5_addGear_48 rfl ?_
      refine r_iload_n B 2 dX5_addGear_49 rfl ?_
      refine r_Vi2 B (c_X3_newGear l G Ms (N + 1) s hG.2.1 hA1 hok t m (by omega)) ⟨rfl, rfl⟩ ok_X3_newGear vi_X3_newGear q_526 hG.2.1.1 rfl (fun _ => rfl) ⟨Nat.le_of_ble_eq_true rfl, Nat.le_of_ble_eq_true rfl, Nat.le_of_ble_eq_true rfl⟩ ⟨Nat.le_of_ble_eq_true rfl, Nat.le_of_ble_eq_true rfl⟩ dX5_addGear_50 (fun ng Mn hng => ?_)
      rcases hng with ⟨hroom, hnr, hst, hfr⟩ | ⟨hfull, hnr, hMn⟩
      · subst hnr
        have hres := GgIs.save2 hsv.1 hbk hsv.2 hst hfr
        exact WM.xret (Nat.le_of_ble_eq_true rfl) (Nat.le_of_ble_eq_true rfl) (r_iret B dX5_addGear_53 ⟨_, by unfold oAddG; rw [if_neg (fun z => z hgt), if_neg (by omega)], hres.1, hres.2⟩)
      · omega
    · exact r_thrS B Tx hst (is := 68) (text := "no room for a gear") (by decide +kernel) dX5_addGear_30 dX5_addGear_33 dX5_addGear_34 dX5_addGear_36 dX5_addGear_39 ⟨Nat.le_of_ble_eq_true rfl, Nat.le_of_ble_eq_true rfl, Nat.le_of_ble_eq_true rfl, Nat.le_of_ble_eq_true rfl⟩ ⟨Nat.le_of_ble_eq_true rfl, Nat.le_of_ble_eq_true rfl⟩ ⟨Or.inr ⟨rfl, by unfold oAddG; rw [if_neg (fun z => z hgt), if_pos (by omega)]⟩, rfl⟩
  · exact r_thrA B Tx hst (is := 57) (text := "teeth or module out of range") (by decide +kernel) dX5_addGear_8 dX5_addGear_11 dX5_addGear_12 dX5_addGear_14 dX5_addGear_17 ⟨Nat.le_of_ble_eq_true rfl, Nat.le_of_ble_eq_true rfl, Nat.le_of_ble_eq_true rfl, Nat.le_of_ble_eq_true rfl⟩ ⟨Nat.le_of_ble_eq_true rfl, Nat.le_of_ble_eq_true rfl⟩ ⟨Or.inl ⟨rfl, by unfold oAddG; rw [if_pos (fun z => by rcases hig with y | y; omega; exact y.1 z)]⟩, rfl⟩

set_option maxRecDepth 100000 in
set_option maxHeartbeats 4000000 in
theorem c_X5_removeGear (l : Launch) (hst : l.stackTraces = false) (G : Gs) (M : Mem) (N : Nat) (s : Ast) (cn : Int) (sv : Int → Ast) (hG : IsGg G N) (hB : GgIs M N (s, cn, sv)) (hbk : GgOk (s, cn, sv)) (ge : Int) (hge : In32 ge) : CtX l G yX5_removeGear cX5_removeGear 2 (some .int) rx_X5_removeGear [.ref N, .int (iI ge)] M (PoI G (fun r M' => ∃ a' : Ast, oRemG s ge = (0, r, a') ∧ GgIs M' N (a', (savG (s, cn, sv)).2) ∧ Fg M M' N)) (fun E M' => (E = eIOB ∧ oRemG s ge = (1, 0, s)) ∧ M' = M) 1 6 := by
  refine CtX.of (by decide +kernel) (Nat.le_of_ble_eq_true rfl) [(0, .ref N), (1, .int (iI ge))] rfl ?_
  intro X B Tx
  have hA : StateIs M (N + 1) s := hB.1
  have hok : StateOk s := hbk.1
  have hs1 := hok.1
  have hs2 := hok.2.1
  have hs3 := hok.2.2.1
  have hs4 := hok.2.2.2.1
  obtain ⟨hge1, hge2⟩ := hge
  refine r_aload_n B 0 dX5_removeGear_0 rfl ?_
  refine r_iload_n B 1 dX5_removeGear_1 rfl ?_
  refine r_xVa1 B Tx (c_X5_requireGear l hst G M N s hG hA hok ge ⟨by omega, by omega⟩) ⟨rfl, rfl⟩ ok_X5_requireGear vi_X5_requireGear q_535 hG.1 rfl (fun _ => rfl) ⟨Nat.le_of_ble_eq_true rfl, Nat.le_of_ble_eq_true rfl, Nat.le_of_ble_eq_true rfl⟩ ⟨Nat.le_of_ble_eq_true rfl, Nat.le_of_ble_eq_true rfl⟩ dX5_removeGear_2 ⟨Nat.le_of_ble_eq_true rfl, Nat.le_of_ble_eq_true rfl⟩ (fun E M2 hx => ⟨⟨hx.1, by unfold oRemG; rw [if_pos (by omega)]⟩, hx.2.2⟩) (fun rq1 M2 hq1 => ?_)
  obtain ⟨hrq1, hgq1, hmq1⟩ := hq1
  rw [hrq1, hmq1]
  clear hrq1 hmq1
  refine r_pop B dX5_removeGear_5 rfl ?_
  refine r_aload_n B 0 dX5_removeGear_6 rfl ?_
  refine r_Vv0 B (c_X5_save l G M N s cn sv hG hB hbk) ⟨rfl, rfl⟩ ok_X5_save vi_X5_save q_311 hG.1 rfl (fun _ => rfl) ⟨Nat.le_of_ble_eq_true rfl, Nat.le_of_ble_eq_true rfl, Nat.le_of_ble_eq_true rfl⟩ ⟨Nat.le_of_ble_eq_true rfl, Nat.le_of_ble_eq_true rfl⟩ dX5_removeGear_7 (fun Ms hsv => ?_)
  have hA1 : StateIs Ms (N + 1) s := StateIs.sav hsv.1
  have hPg : gP Ms (N + 1 + 1) = gP M (N + 1 + 1) := (hsv.2 (N + 1 + 1) (by omega) (by omega)).2.2.2
  have hPl : gP Ms (N + 1 + 2) = gP M (N + 1 + 2) := (hsv.2 (N + 1 + 2) (by omega) (by omega)).2.2.2
  refine r_aload_n B 0 dX5_removeGear_10 rfl ?_
  refine rg5_now B hG.1 q_171 dX5_removeGear_11 ?_
  refine r_iload_n B 1 dX5_removeGear_14 rfl ?_
  refine r_Vi1 B (c_X3_dropGear l G Ms (N + 1) s hG.2.1 hA1 hok ge (by omega) (by omega)) ⟨rfl, rfl⟩ ok_X3_dropGear vi_X3_dropGear q_555 hG.2.1.1 rfl (fun _ => rfl) ⟨Nat.le_of_ble_eq_true rfl, Nat.le_of_ble_eq_true rfl, Nat.le_of_ble_eq_true rfl⟩ ⟨Nat.le_of_ble_eq_true rfl, Nat.le_of_ble_eq_true rfl⟩ dX5_removeGear_15 (fun dg Mn hdg => ?_)
  obtain ⟨hdr, hst, hfr⟩ := hdg
  subst hdr
  have hres := GgIs.save2 hsv.1 hbk hsv.2 hst hfr
  exact WM.xret (Nat.le_of_ble_eq_true rfl) (Nat.le_of_ble_eq_true rfl) (r_iret B dX5_removeGear_18 ⟨_, by unfold oRemG; rw [if_neg (by omega)], hres.1, hres.2⟩)

set_option maxRecDepth 100000 in
set_option maxHeartbeats 4000000 in
theorem c_X5_removeLine (l : Launch) (hst : l.stackTraces = false) (G : Gs) (M : Mem) (N : Nat) (s : Ast) (cn : Int) (sv : Int → Ast) (hG : IsGg G N) (hB : GgIs M N (s, cn, sv)) (hbk : GgOk (s, cn, sv)) (li : Int) (hli : In32 li) : CtX l G yX5_removeLine cX5_removeLine 2 (some .int) rx_X5_removeLine [.ref N, .int (iI li)] M (PoI G (fun r M' => ∃ a' : Ast, oRemL s li = (0, r, a') ∧ GgIs M' N (a', (savG (s, cn, sv)).2) ∧ Fg M M' N)) (fun E M' => (E = eIOB ∧ oRemL s li = (1, 0, s)) ∧ M' = M) 1 6 := by
  refine CtX.of (by decide +kernel) (Nat.le_of_ble_eq_true rfl) [(0, .ref N), (1, .int (iI li))] rfl ?_
  intro X B Tx
  have hA : StateIs M (N + 1) s := hB.1
  have hok : StateOk s := hbk.1
  have hs1 := hok.1
  have hs2 := hok.2.1
  have hs3 := hok.2.2.1
  have hs4 := hok.2.2.2.1
  obtain ⟨hli1, hli2⟩ := hli
  refine r_aload_n B 0 dX5_removeLine_0 rfl ?_
  refine r_iload_n B 1 dX5_removeLine_1 rfl ?_
  refine r_xVa1 B Tx (c_X5_requireLine l hst G M N s hG hA hok li ⟨by omega, by omega⟩) ⟨rfl, rfl⟩ ok_X5_requireLine vi_X5_requireLine q_719 hG.1 rfl (fun _ => rfl) ⟨Nat.le_of_ble_eq_true rfl, Nat.le_of_ble_eq_true rfl, Nat.le_of_ble_eq_true rfl⟩ ⟨Nat.le_of_ble_eq_true rfl, Nat.le_of_ble_eq_true rfl⟩ dX5_removeLine_2 ⟨Nat.le_of_ble_eq_true rfl, Nat.le_of_ble_eq_true rfl⟩ (fun E M2 hx => ⟨⟨hx.1, by unfold oRemL; rw [if_pos (by omega)]⟩, hx.2.2⟩) (fun rq1 M2 hq1 => ?_)
  obtain ⟨hrq1, hgq1, hmq1⟩ := hq1
  rw [hrq1, hmq1]
  clear hrq1 hmq1
  refine r_pop B dX5_removeLine_5 rfl ?_
  refine r_aload_n B 0 dX5_removeLine_6 rfl ?_
  refine r_Vv0 B (c_X5_save l G M N s cn sv hG hB hbk) ⟨rfl, rfl⟩ ok_X5_save vi_X5_save q_311 hG.1 rfl (fun _ => rfl) ⟨Nat.le_of_ble_eq_true rfl, Nat.le_of_ble_eq_true rfl, Nat.le_of_ble_eq_true rfl⟩ ⟨Nat.le_of_ble_eq_true rfl, Nat.le_of_ble_eq_true rfl⟩ dX5_removeLine_7 (fun Ms hsv => ?_)
  have hA1 : StateIs Ms (N + 1) s := StateIs.sav hsv.1
  have hPg : gP Ms (N + 1 + 1) = gP M (N + 1 + 1) := (hsv.2 (N + 1 + 1) (by omega) (by omega)).2.2.2
  have hPl : gP Ms (N + 1 + 2) = gP M (N + 1 + 2) := (hsv.2 (N + 1 + 2) (by omega) (by omega)).2.2.2
  refine r_aload_n B 0 dX5_removeLine_10 rfl ?_
  refine rg5_now B hG.1 q_171 dX5_removeLine_11 ?_
  refine r_iload_n B 1 dX5_removeLine_14 rfl ?_
  refine r_Vv1 B (c_X3_dropLine l G Ms (N + 1) s hG.2.1 hA1 hok li (by omega) (by omega)) ⟨rfl, rfl⟩ ok_X3_dropLine vi_X3_dropLine q_733 hG.2.1.1 rfl (fun _ => rfl) ⟨Nat.le_of_ble_eq_true rfl, Nat.le_of_ble_eq_true rfl, Nat.le_of_ble_eq_true rfl⟩ ⟨Nat.le_of_ble_eq_true rfl, Nat.le_of_ble_eq_true rfl⟩ dX5_removeLine_15 (fun Mn hdg => ?_)
  obtain ⟨hst, hfr⟩ := hdg
  refine r_aload_n B 0 dX5_removeLine_18 rfl ?_
  refine rg5_now B hG.1 q_171 dX5_removeLine_19 ?_
  refine rg3_lineCount B hG.2.1.1 q_96 dX5_removeLine_22 ?_
  refine r_vi (y := s.2.1 - 1) hst.2.1 ?_
  have hres := GgIs.save2 hsv.1 hbk hsv.2 hst (hfr.wide (by omega) (by omega))
  exact WM.xret (Nat.le_of_ble_eq_true rfl) (Nat.le_of_ble_eq_true rfl) (r_iret B dX5_removeLine_25 ⟨_, by unfold oRemL; rw [if_neg (by omega)], hres.1, hres.2⟩)

set_option maxRecDepth 100000 in
set_option maxHeartbeats 4000000 in
theorem c_X5_addLine (l : Launch) (hst : l.stackTraces = false) (G : Gs) (M : Mem) (N : Nat) (s : Ast) (cn : Int) (sv : Int → Ast) (hG : IsGg G N) (hB : GgIs M N (s, cn, sv)) (hbk : GgOk (s, cn, sv)) (ge ki : Int) (hge : In32 ge) (hki : In32 ki) : CtX l G yX5_addLine cX5_addLine 3 (some .int) rx_X5_addLine [.ref N, .int (iI ge), .int (iI ki)] M (PoI G (fun r M' => ∃ a' : Ast, oAddL s ge ki = (0, r, a') ∧ GgIs M' N (a', (savG (s, cn, sv)).2) ∧ Fg M M' N)) (fun E M' => (E = eIOB ∧ oAddL s ge ki = (1, 0, s) ∨ E = eIAE ∧ oAddL s ge ki = (2, 0, s) ∨ E = eISE ∧ oAddL s ge ki = (3, 0, s)) ∧ M' = M) 2 12 := by
  refine CtX.of (by decide +kernel) (Nat.le_of_ble_eq_true rfl) [(0, .ref N), (1, .int (iI ge)), (2, .int (iI ki))] rfl ?_
  intro X B Tx
  have hA : StateIs M (N + 1) s := hB.1
  have hok : StateOk s := hbk.1
  have hs1 := hok.1
  have hs2 := hok.2.1
  have hs3 := hok.2.2.1
  have hs4 := hok.2.2.2.1
  obtain ⟨hge1, hge2⟩ := hge
  obtain ⟨hki1, hki2⟩ := hki
  refine r_aload_n B 0 dX5_addLine_0 rfl ?_
  refine r_iload_n B 1 dX5_addLine_1 rfl ?_
  refine r_xVa1 B Tx (c_X5_requireGear l hst G M N s hG hA hok ge ⟨by omega, by omega⟩) ⟨rfl, rfl⟩ ok_X5_requireGear vi_X5_requireGear q_535 hG.1 rfl (fun _ => rfl) ⟨Nat.le_of_ble_eq_true rfl, Nat.le_of_ble_eq_true rfl, Nat.le_of_ble_eq_true rfl⟩ ⟨Nat.le_of_ble_eq_true rfl, Nat.le_of_ble_eq_true rfl⟩ dX5_addLine_2 ⟨Nat.le_of_ble_eq_true rfl, Nat.le_of_ble_eq_true rfl⟩ (fun E M2 hx => ⟨Or.inl (⟨hx.1, by unfold oAddL; rw [if_pos (by omega)]⟩), hx.2.2⟩) (fun rq1 M2 hq1 => ?_)
  obtain ⟨hrq1, hgq1, hmq1⟩ := hq1
  rw [hrq1, hmq1]
  clear hrq1 hmq1
  refine r_pop B dX5_addLine_5 rfl ?_
  refine r_iload_n B 2 dX5_addLine_6 rfl ?_
  refine r_if_lt B dX5_addLine_7 rfl ⟨by omega, by omega⟩ (fun h3 => ?_) (fun h3 => ?_)
  · exact r_thrA B Tx hst (is := 173) (text := "kind out of range") (by decide +kernel) dX5_addLine_15 dX5_addLine_18 dX5_addLine_19 dX5_addLine_21 dX5_addLine_24 ⟨Nat.le_of_ble_eq_true rfl, Nat.le_of_ble_eq_true rfl, Nat.le_of_ble_eq_true rfl, Nat.le_of_ble_eq_true rfl⟩ ⟨Nat.le_of_ble_eq_true rfl, Nat.le_of_ble_eq_true rfl⟩ ⟨Or.inr (Or.inl (⟨rfl, by unfold oAddL; rw [if_neg (by omega), if_pos (by omega)]⟩)), rfl⟩
  · refine r_iload_n B 2 dX5_addLine_10 rfl ?_
    refine r_iconst B dX5_addLine_11 ?_
    refine r_icmp_lt B dX5_addLine_12 rfl ⟨by omega, by omega⟩ ⟨by omega, by omega⟩ (fun h4 => ?_) (fun h4 => ?_)
    · refine r_aload_n B 0 dX5_addLine_25 rfl ?_
      refine rg5_now B hG.1 q_171 dX5_addLine_26 ?_
      refine rg3_lineCount B hG.2.1.1 q_96 dX5_addLine_29 ?_
      refine r_vi (y := s.2.1) hA.2.1 ?_
      refine r_bipush B (z := 10) dX5_addLine_32 (by decide) ?_
      refine r_icmp_lt B dX5_addLine_34 rfl ⟨by omega, by omega⟩ ⟨by omega, by omega⟩ (fun h5 => ?_) (fun h5 => ?_)
      · refine r_aload_n B 0 dX5_addLine_47 rfl ?_
        refine r_Vv0 B (c_X5_save l G M N s cn sv hG hB hbk) ⟨rfl, rfl⟩ ok_X5_save vi_X5_save q_311 hG.1 rfl (fun _ => rfl) ⟨Nat.le_of_ble_eq_true rfl, Nat.le_of_ble_eq_true rfl, Nat.le_of_ble_eq_true rfl⟩ ⟨Nat.le_of_ble_eq_true rfl, Nat.le_of_ble_eq_true rfl⟩ dX5_addLine_48 (fun Ms hsv => ?_)
        have hA1 : StateIs Ms (N + 1) s := StateIs.sav hsv.1
        have hPg : gP Ms (N + 1 + 1) = gP M (N + 1 + 1) := (hsv.2 (N + 1 + 1) (by omega) (by omega)).2.2.2
        have hPl : gP Ms (N + 1 + 2) = gP M (N + 1 + 2) := (hsv.2 (N + 1 + 2) (by omega) (by omega)).2.2.2
        refine r_aload_n B 0 dX5_addLine_51 rfl ?_
        refine rg5_now B hG.1 q_171 dX5_addLine_52 ?_
        refine r_iload_n B 1 dX5_addLine_55 rfl ?_
        refine r_iload_n B 2 dX5_addLine_56 rfl ?_
        refine r_Vi2 B (c_X3_newLine l G Ms (N + 1) s hG.2.1 hA1 hok ge ki) ⟨rfl, rfl⟩ ok_X3_newLine vi_X3_newLine q_711 hG.2.1.1 rfl (fun _ => rfl) ⟨Nat.le_of_ble_eq_true rfl, Nat.le_of_ble_eq_true rfl, Nat.le_of_ble_eq_true rfl⟩ ⟨Nat.le_of_ble_eq_true rfl, Nat.le_of_ble_eq_true rfl⟩ dX5_addLine_57 (fun ng Mn hng => ?_)
        rcases hng with ⟨hroom, hnr, hst, hfr⟩ | ⟨hfull, hnr, hMn⟩
        · subst hnr
          have hres := GgIs.save2 hsv.1 hbk hsv.2 hst hfr
          exact WM.xret (Nat.le_of_ble_eq_true rfl) (Nat.le_of_ble_eq_true rfl) (r_iret B dX5_addLine_60 ⟨_, by unfold oAddL; rw [if_neg (by omega), if_neg (by omega), if_neg (by omega)], hres.1, hres.2⟩)
        · omega
      · exact r_thrS B Tx hst (is := 178) (text := "no room for a line") (by decide +kernel) dX5_addLine_37 dX5_addLine_40 dX5_addLine_41 dX5_addLine_43 dX5_addLine_46 ⟨Nat.le_of_ble_eq_true rfl, Nat.le_of_ble_eq_true rfl, Nat.le_of_ble_eq_true rfl, Nat.le_of_ble_eq_true rfl⟩ ⟨Nat.le_of_ble_eq_true rfl, Nat.le_of_ble_eq_true rfl⟩ ⟨Or.inr (Or.inr (⟨rfl, by unfold oAddL; rw [if_neg (by omega), if_neg (by omega), if_pos (by omega)]⟩)), rfl⟩
    · exact r_thrA B Tx hst (is := 173) (text := "kind out of range") (by decide +kernel) dX5_addLine_15 dX5_addLine_18 dX5_addLine_19 dX5_addLine_21 dX5_addLine_24 ⟨Nat.le_of_ble_eq_true rfl, Nat.le_of_ble_eq_true rfl, Nat.le_of_ble_eq_true rfl, Nat.le_of_ble_eq_true rfl⟩ ⟨Nat.le_of_ble_eq_true rfl, Nat.le_of_ble_eq_true rfl⟩ ⟨Or.inr (Or.inl (⟨rfl, by unfold oAddL; rw [if_neg (by omega), if_pos (by omega)]⟩)), rfl⟩

set_option maxRecDepth 100000 in
set_option maxHeartbeats 4000000 in
theorem c_X5_setReading (l : Launch) (hst : l.stackTraces = false) (G : Gs) (M : Mem) (N : Nat) (s : Ast) (cn : Int) (sv : Int → Ast) (hG : IsGg G N) (hB : GgIs M N (s, cn, sv)) (hbk : GgOk (s, cn, sv)) (ge se ix v : Int) (hge : In32 ge) (hse : In32 se) (hix : In32 ix) (hv : In32 v) : CtX l G yX5_setReading cX5_setReading 7 (some .int) rx_X5_setReading [.ref N, .int (iI ge), .int (iI se), .int (iI ix), .int (iI v)] M (PoI G (fun r M' => ∃ a' : Ast, oSetR s ge se ix v = (0, r, a') ∧ GgIs M' N (a', (savG (s, cn, sv)).2) ∧ Fg M M' N)) (fun E M' => (E = eIOB ∧ oSetR s ge se ix v = (1, 0, s) ∨ E = eIAE ∧ oSetR s ge se ix v = (2, 0, s)) ∧ M' = M) 3 18 := by
  refine CtX.of (by decide +kernel) (Nat.le_of_ble_eq_true rfl) [(0, .ref N), (1, .int (iI ge)), (2, .int (iI se)), (3, .int (iI ix)), (4, .int (iI v))] rfl ?_
  intro X B Tx
  have hA : StateIs M (N + 1) s := hB.1
  have hok : StateOk s := hbk.1
  have hs1 := hok.1
  have hs2 := hok.2.1
  have hs3 := hok.2.2.1
  have hs4 := hok.2.2.2.1
  obtain ⟨hge1, hge2⟩ := hge
  obtain ⟨hse1, hse2⟩ := hse
  obtain ⟨hix1, hix2⟩ := hix
  obtain ⟨hv1, hv2⟩ := hv
  refine r_aload_n B 0 dX5_setReading_0 rfl ?_
  refine r_iload_n B 1 dX5_setReading_1 rfl ?_
  refine r_xVa1 B Tx (c_X5_requireGear l hst G M N s hG hA hok ge ⟨by omega, by omega⟩) ⟨rfl, rfl⟩ ok_X5_requireGear vi_X5_requireGear q_535 hG.1 rfl (fun _ => rfl) ⟨Nat.le_of_ble_eq_true rfl, Nat.le_of_ble_eq_true rfl, Nat.le_of_ble_eq_true rfl⟩ ⟨Nat.le_of_ble_eq_true rfl, Nat.le_of_ble_eq_true rfl⟩ dX5_setReading_2 ⟨Nat.le_of_ble_eq_true rfl, Nat.le_of_ble_eq_true rfl⟩ (fun E M2 hx => ⟨Or.inl (⟨hx.1, by unfold oSetR; rw [if_pos (by omega)]⟩), hx.2.2⟩) (fun rq1 M2 hq1 => ?_)
  obtain ⟨hrq1, hgq1, hmq1⟩ := hq1
  rw [hrq1, hmq1]
  clear hrq1 hmq1
  refine r_astore B (lv' := [(5, .ref (gP M (N + 1 + 1) ge)), (0, .ref N), (1, .int (iI ge)), (2, .int (iI se)), (3, .int (iI ix)), (4, .int (iI v))]) dX5_setReading_5 (by decide) rfl ?_
  have hgk := hok.2.2.2.2.1 ge (by omega) (by omega)
  obtain ⟨hgk1, hgk2, hgk3, hgk4, hgk5⟩ := id hgk
  have hsz := szS_le (s.2.2.1 ge).1 se
  have hbg := hA.2.2.1.in (i := ge) (by omega) (by omega)
  have hin1 : 0 ≤ inB v ∧ inB v ≤ 1 := by unfold inB; split <;> omega
  refine r_aload B 0 dX5_setReading_7 rfl ?_
  refine r_iload_n B 3 dX5_setReading_9 rfl ?_
  refine r_iload_n B 4 dX5_setReading_10 rfl ?_
  refine r_xSv3 B Tx (c_X5_requireReading l hst G M (gP M (N + 1 + 1) ge) ((s.2.2.1 ge).1) (RowG.gear hG.2.1 hA.2.2.1 (i := ge) (by omega) (by omega)) (hA.2.2.2.2.1 ge (by omega) (by omega)).1 (by omega) (by omega) se ix ⟨by omega, by omega⟩ ⟨by omega, by omega⟩) ⟨rfl, rfl⟩ ok_X5_requireReading q_571 q_570 ⟨Nat.le_of_ble_eq_true rfl, Nat.le_of_ble_eq_true rfl, Nat.le_of_ble_eq_true rfl⟩ ⟨Nat.le_of_ble_eq_true rfl, Nat.le_of_ble_eq_true rfl⟩ dX5_setReading_11 ⟨Nat.le_of_ble_eq_true rfl, Nat.le_of_ble_eq_true rfl⟩ (fun E M2 hx => ⟨Or.inl (⟨hx.1, by unfold oSetR; rw [if_pos (by omega)]⟩), hx.2.2⟩) (fun M4 hq3 => ?_)
  obtain ⟨hgq3, hmq3⟩ := hq3
  rw [hmq3]
  clear hmq3
  refine r_iload B 5 dX5_setReading_14 rfl ?_
  refine r_pSz1 B (c_X5_isDeviation l G M v ⟨by omega, by omega⟩) ⟨rfl, rfl⟩ ok_X5_isDeviation q_291 q_575 ⟨Nat.le_of_ble_eq_true rfl, Nat.le_of_ble_eq_true rfl, Nat.le_of_ble_eq_true rfl⟩ ⟨Nat.le_of_ble_eq_true rfl, Nat.le_of_ble_eq_true rfl⟩ dX5_setReading_16 ?_
  refine r_if_ne B dX5_setReading_19 rfl ⟨by omega, by omega⟩ (fun h5 => ?_) (fun h5 => ?_)
  · have hv5 : -5000 ≤ v ∧ v ≤ 5000 := Decidable.byContradiction (fun q => h5 (by unfold inB; rw [if_neg q]))
    refine r_aload_n B 1 dX5_setReading_32 rfl ?_
    refine r_Vv0 B (c_X5_save l G M N s cn sv hG hB hbk) ⟨rfl, rfl⟩ ok_X5_save vi_X5_save q_311 hG.1 rfl (fun _ => rfl) ⟨Nat.le_of_ble_eq_true rfl, Nat.le_of_ble_eq_true rfl, Nat.le_of_ble_eq_true rfl⟩ ⟨Nat.le_of_ble_eq_true rfl, Nat.le_of_ble_eq_true rfl⟩ dX5_setReading_33 (fun Ms hsv => ?_)
    have hA1 : StateIs Ms (N + 1) s := StateIs.sav hsv.1
    have hPg : gP Ms (N + 1 + 1) = gP M (N + 1 + 1) := (hsv.2 (N + 1 + 1) (by omega) (by omega)).2.2.2
    have hPl : gP Ms (N + 1 + 2) = gP M (N + 1 + 2) := (hsv.2 (N + 1 + 2) (by omega) (by omega)).2.2.2
    have hgm : GrIs Ms (gP M (N + 1 + 1) ge) (s.2.2.1 ge) := by rw [← hPg]; exact hA1.2.2.2.2.1 ge (by omega) (by omega)
    refine r_aload B 0 dX5_setReading_36 rfl ?_
    refine rg0_readings B (RowG.gear hG.2.1 hA.2.2.1 (i := ge) (by omega) (by omega)).1 q_47 dX5_setReading_38 ?_
    refine r_iload_n B 3 dX5_setReading_41 rfl ?_
    refine r_aaload11 B dX5_setReading_42 (RowG.gear hG.2.1 hA.2.2.1 (i := ge) (by omega) (by omega)).2.1 (by omega) (by omega) ?_
    refine r_iload_n B 4 dX5_setReading_43 rfl ?_
    refine r_iaload B dX5_setReading_44 ((RowG.gear hG.2.1 hA.2.2.1 (i := ge) (by omega) (by omega)).row (s := se) (by omega) (by omega)) (by omega) (by omega) ?_
    refine r_vi (y := (s.2.2.1 ge).2.2 se ix) (hgm.2.2 se ix (by omega) (by omega) (by omega) (by omega)) ?_
    refine r_istore B (lv' := [(6, .int (iI ((s.2.2.1 ge).2.2 se ix))), (5, .ref (gP M (N + 1 + 1) ge)), (0, .ref N), (1, .int (iI ge)), (2, .int (iI se)), (3, .int (iI ix)), (4, .int (iI v))]) dX5_setReading_45 (by decide) rfl ?_
    refine r_aload B 1 dX5_setReading_47 rfl ?_
    refine rg0_readings B (RowG.gear hG.2.1 hA.2.2.1 (i := ge) (by omega) (by omega)).1 q_47 dX5_setReading_49 ?_
    refine r_iload_n B 4 dX5_setReading_52 rfl ?_
    refine r_aaload11 B dX5_setReading_53 (RowG.gear hG.2.1 hA.2.2.1 (i := ge) (by omega) (by omega)).2.1 (by omega) (by omega) ?_
    refine r_iload_n B 5 dX5_setReading_54 rfl ?_
    refine r_iload B 6 dX5_setReading_55 rfl ?_
    refine r_iastore B dX5_setReading_57 ((RowG.gear hG.2.1 hA.2.2.1 (i := ge) (by omega) (by omega)).row (s := se) (by omega) (by omega)) (by omega) (by omega) ?_
    refine WM.nm (fun M6 eM6 => ?_)
    refine r_iload B 0 dX5_setReading_58 rfl ?_
    have hgn : GrIs M6 (gP M (N + 1 + 1) ge) ((s.2.2.1 ge).1, (s.2.2.1 ge).2.1, rdPut (s.2.2.1 ge).2.2 se ix v) := by
      refine ⟨by rw [eM6, gI_ne (by omega)]; exact hgm.1, by rw [eM6, gI_ne (by omega)]; exact hgm.2.1, fun t j p1 p2 p3 p4 => ?_⟩
      show _ = if t = se ∧ j = ix then v else (s.2.2.1 ge).2.2 t j
      by_cases w : t = se
      · by_cases w2 : j = ix
        · rw [if_pos ⟨w, w2⟩, eM6, w, w2, gI_eq]
        · rw [if_neg (fun q => w2 q.2), eM6, w, gI_nk w2]; exact hgm.2.2 se j (by omega) (by omega) p3 (by rw [← w]; exact p4)
      · rw [if_neg (fun q => w q.1), eM6, gI_ne (by omega)]; exact hgm.2.2 t j p1 p2 p3 p4
    have hst : StateIs M6 (N + 1) (setR s ge se ix v) := hA1.gear (M' := M6) (g := ge) (q := ((s.2.2.1 ge).1, (s.2.2.1 ge).2.1, rdPut (s.2.2.1 ge).2.2 se ix v)) hok (by omega) (by omega) (by rw [hPg]; exact hgn) (by rw [hPg, eM6]; exact Only.sI (by omega) (by omega))
    have hres := GgIs.save2 hsv.1 hbk hsv.2 hst (by rw [eM6]; exact Only.sI (by omega) (by omega))
    exact WM.xret (Nat.le_of_ble_eq_true rfl) (Nat.le_of_ble_eq_true rfl) (r_iret B dX5_setReading_60 ⟨_, by unfold oSetR; rw [if_neg (by omega), if_neg (by omega)], hres.1, hres.2⟩)
  · exact r_thrA B Tx hst (is := 94) (text := "value out of range") (by decide +kernel) dX5_setReading_22 dX5_setReading_25 dX5_setReading_26 dX5_setReading_28 dX5_setReading_31 ⟨Nat.le_of_ble_eq_true rfl, Nat.le_of_ble_eq_true rfl, Nat.le_of_ble_eq_true rfl, Nat.le_of_ble_eq_true rfl⟩ ⟨Nat.le_of_ble_eq_true rfl, Nat.le_of_ble_eq_true rfl⟩ ⟨Or.inr ⟨rfl, by unfold oSetR; rw [if_neg (by omega), if_pos (fun q => by unfold inB at h5; rw [if_pos q] at h5; omega)]⟩, rfl⟩

set_option maxRecDepth 100000 in
set_option maxHeartbeats 4000000 in
theorem c_X5_fill (l : Launch) (hst : l.stackTraces = false) (G : Gs) (M : Mem) (N : Nat) (s : Ast) (cn : Int) (sv : Int → Ast) (hG : IsGg G N) (hB : GgIs M N (s, cn, sv)) (hbk : GgOk (s, cn, sv)) (ge sd sp : Int) (hge : In32 ge) (hsd : In32 sd) (hsp : In32 sp) : CtX l G yX5_fill cX5_fill 5 (some .int) rx_X5_fill [.ref N, .int (iI ge), .int (iI sd), .int (iI sp)] M (PoI G (fun r M' => ∃ a' : Ast, oFill s ge sd sp = (0, r, a') ∧ GgIs M' N (a', (savG (s, cn, sv)).2) ∧ Fg M M' N)) (fun E M' => (E = eIOB ∧ oFill s ge sd sp = (1, 0, s) ∨ E = eIAE ∧ oFill s ge sd sp = (2, 0, s)) ∧ M' = M) 2 12 := by
  refine CtX.of (by decide +kernel) (Nat.le_of_ble_eq_true rfl) [(0, .ref N), (1, .int (iI ge)), (2, .int (iI sd)), (3, .int (iI sp))] rfl ?_
  intro X B Tx
  have hA : StateIs M (N + 1) s := hB.1
  have hok : StateOk s := hbk.1
  have hs1 := hok.1
  have hs2 := hok.2.1
  have hs3 := hok.2.2.1
  have hs4 := hok.2.2.2.1
  obtain ⟨hge1, hge2⟩ := hge
  obtain ⟨hsd1, hsd2⟩ := hsd
  obtain ⟨hsp1, hsp2⟩ := hsp
  refine r_aload_n B 0 dX5_fill_0 rfl ?_
  refine r_iload_n B 1 dX5_fill_1 rfl ?_
  refine r_xVa1 B Tx (c_X5_requireGear l hst G M N s hG hA hok ge ⟨by omega, by omega⟩) ⟨rfl, rfl⟩ ok_X5_requireGear vi_X5_requireGear q_535 hG.1 rfl (fun _ => rfl) ⟨Nat.le_of_ble_eq_true rfl, Nat.le_of_ble_eq_true rfl, Nat.le_of_ble_eq_true rfl⟩ ⟨Nat.le_of_ble_eq_true rfl, Nat.le_of_ble_eq_true rfl⟩ dX5_fill_2 ⟨Nat.le_of_ble_eq_true rfl, Nat.le_of_ble_eq_true rfl⟩ (fun E M2 hx => ⟨Or.inl (⟨hx.1, by unfold oFill; rw [if_pos (by omega)]⟩), hx.2.2⟩) (fun rq1 M2 hq1 => ?_)
  obtain ⟨hrq1, hgq1, hmq1⟩ := hq1
  rw [hrq1, hmq1]
  clear hrq1 hmq1
  refine r_astore B (lv' := [(4, .ref (gP M (N + 1 + 1) ge)), (0, .ref N), (1, .int (iI ge)), (2, .int (iI sd)), (3, .int (iI sp))]) dX5_fill_5 (by decide) rfl ?_
  have hgk := hok.2.2.2.2.1 ge (by omega) (by omega)
  obtain ⟨hgk1, hgk2, hgk3, hgk4, hgk5⟩ := id hgk
  have hbg := hA.2.2.1.in (i := ge) (by omega) (by omega)
  refine r_iload_n B 3 dX5_fill_7 rfl ?_
  refine r_if_lt B dX5_fill_8 rfl ⟨by omega, by omega⟩ (fun h3 => ?_) (fun h3 => ?_)
  · exact r_thrA B Tx hst (is := 101) (text := "seed or spread out of range") (by decide +kernel) dX5_fill_28 dX5_fill_31 dX5_fill_32 dX5_fill_34 dX5_fill_37 ⟨Nat.le_of_ble_eq_true rfl, Nat.le_of_ble_eq_true rfl, Nat.le_of_ble_eq_true rfl, Nat.le_of_ble_eq_true rfl⟩ ⟨Nat.le_of_ble_eq_true rfl, Nat.le_of_ble_eq_true rfl⟩ ⟨Or.inr (⟨rfl, by unfold oFill; rw [if_neg (by omega), if_pos (by omega)]⟩), rfl⟩
  · refine r_iload_n B 3 dX5_fill_11 rfl ?_
    refine r_ldc B (z := 999999) dX5_fill_12 q_584 (by decide) ?_
    refine r_icmp_gt B dX5_fill_14 rfl ⟨by omega, by omega⟩ ⟨by omega, by omega⟩ (fun h4 => ?_) (fun h4 => ?_)
    · exact r_thrA B Tx hst (is := 101) (text := "seed or spread out of range") (by decide +kernel) dX5_fill_28 dX5_fill_31 dX5_fill_32 dX5_fill_34 dX5_fill_37 ⟨Nat.le_of_ble_eq_true rfl, Nat.le_of_ble_eq_true rfl, Nat.le_of_ble_eq_true rfl, Nat.le_of_ble_eq_true rfl⟩ ⟨Nat.le_of_ble_eq_true rfl, Nat.le_of_ble_eq_true rfl⟩ ⟨Or.inr (⟨rfl, by unfold oFill; rw [if_neg (by omega), if_pos (by omega)]⟩), rfl⟩
    · refine r_iload_n B 4 dX5_fill_17 rfl ?_
      refine r_if_lt B dX5_fill_18 rfl ⟨by omega, by omega⟩ (fun h5 => ?_) (fun h5 => ?_)
      · exact r_thrA B Tx hst (is := 101) (text := "seed or spread out of range") (by decide +kernel) dX5_fill_28 dX5_fill_31 dX5_fill_32 dX5_fill_34 dX5_fill_37 ⟨Nat.le_of_ble_eq_true rfl, Nat.le_of_ble_eq_true rfl, Nat.le_of_ble_eq_true rfl, Nat.le_of_ble_eq_true rfl⟩ ⟨Nat.le_of_ble_eq_true rfl, Nat.le_of_ble_eq_true rfl⟩ ⟨Or.inr (⟨rfl, by unfold oFill; rw [if_neg (by omega), if_pos (by omega)]⟩), rfl⟩
      · refine r_iload_n B 4 dX5_fill_21 rfl ?_
        refine r_sipush B (z := 5000) dX5_fill_22 (by decide) ?_
        refine r_icmp_le B dX5_fill_25 rfl ⟨by omega, by omega⟩ ⟨by omega, by omega⟩ (fun h6 => ?_) (fun h6 => ?_)
        · refine r_aload_n B 1 dX5_fill_38 rfl ?_
          refine r_Vv0 B (c_X5_save l G M N s cn sv hG hB hbk) ⟨rfl, rfl⟩ ok_X5_save vi_X5_save q_311 hG.1 rfl (fun _ => rfl) ⟨Nat.le_of_ble_eq_true rfl, Nat.le_of_ble_eq_true rfl, Nat.le_of_ble_eq_true rfl⟩ ⟨Nat.le_of_ble_eq_true rfl, Nat.le_of_ble_eq_true rfl⟩ dX5_fill_39 (fun Ms hsv => ?_)
          have hA1 : StateIs Ms (N + 1) s := StateIs.sav hsv.1
          have hPg : gP Ms (N + 1 + 1) = gP M (N + 1 + 1) := (hsv.2 (N + 1 + 1) (by omega) (by omega)).2.2.2
          have hPl : gP Ms (N + 1 + 2) = gP M (N + 1 + 2) := (hsv.2 (N + 1 + 2) (by omega) (by omega)).2.2.2
          have hgm : GrIs Ms (gP M (N + 1 + 1) ge) (s.2.2.1 ge) := by rw [← hPg]; exact hA1.2.2.2.2.1 ge (by omega) (by omega)
          have higr : IsGear G (gP M (N + 1 + 1) ge) := RowG.gear hG.2.1 hA.2.2.1 (i := ge) (by omega) (by omega)
          refine r_aload B 0 dX5_fill_42 rfl ?_
          refine r_iload_n B 3 dX5_fill_44 rfl ?_
          refine r_iload_n B 4 dX5_fill_45 rfl ?_
          refine r_Vv2 B (c_X0_scatter l G Ms (gP M (N + 1 + 1) ge) (s.2.2.1 ge).1 (s.2.2.1 ge).2.1 (s.2.2.1 ge).2.2 sd sp higr hgm (by omega) (by omega) (by omega) (by omega) (by omega) (by omega)) ⟨rfl, rfl⟩ ok_X0_scatter vi_X0_scatter q_586 (RowG.gear hG.2.1 hA.2.2.1 (i := ge) (by omega) (by omega)).1 rfl (fun _ => rfl) ⟨Nat.le_of_ble_eq_true rfl, Nat.le_of_ble_eq_true rfl, Nat.le_of_ble_eq_true rfl⟩ ⟨Nat.le_of_ble_eq_true rfl, Nat.le_of_ble_eq_true rfl⟩ dX5_fill_46 (fun Mf hsc => ?_)
          have hgo : GearOk (s.2.2.1 ge).1 (s.2.2.1 ge).2.1 (fiV sd sp (s.2.2.1 ge).1) := ⟨hgk1, hgk2, hgk3, hgk4, fun t j _ _ _ _ => by have w := fiV_in (seed := sd) (sp := sp) (z := (s.2.2.1 ge).1) (s := t) (k := j) (by omega); omega⟩
          refine r_aload B 0 dX5_fill_49 rfl ?_
          refine r_iconst B dX5_fill_51 ?_
          refine r_pVi1 B (c_X0_closingError l G Mf (gP M (N + 1 + 1) ge) (s.2.2.1 ge).1 (s.2.2.1 ge).2.1 (fiV sd sp (s.2.2.1 ge).1) higr hsc.1 hgo 0 (by omega) (by omega)) ⟨rfl, rfl⟩ ok_X0_closingError vi_X0_closingError q_428 (RowG.gear hG.2.1 hA.2.2.1 (i := ge) (by omega) (by omega)).1 rfl (fun _ => rfl) ⟨Nat.le_of_ble_eq_true rfl, Nat.le_of_ble_eq_true rfl, Nat.le_of_ble_eq_true rfl⟩ ⟨Nat.le_of_ble_eq_true rfl, Nat.le_of_ble_eq_true rfl⟩ dX5_fill_52 ?_
          have hst : StateIs Mf (N + 1) (putG s ge (fiV sd sp (s.2.2.1 ge).1)) := hA1.gear (M' := Mf) (g := ge) (q := ((s.2.2.1 ge).1, (s.2.2.1 ge).2.1, fiV sd sp (s.2.2.1 ge).1)) hok (by omega) (by omega) (by rw [hPg]; exact hsc.1) (by rw [hPg]; exact hsc.2)
          have hres := GgIs.save2 hsv.1 hbk hsv.2 hst (hsc.2.wide (by omega) (by omega))
          exact WM.xret (Nat.le_of_ble_eq_true rfl) (Nat.le_of_ble_eq_true rfl) (r_iret B dX5_fill_55 ⟨_, by unfold oFill; rw [if_neg (by omega), if_neg (by omega)], hres.1, hres.2⟩)
        · exact r_thrA B Tx hst (is := 101) (text := "seed or spread out of range") (by decide +kernel) dX5_fill_28 dX5_fill_31 dX5_fill_32 dX5_fill_34 dX5_fill_37 ⟨Nat.le_of_ble_eq_true rfl, Nat.le_of_ble_eq_true rfl, Nat.le_of_ble_eq_true rfl, Nat.le_of_ble_eq_true rfl⟩ ⟨Nat.le_of_ble_eq_true rfl, Nat.le_of_ble_eq_true rfl⟩ ⟨Or.inr (⟨rfl, by unfold oFill; rw [if_neg (by omega), if_pos (by omega)]⟩), rfl⟩

set_option maxRecDepth 100000 in
set_option maxHeartbeats 4000000 in
theorem c_X5_addPoint (l : Launch) (hst : l.stackTraces = false) (G : Gs) (M : Mem) (N : Nat) (s : Ast) (cn : Int) (sv : Int → Ast) (hG : IsGg G N) (hB : GgIs M N (s, cn, sv)) (hbk : GgOk (s, cn, sv)) (li v : Int) (hli : In32 li) (hv : In32 v) : CtX l G yX5_addPoint cX5_addPoint 4 (some .int) rx_X5_addPoint [.ref N, .int (iI li), .int (iI v)] M (PoI G (fun r M' => ∃ a' : Ast, oAddP s li v = (0, r, a') ∧ GgIs M' N (a', (savG (s, cn, sv)).2) ∧ Fg M M' N)) (fun E M' => (E = eIOB ∧ oAddP s li v = (1, 0, s) ∨ E = eIAE ∧ oAddP s li v = (2, 0, s) ∨ E = eISE ∧ oAddP s li v = (3, 0, s)) ∧ M' = M) 2 12 := by
  refine CtX.of (by decide +kernel) (Nat.le_of_ble_eq_true rfl) [(0, .ref N), (1, .int (iI li)), (2, .int (iI v))] rfl ?_
  intro X B Tx
  have hA : StateIs M (N + 1) s := hB.1
  have hok : StateOk s := hbk.1
  have hs1 := hok.1
  have hs2 := hok.2.1
  have hs3 := hok.2.2.1
  have hs4 := hok.2.2.2.1
  obtain ⟨hli1, hli2⟩ := hli
  obtain ⟨hv1, hv2⟩ := hv
  refine r_aload_n B 0 dX5_addPoint_0 rfl ?_
  refine r_iload_n B 1 dX5_addPoint_1 rfl ?_
  refine r_xVa1 B Tx (c_X5_requireLine l hst G M N s hG hA hok li ⟨by omega, by omega⟩) ⟨rfl, rfl⟩ ok_X5_requireLine vi_X5_requireLine q_719 hG.1 rfl (fun _ => rfl) ⟨Nat.le_of_ble_eq_true rfl, Nat.le_of_ble_eq_true rfl, Nat.le_of_ble_eq_true rfl⟩ ⟨Nat.le_of_ble_eq_true rfl, Nat.le_of_ble_eq_true rfl⟩ dX5_addPoint_2 ⟨Nat.le_of_ble_eq_true rfl, Nat.le_of_ble_eq_true rfl⟩ (fun E M2 hx => ⟨Or.inl (⟨hx.1, by unfold oAddP; rw [if_pos (by omega)]⟩), hx.2.2⟩) (fun rq1 M2 hq1 => ?_)
  obtain ⟨hrq1, hgq1, hmq1⟩ := hq1
  rw [hrq1, hmq1]
  clear hrq1 hmq1
  refine r_astore_n B (lv' := [(3, .ref (gP M (N + 1 + 2) li)), (0, .ref N), (1, .int (iI li)), (2, .int (iI v))]) dX5_addPoint_5 (by decide) rfl ?_
  have hlk := hok.2.2.2.2.2 li (by omega) (by omega)
  obtain ⟨⟨hln0, hln1, hlv⟩, hlg0, hlg1, hlk0, hlk1⟩ := id hlk
  have hbl := hA.2.2.2.1.in (i := li) (by omega) (by omega)
  have hin1 : 0 ≤ inB v ∧ inB v ≤ 1 := by unfold inB; split <;> omega
  refine r_iload_n B 3 dX5_addPoint_6 rfl ?_
  refine r_pSz1 B (c_X5_isDeviation l G M v ⟨by omega, by omega⟩) ⟨rfl, rfl⟩ ok_X5_isDeviation q_291 q_575 ⟨Nat.le_of_ble_eq_true rfl, Nat.le_of_ble_eq_true rfl, Nat.le_of_ble_eq_true rfl⟩ ⟨Nat.le_of_ble_eq_true rfl, Nat.le_of_ble_eq_true rfl⟩ dX5_addPoint_7 ?_
  refine r_if_ne B dX5_addPoint_10 rfl ⟨by omega, by omega⟩ (fun h3 => ?_) (fun h3 => ?_)
  · have hv5 : -5000 ≤ v ∧ v ≤ 5000 := Decidable.byContradiction (fun q => h3 (by unfold inB; rw [if_neg q]))
    refine r_aload_n B 0 dX5_addPoint_23 rfl ?_
    refine rg1_count B (RowL.line hG.2.1 hA.2.2.2.1 (i := li) (by omega) (by omega)).1 q_69 dX5_addPoint_24 ?_
    refine r_vi (y := (s.2.2.2 li).2.2.1) (hA.2.2.2.2.2 li (by omega) (by omega)).2.2.1 ?_
    refine r_bipush B (z := 12) dX5_addPoint_27 (by decide) ?_
    refine r_icmp_lt B dX5_addPoint_29 rfl ⟨by omega, by omega⟩ ⟨by omega, by omega⟩ (fun h4 => ?_) (fun h4 => ?_)
    · refine r_aload_n B 1 dX5_addPoint_42 rfl ?_
      refine r_Vv0 B (c_X5_save l G M N s cn sv hG hB hbk) ⟨rfl, rfl⟩ ok_X5_save vi_X5_save q_311 hG.1 rfl (fun _ => rfl) ⟨Nat.le_of_ble_eq_true rfl, Nat.le_of_ble_eq_true rfl, Nat.le_of_ble_eq_true rfl⟩ ⟨Nat.le_of_ble_eq_true rfl, Nat.le_of_ble_eq_true rfl⟩ dX5_addPoint_43 (fun Ms hsv => ?_)
      have hA1 : StateIs Ms (N + 1) s := StateIs.sav hsv.1
      have hPg : gP Ms (N + 1 + 1) = gP M (N + 1 + 1) := (hsv.2 (N + 1 + 1) (by omega) (by omega)).2.2.2
      have hPl : gP Ms (N + 1 + 2) = gP M (N + 1 + 2) := (hsv.2 (N + 1 + 2) (by omega) (by omega)).2.2.2
      have hlm : LnIs Ms (gP M (N + 1 + 2) li) (s.2.2.2 li) := by rw [← hPl]; exact hA1.2.2.2.2.2 li (by omega) (by omega)
      refine r_aload_n B 0 dX5_addPoint_46 rfl ?_
      refine r_iload_n B 3 dX5_addPoint_47 rfl ?_
      refine r_Vv1 B (c_X1_push l G Ms (gP M (N + 1 + 2) li) (s.2.2.2 li).1 (s.2.2.2 li).2.1 (s.2.2.2 li).2.2.1 (s.2.2.2 li).2.2.2 (RowL.line hG.2.1 hA.2.2.2.1 (i := li) (by omega) (by omega)) hlm hlk.1 v (by omega) (by omega) (by omega)) ⟨rfl, rfl⟩ ok_X1_push vi_X1_push q_725 (RowL.line hG.2.1 hA.2.2.2.1 (i := li) (by omega) (by omega)).1 rfl (fun _ => rfl) ⟨Nat.le_of_ble_eq_true rfl, Nat.le_of_ble_eq_true rfl, Nat.le_of_ble_eq_true rfl⟩ ⟨Nat.le_of_ble_eq_true rfl, Nat.le_of_ble_eq_true rfl⟩ dX5_addPoint_48 (fun Mp hpu => ?_)
      refine r_aload_n B 0 dX5_addPoint_51 rfl ?_
      refine rg1_count B (RowL.line hG.2.1 hA.2.2.2.1 (i := li) (by omega) (by omega)).1 q_69 dX5_addPoint_52 ?_
      refine r_vi (y := (s.2.2.2 li).2.2.1 + 1) hpu.1.2.2.1 ?_
      have hst : StateIs Mp (N + 1) (addP s li v) := hA1.line (M' := Mp) (i := li) (q := ((s.2.2.2 li).1, (s.2.2.2 li).2.1, (s.2.2.2 li).2.2.1 + 1, ySet (s.2.2.2 li).2.2.2 (s.2.2.2 li).2.2.1 v)) hok (by omega) (by omega) (by rw [hPl]; exact hpu.1) (by rw [hPl]; exact hpu.2)
      have hres := GgIs.save2 hsv.1 hbk hsv.2 hst (hpu.2.wide (by omega) (by omega))
      exact WM.xret (Nat.le_of_ble_eq_true rfl) (Nat.le_of_ble_eq_true rfl) (r_iret B dX5_addPoint_55 ⟨_, by unfold oAddP; rw [if_neg (by omega), if_neg (by omega), if_neg (by omega)], hres.1, hres.2⟩)
    · exact r_thrS B Tx hst (is := 192) (text := "no room for a point") (by decide +kernel) dX5_addPoint_32 dX5_addPoint_35 dX5_addPoint_36 dX5_addPoint_38 dX5_addPoint_41 ⟨Nat.le_of_ble_eq_true rfl, Nat.le_of_ble_eq_true rfl, Nat.le_of_ble_eq_true rfl, Nat.le_of_ble_eq_true rfl⟩ ⟨Nat.le_of_ble_eq_true rfl, Nat.le_of_ble_eq_true rfl⟩ ⟨Or.inr (Or.inr (⟨rfl, by unfold oAddP; rw [if_neg (by omega), if_neg (by omega), if_pos (by omega)]⟩)), rfl⟩
  · exact r_thrA B Tx hst (is := 94) (text := "value out of range") (by decide +kernel) dX5_addPoint_13 dX5_addPoint_16 dX5_addPoint_17 dX5_addPoint_19 dX5_addPoint_22 ⟨Nat.le_of_ble_eq_true rfl, Nat.le_of_ble_eq_true rfl, Nat.le_of_ble_eq_true rfl, Nat.le_of_ble_eq_true rfl⟩ ⟨Nat.le_of_ble_eq_true rfl, Nat.le_of_ble_eq_true rfl⟩ ⟨Or.inr (Or.inl ⟨rfl, by unfold oAddP; rw [if_neg (by omega), if_pos (fun q => by unfold inB at h3; rw [if_pos q] at h3; omega)]⟩), rfl⟩

set_option maxRecDepth 100000 in
set_option maxHeartbeats 4000000 in
theorem c_X5_turn (l : Launch) (hst : l.stackTraces = false) (G : Gs) (M : Mem) (N : Nat) (s : Ast) (cn : Int) (sv : Int → Ast) (hG : IsGg G N) (hB : GgIs M N (s, cn, sv)) (hbk : GgOk (s, cn, sv)) (ge k : Int) (hge : In32 ge) (hk : In32 k) : CtX l G yX5_turn cX5_turn 4 (some .int) rx_X5_turn [.ref N, .int (iI ge), .int (iI k)] M (PoI G (fun r M' => ∃ a' : Ast, oTurn s ge k = (0, r, a') ∧ GgIs M' N (a', (savG (s, cn, sv)).2) ∧ Fg M M' N)) (fun E M' => (E = eIOB ∧ oTurn s ge k = (1, 0, s) ∨ E = eISE ∧ oTurn s ge k = (2, 0, s)) ∧ Only M M' (N + 328) (N + 333)) 2 12 := by
  refine CtX.of (by decide +kernel) (Nat.le_of_ble_eq_true rfl) [(0, .ref N), (1, .int (iI ge)), (2, .int (iI k))] rfl ?_
  intro X B Tx
  have hA : StateIs M (N + 1) s := hB.1
  have hok : StateOk s := hbk.1
  have hs1 := hok.1
  have hs2 := hok.2.1
  have hs3 := hok.2.2.1
  have hs4 := hok.2.2.2.1
  obtain ⟨hge1, hge2⟩ := hge
  obtain ⟨hk1, hk2⟩ := hk
  refine r_aload_n B 0 dX5_turn_0 rfl ?_
  refine r_iload_n B 1 dX5_turn_1 rfl ?_
  refine r_xVa1 B Tx (c_X5_requireGear l hst G M N s hG hA hok ge ⟨by omega, by omega⟩) ⟨rfl, rfl⟩ ok_X5_requireGear vi_X5_requireGear q_535 hG.1 rfl (fun _ => rfl) ⟨Nat.le_of_ble_eq_true rfl, Nat.le_of_ble_eq_true rfl, Nat.le_of_ble_eq_true rfl⟩ ⟨Nat.le_of_ble_eq_true rfl, Nat.le_of_ble_eq_true rfl⟩ dX5_turn_2 ⟨Nat.le_of_ble_eq_true rfl, Nat.le_of_ble_eq_true rfl⟩ (fun E M2 hx => ⟨Or.inl ⟨hx.1, by unfold oTurn; rw [if_pos (by omega)]⟩, by rw [hx.2.2]; exact Only.rf⟩) (fun rq1 M2 hq1 => ?_)
  obtain ⟨hrq1, hgq1, hmq1⟩ := hq1
  rw [hrq1, hmq1]
  clear hrq1 hmq1
  refine r_astore_n B (lv' := [(3, .ref (gP M (N + 1 + 1) ge)), (0, .ref N), (1, .int (iI ge)), (2, .int (iI k))]) dX5_turn_5 (by decide) rfl ?_
  have hgk := hok.2.2.2.2.1 ge (by omega) (by omega)
  obtain ⟨hgk1, hgk2, hgk3, hgk4, hgk5⟩ := id hgk
  have hbg := hA.2.2.1.in (i := ge) (by omega) (by omega)
  refine r_iload_n B 3 dX5_turn_6 rfl ?_
  refine r_if_lt B dX5_turn_7 rfl ⟨by omega, by omega⟩ (fun h3 => ?_) (fun h3 => ?_)
  · exact r_thrO B Tx hst (is := 115) (text := "no such tooth") (by decide +kernel) dX5_turn_18 dX5_turn_21 dX5_turn_22 dX5_turn_24 dX5_turn_27 ⟨Nat.le_of_ble_eq_true rfl, Nat.le_of_ble_eq_true rfl, Nat.le_of_ble_eq_true rfl, Nat.le_of_ble_eq_true rfl⟩ ⟨Nat.le_of_ble_eq_true rfl, Nat.le_of_ble_eq_true rfl⟩ ⟨Or.inl ⟨rfl, by unfold oTurn; rw [if_pos (by omega)]⟩, Only.rf⟩
  · refine r_iload_n B 3 dX5_turn_10 rfl ?_
    refine r_aload_n B 0 dX5_turn_11 rfl ?_
    refine rg0_teeth B (RowG.gear hG.2.1 hA.2.2.1 (i := ge) (by omega) (by omega)).1 q_43 dX5_turn_12 ?_
    refine r_vi (y := (s.2.2.1 ge).1) (hA.2.2.2.2.1 ge (by omega) (by omega)).1 ?_
    refine r_icmp_lt B dX5_turn_15 rfl ⟨by omega, by omega⟩ ⟨by omega, by omega⟩ (fun h4 => ?_) (fun h4 => ?_)
    · have higr : IsGear G (gP M (N + 1 + 1) ge) := RowG.gear hG.2.1 hA.2.2.1 (i := ge) (by omega) (by omega)
      have higt : IsGear G (N + 328) := hG.2.2.2.2.2.2.2.1
      refine r_aload_n B 1 dX5_turn_28 rfl ?_
      refine rg5_turned B hG.1 q_177 dX5_turn_29 ?_
      refine r_aload_n B 0 dX5_turn_32 rfl ?_
      refine r_iload_n B 3 dX5_turn_33 rfl ?_
      refine r_Vv2 B (c_X0_becomeTurned l G M (N + 328) (gP M (N + 1 + 1) ge) (s.2.2.1 ge).1 (s.2.2.1 ge).2.1 (s.2.2.1 ge).2.2 k higt higr (hA.2.2.2.2.1 ge (by omega) (by omega)) hgk (by omega) (by omega) (by omega)) ⟨rfl, rfl⟩ ok_X0_becomeTurned vi_X0_becomeTurned q_603 hG.2.2.2.2.2.2.2.1.1 rfl (fun _ => rfl) ⟨Nat.le_of_ble_eq_true rfl, Nat.le_of_ble_eq_true rfl, Nat.le_of_ble_eq_true rfl⟩ ⟨Nat.le_of_ble_eq_true rfl, Nat.le_of_ble_eq_true rfl⟩ dX5_turn_34 (fun Mt hbt => ?_)
      refine r_aload_n B 1 dX5_turn_37 rfl ?_
      refine rg5_turned B hG.1 q_177 dX5_turn_38 ?_
      refine r_Vz0 B (c_X0_isInRange l G Mt (N + 328) (s.2.2.1 ge).1 (s.2.2.1 ge).2.1 (trF (s.2.2.1 ge).1 (s.2.2.1 ge).2.2 k) higt hbt.1 (by omega) (by omega) (fun t j p1 p2 p3 p4 => by have w := trF_in hgk (k := k) (by omega) (by omega) p1 p2 p3 p4; exact ⟨by omega, by omega⟩)) ⟨rfl, rfl⟩ ok_X0_isInRange vi_X0_isInRange q_607 hG.2.2.2.2.2.2.2.1.1 rfl (fun _ => rfl) ⟨Nat.le_of_ble_eq_true rfl, Nat.le_of_ble_eq_true rfl, Nat.le_of_ble_eq_true rfl⟩ ⟨Nat.le_of_ble_eq_true rfl, Nat.le_of_ble_eq_true rfl⟩ dX5_turn_41 (fun ir Mi hir => ?_)
      obtain ⟨hir, hMi⟩ := hir
      rw [hMi]
      have hir01 : 0 ≤ ir ∧ ir ≤ 1 := by rcases hir with w | w <;> omega
      refine r_if_ne B dX5_turn_44 rfl ⟨by omega, by omega⟩ (fun h5 => ?_) (fun h5 => ?_)
      · have hri : RdIn (s.2.2.1 ge).1 (trF (s.2.2.1 ge).1 (s.2.2.1 ge).2.2 k) := by rcases hir with w | w; exact w.2; exact absurd w.1 h5
        have hBt : GgIs Mt N (s, cn, sv) := hB.kept hbk (by rw [(hbt.2 N (by omega)).1]) (fun c p q => hbt.2 c (by omega))
        have hPm : gP Mt (N + 1 + 1) = gP M (N + 1 + 1) := (hbt.2 (N + 1 + 1) (by omega)).2.2.2
        refine r_aload_n B 1 dX5_turn_57 rfl ?_
        refine r_Vv0 B (c_X5_save l G Mt N s cn sv hG hBt hbk) ⟨rfl, rfl⟩ ok_X5_save vi_X5_save q_311 hG.1 rfl (fun _ => rfl) ⟨Nat.le_of_ble_eq_true rfl, Nat.le_of_ble_eq_true rfl, Nat.le_of_ble_eq_true rfl⟩ ⟨Nat.le_of_ble_eq_true rfl, Nat.le_of_ble_eq_true rfl⟩ dX5_turn_58 (fun Ms hsv => ?_)
        have hA1 : StateIs Ms (N + 1) s := StateIs.sav hsv.1
        have hPg : gP Ms (N + 1 + 1) = gP Mt (N + 1 + 1) := (hsv.2 (N + 1 + 1) (by omega) (by omega)).2.2.2
        have hPl : gP Ms (N + 1 + 2) = gP Mt (N + 1 + 2) := (hsv.2 (N + 1 + 2) (by omega) (by omega)).2.2.2
        have htm : GearIs Ms (N + 328) (s.2.2.1 ge).1 (s.2.2.1 ge).2.1 (trF (s.2.2.1 ge).1 (s.2.2.1 ge).2.2 k) := hbt.1.kept (fun c p q => hsv.2 c (by omega) (by omega))
        refine r_aload_n B 0 dX5_turn_61 rfl ?_
        refine r_aload_n B 1 dX5_turn_62 rfl ?_
        refine rg5_turned B hG.1 q_177 dX5_turn_63 ?_
        refine r_Vv1 B (c_X0_copyFrom l G Ms (gP M (N + 1 + 1) ge) (N + 328) (s.2.2.1 ge).1 (s.2.2.1 ge).2.1 (trF (s.2.2.1 ge).1 (s.2.2.1 ge).2.2 k) higr higt htm (by omega) (by omega) (by omega)) ⟨rfl, rfl⟩ ok_X0_copyFrom vi_X0_copyFrom q_613 (RowG.gear hG.2.1 hA.2.2.1 (i := ge) (by omega) (by omega)).1 rfl (fun _ => rfl) ⟨Nat.le_of_ble_eq_true rfl, Nat.le_of_ble_eq_true rfl, Nat.le_of_ble_eq_true rfl⟩ ⟨Nat.le_of_ble_eq_true rfl, Nat.le_of_ble_eq_true rfl⟩ dX5_turn_66 (fun Mf hcf => ?_)
        have hs0 : szS (s.2.2.1 ge).1 0 = (s.2.2.1 ge).1 + 1 := by unfold szS; rw [if_neg (by omega)]
        refine r_aload_n B 0 dX5_turn_69 rfl ?_
        refine rg0_readings B (RowG.gear hG.2.1 hA.2.2.1 (i := ge) (by omega) (by omega)).1 q_47 dX5_turn_70 ?_
        refine r_iconst B dX5_turn_73 ?_
        refine r_aaload11 B dX5_turn_74 (RowG.gear hG.2.1 hA.2.2.1 (i := ge) (by omega) (by omega)).2.1 (by omega) (by omega) ?_
        refine r_iconst B dX5_turn_75 ?_
        refine r_iaload B dX5_turn_76 ((RowG.gear hG.2.1 hA.2.2.1 (i := ge) (by omega) (by omega)).row (s := 0) (by omega) (by omega)) (by omega) (by omega) ?_
        refine r_vi (y := trF (s.2.2.1 ge).1 (s.2.2.1 ge).2.2 k 0 0) (hcf.1.2.2 0 0 (by omega) (by omega) (by omega) (by omega)) ?_
        have hst : StateIs Mf (N + 1) (putG s ge (trF (s.2.2.1 ge).1 (s.2.2.1 ge).2.2 k)) := hA1.gear (M' := Mf) (g := ge) (q := ((s.2.2.1 ge).1, (s.2.2.1 ge).2.1, trF (s.2.2.1 ge).1 (s.2.2.1 ge).2.2 k)) hok (by omega) (by omega) (by rw [hPg, hPm]; exact hcf.1) (by rw [hPg, hPm]; exact hcf.2)
        have hres := GgIs.save2 hsv.1 hbk hsv.2 hst (hcf.2.wide (by omega) (by omega))
        exact WM.xret (Nat.le_of_ble_eq_true rfl) (Nat.le_of_ble_eq_true rfl) (r_iret B dX5_turn_77 ⟨_, by unfold oTurn; rw [if_neg (by omega), if_neg (fun q => q hri)], hres.1, (hbt.2.fg (by omega) (by omega)).tr hres.2⟩)
      · exact r_thrS B Tx hst (is := 126) (text := "a reading would be out of range") (by decide +kernel) dX5_turn_47 dX5_turn_50 dX5_turn_51 dX5_turn_53 dX5_turn_56 ⟨Nat.le_of_ble_eq_true rfl, Nat.le_of_ble_eq_true rfl, Nat.le_of_ble_eq_true rfl, Nat.le_of_ble_eq_true rfl⟩ ⟨Nat.le_of_ble_eq_true rfl, Nat.le_of_ble_eq_true rfl⟩ ⟨Or.inr ⟨rfl, by unfold oTurn; rw [if_neg (by omega), if_pos (by rcases hir with w | w; omega; exact w.2)]⟩, hbt.2⟩
    · exact r_thrO B Tx hst (is := 115) (text := "no such tooth") (by decide +kernel) dX5_turn_18 dX5_turn_21 dX5_turn_22 dX5_turn_24 dX5_turn_27 ⟨Nat.le_of_ble_eq_true rfl, Nat.le_of_ble_eq_true rfl, Nat.le_of_ble_eq_true rfl, Nat.le_of_ble_eq_true rfl⟩ ⟨Nat.le_of_ble_eq_true rfl, Nat.le_of_ble_eq_true rfl⟩ ⟨Or.inl ⟨rfl, by unfold oTurn; rw [if_pos (by omega)]⟩, Only.rf⟩
