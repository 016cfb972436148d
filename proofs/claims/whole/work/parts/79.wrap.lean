/-! the law's wrappers: the place of what was thrown; the answer lies in a row -/
def uoK (g : Gst) : Int := if 1 ≤ g.2.1 then 0 else 1
def uoV (g : Gst) : Int := if 1 ≤ g.2.1 then g.2.1 - 1 else 0
def uoG (g : Gst) : Gst := if 1 ≤ g.2.1 then (g.2.2 (g.2.1 - 1), g.2.1 - 1, g.2.2) else g
theorem uoG_ok {g : Gst} (h : GgOk g) : GgOk (uoG g) := by
  unfold uoG
  split
  · rename_i w
    obtain ⟨h1, h2, h3, h4⟩ := h
    exact ⟨h4 _ (by omega) (by omega), by show 0 ≤ g.2.1 - 1; omega, by show g.2.1 - 1 ≤ 4; omega, fun i p q => h4 i p (by have q2 : i < g.2.1 - 1 := q; omega)⟩
  · exact h
def apL (len v : Int) : Int := if (oApp len v).1 = 0 then len + 1 else len
def apB (len v : Int) (b : Int → Int) : Int → Int := if (oApp len v).1 = 0 then upF b len v else b
theorem ap_ok {len v : Int} {b : Int → Int} (h : TxOk len b) : TxOk (apL len v) (apB len v b) := by
  unfold apL apB oApp
  split
  · rw [if_neg (by decide), if_neg (by decide)]
    exact h
  · split
    · rw [if_neg (by decide), if_neg (by decide)]
      exact h
    · rw [if_pos rfl, if_pos rfl]
      exact h.app (by omega) (by omega) (by omega)
def rw_addGear : Room := { frames := 7, cells := 1, slots := 6, locals := 156 }
def rw_removeGear : Room := { frames := 8, cells := 1, slots := 6, locals := 155 }
def rw_setReading : Room := { frames := 8, cells := 3, slots := 18, locals := 160 }
def rw_fill : Room := { frames := 8, cells := 2, slots := 12, locals := 158 }
def rw_turn : Room := { frames := 8, cells := 2, slots := 12, locals := 157 }
def rw_gear : Room := { frames := 8, cells := 2, slots := 12, locals := 173 }
def rw_reading : Room := { frames := 8, cells := 2, slots := 12, locals := 128 }
def rw_index : Room := { frames := 8, cells := 3, slots := 18, locals := 127 }
def rw_pitch : Room := { frames := 8, cells := 3, slots := 18, locals := 127 }
def rw_span : Room := { frames := 8, cells := 3, slots := 18, locals := 127 }
def rw_thickness : Room := { frames := 8, cells := 2, slots := 12, locals := 139 }
def rw_eccentricity : Room := { frames := 8, cells := 1, slots := 6, locals := 125 }
def rw_deviation : Room := { frames := 8, cells := 2, slots := 12, locals := 148 }
def rw_addLine : Room := { frames := 8, cells := 2, slots := 12, locals := 156 }
def rw_addPoint : Room := { frames := 8, cells := 2, slots := 12, locals := 157 }
def rw_removeLine : Room := { frames := 8, cells := 1, slots := 6, locals := 155 }
def rw_line : Room := { frames := 8, cells := 2, slots := 12, locals := 126 }
def rw_point : Room := { frames := 8, cells := 2, slots := 12, locals := 126 }
def rw_lineDeviation : Room := { frames := 8, cells := 3, slots := 18, locals := 126 }
def rw_best : Room := { frames := 8, cells := 3, slots := 18, locals := 133 }
def rw_tolerance : Room := { frames := 8, cells := 3, slots := 18, locals := 127 }
def rw_quality : Room := { frames := 8, cells := 2, slots := 12, locals := 173 }
def rw_decide : Room := { frames := 8, cells := 3, slots := 18, locals := 153 }
def rw_mesh : Room := { frames := 8, cells := 4, slots := 24, locals := 147 }
def rw_bestPhase : Room := { frames := 8, cells := 3, slots := 18, locals := 146 }
def rw_partner : Room := { frames := 8, cells := 2, slots := 12, locals := 148 }
def rw_mean : Room := { frames := 8, cells := 1, slots := 6, locals := 149 }
def rw_ranked : Room := { frames := 7, cells := 1, slots := 6, locals := 173 }
def rw_append : Room := { frames := 7, cells := 1, slots := 6, locals := 103 }
def rw_undo : Room := { frames := 7, cells := 1, slots := 6, locals := 132 }
set_option maxRecDepth 100000 in
set_option maxHeartbeats 4000000 in
theorem w_addGear (l : Launch) (hst : l.stackTraces = false) (G : Gs) (M : Mem) (g : Gst) (len : Int) (b : Int → Int) (hG : IsGg G G.1) (hO : At G (G.1 + 343) 12 1) (hC : CI G M g len b) (hk : OkI g len b) (t m : Int) (h_t : In32 t) (h_m : In32 m) : CtW l G yL_addGear cL_addGear 5 [(0, 10, 13, 13), (0, 10, 17, 15)] rw_addGear [.ref G.1, .int (iI t), .int (iI m), .ref (G.1 + 343)] M (PoI G (Wp G M (oAddG g.1 t m).1 (xI (oAddG g.1 t m).2.1) (nxG g (oAddG g.1 t m)) len b)) 1 6 := by
  refine CtW.of (by decide +kernel) (Nat.le_of_ble_eq_true rfl) [(0, .ref G.1), (1, .int (iI t)), (2, .int (iI m)), (3, .ref (G.1 + 343))] rfl ?_
  intro X B htb
  refine r_aload_n B 3 dL_addGear_0 rfl ?_
  refine r_iconst B dL_addGear_1 ?_
  refine r_aload_n B 0 dL_addGear_2 rfl ?_
  refine r_iload_n B 1 dL_addGear_3 rfl ?_
  refine r_iload_n B 2 dL_addGear_4 rfl ?_
  refine r_cVi B (As := [.int (iI t), .int (iI m)]) (st := [.int (iI 0), .ref (G.1 + 343)]) (c_X5_addGear l hst G M G.1 g.1 g.2.1 g.2.2 hG hC.1 hk.1 t m h_t h_m) ⟨rfl, rfl⟩ ok_X5_addGear rfl vi_X5_addGear q_437 hG.1 rfl (fun _ => rfl) rfl ⟨Nat.le_of_ble_eq_true rfl, Nat.le_of_ble_eq_true rfl, Nat.le_of_ble_eq_true rfl⟩ ⟨Nat.le_of_ble_eq_true rfl, Nat.le_of_ble_eq_true rfl⟩ dL_addGear_5 (fun E M' hx => ?_) (fun r M' hx => ?_)
  · obtain ⟨hx, hM⟩ := hx
    rw [hM]
    rcases hx with ⟨rfl, ho⟩ | ⟨rfl, ho⟩
    · exact ⟨[], ⟨0, 10, 13, 13⟩, [⟨0, 10, 17, 15⟩], htb, fun _ h => absurd h List.not_mem_nil, by decide, by decide, q_435, by decide +kernel, fun q => by
        refine r_astore B (lv' := (4, .ref q) :: [(0, .ref G.1), (1, .int (iI t)), (2, .int (iI m)), (3, .ref (G.1 + 343))]) dL_addGear_13 (by decide) rfl ?_
        refine r_iconst B dL_addGear_15 ?_
        exact r_iret B dL_addGear_16 (Wm.x ho (by decide) hC fC.rf)⟩
    · exact ⟨[⟨0, 10, 13, 13⟩], ⟨0, 10, 17, 15⟩, [], htb, List.forall_mem_cons.mpr ⟨⟨by decide, _, q_435, by decide +kernel, by decide +kernel⟩, fun _ h => absurd h List.not_mem_nil⟩, by decide, by decide, q_436, by decide +kernel, fun q => by
        refine r_astore B (lv' := (4, .ref q) :: [(0, .ref G.1), (1, .int (iI t)), (2, .int (iI m)), (3, .ref (G.1 + 343))]) dL_addGear_17 (by decide) rfl ?_
        refine r_iconst B dL_addGear_19 ?_
        exact r_iret B dL_addGear_20 (Wm.x ho (by decide) hC fC.rf)⟩
  · obtain ⟨a', ho, hS, hF⟩ := hx
    have hok : GgOk (a', (savG g).2) := ⟨by have w := ok_oAddG (s := g.1) hk.1.1 (e := (by rw [ho] : (oAddG g.1 t m).1 = 0)); rw [ho] at w; exact w, (savG_ok hk.1).2⟩
    refine r_i2lw B dL_addGear_8 ?_
    refine r_lastore B dL_addGear_9 hO (by omega) (by decide) ?_
    refine r_goto B dL_addGear_10 rfl ?_
    refine r_iconst B dL_addGear_21 ?_
    refine r_iret B dL_addGear_22 ?_
    rw [show xI r = xI (oAddG g.1 t m).2.1 from by rw [ho]]
    exact Wm.r ho hok ⟨hS, hC.2.fg hF⟩ (fC.fg hF)
set_option maxRecDepth 100000 in
set_option maxHeartbeats 4000000 in
theorem w_removeGear (l : Launch) (hst : l.stackTraces = false) (G : Gs) (M : Mem) (g : Gst) (len : Int) (b : Int → Int) (hG : IsGg G G.1) (hO : At G (G.1 + 343) 12 1) (hC : CI G M g len b) (hk : OkI g len b) (ge : Int) (h_ge : In32 ge) : CtW l G yL_removeGear cL_removeGear 4 [(0, 9, 12, 21)] rw_removeGear [.ref G.1, .int (iI ge), .ref (G.1 + 343)] M (PoI G (Wp G M (oRemG g.1 ge).1 (xI (oRemG g.1 ge).2.1) (nxG g (oRemG g.1 ge)) len b)) 1 6 := by
  refine CtW.of (by decide +kernel) (Nat.le_of_ble_eq_true rfl) [(0, .ref G.1), (1, .int (iI ge)), (2, .ref (G.1 + 343))] rfl ?_
  intro X B htb
  refine r_aload_n B 2 dL_removeGear_0 rfl ?_
  refine r_iconst B dL_removeGear_1 ?_
  refine r_aload_n B 0 dL_removeGear_2 rfl ?_
  refine r_iload_n B 1 dL_removeGear_3 rfl ?_
  refine r_cVi B (As := [.int (iI ge)]) (st := [.int (iI 0), .ref (G.1 + 343)]) (c_X5_removeGear l hst G M G.1 g.1 g.2.1 g.2.2 hG hC.1 hk.1 ge h_ge) ⟨rfl, rfl⟩ ok_X5_removeGear rfl vi_X5_removeGear q_531 hG.1 rfl (fun _ => rfl) rfl ⟨Nat.le_of_ble_eq_true rfl, Nat.le_of_ble_eq_true rfl, Nat.le_of_ble_eq_true rfl⟩ ⟨Nat.le_of_ble_eq_true rfl, Nat.le_of_ble_eq_true rfl⟩ dL_removeGear_4 (fun E M' hx => ?_) (fun r M' hx => ?_)
  · obtain ⟨hx, hM⟩ := hx
    rw [hM]
    obtain ⟨rfl, ho⟩ := hx
    exact ⟨[], ⟨0, 9, 12, 21⟩, [], htb, fun _ h => absurd h List.not_mem_nil, by decide, by decide, q_530, by decide +kernel, fun q => by
      refine r_astore_n B (lv' := (3, .ref q) :: [(0, .ref G.1), (1, .int (iI ge)), (2, .ref (G.1 + 343))]) dL_removeGear_12 (by decide) rfl ?_
      refine r_iconst B dL_removeGear_13 ?_
      exact r_iret B dL_removeGear_14 (Wm.x ho (by decide) hC fC.rf)⟩
  · obtain ⟨a', ho, hS, hF⟩ := hx
    have hok : GgOk (a', (savG g).2) := ⟨by have w := ok_oRemG (s := g.1) hk.1.1 (e := (by rw [ho] : (oRemG g.1 ge).1 = 0)); rw [ho] at w; exact w, (savG_ok hk.1).2⟩
    refine r_i2lw B dL_removeGear_7 ?_
    refine r_lastore B dL_removeGear_8 hO (by omega) (by decide) ?_
    refine r_goto B dL_removeGear_9 rfl ?_
    refine r_iconst B dL_removeGear_15 ?_
    refine r_iret B dL_removeGear_16 ?_
    rw [show xI r = xI (oRemG g.1 ge).2.1 from by rw [ho]]
    exact Wm.r ho hok ⟨hS, hC.2.fg hF⟩ (fC.fg hF)
set_option maxRecDepth 100000 in
set_option maxHeartbeats 4000000 in
theorem w_setReading (l : Launch) (hst : l.stackTraces = false) (G : Gs) (M : Mem) (g : Gst) (len : Int) (b : Int → Int) (hG : IsGg G G.1) (hO : At G (G.1 + 343) 12 1) (hC : CI G M g len b) (hk : OkI g len b) (ge se ix v : Int) (h_ge : In32 ge) (h_se : In32 se) (h_ix : In32 ix) (h_v : In32 v) : CtW l G yL_setReading cL_setReading 7 [(0, 14, 17, 21), (0, 14, 21, 13)] rw_setReading [.ref G.1, .int (iI ge), .int (iI se), .int (iI ix), .int (iI v), .ref (G.1 + 343)] M (PoI G (Wp G M (oSetR g.1 ge se ix v).1 (xI (oSetR g.1 ge se ix v).2.1) (nxG g (oSetR g.1 ge se ix v)) len b)) 3 18 := by
  refine CtW.of (by decide +kernel) (Nat.le_of_ble_eq_true rfl) [(0, .ref G.1), (1, .int (iI ge)), (2, .int (iI se)), (3, .int (iI ix)), (4, .int (iI v)), (5, .ref (G.1 + 343))] rfl ?_
  intro X B htb
  refine r_aload B 5 dL_setReading_0 rfl ?_
  refine r_iconst B dL_setReading_2 ?_
  refine r_aload_n B 0 dL_setReading_3 rfl ?_
  refine r_iload_n B 1 dL_setReading_4 rfl ?_
  refine r_iload_n B 2 dL_setReading_5 rfl ?_
  refine r_iload_n B 3 dL_setReading_6 rfl ?_
  refine r_iload B 4 dL_setReading_7 rfl ?_
  refine r_cVi B (As := [.int (iI ge), .int (iI se), .int (iI ix), .int (iI v)]) (st := [.int (iI 0), .ref (G.1 + 343)]) (c_X5_setReading l hst G M G.1 g.1 g.2.1 g.2.2 hG hC.1 hk.1 ge se ix v h_ge h_se h_ix h_v) ⟨rfl, rfl⟩ ok_X5_setReading rfl vi_X5_setReading q_566 hG.1 rfl (fun _ => rfl) rfl ⟨Nat.le_of_ble_eq_true rfl, Nat.le_of_ble_eq_true rfl, Nat.le_of_ble_eq_true rfl⟩ ⟨Nat.le_of_ble_eq_true rfl, Nat.le_of_ble_eq_true rfl⟩ dL_setReading_9 (fun E M' hx => ?_) (fun r M' hx => ?_)
  · obtain ⟨hx, hM⟩ := hx
    rw [hM]
    rcases hx with ⟨rfl, ho⟩ | ⟨rfl, ho⟩
    · exact ⟨[], ⟨0, 14, 17, 21⟩, [⟨0, 14, 21, 13⟩], htb, fun _ h => absurd h List.not_mem_nil, by decide, by decide, q_530, by decide +kernel, fun q => by
        refine r_astore B (lv' := (6, .ref q) :: [(0, .ref G.1), (1, .int (iI ge)), (2, .int (iI se)), (3, .int (iI ix)), (4, .int (iI v)), (5, .ref (G.1 + 343))]) dL_setReading_17 (by decide) rfl ?_
        refine r_iconst B dL_setReading_19 ?_
        exact r_iret B dL_setReading_20 (Wm.x ho (by decide) hC fC.rf)⟩
    · exact ⟨[⟨0, 14, 17, 21⟩], ⟨0, 14, 21, 13⟩, [], htb, List.forall_mem_cons.mpr ⟨⟨by decide, _, q_530, by decide +kernel, by decide +kernel⟩, fun _ h => absurd h List.not_mem_nil⟩, by decide, by decide, q_435, by decide +kernel, fun q => by
        refine r_astore B (lv' := (6, .ref q) :: [(0, .ref G.1), (1, .int (iI ge)), (2, .int (iI se)), (3, .int (iI ix)), (4, .int (iI v)), (5, .ref (G.1 + 343))]) dL_setReading_21 (by decide) rfl ?_
        refine r_iconst B dL_setReading_23 ?_
        exact r_iret B dL_setReading_24 (Wm.x ho (by decide) hC fC.rf)⟩
  · obtain ⟨a', ho, hS, hF⟩ := hx
    have hok : GgOk (a', (savG g).2) := ⟨by have w := ok_oSetR (s := g.1) hk.1.1 (e := (by rw [ho] : (oSetR g.1 ge se ix v).1 = 0)); rw [ho] at w; exact w, (savG_ok hk.1).2⟩
    refine r_i2lw B dL_setReading_12 ?_
    refine r_lastore B dL_setReading_13 hO (by omega) (by decide) ?_
    refine r_goto B dL_setReading_14 rfl ?_
    refine r_iconst B dL_setReading_25 ?_
    refine r_iret B dL_setReading_26 ?_
    rw [show xI r = xI (oSetR g.1 ge se ix v).2.1 from by rw [ho]]
    exact Wm.r ho hok ⟨hS, hC.2.fg hF⟩ (fC.fg hF)
set_option maxRecDepth 100000 in
set_option maxHeartbeats 4000000 in
theorem w_fill (l : Launch) (hst : l.stackTraces = false) (G : Gs) (M : Mem) (g : Gst) (len : Int) (b : Int → Int) (hG : IsGg G G.1) (hO : At G (G.1 + 343) 12 1) (hC : CI G M g len b) (hk : OkI g len b) (ge sd sp : Int) (h_ge : In32 ge) (h_sd : In32 sd) (h_sp : In32 sp) : CtW l G yL_fill cL_fill 6 [(0, 12, 15, 21), (0, 12, 19, 13)] rw_fill [.ref G.1, .int (iI ge), .int (iI sd), .int (iI sp), .ref (G.1 + 343)] M (PoI G (Wp G M (oFill g.1 ge sd sp).1 (xI (oFill g.1 ge sd sp).2.1) (nxG g (oFill g.1 ge sd sp)) len b)) 2 12 := by
  refine CtW.of (by decide +kernel) (Nat.le_of_ble_eq_true rfl) [(0, .ref G.1), (1, .int (iI ge)), (2, .int (iI sd)), (3, .int (iI sp)), (4, .ref (G.1 + 343))] rfl ?_
  intro X B htb
  refine r_aload B 4 dL_fill_0 rfl ?_
  refine r_iconst B dL_fill_2 ?_
  refine r_aload_n B 0 dL_fill_3 rfl ?_
  refine r_iload_n B 1 dL_fill_4 rfl ?_
  refine r_iload_n B 2 dL_fill_5 rfl ?_
  refine r_iload_n B 3 dL_fill_6 rfl ?_
  refine r_cVi B (As := [.int (iI ge), .int (iI sd), .int (iI sp)]) (st := [.int (iI 0), .ref (G.1 + 343)]) (c_X5_fill l hst G M G.1 g.1 g.2.1 g.2.2 hG hC.1 hk.1 ge sd sp h_ge h_sd h_sp) ⟨rfl, rfl⟩ ok_X5_fill rfl vi_X5_fill q_580 hG.1 rfl (fun _ => rfl) rfl ⟨Nat.le_of_ble_eq_true rfl, Nat.le_of_ble_eq_true rfl, Nat.le_of_ble_eq_true rfl⟩ ⟨Nat.le_of_ble_eq_true rfl, Nat.le_of_ble_eq_true rfl⟩ dL_fill_7 (fun E M' hx => ?_) (fun r M' hx => ?_)
  · obtain ⟨hx, hM⟩ := hx
    rw [hM]
    rcases hx with ⟨rfl, ho⟩ | ⟨rfl, ho⟩
    · exact ⟨[], ⟨0, 12, 15, 21⟩, [⟨0, 12, 19, 13⟩], htb, fun _ h => absurd h List.not_mem_nil, by decide, by decide, q_530, by decide +kernel, fun q => by
        refine r_astore B (lv' := (5, .ref q) :: [(0, .ref G.1), (1, .int (iI ge)), (2, .int (iI sd)), (3, .int (iI sp)), (4, .ref (G.1 + 343))]) dL_fill_15 (by decide) rfl ?_
        refine r_iconst B dL_fill_17 ?_
        exact r_iret B dL_fill_18 (Wm.x ho (by decide) hC fC.rf)⟩
    · exact ⟨[⟨0, 12, 15, 21⟩], ⟨0, 12, 19, 13⟩, [], htb, List.forall_mem_cons.mpr ⟨⟨by decide, _, q_530, by decide +kernel, by decide +kernel⟩, fun _ h => absurd h List.not_mem_nil⟩, by decide, by decide, q_435, by decide +kernel, fun q => by
        refine r_astore B (lv' := (5, .ref q) :: [(0, .ref G.1), (1, .int (iI ge)), (2, .int (iI sd)), (3, .int (iI sp)), (4, .ref (G.1 + 343))]) dL_fill_19 (by decide) rfl ?_
        refine r_iconst B dL_fill_21 ?_
        exact r_iret B dL_fill_22 (Wm.x ho (by decide) hC fC.rf)⟩
  · obtain ⟨a', ho, hS, hF⟩ := hx
    have hok : GgOk (a', (savG g).2) := ⟨by have w := ok_oFill (s := g.1) hk.1.1 (e := (by rw [ho] : (oFill g.1 ge sd sp).1 = 0)); rw [ho] at w; exact w, (savG_ok hk.1).2⟩
    refine r_i2lw B dL_fill_10 ?_
    refine r_lastore B dL_fill_11 hO (by omega) (by decide) ?_
    refine r_goto B dL_fill_12 rfl ?_
    refine r_iconst B dL_fill_23 ?_
    refine r_iret B dL_fill_24 ?_
    rw [show xI r = xI (oFill g.1 ge sd sp).2.1 from by rw [ho]]
    exact Wm.r ho hok ⟨hS, hC.2.fg hF⟩ (fC.fg hF)
set_option maxRecDepth 100000 in
set_option maxHeartbeats 4000000 in
theorem w_turn (l : Launch) (hst : l.stackTraces = false) (G : Gs) (M : Mem) (g : Gst) (len : Int) (b : Int → Int) (hG : IsGg G G.1) (hO : At G (G.1 + 343) 12 1) (hC : CI G M g len b) (hk : OkI g len b) (ge k : Int) (h_ge : In32 ge) (h_k : In32 k) : CtW l G yL_turn cL_turn 5 [(0, 10, 13, 21), (0, 10, 17, 15)] rw_turn [.ref G.1, .int (iI ge), .int (iI k), .ref (G.1 + 343)] M (PoI G (Wp G M (oTurn g.1 ge k).1 (xI (oTurn g.1 ge k).2.1) (nxG g (oTurn g.1 ge k)) len b)) 2 12 := by
  refine CtW.of (by decide +kernel) (Nat.le_of_ble_eq_true rfl) [(0, .ref G.1), (1, .int (iI ge)), (2, .int (iI k)), (3, .ref (G.1 + 343))] rfl ?_
  intro X B htb
  refine r_aload_n B 3 dL_turn_0 rfl ?_
  refine r_iconst B dL_turn_1 ?_
  refine r_aload_n B 0 dL_turn_2 rfl ?_
  refine r_iload_n B 1 dL_turn_3 rfl ?_
  refine r_iload_n B 2 dL_turn_4 rfl ?_
  refine r_cVi B (As := [.int (iI ge), .int (iI k)]) (st := [.int (iI 0), .ref (G.1 + 343)]) (c_X5_turn l hst G M G.1 g.1 g.2.1 g.2.2 hG hC.1 hk.1 ge k h_ge h_k) ⟨rfl, rfl⟩ ok_X5_turn rfl vi_X5_turn q_598 hG.1 rfl (fun _ => rfl) rfl ⟨Nat.le_of_ble_eq_true rfl, Nat.le_of_ble_eq_true rfl, Nat.le_of_ble_eq_true rfl⟩ ⟨Nat.le_of_ble_eq_true rfl, Nat.le_of_ble_eq_true rfl⟩ dL_turn_5 (fun E M' hx => ?_) (fun r M' hx => ?_)
  · obtain ⟨hx, hM⟩ := hx
    rcases hx with ⟨rfl, ho⟩ | ⟨rfl, ho⟩
    · exact ⟨[], ⟨0, 10, 13, 21⟩, [⟨0, 10, 17, 15⟩], htb, fun _ h => absurd h List.not_mem_nil, by decide, by decide, q_530, by decide +kernel, fun q => by
        refine r_astore B (lv' := (4, .ref q) :: [(0, .ref G.1), (1, .int (iI ge)), (2, .int (iI k)), (3, .ref (G.1 + 343))]) dL_turn_13 (by decide) rfl ?_
        refine r_iconst B dL_turn_15 ?_
        exact r_iret B dL_turn_16 (Wm.x ho (by decide) (hC.same hk.1 (fun c p => hM c (by omega))) (fC.only hM (by omega)))⟩
    · exact ⟨[⟨0, 10, 13, 21⟩], ⟨0, 10, 17, 15⟩, [], htb, List.forall_mem_cons.mpr ⟨⟨by decide, _, q_530, by decide +kernel, by decide +kernel⟩, fun _ h => absurd h List.not_mem_nil⟩, by decide, by decide, q_436, by decide +kernel, fun q => by
        refine r_astore B (lv' := (4, .ref q) :: [(0, .ref G.1), (1, .int (iI ge)), (2, .int (iI k)), (3, .ref (G.1 + 343))]) dL_turn_17 (by decide) rfl ?_
        refine r_iconst B dL_turn_19 ?_
        exact r_iret B dL_turn_20 (Wm.x ho (by decide) (hC.same hk.1 (fun c p => hM c (by omega))) (fC.only hM (by omega)))⟩
  · obtain ⟨a', ho, hS, hF⟩ := hx
    have hok : GgOk (a', (savG g).2) := ⟨by have w := ok_oTurn (s := g.1) hk.1.1 (e := (by rw [ho] : (oTurn g.1 ge k).1 = 0)); rw [ho] at w; exact w, (savG_ok hk.1).2⟩
    refine r_i2lw B dL_turn_8 ?_
    refine r_lastore B dL_turn_9 hO (by omega) (by decide) ?_
    refine r_goto B dL_turn_10 rfl ?_
    refine r_iconst B dL_turn_21 ?_
    refine r_iret B dL_turn_22 ?_
    rw [show xI r = xI (oTurn g.1 ge k).2.1 from by rw [ho]]
    exact Wm.r ho hok ⟨hS, hC.2.fg hF⟩ (fC.fg hF)
set_option maxRecDepth 100000 in
set_option maxHeartbeats 4000000 in
theorem w_gear (l : Launch) (hst : l.stackTraces = false) (G : Gs) (M : Mem) (g : Gst) (len : Int) (b : Int → Int) (hG : IsGg G G.1) (hO : At G (G.1 + 343) 12 1) (hC : CI G M g len b) (hk : OkI g len b) (ge wh : Int) (h_ge : In32 ge) (h_wh : In32 wh) : CtW l G yL_gear cL_gear 5 [(0, 10, 13, 21), (0, 10, 17, 13)] rw_gear [.ref G.1, .int (iI ge), .int (iI wh), .ref (G.1 + 343)] M (PoI G (Wp G M (oGear g.1 ge wh).1 (xI (oGear g.1 ge wh).2) g len b)) 2 12 := by
  refine CtW.of (by decide +kernel) (Nat.le_of_ble_eq_true rfl) [(0, .ref G.1), (1, .int (iI ge)), (2, .int (iI wh)), (3, .ref (G.1 + 343))] rfl ?_
  intro X B htb
  refine r_aload_n B 3 dL_gear_0 rfl ?_
  refine r_iconst B dL_gear_1 ?_
  refine r_aload_n B 0 dL_gear_2 rfl ?_
  refine r_iload_n B 1 dL_gear_3 rfl ?_
  refine r_iload_n B 2 dL_gear_4 rfl ?_
  refine r_cVi B (As := [.int (iI ge), .int (iI wh)]) (st := [.int (iI 0), .ref (G.1 + 343)]) (c_X5_gear l hst G M G.1 g.1 hG hC.1.1 hk.1.1 ge wh h_ge h_wh) ⟨rfl, rfl⟩ ok_X5_gear rfl vi_X5_gear q_617 hG.1 rfl (fun _ => rfl) rfl ⟨Nat.le_of_ble_eq_true rfl, Nat.le_of_ble_eq_true rfl, Nat.le_of_ble_eq_true rfl⟩ ⟨Nat.le_of_ble_eq_true rfl, Nat.le_of_ble_eq_true rfl⟩ dL_gear_5 (fun E M' hx => ?_) (fun r M' hx => ?_)
  · obtain ⟨hx, hM⟩ := hx
    rw [hM]
    rcases hx with ⟨rfl, ho⟩ | ⟨rfl, ho⟩
    · exact ⟨[], ⟨0, 10, 13, 21⟩, [⟨0, 10, 17, 13⟩], htb, fun _ h => absurd h List.not_mem_nil, by decide, by decide, q_530, by decide +kernel, fun q => by
        refine r_astore B (lv' := (4, .ref q) :: [(0, .ref G.1), (1, .int (iI ge)), (2, .int (iI wh)), (3, .ref (G.1 + 343))]) dL_gear_13 (by decide) rfl ?_
        refine r_iconst B dL_gear_15 ?_
        exact r_iret B dL_gear_16 (Wp.x ho (by decide) hC fC.rf)⟩
    · exact ⟨[⟨0, 10, 13, 21⟩], ⟨0, 10, 17, 13⟩, [], htb, List.forall_mem_cons.mpr ⟨⟨by decide, _, q_530, by decide +kernel, by decide +kernel⟩, fun _ h => absurd h List.not_mem_nil⟩, by decide, by decide, q_435, by decide +kernel, fun q => by
        refine r_astore B (lv' := (4, .ref q) :: [(0, .ref G.1), (1, .int (iI ge)), (2, .int (iI wh)), (3, .ref (G.1 + 343))]) dL_gear_17 (by decide) rfl ?_
        refine r_iconst B dL_gear_19 ?_
        exact r_iret B dL_gear_20 (Wp.x ho (by decide) hC fC.rf)⟩
  · obtain ⟨ho, hM⟩ := hx
    rw [hM]
    refine r_i2lw B dL_gear_8 ?_
    refine r_lastore B dL_gear_9 hO (by omega) (by decide) ?_
    refine r_goto B dL_gear_10 rfl ?_
    refine r_iconst B dL_gear_21 ?_
    refine r_iret B dL_gear_22 ?_
    rw [show xI r = xI (oGear g.1 ge wh).2 from by rw [ho]]
    exact Wp.r ho hk.1 hC fC.rf
set_option maxRecDepth 100000 in
set_option maxHeartbeats 4000000 in
theorem w_reading (l : Launch) (hst : l.stackTraces = false) (G : Gs) (M : Mem) (g : Gst) (len : Int) (b : Int → Int) (hG : IsGg G G.1) (hO : At G (G.1 + 343) 12 1) (hC : CI G M g len b) (hk : OkI g len b) (ge se ix : Int) (h_ge : In32 ge) (h_se : In32 se) (h_ix : In32 ix) : CtW l G yL_reading cL_reading 6 [(0, 12, 15, 21)] rw_reading [.ref G.1, .int (iI ge), .int (iI se), .int (iI ix), .ref (G.1 + 343)] M (PoI G (Wp G M (oReading g.1 ge se ix).1 (xI (oReading g.1 ge se ix).2) g len b)) 2 12 := by
  refine CtW.of (by decide +kernel) (Nat.le_of_ble_eq_true rfl) [(0, .ref G.1), (1, .int (iI ge)), (2, .int (iI se)), (3, .int (iI ix)), (4, .ref (G.1 + 343))] rfl ?_
  intro X B htb
  refine r_aload B 4 dL_reading_0 rfl ?_
  refine r_iconst B dL_reading_2 ?_
  refine r_aload_n B 0 dL_reading_3 rfl ?_
  refine r_iload_n B 1 dL_reading_4 rfl ?_
  refine r_iload_n B 2 dL_reading_5 rfl ?_
  refine r_iload_n B 3 dL_reading_6 rfl ?_
  refine r_cVi B (As := [.int (iI ge), .int (iI se), .int (iI ix)]) (st := [.int (iI 0), .ref (G.1 + 343)]) (c_X5_reading l hst G M G.1 g.1 hG hC.1.1 hk.1.1 ge se ix h_ge h_se h_ix) ⟨rfl, rfl⟩ ok_X5_reading rfl vi_X5_reading q_625 hG.1 rfl (fun _ => rfl) rfl ⟨Nat.le_of_ble_eq_true rfl, Nat.le_of_ble_eq_true rfl, Nat.le_of_ble_eq_true rfl⟩ ⟨Nat.le_of_ble_eq_true rfl, Nat.le_of_ble_eq_true rfl⟩ dL_reading_7 (fun E M' hx => ?_) (fun r M' hx => ?_)
  · obtain ⟨hx, hM⟩ := hx
    rw [hM]
    obtain ⟨rfl, ho⟩ := hx
    exact ⟨[], ⟨0, 12, 15, 21⟩, [], htb, fun _ h => absurd h List.not_mem_nil, by decide, by decide, q_530, by decide +kernel, fun q => by
      refine r_astore B (lv' := (5, .ref q) :: [(0, .ref G.1), (1, .int (iI ge)), (2, .int (iI se)), (3, .int (iI ix)), (4, .ref (G.1 + 343))]) dL_reading_15 (by decide) rfl ?_
      refine r_iconst B dL_reading_17 ?_
      exact r_iret B dL_reading_18 (Wp.x ho (by decide) hC fC.rf)⟩
  · obtain ⟨ho, hM⟩ := hx
    rw [hM]
    refine r_i2lw B dL_reading_10 ?_
    refine r_lastore B dL_reading_11 hO (by omega) (by decide) ?_
    refine r_goto B dL_reading_12 rfl ?_
    refine r_iconst B dL_reading_19 ?_
    refine r_iret B dL_reading_20 ?_
    rw [show xI r = xI (oReading g.1 ge se ix).2 from by rw [ho]]
    exact Wp.r ho hk.1 hC fC.rf
set_option maxRecDepth 100000 in
set_option maxHeartbeats 4000000 in
theorem w_index (l : Launch) (hst : l.stackTraces = false) (G : Gs) (M : Mem) (g : Gst) (len : Int) (b : Int → Int) (hG : IsGg G G.1) (hO : At G (G.1 + 343) 12 1) (hC : CI G M g len b) (hk : OkI g len b) (ge fl tt : Int) (h_ge : In32 ge) (h_fl : In32 fl) (h_tt : In32 tt) : CtW l G yL_index cL_index 6 [(0, 12, 15, 21)] rw_index [.ref G.1, .int (iI ge), .int (iI fl), .int (iI tt), .ref (G.1 + 343)] M (PoI G (Wp G M (oIndex g.1 ge fl tt).1 (xI (oIndex g.1 ge fl tt).2) g len b)) 3 18 := by
  refine CtW.of (by decide +kernel) (Nat.le_of_ble_eq_true rfl) [(0, .ref G.1), (1, .int (iI ge)), (2, .int (iI fl)), (3, .int (iI tt)), (4, .ref (G.1 + 343))] rfl ?_
  intro X B htb
  refine r_aload B 4 dL_index_0 rfl ?_
  refine r_iconst B dL_index_2 ?_
  refine r_aload_n B 0 dL_index_3 rfl ?_
  refine r_iload_n B 1 dL_index_4 rfl ?_
  refine r_iload_n B 2 dL_index_5 rfl ?_
  refine r_iload_n B 3 dL_index_6 rfl ?_
  refine r_cVi B (As := [.int (iI ge), .int (iI fl), .int (iI tt)]) (st := [.int (iI 0), .ref (G.1 + 343)]) (c_X5_index l hst G M G.1 g.1 hG hC.1.1 hk.1.1 ge fl tt h_ge h_fl h_tt) ⟨rfl, rfl⟩ ok_X5_index rfl vi_X5_index q_632 hG.1 rfl (fun _ => rfl) rfl ⟨Nat.le_of_ble_eq_true rfl, Nat.le_of_ble_eq_true rfl, Nat.le_of_ble_eq_true rfl⟩ ⟨Nat.le_of_ble_eq_true rfl, Nat.le_of_ble_eq_true rfl⟩ dL_index_7 (fun E M' hx => ?_) (fun r M' hx => ?_)
  · obtain ⟨hx, hM⟩ := hx
    rw [hM]
    obtain ⟨rfl, ho⟩ := hx
    exact ⟨[], ⟨0, 12, 15, 21⟩, [], htb, fun _ h => absurd h List.not_mem_nil, by decide, by decide, q_530, by decide +kernel, fun q => by
      refine r_astore B (lv' := (5, .ref q) :: [(0, .ref G.1), (1, .int (iI ge)), (2, .int (iI fl)), (3, .int (iI tt)), (4, .ref (G.1 + 343))]) dL_index_15 (by decide) rfl ?_
      refine r_iconst B dL_index_17 ?_
      exact r_iret B dL_index_18 (Wp.x ho (by decide) hC fC.rf)⟩
  · obtain ⟨ho, hM⟩ := hx
    rw [hM]
    refine r_i2lw B dL_index_10 ?_
    refine r_lastore B dL_index_11 hO (by omega) (by decide) ?_
    refine r_goto B dL_index_12 rfl ?_
    refine r_iconst B dL_index_19 ?_
    refine r_iret B dL_index_20 ?_
    rw [show xI r = xI (oIndex g.1 ge fl tt).2 from by rw [ho]]
    exact Wp.r ho hk.1 hC fC.rf
set_option maxRecDepth 100000 in
set_option maxHeartbeats 4000000 in
theorem w_pitch (l : Launch) (hst : l.stackTraces = false) (G : Gs) (M : Mem) (g : Gst) (len : Int) (b : Int → Int) (hG : IsGg G G.1) (hO : At G (G.1 + 343) 12 1) (hC : CI G M g len b) (hk : OkI g len b) (ge fl tt : Int) (h_ge : In32 ge) (h_fl : In32 fl) (h_tt : In32 tt) : CtW l G yL_pitch cL_pitch 6 [(0, 12, 15, 21)] rw_pitch [.ref G.1, .int (iI ge), .int (iI fl), .int (iI tt), .ref (G.1 + 343)] M (PoI G (Wp G M (oPitch g.1 ge fl tt).1 (xI (oPitch g.1 ge fl tt).2) g len b)) 3 18 := by
  refine CtW.of (by decide +kernel) (Nat.le_of_ble_eq_true rfl) [(0, .ref G.1), (1, .int (iI ge)), (2, .int (iI fl)), (3, .int (iI tt)), (4, .ref (G.1 + 343))] rfl ?_
  intro X B htb
  refine r_aload B 4 dL_pitch_0 rfl ?_
  refine r_iconst B dL_pitch_2 ?_
  refine r_aload_n B 0 dL_pitch_3 rfl ?_
  refine r_iload_n B 1 dL_pitch_4 rfl ?_
  refine r_iload_n B 2 dL_pitch_5 rfl ?_
  refine r_iload_n B 3 dL_pitch_6 rfl ?_
  refine r_cVi B (As := [.int (iI ge), .int (iI fl), .int (iI tt)]) (st := [.int (iI 0), .ref (G.1 + 343)]) (c_X5_pitch l hst G M G.1 g.1 hG hC.1.1 hk.1.1 ge fl tt h_ge h_fl h_tt) ⟨rfl, rfl⟩ ok_X5_pitch rfl vi_X5_pitch q_644 hG.1 rfl (fun _ => rfl) rfl ⟨Nat.le_of_ble_eq_true rfl, Nat.le_of_ble_eq_true rfl, Nat.le_of_ble_eq_true rfl⟩ ⟨Nat.le_of_ble_eq_true rfl, Nat.le_of_ble_eq_true rfl⟩ dL_pitch_7 (fun E M' hx => ?_) (fun r M' hx => ?_)
  · obtain ⟨hx, hM⟩ := hx
    rw [hM]
    obtain ⟨rfl, ho⟩ := hx
    exact ⟨[], ⟨0, 12, 15, 21⟩, [], htb, fun _ h => absurd h List.not_mem_nil, by decide, by decide, q_530, by decide +kernel, fun q => by
      refine r_astore B (lv' := (5, .ref q) :: [(0, .ref G.1), (1, .int (iI ge)), (2, .int (iI fl)), (3, .int (iI tt)), (4, .ref (G.1 + 343))]) dL_pitch_15 (by decide) rfl ?_
      refine r_iconst B dL_pitch_17 ?_
      exact r_iret B dL_pitch_18 (Wp.x ho (by decide) hC fC.rf)⟩
  · obtain ⟨ho, hM⟩ := hx
    rw [hM]
    refine r_i2lw B dL_pitch_10 ?_
    refine r_lastore B dL_pitch_11 hO (by omega) (by decide) ?_
    refine r_goto B dL_pitch_12 rfl ?_
    refine r_iconst B dL_pitch_19 ?_
    refine r_iret B dL_pitch_20 ?_
    rw [show xI r = xI (oPitch g.1 ge fl tt).2 from by rw [ho]]
    exact Wp.r ho hk.1 hC fC.rf
set_option maxRecDepth 100000 in
set_option maxHeartbeats 4000000 in
theorem w_span (l : Launch) (hst : l.stackTraces = false) (G : Gs) (M : Mem) (g : Gst) (len : Int) (b : Int → Int) (hG : IsGg G G.1) (hO : At G (G.1 + 343) 12 1) (hC : CI G M g len b) (hk : OkI g len b) (ge fl tt : Int) (h_ge : In32 ge) (h_fl : In32 fl) (h_tt : In32 tt) : CtW l G yL_span cL_span 6 [(0, 12, 15, 21), (0, 12, 19, 13)] rw_span [.ref G.1, .int (iI ge), .int (iI fl), .int (iI tt), .ref (G.1 + 343)] M (PoI G (Wp G M (oSpan g.1 ge fl tt).1 (xI (oSpan g.1 ge fl tt).2) g len b)) 3 18 := by
  refine CtW.of (by decide +kernel) (Nat.le_of_ble_eq_true rfl) [(0, .ref G.1), (1, .int (iI ge)), (2, .int (iI fl)), (3, .int (iI tt)), (4, .ref (G.1 + 343))] rfl ?_
  intro X B htb
  refine r_aload B 4 dL_span_0 rfl ?_
  refine r_iconst B dL_span_2 ?_
  refine r_aload_n B 0 dL_span_3 rfl ?_
  refine r_iload_n B 1 dL_span_4 rfl ?_
  refine r_iload_n B 2 dL_span_5 rfl ?_
  refine r_iload_n B 3 dL_span_6 rfl ?_
  refine r_cVi B (As := [.int (iI ge), .int (iI fl), .int (iI tt)]) (st := [.int (iI 0), .ref (G.1 + 343)]) (c_X5_span l hst G M G.1 g.1 hG hC.1.1 hk.1.1 ge fl tt h_ge h_fl h_tt) ⟨rfl, rfl⟩ ok_X5_span rfl vi_X5_span q_651 hG.1 rfl (fun _ => rfl) rfl ⟨Nat.le_of_ble_eq_true rfl, Nat.le_of_ble_eq_true rfl, Nat.le_of_ble_eq_true rfl⟩ ⟨Nat.le_of_ble_eq_true rfl, Nat.le_of_ble_eq_true rfl⟩ dL_span_7 (fun E M' hx => ?_) (fun r M' hx => ?_)
  · obtain ⟨hx, hM⟩ := hx
    rw [hM]
    rcases hx with ⟨rfl, ho⟩ | ⟨rfl, ho⟩
    · exact ⟨[], ⟨0, 12, 15, 21⟩, [⟨0, 12, 19, 13⟩], htb, fun _ h => absurd h List.not_mem_nil, by decide, by decide, q_530, by decide +kernel, fun q => by
        refine r_astore B (lv' := (5, .ref q) :: [(0, .ref G.1), (1, .int (iI ge)), (2, .int (iI fl)), (3, .int (iI tt)), (4, .ref (G.1 + 343))]) dL_span_15 (by decide) rfl ?_
        refine r_iconst B dL_span_17 ?_
        exact r_iret B dL_span_18 (Wp.x ho (by decide) hC fC.rf)⟩
    · exact ⟨[⟨0, 12, 15, 21⟩], ⟨0, 12, 19, 13⟩, [], htb, List.forall_mem_cons.mpr ⟨⟨by decide, _, q_530, by decide +kernel, by decide +kernel⟩, fun _ h => absurd h List.not_mem_nil⟩, by decide, by decide, q_435, by decide +kernel, fun q => by
        refine r_astore B (lv' := (5, .ref q) :: [(0, .ref G.1), (1, .int (iI ge)), (2, .int (iI fl)), (3, .int (iI tt)), (4, .ref (G.1 + 343))]) dL_span_19 (by decide) rfl ?_
        refine r_iconst B dL_span_21 ?_
        exact r_iret B dL_span_22 (Wp.x ho (by decide) hC fC.rf)⟩
  · obtain ⟨ho, hM⟩ := hx
    rw [hM]
    refine r_i2lw B dL_span_10 ?_
    refine r_lastore B dL_span_11 hO (by omega) (by decide) ?_
    refine r_goto B dL_span_12 rfl ?_
    refine r_iconst B dL_span_23 ?_
    refine r_iret B dL_span_24 ?_
    rw [show xI r = xI (oSpan g.1 ge fl tt).2 from by rw [ho]]
    exact Wp.r ho hk.1 hC fC.rf
set_option maxRecDepth 100000 in
set_option maxHeartbeats 4000000 in
theorem w_thickness (l : Launch) (hst : l.stackTraces = false) (G : Gs) (M : Mem) (g : Gst) (len : Int) (b : Int → Int) (hG : IsGg G G.1) (hO : At G (G.1 + 343) 12 1) (hC : CI G M g len b) (hk : OkI g len b) (ge tt : Int) (h_ge : In32 ge) (h_tt : In32 tt) : CtW l G yL_thickness cL_thickness 5 [(0, 10, 13, 21)] rw_thickness [.ref G.1, .int (iI ge), .int (iI tt), .ref (G.1 + 343)] M (PoI G (Wp G M (oThick g.1 ge tt).1 (xI (oThick g.1 ge tt).2) g len b)) 2 12 := by
  refine CtW.of (by decide +kernel) (Nat.le_of_ble_eq_true rfl) [(0, .ref G.1), (1, .int (iI ge)), (2, .int (iI tt)), (3, .ref (G.1 + 343))] rfl ?_
  intro X B htb
  refine r_aload_n B 3 dL_thickness_0 rfl ?_
  refine r_iconst B dL_thickness_1 ?_
  refine r_aload_n B 0 dL_thickness_2 rfl ?_
  refine r_iload_n B 1 dL_thickness_3 rfl ?_
  refine r_iload_n B 2 dL_thickness_4 rfl ?_
  refine r_cVi B (As := [.int (iI ge), .int (iI tt)]) (st := [.int (iI 0), .ref (G.1 + 343)]) (c_X5_thickness l hst G M G.1 g.1 hG hC.1.1 hk.1.1 ge tt h_ge h_tt) ⟨rfl, rfl⟩ ok_X5_thickness rfl vi_X5_thickness q_667 hG.1 rfl (fun _ => rfl) rfl ⟨Nat.le_of_ble_eq_true rfl, Nat.le_of_ble_eq_true rfl, Nat.le_of_ble_eq_true rfl⟩ ⟨Nat.le_of_ble_eq_true rfl, Nat.le_of_ble_eq_true rfl⟩ dL_thickness_5 (fun E M' hx => ?_) (fun r M' hx => ?_)
  · obtain ⟨hx, hM⟩ := hx
    rw [hM]
    obtain ⟨rfl, ho⟩ := hx
    exact ⟨[], ⟨0, 10, 13, 21⟩, [], htb, fun _ h => absurd h List.not_mem_nil, by decide, by decide, q_530, by decide +kernel, fun q => by
      refine r_astore B (lv' := (4, .ref q) :: [(0, .ref G.1), (1, .int (iI ge)), (2, .int (iI tt)), (3, .ref (G.1 + 343))]) dL_thickness_13 (by decide) rfl ?_
      refine r_iconst B dL_thickness_15 ?_
      exact r_iret B dL_thickness_16 (Wp.x ho (by decide) hC fC.rf)⟩
  · obtain ⟨ho, hM⟩ := hx
    rw [hM]
    refine r_i2lw B dL_thickness_8 ?_
    refine r_lastore B dL_thickness_9 hO (by omega) (by decide) ?_
    refine r_goto B dL_thickness_10 rfl ?_
    refine r_iconst B dL_thickness_17 ?_
    refine r_iret B dL_thickness_18 ?_
    rw [show xI r = xI (oThick g.1 ge tt).2 from by rw [ho]]
    exact Wp.r ho hk.1 hC fC.rf
set_option maxRecDepth 100000 in
set_option maxHeartbeats 4000000 in
theorem w_eccentricity (l : Launch) (hst : l.stackTraces = false) (G : Gs) (M : Mem) (g : Gst) (len : Int) (b : Int → Int) (hG : IsGg G G.1) (hO : At G (G.1 + 344) 13 1) (hC : CI G M g len b) (hk : OkI g len b) (ge : Int) (h_ge : In32 ge) : CtW l G yL_eccentricity cL_eccentricity 4 [(0, 8, 11, 21)] rw_eccentricity [.ref G.1, .int (iI ge), .ref (G.1 + 344)] M (PoI G (Wd G M (oEcc g.1 ge).1 (halfD (oEcc g.1 ge).2) g len b)) 1 6 := by
  refine CtW.of (by decide +kernel) (Nat.le_of_ble_eq_true rfl) [(0, .ref G.1), (1, .int (iI ge)), (2, .ref (G.1 + 344))] rfl ?_
  intro X B htb
  refine r_aload_n B 2 dL_eccentricity_0 rfl ?_
  refine r_iconst B dL_eccentricity_1 ?_
  refine r_aload_n B 0 dL_eccentricity_2 rfl ?_
  refine r_iload_n B 1 dL_eccentricity_3 rfl ?_
  refine r_cVd B (As := [.int (iI ge)]) (st := [.int (iI 0), .ref (G.1 + 344)]) (c_X5_eccentricity l hst G M G.1 g.1 hG hC.1.1 hk.1.1 ge h_ge) ⟨rfl, rfl⟩ ok_X5_eccentricity rfl vi_X5_eccentricity q_683 hG.1 rfl (fun _ => rfl) rfl ⟨Nat.le_of_ble_eq_true rfl, Nat.le_of_ble_eq_true rfl, Nat.le_of_ble_eq_true rfl⟩ ⟨Nat.le_of_ble_eq_true rfl, Nat.le_of_ble_eq_true rfl⟩ dL_eccentricity_4 (fun E M' hx => ?_) (fun r M' hx => ?_)
  · obtain ⟨hx, hM⟩ := hx
    rw [hM]
    obtain ⟨rfl, ho⟩ := hx
    exact ⟨[], ⟨0, 8, 11, 21⟩, [], htb, fun _ h => absurd h List.not_mem_nil, by decide, by decide, q_530, by decide +kernel, fun q => by
      refine r_astore_n B (lv' := (3, .ref q) :: [(0, .ref G.1), (1, .int (iI ge)), (2, .ref (G.1 + 344))]) dL_eccentricity_11 (by decide) rfl ?_
      refine r_iconst B dL_eccentricity_12 ?_
      exact r_iret B dL_eccentricity_13 (Wd.x ho (by decide) hC fC.rf)⟩
  · obtain ⟨⟨v, ho, hv⟩, hM⟩ := hx
    rw [hM, hv]
    refine r_dastore B dL_eccentricity_7 hO (by omega) (by decide) ?_
    refine r_goto B dL_eccentricity_8 rfl ?_
    refine r_iconst B dL_eccentricity_14 ?_
    refine r_iret B dL_eccentricity_15 ?_
    rw [show halfD v = halfD (oEcc g.1 ge).2 from by rw [ho]]
    exact Wd.r ho hk.1 hC fC.rf
set_option maxRecDepth 100000 in
set_option maxHeartbeats 4000000 in
theorem w_deviation (l : Launch) (hst : l.stackTraces = false) (G : Gs) (M : Mem) (g : Gst) (len : Int) (b : Int → Int) (hG : IsGg G G.1) (hO : At G (G.1 + 343) 12 1) (hC : CI G M g len b) (hk : OkI g len b) (ge wh : Int) (h_ge : In32 ge) (h_wh : In32 wh) : CtW l G yL_deviation cL_deviation 5 [(0, 10, 13, 21), (0, 10, 17, 13)] rw_deviation [.ref G.1, .int (iI ge), .int (iI wh), .ref (G.1 + 343)] M (PoI G (Wp G M (oDev g.1 ge wh).1 (xI (oDev g.1 ge wh).2) g len b)) 2 12 := by
  refine CtW.of (by decide +kernel) (Nat.le_of_ble_eq_true rfl) [(0, .ref G.1), (1, .int (iI ge)), (2, .int (iI wh)), (3, .ref (G.1 + 343))] rfl ?_
  intro X B htb
  refine r_aload_n B 3 dL_deviation_0 rfl ?_
  refine r_iconst B dL_deviation_1 ?_
  refine r_aload_n B 0 dL_deviation_2 rfl ?_
  refine r_iload_n B 1 dL_deviation_3 rfl ?_
  refine r_iload_n B 2 dL_deviation_4 rfl ?_
  refine r_cVi B (As := [.int (iI ge), .int (iI wh)]) (st := [.int (iI 0), .ref (G.1 + 343)]) (c_X5_deviation l hst G M G.1 g.1 hG hC.1.1 hk.1.1 ge wh h_ge h_wh) ⟨rfl, rfl⟩ ok_X5_deviation rfl vi_X5_deviation q_695 hG.1 rfl (fun _ => rfl) rfl ⟨Nat.le_of_ble_eq_true rfl, Nat.le_of_ble_eq_true rfl, Nat.le_of_ble_eq_true rfl⟩ ⟨Nat.le_of_ble_eq_true rfl, Nat.le_of_ble_eq_true rfl⟩ dL_deviation_5 (fun E M' hx => ?_) (fun r M' hx => ?_)
  · obtain ⟨hx, hM⟩ := hx
    rw [hM]
    rcases hx with ⟨rfl, ho⟩ | ⟨rfl, ho⟩
    · exact ⟨[], ⟨0, 10, 13, 21⟩, [⟨0, 10, 17, 13⟩], htb, fun _ h => absurd h List.not_mem_nil, by decide, by decide, q_530, by decide +kernel, fun q => by
        refine r_astore B (lv' := (4, .ref q) :: [(0, .ref G.1), (1, .int (iI ge)), (2, .int (iI wh)), (3, .ref (G.1 + 343))]) dL_deviation_13 (by decide) rfl ?_
        refine r_iconst B dL_deviation_15 ?_
        exact r_iret B dL_deviation_16 (Wp.x ho (by decide) hC fC.rf)⟩
    · exact ⟨[⟨0, 10, 13, 21⟩], ⟨0, 10, 17, 13⟩, [], htb, List.forall_mem_cons.mpr ⟨⟨by decide, _, q_530, by decide +kernel, by decide +kernel⟩, fun _ h => absurd h List.not_mem_nil⟩, by decide, by decide, q_435, by decide +kernel, fun q => by
        refine r_astore B (lv' := (4, .ref q) :: [(0, .ref G.1), (1, .int (iI ge)), (2, .int (iI wh)), (3, .ref (G.1 + 343))]) dL_deviation_17 (by decide) rfl ?_
        refine r_iconst B dL_deviation_19 ?_
        exact r_iret B dL_deviation_20 (Wp.x ho (by decide) hC fC.rf)⟩
  · obtain ⟨ho, hM⟩ := hx
    rw [hM]
    refine r_i2lw B dL_deviation_8 ?_
    refine r_lastore B dL_deviation_9 hO (by omega) (by decide) ?_
    refine r_goto B dL_deviation_10 rfl ?_
    refine r_iconst B dL_deviation_21 ?_
    refine r_iret B dL_deviation_22 ?_
    rw [show xI r = xI (oDev g.1 ge wh).2 from by rw [ho]]
    exact Wp.r ho hk.1 hC fC.rf
set_option maxRecDepth 100000 in
set_option maxHeartbeats 4000000 in
theorem w_addLine (l : Launch) (hst : l.stackTraces = false) (G : Gs) (M : Mem) (g : Gst) (len : Int) (b : Int → Int) (hG : IsGg G G.1) (hO : At G (G.1 + 343) 12 1) (hC : CI G M g len b) (hk : OkI g len b) (ge ki : Int) (h_ge : In32 ge) (h_ki : In32 ki) : CtW l G yL_addLine cL_addLine 5 [(0, 10, 13, 21), (0, 10, 17, 13), (0, 10, 21, 15)] rw_addLine [.ref G.1, .int (iI ge), .int (iI ki), .ref (G.1 + 343)] M (PoI G (Wp G M (oAddL g.1 ge ki).1 (xI (oAddL g.1 ge ki).2.1) (nxG g (oAddL g.1 ge ki)) len b)) 2 12 := by
  refine CtW.of (by decide +kernel) (Nat.le_of_ble_eq_true rfl) [(0, .ref G.1), (1, .int (iI ge)), (2, .int (iI ki)), (3, .ref (G.1 + 343))] rfl ?_
  intro X B htb
  refine r_aload_n B 3 dL_addLine_0 rfl ?_
  refine r_iconst B dL_addLine_1 ?_
  refine r_aload_n B 0 dL_addLine_2 rfl ?_
  refine r_iload_n B 1 dL_addLine_3 rfl ?_
  refine r_iload_n B 2 dL_addLine_4 rfl ?_
  refine r_cVi B (As := [.int (iI ge), .int (iI ki)]) (st := [.int (iI 0), .ref (G.1 + 343)]) (c_X5_addLine l hst G M G.1 g.1 g.2.1 g.2.2 hG hC.1 hk.1 ge ki h_ge h_ki) ⟨rfl, rfl⟩ ok_X5_addLine rfl vi_X5_addLine q_705 hG.1 rfl (fun _ => rfl) rfl ⟨Nat.le_of_ble_eq_true rfl, Nat.le_of_ble_eq_true rfl, Nat.le_of_ble_eq_true rfl⟩ ⟨Nat.le_of_ble_eq_true rfl, Nat.le_of_ble_eq_true rfl⟩ dL_addLine_5 (fun E M' hx => ?_) (fun r M' hx => ?_)
  · obtain ⟨hx, hM⟩ := hx
    rw [hM]
    rcases hx with ⟨rfl, ho⟩ | ⟨rfl, ho⟩ | ⟨rfl, ho⟩
    · exact ⟨[], ⟨0, 10, 13, 21⟩, [⟨0, 10, 17, 13⟩, ⟨0, 10, 21, 15⟩], htb, fun _ h => absurd h List.not_mem_nil, by decide, by decide, q_530, by decide +kernel, fun q => by
        refine r_astore B (lv' := (4, .ref q) :: [(0, .ref G.1), (1, .int (iI ge)), (2, .int (iI ki)), (3, .ref (G.1 + 343))]) dL_addLine_13 (by decide) rfl ?_
        refine r_iconst B dL_addLine_15 ?_
        exact r_iret B dL_addLine_16 (Wm.x ho (by decide) hC fC.rf)⟩
    · exact ⟨[⟨0, 10, 13, 21⟩], ⟨0, 10, 17, 13⟩, [⟨0, 10, 21, 15⟩], htb, List.forall_mem_cons.mpr ⟨⟨by decide, _, q_530, by decide +kernel, by decide +kernel⟩, fun _ h => absurd h List.not_mem_nil⟩, by decide, by decide, q_435, by decide +kernel, fun q => by
        refine r_astore B (lv' := (4, .ref q) :: [(0, .ref G.1), (1, .int (iI ge)), (2, .int (iI ki)), (3, .ref (G.1 + 343))]) dL_addLine_17 (by decide) rfl ?_
        refine r_iconst B dL_addLine_19 ?_
        exact r_iret B dL_addLine_20 (Wm.x ho (by decide) hC fC.rf)⟩
    · exact ⟨[⟨0, 10, 13, 21⟩, ⟨0, 10, 17, 13⟩], ⟨0, 10, 21, 15⟩, [], htb, List.forall_mem_cons.mpr ⟨⟨by decide, _, q_530, by decide +kernel, by decide +kernel⟩, List.forall_mem_cons.mpr ⟨⟨by decide, _, q_435, by decide +kernel, by decide +kernel⟩, fun _ h => absurd h List.not_mem_nil⟩⟩, by decide, by decide, q_436, by decide +kernel, fun q => by
        refine r_astore B (lv' := (4, .ref q) :: [(0, .ref G.1), (1, .int (iI ge)), (2, .int (iI ki)), (3, .ref (G.1 + 343))]) dL_addLine_21 (by decide) rfl ?_
        refine r_iconst B dL_addLine_23 ?_
        exact r_iret B dL_addLine_24 (Wm.x ho (by decide) hC fC.rf)⟩
  · obtain ⟨a', ho, hS, hF⟩ := hx
    have hok : GgOk (a', (savG g).2) := ⟨by have w := ok_oAddL (s := g.1) hk.1.1 (e := (by rw [ho] : (oAddL g.1 ge ki).1 = 0)); rw [ho] at w; exact w, (savG_ok hk.1).2⟩
    refine r_i2lw B dL_addLine_8 ?_
    refine r_lastore B dL_addLine_9 hO (by omega) (by decide) ?_
    refine r_goto B dL_addLine_10 rfl ?_
    refine r_iconst B dL_addLine_25 ?_
    refine r_iret B dL_addLine_26 ?_
    rw [show xI r = xI (oAddL g.1 ge ki).2.1 from by rw [ho]]
    exact Wm.r ho hok ⟨hS, hC.2.fg hF⟩ (fC.fg hF)
set_option maxRecDepth 100000 in
set_option maxHeartbeats 4000000 in
theorem w_addPoint (l : Launch) (hst : l.stackTraces = false) (G : Gs) (M : Mem) (g : Gst) (len : Int) (b : Int → Int) (hG : IsGg G G.1) (hO : At G (G.1 + 343) 12 1) (hC : CI G M g len b) (hk : OkI g len b) (li v : Int) (h_li : In32 li) (h_v : In32 v) : CtW l G yL_addPoint cL_addPoint 5 [(0, 10, 13, 21), (0, 10, 17, 13), (0, 10, 21, 15)] rw_addPoint [.ref G.1, .int (iI li), .int (iI v), .ref (G.1 + 343)] M (PoI G (Wp G M (oAddP g.1 li v).1 (xI (oAddP g.1 li v).2.1) (nxG g (oAddP g.1 li v)) len b)) 2 12 := by
  refine CtW.of (by decide +kernel) (Nat.le_of_ble_eq_true rfl) [(0, .ref G.1), (1, .int (iI li)), (2, .int (iI v)), (3, .ref (G.1 + 343))] rfl ?_
  intro X B htb
  refine r_aload_n B 3 dL_addPoint_0 rfl ?_
  refine r_iconst B dL_addPoint_1 ?_
  refine r_aload_n B 0 dL_addPoint_2 rfl ?_
  refine r_iload_n B 1 dL_addPoint_3 rfl ?_
  refine r_iload_n B 2 dL_addPoint_4 rfl ?_
  refine r_cVi B (As := [.int (iI li), .int (iI v)]) (st := [.int (iI 0), .ref (G.1 + 343)]) (c_X5_addPoint l hst G M G.1 g.1 g.2.1 g.2.2 hG hC.1 hk.1 li v h_li h_v) ⟨rfl, rfl⟩ ok_X5_addPoint rfl vi_X5_addPoint q_715 hG.1 rfl (fun _ => rfl) rfl ⟨Nat.le_of_ble_eq_true rfl, Nat.le_of_ble_eq_true rfl, Nat.le_of_ble_eq_true rfl⟩ ⟨Nat.le_of_ble_eq_true rfl, Nat.le_of_ble_eq_true rfl⟩ dL_addPoint_5 (fun E M' hx => ?_) (fun r M' hx => ?_)
  · obtain ⟨hx, hM⟩ := hx
    rw [hM]
    rcases hx with ⟨rfl, ho⟩ | ⟨rfl, ho⟩ | ⟨rfl, ho⟩
    · exact ⟨[], ⟨0, 10, 13, 21⟩, [⟨0, 10, 17, 13⟩, ⟨0, 10, 21, 15⟩], htb, fun _ h => absurd h List.not_mem_nil, by decide, by decide, q_530, by decide +kernel, fun q => by
        refine r_astore B (lv' := (4, .ref q) :: [(0, .ref G.1), (1, .int (iI li)), (2, .int (iI v)), (3, .ref (G.1 + 343))]) dL_addPoint_13 (by decide) rfl ?_
        refine r_iconst B dL_addPoint_15 ?_
        exact r_iret B dL_addPoint_16 (Wm.x ho (by decide) hC fC.rf)⟩
    · exact ⟨[⟨0, 10, 13, 21⟩], ⟨0, 10, 17, 13⟩, [⟨0, 10, 21, 15⟩], htb, List.forall_mem_cons.mpr ⟨⟨by decide, _, q_530, by decide +kernel, by decide +kernel⟩, fun _ h => absurd h List.not_mem_nil⟩, by decide, by decide, q_435, by decide +kernel, fun q => by
        refine r_astore B (lv' := (4, .ref q) :: [(0, .ref G.1), (1, .int (iI li)), (2, .int (iI v)), (3, .ref (G.1 + 343))]) dL_addPoint_17 (by decide) rfl ?_
        refine r_iconst B dL_addPoint_19 ?_
        exact r_iret B dL_addPoint_20 (Wm.x ho (by decide) hC fC.rf)⟩
    · exact ⟨[⟨0, 10, 13, 21⟩, ⟨0, 10, 17, 13⟩], ⟨0, 10, 21, 15⟩, [], htb, List.forall_mem_cons.mpr ⟨⟨by decide, _, q_530, by decide +kernel, by decide +kernel⟩, List.forall_mem_cons.mpr ⟨⟨by decide, _, q_435, by decide +kernel, by decide +kernel⟩, fun _ h => absurd h List.not_mem_nil⟩⟩, by decide, by decide, q_436, by decide +kernel, fun q => by
        refine r_astore B (lv' := (4, .ref q) :: [(0, .ref G.1), (1, .int (iI li)), (2, .int (iI v)), (3, .ref (G.1 + 343))]) dL_addPoint_21 (by decide) rfl ?_
        refine r_iconst B dL_addPoint_23 ?_
        exact r_iret B dL_addPoint_24 (Wm.x ho (by decide) hC fC.rf)⟩
  · obtain ⟨a', ho, hS, hF⟩ := hx
    have hok : GgOk (a', (savG g).2) := ⟨by have w := ok_oAddP (s := g.1) hk.1.1 (e := (by rw [ho] : (oAddP g.1 li v).1 = 0)); rw [ho] at w; exact w, (savG_ok hk.1).2⟩
    refine r_i2lw B dL_addPoint_8 ?_
    refine r_lastore B dL_addPoint_9 hO (by omega) (by decide) ?_
    refine r_goto B dL_addPoint_10 rfl ?_
    refine r_iconst B dL_addPoint_25 ?_
    refine r_iret B dL_addPoint_26 ?_
    rw [show xI r = xI (oAddP g.1 li v).2.1 from by rw [ho]]
    exact Wm.r ho hok ⟨hS, hC.2.fg hF⟩ (fC.fg hF)
set_option maxRecDepth 100000 in
set_option maxHeartbeats 4000000 in
theorem w_removeLine (l : Launch) (hst : l.stackTraces = false) (G : Gs) (M : Mem) (g : Gst) (len : Int) (b : Int → Int) (hG : IsGg G G.1) (hO : At G (G.1 + 343) 12 1) (hC : CI G M g len b) (hk : OkI g len b) (li : Int) (h_li : In32 li) : CtW l G yL_removeLine cL_removeLine 4 [(0, 9, 12, 21)] rw_removeLine [.ref G.1, .int (iI li), .ref (G.1 + 343)] M (PoI G (Wp G M (oRemL g.1 li).1 (xI (oRemL g.1 li).2.1) (nxG g (oRemL g.1 li)) len b)) 1 6 := by
  refine CtW.of (by decide +kernel) (Nat.le_of_ble_eq_true rfl) [(0, .ref G.1), (1, .int (iI li)), (2, .ref (G.1 + 343))] rfl ?_
  intro X B htb
  refine r_aload_n B 2 dL_removeLine_0 rfl ?_
  refine r_iconst B dL_removeLine_1 ?_
  refine r_aload_n B 0 dL_removeLine_2 rfl ?_
  refine r_iload_n B 1 dL_removeLine_3 rfl ?_
  refine r_cVi B (As := [.int (iI li)]) (st := [.int (iI 0), .ref (G.1 + 343)]) (c_X5_removeLine l hst G M G.1 g.1 g.2.1 g.2.2 hG hC.1 hk.1 li h_li) ⟨rfl, rfl⟩ ok_X5_removeLine rfl vi_X5_removeLine q_729 hG.1 rfl (fun _ => rfl) rfl ⟨Nat.le_of_ble_eq_true rfl, Nat.le_of_ble_eq_true rfl, Nat.le_of_ble_eq_true rfl⟩ ⟨Nat.le_of_ble_eq_true rfl, Nat.le_of_ble_eq_true rfl⟩ dL_removeLine_4 (fun E M' hx => ?_) (fun r M' hx => ?_)
  · obtain ⟨hx, hM⟩ := hx
    rw [hM]
    obtain ⟨rfl, ho⟩ := hx
    exact ⟨[], ⟨0, 9, 12, 21⟩, [], htb, fun _ h => absurd h List.not_mem_nil, by decide, by decide, q_530, by decide +kernel, fun q => by
      refine r_astore_n B (lv' := (3, .ref q) :: [(0, .ref G.1), (1, .int (iI li)), (2, .ref (G.1 + 343))]) dL_removeLine_12 (by decide) rfl ?_
      refine r_iconst B dL_removeLine_13 ?_
      exact r_iret B dL_removeLine_14 (Wm.x ho (by decide) hC fC.rf)⟩
  · obtain ⟨a', ho, hS, hF⟩ := hx
    have hok : GgOk (a', (savG g).2) := ⟨by have w := ok_oRemL (s := g.1) hk.1.1 (e := (by rw [ho] : (oRemL g.1 li).1 = 0)); rw [ho] at w; exact w, (savG_ok hk.1).2⟩
    refine r_i2lw B dL_removeLine_7 ?_
    refine r_lastore B dL_removeLine_8 hO (by omega) (by decide) ?_
    refine r_goto B dL_removeLine_9 rfl ?_
    refine r_iconst B dL_removeLine_15 ?_
    refine r_iret B dL_removeLine_16 ?_
    rw [show xI r = xI (oRemL g.1 li).2.1 from by rw [ho]]
    exact Wm.r ho hok ⟨hS, hC.2.fg hF⟩ (fC.fg hF)
set_option maxRecDepth 100000 in
set_option maxHeartbeats 4000000 in
theorem w_line (l : Launch) (hst : l.stackTraces = false) (G : Gs) (M : Mem) (g : Gst) (len : Int) (b : Int → Int) (hG : IsGg G G.1) (hO : At G (G.1 + 343) 12 1) (hC : CI G M g len b) (hk : OkI g len b) (li wh : Int) (h_li : In32 li) (h_wh : In32 wh) : CtW l G yL_line cL_line 5 [(0, 10, 13, 21), (0, 10, 17, 13)] rw_line [.ref G.1, .int (iI li), .int (iI wh), .ref (G.1 + 343)] M (PoI G (Wp G M (oLine g.1 li wh).1 (xI (oLine g.1 li wh).2) g len b)) 2 12 := by
  refine CtW.of (by decide +kernel) (Nat.le_of_ble_eq_true rfl) [(0, .ref G.1), (1, .int (iI li)), (2, .int (iI wh)), (3, .ref (G.1 + 343))] rfl ?_
  intro X B htb
  refine r_aload_n B 3 dL_line_0 rfl ?_
  refine r_iconst B dL_line_1 ?_
  refine r_aload_n B 0 dL_line_2 rfl ?_
  refine r_iload_n B 1 dL_line_3 rfl ?_
  refine r_iload_n B 2 dL_line_4 rfl ?_
  refine r_cVi B (As := [.int (iI li), .int (iI wh)]) (st := [.int (iI 0), .ref (G.1 + 343)]) (c_X5_line l hst G M G.1 g.1 hG hC.1.1 hk.1.1 li wh h_li h_wh) ⟨rfl, rfl⟩ ok_X5_line rfl vi_X5_line q_737 hG.1 rfl (fun _ => rfl) rfl ⟨Nat.le_of_ble_eq_true rfl, Nat.le_of_ble_eq_true rfl, Nat.le_of_ble_eq_true rfl⟩ ⟨Nat.le_of_ble_eq_true rfl, Nat.le_of_ble_eq_true rfl⟩ dL_line_5 (fun E M' hx => ?_) (fun r M' hx => ?_)
  · obtain ⟨hx, hM⟩ := hx
    rw [hM]
    rcases hx with ⟨rfl, ho⟩ | ⟨rfl, ho⟩
    · exact ⟨[], ⟨0, 10, 13, 21⟩, [⟨0, 10, 17, 13⟩], htb, fun _ h => absurd h List.not_mem_nil, by decide, by decide, q_530, by decide +kernel, fun q => by
        refine r_astore B (lv' := (4, .ref q) :: [(0, .ref G.1), (1, .int (iI li)), (2, .int (iI wh)), (3, .ref (G.1 + 343))]) dL_line_13 (by decide) rfl ?_
        refine r_iconst B dL_line_15 ?_
        exact r_iret B dL_line_16 (Wp.x ho (by decide) hC fC.rf)⟩
    · exact ⟨[⟨0, 10, 13, 21⟩], ⟨0, 10, 17, 13⟩, [], htb, List.forall_mem_cons.mpr ⟨⟨by decide, _, q_530, by decide +kernel, by decide +kernel⟩, fun _ h => absurd h List.not_mem_nil⟩, by decide, by decide, q_435, by decide +kernel, fun q => by
        refine r_astore B (lv' := (4, .ref q) :: [(0, .ref G.1), (1, .int (iI li)), (2, .int (iI wh)), (3, .ref (G.1 + 343))]) dL_line_17 (by decide) rfl ?_
        refine r_iconst B dL_line_19 ?_
        exact r_iret B dL_line_20 (Wp.x ho (by decide) hC fC.rf)⟩
  · obtain ⟨ho, hM⟩ := hx
    rw [hM]
    refine r_i2lw B dL_line_8 ?_
    refine r_lastore B dL_line_9 hO (by omega) (by decide) ?_
    refine r_goto B dL_line_10 rfl ?_
    refine r_iconst B dL_line_21 ?_
    refine r_iret B dL_line_22 ?_
    rw [show xI r = xI (oLine g.1 li wh).2 from by rw [ho]]
    exact Wp.r ho hk.1 hC fC.rf
set_option maxRecDepth 100000 in
set_option maxHeartbeats 4000000 in
theorem w_point (l : Launch) (hst : l.stackTraces = false) (G : Gs) (M : Mem) (g : Gst) (len : Int) (b : Int → Int) (hG : IsGg G G.1) (hO : At G (G.1 + 343) 12 1) (hC : CI G M g len b) (hk : OkI g len b) (li pt : Int) (h_li : In32 li) (h_pt : In32 pt) : CtW l G yL_point cL_point 5 [(0, 10, 13, 21)] rw_point [.ref G.1, .int (iI li), .int (iI pt), .ref (G.1 + 343)] M (PoI G (Wp G M (oPoint g.1 li pt).1 (xI (oPoint g.1 li pt).2) g len b)) 2 12 := by
  refine CtW.of (by decide +kernel) (Nat.le_of_ble_eq_true rfl) [(0, .ref G.1), (1, .int (iI li)), (2, .int (iI pt)), (3, .ref (G.1 + 343))] rfl ?_
  intro X B htb
  refine r_aload_n B 3 dL_point_0 rfl ?_
  refine r_iconst B dL_point_1 ?_
  refine r_aload_n B 0 dL_point_2 rfl ?_
  refine r_iload_n B 1 dL_point_3 rfl ?_
  refine r_iload_n B 2 dL_point_4 rfl ?_
  refine r_cVi B (As := [.int (iI li), .int (iI pt)]) (st := [.int (iI 0), .ref (G.1 + 343)]) (c_X5_point l hst G M G.1 g.1 hG hC.1.1 hk.1.1 li pt h_li h_pt) ⟨rfl, rfl⟩ ok_X5_point rfl vi_X5_point q_744 hG.1 rfl (fun _ => rfl) rfl ⟨Nat.le_of_ble_eq_true rfl, Nat.le_of_ble_eq_true rfl, Nat.le_of_ble_eq_true rfl⟩ ⟨Nat.le_of_ble_eq_true rfl, Nat.le_of_ble_eq_true rfl⟩ dL_point_5 (fun E M' hx => ?_) (fun r M' hx => ?_)
  · obtain ⟨hx, hM⟩ := hx
    rw [hM]
    obtain ⟨rfl, ho⟩ := hx
    exact ⟨[], ⟨0, 10, 13, 21⟩, [], htb, fun _ h => absurd h List.not_mem_nil, by decide, by decide, q_530, by decide +kernel, fun q => by
      refine r_astore B (lv' := (4, .ref q) :: [(0, .ref G.1), (1, .int (iI li)), (2, .int (iI pt)), (3, .ref (G.1 + 343))]) dL_point_13 (by decide) rfl ?_
      refine r_iconst B dL_point_15 ?_
      exact r_iret B dL_point_16 (Wp.x ho (by decide) hC fC.rf)⟩
  · obtain ⟨ho, hM⟩ := hx
    rw [hM]
    refine r_i2lw B dL_point_8 ?_
    refine r_lastore B dL_point_9 hO (by omega) (by decide) ?_
    refine r_goto B dL_point_10 rfl ?_
    refine r_iconst B dL_point_17 ?_
    refine r_iret B dL_point_18 ?_
    rw [show xI r = xI (oPoint g.1 li pt).2 from by rw [ho]]
    exact Wp.r ho hk.1 hC fC.rf
set_option maxRecDepth 100000 in
set_option maxHeartbeats 4000000 in
theorem w_lineDeviation (l : Launch) (hst : l.stackTraces = false) (G : Gs) (M : Mem) (g : Gst) (len : Int) (b : Int → Int) (hG : IsGg G G.1) (hO : At G (G.1 + 343) 12 1) (hC : CI G M g len b) (hk : OkI g len b) (li wh : Int) (h_li : In32 li) (h_wh : In32 wh) : CtW l G yL_lineDeviation cL_lineDeviation 5 [(0, 10, 13, 21), (0, 10, 17, 13), (0, 10, 21, 15)] rw_lineDeviation [.ref G.1, .int (iI li), .int (iI wh), .ref (G.1 + 343)] M (PoI G (Wp G M (oLdev g.1 li wh).1 (xI (oLdev g.1 li wh).2) g len b)) 3 18 := by
  refine CtW.of (by decide +kernel) (Nat.le_of_ble_eq_true rfl) [(0, .ref G.1), (1, .int (iI li)), (2, .int (iI wh)), (3, .ref (G.1 + 343))] rfl ?_
  intro X B htb
  refine r_aload_n B 3 dL_lineDeviation_0 rfl ?_
  refine r_iconst B dL_lineDeviation_1 ?_
  refine r_aload_n B 0 dL_lineDeviation_2 rfl ?_
  refine r_iload_n B 1 dL_lineDeviation_3 rfl ?_
  refine r_iload_n B 2 dL_lineDeviation_4 rfl ?_
  refine r_cVi B (As := [.int (iI li), .int (iI wh)]) (st := [.int (iI 0), .ref (G.1 + 343)]) (c_X5_lineDeviation l hst G M G.1 g.1 hG hC.1.1 hk.1.1 li wh h_li h_wh) ⟨rfl, rfl⟩ ok_X5_lineDeviation rfl vi_X5_lineDeviation q_752 hG.1 rfl (fun _ => rfl) rfl ⟨Nat.le_of_ble_eq_true rfl, Nat.le_of_ble_eq_true rfl, Nat.le_of_ble_eq_true rfl⟩ ⟨Nat.le_of_ble_eq_true rfl, Nat.le_of_ble_eq_true rfl⟩ dL_lineDeviation_5 (fun E M' hx => ?_) (fun r M' hx => ?_)
  · obtain ⟨hx, hM⟩ := hx
    rw [hM]
    rcases hx with ⟨rfl, ho⟩ | ⟨rfl, ho⟩ | ⟨rfl, ho⟩
    · exact ⟨[], ⟨0, 10, 13, 21⟩, [⟨0, 10, 17, 13⟩, ⟨0, 10, 21, 15⟩], htb, fun _ h => absurd h List.not_mem_nil, by decide, by decide, q_530, by decide +kernel, fun q => by
        refine r_astore B (lv' := (4, .ref q) :: [(0, .ref G.1), (1, .int (iI li)), (2, .int (iI wh)), (3, .ref (G.1 + 343))]) dL_lineDeviation_13 (by decide) rfl ?_
        refine r_iconst B dL_lineDeviation_15 ?_
        exact r_iret B dL_lineDeviation_16 (Wp.x ho (by decide) hC fC.rf)⟩
    · exact ⟨[⟨0, 10, 13, 21⟩], ⟨0, 10, 17, 13⟩, [⟨0, 10, 21, 15⟩], htb, List.forall_mem_cons.mpr ⟨⟨by decide, _, q_530, by decide +kernel, by decide +kernel⟩, fun _ h => absurd h List.not_mem_nil⟩, by decide, by decide, q_435, by decide +kernel, fun q => by
        refine r_astore B (lv' := (4, .ref q) :: [(0, .ref G.1), (1, .int (iI li)), (2, .int (iI wh)), (3, .ref (G.1 + 343))]) dL_lineDeviation_17 (by decide) rfl ?_
        refine r_iconst B dL_lineDeviation_19 ?_
        exact r_iret B dL_lineDeviation_20 (Wp.x ho (by decide) hC fC.rf)⟩
    · exact ⟨[⟨0, 10, 13, 21⟩, ⟨0, 10, 17, 13⟩], ⟨0, 10, 21, 15⟩, [], htb, List.forall_mem_cons.mpr ⟨⟨by decide, _, q_530, by decide +kernel, by decide +kernel⟩, List.forall_mem_cons.mpr ⟨⟨by decide, _, q_435, by decide +kernel, by decide +kernel⟩, fun _ h => absurd h List.not_mem_nil⟩⟩, by decide, by decide, q_436, by decide +kernel, fun q => by
        refine r_astore B (lv' := (4, .ref q) :: [(0, .ref G.1), (1, .int (iI li)), (2, .int (iI wh)), (3, .ref (G.1 + 343))]) dL_lineDeviation_21 (by decide) rfl ?_
        refine r_iconst B dL_lineDeviation_23 ?_
        exact r_iret B dL_lineDeviation_24 (Wp.x ho (by decide) hC fC.rf)⟩
  · obtain ⟨ho, hM⟩ := hx
    rw [hM]
    refine r_i2lw B dL_lineDeviation_8 ?_
    refine r_lastore B dL_lineDeviation_9 hO (by omega) (by decide) ?_
    refine r_goto B dL_lineDeviation_10 rfl ?_
    refine r_iconst B dL_lineDeviation_25 ?_
    refine r_iret B dL_lineDeviation_26 ?_
    rw [show xI r = xI (oLdev g.1 li wh).2 from by rw [ho]]
    exact Wp.r ho hk.1 hC fC.rf
set_option maxRecDepth 100000 in
set_option maxHeartbeats 4000000 in
theorem w_best (l : Launch) (hst : l.stackTraces = false) (G : Gs) (M : Mem) (g : Gst) (len : Int) (b : Int → Int) (hG : IsGg G G.1) (hO : At G (G.1 + 343) 12 1) (hC : CI G M g len b) (hk : OkI g len b) (li sl p : Int) (h_li : In32 li) (h_p : In32 p) (hsl : sl = 0 ∨ sl = 1) : CtW l G yL_best cL_best 6 [(0, 11, 14, 21), (0, 11, 18, 13), (0, 11, 22, 15)] rw_best [.ref G.1, .int (iI li), .int (iI sl), .int (iI p), .ref (G.1 + 343)] M (PoI G (Wp G M (oBest g.1 li sl p).1 (oBest g.1 li sl p).2 g len b)) 3 18 := by
  refine CtW.of (by decide +kernel) (Nat.le_of_ble_eq_true rfl) [(0, .ref G.1), (1, .int (iI li)), (2, .int (iI sl)), (3, .int (iI p)), (4, .ref (G.1 + 343))] rfl ?_
  intro X B htb
  refine r_aload B 4 dL_best_0 rfl ?_
  refine r_iconst B dL_best_2 ?_
  refine r_aload_n B 0 dL_best_3 rfl ?_
  refine r_iload_n B 1 dL_best_4 rfl ?_
  refine r_iload_n B 2 dL_best_5 rfl ?_
  refine r_iload_n B 3 dL_best_6 rfl ?_
  refine r_cVl B (As := [.int (iI li), .int (iI sl), .int (iI p)]) (st := [.int (iI 0), .ref (G.1 + 343)]) (c_X5_best l hst G M G.1 g.1 hG hC.1.1 hk.1.1 li sl p h_li h_p hsl) ⟨rfl, rfl⟩ ok_X5_best rfl vi_X5_best q_763 hG.1 rfl (fun _ => rfl) rfl ⟨Nat.le_of_ble_eq_true rfl, Nat.le_of_ble_eq_true rfl, Nat.le_of_ble_eq_true rfl⟩ ⟨Nat.le_of_ble_eq_true rfl, Nat.le_of_ble_eq_true rfl⟩ dL_best_7 (fun E M' hx => ?_) (fun r M' hx => ?_)
  · obtain ⟨hx, hM⟩ := hx
    rw [hM]
    rcases hx with ⟨rfl, ho⟩ | ⟨rfl, ho⟩ | ⟨rfl, ho⟩
    · exact ⟨[], ⟨0, 11, 14, 21⟩, [⟨0, 11, 18, 13⟩, ⟨0, 11, 22, 15⟩], htb, fun _ h => absurd h List.not_mem_nil, by decide, by decide, q_530, by decide +kernel, fun q => by
        refine r_astore B (lv' := (5, .ref q) :: [(0, .ref G.1), (1, .int (iI li)), (2, .int (iI sl)), (3, .int (iI p)), (4, .ref (G.1 + 343))]) dL_best_14 (by decide) rfl ?_
        refine r_iconst B dL_best_16 ?_
        exact r_iret B dL_best_17 (Wp.x ho (by decide) hC fC.rf)⟩
    · exact ⟨[⟨0, 11, 14, 21⟩], ⟨0, 11, 18, 13⟩, [⟨0, 11, 22, 15⟩], htb, List.forall_mem_cons.mpr ⟨⟨by decide, _, q_530, by decide +kernel, by decide +kernel⟩, fun _ h => absurd h List.not_mem_nil⟩, by decide, by decide, q_435, by decide +kernel, fun q => by
        refine r_astore B (lv' := (5, .ref q) :: [(0, .ref G.1), (1, .int (iI li)), (2, .int (iI sl)), (3, .int (iI p)), (4, .ref (G.1 + 343))]) dL_best_18 (by decide) rfl ?_
        refine r_iconst B dL_best_20 ?_
        exact r_iret B dL_best_21 (Wp.x ho (by decide) hC fC.rf)⟩
    · exact ⟨[⟨0, 11, 14, 21⟩, ⟨0, 11, 18, 13⟩], ⟨0, 11, 22, 15⟩, [], htb, List.forall_mem_cons.mpr ⟨⟨by decide, _, q_530, by decide +kernel, by decide +kernel⟩, List.forall_mem_cons.mpr ⟨⟨by decide, _, q_435, by decide +kernel, by decide +kernel⟩, fun _ h => absurd h List.not_mem_nil⟩⟩, by decide, by decide, q_436, by decide +kernel, fun q => by
        refine r_astore B (lv' := (5, .ref q) :: [(0, .ref G.1), (1, .int (iI li)), (2, .int (iI sl)), (3, .int (iI p)), (4, .ref (G.1 + 343))]) dL_best_22 (by decide) rfl ?_
        refine r_iconst B dL_best_24 ?_
        exact r_iret B dL_best_25 (Wp.x ho (by decide) hC fC.rf)⟩
  · obtain ⟨ho, hM⟩ := hx
    rw [hM]
    refine r_lastore B dL_best_10 hO (by omega) (by decide) ?_
    refine r_goto B dL_best_11 rfl ?_
    refine r_iconst B dL_best_26 ?_
    refine r_iret B dL_best_27 ?_
    rw [show r = (oBest g.1 li sl p).2 from by rw [ho]]
    exact Wp.r ho hk.1 hC fC.rf
set_option maxRecDepth 100000 in
set_option maxHeartbeats 4000000 in
theorem w_tolerance (l : Launch) (hst : l.stackTraces = false) (G : Gs) (M : Mem) (g : Gst) (len : Int) (b : Int → Int) (hG : IsGg G G.1) (hO : At G (G.1 + 343) 12 1) (hC : CI G M g len b) (hk : OkI g len b) (ge wh qu : Int) (h_ge : In32 ge) (h_wh : In32 wh) (h_qu : In32 qu) : CtW l G yL_tolerance cL_tolerance 6 [(0, 12, 15, 21), (0, 12, 19, 13)] rw_tolerance [.ref G.1, .int (iI ge), .int (iI wh), .int (iI qu), .ref (G.1 + 343)] M (PoI G (Wp G M (oTol g.1 ge wh qu).1 (xI (oTol g.1 ge wh qu).2) g len b)) 3 18 := by
  refine CtW.of (by decide +kernel) (Nat.le_of_ble_eq_true rfl) [(0, .ref G.1), (1, .int (iI ge)), (2, .int (iI wh)), (3, .int (iI qu)), (4, .ref (G.1 + 343))] rfl ?_
  intro X B htb
  refine r_aload B 4 dL_tolerance_0 rfl ?_
  refine r_iconst B dL_tolerance_2 ?_
  refine r_aload_n B 0 dL_tolerance_3 rfl ?_
  refine r_iload_n B 1 dL_tolerance_4 rfl ?_
  refine r_iload_n B 2 dL_tolerance_5 rfl ?_
  refine r_iload_n B 3 dL_tolerance_6 rfl ?_
  refine r_cVi B (As := [.int (iI ge), .int (iI wh), .int (iI qu)]) (st := [.int (iI 0), .ref (G.1 + 343)]) (c_X5_tolerance l hst G M G.1 g.1 hG hC.1.1 hk.1.1 ge wh qu h_ge h_wh h_qu) ⟨rfl, rfl⟩ ok_X5_tolerance rfl vi_X5_tolerance q_781 hG.1 rfl (fun _ => rfl) rfl ⟨Nat.le_of_ble_eq_true rfl, Nat.le_of_ble_eq_true rfl, Nat.le_of_ble_eq_true rfl⟩ ⟨Nat.le_of_ble_eq_true rfl, Nat.le_of_ble_eq_true rfl⟩ dL_tolerance_7 (fun E M' hx => ?_) (fun r M' hx => ?_)
  · obtain ⟨hx, hM⟩ := hx
    rw [hM]
    rcases hx with ⟨rfl, ho⟩ | ⟨rfl, ho⟩
    · exact ⟨[], ⟨0, 12, 15, 21⟩, [⟨0, 12, 19, 13⟩], htb, fun _ h => absurd h List.not_mem_nil, by decide, by decide, q_530, by decide +kernel, fun q => by
        refine r_astore B (lv' := (5, .ref q) :: [(0, .ref G.1), (1, .int (iI ge)), (2, .int (iI wh)), (3, .int (iI qu)), (4, .ref (G.1 + 343))]) dL_tolerance_15 (by decide) rfl ?_
        refine r_iconst B dL_tolerance_17 ?_
        exact r_iret B dL_tolerance_18 (Wp.x ho (by decide) hC fC.rf)⟩
    · exact ⟨[⟨0, 12, 15, 21⟩], ⟨0, 12, 19, 13⟩, [], htb, List.forall_mem_cons.mpr ⟨⟨by decide, _, q_530, by decide +kernel, by decide +kernel⟩, fun _ h => absurd h List.not_mem_nil⟩, by decide, by decide, q_435, by decide +kernel, fun q => by
        refine r_astore B (lv' := (5, .ref q) :: [(0, .ref G.1), (1, .int (iI ge)), (2, .int (iI wh)), (3, .int (iI qu)), (4, .ref (G.1 + 343))]) dL_tolerance_19 (by decide) rfl ?_
        refine r_iconst B dL_tolerance_21 ?_
        exact r_iret B dL_tolerance_22 (Wp.x ho (by decide) hC fC.rf)⟩
  · obtain ⟨ho, hM⟩ := hx
    rw [hM]
    refine r_i2lw B dL_tolerance_10 ?_
    refine r_lastore B dL_tolerance_11 hO (by omega) (by decide) ?_
    refine r_goto B dL_tolerance_12 rfl ?_
    refine r_iconst B dL_tolerance_23 ?_
    refine r_iret B dL_tolerance_24 ?_
    rw [show xI r = xI (oTol g.1 ge wh qu).2 from by rw [ho]]
    exact Wp.r ho hk.1 hC fC.rf
set_option maxRecDepth 100000 in
set_option maxHeartbeats 4000000 in
theorem w_quality (l : Launch) (hst : l.stackTraces = false) (G : Gs) (M : Mem) (g : Gst) (len : Int) (b : Int → Int) (hG : IsGg G G.1) (hO : At G (G.1 + 343) 12 1) (hC : CI G M g len b) (hk : OkI g len b) (ge wh : Int) (h_ge : In32 ge) (h_wh : In32 wh) : CtW l G yL_quality cL_quality 5 [(0, 10, 13, 21), (0, 10, 17, 13)] rw_quality [.ref G.1, .int (iI ge), .int (iI wh), .ref (G.1 + 343)] M (PoI G (Wp G M (oQual g.1 ge wh).1 (xI (oQual g.1 ge wh).2) g len b)) 2 12 := by
  refine CtW.of (by decide +kernel) (Nat.le_of_ble_eq_true rfl) [(0, .ref G.1), (1, .int (iI ge)), (2, .int (iI wh)), (3, .ref (G.1 + 343))] rfl ?_
  intro X B htb
  refine r_aload_n B 3 dL_quality_0 rfl ?_
  refine r_iconst B dL_quality_1 ?_
  refine r_aload_n B 0 dL_quality_2 rfl ?_
  refine r_iload_n B 1 dL_quality_3 rfl ?_
  refine r_iload_n B 2 dL_quality_4 rfl ?_
  refine r_cVi B (As := [.int (iI ge), .int (iI wh)]) (st := [.int (iI 0), .ref (G.1 + 343)]) (c_X5_quality l hst G M G.1 g.1 hG hC.1.1 hk.1.1 ge wh h_ge h_wh) ⟨rfl, rfl⟩ ok_X5_quality rfl vi_X5_quality q_792 hG.1 rfl (fun _ => rfl) rfl ⟨Nat.le_of_ble_eq_true rfl, Nat.le_of_ble_eq_true rfl, Nat.le_of_ble_eq_true rfl⟩ ⟨Nat.le_of_ble_eq_true rfl, Nat.le_of_ble_eq_true rfl⟩ dL_quality_5 (fun E M' hx => ?_) (fun r M' hx => ?_)
  · obtain ⟨hx, hM⟩ := hx
    rw [hM]
    rcases hx with ⟨rfl, ho⟩ | ⟨rfl, ho⟩
    · exact ⟨[], ⟨0, 10, 13, 21⟩, [⟨0, 10, 17, 13⟩], htb, fun _ h => absurd h List.not_mem_nil, by decide, by decide, q_530, by decide +kernel, fun q => by
        refine r_astore B (lv' := (4, .ref q) :: [(0, .ref G.1), (1, .int (iI ge)), (2, .int (iI wh)), (3, .ref (G.1 + 343))]) dL_quality_13 (by decide) rfl ?_
        refine r_iconst B dL_quality_15 ?_
        exact r_iret B dL_quality_16 (Wp.x ho (by decide) hC fC.rf)⟩
    · exact ⟨[⟨0, 10, 13, 21⟩], ⟨0, 10, 17, 13⟩, [], htb, List.forall_mem_cons.mpr ⟨⟨by decide, _, q_530, by decide +kernel, by decide +kernel⟩, fun _ h => absurd h List.not_mem_nil⟩, by decide, by decide, q_435, by decide +kernel, fun q => by
        refine r_astore B (lv' := (4, .ref q) :: [(0, .ref G.1), (1, .int (iI ge)), (2, .int (iI wh)), (3, .ref (G.1 + 343))]) dL_quality_17 (by decide) rfl ?_
        refine r_iconst B dL_quality_19 ?_
        exact r_iret B dL_quality_20 (Wp.x ho (by decide) hC fC.rf)⟩
  · obtain ⟨ho, hM⟩ := hx
    rw [hM]
    refine r_i2lw B dL_quality_8 ?_
    refine r_lastore B dL_quality_9 hO (by omega) (by decide) ?_
    refine r_goto B dL_quality_10 rfl ?_
    refine r_iconst B dL_quality_21 ?_
    refine r_iret B dL_quality_22 ?_
    rw [show xI r = xI (oQual g.1 ge wh).2 from by rw [ho]]
    exact Wp.r ho hk.1 hC fC.rf
set_option maxRecDepth 100000 in
set_option maxHeartbeats 4000000 in
theorem w_decide (l : Launch) (hst : l.stackTraces = false) (G : Gs) (M : Mem) (g : Gst) (len : Int) (b : Int → Int) (hG : IsGg G G.1) (hO : At G (G.1 + 343) 12 1) (hC : CI G M g len b) (hk : OkI g len b) (ge qu u : Int) (h_ge : In32 ge) (h_qu : In32 qu) (h_u : In32 u) : CtW l G yL_decide cL_decide 6 [(0, 12, 15, 21), (0, 12, 19, 13)] rw_decide [.ref G.1, .int (iI ge), .int (iI qu), .int (iI u), .ref (G.1 + 343)] M (PoI G (Wp G M (oDec g.1 ge qu u).1 (xI (oDec g.1 ge qu u).2) g len b)) 3 18 := by
  refine CtW.of (by decide +kernel) (Nat.le_of_ble_eq_true rfl) [(0, .ref G.1), (1, .int (iI ge)), (2, .int (iI qu)), (3, .int (iI u)), (4, .ref (G.1 + 343))] rfl ?_
  intro X B htb
  refine r_aload B 4 dL_decide_0 rfl ?_
  refine r_iconst B dL_decide_2 ?_
  refine r_aload_n B 0 dL_decide_3 rfl ?_
  refine r_iload_n B 1 dL_decide_4 rfl ?_
  refine r_iload_n B 2 dL_decide_5 rfl ?_
  refine r_iload_n B 3 dL_decide_6 rfl ?_
  refine r_cVi B (As := [.int (iI ge), .int (iI qu), .int (iI u)]) (st := [.int (iI 0), .ref (G.1 + 343)]) (c_X5_decide l hst G M G.1 g.1 hG hC.1.1 hk.1.1 ge qu u h_ge h_qu h_u) ⟨rfl, rfl⟩ ok_X5_decide rfl vi_X5_decide q_799 hG.1 rfl (fun _ => rfl) rfl ⟨Nat.le_of_ble_eq_true rfl, Nat.le_of_ble_eq_true rfl, Nat.le_of_ble_eq_true rfl⟩ ⟨Nat.le_of_ble_eq_true rfl, Nat.le_of_ble_eq_true rfl⟩ dL_decide_7 (fun E M' hx => ?_) (fun r M' hx => ?_)
  · obtain ⟨hx, hM⟩ := hx
    rw [hM]
    rcases hx with ⟨rfl, ho⟩ | ⟨rfl, ho⟩
    · exact ⟨[], ⟨0, 12, 15, 21⟩, [⟨0, 12, 19, 13⟩], htb, fun _ h => absurd h List.not_mem_nil, by decide, by decide, q_530, by decide +kernel, fun q => by
        refine r_astore B (lv' := (5, .ref q) :: [(0, .ref G.1), (1, .int (iI ge)), (2, .int (iI qu)), (3, .int (iI u)), (4, .ref (G.1 + 343))]) dL_decide_15 (by decide) rfl ?_
        refine r_iconst B dL_decide_17 ?_
        exact r_iret B dL_decide_18 (Wp.x ho (by decide) hC fC.rf)⟩
    · exact ⟨[⟨0, 12, 15, 21⟩], ⟨0, 12, 19, 13⟩, [], htb, List.forall_mem_cons.mpr ⟨⟨by decide, _, q_530, by decide +kernel, by decide +kernel⟩, fun _ h => absurd h List.not_mem_nil⟩, by decide, by decide, q_435, by decide +kernel, fun q => by
        refine r_astore B (lv' := (5, .ref q) :: [(0, .ref G.1), (1, .int (iI ge)), (2, .int (iI qu)), (3, .int (iI u)), (4, .ref (G.1 + 343))]) dL_decide_19 (by decide) rfl ?_
        refine r_iconst B dL_decide_21 ?_
        exact r_iret B dL_decide_22 (Wp.x ho (by decide) hC fC.rf)⟩
  · obtain ⟨ho, hM⟩ := hx
    rw [hM]
    refine r_i2lw B dL_decide_10 ?_
    refine r_lastore B dL_decide_11 hO (by omega) (by decide) ?_
    refine r_goto B dL_decide_12 rfl ?_
    refine r_iconst B dL_decide_23 ?_
    refine r_iret B dL_decide_24 ?_
    rw [show xI r = xI (oDec g.1 ge qu u).2 from by rw [ho]]
    exact Wp.r ho hk.1 hC fC.rf
set_option maxRecDepth 100000 in
set_option maxHeartbeats 4000000 in
theorem w_mesh (l : Launch) (hst : l.stackTraces = false) (G : Gs) (M : Mem) (g : Gst) (len : Int) (b : Int → Int) (hG : IsGg G G.1) (hO : At G (G.1 + 343) 12 1) (hC : CI G M g len b) (hk : OkI g len b) (ge he fl ph : Int) (h_ge : In32 ge) (h_he : In32 he) (h_fl : In32 fl) (h_ph : In32 ph) : CtW l G yL_mesh cL_mesh 7 [(0, 14, 17, 21), (0, 14, 21, 13)] rw_mesh [.ref G.1, .int (iI ge), .int (iI he), .int (iI fl), .int (iI ph), .ref (G.1 + 343)] M (PoI G (Wp G M (oMesh g.1 ge he fl ph).1 (xI (oMesh g.1 ge he fl ph).2) g len b)) 4 24 := by
  refine CtW.of (by decide +kernel) (Nat.le_of_ble_eq_true rfl) [(0, .ref G.1), (1, .int (iI ge)), (2, .int (iI he)), (3, .int (iI fl)), (4, .int (iI ph)), (5, .ref (G.1 + 343))] rfl ?_
  intro X B htb
  refine r_aload B 5 dL_mesh_0 rfl ?_
  refine r_iconst B dL_mesh_2 ?_
  refine r_aload_n B 0 dL_mesh_3 rfl ?_
  refine r_iload_n B 1 dL_mesh_4 rfl ?_
  refine r_iload_n B 2 dL_mesh_5 rfl ?_
  refine r_iload_n B 3 dL_mesh_6 rfl ?_
  refine r_iload B 4 dL_mesh_7 rfl ?_
  refine r_cVi B (As := [.int (iI ge), .int (iI he), .int (iI fl), .int (iI ph)]) (st := [.int (iI 0), .ref (G.1 + 343)]) (c_X5_mesh l hst G M G.1 g.1 hG hC.1.1 hk.1.1 ge he fl ph h_ge h_he h_fl h_ph) ⟨rfl, rfl⟩ ok_X5_mesh rfl vi_X5_mesh q_807 hG.1 rfl (fun _ => rfl) rfl ⟨Nat.le_of_ble_eq_true rfl, Nat.le_of_ble_eq_true rfl, Nat.le_of_ble_eq_true rfl⟩ ⟨Nat.le_of_ble_eq_true rfl, Nat.le_of_ble_eq_true rfl⟩ dL_mesh_9 (fun E M' hx => ?_) (fun r M' hx => ?_)
  · obtain ⟨hx, hM⟩ := hx
    rw [hM]
    rcases hx with ⟨rfl, ho⟩ | ⟨rfl, ho⟩
    · exact ⟨[], ⟨0, 14, 17, 21⟩, [⟨0, 14, 21, 13⟩], htb, fun _ h => absurd h List.not_mem_nil, by decide, by decide, q_530, by decide +kernel, fun q => by
        refine r_astore B (lv' := (6, .ref q) :: [(0, .ref G.1), (1, .int (iI ge)), (2, .int (iI he)), (3, .int (iI fl)), (4, .int (iI ph)), (5, .ref (G.1 + 343))]) dL_mesh_17 (by decide) rfl ?_
        refine r_iconst B dL_mesh_19 ?_
        exact r_iret B dL_mesh_20 (Wp.x ho (by decide) hC fC.rf)⟩
    · exact ⟨[⟨0, 14, 17, 21⟩], ⟨0, 14, 21, 13⟩, [], htb, List.forall_mem_cons.mpr ⟨⟨by decide, _, q_530, by decide +kernel, by decide +kernel⟩, fun _ h => absurd h List.not_mem_nil⟩, by decide, by decide, q_435, by decide +kernel, fun q => by
        refine r_astore B (lv' := (6, .ref q) :: [(0, .ref G.1), (1, .int (iI ge)), (2, .int (iI he)), (3, .int (iI fl)), (4, .int (iI ph)), (5, .ref (G.1 + 343))]) dL_mesh_21 (by decide) rfl ?_
        refine r_iconst B dL_mesh_23 ?_
        exact r_iret B dL_mesh_24 (Wp.x ho (by decide) hC fC.rf)⟩
  · obtain ⟨ho, hF⟩ := hx
    refine r_i2lw B dL_mesh_12 ?_
    refine r_lastore B dL_mesh_13 hO (by omega) (by decide) ?_
    refine r_goto B dL_mesh_14 rfl ?_
    refine r_iconst B dL_mesh_25 ?_
    refine r_iret B dL_mesh_26 ?_
    rw [show xI r = xI (oMesh g.1 ge he fl ph).2 from by rw [ho]]
    exact Wp.r ho hk.1 (hC.same hk.1 (fun c p => hF c (by omega))) (fC.only hF (by omega))
set_option maxRecDepth 100000 in
set_option maxHeartbeats 4000000 in
theorem w_bestPhase (l : Launch) (hst : l.stackTraces = false) (G : Gs) (M : Mem) (g : Gst) (len : Int) (b : Int → Int) (hG : IsGg G G.1) (hO : At G (G.1 + 343) 12 1) (hC : CI G M g len b) (hk : OkI g len b) (ge he fl : Int) (h_ge : In32 ge) (h_he : In32 he) (h_fl : In32 fl) : CtW l G yL_bestPhase cL_bestPhase 6 [(0, 12, 15, 21)] rw_bestPhase [.ref G.1, .int (iI ge), .int (iI he), .int (iI fl), .ref (G.1 + 343)] M (PoI G (Wp G M (oBph g.1 ge he fl).1 (xI (oBph g.1 ge he fl).2) g len b)) 3 18 := by
  refine CtW.of (by decide +kernel) (Nat.le_of_ble_eq_true rfl) [(0, .ref G.1), (1, .int (iI ge)), (2, .int (iI he)), (3, .int (iI fl)), (4, .ref (G.1 + 343))] rfl ?_
  intro X B htb
  refine r_aload B 4 dL_bestPhase_0 rfl ?_
  refine r_iconst B dL_bestPhase_2 ?_
  refine r_aload_n B 0 dL_bestPhase_3 rfl ?_
  refine r_iload_n B 1 dL_bestPhase_4 rfl ?_
  refine r_iload_n B 2 dL_bestPhase_5 rfl ?_
  refine r_iload_n B 3 dL_bestPhase_6 rfl ?_
  refine r_cVi B (As := [.int (iI ge), .int (iI he), .int (iI fl)]) (st := [.int (iI 0), .ref (G.1 + 343)]) (c_X5_bestPhase l hst G M G.1 g.1 hG hC.1.1 hk.1.1 ge he fl h_ge h_he h_fl) ⟨rfl, rfl⟩ ok_X5_bestPhase rfl vi_X5_bestPhase q_831 hG.1 rfl (fun _ => rfl) rfl ⟨Nat.le_of_ble_eq_true rfl, Nat.le_of_ble_eq_true rfl, Nat.le_of_ble_eq_true rfl⟩ ⟨Nat.le_of_ble_eq_true rfl, Nat.le_of_ble_eq_true rfl⟩ dL_bestPhase_7 (fun E M' hx => ?_) (fun r M' hx => ?_)
  · obtain ⟨hx, hM⟩ := hx
    rw [hM]
    obtain ⟨rfl, ho⟩ := hx
    exact ⟨[], ⟨0, 12, 15, 21⟩, [], htb, fun _ h => absurd h List.not_mem_nil, by decide, by decide, q_530, by decide +kernel, fun q => by
      refine r_astore B (lv' := (5, .ref q) :: [(0, .ref G.1), (1, .int (iI ge)), (2, .int (iI he)), (3, .int (iI fl)), (4, .ref (G.1 + 343))]) dL_bestPhase_15 (by decide) rfl ?_
      refine r_iconst B dL_bestPhase_17 ?_
      exact r_iret B dL_bestPhase_18 (Wp.x ho (by decide) hC fC.rf)⟩
  · obtain ⟨ho, hF⟩ := hx
    refine r_i2lw B dL_bestPhase_10 ?_
    refine r_lastore B dL_bestPhase_11 hO (by omega) (by decide) ?_
    refine r_goto B dL_bestPhase_12 rfl ?_
    refine r_iconst B dL_bestPhase_19 ?_
    refine r_iret B dL_bestPhase_20 ?_
    rw [show xI r = xI (oBph g.1 ge he fl).2 from by rw [ho]]
    exact Wp.r ho hk.1 (hC.same hk.1 (fun c p => hF c (by omega))) (fC.only hF (by omega))
set_option maxRecDepth 100000 in
set_option maxHeartbeats 4000000 in
theorem w_partner (l : Launch) (hst : l.stackTraces = false) (G : Gs) (M : Mem) (g : Gst) (len : Int) (b : Int → Int) (hG : IsGg G G.1) (hO : At G (G.1 + 343) 12 1) (hC : CI G M g len b) (hk : OkI g len b) (ge fl : Int) (h_ge : In32 ge) (h_fl : In32 fl) : CtW l G yL_partner cL_partner 5 [(0, 10, 13, 21)] rw_partner [.ref G.1, .int (iI ge), .int (iI fl), .ref (G.1 + 343)] M (PoI G (Wp G M (oPart g.1 ge fl).1 (xI (oPart g.1 ge fl).2) g len b)) 2 12 := by
  refine CtW.of (by decide +kernel) (Nat.le_of_ble_eq_true rfl) [(0, .ref G.1), (1, .int (iI ge)), (2, .int (iI fl)), (3, .ref (G.1 + 343))] rfl ?_
  intro X B htb
  refine r_aload_n B 3 dL_partner_0 rfl ?_
  refine r_iconst B dL_partner_1 ?_
  refine r_aload_n B 0 dL_partner_2 rfl ?_
  refine r_iload_n B 1 dL_partner_3 rfl ?_
  refine r_iload_n B 2 dL_partner_4 rfl ?_
  refine r_cVi B (As := [.int (iI ge), .int (iI fl)]) (st := [.int (iI 0), .ref (G.1 + 343)]) (c_X5_partner l hst G M G.1 g.1 hG hC.1.1 hk.1.1 ge fl h_ge h_fl) ⟨rfl, rfl⟩ ok_X5_partner rfl vi_X5_partner q_843 hG.1 rfl (fun _ => rfl) rfl ⟨Nat.le_of_ble_eq_true rfl, Nat.le_of_ble_eq_true rfl, Nat.le_of_ble_eq_true rfl⟩ ⟨Nat.le_of_ble_eq_true rfl, Nat.le_of_ble_eq_true rfl⟩ dL_partner_5 (fun E M' hx => ?_) (fun r M' hx => ?_)
  · obtain ⟨hx, hM⟩ := hx
    rw [hM]
    obtain ⟨rfl, ho⟩ := hx
    exact ⟨[], ⟨0, 10, 13, 21⟩, [], htb, fun _ h => absurd h List.not_mem_nil, by decide, by decide, q_530, by decide +kernel, fun q => by
      refine r_astore B (lv' := (4, .ref q) :: [(0, .ref G.1), (1, .int (iI ge)), (2, .int (iI fl)), (3, .ref (G.1 + 343))]) dL_partner_13 (by decide) rfl ?_
      refine r_iconst B dL_partner_15 ?_
      exact r_iret B dL_partner_16 (Wp.x ho (by decide) hC fC.rf)⟩
  · obtain ⟨ho, hF⟩ := hx
    refine r_i2lw B dL_partner_8 ?_
    refine r_lastore B dL_partner_9 hO (by omega) (by decide) ?_
    refine r_goto B dL_partner_10 rfl ?_
    refine r_iconst B dL_partner_17 ?_
    refine r_iret B dL_partner_18 ?_
    rw [show xI r = xI (oPart g.1 ge fl).2 from by rw [ho]]
    exact Wp.r ho hk.1 (hC.same hk.1 (fun c p => hF c (by omega))) (fC.only hF (by omega))
set_option maxRecDepth 100000 in
set_option maxHeartbeats 4000000 in
theorem w_mean (l : Launch) (hst : l.stackTraces = false) (G : Gs) (M : Mem) (g : Gst) (len : Int) (b : Int → Int) (hG : IsGg G G.1) (hO : At G (G.1 + 344) 13 1) (hC : CI G M g len b) (hk : OkI g len b) (wh : Int) (h_wh : In32 wh) : CtW l G yL_mean cL_mean 4 [(0, 8, 11, 13)] rw_mean [.ref G.1, .int (iI wh), .ref (G.1 + 344)] M (PoI G (Wd G M (oMean g.1 wh).1 (meanD g.1 wh) g len b)) 1 6 := by
  refine CtW.of (by decide +kernel) (Nat.le_of_ble_eq_true rfl) [(0, .ref G.1), (1, .int (iI wh)), (2, .ref (G.1 + 344))] rfl ?_
  intro X B htb
  refine r_aload_n B 2 dL_mean_0 rfl ?_
  refine r_iconst B dL_mean_1 ?_
  refine r_aload_n B 0 dL_mean_2 rfl ?_
  refine r_iload_n B 1 dL_mean_3 rfl ?_
  refine r_cVd B (As := [.int (iI wh)]) (st := [.int (iI 0), .ref (G.1 + 344)]) (c_X5_mean l hst G M G.1 g.1 hG hC.1.1 hk.1.1 wh h_wh) ⟨rfl, rfl⟩ ok_X5_mean rfl vi_X5_mean q_850 hG.1 rfl (fun _ => rfl) rfl ⟨Nat.le_of_ble_eq_true rfl, Nat.le_of_ble_eq_true rfl, Nat.le_of_ble_eq_true rfl⟩ ⟨Nat.le_of_ble_eq_true rfl, Nat.le_of_ble_eq_true rfl⟩ dL_mean_4 (fun E M' hx => ?_) (fun r M' hx => ?_)
  · obtain ⟨hx, hM⟩ := hx
    rw [hM]
    obtain ⟨rfl, ho⟩ := hx
    exact ⟨[], ⟨0, 8, 11, 13⟩, [], htb, fun _ h => absurd h List.not_mem_nil, by decide, by decide, q_435, by decide +kernel, fun q => by
      refine r_astore_n B (lv' := (3, .ref q) :: [(0, .ref G.1), (1, .int (iI wh)), (2, .ref (G.1 + 344))]) dL_mean_11 (by decide) rfl ?_
      refine r_iconst B dL_mean_12 ?_
      exact r_iret B dL_mean_13 (Wd.x ho (by decide) hC fC.rf)⟩
  · obtain ⟨⟨ho, hv⟩, hM⟩ := hx
    rw [hM, hv]
    refine r_dastore B dL_mean_7 hO (by omega) (by decide) ?_
    refine r_goto B dL_mean_8 rfl ?_
    refine r_iconst B dL_mean_14 ?_
    exact r_iret B dL_mean_15 (Wd.r ho hk.1 hC fC.rf)
set_option maxRecDepth 100000 in
set_option maxHeartbeats 4000000 in
theorem w_ranked (l : Launch) (hst : l.stackTraces = false) (G : Gs) (M : Mem) (g : Gst) (len : Int) (b : Int → Int) (hG : IsGg G G.1) (hO : At G (G.1 + 343) 12 1) (hC : CI G M g len b) (hk : OkI g len b) (pl : Int) (h_pl : In32 pl) : CtW l G yL_ranked cL_ranked 4 [(0, 9, 12, 21)] rw_ranked [.ref G.1, .int (iI pl), .ref (G.1 + 343)] M (PoI G (Wp G M (oRank g.1 pl).1 (xI (oRank g.1 pl).2) g len b)) 1 6 := by
  refine CtW.of (by decide +kernel) (Nat.le_of_ble_eq_true rfl) [(0, .ref G.1), (1, .int (iI pl)), (2, .ref (G.1 + 343))] rfl ?_
  intro X B htb
  refine r_aload_n B 2 dL_ranked_0 rfl ?_
  refine r_iconst B dL_ranked_1 ?_
  refine r_aload_n B 0 dL_ranked_2 rfl ?_
  refine r_iload_n B 1 dL_ranked_3 rfl ?_
  refine r_cVi B (As := [.int (iI pl)]) (st := [.int (iI 0), .ref (G.1 + 343)]) (c_X5_ranked l hst G M G.1 g.1 hG hC.1.1 hk.1.1 pl h_pl) ⟨rfl, rfl⟩ ok_X5_ranked rfl vi_X5_ranked q_857 hG.1 rfl (fun _ => rfl) rfl ⟨Nat.le_of_ble_eq_true rfl, Nat.le_of_ble_eq_true rfl, Nat.le_of_ble_eq_true rfl⟩ ⟨Nat.le_of_ble_eq_true rfl, Nat.le_of_ble_eq_true rfl⟩ dL_ranked_4 (fun E M' hx => ?_) (fun r M' hx => ?_)
  · obtain ⟨hx, hM⟩ := hx
    rw [hM]
    obtain ⟨rfl, ho⟩ := hx
    exact ⟨[], ⟨0, 9, 12, 21⟩, [], htb, fun _ h => absurd h List.not_mem_nil, by decide, by decide, q_530, by decide +kernel, fun q => by
      refine r_astore_n B (lv' := (3, .ref q) :: [(0, .ref G.1), (1, .int (iI pl)), (2, .ref (G.1 + 343))]) dL_ranked_12 (by decide) rfl ?_
      refine r_iconst B dL_ranked_13 ?_
      exact r_iret B dL_ranked_14 (Wp.x ho (by decide) hC fC.rf)⟩
  · obtain ⟨ho, hF⟩ := hx
    refine r_i2lw B dL_ranked_7 ?_
    refine r_lastore B dL_ranked_8 hO (by omega) (by decide) ?_
    refine r_goto B dL_ranked_9 rfl ?_
    refine r_iconst B dL_ranked_15 ?_
    refine r_iret B dL_ranked_16 ?_
    rw [show xI r = xI (oRank g.1 pl).2 from by rw [ho]]
    exact Wp.r ho hk.1 (hC.same hk.1 (fun c p => hF c (by omega))) (fC.only hF (by omega))
set_option maxRecDepth 100000 in
set_option maxHeartbeats 4000000 in
theorem w_append (l : Launch) (hst : l.stackTraces = false) (G : Gs) (M : Mem) (g : Gst) (len : Int) (b : Int → Int) (hG : IsGg G G.1) (hO : At G (G.1 + 343) 12 1) (hC : CI G M g len b) (hk : OkI g len b) (v : Int) (h_v : In32 v) : CtW l G yL_append cL_append 4 [(0, 9, 12, 13), (0, 9, 15, 15)] rw_append [.ref G.1, .int (iI v), .ref (G.1 + 343)] M (PoI G (Wp G M (oApp len v).1 (xI (oApp len v).2) g (apL len v) (apB len v b))) 1 6 := by
  refine CtW.of (by decide +kernel) (Nat.le_of_ble_eq_true rfl) [(0, .ref G.1), (1, .int (iI v)), (2, .ref (G.1 + 343))] rfl ?_
  intro X B htb
  refine r_aload_n B 2 dL_append_0 rfl ?_
  refine r_iconst B dL_append_1 ?_
  refine r_aload_n B 0 dL_append_2 rfl ?_
  refine r_iload_n B 1 dL_append_3 rfl ?_
  refine r_cVi B (As := [.int (iI v)]) (st := [.int (iI 0), .ref (G.1 + 343)]) (c_X5_append l hst G M G.1 hG len b hC.2 hk.2 v h_v) ⟨rfl, rfl⟩ ok_X5_append rfl vi_X5_append q_873 hG.1 rfl (fun _ => rfl) rfl ⟨Nat.le_of_ble_eq_true rfl, Nat.le_of_ble_eq_true rfl, Nat.le_of_ble_eq_true rfl⟩ ⟨Nat.le_of_ble_eq_true rfl, Nat.le_of_ble_eq_true rfl⟩ dL_append_4 (fun E M' hx => ?_) (fun r M' hx => ?_)
  · obtain ⟨hx, hM⟩ := hx
    rw [hM]
    rcases hx with ⟨rfl, ho⟩ | ⟨rfl, ho⟩
    · exact ⟨[], ⟨0, 9, 12, 13⟩, [⟨0, 9, 15, 15⟩], htb, fun _ h => absurd h List.not_mem_nil, by decide, by decide, q_435, by decide +kernel, fun q => by
        refine r_astore_n B (lv' := (3, .ref q) :: [(0, .ref G.1), (1, .int (iI v)), (2, .ref (G.1 + 343))]) dL_append_12 (by decide) rfl ?_
        refine r_iconst B dL_append_13 ?_
        exact r_iret B dL_append_14 (by unfold apL apB; rw [if_neg (by rw [ho]; decide), if_neg (by rw [ho]; decide)]; exact Wp.x ho (by decide) hC fC.rf)⟩
    · exact ⟨[⟨0, 9, 12, 13⟩], ⟨0, 9, 15, 15⟩, [], htb, List.forall_mem_cons.mpr ⟨⟨by decide, _, q_435, by decide +kernel, by decide +kernel⟩, fun _ h => absurd h List.not_mem_nil⟩, by decide, by decide, q_436, by decide +kernel, fun q => by
        refine r_astore_n B (lv' := (3, .ref q) :: [(0, .ref G.1), (1, .int (iI v)), (2, .ref (G.1 + 343))]) dL_append_15 (by decide) rfl ?_
        refine r_iconst B dL_append_16 ?_
        exact r_iret B dL_append_17 (by unfold apL apB; rw [if_neg (by rw [ho]; decide), if_neg (by rw [ho]; decide)]; exact Wp.x ho (by decide) hC fC.rf)⟩
  · obtain ⟨ho, hM⟩ := hx
    have hap : 0 ≤ v ∧ v ≤ 127 ∧ len < 160 ∧ r = len + 1 := by
        unfold oApp at ho
        split at ho
        · cases ho
        · split at ho
          · cases ho
          · cases ho; omega
    refine r_i2lw B dL_append_7 ?_
    refine r_lastore B dL_append_8 hO (by omega) (by decide) ?_
    refine r_goto B dL_append_9 rfl ?_
    refine r_iconst B dL_append_18 ?_
    refine r_iret B dL_append_19 ?_
    rw [show xI r = xI (oApp len v).2 from by rw [ho]]
    have hF : Only M M' (G.1 + 320) (G.1 + 323) := by rw [hM]; exact (Only.sI (by omega) (by omega)).tr (Only.sI (by omega) (by omega))
    unfold apL apB
    rw [if_pos (by rw [ho]), if_pos (by rw [ho])]
    exact Wp.r ho hk.1 ⟨hC.1.kept hk.1 (by rw [(hF G.1 (by omega)).1]) (fun c p q => hF c (by omega)), hC.2.app hk.2.1 hM⟩ (fC.only hF (by omega))
set_option maxRecDepth 100000 in
set_option maxHeartbeats 4000000 in
theorem w_undo (l : Launch) (hst : l.stackTraces = false) (G : Gs) (M : Mem) (g : Gst) (len : Int) (b : Int → Int) (hG : IsGg G G.1) (hO : At G (G.1 + 343) 12 1) (hC : CI G M g len b) (hk : OkI g len b) : CtW l G yL_undo cL_undo 3 [(0, 8, 11, 15)] rw_undo [.ref G.1, .ref (G.1 + 343)] M (PoI G (Wp G M (uoK g) (xI (uoV g)) (uoG g) len b)) 1 6 := by
  refine CtW.of (by decide +kernel) (Nat.le_of_ble_eq_true rfl) [(0, .ref G.1), (1, .ref (G.1 + 343))] rfl ?_
  intro X B htb
  refine r_aload_n B 1 dL_undo_0 rfl ?_
  refine r_iconst B dL_undo_1 ?_
  refine r_aload_n B 0 dL_undo_2 rfl ?_
  refine r_cVi B (As := []) (st := [.int (iI 0), .ref (G.1 + 343)]) (c_X5_undo l hst G M G.1 g.1 g.2.1 g.2.2 hG hC.1 hk.1) ⟨rfl, rfl⟩ ok_X5_undo rfl vi_X5_undo q_881 hG.1 rfl (fun _ => rfl) rfl ⟨Nat.le_of_ble_eq_true rfl, Nat.le_of_ble_eq_true rfl, Nat.le_of_ble_eq_true rfl⟩ ⟨Nat.le_of_ble_eq_true rfl, Nat.le_of_ble_eq_true rfl⟩ dL_undo_3 (fun E M' hx => ?_) (fun r M' hx => ?_)
  · obtain ⟨rfl, ho, hM⟩ := hx
    rw [hM]
    exact ⟨[], ⟨0, 8, 11, 15⟩, [], htb, fun _ h => absurd h List.not_mem_nil, by decide, by decide, q_436, by decide +kernel, fun q => by
      refine r_astore_n B (lv' := (2, .ref q) :: [(0, .ref G.1), (1, .ref (G.1 + 343))]) dL_undo_11 (by decide) rfl ?_
      refine r_iconst B dL_undo_12 ?_
      exact r_iret B dL_undo_13 (by unfold uoK uoG; rw [if_neg ho, if_neg ho]; exact ⟨rfl, by decide, fun w => by omega, hC, fC.rf⟩)⟩
  · obtain ⟨⟨ho, hr⟩, hS, hF⟩ := hx
    refine r_i2lw B dL_undo_6 ?_
    refine r_lastore B dL_undo_7 hO (by omega) (by decide) ?_
    refine r_goto B dL_undo_8 rfl ?_
    refine r_iconst B dL_undo_14 ?_
    have hok : GgOk (uoG g) := uoG_ok hk.1
    refine r_iret B dL_undo_15 ?_
    rw [show xI r = xI (uoV g) from by unfold uoV; rw [if_pos ho, hr]]
    refine ⟨by unfold uoK; rw [if_pos ho], by unfold uoK; rw [if_pos ho]; decide, fun _ => gL_eq, CI.sL ⟨by unfold uoG; rw [if_pos ho]; exact hS, hC.2.fg hF⟩ hok, (fC.fg hF).tr fC.sL⟩
