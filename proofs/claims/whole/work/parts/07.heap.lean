/-! fields, arrays, the library's calls, calls, ends and starts over the laid-out cells -/
set_option maxRecDepth 20000
theorem in64_0 : In64 0 := ⟨by omega, by omega⟩
theorem inG0 : ∀ w ∈ wsX00, w ∈ tG := fun w h => List.mem_filter.mpr ⟨(by decide +kernel : ∀ w ∈ wsX00, w ∈ lw_tbl) w h, (by decide +kernel : ∀ w ∈ wsX00, goodWord w = true) w h⟩
theorem inG1 : ∀ w ∈ wsX10, w ∈ tG := fun w h => List.mem_filter.mpr ⟨(by decide +kernel : ∀ w ∈ wsX10, w ∈ lw_tbl) w h, (by decide +kernel : ∀ w ∈ wsX10, goodWord w = true) w h⟩
theorem inG2 : ∀ w ∈ wsX20, w ∈ tG := fun w h => List.mem_filter.mpr ⟨(by decide +kernel : ∀ w ∈ wsX20, w ∈ lw_tbl) w h, (by decide +kernel : ∀ w ∈ wsX20, goodWord w = true) w h⟩
theorem inG3 : ∀ w ∈ wsX30, w ∈ tG := fun w h => List.mem_filter.mpr ⟨(by decide +kernel : ∀ w ∈ wsX30, w ∈ lw_tbl) w h, (by decide +kernel : ∀ w ∈ wsX30, goodWord w = true) w h⟩
theorem inG4 : ∀ w ∈ wsX40, w ∈ tG := fun w h => List.mem_filter.mpr ⟨(by decide +kernel : ∀ w ∈ wsX40, w ∈ lw_tbl) w h, (by decide +kernel : ∀ w ∈ wsX40, goodWord w = true) w h⟩
theorem inG5 : ∀ w ∈ wsX50, w ∈ tG := fun w h => List.mem_filter.mpr ⟨(by decide +kernel : ∀ w ∈ wsX50, w ∈ lw_tbl) w h, (by decide +kernel : ∀ w ∈ wsX50, goodWord w = true) w h⟩
theorem inG6 : ∀ w ∈ wsX60, w ∈ tG := fun w h => List.mem_filter.mpr ⟨(by decide +kernel : ∀ w ∈ wsX60, w ∈ lw_tbl) w h, (by decide +kernel : ∀ w ∈ wsX60, goodWord w = true) w h⟩
section R
variable {l : Launch} {G : Gs} {X : Cx} {cc : ByteArray} {nL : Nat} {own : String} {rm0 : Room} {ret0 : Option FieldType} {k n : Nat} {Q : State → Prop} {M : Mem} {pc : Nat} {lv : List (Nat × Value)} {st : List Value}
theorem r_get (B : Bx l G X cc nL own rm0 ret0) {ci i a N : Nat} {C : String} {T : u_T} {v : Value} (hc : vwCl[ci]? = some (C, T, N)) (f : Nat) (hf : f < N) (hin : ∀ w ∈ u_ws C T N, w ∈ tG) (he : ent G.2.2 M a (ci, 0) = .inr (ci, flds ci a M)) (ha : At G a ci 0) (hv : (flds ci a M)[f]? = some v) (hT : (T f).1 = C) (w : Cond.fieldLink own i C (T f).2.1 (T f).2.2.1 ∈ tG) (hdg : decode cc pc = .ok (.getfield i, 3)) (kk : WM G X k n Q M (pc + 3) lv (v :: st)) : WM G X k n Q M pc lv (.ref a :: st) := by
  intro H locs ls hP hS hl
  exact va_get B.1.1 B.1.2.1 B.1.2.2.2.2 hin B.1.2.2.2.1 B.2.2.2.2.2.1.1 hP (a - G.1) (by rw [WW_get ha, he]) hc f hf (B.1.2.2.2.2 _ w) (fun x h => by rw [hT] at h; exact h) hv hdg (kk H locs ls hP hS hl)
theorem r_put (B : Bx l G X cc nL own rm0 ret0) {ci i a N : Nat} {C : String} {T : u_T} {v : Value} {M' : Mem} {ty : FieldType} {ty0 : Nat → FieldType} (hc : vwCl[ci]? = some (C, T, N)) (f : Nat) (hf : f < N) (hin : ∀ w ∈ u_ws C T N, w ∈ tG) (hty : ∀ k, k < N → parseFieldDescriptor (T k).2.2.1 = some (ty0 k)) (hnm : ∀ a, a < N → ∀ b, b < N → a ≠ b → (T a).2.1 ≠ (T b).2.1) (he : ent G.2.2 M a (ci, 0) = .inr (ci, flds ci a M)) (he' : ent G.2.2 M' a (ci, 0) = .inr (ci, flds ci a M')) (hfin : (T f).2.2.2 = false) (hd : parseFieldDescriptor (T f).2.2.1 = some ty) (hn : narrow ty v = v) (hfit : fits ty v = true) (hl0 : f < (flds ci a M).length) (hset : (flds ci a M).set f v = flds ci a M') (hsm : ∀ b, b ≠ a → Same M M' b) (ha : At G a ci 0) (hT : (T f).1 = C) (w : Cond.fieldLink own i C (T f).2.1 (T f).2.2.1 ∈ tG) (hdg : decode cc pc = .ok (.putfield i, 3)) (kk : WM G X k n Q M' (pc + 3) lv st) : WM G X k n Q M pc lv (v :: .ref a :: st) := by
  intro H locs ls hP hS hl
  refine va_put B.1.1 B.1.2.1 B.1.2.2.2.2 hin ty0 hty hnm B.1.2.2.2.1 B.2.2.2.2.2.1.1 hP WW_D hS (a - G.1) (by rw [WW_get ha, he]) hc f hf (B.1.2.2.2.2 _ w) (fun x h => by rw [hT] at h; exact h) hfin hd hn hfit hl0 hdg (fun H1 locs1 hP1 hD1 hS1 => ?_)
  rw [hset, WW_set ha he'.symm hsm] at hP1
  exact kk H1 locs1 ls hP1 hS1 hl
theorem r_putF (B : Bx l G X cc nL own rm0 ret0) {ci i a N : Nat} {C : String} {T : u_T} {v : Value} {M' : Mem} {ty : FieldType} {ty0 : Nat → FieldType} (hc : vwCl[ci]? = some (C, T, N)) (f : Nat) (hf : f < N) (hin : ∀ w ∈ u_ws C T N, w ∈ tG) (hty : ∀ k, k < N → parseFieldDescriptor (T k).2.2.1 = some (ty0 k)) (hnm : ∀ a, a < N → ∀ b, b < N → a ≠ b → (T a).2.1 ≠ (T b).2.1) (hfin : (T f).2.2.2 = false) (hd : parseFieldDescriptor (T f).2.2.1 = some ty) (hset : (flds ci a M).set f v = flds ci a M') (hsm : ∀ b, b ≠ a → Same M M' b) (he : ent G.2.2 M a (ci, 0) = .inr (ci, flds ci a M)) (he' : ent G.2.2 M' a (ci, 0) = .inr (ci, flds ci a M')) (hl0 : f < (flds ci a M).length) (hT : (T f).1 = C) (hn : narrow ty v = v) (hfit : fits ty v = true) (ha : At G a ci 0) (w : Cond.fieldLink own i C (T f).2.1 (T f).2.2.1 ∈ tG) (hdg : decode cc pc = .ok (.putfield i, 3)) (kk : WM G X k n Q M' (pc + 3) lv st) : WM G X k n Q M pc lv (v :: .ref a :: st) :=
  r_put B hc f hf hin hty hnm he he' hfin hd hn hfit hl0 hset hsm ha hT w hdg kk
theorem rg0_teeth (B : Bx l G X cc nL own rm0 ret0) {i a : Nat} (ha : At G a 0 0) (w : Cond.fieldLink own i "GearGauge$Gear" "teeth" "I" ∈ tG) (hdg : decode cc pc = .ok (.getfield i, 3)) (kk : WM G X k n Q M (pc + 3) lv (.int (iI (gI M a 0)) :: st)) : WM G X k n Q M pc lv (.ref a :: st) :=
  r_get B (ci := 0) rfl 0 (by decide) inG0 rfl ha rfl rfl w hdg kk
theorem rp0_teeth (B : Bx l G X cc nL own rm0 ret0) {i a : Nat} {z : Int} (ha : At G a 0 0) (w : Cond.fieldLink own i "GearGauge$Gear" "teeth" "I" ∈ tG) (hdg : decode cc pc = .ok (.putfield i, 3)) (kk : WM G X k n Q (sI M a 0 z) (pc + 3) lv st) : WM G X k n Q M pc lv (.int (iI z) :: .ref a :: st) :=
  r_put B (ci := 0) (M' := sI M a 0 z) (ty0 := tyX0) rfl 0 (by decide) inG0 tyX0_ok nmX0 rfl rfl rfl (tyX0_ok 0 (by decide)) rfl rfl (Nat.le_of_ble_eq_true rfl) (by simp [flds, gI_sI, gL_sI]) (fun b h => Same.sI h) ha rfl w hdg kk
theorem rg0_module (B : Bx l G X cc nL own rm0 ret0) {i a : Nat} (ha : At G a 0 0) (w : Cond.fieldLink own i "GearGauge$Gear" "module" "I" ∈ tG) (hdg : decode cc pc = .ok (.getfield i, 3)) (kk : WM G X k n Q M (pc + 3) lv (.int (iI (gI M a 1)) :: st)) : WM G X k n Q M pc lv (.ref a :: st) :=
  r_get B (ci := 0) rfl 1 (by decide) inG0 rfl ha rfl rfl w hdg kk
theorem rp0_module (B : Bx l G X cc nL own rm0 ret0) {i a : Nat} {z : Int} (ha : At G a 0 0) (w : Cond.fieldLink own i "GearGauge$Gear" "module" "I" ∈ tG) (hdg : decode cc pc = .ok (.putfield i, 3)) (kk : WM G X k n Q (sI M a 1 z) (pc + 3) lv st) : WM G X k n Q M pc lv (.int (iI z) :: .ref a :: st) :=
  r_put B (ci := 0) (M' := sI M a 1 z) (ty0 := tyX0) rfl 1 (by decide) inG0 tyX0_ok nmX0 rfl rfl rfl (tyX0_ok 1 (by decide)) rfl rfl (Nat.le_of_ble_eq_true rfl) (by simp [flds, gI_sI, gL_sI]) (fun b h => Same.sI h) ha rfl w hdg kk
theorem rg0_readings (B : Bx l G X cc nL own rm0 ret0) {i a : Nat} (ha : At G a 0 0) (w : Cond.fieldLink own i "GearGauge$Gear" "readings" "[[I" ∈ tG) (hdg : decode cc pc = .ok (.getfield i, 3)) (kk : WM G X k n Q M (pc + 3) lv (.ref (a + 1) :: st)) : WM G X k n Q M pc lv (.ref a :: st) :=
  r_get B (ci := 0) rfl 2 (by decide) inG0 rfl ha rfl rfl w hdg kk
theorem rg1_gear (B : Bx l G X cc nL own rm0 ret0) {i a : Nat} (ha : At G a 1 0) (w : Cond.fieldLink own i "GearGauge$Line" "gear" "I" ∈ tG) (hdg : decode cc pc = .ok (.getfield i, 3)) (kk : WM G X k n Q M (pc + 3) lv (.int (iI (gI M a 0)) :: st)) : WM G X k n Q M pc lv (.ref a :: st) :=
  r_get B (ci := 1) rfl 0 (by decide) inG1 rfl ha rfl rfl w hdg kk
theorem rp1_gear (B : Bx l G X cc nL own rm0 ret0) {i a : Nat} {z : Int} (ha : At G a 1 0) (w : Cond.fieldLink own i "GearGauge$Line" "gear" "I" ∈ tG) (hdg : decode cc pc = .ok (.putfield i, 3)) (kk : WM G X k n Q (sI M a 0 z) (pc + 3) lv st) : WM G X k n Q M pc lv (.int (iI z) :: .ref a :: st) :=
  r_put B (ci := 1) (M' := sI M a 0 z) (ty0 := tyX1) rfl 0 (by decide) inG1 tyX1_ok nmX1 rfl rfl rfl (tyX1_ok 0 (by decide)) rfl rfl (Nat.le_of_ble_eq_true rfl) (by simp [flds, gI_sI, gL_sI]) (fun b h => Same.sI h) ha rfl w hdg kk
theorem rg1_kind (B : Bx l G X cc nL own rm0 ret0) {i a : Nat} (ha : At G a 1 0) (w : Cond.fieldLink own i "GearGauge$Line" "kind" "I" ∈ tG) (hdg : decode cc pc = .ok (.getfield i, 3)) (kk : WM G X k n Q M (pc + 3) lv (.int (iI (gI M a 1)) :: st)) : WM G X k n Q M pc lv (.ref a :: st) :=
  r_get B (ci := 1) rfl 1 (by decide) inG1 rfl ha rfl rfl w hdg kk
theorem rp1_kind (B : Bx l G X cc nL own rm0 ret0) {i a : Nat} {z : Int} (ha : At G a 1 0) (w : Cond.fieldLink own i "GearGauge$Line" "kind" "I" ∈ tG) (hdg : decode cc pc = .ok (.putfield i, 3)) (kk : WM G X k n Q (sI M a 1 z) (pc + 3) lv st) : WM G X k n Q M pc lv (.int (iI z) :: .ref a :: st) :=
  r_put B (ci := 1) (M' := sI M a 1 z) (ty0 := tyX1) rfl 1 (by decide) inG1 tyX1_ok nmX1 rfl rfl rfl (tyX1_ok 1 (by decide)) rfl rfl (Nat.le_of_ble_eq_true rfl) (by simp [flds, gI_sI, gL_sI]) (fun b h => Same.sI h) ha rfl w hdg kk
theorem rg1_count (B : Bx l G X cc nL own rm0 ret0) {i a : Nat} (ha : At G a 1 0) (w : Cond.fieldLink own i "GearGauge$Line" "count" "I" ∈ tG) (hdg : decode cc pc = .ok (.getfield i, 3)) (kk : WM G X k n Q M (pc + 3) lv (.int (iI (gI M a 2)) :: st)) : WM G X k n Q M pc lv (.ref a :: st) :=
  r_get B (ci := 1) rfl 2 (by decide) inG1 rfl ha rfl rfl w hdg kk
theorem rp1_count (B : Bx l G X cc nL own rm0 ret0) {i a : Nat} {z : Int} (ha : At G a 1 0) (w : Cond.fieldLink own i "GearGauge$Line" "count" "I" ∈ tG) (hdg : decode cc pc = .ok (.putfield i, 3)) (kk : WM G X k n Q (sI M a 2 z) (pc + 3) lv st) : WM G X k n Q M pc lv (.int (iI z) :: .ref a :: st) :=
  r_put B (ci := 1) (M' := sI M a 2 z) (ty0 := tyX1) rfl 2 (by decide) inG1 tyX1_ok nmX1 rfl rfl rfl (tyX1_ok 2 (by decide)) rfl rfl (Nat.le_of_ble_eq_true rfl) (by simp [flds, gI_sI, gL_sI]) (fun b h => Same.sI h) ha rfl w hdg kk
theorem rg1_sumX (B : Bx l G X cc nL own rm0 ret0) {i a : Nat} (ha : At G a 1 0) (w : Cond.fieldLink own i "GearGauge$Line" "sumX" "J" ∈ tG) (hdg : decode cc pc = .ok (.getfield i, 3)) (kk : WM G X k n Q M (pc + 3) lv (.long (lI (gL M a 3)) :: st)) : WM G X k n Q M pc lv (.ref a :: st) :=
  r_get B (ci := 1) rfl 3 (by decide) inG1 rfl ha rfl rfl w hdg kk
theorem rp1_sumX (B : Bx l G X cc nL own rm0 ret0) {i a : Nat} {z : Int} (ha : At G a 1 0) (w : Cond.fieldLink own i "GearGauge$Line" "sumX" "J" ∈ tG) (hdg : decode cc pc = .ok (.putfield i, 3)) (kk : WM G X k n Q (sL M a 3 z) (pc + 3) lv st) : WM G X k n Q M pc lv (.long (lI z) :: .ref a :: st) :=
  r_put B (ci := 1) (M' := sL M a 3 z) (ty0 := tyX1) rfl 3 (by decide) inG1 tyX1_ok nmX1 rfl rfl rfl (tyX1_ok 3 (by decide)) rfl rfl (Nat.le_of_ble_eq_true rfl) (by simp [flds, gI_sL, gL_sL]) (fun b h => Same.sL h) ha rfl w hdg kk
theorem rg1_sumXX (B : Bx l G X cc nL own rm0 ret0) {i a : Nat} (ha : At G a 1 0) (w : Cond.fieldLink own i "GearGauge$Line" "sumXX" "J" ∈ tG) (hdg : decode cc pc = .ok (.getfield i, 3)) (kk : WM G X k n Q M (pc + 3) lv (.long (lI (gL M a 4)) :: st)) : WM G X k n Q M pc lv (.ref a :: st) :=
  r_get B (ci := 1) rfl 4 (by decide) inG1 rfl ha rfl rfl w hdg kk
theorem rp1_sumXX (B : Bx l G X cc nL own rm0 ret0) {i a : Nat} {z : Int} (ha : At G a 1 0) (w : Cond.fieldLink own i "GearGauge$Line" "sumXX" "J" ∈ tG) (hdg : decode cc pc = .ok (.putfield i, 3)) (kk : WM G X k n Q (sL M a 4 z) (pc + 3) lv st) : WM G X k n Q M pc lv (.long (lI z) :: .ref a :: st) :=
  r_put B (ci := 1) (M' := sL M a 4 z) (ty0 := tyX1) rfl 4 (by decide) inG1 tyX1_ok nmX1 rfl rfl rfl (tyX1_ok 4 (by decide)) rfl rfl (Nat.le_of_ble_eq_true rfl) (by simp [flds, gI_sL, gL_sL]) (fun b h => Same.sL h) ha rfl w hdg kk
theorem rg1_sumY (B : Bx l G X cc nL own rm0 ret0) {i a : Nat} (ha : At G a 1 0) (w : Cond.fieldLink own i "GearGauge$Line" "sumY" "J" ∈ tG) (hdg : decode cc pc = .ok (.getfield i, 3)) (kk : WM G X k n Q M (pc + 3) lv (.long (lI (gL M a 5)) :: st)) : WM G X k n Q M pc lv (.ref a :: st) :=
  r_get B (ci := 1) rfl 5 (by decide) inG1 rfl ha rfl rfl w hdg kk
theorem rp1_sumY (B : Bx l G X cc nL own rm0 ret0) {i a : Nat} {z : Int} (ha : At G a 1 0) (w : Cond.fieldLink own i "GearGauge$Line" "sumY" "J" ∈ tG) (hdg : decode cc pc = .ok (.putfield i, 3)) (kk : WM G X k n Q (sL M a 5 z) (pc + 3) lv st) : WM G X k n Q M pc lv (.long (lI z) :: .ref a :: st) :=
  r_put B (ci := 1) (M' := sL M a 5 z) (ty0 := tyX1) rfl 5 (by decide) inG1 tyX1_ok nmX1 rfl rfl rfl (tyX1_ok 5 (by decide)) rfl rfl (Nat.le_of_ble_eq_true rfl) (by simp [flds, gI_sL, gL_sL]) (fun b h => Same.sL h) ha rfl w hdg kk
theorem rg1_sumXY (B : Bx l G X cc nL own rm0 ret0) {i a : Nat} (ha : At G a 1 0) (w : Cond.fieldLink own i "GearGauge$Line" "sumXY" "J" ∈ tG) (hdg : decode cc pc = .ok (.getfield i, 3)) (kk : WM G X k n Q M (pc + 3) lv (.long (lI (gL M a 6)) :: st)) : WM G X k n Q M pc lv (.ref a :: st) :=
  r_get B (ci := 1) rfl 6 (by decide) inG1 rfl ha rfl rfl w hdg kk
theorem rp1_sumXY (B : Bx l G X cc nL own rm0 ret0) {i a : Nat} {z : Int} (ha : At G a 1 0) (w : Cond.fieldLink own i "GearGauge$Line" "sumXY" "J" ∈ tG) (hdg : decode cc pc = .ok (.putfield i, 3)) (kk : WM G X k n Q (sL M a 6 z) (pc + 3) lv st) : WM G X k n Q M pc lv (.long (lI z) :: .ref a :: st) :=
  r_put B (ci := 1) (M' := sL M a 6 z) (ty0 := tyX1) rfl 6 (by decide) inG1 tyX1_ok nmX1 rfl rfl rfl (tyX1_ok 6 (by decide)) rfl rfl (Nat.le_of_ble_eq_true rfl) (by simp [flds, gI_sL, gL_sL]) (fun b h => Same.sL h) ha rfl w hdg kk
theorem rg1_points (B : Bx l G X cc nL own rm0 ret0) {i a : Nat} (ha : At G a 1 0) (w : Cond.fieldLink own i "GearGauge$Line" "points" "[I" ∈ tG) (hdg : decode cc pc = .ok (.getfield i, 3)) (kk : WM G X k n Q M (pc + 3) lv (.ref (a + 1) :: st)) : WM G X k n Q M pc lv (.ref a :: st) :=
  r_get B (ci := 1) rfl 7 (by decide) inG1 rfl ha rfl rfl w hdg kk
theorem rg2_period (B : Bx l G X cc nL own rm0 ret0) {i a : Nat} (ha : At G a 2 0) (w : Cond.fieldLink own i "GearGauge$Mesh" "period" "I" ∈ tG) (hdg : decode cc pc = .ok (.getfield i, 3)) (kk : WM G X k n Q M (pc + 3) lv (.int (iI (gI M a 0)) :: st)) : WM G X k n Q M pc lv (.ref a :: st) :=
  r_get B (ci := 2) rfl 0 (by decide) inG2 rfl ha rfl rfl w hdg kk
theorem rp2_period (B : Bx l G X cc nL own rm0 ret0) {i a : Nat} {z : Int} (ha : At G a 2 0) (w : Cond.fieldLink own i "GearGauge$Mesh" "period" "I" ∈ tG) (hdg : decode cc pc = .ok (.putfield i, 3)) (kk : WM G X k n Q (sI M a 0 z) (pc + 3) lv st) : WM G X k n Q M pc lv (.int (iI z) :: .ref a :: st) :=
  r_put B (ci := 2) (M' := sI M a 0 z) (ty0 := tyX2) rfl 0 (by decide) inG2 tyX2_ok nmX2 rfl rfl rfl (tyX2_ok 0 (by decide)) rfl rfl (Nat.le_of_ble_eq_true rfl) (by simp [flds, gI_sI, gL_sI]) (fun b h => Same.sI h) ha rfl w hdg kk
theorem rg2_firstMost (B : Bx l G X cc nL own rm0 ret0) {i a : Nat} (ha : At G a 2 0) (w : Cond.fieldLink own i "GearGauge$Mesh" "firstMost" "[I" ∈ tG) (hdg : decode cc pc = .ok (.getfield i, 3)) (kk : WM G X k n Q M (pc + 3) lv (.ref (a + 1) :: st)) : WM G X k n Q M pc lv (.ref a :: st) :=
  r_get B (ci := 2) rfl 1 (by decide) inG2 rfl ha rfl rfl w hdg kk
theorem rg2_firstLeast (B : Bx l G X cc nL own rm0 ret0) {i a : Nat} (ha : At G a 2 0) (w : Cond.fieldLink own i "GearGauge$Mesh" "firstLeast" "[I" ∈ tG) (hdg : decode cc pc = .ok (.getfield i, 3)) (kk : WM G X k n Q M (pc + 3) lv (.ref (a + 2) :: st)) : WM G X k n Q M pc lv (.ref a :: st) :=
  r_get B (ci := 2) rfl 2 (by decide) inG2 rfl ha rfl rfl w hdg kk
theorem rg2_secondMost (B : Bx l G X cc nL own rm0 ret0) {i a : Nat} (ha : At G a 2 0) (w : Cond.fieldLink own i "GearGauge$Mesh" "secondMost" "[I" ∈ tG) (hdg : decode cc pc = .ok (.getfield i, 3)) (kk : WM G X k n Q M (pc + 3) lv (.ref (a + 3) :: st)) : WM G X k n Q M pc lv (.ref a :: st) :=
  r_get B (ci := 2) rfl 3 (by decide) inG2 rfl ha rfl rfl w hdg kk
theorem rg2_secondLeast (B : Bx l G X cc nL own rm0 ret0) {i a : Nat} (ha : At G a 2 0) (w : Cond.fieldLink own i "GearGauge$Mesh" "secondLeast" "[I" ∈ tG) (hdg : decode cc pc = .ok (.getfield i, 3)) (kk : WM G X k n Q M (pc + 3) lv (.ref (a + 4) :: st)) : WM G X k n Q M pc lv (.ref a :: st) :=
  r_get B (ci := 2) rfl 4 (by decide) inG2 rfl ha rfl rfl w hdg kk
theorem rg3_gearCount (B : Bx l G X cc nL own rm0 ret0) {i a : Nat} (ha : At G a 3 0) (w : Cond.fieldLink own i "GearGauge$State" "gearCount" "I" ∈ tG) (hdg : decode cc pc = .ok (.getfield i, 3)) (kk : WM G X k n Q M (pc + 3) lv (.int (iI (gI M a 0)) :: st)) : WM G X k n Q M pc lv (.ref a :: st) :=
  r_get B (ci := 3) rfl 0 (by decide) inG3 rfl ha rfl rfl w hdg kk
theorem rp3_gearCount (B : Bx l G X cc nL own rm0 ret0) {i a : Nat} {z : Int} (ha : At G a 3 0) (w : Cond.fieldLink own i "GearGauge$State" "gearCount" "I" ∈ tG) (hdg : decode cc pc = .ok (.putfield i, 3)) (kk : WM G X k n Q (sI M a 0 z) (pc + 3) lv st) : WM G X k n Q M pc lv (.int (iI z) :: .ref a :: st) :=
  r_put B (ci := 3) (M' := sI M a 0 z) (ty0 := tyX3) rfl 0 (by decide) inG3 tyX3_ok nmX3 rfl rfl rfl (tyX3_ok 0 (by decide)) rfl rfl (Nat.le_of_ble_eq_true rfl) (by simp [flds, gI_sI, gL_sI]) (fun b h => Same.sI h) ha rfl w hdg kk
theorem rg3_lineCount (B : Bx l G X cc nL own rm0 ret0) {i a : Nat} (ha : At G a 3 0) (w : Cond.fieldLink own i "GearGauge$State" "lineCount" "I" ∈ tG) (hdg : decode cc pc = .ok (.getfield i, 3)) (kk : WM G X k n Q M (pc + 3) lv (.int (iI (gI M a 1)) :: st)) : WM G X k n Q M pc lv (.ref a :: st) :=
  r_get B (ci := 3) rfl 1 (by decide) inG3 rfl ha rfl rfl w hdg kk
theorem rp3_lineCount (B : Bx l G X cc nL own rm0 ret0) {i a : Nat} {z : Int} (ha : At G a 3 0) (w : Cond.fieldLink own i "GearGauge$State" "lineCount" "I" ∈ tG) (hdg : decode cc pc = .ok (.putfield i, 3)) (kk : WM G X k n Q (sI M a 1 z) (pc + 3) lv st) : WM G X k n Q M pc lv (.int (iI z) :: .ref a :: st) :=
  r_put B (ci := 3) (M' := sI M a 1 z) (ty0 := tyX3) rfl 1 (by decide) inG3 tyX3_ok nmX3 rfl rfl rfl (tyX3_ok 1 (by decide)) rfl rfl (Nat.le_of_ble_eq_true rfl) (by simp [flds, gI_sI, gL_sI]) (fun b h => Same.sI h) ha rfl w hdg kk
theorem rg3_gearRow (B : Bx l G X cc nL own rm0 ret0) {i a : Nat} (ha : At G a 3 0) (w : Cond.fieldLink own i "GearGauge$State" "gearRow" "[LGearGauge$Gear;" ∈ tG) (hdg : decode cc pc = .ok (.getfield i, 3)) (kk : WM G X k n Q M (pc + 3) lv (.ref (a + 1) :: st)) : WM G X k n Q M pc lv (.ref a :: st) :=
  r_get B (ci := 3) rfl 2 (by decide) inG3 rfl ha rfl rfl w hdg kk
theorem rg3_lineRow (B : Bx l G X cc nL own rm0 ret0) {i a : Nat} (ha : At G a 3 0) (w : Cond.fieldLink own i "GearGauge$State" "lineRow" "[LGearGauge$Line;" ∈ tG) (hdg : decode cc pc = .ok (.getfield i, 3)) (kk : WM G X k n Q M (pc + 3) lv (.ref (a + 2) :: st)) : WM G X k n Q M pc lv (.ref a :: st) :=
  r_get B (ci := 3) rfl 3 (by decide) inG3 rfl ha rfl rfl w hdg kk
theorem rg4_bytes (B : Bx l G X cc nL own rm0 ret0) {i a : Nat} (ha : At G a 4 0) (w : Cond.fieldLink own i "GearGauge$Text" "bytes" "[I" ∈ tG) (hdg : decode cc pc = .ok (.getfield i, 3)) (kk : WM G X k n Q M (pc + 3) lv (.ref (a + 1) :: st)) : WM G X k n Q M pc lv (.ref a :: st) :=
  r_get B (ci := 4) rfl 0 (by decide) inG4 rfl ha rfl rfl w hdg kk
theorem rg4_length (B : Bx l G X cc nL own rm0 ret0) {i a : Nat} (ha : At G a 4 0) (w : Cond.fieldLink own i "GearGauge$Text" "length" "I" ∈ tG) (hdg : decode cc pc = .ok (.getfield i, 3)) (kk : WM G X k n Q M (pc + 3) lv (.int (iI (gI M a 1)) :: st)) : WM G X k n Q M pc lv (.ref a :: st) :=
  r_get B (ci := 4) rfl 1 (by decide) inG4 rfl ha rfl rfl w hdg kk
theorem rp4_length (B : Bx l G X cc nL own rm0 ret0) {i a : Nat} {z : Int} (ha : At G a 4 0) (w : Cond.fieldLink own i "GearGauge$Text" "length" "I" ∈ tG) (hdg : decode cc pc = .ok (.putfield i, 3)) (kk : WM G X k n Q (sI M a 1 z) (pc + 3) lv st) : WM G X k n Q M pc lv (.int (iI z) :: .ref a :: st) :=
  r_put B (ci := 4) (M' := sI M a 1 z) (ty0 := tyX4) rfl 1 (by decide) inG4 tyX4_ok nmX4 rfl rfl rfl (tyX4_ok 1 (by decide)) rfl rfl (Nat.le_of_ble_eq_true rfl) (by simp [flds, gI_sI, gL_sI]) (fun b h => Same.sI h) ha rfl w hdg kk
theorem rg4_letter (B : Bx l G X cc nL own rm0 ret0) {i a : Nat} (ha : At G a 4 0) (w : Cond.fieldLink own i "GearGauge$Text" "letter" "I" ∈ tG) (hdg : decode cc pc = .ok (.getfield i, 3)) (kk : WM G X k n Q M (pc + 3) lv (.int (iI (gI M a 2)) :: st)) : WM G X k n Q M pc lv (.ref a :: st) :=
  r_get B (ci := 4) rfl 2 (by decide) inG4 rfl ha rfl rfl w hdg kk
theorem rp4_letter (B : Bx l G X cc nL own rm0 ret0) {i a : Nat} {z : Int} (ha : At G a 4 0) (w : Cond.fieldLink own i "GearGauge$Text" "letter" "I" ∈ tG) (hdg : decode cc pc = .ok (.putfield i, 3)) (kk : WM G X k n Q (sI M a 2 z) (pc + 3) lv st) : WM G X k n Q M pc lv (.int (iI z) :: .ref a :: st) :=
  r_put B (ci := 4) (M' := sI M a 2 z) (ty0 := tyX4) rfl 2 (by decide) inG4 tyX4_ok nmX4 rfl rfl rfl (tyX4_ok 2 (by decide)) rfl rfl (Nat.le_of_ble_eq_true rfl) (by simp [flds, gI_sI, gL_sI]) (fun b h => Same.sI h) ha rfl w hdg kk
theorem rg4_numbers (B : Bx l G X cc nL own rm0 ret0) {i a : Nat} (ha : At G a 4 0) (w : Cond.fieldLink own i "GearGauge$Text" "numbers" "I" ∈ tG) (hdg : decode cc pc = .ok (.getfield i, 3)) (kk : WM G X k n Q M (pc + 3) lv (.int (iI (gI M a 3)) :: st)) : WM G X k n Q M pc lv (.ref a :: st) :=
  r_get B (ci := 4) rfl 3 (by decide) inG4 rfl ha rfl rfl w hdg kk
theorem rp4_numbers (B : Bx l G X cc nL own rm0 ret0) {i a : Nat} {z : Int} (ha : At G a 4 0) (w : Cond.fieldLink own i "GearGauge$Text" "numbers" "I" ∈ tG) (hdg : decode cc pc = .ok (.putfield i, 3)) (kk : WM G X k n Q (sI M a 3 z) (pc + 3) lv st) : WM G X k n Q M pc lv (.int (iI z) :: .ref a :: st) :=
  r_put B (ci := 4) (M' := sI M a 3 z) (ty0 := tyX4) rfl 3 (by decide) inG4 tyX4_ok nmX4 rfl rfl rfl (tyX4_ok 3 (by decide)) rfl rfl (Nat.le_of_ble_eq_true rfl) (by simp [flds, gI_sI, gL_sI]) (fun b h => Same.sI h) ha rfl w hdg kk
theorem rg4_values (B : Bx l G X cc nL own rm0 ret0) {i a : Nat} (ha : At G a 4 0) (w : Cond.fieldLink own i "GearGauge$Text" "values" "[I" ∈ tG) (hdg : decode cc pc = .ok (.getfield i, 3)) (kk : WM G X k n Q M (pc + 3) lv (.ref (a + 2) :: st)) : WM G X k n Q M pc lv (.ref a :: st) :=
  r_get B (ci := 4) rfl 4 (by decide) inG4 rfl ha rfl rfl w hdg kk
theorem rg4_digits (B : Bx l G X cc nL own rm0 ret0) {i a : Nat} (ha : At G a 4 0) (w : Cond.fieldLink own i "GearGauge$Text" "digits" "I" ∈ tG) (hdg : decode cc pc = .ok (.getfield i, 3)) (kk : WM G X k n Q M (pc + 3) lv (.int (iI (gI M a 5)) :: st)) : WM G X k n Q M pc lv (.ref a :: st) :=
  r_get B (ci := 4) rfl 5 (by decide) inG4 rfl ha rfl rfl w hdg kk
theorem rp4_digits (B : Bx l G X cc nL own rm0 ret0) {i a : Nat} {z : Int} (ha : At G a 4 0) (w : Cond.fieldLink own i "GearGauge$Text" "digits" "I" ∈ tG) (hdg : decode cc pc = .ok (.putfield i, 3)) (kk : WM G X k n Q (sI M a 5 z) (pc + 3) lv st) : WM G X k n Q M pc lv (.int (iI z) :: .ref a :: st) :=
  r_put B (ci := 4) (M' := sI M a 5 z) (ty0 := tyX4) rfl 5 (by decide) inG4 tyX4_ok nmX4 rfl rfl rfl (tyX4_ok 5 (by decide)) rfl rfl (Nat.le_of_ble_eq_true rfl) (by simp [flds, gI_sI, gL_sI]) (fun b h => Same.sI h) ha rfl w hdg kk
theorem rg4_negative (B : Bx l G X cc nL own rm0 ret0) {i a : Nat} (ha : At G a 4 0) (w : Cond.fieldLink own i "GearGauge$Text" "negative" "Z" ∈ tG) (hdg : decode cc pc = .ok (.getfield i, 3)) (kk : WM G X k n Q M (pc + 3) lv (.int (iI (gI M a 6)) :: st)) : WM G X k n Q M pc lv (.ref a :: st) :=
  r_get B (ci := 4) rfl 6 (by decide) inG4 rfl ha rfl rfl w hdg kk
theorem rp4_negative (B : Bx l G X cc nL own rm0 ret0) {i a : Nat} {z : Int} (hz : z = 0 ∨ z = 1) (ha : At G a 4 0) (w : Cond.fieldLink own i "GearGauge$Text" "negative" "Z" ∈ tG) (hdg : decode cc pc = .ok (.putfield i, 3)) (kk : WM G X k n Q (sI M a 6 z) (pc + 3) lv st) : WM G X k n Q M pc lv (.int (iI z) :: .ref a :: st) :=
  r_put B (ci := 4) (M' := sI M a 6 z) (ty0 := tyX4) rfl 6 (by decide) inG4 tyX4_ok nmX4 rfl rfl rfl (tyX4_ok 6 (by decide)) (by rcases hz with rfl | rfl <;> rfl) (by rcases hz with rfl | rfl <;> rfl) (Nat.le_of_ble_eq_true rfl) (by simp [flds, gI_sI, gL_sI]) (fun b h => Same.sI h) ha rfl w hdg kk
theorem rg4_cursor (B : Bx l G X cc nL own rm0 ret0) {i a : Nat} (ha : At G a 4 0) (w : Cond.fieldLink own i "GearGauge$Text" "cursor" "I" ∈ tG) (hdg : decode cc pc = .ok (.getfield i, 3)) (kk : WM G X k n Q M (pc + 3) lv (.int (iI (gI M a 7)) :: st)) : WM G X k n Q M pc lv (.ref a :: st) :=
  r_get B (ci := 4) rfl 7 (by decide) inG4 rfl ha rfl rfl w hdg kk
theorem rp4_cursor (B : Bx l G X cc nL own rm0 ret0) {i a : Nat} {z : Int} (ha : At G a 4 0) (w : Cond.fieldLink own i "GearGauge$Text" "cursor" "I" ∈ tG) (hdg : decode cc pc = .ok (.putfield i, 3)) (kk : WM G X k n Q (sI M a 7 z) (pc + 3) lv st) : WM G X k n Q M pc lv (.int (iI z) :: .ref a :: st) :=
  r_put B (ci := 4) (M' := sI M a 7 z) (ty0 := tyX4) rfl 7 (by decide) inG4 tyX4_ok nmX4 rfl rfl rfl (tyX4_ok 7 (by decide)) rfl rfl (Nat.le_of_ble_eq_true rfl) (by simp [flds, gI_sI, gL_sI]) (fun b h => Same.sI h) ha rfl w hdg kk
theorem rg5_now (B : Bx l G X cc nL own rm0 ret0) {i a : Nat} (ha : At G a 5 0) (w : Cond.fieldLink own i "GearGauge" "now" "LGearGauge$State;" ∈ tG) (hdg : decode cc pc = .ok (.getfield i, 3)) (kk : WM G X k n Q M (pc + 3) lv (.ref (a + 1) :: st)) : WM G X k n Q M pc lv (.ref a :: st) :=
  r_get B (ci := 5) rfl 0 (by decide) inG5 rfl ha rfl rfl w hdg kk
theorem rg5_trial (B : Bx l G X cc nL own rm0 ret0) {i a : Nat} (ha : At G a 5 0) (w : Cond.fieldLink own i "GearGauge" "trial" "LGearGauge$State;" ∈ tG) (hdg : decode cc pc = .ok (.getfield i, 3)) (kk : WM G X k n Q M (pc + 3) lv (.ref (a + 54) :: st)) : WM G X k n Q M pc lv (.ref a :: st) :=
  r_get B (ci := 5) rfl 1 (by decide) inG5 rfl ha rfl rfl w hdg kk
theorem rg5_saved (B : Bx l G X cc nL own rm0 ret0) {i a : Nat} (ha : At G a 5 0) (w : Cond.fieldLink own i "GearGauge" "saved" "[LGearGauge$State;" ∈ tG) (hdg : decode cc pc = .ok (.getfield i, 3)) (kk : WM G X k n Q M (pc + 3) lv (.ref (a + 107) :: st)) : WM G X k n Q M pc lv (.ref a :: st) :=
  r_get B (ci := 5) rfl 2 (by decide) inG5 rfl ha rfl rfl w hdg kk
theorem rg5_savedCount (B : Bx l G X cc nL own rm0 ret0) {i a : Nat} (ha : At G a 5 0) (w : Cond.fieldLink own i "GearGauge" "savedCount" "I" ∈ tG) (hdg : decode cc pc = .ok (.getfield i, 3)) (kk : WM G X k n Q M (pc + 3) lv (.int (iI (gI M a 3)) :: st)) : WM G X k n Q M pc lv (.ref a :: st) :=
  r_get B (ci := 5) rfl 3 (by decide) inG5 rfl ha rfl rfl w hdg kk
theorem rp5_savedCount (B : Bx l G X cc nL own rm0 ret0) {i a : Nat} {z : Int} (ha : At G a 5 0) (w : Cond.fieldLink own i "GearGauge" "savedCount" "I" ∈ tG) (hdg : decode cc pc = .ok (.putfield i, 3)) (kk : WM G X k n Q (sI M a 3 z) (pc + 3) lv st) : WM G X k n Q M pc lv (.int (iI z) :: .ref a :: st) :=
  r_put B (ci := 5) (M' := sI M a 3 z) (ty0 := tyX5) rfl 3 (by decide) inG5 tyX5_ok nmX5 rfl rfl rfl (tyX5_ok 3 (by decide)) rfl rfl (Nat.le_of_ble_eq_true rfl) (by simp [flds, gI_sI, gL_sI]) (fun b h => Same.sI h) ha rfl w hdg kk
theorem rg5_text (B : Bx l G X cc nL own rm0 ret0) {i a : Nat} (ha : At G a 5 0) (w : Cond.fieldLink own i "GearGauge" "text" "LGearGauge$Text;" ∈ tG) (hdg : decode cc pc = .ok (.getfield i, 3)) (kk : WM G X k n Q M (pc + 3) lv (.ref (a + 320) :: st)) : WM G X k n Q M pc lv (.ref a :: st) :=
  r_get B (ci := 5) rfl 4 (by decide) inG5 rfl ha rfl rfl w hdg kk
theorem rg5_pair (B : Bx l G X cc nL own rm0 ret0) {i a : Nat} (ha : At G a 5 0) (w : Cond.fieldLink own i "GearGauge" "pair" "LGearGauge$Mesh;" ∈ tG) (hdg : decode cc pc = .ok (.getfield i, 3)) (kk : WM G X k n Q M (pc + 3) lv (.ref (a + 323) :: st)) : WM G X k n Q M pc lv (.ref a :: st) :=
  r_get B (ci := 5) rfl 5 (by decide) inG5 rfl ha rfl rfl w hdg kk
theorem rg5_turned (B : Bx l G X cc nL own rm0 ret0) {i a : Nat} (ha : At G a 5 0) (w : Cond.fieldLink own i "GearGauge" "turned" "LGearGauge$Gear;" ∈ tG) (hdg : decode cc pc = .ok (.getfield i, 3)) (kk : WM G X k n Q M (pc + 3) lv (.ref (a + 328) :: st)) : WM G X k n Q M pc lv (.ref a :: st) :=
  r_get B (ci := 5) rfl 6 (by decide) inG5 rfl ha rfl rfl w hdg kk
theorem rg5_rankClass (B : Bx l G X cc nL own rm0 ret0) {i a : Nat} (ha : At G a 5 0) (w : Cond.fieldLink own i "GearGauge" "rankClass" "[I" ∈ tG) (hdg : decode cc pc = .ok (.getfield i, 3)) (kk : WM G X k n Q M (pc + 3) lv (.ref (a + 333) :: st)) : WM G X k n Q M pc lv (.ref a :: st) :=
  r_get B (ci := 5) rfl 7 (by decide) inG5 rfl ha rfl rfl w hdg kk
theorem rg5_rankRange (B : Bx l G X cc nL own rm0 ret0) {i a : Nat} (ha : At G a 5 0) (w : Cond.fieldLink own i "GearGauge" "rankRange" "[I" ∈ tG) (hdg : decode cc pc = .ok (.getfield i, 3)) (kk : WM G X k n Q M (pc + 3) lv (.ref (a + 334) :: st)) : WM G X k n Q M pc lv (.ref a :: st) :=
  r_get B (ci := 5) rfl 8 (by decide) inG5 rfl ha rfl rfl w hdg kk
theorem rg6_s (B : Bx l G X cc nL own rm0 ret0) {i a : Nat} (ha : At G a 6 0) (w : Cond.fieldLink own i "GearGaugeModel" "s" "[I" ∈ tG) (hdg : decode cc pc = .ok (.getfield i, 3)) (kk : WM G X k n Q M (pc + 3) lv (.ref (a + 1) :: st)) : WM G X k n Q M pc lv (.ref a :: st) :=
  r_get B (ci := 6) rfl 0 (by decide) inG6 rfl ha rfl rfl w hdg kk
theorem rg6_past (B : Bx l G X cc nL own rm0 ret0) {i a : Nat} (ha : At G a 6 0) (w : Cond.fieldLink own i "GearGaugeModel" "past" "[I" ∈ tG) (hdg : decode cc pc = .ok (.getfield i, 3)) (kk : WM G X k n Q M (pc + 3) lv (.ref (a + 2) :: st)) : WM G X k n Q M pc lv (.ref a :: st) :=
  r_get B (ci := 6) rfl 1 (by decide) inG6 rfl ha rfl rfl w hdg kk
theorem rg6_aside (B : Bx l G X cc nL own rm0 ret0) {i a : Nat} (ha : At G a 6 0) (w : Cond.fieldLink own i "GearGaugeModel" "aside" "[I" ∈ tG) (hdg : decode cc pc = .ok (.getfield i, 3)) (kk : WM G X k n Q M (pc + 3) lv (.ref (a + 3) :: st)) : WM G X k n Q M pc lv (.ref a :: st) :=
  r_get B (ci := 6) rfl 2 (by decide) inG6 rfl ha rfl rfl w hdg kk
theorem rg6_pasts (B : Bx l G X cc nL own rm0 ret0) {i a : Nat} (ha : At G a 6 0) (w : Cond.fieldLink own i "GearGaugeModel" "pasts" "I" ∈ tG) (hdg : decode cc pc = .ok (.getfield i, 3)) (kk : WM G X k n Q M (pc + 3) lv (.int (iI (gI M a 3)) :: st)) : WM G X k n Q M pc lv (.ref a :: st) :=
  r_get B (ci := 6) rfl 3 (by decide) inG6 rfl ha rfl rfl w hdg kk
theorem rp6_pasts (B : Bx l G X cc nL own rm0 ret0) {i a : Nat} {z : Int} (ha : At G a 6 0) (w : Cond.fieldLink own i "GearGaugeModel" "pasts" "I" ∈ tG) (hdg : decode cc pc = .ok (.putfield i, 3)) (kk : WM G X k n Q (sI M a 3 z) (pc + 3) lv st) : WM G X k n Q M pc lv (.int (iI z) :: .ref a :: st) :=
  r_put B (ci := 6) (M' := sI M a 3 z) (ty0 := tyX6) rfl 3 (by decide) inG6 tyX6_ok nmX6 rfl rfl rfl (tyX6_ok 3 (by decide)) rfl rfl (Nat.le_of_ble_eq_true rfl) (by simp [flds, gI_sI, gL_sI]) (fun b h => Same.sI h) ha rfl w hdg kk
theorem rg6_text (B : Bx l G X cc nL own rm0 ret0) {i a : Nat} (ha : At G a 6 0) (w : Cond.fieldLink own i "GearGaugeModel" "text" "[I" ∈ tG) (hdg : decode cc pc = .ok (.getfield i, 3)) (kk : WM G X k n Q M (pc + 3) lv (.ref (a + 4) :: st)) : WM G X k n Q M pc lv (.ref a :: st) :=
  r_get B (ci := 6) rfl 4 (by decide) inG6 rfl ha rfl rfl w hdg kk
theorem rg6_typed (B : Bx l G X cc nL own rm0 ret0) {i a : Nat} (ha : At G a 6 0) (w : Cond.fieldLink own i "GearGaugeModel" "typed" "I" ∈ tG) (hdg : decode cc pc = .ok (.getfield i, 3)) (kk : WM G X k n Q M (pc + 3) lv (.int (iI (gI M a 5)) :: st)) : WM G X k n Q M pc lv (.ref a :: st) :=
  r_get B (ci := 6) rfl 5 (by decide) inG6 rfl ha rfl rfl w hdg kk
theorem rp6_typed (B : Bx l G X cc nL own rm0 ret0) {i a : Nat} {z : Int} (ha : At G a 6 0) (w : Cond.fieldLink own i "GearGaugeModel" "typed" "I" ∈ tG) (hdg : decode cc pc = .ok (.putfield i, 3)) (kk : WM G X k n Q (sI M a 5 z) (pc + 3) lv st) : WM G X k n Q M pc lv (.int (iI z) :: .ref a :: st) :=
  r_put B (ci := 6) (M' := sI M a 5 z) (ty0 := tyX6) rfl 5 (by decide) inG6 tyX6_ok nmX6 rfl rfl rfl (tyX6_ok 5 (by decide)) rfl rfl (Nat.le_of_ble_eq_true rfl) (by simp [flds, gI_sI, gL_sI]) (fun b h => Same.sI h) ha rfl w hdg kk
theorem rg6_thrown (B : Bx l G X cc nL own rm0 ret0) {i a : Nat} (ha : At G a 6 0) (w : Cond.fieldLink own i "GearGaugeModel" "thrown" "I" ∈ tG) (hdg : decode cc pc = .ok (.getfield i, 3)) (kk : WM G X k n Q M (pc + 3) lv (.int (iI (gI M a 6)) :: st)) : WM G X k n Q M pc lv (.ref a :: st) :=
  r_get B (ci := 6) rfl 6 (by decide) inG6 rfl ha rfl rfl w hdg kk
theorem rp6_thrown (B : Bx l G X cc nL own rm0 ret0) {i a : Nat} {z : Int} (ha : At G a 6 0) (w : Cond.fieldLink own i "GearGaugeModel" "thrown" "I" ∈ tG) (hdg : decode cc pc = .ok (.putfield i, 3)) (kk : WM G X k n Q (sI M a 6 z) (pc + 3) lv st) : WM G X k n Q M pc lv (.int (iI z) :: .ref a :: st) :=
  r_put B (ci := 6) (M' := sI M a 6 z) (ty0 := tyX6) rfl 6 (by decide) inG6 tyX6_ok nmX6 rfl rfl rfl (tyX6_ok 6 (by decide)) rfl rfl (Nat.le_of_ble_eq_true rfl) (by simp [flds, gI_sI, gL_sI]) (fun b h => Same.sI h) ha rfl w hdg kk
theorem rg6_slopeUp (B : Bx l G X cc nL own rm0 ret0) {i a : Nat} (ha : At G a 6 0) (w : Cond.fieldLink own i "GearGaugeModel" "slopeUp" "J" ∈ tG) (hdg : decode cc pc = .ok (.getfield i, 3)) (kk : WM G X k n Q M (pc + 3) lv (.long (lI (gL M a 7)) :: st)) : WM G X k n Q M pc lv (.ref a :: st) :=
  r_get B (ci := 6) rfl 7 (by decide) inG6 rfl ha rfl rfl w hdg kk
theorem rp6_slopeUp (B : Bx l G X cc nL own rm0 ret0) {i a : Nat} {z : Int} (ha : At G a 6 0) (w : Cond.fieldLink own i "GearGaugeModel" "slopeUp" "J" ∈ tG) (hdg : decode cc pc = .ok (.putfield i, 3)) (kk : WM G X k n Q (sL M a 7 z) (pc + 3) lv st) : WM G X k n Q M pc lv (.long (lI z) :: .ref a :: st) :=
  r_put B (ci := 6) (M' := sL M a 7 z) (ty0 := tyX6) rfl 7 (by decide) inG6 tyX6_ok nmX6 rfl rfl rfl (tyX6_ok 7 (by decide)) rfl rfl (Nat.le_of_ble_eq_true rfl) (by simp [flds, gI_sL, gL_sL]) (fun b h => Same.sL h) ha rfl w hdg kk
theorem rg6_slopeDown (B : Bx l G X cc nL own rm0 ret0) {i a : Nat} (ha : At G a 6 0) (w : Cond.fieldLink own i "GearGaugeModel" "slopeDown" "J" ∈ tG) (hdg : decode cc pc = .ok (.getfield i, 3)) (kk : WM G X k n Q M (pc + 3) lv (.long (lI (gL M a 8)) :: st)) : WM G X k n Q M pc lv (.ref a :: st) :=
  r_get B (ci := 6) rfl 8 (by decide) inG6 rfl ha rfl rfl w hdg kk
theorem rp6_slopeDown (B : Bx l G X cc nL own rm0 ret0) {i a : Nat} {z : Int} (ha : At G a 6 0) (w : Cond.fieldLink own i "GearGaugeModel" "slopeDown" "J" ∈ tG) (hdg : decode cc pc = .ok (.putfield i, 3)) (kk : WM G X k n Q (sL M a 8 z) (pc + 3) lv st) : WM G X k n Q M pc lv (.long (lI z) :: .ref a :: st) :=
  r_put B (ci := 6) (M' := sL M a 8 z) (ty0 := tyX6) rfl 8 (by decide) inG6 tyX6_ok nmX6 rfl rfl rfl (tyX6_ok 8 (by decide)) rfl rfl (Nat.le_of_ble_eq_true rfl) (by simp [flds, gI_sL, gL_sL]) (fun b h => Same.sL h) ha rfl w hdg kk
theorem rg6_atUp (B : Bx l G X cc nL own rm0 ret0) {i a : Nat} (ha : At G a 6 0) (w : Cond.fieldLink own i "GearGaugeModel" "atUp" "J" ∈ tG) (hdg : decode cc pc = .ok (.getfield i, 3)) (kk : WM G X k n Q M (pc + 3) lv (.long (lI (gL M a 9)) :: st)) : WM G X k n Q M pc lv (.ref a :: st) :=
  r_get B (ci := 6) rfl 9 (by decide) inG6 rfl ha rfl rfl w hdg kk
theorem rp6_atUp (B : Bx l G X cc nL own rm0 ret0) {i a : Nat} {z : Int} (ha : At G a 6 0) (w : Cond.fieldLink own i "GearGaugeModel" "atUp" "J" ∈ tG) (hdg : decode cc pc = .ok (.putfield i, 3)) (kk : WM G X k n Q (sL M a 9 z) (pc + 3) lv st) : WM G X k n Q M pc lv (.long (lI z) :: .ref a :: st) :=
  r_put B (ci := 6) (M' := sL M a 9 z) (ty0 := tyX6) rfl 9 (by decide) inG6 tyX6_ok nmX6 rfl rfl rfl (tyX6_ok 9 (by decide)) rfl rfl (Nat.le_of_ble_eq_true rfl) (by simp [flds, gI_sL, gL_sL]) (fun b h => Same.sL h) ha rfl w hdg kk
theorem rg6_atDown (B : Bx l G X cc nL own rm0 ret0) {i a : Nat} (ha : At G a 6 0) (w : Cond.fieldLink own i "GearGaugeModel" "atDown" "J" ∈ tG) (hdg : decode cc pc = .ok (.getfield i, 3)) (kk : WM G X k n Q M (pc + 3) lv (.long (lI (gL M a 10)) :: st)) : WM G X k n Q M pc lv (.ref a :: st) :=
  r_get B (ci := 6) rfl 10 (by decide) inG6 rfl ha rfl rfl w hdg kk
theorem rp6_atDown (B : Bx l G X cc nL own rm0 ret0) {i a : Nat} {z : Int} (ha : At G a 6 0) (w : Cond.fieldLink own i "GearGaugeModel" "atDown" "J" ∈ tG) (hdg : decode cc pc = .ok (.putfield i, 3)) (kk : WM G X k n Q (sL M a 10 z) (pc + 3) lv st) : WM G X k n Q M pc lv (.long (lI z) :: .ref a :: st) :=
  r_put B (ci := 6) (M' := sL M a 10 z) (ty0 := tyX6) rfl 10 (by decide) inG6 tyX6_ok nmX6 rfl rfl rfl (tyX6_ok 10 (by decide)) rfl rfl (Nat.le_of_ble_eq_true rfl) (by simp [flds, gI_sL, gL_sL]) (fun b h => Same.sL h) ha rfl w hdg kk
theorem rg6_one (B : Bx l G X cc nL own rm0 ret0) {i a : Nat} (ha : At G a 6 0) (w : Cond.fieldLink own i "GearGaugeModel" "one" "[I" ∈ tG) (hdg : decode cc pc = .ok (.getfield i, 3)) (kk : WM G X k n Q M (pc + 3) lv (.ref (a + 5) :: st)) : WM G X k n Q M pc lv (.ref a :: st) :=
  r_get B (ci := 6) rfl 11 (by decide) inG6 rfl ha rfl rfl w hdg kk
theorem rg6_other (B : Bx l G X cc nL own rm0 ret0) {i a : Nat} (ha : At G a 6 0) (w : Cond.fieldLink own i "GearGaugeModel" "other" "[I" ∈ tG) (hdg : decode cc pc = .ok (.getfield i, 3)) (kk : WM G X k n Q M (pc + 3) lv (.ref (a + 6) :: st)) : WM G X k n Q M pc lv (.ref a :: st) :=
  r_get B (ci := 6) rfl 12 (by decide) inG6 rfl ha rfl rfl w hdg kk
theorem rg6_at (B : Bx l G X cc nL own rm0 ret0) {i a : Nat} (ha : At G a 6 0) (w : Cond.fieldLink own i "GearGaugeModel" "at" "I" ∈ tG) (hdg : decode cc pc = .ok (.getfield i, 3)) (kk : WM G X k n Q M (pc + 3) lv (.int (iI (gI M a 13)) :: st)) : WM G X k n Q M pc lv (.ref a :: st) :=
  r_get B (ci := 6) rfl 13 (by decide) inG6 rfl ha rfl rfl w hdg kk
theorem rp6_at (B : Bx l G X cc nL own rm0 ret0) {i a : Nat} {z : Int} (ha : At G a 6 0) (w : Cond.fieldLink own i "GearGaugeModel" "at" "I" ∈ tG) (hdg : decode cc pc = .ok (.putfield i, 3)) (kk : WM G X k n Q (sI M a 13 z) (pc + 3) lv st) : WM G X k n Q M pc lv (.int (iI z) :: .ref a :: st) :=
  r_put B (ci := 6) (M' := sI M a 13 z) (ty0 := tyX6) rfl 13 (by decide) inG6 tyX6_ok nmX6 rfl rfl rfl (tyX6_ok 13 (by decide)) rfl rfl (Nat.le_of_ble_eq_true rfl) (by simp [flds, gI_sI, gL_sI]) (fun b h => Same.sI h) ha rfl w hdg kk
theorem rg6_letter (B : Bx l G X cc nL own rm0 ret0) {i a : Nat} (ha : At G a 6 0) (w : Cond.fieldLink own i "GearGaugeModel" "letter" "I" ∈ tG) (hdg : decode cc pc = .ok (.getfield i, 3)) (kk : WM G X k n Q M (pc + 3) lv (.int (iI (gI M a 14)) :: st)) : WM G X k n Q M pc lv (.ref a :: st) :=
  r_get B (ci := 6) rfl 14 (by decide) inG6 rfl ha rfl rfl w hdg kk
theorem rp6_letter (B : Bx l G X cc nL own rm0 ret0) {i a : Nat} {z : Int} (ha : At G a 6 0) (w : Cond.fieldLink own i "GearGaugeModel" "letter" "I" ∈ tG) (hdg : decode cc pc = .ok (.putfield i, 3)) (kk : WM G X k n Q (sI M a 14 z) (pc + 3) lv st) : WM G X k n Q M pc lv (.int (iI z) :: .ref a :: st) :=
  r_put B (ci := 6) (M' := sI M a 14 z) (ty0 := tyX6) rfl 14 (by decide) inG6 tyX6_ok nmX6 rfl rfl rfl (tyX6_ok 14 (by decide)) rfl rfl (Nat.le_of_ble_eq_true rfl) (by simp [flds, gI_sI, gL_sI]) (fun b h => Same.sI h) ha rfl w hdg kk
theorem rg6_numbers (B : Bx l G X cc nL own rm0 ret0) {i a : Nat} (ha : At G a 6 0) (w : Cond.fieldLink own i "GearGaugeModel" "numbers" "[I" ∈ tG) (hdg : decode cc pc = .ok (.getfield i, 3)) (kk : WM G X k n Q M (pc + 3) lv (.ref (a + 7) :: st)) : WM G X k n Q M pc lv (.ref a :: st) :=
  r_get B (ci := 6) rfl 15 (by decide) inG6 rfl ha rfl rfl w hdg kk
theorem rg6_numberMany (B : Bx l G X cc nL own rm0 ret0) {i a : Nat} (ha : At G a 6 0) (w : Cond.fieldLink own i "GearGaugeModel" "numberMany" "I" ∈ tG) (hdg : decode cc pc = .ok (.getfield i, 3)) (kk : WM G X k n Q M (pc + 3) lv (.int (iI (gI M a 16)) :: st)) : WM G X k n Q M pc lv (.ref a :: st) :=
  r_get B (ci := 6) rfl 16 (by decide) inG6 rfl ha rfl rfl w hdg kk
theorem rp6_numberMany (B : Bx l G X cc nL own rm0 ret0) {i a : Nat} {z : Int} (ha : At G a 6 0) (w : Cond.fieldLink own i "GearGaugeModel" "numberMany" "I" ∈ tG) (hdg : decode cc pc = .ok (.putfield i, 3)) (kk : WM G X k n Q (sI M a 16 z) (pc + 3) lv st) : WM G X k n Q M pc lv (.int (iI z) :: .ref a :: st) :=
  r_put B (ci := 6) (M' := sI M a 16 z) (ty0 := tyX6) rfl 16 (by decide) inG6 tyX6_ok nmX6 rfl rfl rfl (tyX6_ok 16 (by decide)) rfl rfl (Nat.le_of_ble_eq_true rfl) (by simp [flds, gI_sI, gL_sI]) (fun b h => Same.sI h) ha rfl w hdg kk
theorem rg6_h (B : Bx l G X cc nL own rm0 ret0) {i a : Nat} (ha : At G a 6 0) (w : Cond.fieldLink own i "GearGaugeModel" "h" "J" ∈ tG) (hdg : decode cc pc = .ok (.getfield i, 3)) (kk : WM G X k n Q M (pc + 3) lv (.long (lI (gL M a 17)) :: st)) : WM G X k n Q M pc lv (.ref a :: st) :=
  r_get B (ci := 6) rfl 17 (by decide) inG6 rfl ha rfl rfl w hdg kk
theorem rp6_h (B : Bx l G X cc nL own rm0 ret0) {i a : Nat} {z : Int} (ha : At G a 6 0) (w : Cond.fieldLink own i "GearGaugeModel" "h" "J" ∈ tG) (hdg : decode cc pc = .ok (.putfield i, 3)) (kk : WM G X k n Q (sL M a 17 z) (pc + 3) lv st) : WM G X k n Q M pc lv (.long (lI z) :: .ref a :: st) :=
  r_put B (ci := 6) (M' := sL M a 17 z) (ty0 := tyX6) rfl 17 (by decide) inG6 tyX6_ok nmX6 rfl rfl rfl (tyX6_ok 17 (by decide)) rfl rfl (Nat.le_of_ble_eq_true rfl) (by simp [flds, gI_sL, gL_sL]) (fun b h => Same.sL h) ha rfl w hdg kk
theorem toNat_iI {i : Int} (h0 : 0 ≤ i) (h1 : i < 2147483648) : (iI i).toNatClampNeg = i.toNat := by
  have h := iI_nat h0 (by omega)
  omega
theorem shT_small : ∀ q ∈ shT, q.2 < 2147483648 := by decide +kernel
theorem At.small {a c m : Nat} (h : At G a c m) : m < 2147483648 := by
  obtain ⟨d, -, h⟩ := h
  exact shT_small _ (List.mem_of_getElem? h)
theorem r_iaload (B : Bx l G X cc nL own rm0 ret0) {a m : Nat} {i : Int} (hdg : decode cc pc = .ok (.iaload, 1)) (ha : At G a 7 m) (h0 : 0 ≤ i) (h1 : i < m) (kk : WM G X k n Q M (pc + 1) lv (.int (iI (gI M a i)) :: st)) : WM G X k n Q M pc lv (.int (iI i) :: .ref a :: st) := by
  intro H locs ls hP hS hl
  have hm := ha.small
  refine va_iald B.1.1 B.1.2.1 B.2.2.2.2.2.1.1 hP (a - G.1) 0 (WW_get ha) rfl (iI_in h0 h1 hm) hdg ?_
  rw [show (((iI i).toNatClampNeg : Nat) : Int) = i from iI_nat h0 (by omega)]
  exact kk H locs ls hP hS hl
theorem r_iastore (B : Bx l G X cc nL own rm0 ret0) {a m : Nat} {i x : Int} (hdg : decode cc pc = .ok (.iastore, 1)) (ha : At G a 7 m) (h0 : 0 ≤ i) (h1 : i < m) (kk : WM G X k n Q (sI M a i x) (pc + 1) lv st) : WM G X k n Q M pc lv (.int (iI x) :: .int (iI i) :: .ref a :: st) := by
  intro H locs ls hP hS hl
  have hm := ha.small
  refine va_iast B.1.1 B.1.2.1 B.2.2.2.2.2.1.1 hP WW_D hS (a - G.1) 0 (WW_get ha) rfl (iI_in h0 h1 hm) hdg (fun H1 locs1 hP1 hD1 hS1 => ?_)
  rw [WW_set (M' := sI M a i x) ha ?_ (fun b h => Same.sI h)] at hP1
  · exact kk H1 locs1 ls hP1 hS1 hl
  · show Sum.inl _ = Sum.inl _
    rw [toNat_iI h0 (by omega)]
    congr 2; congr 1; congr 1
    funext j
    unfold upd
    rw [gI_sI]
    by_cases hj : j = i.toNat
    · rw [if_pos hj, if_pos ⟨rfl, by omega⟩]
    · rw [if_neg hj, if_neg (fun q => hj (by omega))]
theorem r_aaload8 (B : Bx l G X cc nL own rm0 ret0) {a m : Nat} {i : Int} (hdg : decode cc pc = .ok (.aaload, 1)) (ha : At G a 8 m) (h0 : 0 ≤ i) (h1 : i < m) (kk : WM G X k n Q M (pc + 1) lv (.ref (gP M a i) :: st)) : WM G X k n Q M pc lv (.int (iI i) :: .ref a :: st) := by
  intro H locs ls hP hS hl
  have hm := ha.small
  refine va_aldq B.1.1 B.1.2.1 B.2.2.2.2.2.1.1 hP (a - G.1) 1 (WW_get ha) rfl (iI_in h0 h1 hm) hdg ?_
  rw [show (((iI i).toNatClampNeg : Nat) : Int) = i from iI_nat h0 (by omega)]
  exact kk H locs ls hP hS hl
theorem r_aastore8 (B : Bx l G X cc nL own rm0 ret0) {a m v : Nat} {i : Int} (hdg : decode cc pc = .ok (.aastore, 1)) (ha : At G a 8 m) (hv : At G v 0 0) (h0 : 0 ≤ i) (h1 : i < m) (kk : WM G X k n Q (sP M a i v) (pc + 1) lv st) : WM G X k n Q M pc lv (.ref v :: .int (iI i) :: .ref a :: st) := by
  intro H locs ls hP hS hl
  have hm := ha.small
  refine va_astq B.1.1 B.1.2.1 B.2.2.2.2.2.1.1 hP WW_D hS (a - G.1) 1 (v - G.1) 0 (WW_get ha) (r := (RX0, TX0, 3)) rfl (WW_get hv) rfl (iI_in h0 h1 hm) hdg (fun H1 locs1 hP1 hD1 hS1 => ?_)
  rw [WW_set (M' := sP M a i v) ha ?_ (fun b h => Same.sP h)] at hP1
  · exact kk H1 locs1 ls hP1 hS1 hl
  · show Sum.inl _ = Sum.inl _
    rw [toNat_iI h0 (by omega)]
    congr 2; congr 1; congr 1; congr 1; congr 1; congr 1
    funext j
    unfold va_up
    rw [gP_sP]
    by_cases hj : j = i.toNat
    · rw [if_pos hj, if_pos ⟨rfl, by omega⟩]
    · rw [if_neg hj, if_neg (fun q => hj (by omega))]
theorem r_aaload9 (B : Bx l G X cc nL own rm0 ret0) {a m : Nat} {i : Int} (hdg : decode cc pc = .ok (.aaload, 1)) (ha : At G a 9 m) (h0 : 0 ≤ i) (h1 : i < m) (kk : WM G X k n Q M (pc + 1) lv (.ref (gP M a i) :: st)) : WM G X k n Q M pc lv (.int (iI i) :: .ref a :: st) := by
  intro H locs ls hP hS hl
  have hm := ha.small
  refine va_aldq B.1.1 B.1.2.1 B.2.2.2.2.2.1.1 hP (a - G.1) 2 (WW_get ha) rfl (iI_in h0 h1 hm) hdg ?_
  rw [show (((iI i).toNatClampNeg : Nat) : Int) = i from iI_nat h0 (by omega)]
  exact kk H locs ls hP hS hl
theorem r_aastore9 (B : Bx l G X cc nL own rm0 ret0) {a m v : Nat} {i : Int} (hdg : decode cc pc = .ok (.aastore, 1)) (ha : At G a 9 m) (hv : At G v 1 0) (h0 : 0 ≤ i) (h1 : i < m) (kk : WM G X k n Q (sP M a i v) (pc + 1) lv st) : WM G X k n Q M pc lv (.ref v :: .int (iI i) :: .ref a :: st) := by
  intro H locs ls hP hS hl
  have hm := ha.small
  refine va_astq B.1.1 B.1.2.1 B.2.2.2.2.2.1.1 hP WW_D hS (a - G.1) 2 (v - G.1) 1 (WW_get ha) (r := (RX1, TX1, 8)) rfl (WW_get hv) rfl (iI_in h0 h1 hm) hdg (fun H1 locs1 hP1 hD1 hS1 => ?_)
  rw [WW_set (M' := sP M a i v) ha ?_ (fun b h => Same.sP h)] at hP1
  · exact kk H1 locs1 ls hP1 hS1 hl
  · show Sum.inl _ = Sum.inl _
    rw [toNat_iI h0 (by omega)]
    congr 2; congr 1; congr 1; congr 1; congr 1; congr 1
    funext j
    unfold va_up
    rw [gP_sP]
    by_cases hj : j = i.toNat
    · rw [if_pos hj, if_pos ⟨rfl, by omega⟩]
    · rw [if_neg hj, if_neg (fun q => hj (by omega))]
theorem r_aaload10 (B : Bx l G X cc nL own rm0 ret0) {a m : Nat} {i : Int} (hdg : decode cc pc = .ok (.aaload, 1)) (ha : At G a 10 m) (h0 : 0 ≤ i) (h1 : i < m) (kk : WM G X k n Q M (pc + 1) lv (.ref (gP M a i) :: st)) : WM G X k n Q M pc lv (.int (iI i) :: .ref a :: st) := by
  intro H locs ls hP hS hl
  have hm := ha.small
  refine va_aldq B.1.1 B.1.2.1 B.2.2.2.2.2.1.1 hP (a - G.1) 3 (WW_get ha) rfl (iI_in h0 h1 hm) hdg ?_
  rw [show (((iI i).toNatClampNeg : Nat) : Int) = i from iI_nat h0 (by omega)]
  exact kk H locs ls hP hS hl
theorem r_aastore10 (B : Bx l G X cc nL own rm0 ret0) {a m v : Nat} {i : Int} (hdg : decode cc pc = .ok (.aastore, 1)) (ha : At G a 10 m) (hv : At G v 3 0) (h0 : 0 ≤ i) (h1 : i < m) (kk : WM G X k n Q (sP M a i v) (pc + 1) lv st) : WM G X k n Q M pc lv (.ref v :: .int (iI i) :: .ref a :: st) := by
  intro H locs ls hP hS hl
  have hm := ha.small
  refine va_astq B.1.1 B.1.2.1 B.2.2.2.2.2.1.1 hP WW_D hS (a - G.1) 3 (v - G.1) 3 (WW_get ha) (r := (RX3, TX3, 4)) rfl (WW_get hv) rfl (iI_in h0 h1 hm) hdg (fun H1 locs1 hP1 hD1 hS1 => ?_)
  rw [WW_set (M' := sP M a i v) ha ?_ (fun b h => Same.sP h)] at hP1
  · exact kk H1 locs1 ls hP1 hS1 hl
  · show Sum.inl _ = Sum.inl _
    rw [toNat_iI h0 (by omega)]
    congr 2; congr 1; congr 1; congr 1; congr 1; congr 1
    funext j
    unfold va_up
    rw [gP_sP]
    by_cases hj : j = i.toNat
    · rw [if_pos hj, if_pos ⟨rfl, by omega⟩]
    · rw [if_neg hj, if_neg (fun q => hj (by omega))]
theorem r_aaload11 (B : Bx l G X cc nL own rm0 ret0) {a m : Nat} {i : Int} (hdg : decode cc pc = .ok (.aaload, 1)) (ha : At G a 11 m) (h0 : 0 ≤ i) (h1 : i < m) (kk : WM G X k n Q M (pc + 1) lv (.ref (a + 1 + i.toNat) :: st)) : WM G X k n Q M pc lv (.int (iI i) :: .ref a :: st) := by
  intro H locs ls hP hS hl
  have hm := ha.small
  have hK := B.2.2.2.2.2.1.1
  have hlt : (iI i).toNatClampNeg < m := by rw [toNat_iI h0 (by omega)]; omega
  have hin := iI_in h0 h1 hm
  refine W.aald (v := .ref (a + 1 + i.toNat)) (ty := .array .int) B.1.1 B.1.2.1 (hP (a - G.1) _ (WW_get ha)) ((hK.2 4 (G.2.2 4, .array .int) rfl).1 m (fun j => va_rf (some (a + 1 + j)))) rfl (fun q => by cases q) (by show ¬ (iI i < 0 ∨ (arrV _ _ _).slots.size ≤ _); rw [arrV_size]; exact hin) ?_ rfl rfl hdg (kk H locs ls hP hS hl)
  show (arrV _ _ _).slots[_]? = _
  rw [arrV_read _ _ hlt, toNat_iI h0 (by omega)]
  rfl
theorem r_laload (B : Bx l G X cc nL own rm0 ret0) {a m : Nat} {i : Int} (hdg : decode cc pc = .ok (.laload, 1)) (ha : At G a 12 m) (h0 : 0 ≤ i) (h1 : i < m) (kk : WM G X k n Q M (pc + 1) lv (.long (lI (gL M a i)) :: st)) : WM G X k n Q M pc lv (.int (iI i) :: .ref a :: st) := by
  intro H locs ls hP hS hl
  have hm := ha.small
  refine va_lald B.1.1 B.1.2.1 B.2.2.2.2.2.1.1 hP (a - G.1) 5 (WW_get ha) rfl (iI_in h0 h1 hm) hdg ?_
  rw [show (((iI i).toNatClampNeg : Nat) : Int) = i from iI_nat h0 (by omega)]
  exact kk H locs ls hP hS hl
theorem r_daload (B : Bx l G X cc nL own rm0 ret0) {a m : Nat} {i : Int} (hdg : decode cc pc = .ok (.daload, 1)) (ha : At G a 13 m) (h0 : 0 ≤ i) (h1 : i < m) (kk : WM G X k n Q M (pc + 1) lv (.double (gD M a i) :: st)) : WM G X k n Q M pc lv (.int (iI i) :: .ref a :: st) := by
  intro H locs ls hP hS hl
  have hm := ha.small
  refine va_dald B.1.1 B.1.2.1 B.2.2.2.2.2.1.1 hP (a - G.1) 6 (WW_get ha) rfl (iI_in h0 h1 hm) hdg ?_
  rw [show (((iI i).toNatClampNeg : Nat) : Int) = i from iI_nat h0 (by omega)]
  exact kk H locs ls hP hS hl
/-- a run of ints copied -/
def cpI (M : Mem) (a : Nat) (sp : Int) (b : Nat) (dp n : Int) : Mem := (fun c j => if c = b ∧ dp ≤ j ∧ j < dp + n then gI M a (sp + (j - dp)) else M.1 c j, M.2)
theorem gI_cpI (M : Mem) (a : Nat) (sp : Int) (b : Nat) (dp n : Int) (c : Nat) (j : Int) : gI (cpI M a sp b dp n) c j = if c = b ∧ dp ≤ j ∧ j < dp + n then gI M a (sp + (j - dp)) else gI M c j := rfl
theorem Same.cpI {a b c : Nat} {sp dp z : Int} (h : c ≠ b) : Same M (cpI M a sp b dp z) c := ⟨by funext j; rw [gI_cpI, if_neg (fun q => h q.1)], rfl, rfl, rfl⟩
theorem nfw_le : nativeFrameWords "java/lang/System" "arraycopy" 5 + 11 ≤ 60 := by decide +kernel
theorem r_copy (B : Bx l G X cc nL own rm0 ret0) {a b m0 m1 i : Nat} {sp dp z : Int} (hdg : decode cc pc = .ok (.invokestatic i, 3)) (w : Cond.methodLink own i arraycopyName ∈ tG) (w2 : Cond.native arraycopyName ∈ tG) (w3 : Cond.static arraycopyName ∈ tG) (w4 : Cond.initialized "java/lang/System" ∈ tG) (ha : At G a 7 m0) (hb : At G b 7 m1) (h1 : 0 ≤ sp) (h2 : 0 ≤ dp) (h3 : 0 ≤ z) (h4 : sp + z ≤ m0) (h5 : dp + z ≤ m1) (hr : 1 ≤ rm0.frames ∧ (st.map fun v => v.category).sum + 60 ≤ rm0.locals) (kk : WM G X k n Q (cpI M a sp b dp z) (pc + 3) lv st) : WM G X k n Q M pc lv (.int (iI z) :: .int (iI dp) :: .ref b :: .int (iI sp) :: .ref a :: st) := by
  intro H locs ls hP hS hl
  have hm0 := ha.small
  have hm1 := hb.small
  have e1 := toNat_iI h1 (by omega)
  have e2 := toNat_iI h2 (by omega)
  have e3 := toNat_iI h3 (by omega)
  have hR := B.2.2.1
  have hf := nfw_le
  refine va_copyi B.1.1 B.1.2.1 (by rw [hl.1]) B.1.2.2.2.1 (B.1.2.2.2.2 _ w) (B.1.2.2.2.2 _ w2) (B.1.2.2.2.2 _ w3) (B.1.2.2.2.2 _ w4) B.2.2.2.2.2.1.1 hP WW_D hS (a - G.1) (b - G.1) 0 0 (ty := .int) (WW_get ha) (WW_get hb) rfl rfl rfl (fun q => by have := (iI_lt ⟨by omega, by omega⟩ in32_0).mp q; omega) (fun q => by have := (iI_lt ⟨by omega, by omega⟩ in32_0).mp q; omega) (fun q => by have := (iI_lt ⟨by omega, by omega⟩ in32_0).mp q; omega) (by omega) (by omega) (fun _ _ => rfl) (by rw [hR]; exact hr.1) (by rw [hR]; have := hr.2; omega) hdg (fun H1 locs1 hP1 hD1 hS1 => ?_)
  rw [WW_set (M' := cpI M a sp b dp z) hb ?_ (fun c h => Same.cpI h)] at hP1
  · exact kk H1 locs1 ls hP1 hS1 hl
  · show Sum.inl _ = Sum.inl _
    rw [e1, e2, e3]
    congr 2; congr 1; congr 1
    funext j
    unfold va_cpy
    rw [gI_cpI]
    by_cases hj : dp.toNat ≤ j ∧ j < dp.toNat + z.toNat
    · rw [if_pos hj, if_pos ⟨rfl, by omega, by omega⟩]
      have e : ((sp.toNat + (j - dp.toNat) : Nat) : Int) = sp + ((j : Int) - dp) := by omega
      show iI (gI M a ((sp.toNat + (j - dp.toNat) : Nat) : Int)) = _
      rw [e]
    · rw [if_neg hj, if_neg (fun q => hj ⟨by omega, by omega⟩)]
theorem r_mmax (B : Bx l G X cc nL own rm0 ret0) {i : Nat} {x y : Int} (hdg : decode cc pc = .ok (.invokestatic i, 3)) (w : Cond.methodLink own i Lib.Math.max.name ∈ tG) (w2 : Cond.static Lib.Math.max.name ∈ tG) (w3 : Cond.initialized "java/lang/Math" ∈ tG) (w4 : Cond.code Lib.Math.max.name Lib.Math.max.code 2 (some .int) ∈ tG) (hx : In32 x) (hy : In32 y) (hr : 1 ≤ rm0.frames ∧ (st.map fun v => v.category).sum + 15 ≤ rm0.locals ∧ k ≤ rm0.cells ∧ n ≤ rm0.slots) (kk : WM G X k n Q M (pc + 3) lv (.int (iI (max x y)) :: st)) : WM G X k n Q M pc lv (.int (iI y) :: .int (iI x) :: st) := by
  intro H locs ls hP hS hl
  have hR := B.2.2.1
  refine va_mmax B.1.1 B.1.2.1 (by rw [hl.1]) B.1.2.2.2.1 (B.1.2.2.2.2 _ w) (B.1.2.2.2.2 _ w2) (B.1.2.2.2.2 _ w3) (B.1.2.2.2.2 _ w4) (by rw [hR]; exact hr.1) (by rw [hR]; have := hr.2.1; omega) (by rw [hR]; exact hr.2.2.1) (by rw [hR]; exact hr.2.2.2) hdg ?_
  have e : (if iI x < iI y then iI y else iI x) = iI (max x y) := by
    by_cases h : x < y
    · rw [if_pos ((iI_lt hx hy).mpr h), Int.max_eq_right (by omega)]
    · rw [if_neg (fun q => h ((iI_lt hx hy).mp q)), Int.max_eq_left (by omega)]
  rw [e]
  exact kk H locs ls hP hS hl
theorem r_mmin (B : Bx l G X cc nL own rm0 ret0) {i : Nat} {x y : Int} (hdg : decode cc pc = .ok (.invokestatic i, 3)) (w : Cond.methodLink own i Lib.Math.min.name ∈ tG) (w2 : Cond.static Lib.Math.min.name ∈ tG) (w3 : Cond.initialized "java/lang/Math" ∈ tG) (w4 : Cond.code Lib.Math.min.name Lib.Math.min.code 2 (some .int) ∈ tG) (hx : In32 x) (hy : In32 y) (hr : 1 ≤ rm0.frames ∧ (st.map fun v => v.category).sum + 15 ≤ rm0.locals ∧ k ≤ rm0.cells ∧ n ≤ rm0.slots) (kk : WM G X k n Q M (pc + 3) lv (.int (iI (min x y)) :: st)) : WM G X k n Q M pc lv (.int (iI y) :: .int (iI x) :: st) := by
  intro H locs ls hP hS hl
  have hR := B.2.2.1
  refine va_mmin B.1.1 B.1.2.1 (by rw [hl.1]) B.1.2.2.2.1 (B.1.2.2.2.2 _ w) (B.1.2.2.2.2 _ w2) (B.1.2.2.2.2 _ w3) (B.1.2.2.2.2 _ w4) (by rw [hR]; exact hr.1) (by rw [hR]; have := hr.2.1; omega) (by rw [hR]; exact hr.2.2.1) (by rw [hR]; exact hr.2.2.2) hdg ?_
  have e : (if iI y < iI x then iI y else iI x) = iI (min x y) := by
    by_cases h : y < x
    · rw [if_pos ((iI_lt hy hx).mpr h), Int.min_eq_right (by omega)]
    · rw [if_neg (fun q => h ((iI_lt hy hx).mp q)), Int.min_eq_left (by omega)]
  rw [e]
  exact kk H locs ls hP hS hl
theorem r_mlmax (B : Bx l G X cc nL own rm0 ret0) {i : Nat} {x y : Int} (hdg : decode cc pc = .ok (.invokestatic i, 3)) (w : Cond.methodLink own i Lib.MathLoose.max_long.x ∈ tG) (w2 : Cond.static Lib.MathLoose.max_long.x ∈ tG) (w3 : Cond.initialized "java/lang/Math" ∈ tG) (w4 : Cond.code Lib.MathLoose.max_long.x Lib.MathLoose.max_long.code 4 (some .long) ∈ tG) (hx : In64 x) (hy : In64 y) (hr : 1 ≤ rm0.frames ∧ (st.map fun v => v.category).sum + 15 ≤ rm0.locals ∧ k ≤ rm0.cells ∧ n ≤ rm0.slots) (kk : WM G X k n Q M (pc + 3) lv (.long (lI (max x y)) :: st)) : WM G X k n Q M pc lv (.long (lI y) :: .long (lI x) :: st) := by
  intro H locs ls hP hS hl
  have hR := B.2.2.1
  refine va_mmax_long B.1.1 B.1.2.1 (by rw [hl.1]) B.1.2.2.2.1 (B.1.2.2.2.2 _ w) (B.1.2.2.2.2 _ w2) (B.1.2.2.2.2 _ w3) (B.1.2.2.2.2 _ w4) (by rw [hR]; exact hr.1) (by rw [hR]; have := hr.2.1; omega) (by rw [hR]; exact hr.2.2.1) (by rw [hR]; exact hr.2.2.2) hdg ?_
  have e : (if lI y < lI x then lI x else lI y) = lI (max x y) := by
    by_cases h : y < x
    · rw [if_pos ((lI_lt hy hx).mpr h), Int.max_eq_left (by omega)]
    · rw [if_neg (fun q => h ((lI_lt hy hx).mp q)), Int.max_eq_right (by omega)]
  rw [e]
  exact kk H locs ls hP hS hl
theorem r_mlmin (B : Bx l G X cc nL own rm0 ret0) {i : Nat} {x y : Int} (hdg : decode cc pc = .ok (.invokestatic i, 3)) (w : Cond.methodLink own i Lib.MathLoose.min_long.x ∈ tG) (w2 : Cond.static Lib.MathLoose.min_long.x ∈ tG) (w3 : Cond.initialized "java/lang/Math" ∈ tG) (w4 : Cond.code Lib.MathLoose.min_long.x Lib.MathLoose.min_long.code 4 (some .long) ∈ tG) (hx : In64 x) (hy : In64 y) (hr : 1 ≤ rm0.frames ∧ (st.map fun v => v.category).sum + 15 ≤ rm0.locals ∧ k ≤ rm0.cells ∧ n ≤ rm0.slots) (kk : WM G X k n Q M (pc + 3) lv (.long (lI (min x y)) :: st)) : WM G X k n Q M pc lv (.long (lI y) :: .long (lI x) :: st) := by
  intro H locs ls hP hS hl
  have hR := B.2.2.1
  refine va_mmin_long B.1.1 B.1.2.1 (by rw [hl.1]) B.1.2.2.2.1 (B.1.2.2.2.2 _ w) (B.1.2.2.2.2 _ w2) (B.1.2.2.2.2 _ w3) (B.1.2.2.2.2 _ w4) (by rw [hR]; exact hr.1) (by rw [hR]; have := hr.2.1; omega) (by rw [hR]; exact hr.2.2.1) (by rw [hR]; exact hr.2.2.2) hdg ?_
  have e : (if lI y < lI x then lI y else lI x) = lI (min x y) := by
    by_cases h : y < x
    · rw [if_pos ((lI_lt hy hx).mpr h), Int.min_eq_right (by omega)]
    · rw [if_neg (fun q => h ((lI_lt hy hx).mp q)), Int.min_eq_left (by omega)]
  rw [e]
  exact kk H locs ls hP hS hl
theorem r_mabs (B : Bx l G X cc nL own rm0 ret0) {i : Nat} {x : Int} (hdg : decode cc pc = .ok (.invokestatic i, 3)) (w : Cond.methodLink own i Lib.Math.abs.name ∈ tG) (w2 : Cond.static Lib.Math.abs.name ∈ tG) (w3 : Cond.initialized "java/lang/Math" ∈ tG) (w4 : Cond.code Lib.Math.abs.name Lib.Math.abs.code 1 (some .int) ∈ tG) (hx : In32 x) (hr : 1 ≤ rm0.frames ∧ (st.map fun v => v.category).sum + 15 ≤ rm0.locals ∧ k ≤ rm0.cells ∧ n ≤ rm0.slots) (kk : WM G X k n Q M (pc + 3) lv (.int (iI (max x (-x))) :: st)) : WM G X k n Q M pc lv (.int (iI x) :: st) := by
  intro H locs ls hP hS hl
  have hR := B.2.2.1
  refine va_mabs B.1.1 B.1.2.1 (by rw [hl.1]) B.1.2.2.2.1 (B.1.2.2.2.2 _ w) (B.1.2.2.2.2 _ w2) (B.1.2.2.2.2 _ w3) (B.1.2.2.2.2 _ w4) (by rw [hR]; exact hr.1) (by rw [hR]; have := hr.2.1; omega) (by rw [hR]; exact hr.2.2.1) (by rw [hR]; exact hr.2.2.2) hdg ?_
  have e : (if 0 ≤ iI x then iI x else 0 - iI x) = iI (max x (-x)) := by
    by_cases h : 0 ≤ x
    · rw [if_pos (show (0 : Int32) ≤ iI x from (iI_le in32_0 hx).mpr h), Int.max_eq_left (by omega)]
    · rw [if_neg (fun q : (0 : Int32) ≤ iI x => h ((iI_le in32_0 hx).mp q)), Int.max_eq_right (by omega), ← iI_zero, iI_sub, Int.zero_sub]
  rw [e]
  exact kk H locs ls hP hS hl
theorem r_mlabs (B : Bx l G X cc nL own rm0 ret0) {i : Nat} {x : Int} (hdg : decode cc pc = .ok (.invokestatic i, 3)) (w : Cond.methodLink own i Lib.MathLoose.abs_long.x ∈ tG) (w2 : Cond.static Lib.MathLoose.abs_long.x ∈ tG) (w3 : Cond.initialized "java/lang/Math" ∈ tG) (w4 : Cond.code Lib.MathLoose.abs_long.x Lib.MathLoose.abs_long.code 2 (some .long) ∈ tG) (hx : In64 x) (hr : 1 ≤ rm0.frames ∧ (st.map fun v => v.category).sum + 15 ≤ rm0.locals ∧ k ≤ rm0.cells ∧ n ≤ rm0.slots) (kk : WM G X k n Q M (pc + 3) lv (.long (lI (max x (-x))) :: st)) : WM G X k n Q M pc lv (.long (lI x) :: st) := by
  intro H locs ls hP hS hl
  have hR := B.2.2.1
  refine va_mabs_long B.1.1 B.1.2.1 (by rw [hl.1]) B.1.2.2.2.1 (B.1.2.2.2.2 _ w) (B.1.2.2.2.2 _ w2) (B.1.2.2.2.2 _ w3) (B.1.2.2.2.2 _ w4) (by rw [hR]; exact hr.1) (by rw [hR]; have := hr.2.1; omega) (by rw [hR]; exact hr.2.2.1) (by rw [hR]; exact hr.2.2.2) hdg ?_
  have e : (if 0 < lI x then lI x else -lI x) = lI (max x (-x)) := by
    by_cases h : 0 < x
    · rw [if_pos (show (0 : Int64) < lI x from (lI_lt in64_0 hx).mpr h), Int.max_eq_left (by omega)]
    · rw [if_neg (fun q : (0 : Int64) < lI x => h ((lI_lt in64_0 hx).mp q)), Int.max_eq_right (by omega), lI_neg]
  rw [e]
  exact kk H locs ls hP hS hl
end R
