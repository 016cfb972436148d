/-! the law's own rows -/
/-- a number of the script -/
def sc (xs : Nat → Int32) (z : Int) : Int := (xs z.toNat).toInt
theorem sc_in (xs : Nat → Int32) (z : Int) : In32 (sc xs z) := in32_of _
section R
variable {l : Launch} {G : Gs} {X : Cx} {cc : ByteArray} {nL : Nat} {own : String} {rm0 : Room} {ret0 : Option FieldType} {k n : Nat} {Q : State → Prop} {M : Mem} {pc : Nat} {lv : List (Nat × Value)} {st : List Value} {bS L : Nat} {xs : Nat → Int32}
theorem r_sld (B : Bx l G X cc nL own rm0 ret0) (hX : va_X bS L xs X.2.2.2.2.1 X.2.2.2.2.1.heap) (hbl : bS < X.2.2.2.2.1.heap.size) (hbA : bS < G.1) {z : Int} (hdg : decode cc pc = .ok (.iaload, 1)) (h0 : 0 ≤ z) (h1 : z < L) (hL : L ≤ 2560) (kk : WM G X k n Q M (pc + 1) lv (.int (iI (sc xs z)) :: st)) : WM G X k n Q M pc lv (.int (iI z) :: .ref bS :: st) := by
  intro H locs ls hP hS hl
  refine va_sld B.1.1 B.1.2.1 hX hbl (by show ¬ G.1 ≤ bS; omega) hS (iI_in h0 h1 (by omega)) hdg ?_
  have e := iI_nat h0 (show z ≤ 2147483647 by omega)
  rw [show (iI z).toNatClampNeg = z.toNat by omega, ← iI_of (xs z.toNat)]
  exact kk H locs ls hP hS hl
theorem r_slen (B : Bx l G X cc nL own rm0 ret0) (hX : va_X bS L xs X.2.2.2.2.1 X.2.2.2.2.1.heap) (hbl : bS < X.2.2.2.2.1.heap.size) (hbA : bS < G.1) (hdg : decode cc pc = .ok (.arraylength, 1)) (kk : WM G X k n Q M (pc + 1) lv (.int (iI (L : Int)) :: st)) : WM G X k n Q M pc lv (.ref bS :: st) := by
  intro H locs ls hP hS hl
  refine va_slen B.1.1 B.1.2.1 hX hbl (by show ¬ G.1 ≤ bS; omega) hS hdg ?_
  rw [show Int32.ofNat L = iI (L : Int) from (Int32.ofInt_eq_ofNat).symm]
  exact kk H locs ls hP hS hl
theorem r_iand (B : Bx l G X cc nL own rm0 ret0) {x y : Int32} (hdg : decode cc pc = .ok (.iand, 1)) (kk : WM G X k n Q M (pc + 1) lv (.int (x &&& y) :: st)) : WM G X k n Q M pc lv (.int y :: .int x :: st) :=
  fun H locs ls hP hS hl => lv_iand B.1.1 B.1.2.1 hdg (kk H locs ls hP hS hl)
theorem r_same (B : Bx l G X cc nL own rm0 ret0) {x : Int32} {off : Int} {tgt : Nat} (hdg : decode cc pc = .ok (.if_icmp .eq off, 3)) (ht : (pc : Int) + off = (tgt : Int)) (kk : WM G X k n Q M tgt lv st) : WM G X k n Q M pc lv (.int x :: .int x :: st) :=
  fun H locs ls hP hS hl => lv_icmp_eq B.1.1 B.1.2.1 hdg ht (fun _ => kk H locs ls hP hS hl) (fun h => absurd rfl h)
theorem lg_cmp_self (x : Int64) : lg_cmp x x = iI 0 := by
  rw [← lI_of x, lg_cmpI (in64_of x) (in64_of x)]
  unfold cmpI
  rw [if_neg (by omega), if_pos rfl]
theorem r_lsame (B : Bx l G X cc nL own rm0 ret0) {x : Int64} {off : Int} {tgt : Nat} (hdg : decode cc pc = .ok (.lcmp, 1)) (hdg2 : decode cc (pc + 1) = .ok (.ifCond .eq off, 3)) (ht : ((pc + 1 : Nat) : Int) + off = (tgt : Int)) (kk : WM G X k n Q M tgt lv st) : WM G X k n Q M pc lv (.long x :: .long x :: st) :=
  fun H locs ls hP hS hl => W.lcmp B.1.1 B.1.2.1 hdg (by
    rw [lg_cmp_self]
    exact r_if_eq B hdg2 ht in32_0 (fun _ => kk) (fun h => absurd rfl h) H locs ls hP hS hl)
theorem dcmp_same (x : UInt64) : ∃ z : Int, (z = 0 ∨ z = -1) ∧ Op.cmpValue (FP.dcmp x x) .l = iI z := by
  by_cases h : FP.Core.val64 x = FP.Core.Datum.nan
  · exact ⟨-1, Or.inr rfl, by rw [show FP.dcmp x x = none from (FP.Core.dcmp_none x x).mpr (Or.inl h)]; rfl⟩
  · exact ⟨0, Or.inl rfl, by rw [show FP.dcmp x x = some .eq from FP.Core.dcmp_self h]; rfl⟩
theorem r_dsame (B : Bx l G X cc nL own rm0 ret0) {x : UInt64} (hdg : decode cc pc = .ok (.dcmp .l, 1)) {z : Int} (hz : Op.cmpValue (FP.dcmp x x) .l = iI z) (kk : WM G X k n Q M (pc + 1) lv (.int (iI z) :: st)) : WM G X k n Q M pc lv (.double x :: .double x :: st) :=
  fun H locs ls hP hS hl => lv_dcmp B.1.1 B.1.2.1 hdg (by rw [hz]; exact kk H locs ls hP hS hl)
theorem r_vd {x y : UInt64} (h : x = y) (kk : WM G X k n Q M pc lv (.double y :: st)) : WM G X k n Q M pc lv (.double x :: st) := h ▸ kk
end R
def blF (v : Int) : Int := if v = 0 then 0 else 1
theorem blF_in (v : Int) : blF v = 0 ∨ blF v = 1 := by unfold blF; split <;> omega
theorem Rp.app {G : Gs} {M M' : Mem} {v r len : Int} {g : Gst} {b : Int → Int} (hR : RI G M g len b) (h : r = (oApp len v).2 ∧ (((oApp len v).1 = 0 ∧ M' = sI (sI (sI M (G.1 + 335 + 4) len v) (G.1 + 335) 5 (len + 1)) (G.1 + 335) 6 0) ∨ ((oApp len v).1 ≠ 0 ∧ M' = sI M (G.1 + 335) 6 (oApp len v).1))) : Rp G M (oApp len v).1 (oApp len v).2 g (apL len v) (apB len v b) r M' := by
  obtain ⟨h1, h2⟩ := h
  unfold apL apB
  rcases h2 with ⟨h2, rfl⟩ | ⟨h2, rfl⟩
  · rw [if_pos h2, if_pos h2]
    refine ⟨h1, by rw [h2]; exact gI_eq, RI.sI6 ⟨?_, gI_eq, fun i p q => ?_⟩, fun c hc => (Same.sI (by omega)).tr ((Same.sI (by omega)).tr (Same.sI (by omega)))⟩
    · exact hR.1.only (by funext j; rw [gI_ne (by omega), gI_ne (by omega)]) (by funext j; rw [gI_ne (by omega), gI_ne (by omega)]) (by rw [gI_nk (by omega), gI_ne (by omega)])
    · rw [gI_ne (by omega)]
      by_cases w : i = len
      · rw [w, gI_eq, upF_eq]
      · rw [gI_nk w, upF_ne w]; exact hR.2.2 i p (by omega)
  · rw [if_neg h2, if_neg h2]
    exact ⟨h1, gI_eq, hR.sI6, fR.sI⟩
theorem Rp.undo {G : Gs} {M M' : Mem} {r len : Int} {g : Gst} {b : Int → Int} (hR : RI G M g len b) (h : (1 ≤ g.2.1 → r = g.2.1 - 1 ∧ gI M' (G.1 + 335) 6 = 0 ∧ MdG M' (G.1 + 335) (g.2.2 (g.2.1 - 1), g.2.1 - 1, g.2.2)) ∧ (¬ 1 ≤ g.2.1 → r = 0 ∧ gI M' (G.1 + 335) 6 = 1 ∧ MdG M' (G.1 + 335) (g.1, g.2.1, g.2.2)) ∧ MdF M M' (G.1 + 335)) : Rp G M (uoK g) (uoV g) (uoG g) len b r M' := by
  obtain ⟨h1, h2, h3⟩ := h
  have hF : fR G M M' := fR.only h3.2.2 (by omega) (by omega)
  unfold uoK uoV uoG
  by_cases w : 1 ≤ g.2.1
  · rw [if_pos w, if_pos w, if_pos w]
    exact ⟨(h1 w).1, (h1 w).2.1, hR.mdf (h1 w).2.2 h3, hF⟩
  · rw [if_neg w, if_neg w, if_neg w]
    exact ⟨(h2 w).1, (h2 w).2.1, hR.mdf (h2 w).2.2 h3, hF⟩
