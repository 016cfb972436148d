/-! the cells as they lie when all is made -/
def gP0 (N a : Nat) (j : Int) : Nat := if a = N + 107 then N + 108 + 53 * j.toNat else if a = N + 2 ∨ a = N + 55 ∨ a = N + 109 ∨ a = N + 162 ∨ a = N + 215 ∨ a = N + 268 then a + 2 + 5 * j.toNat else a + 31 + 2 * j.toNat
def M0 (G : Gs) : Mem := (fun a k => if a = G.1 + 323 ∧ k = 0 then 1 else 0, fun _ _ => 0, fun _ _ => 0, fun a j => gP0 G.1 a j)
def SBp (sb : Nat) : Prop := sb = 1 ∨ sb = 54 ∨ sb = 108 ∨ sb = 161 ∨ sb = 214 ∨ sb = 267
theorem gI_M0 {G : Gs} {a : Nat} {k : Int} (h : a ≠ G.1 + 323) : gI (M0 G) a k = 0 := if_neg (fun q => h q.1)
theorem gP_sv {G : Gs} {j : Int} : gP (M0 G) (G.1 + 107) j = G.1 + 108 + 53 * j.toNat := if_pos rfl
theorem gP_g {G : Gs} {sb : Nat} {j : Int} (h : SBp sb) : gP (M0 G) (G.1 + sb + 1) j = G.1 + sb + 3 + 5 * j.toNat := by
  unfold SBp at h
  show gP0 G.1 (G.1 + sb + 1) j = _
  unfold gP0
  rw [if_neg (by omega), if_pos (by omega)]
theorem gP_l {G : Gs} {sb : Nat} {j : Int} (h : SBp sb) : gP (M0 G) (G.1 + sb + 2) j = G.1 + sb + 33 + 2 * j.toNat := by
  unfold SBp at h
  show gP0 G.1 (G.1 + sb + 2) j = _
  unfold gP0
  rw [if_neg (by omega), if_neg (by omega)]
theorem arrV_congr {c : ClassId} {n : Nat} {f g : Nat → Value} (h : ∀ j, j < n → f j = g j) : arrV c n f = arrV c n g := by
  unfold arrV
  congr 1
  congr 1
  funext j
  exact h j.1 j.2
theorem at_q {D : va_G} {cl : List vw_C} {H : Heap} {a n : Nat} {cA : ClassId} {f f' : Nat → Option Nat} (h : va_at D cl (a, .inl (cA, n, .inr (.inr (.inr (.inr f))))) H) (hf : ∀ j, j < n → f' j = f j) : va_at D cl (a, .inl (cA, n, .inr (.inr (.inr (.inr f'))))) H := by
  have h2 : H[a]? = some (vp_cell cA (n, .inr (.inr (.inr (.inr f))))) := h
  show H[a]? = some (vp_cell cA (n, .inr (.inr (.inr (.inr f')))))
  rw [h2, vp_cell_q, vp_cell_q]
  exact congrArg some (arrV_congr (fun j hj => by rw [hf j hj]))
theorem ent_i {G : Gs} {a n : Nat} (h : a ≠ G.1 + 323) : ent G.2.2 (M0 G) a (7, n) = .inl (G.2.2 0, n, .inl (fun _ => 0)) := by
  show (Sum.inl (G.2.2 0, n, Sum.inl (fun j : Nat => iI (gI (M0 G) a (j : Int)))) : va_E) = _
  rw [show (fun j : Nat => iI (gI (M0 G) a (j : Int))) = (fun _ => 0) from funext fun j => by rw [gI_M0 h]; rfl]
theorem ent_0 {G : Gs} {a : Nat} (h : a ≠ G.1 + 323) : ent G.2.2 (M0 G) a (0, 0) = .inr (0, [.int 0, .int 0, .ref (a + 1)]) := by
  show (Sum.inr (0, flds 0 a (M0 G)) : va_E) = _
  simp only [flds, gI_M0 h]
  rfl
theorem ent_1 {G : Gs} {a : Nat} (h : a ≠ G.1 + 323) : ent G.2.2 (M0 G) a (1, 0) = .inr (1, [.int 0, .int 0, .int 0, .long 0, .long 0, .long 0, .long 0, .ref (a + 1)]) := by
  show (Sum.inr (1, flds 1 a (M0 G)) : va_E) = _
  simp only [flds, gI_M0 h]
  rfl
theorem ent_2 {G : Gs} : ent G.2.2 (M0 G) (G.1 + 323) (2, 0) = .inr (2, [.int 1, .ref (G.1 + 323 + 1), .ref (G.1 + 323 + 2), .ref (G.1 + 323 + 3), .ref (G.1 + 323 + 4)]) := by
  show (Sum.inr (2, flds 2 (G.1 + 323) (M0 G)) : va_E) = _
  simp only [flds, show gI (M0 G) (G.1 + 323) 0 = 1 from if_pos ⟨rfl, rfl⟩]
  rfl
theorem ent_3 {G : Gs} {a : Nat} (h : a ≠ G.1 + 323) : ent G.2.2 (M0 G) a (3, 0) = .inr (3, [.int 0, .int 0, .ref (a + 1), .ref (a + 2)]) := by
  show (Sum.inr (3, flds 3 a (M0 G)) : va_E) = _
  simp only [flds, gI_M0 h]
  rfl
theorem ent_4 {G : Gs} {a : Nat} (h : a ≠ G.1 + 323) : ent G.2.2 (M0 G) a (4, 0) = textF G.2.2 a 0 := by
  show (Sum.inr (4, flds 4 a (M0 G)) : va_E) = _
  simp only [flds, gI_M0 h]
  rfl
theorem ent_5 {G : Gs} {a : Nat} (h : a ≠ G.1 + 323) : ent G.2.2 (M0 G) a (5, 0) = .inr (5, [.ref (a + 1), .ref (a + 54), .ref (a + 107), .int 0, .ref (a + 320), .ref (a + 323), .ref (a + 328), .ref (a + 333), .ref (a + 334)]) := by
  show (Sum.inr (5, flds 5 a (M0 G)) : va_E) = _
  simp only [flds, gI_M0 h]
  rfl
theorem ent_6 {G : Gs} {a : Nat} (h : a ≠ G.1 + 323) : ent G.2.2 (M0 G) a (6, 0) = modF G.2.2 a 0 := by
  show (Sum.inr (6, flds 6 a (M0 G)) : va_E) = _
  simp only [flds, gI_M0 h]
  rfl
def gsh : List (Nat × Nat) := [(0, 0), (11, 3), (7, 31), (7, 31), (7, 31)]
theorem sh_gear : ∀ i : Nat, i < 6 → ∀ r : Nat, r < 5 → shS[3 + 5 * i + r]? = gsh[r]? := by decide +kernel
theorem sh_line : ∀ i : Nat, i < 10 → ∀ r : Nat, r < 2 → shS[33 + 2 * i + r]? = [(1, 0), (7, 12)][r]? := by decide +kernel
theorem sh_state : ∀ sb ∈ [1, 54, 108, 161, 214, 267], ∀ j : Nat, j < 53 → shT[sb + j]? = shS[j]? := by decide +kernel
theorem sh_turned : ∀ r : Nat, r < 5 → shT[328 + r]? = gsh[r]? := by decide +kernel
theorem SBp.sh {sb j : Nat} (h : SBp sb) (hj : j < 53) : shT[sb + j]? = shS[j]? := by
  refine sh_state sb ?_ j hj
  unfold SBp at h
  rcases h with rfl | rfl | rfl | rfl | rfl | rfl <;> decide
section I
variable {G : Gs} {D : va_G} {H : Heap}
theorem g_block {a : Nat} (ha : a + 5 ≤ G.1 + 323 ∨ G.1 + 323 < a) {r : Nat} (hr : r < 5) (h : va_at D vwCl (a + r, gearF G.2.2 a r) H) (q : Nat × Nat) (hq : gsh[r]? = some q) : va_at D vwCl (a + r, ent G.2.2 (M0 G) (a + r) q) H := by
  rcases (show r = 0 ∨ r = 1 ∨ r = 2 ∨ r = 3 ∨ r = 4 by omega) with rfl | rfl | rfl | rfl | rfl
  · have e : q = (0, 0) := Option.some.inj (hq.symm.trans rfl)
    subst e
    rw [ent_0 (by omega)]
    exact h
  · have e : q = (11, 3) := Option.some.inj (hq.symm.trans rfl)
    subst e
    exact at_q h (fun j hj => (if_pos hj).symm)
  · have e : q = (7, 31) := Option.some.inj (hq.symm.trans rfl)
    subst e
    rw [ent_i (by omega)]
    exact h
  · have e : q = (7, 31) := Option.some.inj (hq.symm.trans rfl)
    subst e
    rw [ent_i (by omega)]
    exact h
  · have e : q = (7, 31) := Option.some.inj (hq.symm.trans rfl)
    subst e
    rw [ent_i (by omega)]
    exact h
theorem s_block {sb : Nat} (hs : SBp sb) {j : Nat} (hj : j < 53) (h : va_at D vwCl (G.1 + sb + j, stG G.2.2 (G.1 + sb) 6 10 j) H) (q : Nat × Nat) (hq : shS[j]? = some q) : va_at D vwCl (G.1 + sb + j, ent G.2.2 (M0 G) (G.1 + sb + j) q) H := by
  have hsb : sb ≤ 267 := by unfold SBp at hs; omega
  by_cases w0 : j = 0
  · subst w0
    have e : q = (3, 0) := Option.some.inj (hq.symm.trans rfl)
    subst e
    rw [ent_3 (by omega)]
    exact h
  by_cases w1 : j = 1
  · subst w1
    have e : q = (8, 6) := Option.some.inj (hq.symm.trans rfl)
    subst e
    refine at_q h (fun i hi => ?_)
    show some (gP (M0 G) (G.1 + sb + 1) (i : Int)) = if i < 6 then some (G.1 + sb + 3 + 5 * i) else none
    rw [if_pos hi, gP_g hs, Int.toNat_natCast]
  by_cases w2 : j = 2
  · subst w2
    have e : q = (9, 10) := Option.some.inj (hq.symm.trans rfl)
    subst e
    refine at_q h (fun i hi => ?_)
    show some (gP (M0 G) (G.1 + sb + 2) (i : Int)) = if i < 10 then some (G.1 + sb + 33 + 2 * i) else none
    rw [if_pos hi, gP_l hs, Int.toNat_natCast]
  unfold stG at h
  rw [if_neg w0, if_neg w1, if_neg w2] at h
  by_cases w3 : j < 33
  · rw [if_pos w3] at h
    obtain ⟨i, r, hi, hr, rfl⟩ : ∃ i r : Nat, i < 6 ∧ r < 5 ∧ j = 3 + 5 * i + r := ⟨(j - 3) / 5, (j - 3) % 5, by omega, by omega, by omega⟩
    rw [show (3 + 5 * i + r - 3) / 5 = i by omega, show (3 + 5 * i + r - 3) % 5 = r by omega] at h
    rw [show G.1 + sb + (3 + 5 * i + r) = G.1 + sb + 3 + 5 * i + r by omega] at h ⊢
    exact g_block (by omega) hr h q (by rw [← sh_gear i hi r hr]; exact hq)
  · rw [if_neg w3] at h
    obtain ⟨i, r, hi, hr, rfl⟩ : ∃ i r : Nat, i < 10 ∧ r < 2 ∧ j = 33 + 2 * i + r := ⟨(j - 33) / 2, (j - 33) % 2, by omega, by omega, by omega⟩
    rw [show (33 + 2 * i + r - 33) / 2 = i by omega, show (33 + 2 * i + r - 33) % 2 = r by omega] at h
    rw [show G.1 + sb + (33 + 2 * i + r) = G.1 + sb + 33 + 2 * i + r by omega] at h ⊢
    rw [sh_line i hi r hr] at hq
    rcases (show r = 0 ∨ r = 1 by omega) with rfl | rfl
    · have e : q = (1, 0) := Option.some.inj (hq.symm.trans rfl)
      subst e
      rw [ent_1 (by omega)]
      exact h
    · have e : q = (7, 12) := Option.some.inj (hq.symm.trans rfl)
      subst e
      rw [ent_i (by omega)]
      exact h
end I
def alF (E : Nat → ClassId) (a j : Nat) : va_E := if j < 335 then gaF E a j else if j < 343 then modF E (a + 335) (j - 335) else if j = 343 then .inl (E 5, 1, .inr (.inl (fun _ => 0))) else .inl (E 6, 1, .inr (.inr (.inr (.inl (fun _ => 0)))))
set_option maxRecDepth 100000 in
set_option maxHeartbeats 4000000 in
theorem in_all {G : Gs} {H : Heap} (h : HW G 345 (alF G.2.2 G.1) H) (k : Nat) (hk : k < 345) (q : Nat × Nat) (hq : shT[k]? = some q) : va_at G.2.1 vwCl (G.1 + k, ent G.2.2 (M0 G) (G.1 + k) q) H := by
  have hc := h.get hk
  by_cases w0 : k = 0
  · subst w0
    have e : q = (5, 0) := Option.some.inj (hq.symm.trans rfl)
    subst e
    rw [ent_5 (by omega)]
    exact hc
  by_cases w1 : k < 320
  · have hc2 : va_at G.2.1 vwCl (G.1 + k, ggG G.2.2 G.1 4 k) H := by
      unfold alF gaF at hc
      rw [if_pos (by omega), if_neg w0, if_pos w1] at hc
      exact hc
    unfold ggG at hc2
    rw [if_neg w0] at hc2
    by_cases w2 : k < 54
    · rw [if_pos w2] at hc2
      have w := s_block (G := G) (sb := 1) (j := k - 1) (Or.inl rfl) (by omega) (by rw [show G.1 + 1 + (k - 1) = G.1 + k by omega]; exact hc2) q (by rw [← SBp.sh (sb := 1) (Or.inl rfl) (by omega), show 1 + (k - 1) = k by omega]; exact hq)
      rw [show G.1 + 1 + (k - 1) = G.1 + k by omega] at w
      exact w
    rw [if_neg w2] at hc2
    by_cases w3 : k < 107
    · rw [if_pos w3] at hc2
      have w := s_block (G := G) (sb := 54) (j := k - 54) (Or.inr (Or.inl rfl)) (by omega) (by rw [show G.1 + 54 + (k - 54) = G.1 + k by omega]; exact hc2) q (by rw [← SBp.sh (sb := 54) (Or.inr (Or.inl rfl)) (by omega), show 54 + (k - 54) = k by omega]; exact hq)
      rw [show G.1 + 54 + (k - 54) = G.1 + k by omega] at w
      exact w
    rw [if_neg w3] at hc2
    by_cases w4 : k = 107
    · subst w4
      rw [if_pos rfl] at hc2
      have e : q = (10, 4) := Option.some.inj (hq.symm.trans (by decide +kernel))
      subst e
      refine at_q hc2 (fun i hi => ?_)
      show some (gP (M0 G) (G.1 + 107) (i : Int)) = if i < 4 then some (G.1 + 108 + 53 * i) else none
      rw [if_pos hi, gP_sv, Int.toNat_natCast]
    rw [if_neg w4] at hc2
    have hsb : SBp (108 + 53 * ((k - 108) / 53)) := by unfold SBp; omega
    have e1 : G.1 + (108 + 53 * ((k - 108) / 53)) + (k - 108) % 53 = G.1 + k := by omega
    have w := s_block (G := G) (D := G.2.1) (H := H) (sb := 108 + 53 * ((k - 108) / 53)) (j := (k - 108) % 53) hsb (by omega) (by rw [e1, show G.1 + (108 + 53 * ((k - 108) / 53)) = G.1 + 108 + 53 * ((k - 108) / 53) by omega]; exact hc2) q (by rw [← SBp.sh hsb (by omega), show 108 + 53 * ((k - 108) / 53) + (k - 108) % 53 = k by omega]; exact hq)
    rw [e1] at w
    exact w
  by_cases w2 : 328 ≤ k ∧ k < 333
  · obtain ⟨r, hr, rfl⟩ : ∃ r : Nat, r < 5 ∧ k = 328 + r := ⟨k - 328, by omega, by omega⟩
    have hc2 : va_at G.2.1 vwCl (G.1 + 328 + r, gearF G.2.2 (G.1 + 328) r) H := by
      unfold alF gaF at hc
      rw [if_pos (by omega), if_neg w0, if_neg w1, if_neg (by omega), if_neg (by omega), if_pos (by omega), show 328 + r - 328 = r by omega, ← Nat.add_assoc] at hc
      exact hc
    rw [← Nat.add_assoc]
    exact g_block (Or.inr (by omega)) hr hc2 q (by rw [← sh_turned r hr]; exact hq)
  have hk2 : k = 320 ∨ k = 321 ∨ k = 322 ∨ k = 323 ∨ k = 324 ∨ k = 325 ∨ k = 326 ∨ k = 327 ∨ k = 333 ∨ k = 334 ∨ k = 335 ∨ k = 336 ∨ k = 337 ∨ k = 338 ∨ k = 339 ∨ k = 340 ∨ k = 341 ∨ k = 342 ∨ k = 343 ∨ k = 344 := by omega
  rcases hk2 with rfl | rfl | rfl | rfl | rfl | rfl | rfl | rfl | rfl | rfl | rfl | rfl | rfl | rfl | rfl | rfl | rfl | rfl | rfl | rfl
  · have e : q = (4, 0) := Option.some.inj (hq.symm.trans (by decide +kernel))
    subst e
    rw [ent_4 (by omega)]
    exact hc
  · have e : q = (7, 160) := Option.some.inj (hq.symm.trans (by decide +kernel))
    subst e
    rw [ent_i (by omega)]
    exact hc
  · have e : q = (7, 160) := Option.some.inj (hq.symm.trans (by decide +kernel))
    subst e
    rw [ent_i (by omega)]
    exact hc
  · have e : q = (2, 0) := Option.some.inj (hq.symm.trans (by decide +kernel))
    subst e
    rw [ent_2]
    exact hc
  · have e : q = (7, 30) := Option.some.inj (hq.symm.trans (by decide +kernel))
    subst e
    rw [ent_i (by omega)]
    exact hc
  · have e : q = (7, 30) := Option.some.inj (hq.symm.trans (by decide +kernel))
    subst e
    rw [ent_i (by omega)]
    exact hc
  · have e : q = (7, 30) := Option.some.inj (hq.symm.trans (by decide +kernel))
    subst e
    rw [ent_i (by omega)]
    exact hc
  · have e : q = (7, 30) := Option.some.inj (hq.symm.trans (by decide +kernel))
    subst e
    rw [ent_i (by omega)]
    exact hc
  · have e : q = (7, 6) := Option.some.inj (hq.symm.trans (by decide +kernel))
    subst e
    rw [ent_i (by omega)]
    exact hc
  · have e : q = (7, 6) := Option.some.inj (hq.symm.trans (by decide +kernel))
    subst e
    rw [ent_i (by omega)]
    exact hc
  · have e : q = (6, 0) := Option.some.inj (hq.symm.trans (by decide +kernel))
    subst e
    rw [ent_6 (by omega)]
    exact hc
  · have e : q = (7, 722) := Option.some.inj (hq.symm.trans (by decide +kernel))
    subst e
    rw [ent_i (by omega)]
    exact hc
  · have e : q = (7, 2888) := Option.some.inj (hq.symm.trans (by decide +kernel))
    subst e
    rw [ent_i (by omega)]
    exact hc
  · have e : q = (7, 722) := Option.some.inj (hq.symm.trans (by decide +kernel))
    subst e
    rw [ent_i (by omega)]
    exact hc
  · have e : q = (7, 160) := Option.some.inj (hq.symm.trans (by decide +kernel))
    subst e
    rw [ent_i (by omega)]
    exact hc
  · have e : q = (7, 30) := Option.some.inj (hq.symm.trans (by decide +kernel))
    subst e
    rw [ent_i (by omega)]
    exact hc
  · have e : q = (7, 30) := Option.some.inj (hq.symm.trans (by decide +kernel))
    subst e
    rw [ent_i (by omega)]
    exact hc
  · have e : q = (7, 80) := Option.some.inj (hq.symm.trans (by decide +kernel))
    subst e
    rw [ent_i (by omega)]
    exact hc
  · have e : q = (12, 1) := Option.some.inj (hq.symm.trans (by decide +kernel))
    subst e
    exact hc
  · have e : q = (13, 1) := Option.some.inj (hq.symm.trans (by decide +kernel))
    subst e
    exact hc
theorem WW_init {G : Gs} {H : Heap} (h : HW G 345 (alF G.2.2 G.1) H) : va_P G.2.1 vwCl (WW G (M0 G)) H := by
  intro k q hk
  unfold WW at hk
  rw [List.getElem?_mapIdx] at hk
  cases hq : shT[k]? with
  | none => rw [hq] at hk; cases hk
  | some z =>
    rw [hq] at hk
    cases hk
    have hlt := (List.getElem?_eq_some_iff.mp hq).1
    rw [shT_len] at hlt
    exact in_all h k hlt z hq
/-! shapes -/
theorem at_d {G : Gs} {a d c n : Nat} (e : a = G.1 + d) (h : shT[d]? = some (c, n)) : At G a c n := ⟨d, e, h⟩
theorem isGear_of {G : Gs} {a d : Nat} (e : a = G.1 + d) (h : ∀ r : Nat, r < 5 → shT[d + r]? = gsh[r]?) : IsGear G a := by
  refine ⟨at_d (d := d) e (h 0 (by omega)), at_d (d := d + 1) (by omega) (h 1 (by omega)), fun j hj => ?_⟩
  rcases (show j = 0 ∨ j = 1 ∨ j = 2 by omega) with rfl | rfl | rfl
  · exact at_d (d := d + 2) (by omega) (h 2 (by omega))
  · exact at_d (d := d + 3) (by omega) (h 3 (by omega))
  · exact at_d (d := d + 4) (by omega) (h 4 (by omega))
theorem isState_of {G : Gs} {S sb : Nat} (e : S = G.1 + sb) (hs : SBp sb) : IsState G S := by
  subst e
  refine ⟨at_d (d := sb) rfl (hs.sh (j := 0) (by omega)), at_d (d := sb + 1) (by omega) (hs.sh (by omega)), at_d (d := sb + 2) (by omega) (hs.sh (by omega)), fun j hj => isGear_of (d := sb + (3 + 5 * j)) (by omega) (fun r hr => ?_), fun j hj => ⟨at_d (d := sb + (33 + 2 * j + 0)) (by omega) ?_, at_d (d := sb + (33 + 2 * j + 1)) (by omega) ?_⟩⟩
  · rw [Nat.add_assoc, hs.sh (by omega)]
    exact sh_gear j hj r hr
  · rw [hs.sh (by omega)]
    exact sh_line j hj 0 (by omega)
  · rw [hs.sh (by omega)]
    exact sh_line j hj 1 (by omega)
theorem isGg0 {G : Gs} : IsGg G G.1 :=
  ⟨at_d (d := 0) rfl (by decide +kernel), isState_of rfl (Or.inl rfl), isState_of rfl (Or.inr (Or.inl rfl)), at_d rfl (by decide +kernel), fun j hj => isState_of (sb := 108 + 53 * j) (by omega) (by unfold SBp; omega), ⟨at_d rfl (by decide +kernel), at_d (d := 321) (by omega) (by decide +kernel), at_d (d := 322) (by omega) (by decide +kernel)⟩, ⟨at_d rfl (by decide +kernel), at_d (d := 324) (by omega) (by decide +kernel), at_d (d := 325) (by omega) (by decide +kernel), at_d (d := 326) (by omega) (by decide +kernel), at_d (d := 327) (by omega) (by decide +kernel)⟩, isGear_of rfl sh_turned, at_d rfl (by decide +kernel), at_d rfl (by decide +kernel)⟩
theorem isMd0 {G : Gs} : IsMd G (G.1 + 335) :=
  ⟨at_d rfl (by decide +kernel), at_d (d := 336) (by omega) (by decide +kernel), at_d (d := 337) (by omega) (by decide +kernel), at_d (d := 338) (by omega) (by decide +kernel), at_d (d := 339) (by omega) (by decide +kernel), at_d (d := 340) (by omega) (by decide +kernel), at_d (d := 341) (by omega) (by decide +kernel), at_d (d := 342) (by omega) (by decide +kernel)⟩
theorem isO0 {G : Gs} : At G (G.1 + 343) 12 1 := at_d rfl (by decide +kernel)
theorem isOD0 {G : Gs} : At G (G.1 + 344) 13 1 := at_d rfl (by decide +kernel)
/-! nothing is there yet -/
def a0 : Ast := (0, 0, fun _ => (0, 0, fun _ _ => 0), fun _ => (0, 0, 0, fun _ => 0))
def g0 : Gst := (a0, 0, fun _ => a0)
theorem a0_ok : StateOk a0 := ⟨by decide, by decide, by decide, by decide, fun k p q => by have q2 : k < 0 := q; omega, fun k p q => by have q2 : k < 0 := q; omega⟩
theorem g0_ok : OkI g0 0 (fun _ => 0) := ⟨⟨a0_ok, by decide, by decide, fun i p q => by have q2 : i < 0 := q; omega⟩, by decide, by decide, fun i p q => by omega⟩
theorem rowG0 {G : Gs} {S sb : Nat} (e : S = G.1 + sb) (hs : SBp sb) : RowG (M0 G) S := by
  subst e
  refine ⟨fun i p q => ⟨i.toNat, by omega, gP_g hs⟩, fun i i' p q p' q' w => ?_⟩
  rw [gP_g hs, gP_g hs] at w
  omega
theorem rowL0 {G : Gs} {S sb : Nat} (e : S = G.1 + sb) (hs : SBp sb) : RowL (M0 G) S := by
  subst e
  refine ⟨fun i p q => ⟨i.toNat, by omega, gP_l hs⟩, fun i i' p q p' q' w => ?_⟩
  rw [gP_l hs, gP_l hs] at w
  omega
theorem ci0 {G : Gs} : CI G (M0 G) g0 0 (fun _ => 0) := by
  refine ⟨⟨⟨gI_M0 (by omega), gI_M0 (by omega), rowG0 rfl (Or.inl rfl), rowL0 rfl (Or.inl rfl), fun k p q => by have q2 : k < 0 := q; omega, fun k p q => by have q2 : k < 0 := q; omega⟩, gI_M0 (by omega), ⟨fun i p q => ⟨i.toNat, by omega, gP_sv⟩, fun i i' p q p' q' w => ?_⟩, fun j hj => ⟨rowG0 (sb := 108 + 53 * j) (by omega) (by unfold SBp; omega), rowL0 (sb := 108 + 53 * j) (by omega) (by unfold SBp; omega)⟩, fun i p q => by have q2 : i < 0 := q; omega, rowG0 rfl (Or.inr (Or.inl rfl)), rowL0 rfl (Or.inr (Or.inl rfl))⟩, gI_M0 (by omega), fun i p q => by omega⟩
  rw [gP_sv, gP_sv] at w
  omega
theorem ri0 {G : Gs} : RI G (M0 G) g0 0 (fun _ => 0) :=
  ⟨⟨⟨gI_M0 (by omega), gI_M0 (by omega), fun g p q => by have q2 : g < 0 := q; omega, fun g p q => by have q2 : g < 0 := q; omega⟩, gI_M0 (by omega), fun i p q => by have q2 : i < 0 := q; omega⟩, gI_M0 (by omega), fun i p q => by omega⟩
