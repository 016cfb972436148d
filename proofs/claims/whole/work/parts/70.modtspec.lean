/-! the reading text, as the reference reads it -/
def hrF (b : Int → Int) (len p : Int) : Int := if p < len then b p else -1
theorem hrF_in {b : Int → Int} {len : Int} (h : TxOk len b) {p : Int} (p0 : 0 ≤ p) : -1 ≤ hrF b len p ∧ hrF b len p ≤ 127 := by
  unfold hrF
  split
  · rename_i w
    have := h.2.2 p p0 w
    omega
  · omega
def moN (le : Int) : Int := if le = 103 then 2 else if le = 112 ∨ le = 104 then 12 else 80
theorem tkQ_minus {q : Sq} (h : ¬ q.1 = 0) : tkQ q 45 = (q.1, q.2.1, q.2.2.1, 1, q.2.2.2.2) := by
  unfold tkQ
  rw [if_neg h, if_neg (by omega), if_pos rfl]
theorem tkQ_comma {q : Sq} (h : ¬ q.1 = 0) : tkQ q 44 = stQ q := by
  unfold tkQ
  rw [if_neg h, if_pos rfl]
theorem tkQ_digit {q : Sq} {c : Int} (h : ¬ q.1 = 0) (c0 : 48 ≤ c) (c1 : c ≤ 57) : tkQ q c = (q.1, q.2.1, q.2.2.1 + 1, q.2.2.2.1, upF q.2.2.2.2 (q.2.1 - 1) (dgQ q c)) := by
  unfold tkQ
  rw [if_neg h, if_neg (by omega), if_neg (by omega)]
/-- one byte more that can stand -/
theorem Okto.succ {b : Int → Int} {p : Int} (h : Okto b p) (p0 : 0 ≤ p) (hp : posQ (auS b p.toNat) (b p)) : Okto b (p + 1) := fun i a c => by
  by_cases w : i = p
  · rw [w]; exact hp
  · exact h i a (by omega)
theorem auS_tk {b : Int → Int} {p : Int} (p0 : 0 ≤ p) (h : ¬ b p = 59) : auS b (p + 1).toNat = tkQ (auS b p.toNat) (b p) := by
  rw [auS_s b p0, if_neg h]
/-- the number that is being read: q behind its bytes so far -/
def NuS (b : Int → Int) (c le nu : Int) (va : Int → Int) (less v di : Int) : Prop := Okto b c ∧ (auS b c.toNat).1 = le ∧ (auS b c.toNat).2.1 = nu ∧ (auS b c.toNat).2.2.1 = di ∧ (auS b c.toNat).2.2.2.1 = less ∧ (auS b c.toNat).2.2.2.2 (nu - 1) = (if less = 0 then v else -v) ∧ ∀ k : Int, 0 ≤ k → k < nu - 1 → (auS b c.toNat).2.2.2.2 k = va k
theorem NuS.digit {b : Int → Int} {c le nu less v di : Int} {va : Int → Int} (h : NuS b c le nu va less v di) (hl : ¬ le = 0) (c0 : 0 ≤ c) (d0 : 48 ≤ b c) (d1 : b c ≤ 57) (d4 : di < 4) : NuS b (c + 1) le nu va less (10 * v + b c - 48) (di + 1) := by
  obtain ⟨h1, h2, h3, h4, h5, h6, h7⟩ := h
  have hq : ¬ (auS b c.toNat).1 = 0 := by rw [h2]; exact hl
  have e : auS b (c + 1).toNat = ((auS b c.toNat).1, (auS b c.toNat).2.1, (auS b c.toNat).2.2.1 + 1, (auS b c.toNat).2.2.2.1, upF (auS b c.toNat).2.2.2.2 ((auS b c.toNat).2.1 - 1) (dgQ (auS b c.toNat) (b c))) := by
    rw [auS_tk c0 (by omega), tkQ_digit hq d0 d1]
  refine ⟨h1.succ c0 (Or.inr ⟨hq, Or.inl ⟨d0, d1, by omega⟩⟩), ?_, ?_, ?_, ?_, ?_, fun k k0 k1 => ?_⟩
  · rw [e]; exact h2
  · rw [e]; exact h3
  · rw [e]; show (auS b c.toNat).2.2.1 + 1 = di + 1; rw [h4]
  · rw [e]; exact h5
  · rw [e]
    show upF (auS b c.toNat).2.2.2.2 ((auS b c.toNat).2.1 - 1) (dgQ (auS b c.toNat) (b c)) (nu - 1) = _
    rw [h3, upF_eq]
    unfold dgQ
    rw [h3, h6, h5]
    split <;> omega
  · rw [e]
    show upF (auS b c.toNat).2.2.2.2 ((auS b c.toNat).2.1 - 1) (dgQ (auS b c.toNat) (b c)) k = _
    rw [h3, upF_ne (by omega)]
    exact h7 k k0 k1
theorem NuS.minus {b : Int → Int} {c le nu v : Int} {va : Int → Int} (h : NuS b c le nu va 0 v 0) (hl : ¬ le = 0) (c0 : 0 ≤ c) (d : b c = 45) (hv : v = 0) : NuS b (c + 1) le nu va 1 v 0 := by
  obtain ⟨h1, h2, h3, h4, h5, h6, h7⟩ := h
  have hq : ¬ (auS b c.toNat).1 = 0 := by rw [h2]; exact hl
  have e : auS b (c + 1).toNat = ((auS b c.toNat).1, (auS b c.toNat).2.1, (auS b c.toNat).2.2.1, 1, (auS b c.toNat).2.2.2.2) := by
    rw [auS_tk c0 (by omega), d, tkQ_minus hq]
  refine ⟨h1.succ c0 (Or.inr ⟨hq, Or.inr (Or.inl ⟨d, h4, h5⟩)⟩), ?_, ?_, ?_, ?_, ?_, fun k k0 k1 => ?_⟩
  · rw [e]; exact h2
  · rw [e]; exact h3
  · rw [e]; exact h4
  · rw [e]
  · rw [e]
    show (auS b c.toNat).2.2.2.2 (nu - 1) = _
    rw [h6, hv]; rfl
  · rw [e]; exact h7 k k0 k1
def p10 (d : Int) : Int := if d = 0 then 0 else if d = 1 then 9 else if d = 2 then 99 else if d = 3 then 999 else 9999
theorem p10_s {d v x : Int} (d0 : 0 ≤ d) (d4 : d < 4) (v0 : 0 ≤ v) (v1 : v ≤ p10 d) (x0 : 0 ≤ x) (x1 : x ≤ 9) : 0 ≤ 10 * v + x ∧ 10 * v + x ≤ p10 (d + 1) := by
  unfold p10 at *
  rcases (show d = 0 ∨ d = 1 ∨ d = 2 ∨ d = 3 by omega) with rfl | rfl | rfl | rfl <;> simp at * <;> omega
theorem p10_in (d : Int) : 0 ≤ p10 d ∧ p10 d ≤ 9999 := by
  unfold p10
  split
  · omega
  · split
    · omega
    · split
      · omega
      · split <;> omega
