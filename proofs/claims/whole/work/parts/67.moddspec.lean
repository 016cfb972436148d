/-! the digest of the reference -/
theorem tdS_in {s : Ast} (h : StateOk s) {g : Int} (g0 : 0 ≤ g) (g1 : g < s.1) (w : Int) : -20000 ≤ tdS s g w ∧ tdS s g w ≤ 20000 := by
  obtain ⟨a1, a2, a3, a4, a5⟩ := h.2.2.2.2.1 g g0 g1
  have hc := cnF_in s g s.2.1.toNat
  have hl := h.2.2.2.1
  have hl0 := h.2.2.1
  have hk := cgS_in s g
  have z0 : szS (s.2.2.1 g).1 0 = (s.2.2.1 g).1 + 1 := by unfold szS; rw [if_neg (by omega)]
  have z1 : szS (s.2.2.1 g).1 1 = (s.2.2.1 g).1 + 1 := by unfold szS; rw [if_neg (by omega)]
  have r1 := a5 0 (s.2.2.1 g).1 (by omega) (by omega) (by omega) (by omega)
  have r2 := a5 0 0 (by omega) (by omega) (by omega) (by omega)
  have r3 := a5 1 (s.2.2.1 g).1 (by omega) (by omega) (by omega) (by omega)
  have r4 := a5 1 0 (by omega) (by omega) (by omega) (by omega)
  unfold tdS
  split
  · omega
  · split
    · omega
    · split
      · omega
      · split
        · omega
        · split <;> omega
def lnF (s : Ast) (l k : Int) : Int := if k = 0 then (s.2.2.2 l).1 else if k = 1 then (s.2.2.2 l).2.1 else if k = 2 then (s.2.2.2 l).2.2.1 else (s.2.2.2 l).2.2.2 (k - 3)
theorem lnF_at {M : Mem} {m : Nat} {s : Ast} {l k : Int} (hok : StateOk s) (h : MdS M m s) (l0 : 0 ≤ l) (l1 : l < s.2.1) (k0 : 0 ≤ k) (k1 : k < 3 + (s.2.2.2 l).2.2.1) : gI M (m + 1) (572 + 15 * l + k) = lnF s l k ∧ In32 (lnF s l k) := by
  have c := h.2.2.2 l l0 l1
  obtain ⟨⟨d0, d1, d2⟩, d3, d4, d5, d6⟩ := hok.2.2.2.2.2 l l0 l1
  have hb := hok.2.1
  unfold lnF
  by_cases w0 : k = 0
  · rw [if_pos w0, w0]; exact ⟨c.1, by omega, by omega⟩
  · rw [if_neg w0]
    by_cases w1 : k = 1
    · rw [if_pos w1, w1]; exact ⟨c.2.1, by omega, by omega⟩
    · rw [if_neg w1]
      by_cases w2 : k = 2
      · rw [if_pos w2, w2]; exact ⟨c.2.2.1, by omega, by omega⟩
      · rw [if_neg w2]
        have e := c.2.2.2 (k - 3) (by omega) (by omega)
        have f := d2 (k - 3) (by omega) (by omega)
        exact ⟨by rw [show 572 + 15 * l + k = 572 + 15 * l + (3 + (k - 3)) by omega]; exact e, by omega, by omega⟩
theorem lnM (s : Ast) (l x : Int) : ∀ n : Nat, mfF (lnF s l) (n + 3) x = mfF (s.2.2.2 l).2.2.2 n (31 * (31 * (31 * x + (s.2.2.2 l).1) + (s.2.2.2 l).2.1) + (s.2.2.2 l).2.2.1)
  | 0 => rfl
  | n + 1 => by
    show 31 * mfF (lnF s l) (n + 3) x + lnF s l ((n + 3 : Nat) : Int) = 31 * mfF (s.2.2.2 l).2.2.2 n _ + (s.2.2.2 l).2.2.2 n
    rw [lnM s l x n]
    have e : lnF s l ((n + 3 : Nat) : Int) = (s.2.2.2 l).2.2.2 n := by
      unfold lnF
      rw [if_neg (by omega), if_neg (by omega), if_neg (by omega), show ((n + 3 : Nat) : Int) - 3 = n by omega]
    rw [e]
theorem lnM2 (s : Ast) (l x : Int) {n : Int} (h : 0 ≤ n) : mfF (lnF s l) (3 + n).toNat x = mfF (s.2.2.2 l).2.2.2 n.toNat (31 * (31 * (31 * x + (s.2.2.2 l).1) + (s.2.2.2 l).2.1) + (s.2.2.2 l).2.2.1) := by
  rw [show (3 + n).toNat = n.toNat + 3 by omega]
  exact lnM s l x n.toNat
