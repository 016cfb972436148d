/-! the reference's numbers of lines and classes -/
theorem mxF_mul {c : Int} (hc : 0 ≤ c) (f : Int → Int) : ∀ n : Nat, mxF (fun k => c * f k) n = c * mxF f n
  | 0 => rfl
  | n + 1 => by
    show max (mxF (fun k => c * f k) n) (c * f (n + 1)) = c * max (mxF f n) (f (n + 1))
    rw [mxF_mul hc f n]
    rcases (show mxF f n ≤ f (n + 1) ∨ f (n + 1) ≤ mxF f n by omega) with h | h
    · have := Int.mul_le_mul_of_nonneg_left h hc
      rw [show max (mxF f n) (f (n + 1)) = f (n + 1) by omega]
      omega
    · have := Int.mul_le_mul_of_nonneg_left h hc
      rw [show max (mxF f n) (f (n + 1)) = mxF f n by omega]
      omega
theorem mnF_mul {c : Int} (hc : 0 ≤ c) (f : Int → Int) : ∀ n : Nat, mnF (fun k => c * f k) n = c * mnF f n
  | 0 => rfl
  | n + 1 => by
    show min (mnF (fun k => c * f k) n) (c * f (n + 1)) = c * min (mnF f n) (f (n + 1))
    rw [mnF_mul hc f n]
    rcases (show mnF f n ≤ f (n + 1) ∨ f (n + 1) ≤ mnF f n by omega) with h | h
    · have := Int.mul_le_mul_of_nonneg_left h hc
      rw [show min (mnF f n) (f (n + 1)) = mnF f n by omega]
      omega
    · have := Int.mul_le_mul_of_nonneg_left h hc
      rw [show min (mnF f n) (f (n + 1)) = f (n + 1) by omega]
      omega
theorem rnd_scale {c p q : Int} (hc : 0 < c) : rnd (c * p) (c * q) = rnd p q := by
  unfold rnd
  rw [show 2 * (c * p) + c * q = c * (2 * p + q) by grind, show 2 * (c * q) = c * (2 * q) by grind]
  exact Int.mul_ediv_mul_of_pos _ _ hc
def lvF (w : Int) (y : Int → Int) (n k : Int) : Int := if w = 0 then y k else n * rsF y n k
theorem lvF_0 (y : Int → Int) (n : Int) : lvF 0 y n = y := by
  funext k
  exact if_pos rfl
theorem lvF_2 {w : Int} (h : ¬ w = 0) (y : Int → Int) (n : Int) : lvF w y n = fun k => n * rsF y n k := by
  funext k
  exact if_neg h
theorem lvF_in {w n k : Int} {y : Int → Int} (h : LineOk n y) (hn : 2 ≤ n) (h0 : 0 ≤ k) (h1 : k < n) : -6000000000 ≤ lvF w y n k ∧ lvF w y n k ≤ 6000000000 := by
  unfold lvF
  split
  · have := h.2.2 k h0 h1
    omega
  · have a1 := rsF_in h hn h0 h1
    have a2 := mulB (x := n) (y := rsF y n k) (A := 12) (C := 400000000) (by omega) (by omega) h.2.1 a1.1 a1.2
    omega
theorem lvF_form (y : Int → Int) (n k : Int) : n * dnS n * y k - n * inS y n - n * slS y n * k = n * rsF y n k := by
  unfold rsF
  grind
theorem lvF_at (y : Int → Int) (n : Int) : sumF y n.toNat * dnS n - slS y n * sumF (fun j => j) n.toNat = n * inS y n := by
  unfold dnS slS inS
  generalize sumF (fun j => j * j) n.toNat = xx
  generalize sumF (fun j => j) n.toNat = x
  generalize sumF y n.toNat = a
  generalize sumF (fun j => j * y j) n.toNat = xy
  grind
/-- the class by the deviation w, or by all (-1), of the first n -/
def cwF (s : Ast) (g w : Int) : Nat → Int
  | 0 => 1
  | n + 1 => if w = -1 ∨ (n : Int) = w then max (cwF s g w n) (kwS s g n) else cwF s g w n
theorem cwF_s (s : Ast) (g w : Int) {i : Int} (h : 0 ≤ i) : cwF s g w (i + 1).toNat = if w = -1 ∨ i = w then max (cwF s g w i.toNat) (kwS s g i) else cwF s g w i.toNat := by
  obtain ⟨n, rfl⟩ : ∃ n : Nat, i = n := ⟨i.toNat, by omega⟩
  rw [show ((n : Int) + 1).toNat = n + 1 by omega, show ((n : Int)).toNat = n by omega]
  rfl
theorem cwF_in (s : Ast) (g w : Int) : ∀ n : Nat, 1 ≤ cwF s g w n ∧ cwF s g w n ≤ 13
  | 0 => by show (1 : Int) ≤ 1 ∧ (1 : Int) ≤ 13; omega
  | n + 1 => by
    have h1 := cwF_in s g w n
    have h2 := kwS_in s g n
    unfold cwF
    split <;> omega
theorem cwF_all (s : Ast) (g : Int) : ∀ n : Nat, cwF s g (-1) n = cgF s g n
  | 0 => rfl
  | n + 1 => by
    show (if (-1 : Int) = -1 ∨ (n : Int) = -1 then max (cwF s g (-1) n) (kwS s g n) else cwF s g (-1) n) = max (cgF s g n) (kwS s g n)
    rw [if_pos (Or.inl rfl), cwF_all s g n]
theorem cwF_one (s : Ast) (g : Int) {w : Int} (h0 : 0 ≤ w) : ∀ n : Nat, cwF s g w n = if w < n then kwS s g w else 1
  | 0 => by show (1 : Int) = _; rw [if_neg (by omega)]
  | n + 1 => by
    have hk := kwS_in s g w
    show (if w = -1 ∨ (n : Int) = w then max (cwF s g w n) (kwS s g n) else cwF s g w n) = _
    rw [cwF_one s g h0 n]
    by_cases w1 : (n : Int) = w
    · rw [if_pos (Or.inr w1), if_neg (by omega), if_pos (by omega), w1]; omega
    · rw [if_neg (by omega)]
      by_cases w2 : w < n
      · rw [if_pos w2, if_pos (by omega)]
      · rw [if_neg w2, if_neg (by omega)]
def claS (s : Ast) (g w : Int) : Int := if w = -1 then cgS s g else kwS s g w
theorem claS_eq {s : Ast} {g w : Int} (h0 : -1 ≤ w) (h1 : w < 9) : cwF s g w 9 = claS s g w := by
  unfold claS
  by_cases e : w = -1
  · rw [if_pos e, e, cwF_all]; rfl
  · rw [if_neg e, cwF_one s g (by omega), if_pos (by omega)]
theorem claS_in (s : Ast) (g w : Int) : 1 ≤ claS s g w ∧ claS s g w ≤ 13 := by
  unfold claS
  split
  · exact cgS_in s g
  · exact kwS_in s g w
