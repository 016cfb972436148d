/-! ranks: each place is taken; fractions that are shortened -/
theorem pigeon : ∀ (n : Nat) (f : Nat → Nat), (∀ i, i < n → f i < n) → (∀ i j, i < n → j < n → f i = f j → i = j) → ∀ p, p < n → ∃ i, i < n ∧ f i = p
  | 0, _, _, _, p, hp => absurd hp (Nat.not_lt_zero p)
  | n + 1, f, h1, h2, p, hp => by
    have hf : ∀ i, i < n → (if f i = n then f n else f i) < n := fun i hi => by
      have a := h1 i (by omega)
      have b := h1 n (by omega)
      have c := h2 i n (by omega) (by omega)
      split
      · rename_i e
        rcases (show f n < n ∨ f n = n by omega) with q | q
        · exact q
        · have := c (by omega); omega
      · omega
    have hi : ∀ i j, i < n → j < n → (if f i = n then f n else f i) = (if f j = n then f n else f j) → i = j := fun i j a b e => by
      have c1 := h2 i j (by omega) (by omega)
      have c2 := h2 i n (by omega) (by omega)
      have c3 := h2 j n (by omega) (by omega)
      split at e
      · split at e
        · exact c1 (by omega)
        · have := c3 e.symm; omega
      · split at e
        · have := c2 e; omega
        · exact c1 e
    by_cases w : p = f n
    · exact ⟨n, by omega, w.symm⟩
    · rcases (show p = n ∨ p < n by omega) with q | q
      · have b := h1 n (by omega)
        obtain ⟨i, i1, i2⟩ := pigeon n _ hf hi (f n) (by omega)
        refine ⟨i, by omega, ?_⟩
        have c2 := h2 i n (by omega) (by omega)
        by_cases z : f i = n
        · omega
        · have i3 : f i = f n := by
            have i4 : (if f i = n then f n else f i) = f n := i2
            rw [if_neg z] at i4
            exact i4
          have := c2 i3
          omega
      · obtain ⟨i, i1, i2⟩ := pigeon n _ hf hi p q
        refine ⟨i, by omega, ?_⟩
        have i3 : (if f i = n then f n else f i) = p := i2
        split at i3
        · exact absurd i3.symm w
        · exact i3
theorem rkD_refl (p x : Int → Int) (i : Int) : rkD p x i i = 0 := by
  unfold rkD
  rw [if_neg (by omega), if_neg (by omega), if_neg (by omega), if_neg (by omega), if_neg (by omega)]
theorem rkD_1 {p x : Int → Int} {i j : Int} : rkD p x i j = 1 ↔ rkB p x i j := by
  unfold rkD rkB
  split
  · omega
  · split
    · omega
    · split
      · omega
      · split
        · omega
        · split <;> omega
theorem rkN_le {p x : Int → Int} {i j : Int} (h : rkB p x i j) : ∀ n : Nat, rkN p x i n ≤ rkN p x j n ∧ (0 ≤ i → i < n → rkN p x i n < rkN p x j n)
  | 0 => ⟨Int.le_refl _, fun a b => by omega⟩
  | n + 1 => by
    have ih := rkN_le h n
    have a1 := rkD_in p x n i
    have a2 := rkD_in p x n j
    have a3 : rkD p x n i = 1 → rkD p x n j = 1 := fun w => by
      rw [rkD_1] at w ⊢
      unfold rkB at w h ⊢
      omega
    have a4 := rkD_refl p x i
    have a5 := (rkD_1 (p := p) (x := x) (i := i) (j := j)).mpr h
    show rkN p x i n + rkD p x n i ≤ rkN p x j n + rkD p x n j ∧ (0 ≤ i → i < ((n + 1 : Nat) : Int) → rkN p x i n + rkD p x n i < rkN p x j n + rkD p x n j)
    refine ⟨by omega, fun b c => ?_⟩
    by_cases e : i = n
    · rw [← e]
      rw [← e] at a1 a2
      omega
    · have := ih.2 b (by omega)
      omega
theorem rk_inj {p x : Int → Int} {n : Nat} {i j : Int} (i0 : 0 ≤ i) (i1 : i < n) (j0 : 0 ≤ j) (j1 : j < n) (e : rkN p x i n = rkN p x j n) : i = j := by
  rcases (show rkB p x i j ∨ i = j ∨ rkB p x j i by unfold rkB; omega) with h | h | h
  · have := (rkN_le h n).2 i0 i1; omega
  · exact h
  · have := (rkN_le h n).2 j0 j1; omega
theorem rk_lt {p x : Int → Int} {n : Nat} {j : Int} (j0 : 0 ≤ j) (j1 : j < n) : rkN p x j n < n := by
  have key : ∀ m : Nat, rkN p x j m ≤ m ∧ (j < m → rkN p x j m < m) := fun m => by
    induction m with
    | zero => exact ⟨Int.le_refl _, fun a => by omega⟩
    | succ m ih =>
      have a1 := rkD_in p x m j
      have a2 := rkD_refl p x j
      show rkN p x j m + rkD p x m j ≤ ((m + 1 : Nat) : Int) ∧ (j < ((m + 1 : Nat) : Int) → rkN p x j m + rkD p x m j < ((m + 1 : Nat) : Int))
      refine ⟨by omega, fun w => ?_⟩
      by_cases e : j = m
      · rw [e] at a2 ⊢
        rw [e] at ih
        omega
      · have := ih.2 (by omega)
        omega
  exact (key n).2 j1
/-- each place is some gear's -/
theorem rk_all {p x : Int → Int} {n : Nat} {q : Int} (q0 : 0 ≤ q) (q1 : q < n) : ∃ i : Int, 0 ≤ i ∧ i < n ∧ rkN p x i n = q := by
  obtain ⟨i, i1, i2⟩ := pigeon n (fun i => (rkN p x i n).toNat) (fun i hi => by
    have a := rk_lt (p := p) (x := x) (n := n) (j := i) (by omega) (by omega)
    have b := rkN_in p x i n
    show (rkN p x i n).toNat < n
    omega) (fun i j hi hj e => by
    have b1 := rkN_in p x i n
    have b2 := rkN_in p x j n
    have e' : (rkN p x i n).toNat = (rkN p x j n).toNat := e
    have := rk_inj (p := p) (x := x) (n := n) (i := i) (j := j) (by omega) (by omega) (by omega) (by omega) (by omega)
    omega) q.toNat (by omega)
  have b1 := rkN_in p x i n
  have i3 : (rkN p x i n).toNat = q.toNat := i2
  exact ⟨i, by omega, by omega, by omega⟩
/-- .. as the reference finds it: -1 at first -/
def rqF (a : Ast) (p : Int) : Nat → Int
  | 0 => -1
  | n + 1 => if rkN (cgS a) (fun g => dvS a g 1) n a.1.toNat = p then (n : Int) else rqF a p n
theorem rqF_s (a : Ast) (p : Int) {i : Int} (h : 0 ≤ i) : rqF a p (i + 1).toNat = if rkN (cgS a) (fun g => dvS a g 1) i a.1.toNat = p then i else rqF a p i.toNat := by
  obtain ⟨n, rfl⟩ : ∃ n : Nat, i = n := ⟨i.toNat, by omega⟩
  rw [show ((n : Int) + 1).toNat = n + 1 by omega, show ((n : Int)).toNat = n by omega]
  rfl
theorem rqF_rnF (a : Ast) (p : Int) : ∀ n : Nat, (∃ i : Int, 0 ≤ i ∧ i < n ∧ rkN (cgS a) (fun g => dvS a g 1) i a.1.toNat = p) → rqF a p n = rnF a p n
  | 0, h => by obtain ⟨i, a, b, c⟩ := h; omega
  | n + 1, h => by
    show (if rkN (cgS a) (fun g => dvS a g 1) n a.1.toNat = p then (n : Int) else rqF a p n) = if rkN (cgS a) (fun g => dvS a g 1) n a.1.toNat = p then (n : Int) else rnF a p n
    by_cases w : rkN (cgS a) (fun g => dvS a g 1) n a.1.toNat = p
    · rw [if_pos w, if_pos w]
    · rw [if_neg w, if_neg w]
      refine rqF_rnF a p n ?_
      obtain ⟨i, b, c, d⟩ := h
      refine ⟨i, b, ?_, d⟩
      rcases (show i < n ∨ i = n by omega) with q | q
      · exact q
      · rw [q] at d; exact absurd d w
theorem rqF_in (a : Ast) (p : Int) : ∀ n : Nat, -1 ≤ rqF a p n ∧ rqF a p n ≤ n
  | 0 => by show (-1 : Int) ≤ -1 ∧ (-1 : Int) ≤ 0; omega
  | n + 1 => by
    have := rqF_in a p n
    unfold rqF
    split <;> omega
theorem short {n u d : Int} (hn : 0 < n) (hd : 0 < d) : (n * u).tdiv ((Int.gcd (n * u) (n * d) : Nat) : Int) = u.tdiv ((Int.gcd u d : Nat) : Int) ∧ (n * d).tdiv ((Int.gcd (n * u) (n * d) : Nat) : Int) = d.tdiv ((Int.gcd u d : Nat) : Int) := by
  have e : ((Int.gcd (n * u) (n * d) : Nat) : Int) = n * ((Int.gcd u d : Nat) : Int) := by
    rw [Int.gcd_mul_left]
    simp only [Int.natCast_mul]
    rw [show ((n.natAbs : Nat) : Int) = n by omega]
  rw [e, Int.mul_tdiv_mul_of_pos _ _ hn, Int.mul_tdiv_mul_of_pos _ _ hn]
  exact ⟨rfl, rfl⟩
