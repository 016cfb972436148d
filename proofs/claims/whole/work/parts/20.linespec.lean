/-! a line, as the class keeps it and as numbers -/
def IsLine (G : Gs) (a : Nat) : Prop := At G a 1 0 ∧ At G (a + 1) 7 12
def dnS (n : Int) : Int := n * sumF (fun j => j * j) n.toNat - sumF (fun j => j) n.toNat * sumF (fun j => j) n.toNat
def slS (y : Int → Int) (n : Int) : Int := n * sumF (fun j => j * y j) n.toNat - sumF (fun j => j) n.toNat * sumF y n.toNat
def inS (y : Int → Int) (n : Int) : Int := sumF (fun j => j * j) n.toNat * sumF y n.toNat - sumF (fun j => j) n.toNat * sumF (fun j => j * y j) n.toNat
def LineIs (M : Mem) (a : Nat) (ge ki n : Int) (y : Int → Int) : Prop := gI M a 0 = ge ∧ gI M a 1 = ki ∧ gI M a 2 = n ∧ gL M a 3 = sumF (fun j => j) n.toNat ∧ gL M a 4 = sumF (fun j => j * j) n.toNat ∧ gL M a 5 = sumF y n.toNat ∧ gL M a 6 = sumF (fun j => j * y j) n.toNat ∧ ∀ j : Int, 0 ≤ j → j < n → gI M (a + 1) j = y j
def LineOk (n : Int) (y : Int → Int) : Prop := 0 ≤ n ∧ n ≤ 12 ∧ ∀ j : Int, 0 ≤ j → j < n → -5000 ≤ y j ∧ y j ≤ 5000
theorem n_cases {n : Int} (h0 : 0 ≤ n) (h1 : n ≤ 12) : n = 0 ∨ n = 1 ∨ n = 2 ∨ n = 3 ∨ n = 4 ∨ n = 5 ∨ n = 6 ∨ n = 7 ∨ n = 8 ∨ n = 9 ∨ n = 10 ∨ n = 11 ∨ n = 12 := by omega
theorem sx_in {n : Int} (h0 : 0 ≤ n) (h1 : n ≤ 12) : 0 ≤ sumF (fun j => j) n.toNat ∧ sumF (fun j => j) n.toNat ≤ 66 := by
  rcases n_cases h0 h1 with rfl | rfl | rfl | rfl | rfl | rfl | rfl | rfl | rfl | rfl | rfl | rfl | rfl <;> decide
theorem sxx_in {n : Int} (h0 : 0 ≤ n) (h1 : n ≤ 12) : 0 ≤ sumF (fun j => j * j) n.toNat ∧ sumF (fun j => j * j) n.toNat ≤ 506 := by
  rcases n_cases h0 h1 with rfl | rfl | rfl | rfl | rfl | rfl | rfl | rfl | rfl | rfl | rfl | rfl | rfl <;> decide
theorem dnS_in {n : Int} (h0 : 2 ≤ n) (h1 : n ≤ 12) : 1 ≤ dnS n ∧ dnS n ≤ 1716 := by
  rcases n_cases (by omega) h1 with rfl | rfl | rfl | rfl | rfl | rfl | rfl | rfl | rfl | rfl | rfl | rfl | rfl <;> first | decide | omega
theorem sy_in {n : Int} {y : Int → Int} (h : LineOk n y) : -60000 ≤ sumF y n.toNat ∧ sumF y n.toNat ≤ 60000 := by
  obtain ⟨h0, h1, h2⟩ := h
  have := sumF_in (f := y) (L := -5000) (U := 5000) n.toNat (fun i a b => h2 i a (by omega))
  omega
theorem sxy_in {n : Int} {y : Int → Int} (h : LineOk n y) : -660000 ≤ sumF (fun j => j * y j) n.toNat ∧ sumF (fun j => j * y j) n.toNat ≤ 660000 := by
  obtain ⟨h0, h1, h2⟩ := h
  have := sumF_in (f := fun j => j * y j) (L := -55000) (U := 55000) n.toNat (fun i a b => by
    have a1 := h2 i a (by omega)
    have a2 := mulB (x := i) (y := y i) (A := 11) (C := 5000) (by omega) (by omega) (by omega) a1.1 a1.2
    show -55000 ≤ i * y i ∧ i * y i ≤ 55000
    omega)
  omega
theorem slS_in {n : Int} {y : Int → Int} (h : LineOk n y) : -20000000 ≤ slS y n ∧ slS y n ≤ 20000000 := by
  have b1 := sx_in h.1 h.2.1
  have b2 := sy_in h
  have b3 := sxy_in h
  have c1 := mulB (x := n) (y := sumF (fun j => j * y j) n.toNat) (A := 12) (C := 660000) (by omega) (by have := h.1; omega) h.2.1 (by omega) (by omega)
  have c2 := mulB (x := sumF (fun j => j) n.toNat) (y := sumF y n.toNat) (A := 66) (C := 60000) (by omega) (by omega) (by omega) (by omega) (by omega)
  unfold slS
  omega
theorem inS_in {n : Int} {y : Int → Int} (h : LineOk n y) : -100000000 ≤ inS y n ∧ inS y n ≤ 100000000 := by
  have b1 := sx_in h.1 h.2.1
  have b0 := sxx_in h.1 h.2.1
  have b2 := sy_in h
  have b3 := sxy_in h
  have c1 := mulB (x := sumF (fun j => j * j) n.toNat) (y := sumF y n.toNat) (A := 506) (C := 60000) (by omega) (by omega) (by omega) (by omega) (by omega)
  have c2 := mulB (x := sumF (fun j => j) n.toNat) (y := sumF (fun j => j * y j) n.toNat) (A := 66) (C := 660000) (by omega) (by omega) (by omega) (by omega) (by omega)
  unfold inS
  omega
/-- y at i less the line, times the denominator -/
def rsF (y : Int → Int) (n i : Int) : Int := y i * dnS n - (inS y n + slS y n * i)
theorem rsF_in {n i : Int} {y : Int → Int} (h : LineOk n y) (hn : 2 ≤ n) (h0 : 0 ≤ i) (h1 : i < n) : -400000000 ≤ rsF y n i ∧ rsF y n i ≤ 400000000 := by
  have b0 := dnS_in hn h.2.1
  have b1 := slS_in h
  have b2 := inS_in h
  have b3 := h.2.2 i h0 h1
  have c1 := mulB (x := y i) (y := dnS n) (A := 5000) (C := 1716) (by omega) (by omega) (by omega) (by omega) (by omega)
  have c2 := mulB (x := slS y n) (y := i) (A := 20000000) (C := 11) (by omega) (by omega) (by omega) (by omega) (by have := h.2.1; omega)
  unfold rsF
  omega
def toS (y : Int → Int) (n : Int) : Int := mxF y (n - 1).toNat - mnF y (n - 1).toNat
/-- the form deviation, times the denominator -/
def foN (y : Int → Int) (n : Int) : Int := mxF (rsF y n) (n - 1).toNat - mnF (rsF y n) (n - 1).toNat
theorem foN_in {n : Int} {y : Int → Int} (h : LineOk n y) (hn : 2 ≤ n) : -800000000 ≤ foN y n ∧ foN y n ≤ 800000000 := by
  have a1 := mxF_in (f := rsF y n) (L := -400000000) (A := 400000000) (n - 1).toNat (fun i a b => rsF_in h hn a (by omega))
  have a2 := mnF_in (f := rsF y n) (L := -400000000) (A := 400000000) (n - 1).toNat (fun i a b => rsF_in h hn a (by omega))
  unfold foN
  omega
def foS (y : Int → Int) (n : Int) : Int := rnd (mxF (rsF y n) (n - 1).toNat - mnF (rsF y n) (n - 1).toNat) (dnS n)
/-- a line's deviations: 0 total, 1 slope, 2 form -/
def ldS (y : Int → Int) (n what : Int) : Int := if what = 0 then toS y n else if what = 1 then rnd (slS y n * (n - 1)) (dnS n) else foS y n
theorem mnF_le_mxF (f : Int → Int) : ∀ n : Nat, mnF f n ≤ mxF f n
  | 0 => Int.le_refl _
  | n + 1 => by
    have := mnF_le_mxF f n
    show min _ _ ≤ max _ _
    omega
theorem toS_in {n : Int} {y : Int → Int} (h : LineOk n y) (hn : 1 ≤ n) : 0 ≤ toS y n ∧ toS y n ≤ 10000 := by
  have a1 := mxF_in (f := y) (L := -5000) (A := 5000) (n - 1).toNat (fun i a b => h.2.2 i a (by omega))
  have a2 := mnF_in (f := y) (L := -5000) (A := 5000) (n - 1).toNat (fun i a b => h.2.2 i a (by omega))
  have a3 := mnF_le_mxF y (n - 1).toNat
  unfold toS
  omega
theorem rnd_in {p q A : Int} (hq : 1 ≤ q) (hA : 0 ≤ A) (h1 : -A ≤ p) (h2 : p ≤ A) : -A ≤ rnd p q ∧ rnd p q ≤ A := by
  have c1 : A * 1 ≤ A * q := Int.mul_le_mul_of_nonneg_left hq hA
  rw [Int.mul_one] at c1
  refine ⟨le_rnd (by omega) ?_, rnd_le (by omega) (by omega)⟩
  rw [Int.neg_mul]
  omega
theorem ldS_in {n what : Int} {y : Int → Int} (h : LineOk n y) (hn : 2 ≤ n) : -1000000000 ≤ ldS y n what ∧ ldS y n what ≤ 1000000000 := by
  have b0 := dnS_in hn h.2.1
  unfold ldS
  split
  · have := toS_in h (by omega); omega
  · split
    · have b1 := slS_in h
      have c1 := mulB (x := slS y n) (y := n - 1) (A := 20000000) (C := 11) (by omega) (by omega) (by omega) (by omega) (by have := h.2.1; omega)
      have := rnd_in (p := slS y n * (n - 1)) (q := dnS n) (A := 1000000000) b0.1 (by omega) (by omega) (by omega)
      omega
    · have a1 := mxF_in (f := rsF y n) (L := -400000000) (A := 400000000) (n - 1).toNat (fun i a b => rsF_in h hn a (by omega))
      have a2 := mnF_in (f := rsF y n) (L := -400000000) (A := 400000000) (n - 1).toNat (fun i a b => rsF_in h hn a (by omega))
      have := rnd_in (p := mxF (rsF y n) (n - 1).toNat - mnF (rsF y n) (n - 1).toNat) (q := dnS n) (A := 1000000000) b0.1 (by omega) (by omega) (by omega)
      unfold foS
      omega
theorem LineIs.kept {M M' : Mem} {a : Nat} {ge ki n : Int} {y : Int → Int} (h : LineIs M a ge ki n y) (hs : ∀ c, a ≤ c → c < a + 2 → Same M M' c) : LineIs M' a ge ki n y := by
  obtain ⟨h1, h2, h3, h4, h5, h6, h7, h8⟩ := h
  have e := hs a (by omega) (by omega)
  refine ⟨by rw [e.1]; exact h1, by rw [e.1]; exact h2, by rw [e.1]; exact h3, by rw [e.2.1]; exact h4, by rw [e.2.1]; exact h5, by rw [e.2.1]; exact h6, by rw [e.2.1]; exact h7, fun j p q => ?_⟩
  rw [(hs (a + 1) (by omega) (by omega)).1]
  exact h8 j p q
theorem LineIs.only {M M' : Mem} {o a b : Nat} {ge ki n : Int} {y : Int → Int} (h : LineIs M o ge ki n y) (k : Only M M' a b) (hd : o + 2 ≤ a ∨ b ≤ o) : LineIs M' o ge ki n y := h.kept (fun c h1 h2 => k c (by omega))
/-- y, and v at n -/
def ySet (y : Int → Int) (n v : Int) : Int → Int := fun j => if j = n then v else y j
theorem ySet_n (y : Int → Int) (n v : Int) : ySet y n v n = v := if_pos rfl
theorem ySet_ne {y : Int → Int} {n v j : Int} (h : j ≠ n) : ySet y n v j = y j := if_neg h
theorem sum_push {y : Int → Int} {n v : Int} (h : 0 ≤ n) : sumF (ySet y n v) (n + 1).toNat = sumF y n.toNat + v := by
  rw [sumF_s _ h, ySet_n, sumF_congr n.toNat (fun i a b => ySet_ne (by omega))]
theorem sum_pushX {y : Int → Int} {n v : Int} (h : 0 ≤ n) : sumF (fun j => j * ySet y n v j) (n + 1).toNat = sumF (fun j => j * y j) n.toNat + n * v := by
  rw [sumF_s _ h, ySet_n, sumF_congr (g := fun j => j * y j) n.toNat (fun i a b => by rw [ySet_ne (by omega)])]
theorem LineOk.push {n v : Int} {y : Int → Int} (h : LineOk n y) (hn : n < 12) (h1 : -5000 ≤ v) (h2 : v ≤ 5000) : LineOk (n + 1) (ySet y n v) := by
  refine ⟨by have := h.1; omega, by omega, fun j a b => ?_⟩
  rcases (show j < n ∨ j = n by omega) with q | q
  · rw [ySet_ne (by omega)]; exact h.2.2 j a q
  · rw [q, ySet_n]; omega
/-- 1 where there are points enough -/
def msS (n : Int) : Int := if 3 ≤ n then 1 else 0
