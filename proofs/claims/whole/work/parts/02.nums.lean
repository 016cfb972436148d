/-! whole numbers as the machine's ints and longs -/
def iI (z : Int) : Int32 := Int32.ofInt z
def lI (z : Int) : Int64 := Int64.ofInt z
abbrev In32 (z : Int) : Prop := -2147483648 ≤ z ∧ z ≤ 2147483647
abbrev In64 (z : Int) : Prop := -9223372036854775808 ≤ z ∧ z ≤ 9223372036854775807
theorem iI_toInt {z : Int} (h : In32 z) : (iI z).toInt = z := by
  unfold iI
  rw [Int32.toInt_ofInt]
  have hs : (Int32.size : Int) = 4294967296 := rfl
  exact Int.bmod_eq_of_le (by have := h.1; omega) (by have := h.2; omega)
theorem lI_toInt {z : Int} (h : In64 z) : (lI z).toInt = z := by
  unfold lI
  rw [Int64.toInt_ofInt]
  have hs : (Int64.size : Int) = 18446744073709551616 := rfl
  exact Int.bmod_eq_of_le (by have := h.1; omega) (by have := h.2; omega)
theorem iI_of (x : Int32) : iI x.toInt = x := Int32.ofInt_toInt x
theorem lI_of (x : Int64) : lI x.toInt = x := Int64.ofInt_toInt x
theorem in32_of (x : Int32) : In32 x.toInt := ⟨Int32.le_toInt x, by have := Int32.toInt_lt x; omega⟩
theorem in64_of (x : Int64) : In64 x.toInt := ⟨Int64.le_toInt x, by have := Int64.toInt_lt x; omega⟩
theorem iI_add (x y : Int) : iI x + iI y = iI (x + y) := (Int32.ofInt_add x y).symm
theorem iI_sub (x y : Int) : iI x - iI y = iI (x - y) := (Int32.ofInt_sub x y).symm
theorem iI_mul (x y : Int) : iI x * iI y = iI (x * y) := (Int32.ofInt_mul x y).symm
theorem iI_neg (x : Int) : -iI x = iI (-x) := (Int32.ofInt_neg x).symm
theorem lI_add (x y : Int) : lI x + lI y = lI (x + y) := (Int64.ofInt_add x y).symm
theorem lI_sub (x y : Int) : lI x - lI y = lI (x - y) := (Int64.ofInt_sub x y).symm
theorem lI_mul (x y : Int) : lI x * lI y = lI (x * y) := (Int64.ofInt_mul x y).symm
theorem lI_neg (x : Int) : -lI x = lI (-x) := (Int64.ofInt_neg x).symm
theorem iI_inj {x y : Int} (hx : In32 x) (hy : In32 y) : iI x = iI y ↔ x = y := by
  rw [← Int32.toInt_inj, iI_toInt hx, iI_toInt hy]
theorem iI_lt {x y : Int} (hx : In32 x) (hy : In32 y) : iI x < iI y ↔ x < y := by
  rw [Int32.lt_iff_toInt_lt, iI_toInt hx, iI_toInt hy]
theorem iI_le {x y : Int} (hx : In32 x) (hy : In32 y) : iI x ≤ iI y ↔ x ≤ y := by
  rw [Int32.le_iff_toInt_le, iI_toInt hx, iI_toInt hy]
theorem lI_inj {x y : Int} (hx : In64 x) (hy : In64 y) : lI x = lI y ↔ x = y := by
  rw [← Int64.toInt_inj, lI_toInt hx, lI_toInt hy]
theorem lI_lt {x y : Int} (hx : In64 x) (hy : In64 y) : lI x < lI y ↔ x < y := by
  rw [Int64.lt_iff_toInt_lt, lI_toInt hx, lI_toInt hy]
theorem lI_le {x y : Int} (hx : In64 x) (hy : In64 y) : lI x ≤ lI y ↔ x ≤ y := by
  rw [Int64.le_iff_toInt_le, lI_toInt hx, lI_toInt hy]
theorem iI_zero : iI 0 = 0 := rfl
theorem lI_zero : lI 0 = 0 := rfl
theorem iI_div {x y : Int} (hx : In32 x) (hy : In32 y) : iI x / iI y = iI (x.tdiv y) := by
  rw [← Int32.toInt_inj, Int32.toInt_div, iI_toInt hx, iI_toInt hy]
  unfold iI
  rw [Int32.toInt_ofInt]
theorem lI_div {x y : Int} (hx : In64 x) (hy : In64 y) : lI x / lI y = lI (x.tdiv y) := by
  rw [← Int64.toInt_inj, Int64.toInt_div, lI_toInt hx, lI_toInt hy]
  unfold lI
  rw [Int64.toInt_ofInt]
theorem tmod_as (x y : Int) : x - x.tdiv y * y = x.tmod y := by
  have := Int.mul_tdiv_add_tmod x y
  rw [Int.mul_comm] at this
  omega
theorem iI_rem {x y : Int} (hx : In32 x) (hy : In32 y) : iI x - iI x / iI y * iI y = iI (x.tmod y) := by
  rw [iI_div hx hy, iI_mul, iI_sub, tmod_as]
theorem lI_rem {x y : Int} (hx : In64 x) (hy : In64 y) : lI x - lI x / lI y * lI y = lI (x.tmod y) := by
  rw [lI_div hx hy, lI_mul, lI_sub, tmod_as]
theorem iI_i2l {x : Int} (hx : In32 x) : (iI x).toInt64 = lI x := by
  rw [← Int64.toInt_inj, Int32.toInt_toInt64, iI_toInt hx, lI_toInt ⟨by have := hx.1; omega, by have := hx.2; omega⟩]
theorem lI_l2i (x : Int) : (lI x).toInt32 = iI x := by
  unfold lI iI
  exact Int64.toInt32_ofInt
theorem iI_nat {i : Int} (h0 : 0 ≤ i) (h1 : i ≤ 2147483647) : ((iI i).toNatClampNeg : Int) = i := by
  have h := iI_toInt (z := i) ⟨by omega, h1⟩
  have h2 : (iI i).toNatClampNeg = (iI i).toInt.toNat := rfl
  rw [h2, h]
  omega
theorem iI_in {i : Int} {n : Nat} (h0 : 0 ≤ i) (h1 : i < n) (hn : n < 2147483648) : vp_in (iI i) n := by
  have h2 := iI_nat h0 (by omega)
  intro h
  rcases h with h | h
  · have h3 := (iI_lt (x := i) (y := 0) ⟨by omega, by omega⟩ ⟨by omega, by omega⟩).mp h
    omega
  · omega
/-- lcmp's answer -/
def cmpI (x y : Int) : Int := if y < x then 1 else if x = y then 0 else -1
theorem cmpI_in (x y : Int) : In32 (cmpI x y) := by
  unfold cmpI
  split
  · decide
  · split <;> decide
theorem lg_cmpI {x y : Int} (hx : In64 x) (hy : In64 y) : lg_cmp (lI x) (lI y) = iI (cmpI x y) := by
  unfold lg_cmp cmpI
  simp only [gt_iff_lt, lI_lt hy hx, lI_inj hx hy]
  split
  · rfl
  · split <;> rfl
theorem cmpI_lt (x y : Int) : cmpI x y < 0 ↔ x < y := by
  unfold cmpI
  by_cases h1 : y < x
  · rw [if_pos h1]; omega
  · rw [if_neg h1]
    by_cases h2 : x = y
    · rw [if_pos h2]; omega
    · rw [if_neg h2]; omega
theorem cmpI_le (x y : Int) : cmpI x y ≤ 0 ↔ x ≤ y := by
  unfold cmpI
  by_cases h1 : y < x
  · rw [if_pos h1]; omega
  · rw [if_neg h1]
    by_cases h2 : x = y
    · rw [if_pos h2]; omega
    · rw [if_neg h2]; omega
theorem cmpI_eq (x y : Int) : cmpI x y = 0 ↔ x = y := by
  unfold cmpI
  by_cases h1 : y < x
  · rw [if_pos h1]; omega
  · rw [if_neg h1]
    by_cases h2 : x = y
    · rw [if_pos h2]; omega
    · rw [if_neg h2]; omega
theorem cmpI_gt (x y : Int) : 0 < cmpI x y ↔ y < x := by
  unfold cmpI
  by_cases h1 : y < x
  · rw [if_pos h1]; omega
  · rw [if_neg h1]
    by_cases h2 : x = y
    · rw [if_pos h2]; omega
    · rw [if_neg h2]; omega
theorem cmpI_ge (x y : Int) : 0 ≤ cmpI x y ↔ y ≤ x := by
  unfold cmpI
  by_cases h1 : y < x
  · rw [if_pos h1]; omega
  · rw [if_neg h1]
    by_cases h2 : x = y
    · rw [if_pos h2]; omega
    · rw [if_neg h2]; omega
