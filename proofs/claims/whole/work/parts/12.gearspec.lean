/-! a gear, as the class keeps it and as numbers -/
def IsGear (G : Gs) (g : Nat) : Prop := At G g 0 0 ∧ At G (g + 1) 11 3 ∧ ∀ j : Nat, j < 3 → At G (g + 1 + 1 + j) 7 31
theorem IsGear.row {G : Gs} {g : Nat} (h : IsGear G g) {s : Int} (h0 : 0 ≤ s) (h1 : s < 3) : At G (g + 1 + 1 + s.toNat) 7 31 := h.2.2 _ (by omega)
/-- how many readings a series has -/
def szS (z s : Int) : Int := if s = 2 then z else z + 1
def GearIs (M : Mem) (g : Nat) (z m : Int) (rd : Int → Int → Int) : Prop := gI M g 0 = z ∧ gI M g 1 = m ∧ ∀ s k : Int, 0 ≤ s → s < 3 → 0 ≤ k → k < szS z s → gI M (g + 1 + 1 + s.toNat) k = rd s k
def GearOk (z m : Int) (rd : Int → Int → Int) : Prop := 5 ≤ z ∧ z ≤ 30 ∧ 1 ≤ m ∧ m ≤ 20 ∧ ∀ s k : Int, 0 ≤ s → s < 3 → 0 ≤ k → k < szS z s → -5000 ≤ rd s k ∧ rd s k ≤ 5000
theorem szS_fl {z s : Int} (h : s < 2) : szS z s = z + 1 := if_neg (by omega)
theorem szS_2 {z : Int} : szS z 2 = z := if_pos rfl
theorem szS_le (z s : Int) : z ≤ szS z s ∧ szS z s ≤ z + 1 := by
  unfold szS
  split <;> omega
/-- the index deviation of tooth t -/
def ixS (z : Int) (r : Int → Int) (t : Int) : Int := r t - r 0 - rnd ((r z - r 0) * t) z
theorem rnd_le {p q c : Int} (hq : 0 < q) (h : p ≤ c * q) : rnd p q ≤ c := by
  unfold rnd
  have h1 : (2 * p + q) / (2 * q) < c + 1 := by
    rw [Int.ediv_lt_iff_lt_mul (by omega)]
    have : (c + 1) * (2 * q) = 2 * (c * q) + 2 * q := by
      rw [Int.add_mul, Int.one_mul, Int.mul_left_comm]
    omega
  omega
theorem le_rnd {p q c : Int} (hq : 0 < q) (h : c * q ≤ p) : c ≤ rnd p q := by
  unfold rnd
  rw [Int.le_ediv_iff_mul_le (by omega)]
  have : c * (2 * q) = 2 * (c * q) := by rw [Int.mul_left_comm]
  omega
/-- x * t between the bounds times the greatest t -/
theorem mul_in {x t A z : Int} (hA : 0 ≤ A) (h1 : -A ≤ x) (h2 : x ≤ A) (h3 : 0 ≤ t) (h4 : t ≤ z) : -(A * z) ≤ x * t ∧ x * t ≤ A * z := by
  have a1 : x * t ≤ A * t := Int.mul_le_mul_of_nonneg_right h2 h3
  have a2 : A * t ≤ A * z := Int.mul_le_mul_of_nonneg_left h4 hA
  have a3 : (-A) * t ≤ x * t := Int.mul_le_mul_of_nonneg_right h1 h3
  rw [Int.neg_mul] at a3
  omega
theorem ixS_in {z : Int} {r : Int → Int} {t : Int} (hz : 5 ≤ z) (h : ∀ k, 0 ≤ k → k < z + 1 → -5000 ≤ r k ∧ r k ≤ 5000) (h0 : 0 ≤ t) (h1 : t ≤ z) : -20000 ≤ ixS z r t ∧ ixS z r t ≤ 20000 := by
  have a1 := h t h0 (by omega)
  have a2 := h 0 (by omega) (by omega)
  have a3 := h z (by omega) (by omega)
  obtain ⟨b1, b2⟩ := mul_in (x := r z - r 0) (t := t) (A := 10000) (z := z) (by omega) (by omega) (by omega) h0 h1
  have c1 := rnd_le (p := (r z - r 0) * t) (q := z) (c := 10000) (by omega) b2
  have c2 := le_rnd (p := (r z - r 0) * t) (q := z) (c := -10000) (by omega) (by rw [Int.neg_mul]; exact b1)
  unfold ixS
  omega
theorem ixS_0 {z : Int} {r : Int → Int} (hz : 0 < z) : ixS z r 0 = 0 := by
  unfold ixS
  rw [Int.mul_zero]
  have c1 := rnd_le (p := 0) (q := z) (c := 0) hz (by omega)
  have c2 := le_rnd (p := 0) (q := z) (c := 0) hz (by omega)
  omega
theorem GearOk.fl {z m : Int} {rd : Int → Int → Int} (h : GearOk z m rd) {s : Int} (h0 : 0 ≤ s) (h1 : s < 2) : ∀ k, 0 ≤ k → k < z + 1 → -5000 ≤ rd s k ∧ rd s k ≤ 5000 := fun k a b => h.2.2.2.2 s k h0 (by omega) a (by rw [szS_fl h1]; exact b)
theorem GearOk.ix {z m : Int} {rd : Int → Int → Int} (h : GearOk z m rd) {s t : Int} (h0 : 0 ≤ s) (h1 : s < 2) (h2 : 0 ≤ t) (h3 : t ≤ z) : -20000 ≤ ixS z (rd s) t ∧ ixS z (rd s) t ≤ 20000 := ixS_in h.1 (h.fl h0 h1) h2 h3
theorem GearIs.fl {M : Mem} {g : Nat} {z m : Int} {rd : Int → Int → Int} (h : GearIs M g z m rd) {s k : Int} (h0 : 0 ≤ s) (h1 : s < 2) (h2 : 0 ≤ k) (h3 : k ≤ z) : gI M (g + 1 + 1 + s.toNat) k = rd s k := h.2.2 s k h0 (by omega) h2 (by rw [szS_fl h1]; omega)
theorem GearIs.ra {M : Mem} {g : Nat} {z m : Int} {rd : Int → Int → Int} (h : GearIs M g z m rd) {k : Int} (h2 : 0 ≤ k) (h3 : k < z) : gI M (g + 1 + 1 + Int.toNat 2) k = rd 2 k := h.2.2 2 k (by omega) (by omega) h2 (by rw [szS_2]; exact h3)
theorem GearOk.ra {z m : Int} {rd : Int → Int → Int} (h : GearOk z m rd) {k : Int} (h2 : 0 ≤ k) (h3 : k < z) : -5000 ≤ rd 2 k ∧ rd 2 k ≤ 5000 := h.2.2.2.2 2 k (by omega) (by omega) h2 (by rw [szS_2]; exact h3)
/-- the greatest of 0 and f 1 .. f n -/
def mxU (f : Int → Int) : Nat → Int
  | 0 => 0
  | n + 1 => max (mxU f n) (f (n + 1))
/-- the smallest of 0 and f 1 .. f n -/
def mnU (f : Int → Int) : Nat → Int
  | 0 => 0
  | n + 1 => min (mnU f n) (f (n + 1))
theorem mxU_s (f : Int → Int) {i : Int} (h : 1 ≤ i) : mxU f i.toNat = max (mxU f (i - 1).toNat) (f i) := by
  obtain ⟨n, rfl⟩ : ∃ n : Nat, i = n + 1 := ⟨(i - 1).toNat, by omega⟩
  rw [show ((n : Int) + 1).toNat = n + 1 by omega, show ((n : Int) + 1 - 1).toNat = n by omega]
  rfl
theorem mnU_s (f : Int → Int) {i : Int} (h : 1 ≤ i) : mnU f i.toNat = min (mnU f (i - 1).toNat) (f i) := by
  obtain ⟨n, rfl⟩ : ∃ n : Nat, i = n + 1 := ⟨(i - 1).toNat, by omega⟩
  rw [show ((n : Int) + 1).toNat = n + 1 by omega, show ((n : Int) + 1 - 1).toNat = n by omega]
  rfl
theorem mxU_in {f : Int → Int} {A : Int} (hA : 0 ≤ A) : ∀ n : Nat, (∀ i : Int, 1 ≤ i → i ≤ n → f i ≤ A) → 0 ≤ mxU f n ∧ mxU f n ≤ A
  | 0, _ => ⟨Int.le_refl _, hA⟩
  | n + 1, h => by
    have h1 := mxU_in hA n (fun i a b => h i a (by omega))
    have h2 := h (n + 1) (by omega) (by omega)
    show 0 ≤ max _ _ ∧ max _ _ ≤ A
    omega
theorem mnU_in {f : Int → Int} {A : Int} (hA : 0 ≤ A) : ∀ n : Nat, (∀ i : Int, 1 ≤ i → i ≤ n → -A ≤ f i) → -A ≤ mnU f n ∧ mnU f n ≤ 0
  | 0, _ => ⟨by show -A ≤ 0; omega, Int.le_refl _⟩
  | n + 1, h => by
    have h1 := mnU_in hA n (fun i a b => h i a (by omega))
    have h2 := h (n + 1) (by omega) (by omega)
    show -A ≤ min _ _ ∧ min _ _ ≤ 0
    omega
abbrev absI (x : Int) : Int := max x (-x)
/-- the greatest absolute pitch deviation of a flank -/
def gpS (z : Int) (r : Int → Int) : Int := mxU (fun i => absI (ixS z r i - ixS z r (i - 1))) z.toNat
/-- the greatest index deviation less the smallest -/
def irS (z : Int) (r : Int → Int) : Int := mxU (ixS z r) z.toNat - mnU (ixS z r) z.toNat
