/-! the numbers of a gear's deviations -/
/-- the greatest of 0 and f 0 .. f (n - 1) -/
def mxZ (f : Int → Int) : Nat → Int
  | 0 => 0
  | n + 1 => max (mxZ f n) (f n)
/-- the greatest of f 0 .. f n -/
def mxF (f : Int → Int) : Nat → Int
  | 0 => f 0
  | n + 1 => max (mxF f n) (f (n + 1))
def mnF (f : Int → Int) : Nat → Int
  | 0 => f 0
  | n + 1 => min (mnF f n) (f (n + 1))
theorem mxZ_s (f : Int → Int) {i : Int} (h : 0 ≤ i) : mxZ f (i + 1).toNat = max (mxZ f i.toNat) (f i) := by
  obtain ⟨n, rfl⟩ : ∃ n : Nat, i = n := ⟨i.toNat, by omega⟩
  rw [show ((n : Int) + 1).toNat = n + 1 by omega, show ((n : Int)).toNat = n by omega]
  rfl
theorem mxF_s (f : Int → Int) {i : Int} (h : 1 ≤ i) : mxF f i.toNat = max (mxF f (i - 1).toNat) (f i) := by
  obtain ⟨n, rfl⟩ : ∃ n : Nat, i = n + 1 := ⟨(i - 1).toNat, by omega⟩
  rw [show ((n : Int) + 1).toNat = n + 1 by omega, show ((n : Int) + 1 - 1).toNat = n by omega]
  rfl
theorem mnF_s (f : Int → Int) {i : Int} (h : 1 ≤ i) : mnF f i.toNat = min (mnF f (i - 1).toNat) (f i) := by
  obtain ⟨n, rfl⟩ : ∃ n : Nat, i = n + 1 := ⟨(i - 1).toNat, by omega⟩
  rw [show ((n : Int) + 1).toNat = n + 1 by omega, show ((n : Int) + 1 - 1).toNat = n by omega]
  rfl
theorem mxZ_in {f : Int → Int} {A : Int} (hA : 0 ≤ A) : ∀ n : Nat, (∀ i : Int, 0 ≤ i → i < n → f i ≤ A) → 0 ≤ mxZ f n ∧ mxZ f n ≤ A
  | 0, _ => ⟨Int.le_refl _, hA⟩
  | n + 1, h => by
    have h1 := mxZ_in hA n (fun i a b => h i a (by omega))
    have h2 := h n (by omega) (by omega)
    show 0 ≤ max _ _ ∧ max _ _ ≤ A
    omega
theorem mxF_in {f : Int → Int} {L A : Int} : ∀ n : Nat, (∀ i : Int, 0 ≤ i → i ≤ n → L ≤ f i ∧ f i ≤ A) → L ≤ mxF f n ∧ mxF f n ≤ A
  | 0, h => h 0 (by omega) (by omega)
  | n + 1, h => by
    have h1 := mxF_in n (fun i a b => h i a (by omega))
    have h2 := h (n + 1) (by omega) (by omega)
    show L ≤ max _ _ ∧ max _ _ ≤ A
    omega
theorem mnF_in {f : Int → Int} {L A : Int} : ∀ n : Nat, (∀ i : Int, 0 ≤ i → i ≤ n → L ≤ f i ∧ f i ≤ A) → L ≤ mnF f n ∧ mnF f n ≤ A
  | 0, h => h 0 (by omega) (by omega)
  | n + 1, h => by
    have h1 := mnF_in n (fun i a b => h i a (by omega))
    have h2 := h (n + 1) (by omega) (by omega)
    show L ≤ min _ _ ∧ min _ _ ≤ A
    omega
def gpF (z : Int) (r : Int → Int) (i : Int) : Int := absI (ixS z r i - ixS z r (i - 1))
theorem gpF_in {z m : Int} {rd : Int → Int → Int} (h : GearOk z m rd) {s i : Int} (h0 : 0 ≤ s) (h1 : s < 2) (h2 : 1 ≤ i) (h3 : i ≤ z) : gpF z (rd s) i ≤ 40000 := by
  have a1 := h.ix h0 h1 (t := i) (by omega) h3
  have a2 := h.ix h0 h1 (t := i - 1) (by omega) (by omega)
  show max _ _ ≤ (40000 : Int)
  omega
theorem gpS_eq (z : Int) (r : Int → Int) : gpS z r = mxU (gpF z r) z.toNat := rfl
theorem gpS_in {z m : Int} {rd : Int → Int → Int} (h : GearOk z m rd) {s : Int} (h0 : 0 ≤ s) (h1 : s < 2) : 0 ≤ gpS z (rd s) ∧ gpS z (rd s) ≤ 40000 :=
  mxU_in (by omega) _ (fun i a b => gpF_in h h0 h1 a (by have := h.1; omega))
theorem irS_in {z m : Int} {rd : Int → Int → Int} (h : GearOk z m rd) {s : Int} (h0 : 0 ≤ s) (h1 : s < 2) : 0 ≤ irS z (rd s) ∧ irS z (rd s) ≤ 40000 := by
  have a1 := mxU_in (f := ixS z (rd s)) (A := 20000) (by omega) z.toNat (fun i a b => (h.ix h0 h1 (t := i) (by omega) (by have := h.1; omega)).2)
  have a2 := mnU_in (f := ixS z (rd s)) (A := 20000) (by omega) z.toNat (fun i a b => (h.ix h0 h1 (t := i) (by omega) (by have := h.1; omega)).1)
  unfold irS
  omega
def arS (z t : Int) : Int := if t < z then t else t - z
def spF (z : Int) (r : Int → Int) (k i : Int) : Int := absI (ixS z r (arS z (i + k)) - ixS z r i)
def spS (z : Int) (r : Int → Int) (k : Int) : Int := mxZ (spF z r k) z.toNat
theorem arS_in {z t : Int} (h0 : 0 ≤ t) (h1 : t < 2 * z) : 0 ≤ arS z t ∧ arS z t < z := by
  unfold arS
  split <;> omega
theorem spF_in {z m : Int} {rd : Int → Int → Int} (h : GearOk z m rd) {s i k : Int} (h0 : 0 ≤ s) (h1 : s < 2) (h2 : 0 ≤ i) (h3 : i < z) (h4 : 0 ≤ k) (h5 : k ≤ z) : spF z (rd s) k i ≤ 40000 := by
  have a0 := arS_in (z := z) (t := i + k) (by omega) (by omega)
  have a1 := h.ix h0 h1 (t := arS z (i + k)) (by omega) (by omega)
  have a2 := h.ix h0 h1 (t := i) (by omega) (by omega)
  show max _ _ ≤ (40000 : Int)
  omega
def thF (z : Int) (rd : Int → Int → Int) (t : Int) : Int := ixS z (rd 0) t - ixS z (rd 1) t
theorem thF_in {z m : Int} {rd : Int → Int → Int} (h : GearOk z m rd) {i : Int} (h2 : 0 ≤ i) (h3 : i ≤ z) : -40000 ≤ thF z rd i ∧ thF z rd i ≤ 40000 := by
  have a1 := h.ix (s := 0) (t := i) (by omega) (by omega) h2 h3
  have a2 := h.ix (s := 1) (t := i) (by omega) (by omega) h2 h3
  unfold thF
  omega
def thS (z : Int) (rd : Int → Int → Int) : Int := mxF (thF z rd) (z - 1).toNat - mnF (thF z rd) (z - 1).toNat
def ruS (z : Int) (r : Int → Int) : Int := mxF r (z - 1).toNat - mnF r (z - 1).toNat
theorem ruS_in {z m : Int} {rd : Int → Int → Int} (h : GearOk z m rd) : -10000 ≤ ruS z (rd 2) ∧ ruS z (rd 2) ≤ 10000 := by
  have hz := h.1
  have a1 := mxF_in (f := rd 2) (L := -5000) (A := 5000) (z - 1).toNat (fun i a b => h.ra a (by omega))
  have a2 := mnF_in (f := rd 2) (L := -5000) (A := 5000) (z - 1).toNat (fun i a b => h.ra a (by omega))
  unfold ruS
  omega
def opF (z : Int) (r : Int → Int) (i : Int) : Int := absI (r (arS z (i + z / 2)) - r i)
def opS (z : Int) (r : Int → Int) : Int := mxZ (opF z r) z.toNat
theorem opF_in {z m : Int} {rd : Int → Int → Int} (h : GearOk z m rd) {i : Int} (h2 : 0 ≤ i) (h3 : i < z) : opF z (rd 2) i ≤ 10000 := by
  have hz := h.1
  have a0 := arS_in (z := z) (t := i + z / 2) (by omega) (by omega)
  have a1 := h.ra (k := arS z (i + z / 2)) (by omega) (by omega)
  have a2 := h.ra (k := i) (by omega) (by omega)
  show max _ _ ≤ (10000 : Int)
  omega
theorem opS_in {z m : Int} {rd : Int → Int → Int} (h : GearOk z m rd) : 0 ≤ opS z (rd 2) ∧ opS z (rd 2) ≤ 10000 :=
  mxZ_in (by omega) _ (fun i a b => opF_in h a (by have := h.1; omega))
