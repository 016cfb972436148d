/-! two gears in mesh, as the class counts -/
/-- of f 0 .. f (n - 1) those of the class r modulo p: the greatest, the smallest -/
def cmx (f : Int → Int) (p r : Int) : Nat → Int
  | 0 => 0
  | n + 1 => if (n : Int) % p = r then (if (n : Int) < p then f n else max (cmx f p r n) (f n)) else cmx f p r n
def cmn (f : Int → Int) (p r : Int) : Nat → Int
  | 0 => 0
  | n + 1 => if (n : Int) % p = r then (if (n : Int) < p then f n else min (cmn f p r n) (f n)) else cmn f p r n
theorem cmx_s (f : Int → Int) (p r : Int) {i : Int} (h : 0 ≤ i) : cmx f p r (i + 1).toNat = if i % p = r then (if i < p then f i else max (cmx f p r i.toNat) (f i)) else cmx f p r i.toNat := by
  obtain ⟨n, rfl⟩ : ∃ n : Nat, i = n := ⟨i.toNat, by omega⟩
  rw [show ((n : Int) + 1).toNat = n + 1 by omega, show ((n : Int)).toNat = n by omega]
  rfl
theorem cmn_s (f : Int → Int) (p r : Int) {i : Int} (h : 0 ≤ i) : cmn f p r (i + 1).toNat = if i % p = r then (if i < p then f i else min (cmn f p r i.toNat) (f i)) else cmn f p r i.toNat := by
  obtain ⟨n, rfl⟩ : ∃ n : Nat, i = n := ⟨i.toNat, by omega⟩
  rw [show ((n : Int) + 1).toNat = n + 1 by omega, show ((n : Int)).toNat = n by omega]
  rfl
theorem cmx_in {f : Int → Int} {p r A : Int} (hA : 0 ≤ A) : ∀ n : Nat, (∀ i : Int, 0 ≤ i → i < n → -A ≤ f i ∧ f i ≤ A) → -A ≤ cmx f p r n ∧ cmx f p r n ≤ A
  | 0, _ => by show -A ≤ (0 : Int) ∧ (0 : Int) ≤ A; omega
  | n + 1, h => by
    have h1 := cmx_in (p := p) (r := r) hA n (fun i a b => h i a (by omega))
    have h2 := h n (by omega) (by omega)
    unfold cmx
    split
    · split <;> omega
    · exact h1
theorem cmn_in {f : Int → Int} {p r A : Int} (hA : 0 ≤ A) : ∀ n : Nat, (∀ i : Int, 0 ≤ i → i < n → -A ≤ f i ∧ f i ≤ A) → -A ≤ cmn f p r n ∧ cmn f p r n ≤ A
  | 0, _ => by show -A ≤ (0 : Int) ∧ (0 : Int) ≤ A; omega
  | n + 1, h => by
    have h1 := cmn_in (p := p) (r := r) hA n (fun i a b => h i a (by omega))
    have h2 := h n (by omega) (by omega)
    unfold cmn
    split
    · split <;> omega
    · exact h1
/-- the transmission error at a phase, by the classes' extremes -/
def erS (p : Int) (fM fL sM sL : Int → Int) (ph : Int) : Int := mxF (fun r => fM r + sM ((r + ph) % p)) (p - 1).toNat - mnF (fun r => fL r + sL ((r + ph) % p)) (p - 1).toNat
/-- the first of 0 .. n with the smallest e -/
def psF (e : Int → Int) : Nat → Int
  | 0 => 0
  | n + 1 => if e (n + 1) < e (psF e n) then n + 1 else psF e n
theorem psF_s (e : Int → Int) {i : Int} (h : 1 ≤ i) : psF e i.toNat = if e i < e (psF e (i - 1).toNat) then i else psF e (i - 1).toNat := by
  obtain ⟨n, rfl⟩ : ∃ n : Nat, i = n + 1 := ⟨(i - 1).toNat, by omega⟩
  rw [show ((n : Int) + 1).toNat = n + 1 by omega, show ((n : Int) + 1 - 1).toNat = n by omega]
  rfl
theorem psF_in (e : Int → Int) : ∀ n : Nat, 0 ≤ psF e n ∧ psF e n ≤ n
  | 0 => ⟨Int.le_refl _, Int.le_refl _⟩
  | n + 1 => by
    have := psF_in e n
    unfold psF
    split <;> omega
def IsMesh (G : Gs) (a : Nat) : Prop := At G a 2 0 ∧ At G (a + 1) 7 30 ∧ At G (a + 2) 7 30 ∧ At G (a + 3) 7 30 ∧ At G (a + 4) 7 30
def MeshIs (M : Mem) (a : Nat) (p : Int) (fM fL sM sL : Int → Int) : Prop := gI M a 0 = p ∧ ∀ r : Int, 0 ≤ r → r < p → gI M (a + 1) r = fM r ∧ gI M (a + 2) r = fL r ∧ gI M (a + 3) r = sM r ∧ gI M (a + 4) r = sL r
def MeshOk (p : Int) (fM fL sM sL : Int → Int) : Prop := 1 ≤ p ∧ p ≤ 30 ∧ ∀ r : Int, 0 ≤ r → r < p → (-20000 ≤ fM r ∧ fM r ≤ 20000) ∧ (-20000 ≤ fL r ∧ fL r ≤ 20000) ∧ (-20000 ≤ sM r ∧ sM r ≤ 20000) ∧ (-20000 ≤ sL r ∧ sL r ≤ 20000)
theorem erS_in {p : Int} {fM fL sM sL : Int → Int} (h : MeshOk p fM fL sM sL) (ph : Int) : -80000 ≤ erS p fM fL sM sL ph ∧ erS p fM fL sM sL ph ≤ 80000 := by
  obtain ⟨h1, h2, h3⟩ := h
  have a1 := mxF_in (f := fun r => fM r + sM ((r + ph) % p)) (L := -40000) (A := 40000) (p - 1).toNat (fun i a b => by
    have b1 := h3 i a (by omega)
    have b2 := h3 ((i + ph) % p) (Int.emod_nonneg _ (by omega)) (Int.emod_lt_of_pos _ (by omega))
    show -40000 ≤ fM i + sM ((i + ph) % p) ∧ fM i + sM ((i + ph) % p) ≤ 40000
    omega)
  have a2 := mnF_in (f := fun r => fL r + sL ((r + ph) % p)) (L := -40000) (A := 40000) (p - 1).toNat (fun i a b => by
    have b1 := h3 i a (by omega)
    have b2 := h3 ((i + ph) % p) (Int.emod_nonneg _ (by omega)) (Int.emod_lt_of_pos _ (by omega))
    show -40000 ≤ fL i + sL ((i + ph) % p) ∧ fL i + sL ((i + ph) % p) ≤ 40000
    omega)
  unfold erS
  omega
/-- Euclid's step -/
theorem gcd_step {b s : Int} (hb : 0 ≤ b) (hs : 0 < s) : Int.gcd s (b % s) = Int.gcd b s := by
  have h1 : b % s = ((b.toNat % s.toNat : Nat) : Int) := by
    rw [Int.natCast_emod]
    rw [Int.toNat_of_nonneg hb, Int.toNat_of_nonneg (by omega)]
  obtain ⟨B, rfl⟩ : ∃ n : Nat, b = n := ⟨b.toNat, by omega⟩
  obtain ⟨S, rfl⟩ : ∃ n : Nat, s = n := ⟨s.toNat, by omega⟩
  rw [h1]
  show Nat.gcd S (B % S) = Nat.gcd B S
  rw [Nat.gcd_comm B S, Nat.gcd_rec S B, Nat.gcd_comm]
/-- the product of Euclid's numbers is halved at least -/
theorem euclid_half {b s P : Int} (hs : 0 < s) (hb : s ≤ b) (h : b * s ≤ P) : 2 * (s * (b % s)) ≤ P := by
  have e := Int.mul_ediv_add_emod b s
  have q1 : 1 ≤ b / s := Int.le_ediv_of_mul_le hs (by omega)
  have q2 : s * 1 ≤ s * (b / s) := Int.mul_le_mul_of_nonneg_left q1 (by omega)
  have m1 := Int.emod_lt_of_pos b hs
  have q3 : s * (2 * (b % s)) ≤ s * b := Int.mul_le_mul_of_nonneg_left (by omega) (by omega)
  have q4 : s * (2 * (b % s)) = 2 * (s * (b % s)) := by rw [Int.mul_left_comm]
  have q5 : s * b = b * s := Int.mul_comm _ _
  omega
def pw2 : Nat → Int
  | 0 => 1
  | n + 1 => 2 * pw2 n
theorem pw2_s {i : Int} (h : 1 ≤ i) : pw2 i.toNat = 2 * pw2 (i - 1).toNat := by
  obtain ⟨n, rfl⟩ : ∃ n : Nat, i = n + 1 := ⟨(i - 1).toNat, by omega⟩
  rw [show ((n : Int) + 1).toNat = n + 1 by omega, show ((n : Int) + 1 - 1).toNat = n by omega]
  rfl
theorem pw2_pos : ∀ n : Nat, 1 ≤ pw2 n
  | 0 => Int.le_refl _
  | n + 1 => by
    have := pw2_pos n
    show 1 ≤ 2 * pw2 n
    omega
theorem pw2_99 : pw2 (100 - 1 : Int).toNat = 633825300114114700748351602688 := by decide +kernel
/-- what Euclid's rounds keep -/
def EuI (i B S : Int) : Prop := i = 0 ∨ (1 ≤ i ∧ S ≤ B ∧ pw2 (i - 1).toNat * (B * S) ≤ 1208925819614629174706176)
theorem EuI.step {i B S : Int} (h : EuI i B S) (hi : 0 ≤ i) (hB : 0 ≤ B) (hB2 : B ≤ 1099511627776) (hS : 0 < S) (hS2 : S ≤ 1099511627776) : EuI (i + 1) S (B % S) := by
  have m0 := Int.emod_nonneg B (show S ≠ 0 by omega)
  have m1 := Int.emod_lt_of_pos B hS
  refine Or.inr ⟨by omega, by omega, ?_⟩
  rw [show i + 1 - 1 = i by omega]
  rcases h with h | ⟨h1, h2, h3⟩
  · rw [h]
    have := mulB (x := S) (y := B % S) (A := 1099511627776) (C := 1099511627776) (by omega) (by omega) (by omega) (by omega) (by omega)
    show 1 * (S * (B % S)) ≤ _
    omega
  · rw [pw2_s h1]
    have e1 := euclid_half (P := B * S) hS h2 (Int.le_refl _)
    have e2 : pw2 (i - 1).toNat * (2 * (S * (B % S))) ≤ pw2 (i - 1).toNat * (B * S) := Int.mul_le_mul_of_nonneg_left e1 (by have := pw2_pos (i - 1).toNat; omega)
    have e3 : pw2 (i - 1).toNat * (2 * (S * (B % S))) = 2 * pw2 (i - 1).toNat * (S * (B % S)) := by rw [← Int.mul_assoc, Int.mul_comm _ 2]
    omega
theorem EuI.last {B S : Int} (h : EuI 100 B S) (hS : 0 ≤ S) : S = 0 := by
  rcases h with h | ⟨h1, h2, h3⟩
  · omega
  · rw [pw2_99] at h3
    by_cases q : S = 0
    · exact q
    · have := Int.mul_pos (show 0 < B by omega) (show 0 < S by omega)
      omega
theorem gcd_0 {B : Int} (h : 0 ≤ B) : ((Int.gcd B 0 : Nat) : Int) = B := by
  rw [Int.gcd_zero_right]
  omega
theorem gcd_abs (a b : Int) : Int.gcd (max a (-a)) (max b (-b)) = Int.gcd a b := by
  have h : ∀ x : Int, (max x (-x)).natAbs = x.natAbs := fun x => by omega
  unfold Int.gcd
  rw [h, h]
theorem gcd_z {a b : Int} (ha : 0 < a) (hb : 0 < b) : 1 ≤ (Int.gcd a b : Int) ∧ (Int.gcd a b : Int) ≤ a ∧ (Int.gcd a b : Int) ≤ b := by
  have h1 := Int.gcd_dvd_left (a := a) (b := b)
  have h2 := Int.gcd_dvd_right (a := a) (b := b)
  refine ⟨?_, Int.le_of_dvd ha h1, Int.le_of_dvd hb h2⟩
  have : 0 < Int.gcd a b := Int.gcd_pos_of_ne_zero_left _ (by omega)
  omega
