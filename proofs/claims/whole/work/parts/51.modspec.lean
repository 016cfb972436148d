/-! the reference, as it is kept: a row of 722 numbers -/
def IsMd (G : Gs) (m : Nat) : Prop := At G m 6 0 ∧ At G (m + 1) 7 722 ∧ At G (m + 2) 7 2888 ∧ At G (m + 3) 7 722 ∧ At G (m + 4) 7 160 ∧ At G (m + 5) 7 30 ∧ At G (m + 6) 7 30 ∧ At G (m + 7) 7 80
/-- the row f of numbers stands for s -/
def RowS (f : Int → Int) (s : Ast) : Prop := f 0 = s.1 ∧ f 571 = s.2.1 ∧ (∀ g : Int, 0 ≤ g → g < s.1 → f (1 + 95 * g) = (s.2.2.1 g).1 ∧ f (1 + 95 * g + 1) = (s.2.2.1 g).2.1 ∧ ∀ t k : Int, 0 ≤ t → t < 3 → 0 ≤ k → k < szS (s.2.2.1 g).1 t → f (1 + 95 * g + 2 + 31 * t + k) = (s.2.2.1 g).2.2 t k) ∧
  ∀ l : Int, 0 ≤ l → l < s.2.1 → f (572 + 15 * l + 0) = (s.2.2.2 l).1 ∧ f (572 + 15 * l + 1) = (s.2.2.2 l).2.1 ∧ f (572 + 15 * l + 2) = (s.2.2.2 l).2.2.1 ∧ ∀ k : Int, 0 ≤ k → k < (s.2.2.2 l).2.2.1 → f (572 + 15 * l + (3 + k)) = (s.2.2.2 l).2.2.2 k
abbrev MdS (M : Mem) (m : Nat) (s : Ast) : Prop := RowS (gI M (m + 1)) s
/-- equal rows stand for the same -/
theorem RowS.congr {f g : Int → Int} {s : Ast} (h : RowS f s) (hok : StateOk s) (e : ∀ k : Int, 0 ≤ k → k < 722 → g k = f k) : RowS g s := by
  obtain ⟨a1, a2, a3, a4⟩ := h
  obtain ⟨b1, b2, b3, b4, b5, b6⟩ := hok
  refine ⟨by rw [e 0 (by omega) (by omega)]; exact a1, by rw [e 571 (by omega) (by omega)]; exact a2, fun i p q => ?_, fun i p q => ?_⟩
  · have c := a3 i p q
    have d := b5 i p q
    have d1 := d.1
    have d2 := d.2.1
    refine ⟨by rw [e _ (by omega) (by omega)]; exact c.1, by rw [e _ (by omega) (by omega)]; exact c.2.1, fun t k t0 t1 k0 k1 => ?_⟩
    have hz := szS_le (s.2.2.1 i).1 t
    rw [e _ (by omega) (by omega)]
    exact c.2.2 t k t0 t1 k0 k1
  · have c := a4 i p q
    have d := (b6 i p q).1
    have d1 := d.2.1
    refine ⟨by rw [e _ (by omega) (by omega)]; exact c.1, by rw [e _ (by omega) (by omega)]; exact c.2.1, by rw [e _ (by omega) (by omega)]; exact c.2.2.1, fun k k0 k1 => ?_⟩
    rw [e _ (by omega) (by omega)]
    exact c.2.2.2 k k0 k1
/-- only the reference's long fields are changed, the digest not -/
def FL (M M' : Mem) (m : Nat) : Prop := (gI M' = gI M ∧ ∀ k : Int, 11 ≤ k → gL M' m k = gL M m k) ∧ ∀ c : Nat, c ≠ m → Same M M' c
theorem FL.rf {M : Mem} {m : Nat} : FL M M m := ⟨⟨rfl, fun k _ => rfl⟩, fun c _ => Same.rf M c⟩
theorem FL.tr {M1 M2 M3 : Mem} {m : Nat} (h : FL M1 M2 m) (k : FL M2 M3 m) : FL M1 M3 m := ⟨⟨k.1.1.trans h.1.1, fun q p => (k.1.2 q p).trans (h.1.2 q p)⟩, fun c p => (h.2 c p).tr (k.2 c p)⟩
theorem FL.mds {M M' : Mem} {m : Nat} {s : Ast} (h : FL M M' m) (k : MdS M m s) : MdS M' m s := by
  unfold MdS
  rw [h.1.1]
  exact k
theorem FL.sL {M : Mem} {m : Nat} {k v : Int} (h : k < 11 := by omega) : FL M (sL M m k v) m := ⟨⟨gI_sL M m k v, fun q p => gL_nk (by omega)⟩, fun c p => Same.sL p⟩
/-- .. the digest too -/
def FD (M M' : Mem) (m : Nat) : Prop := gI M' = gI M ∧ ∀ c : Nat, c ≠ m → Same M M' c
theorem FD.rf {M : Mem} {m : Nat} : FD M M m := ⟨rfl, fun c _ => Same.rf M c⟩
theorem FD.tr {M1 M2 M3 : Mem} {m : Nat} (h : FD M1 M2 m) (k : FD M2 M3 m) : FD M1 M3 m := ⟨k.1.trans h.1, fun c p => (h.2 c p).tr (k.2 c p)⟩
theorem FL.fd {M M' : Mem} {m : Nat} (h : FL M M' m) : FD M M' m := ⟨h.1.1, h.2⟩
theorem FD.mds {M M' : Mem} {m : Nat} {s : Ast} (h : FD M M' m) (k : MdS M m s) : MdS M' m s := by
  unfold MdS
  rw [h.1]
  exact k
def inF (v lo hi : Int) : Int := if lo ≤ v ∧ v ≤ hi then 1 else 0
theorem inF_in (v lo hi : Int) : 0 ≤ inF v lo hi ∧ inF v lo hi ≤ 1 := by
  unfold inF
  split <;> omega
theorem inF_1 {v lo hi : Int} (h : ¬ inF v lo hi = 0) : lo ≤ v ∧ v ≤ hi := Decidable.byContradiction (fun q => h (by unfold inF; rw [if_neg q]))
theorem inF_0 {v lo hi : Int} (h : inF v lo hi = 0) : ¬ (lo ≤ v ∧ v ≤ hi) := fun q => by
  unfold inF at h
  rw [if_pos q] at h
  omega
def szF (t m : Int) : Int := if isG t m then 1 else 0
def bF (P : Prop) [Decidable P] : Int := if P then 1 else 0
theorem bF_in (P : Prop) [Decidable P] : 0 ≤ bF P ∧ bF P ≤ 1 := by
  unfold bF
  split <;> omega
theorem bF_1 {P : Prop} [Decidable P] (h : ¬ bF P = 0) : P := Decidable.byContradiction (fun q => h (by unfold bF; rw [if_neg q]))
theorem bF_0 {P : Prop} [Decidable P] (h : bF P = 0) : ¬ P := fun q => by
  unfold bF at h
  rw [if_pos q] at h
  omega
theorem rnd_mul {c z : Int} (h : 0 < z) : rnd (c * z) z = c := by
  unfold rnd
  have e : 2 * (c * z) + z = z + c * (2 * z) := by grind
  rw [e, Int.add_mul_ediv_right _ _ (by omega : 2 * z ≠ 0), Int.ediv_eq_zero_of_lt (by omega) (by omega)]
  omega
theorem ixS_z {z : Int} {r : Int → Int} (h : 0 < z) : ixS z r z = 0 := by
  unfold ixS
  rw [rnd_mul h]
  omega
theorem arS_mod {z t : Int} (h0 : 0 ≤ t) (h1 : t < 2 * z) : t % z = arS z t := by
  unfold arS
  split
  · exact Int.emod_eq_of_lt h0 (by omega)
  · rw [← Int.sub_emod_right, Int.emod_eq_of_lt (by omega) (by omega)]
theorem absI_sub (x y : Int) : absI (x - y) = absI (y - x) := by
  show max _ _ = max _ _
  omega
