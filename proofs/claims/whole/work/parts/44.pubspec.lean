/-! two gears in mesh: what is laid is in range -/
theorem meshOk {a : Ast} (h : StateOk a) {g k f : Int} (g0 : 0 ≤ g) (g1 : g < a.1) (k0 : 0 ≤ k) (k1 : k < a.1) (f0 : 0 ≤ f) (f1 : f < 2) : MeshOk (gcG a g k) (fun r => cmx (ixS (a.2.2.1 g).1 ((a.2.2.1 g).2.2 f)) (gcG a g k) r (a.2.2.1 g).1.toNat) (fun r => cmn (ixS (a.2.2.1 g).1 ((a.2.2.1 g).2.2 f)) (gcG a g k) r (a.2.2.1 g).1.toNat) (fun r => cmx (ixS (a.2.2.1 k).1 ((a.2.2.1 k).2.2 f)) (gcG a g k) r (a.2.2.1 k).1.toNat) (fun r => cmn (ixS (a.2.2.1 k).1 ((a.2.2.1 k).2.2 f)) (gcG a g k) r (a.2.2.1 k).1.toNat) := by
  have hg := h.2.2.2.2.1 g g0 g1
  have hk := h.2.2.2.2.1 k k0 k1
  obtain ⟨a1, a2, -⟩ := id hg
  obtain ⟨b1, b2, -⟩ := id hk
  have hz := gcd_z (a := (a.2.2.1 g).1) (b := (a.2.2.1 k).1) (by omega) (by omega)
  have e : gcG a g k = (Int.gcd (a.2.2.1 g).1 (a.2.2.1 k).1 : Int) := rfl
  refine ⟨by omega, by omega, fun r _ _ => ⟨cmx_in (by omega) _ (fun i p q => hg.ix f0 f1 p (by omega)), cmn_in (by omega) _ (fun i p q => hg.ix f0 f1 p (by omega)), cmx_in (by omega) _ (fun i p q => hk.ix f0 f1 p (by omega)), cmn_in (by omega) _ (fun i p q => hk.ix f0 f1 p (by omega))⟩⟩
theorem gcG_in {a : Ast} (h : StateOk a) {g k : Int} (g0 : 0 ≤ g) (g1 : g < a.1) (k0 : 0 ≤ k) (k1 : k < a.1) : 1 ≤ gcG a g k ∧ gcG a g k ≤ (a.2.2.1 g).1 ∧ gcG a g k ≤ (a.2.2.1 k).1 := by
  have hg := h.2.2.2.2.1 g g0 g1
  have hk := h.2.2.2.2.1 k k0 k1
  exact gcd_z (by have := hg.1; omega) (by have := hk.1; omega)
theorem erG_in {a : Ast} (h : StateOk a) {g k f : Int} (g0 : 0 ≤ g) (g1 : g < a.1) (k0 : 0 ≤ k) (k1 : k < a.1) (f0 : 0 ≤ f) (f1 : f < 2) (ph : Int) : -80000 ≤ erG a g k f ph ∧ erG a g k f ph ≤ 80000 := erS_in (meshOk h g0 g1 k0 k1 f0 f1) ph
theorem ptF_in {a : Ast} (h : StateOk a) {g f : Int} (g0 : 0 ≤ g) (g1 : g < a.1) (f0 : 0 ≤ f) (f1 : f < 2) : ∀ n : Nat, (n : Int) ≤ a.1 → (-1 ≤ (ptF a g f n).1 ∧ (ptF a g f n).1 ≤ 6) ∧ -80000 ≤ (ptF a g f n).2 ∧ (ptF a g f n).2 ≤ 80000
  | 0, _ => by
    show (-1 ≤ (-1 : Int) ∧ (-1 : Int) ≤ 6) ∧ -80000 ≤ (0 : Int) ∧ (0 : Int) ≤ 80000
    omega
  | n + 1, hn => by
    have h1 := ptF_in h g0 g1 f0 f1 n (by omega)
    have h6 := h.2.1
    unfold ptF
    split
    · exact h1
    · split
      · exact ⟨by show (-1 : Int) ≤ (n : Int) ∧ (n : Int) ≤ 6; omega, erG_in h g0 g1 (by omega) (by omega) f0 f1 _⟩
      · exact h1
theorem rnF_in (a : Ast) (p : Int) : ∀ n : Nat, 0 ≤ rnF a p n ∧ rnF a p n ≤ n
  | 0 => ⟨Int.le_refl _, Int.le_refl _⟩
  | n + 1 => by
    have := rnF_in a p n
    unfold rnF
    split <;> omega
