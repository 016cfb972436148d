/-! the reading text: what each byte does -/
/-- between two bytes: the letter (0 between commands), how many numbers, the digits and the sign of the last, the numbers -/
abbrev Sq : Type := Int × Int × Int × Int × (Int → Int)
def q0 : Sq := (0, 0, 0, 0, fun _ => 0)
def stQ (q : Sq) : Sq := (q.1, q.2.1 + 1, 0, 0, upF q.2.2.2.2 q.2.1 0)
def dgQ (q : Sq) (c : Int) : Int := q.2.2.2.2 (q.2.1 - 1) * 10 + (if q.2.2.2.1 = 0 then c - 48 else -(c - 48))
def tkQ (q : Sq) (c : Int) : Sq := if q.1 = 0 then stQ (c, 0, 0, 0, fun _ => 0) else if c = 44 then stQ q else if c = 45 then (q.1, q.2.1, q.2.2.1, 1, q.2.2.2.2) else (q.1, q.2.1, q.2.2.1 + 1, q.2.2.2.1, upF q.2.2.2.2 (q.2.1 - 1) (dgQ q c))
/-- behind n bytes -/
def auS (b : Int → Int) : Nat → Sq
  | 0 => q0
  | n + 1 => if b n = 59 then q0 else tkQ (auS b n) (b n)
theorem auS_s (b : Int → Int) {i : Int} (h : 0 ≤ i) : auS b (i + 1).toNat = if b i = 59 then q0 else tkQ (auS b i.toNat) (b i) := by
  obtain ⟨n, rfl⟩ : ∃ n : Nat, i = n := ⟨i.toNat, by omega⟩
  rw [show ((n : Int) + 1).toNat = n + 1 by omega, show ((n : Int)).toNat = n by omega]
  rfl
def mxN (le : Int) : Int := if le = 103 then 2 else if le = 112 ∨ le = 104 then 12 else 160
def mnN (le : Int) : Int := if le = 103 then 2 else if le = 112 ∨ le = 104 then 3 else 1
def isLet (c : Int) : Prop := c = 103 ∨ c = 108 ∨ c = 114 ∨ c = 102 ∨ c = 112 ∨ c = 104
/-- whether the byte c can stand behind q -/
def posQ (q : Sq) (c : Int) : Prop := (q.1 = 0 ∧ isLet c) ∨ (¬ q.1 = 0 ∧ ((48 ≤ c ∧ c ≤ 57 ∧ q.2.2.1 < 4) ∨ (c = 45 ∧ q.2.2.1 = 0 ∧ q.2.2.2.1 = 0) ∨ (c = 44 ∧ 0 < q.2.2.1 ∧ q.2.1 < mxN q.1) ∨ (c = 59 ∧ 0 < q.2.2.1 ∧ mnN q.1 ≤ q.2.1)))
/-- the first n bytes can stand where they stand -/
def Okto (b : Int → Int) (n : Int) : Prop := ∀ i : Int, 0 ≤ i → i < n → posQ (auS b i.toNat) (b i)
/-- r tells the syntax error of the first len bytes: its place, or -1 -/
def SynE (b : Int → Int) (len r : Int) : Prop := (r = -1 ∧ Okto b len ∧ (auS b len.toNat).1 = 0) ∨ (0 ≤ r ∧ r < len ∧ Okto b r ∧ ¬ posQ (auS b r.toNat) (b r)) ∨ (r = len ∧ Okto b len ∧ ¬ (auS b len.toNat).1 = 0)
theorem SynE.unique {b : Int → Int} {len r r' : Int} (hl : 0 ≤ len) (h : SynE b len r) (h' : SynE b len r') : r = r' := by
  rcases h with ⟨a1, a2, a3⟩ | ⟨a1, a2, a3, a4⟩ | ⟨a1, a2, a3⟩ <;> rcases h' with ⟨c1, c2, c3⟩ | ⟨c1, c2, c3, c4⟩ | ⟨c1, c2, c3⟩
  · omega
  · exact absurd (a2 r' c1 c2) c4
  · exact absurd a3 c3
  · exact absurd (c2 r a1 a2) a4
  · rcases (show r < r' ∨ r = r' ∨ r' < r by omega) with q | q | q
    · exact absurd (c3 r a1 q) a4
    · exact q
    · exact absurd (a3 r' c1 q) c4
  · exact absurd (c2 r a1 a2) a4
  · exact absurd c3 a3
  · exact absurd (a2 r' c1 c2) c4
  · omega
/-- what holds of a place that is reached -/
def AuI (q : Sq) (j : Int) : Prop := q.1 = 0 ∨ (isLet q.1 ∧ 1 ≤ q.2.1 ∧ 2 * q.2.1 - 1 ≤ j ∧ (0 < q.2.2.1 → 2 * q.2.1 ≤ j) ∧ 0 ≤ q.2.2.1 ∧ q.2.2.1 ≤ 4 ∧ (q.2.2.2.1 = 0 ∨ q.2.2.2.1 = 1) ∧ q.2.1 ≤ mxN q.1 ∧ (∀ k : Int, 0 ≤ k → k < q.2.1 → -9999 ≤ q.2.2.2.2 k ∧ q.2.2.2.2 k ≤ 9999) ∧
  (q.2.2.1 = 0 → q.2.2.2.2 (q.2.1 - 1) = 0) ∧ (q.2.2.1 = 1 → -9 ≤ q.2.2.2.2 (q.2.1 - 1) ∧ q.2.2.2.2 (q.2.1 - 1) ≤ 9) ∧ (q.2.2.1 = 2 → -99 ≤ q.2.2.2.2 (q.2.1 - 1) ∧ q.2.2.2.2 (q.2.1 - 1) ≤ 99) ∧ (q.2.2.1 = 3 → -999 ≤ q.2.2.2.2 (q.2.1 - 1) ∧ q.2.2.2.2 (q.2.1 - 1) ≤ 999))
theorem mxN_in (le : Int) : 2 ≤ mxN le ∧ mxN le ≤ 160 := by
  unfold mxN
  split
  · omega
  · split <;> omega
theorem mnN_in (le : Int) : 1 ≤ mnN le ∧ mnN le ≤ 3 := by
  unfold mnN
  split
  · omega
  · split <;> omega
theorem AuI.step {q : Sq} {j c : Int} (h : AuI q j) (hp : posQ q c) (hj : 0 ≤ j) (hc : ¬ c = 59) : AuI (tkQ q c) (j + 1) ∧ ¬ (tkQ q c).1 = 0 := by
  obtain ⟨le, nu, di, ne, va⟩ := q
  have hm := mxN_in c
  rcases hp with ⟨h0, hl⟩ | ⟨h0, hp⟩
  · have h0' : le = 0 := h0
    have e : tkQ (le, nu, di, ne, va) c = stQ (c, 0, 0, 0, fun _ => 0) := by unfold tkQ; rw [if_pos h0]
    rw [e]
    have hc0 : ¬ c = 0 := by unfold isLet at hl; omega
    refine ⟨Or.inr ⟨hl, by show 1 ≤ (0 : Int) + 1; omega, by show 2 * ((0 : Int) + 1) - 1 ≤ j + 1; omega, fun q => absurd q (by show ¬ (0 : Int) < 0; omega), Int.le_refl _, by show (0 : Int) ≤ 4; omega, Or.inl rfl, by show (0 : Int) + 1 ≤ mxN c; omega, fun k a b => ?_, fun _ => ?_, fun q => absurd q (by show ¬ (0 : Int) = 1; omega), fun q => absurd q (by show ¬ (0 : Int) = 2; omega), fun q => absurd q (by show ¬ (0 : Int) = 3; omega)⟩, hc0⟩
    · have b' : k < (0 : Int) + 1 := b
      show -9999 ≤ upF (fun _ => 0) 0 0 k ∧ upF (fun _ => 0) 0 0 k ≤ 9999
      rw [show k = 0 by omega, upF_eq]
      omega
    · show upF (fun _ => 0) 0 0 ((0 : Int) + 1 - 1) = 0
      rw [show (0 : Int) + 1 - 1 = 0 by omega, upF_eq]
  · have h0' : ¬ le = 0 := h0
    rcases h with h | ⟨a1, a2, a3, a4, a5, a6, a7, a8, a9, a10, a11, a12, a13⟩
    · exact absurd h h0
    · simp only at a1 a2 a3 a4 a5 a6 a7 a8 a9 a10 a11 a12 a13 hp
      unfold tkQ
      rw [if_neg h0]
      by_cases w : c = 44
      · rw [if_pos w]
        have hp4 : 0 < di ∧ nu < mxN le := by
          rcases hp with p | p | p | p
          · omega
          · omega
          · exact p.2
          · omega
        refine ⟨Or.inr ⟨a1, by show 1 ≤ nu + 1; omega, by show 2 * (nu + 1) - 1 ≤ j + 1; have := a4 hp4.1; omega, fun q => absurd q (by show ¬ (0 : Int) < 0; omega), Int.le_refl _, by show (0 : Int) ≤ 4; omega, Or.inl rfl, by show nu + 1 ≤ mxN le; omega, fun k a b => ?_, fun _ => ?_, fun q => absurd q (by show ¬ (0 : Int) = 1; omega), fun q => absurd q (by show ¬ (0 : Int) = 2; omega), fun q => absurd q (by show ¬ (0 : Int) = 3; omega)⟩, h0⟩
        · have b' : k < nu + 1 := b
          show -9999 ≤ upF va nu 0 k ∧ upF va nu 0 k ≤ 9999
          by_cases z : k = nu
          · rw [z, upF_eq]; omega
          · rw [upF_ne z]; exact a9 k a (by omega)
        · show upF va nu 0 (nu + 1 - 1) = 0
          rw [show nu + 1 - 1 = nu by omega, upF_eq]
      · rw [if_neg w]
        by_cases w2 : c = 45
        · rw [if_pos w2]
          exact ⟨Or.inr ⟨a1, a2, by show 2 * nu - 1 ≤ j + 1; omega, fun q => by show 2 * nu ≤ j + 1; have := a4 q; omega, a5, a6, Or.inr rfl, a8, a9, a10, a11, a12, a13⟩, h0⟩
        · rw [if_neg w2]
          have hd : 48 ≤ c ∧ c ≤ 57 ∧ di < 4 := by
            rcases hp with p | p | p | p
            · exact p
            · omega
            · omega
            · omega
          have hv : ∀ L : Int, (-L ≤ va (nu - 1) ∧ va (nu - 1) ≤ L) → -(L * 10 + 9) ≤ dgQ (le, nu, di, ne, va) c ∧ dgQ (le, nu, di, ne, va) c ≤ L * 10 + 9 := fun L hL => by
            show -(L * 10 + 9) ≤ va (nu - 1) * 10 + (if ne = 0 then c - 48 else -(c - 48)) ∧ va (nu - 1) * 10 + (if ne = 0 then c - 48 else -(c - 48)) ≤ L * 10 + 9
            split <;> omega
          generalize dgQ (le, nu, di, ne, va) c = v at hv
          have hvb : -9999 ≤ v ∧ v ≤ 9999 := by
            rcases (show di = 0 ∨ di = 1 ∨ di = 2 ∨ di = 3 by omega) with z | z | z | z
            · have := hv 0 (by have := a10 z; omega); omega
            · have := hv 9 (a11 z); omega
            · have := hv 99 (a12 z); omega
            · have := hv 999 (a13 z); omega
          refine ⟨Or.inr ⟨a1, a2, by show 2 * nu - 1 ≤ j + 1; omega, fun _ => by show 2 * nu ≤ j + 1; omega, by show 0 ≤ di + 1; omega, by show di + 1 ≤ 4; omega, a7, a8, fun k a b => ?_, fun z => ?_, fun z => ?_, fun z => ?_, fun z => ?_⟩, h0⟩
          · show -9999 ≤ upF va (nu - 1) v k ∧ upF va (nu - 1) v k ≤ 9999
            by_cases z : k = nu - 1
            · rw [z, upF_eq]; exact hvb
            · rw [upF_ne z]; exact a9 k a b
          · have z' : di + 1 = 0 := z
            omega
          · have z' : di + 1 = 1 := z
            show -9 ≤ upF va (nu - 1) v (nu - 1) ∧ upF va (nu - 1) v (nu - 1) ≤ 9
            rw [upF_eq]
            have := hv 0 (by have := a10 (by omega); omega); omega
          · have z' : di + 1 = 2 := z
            show -99 ≤ upF va (nu - 1) v (nu - 1) ∧ upF va (nu - 1) v (nu - 1) ≤ 99
            rw [upF_eq]
            have := hv 9 (a11 (by omega)); omega
          · have z' : di + 1 = 3 := z
            show -999 ≤ upF va (nu - 1) v (nu - 1) ∧ upF va (nu - 1) v (nu - 1) ≤ 999
            rw [upF_eq]
            have := hv 99 (a12 (by omega)); omega
theorem auS_in {b : Int → Int} : ∀ (n : Nat), Okto b n → AuI (auS b n) n
  | 0, _ => Or.inl rfl
  | n + 1, h => by
    have h1 := auS_in n (fun i a c => h i a (by omega))
    have h2 := h n (by omega) (by omega)
    rw [show ((n : Int)).toNat = n by omega] at h2
    show AuI (if b n = 59 then q0 else tkQ (auS b n) (b n)) ((n + 1 : Nat) : Int)
    split
    · exact Or.inl rfl
    · rename_i w
      exact (h1.step h2 (by omega) w).1
/-- the text, as the class keeps it -/
def IsText (G : Gs) (a : Nat) : Prop := At G a 4 0 ∧ At G (a + 1) 7 160 ∧ At G (a + 2) 7 160
def TxB (M : Mem) (a : Nat) (len : Int) (b : Int → Int) : Prop := gI M a 1 = len ∧ ∀ i : Int, 0 ≤ i → i < len → gI M (a + 1) i = b i
def TxS (M : Mem) (a : Nat) (q : Sq) : Prop := gI M a 2 = q.1 ∧ (¬ q.1 = 0 → gI M a 3 = q.2.1 ∧ gI M a 5 = q.2.2.1 ∧ gI M a 6 = q.2.2.2.1 ∧ ∀ k : Int, 0 ≤ k → k < q.2.1 → gI M (a + 2) k = q.2.2.2.2 k)
def TxOk (len : Int) (b : Int → Int) : Prop := 0 ≤ len ∧ len ≤ 160 ∧ ∀ i : Int, 0 ≤ i → i < len → 0 ≤ b i ∧ b i ≤ 127
/-- only the scanner's own: letter, numbers, digits, sign, the numbers themselves -/
def Scan (M M' : Mem) (a : Nat) : Prop := (∀ c : Nat, c ≠ a → c ≠ a + 2 → Same M M' c) ∧ gI M' a 1 = gI M a 1
theorem Scan.rf {M : Mem} {a : Nat} : Scan M M a := ⟨fun c _ _ => Same.rf M c, rfl⟩
theorem Scan.tr {M1 M2 M3 : Mem} {a : Nat} (h : Scan M1 M2 a) (k : Scan M2 M3 a) : Scan M1 M3 a := ⟨fun c p q => (h.1 c p q).tr (k.1 c p q), k.2.trans h.2⟩
theorem Scan.f {M : Mem} {a : Nat} {k v : Int} (h : k ≠ 1) : Scan M (sI M a k v) a := ⟨fun c p _ => Same.sI p, gI_nk (fun q => h q.symm)⟩
theorem Scan.v {M : Mem} {a : Nat} {k v : Int} : Scan M (sI M (a + 2) k v) a := ⟨fun c _ q => Same.sI q, gI_ne (by omega)⟩
theorem Scan.only {M M' : Mem} {a : Nat} (h : Scan M M' a) : Only M M' a (a + 3) := fun c hc => h.1 c (by omega) (by omega)
theorem TxB.scan {M M' : Mem} {a : Nat} {len : Int} {b : Int → Int} (h : TxB M a len b) (k : Scan M M' a) : TxB M' a len b := ⟨k.2.trans h.1, fun i p q => by rw [(k.1 (a + 1) (by omega) (by omega)).1]; exact h.2 i p q⟩
