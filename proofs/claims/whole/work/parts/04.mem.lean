/-! the cells that the law makes, laid out behind N: what each is, what each holds -/
abbrev Mem : Type := (Nat → Int → Int) × (Nat → Int → Int) × (Nat → Int → UInt64) × (Nat → Int → Nat)
def gI (M : Mem) (a : Nat) (k : Int) : Int := M.1 a k
def gL (M : Mem) (a : Nat) (k : Int) : Int := M.2.1 a k
def gD (M : Mem) (a : Nat) (k : Int) : UInt64 := M.2.2.1 a k
def gP (M : Mem) (a : Nat) (k : Int) : Nat := M.2.2.2 a k
def up2 {α : Type} (f : Nat → Int → α) (a : Nat) (k : Int) (v : α) : Nat → Int → α := fun b j => if b = a ∧ j = k then v else f b j
def sI (M : Mem) (a : Nat) (k : Int) (v : Int) : Mem := (up2 M.1 a k v, M.2)
def sL (M : Mem) (a : Nat) (k : Int) (v : Int) : Mem := (M.1, up2 M.2.1 a k v, M.2.2)
def sD (M : Mem) (a : Nat) (k : Int) (v : UInt64) : Mem := (M.1, M.2.1, up2 M.2.2.1 a k v, M.2.2.2)
def sP (M : Mem) (a : Nat) (k : Int) (v : Nat) : Mem := (M.1, M.2.1, M.2.2.1, up2 M.2.2.2 a k v)
theorem gI_sI (M : Mem) (a : Nat) (k v : Int) (b : Nat) (j : Int) : gI (sI M a k v) b j = if b = a ∧ j = k then v else gI M b j := rfl
theorem gI_sL (M : Mem) (a : Nat) (k v : Int) : gI (sL M a k v) = gI M := rfl
theorem gI_sD (M : Mem) (a : Nat) (k : Int) (v : UInt64) : gI (sD M a k v) = gI M := rfl
theorem gI_sP (M : Mem) (a : Nat) (k : Int) (v : Nat) : gI (sP M a k v) = gI M := rfl
theorem gL_sI (M : Mem) (a : Nat) (k v : Int) : gL (sI M a k v) = gL M := rfl
theorem gL_sL (M : Mem) (a : Nat) (k v : Int) (b : Nat) (j : Int) : gL (sL M a k v) b j = if b = a ∧ j = k then v else gL M b j := rfl
theorem gL_sD (M : Mem) (a : Nat) (k : Int) (v : UInt64) : gL (sD M a k v) = gL M := rfl
theorem gL_sP (M : Mem) (a : Nat) (k : Int) (v : Nat) : gL (sP M a k v) = gL M := rfl
theorem gD_sI (M : Mem) (a : Nat) (k v : Int) : gD (sI M a k v) = gD M := rfl
theorem gD_sL (M : Mem) (a : Nat) (k v : Int) : gD (sL M a k v) = gD M := rfl
theorem gD_sD (M : Mem) (a : Nat) (k : Int) (v : UInt64) (b : Nat) (j : Int) : gD (sD M a k v) b j = if b = a ∧ j = k then v else gD M b j := rfl
theorem gD_sP (M : Mem) (a : Nat) (k : Int) (v : Nat) : gD (sP M a k v) = gD M := rfl
theorem gP_sI (M : Mem) (a : Nat) (k v : Int) : gP (sI M a k v) = gP M := rfl
theorem gP_sL (M : Mem) (a : Nat) (k v : Int) : gP (sL M a k v) = gP M := rfl
theorem gP_sD (M : Mem) (a : Nat) (k : Int) (v : UInt64) : gP (sD M a k v) = gP M := rfl
theorem gP_sP (M : Mem) (a : Nat) (k : Int) (v : Nat) (b : Nat) (j : Int) : gP (sP M a k v) b j = if b = a ∧ j = k then v else gP M b j := rfl
/-- what M and M' hold at b is the same -/
def Same (M M' : Mem) (b : Nat) : Prop := gI M' b = gI M b ∧ gL M' b = gL M b ∧ gD M' b = gD M b ∧ gP M' b = gP M b
theorem Same.rf (M : Mem) (b : Nat) : Same M M b := ⟨rfl, rfl, rfl, rfl⟩
theorem Same.tr {M1 M2 M3 : Mem} {b : Nat} (h : Same M1 M2 b) (k : Same M2 M3 b) : Same M1 M3 b := ⟨k.1.trans h.1, k.2.1.trans h.2.1, k.2.2.1.trans h.2.2.1, k.2.2.2.trans h.2.2.2⟩
theorem up2_ne {α : Type} {f : Nat → Int → α} {a b : Nat} {k : Int} {v : α} (h : b ≠ a) : up2 f a k v b = f b := by
  funext j
  unfold up2
  rw [if_neg (fun q => h q.1)]
theorem Same.sI {M : Mem} {a b : Nat} {k v : Int} (h : b ≠ a) : Same M (sI M a k v) b := ⟨up2_ne h, rfl, rfl, rfl⟩
theorem Same.sL {M : Mem} {a b : Nat} {k v : Int} (h : b ≠ a) : Same M (sL M a k v) b := ⟨rfl, up2_ne h, rfl, rfl⟩
theorem Same.sD {M : Mem} {a b : Nat} {k : Int} {v : UInt64} (h : b ≠ a) : Same M (sD M a k v) b := ⟨rfl, rfl, up2_ne h, rfl⟩
theorem Same.sP {M : Mem} {a b : Nat} {k : Int} {v : Nat} (h : b ≠ a) : Same M (sP M a k v) b := ⟨rfl, rfl, rfl, up2_ne h⟩
/-- the fields of an object of class ci at a -/
def flds (ci a : Nat) (M : Mem) : List Value := match ci with
  | 0 => [.int (iI (gI M a 0)), .int (iI (gI M a 1)), .ref (a + 1)]
  | 1 => [.int (iI (gI M a 0)), .int (iI (gI M a 1)), .int (iI (gI M a 2)), .long (lI (gL M a 3)), .long (lI (gL M a 4)), .long (lI (gL M a 5)), .long (lI (gL M a 6)), .ref (a + 1)]
  | 2 => [.int (iI (gI M a 0)), .ref (a + 1), .ref (a + 2), .ref (a + 3), .ref (a + 4)]
  | 3 => [.int (iI (gI M a 0)), .int (iI (gI M a 1)), .ref (a + 1), .ref (a + 2)]
  | 4 => [.ref (a + 1), .int (iI (gI M a 1)), .int (iI (gI M a 2)), .int (iI (gI M a 3)), .ref (a + 2), .int (iI (gI M a 5)), .int (iI (gI M a 6)), .int (iI (gI M a 7))]
  | 5 => [.ref (a + 1), .ref (a + 54), .ref (a + 107), .int (iI (gI M a 3)), .ref (a + 320), .ref (a + 323), .ref (a + 328), .ref (a + 333), .ref (a + 334)]
  | _ => [.ref (a + 1), .ref (a + 2), .ref (a + 3), .int (iI (gI M a 3)), .ref (a + 4), .int (iI (gI M a 5)), .int (iI (gI M a 6)), .long (lI (gL M a 7)), .long (lI (gL M a 8)), .long (lI (gL M a 9)), .long (lI (gL M a 10)), .ref (a + 5), .ref (a + 6), .int (iI (gI M a 13)), .int (iI (gI M a 14)), .ref (a + 7), .int (iI (gI M a 16)), .long (lI (gL M a 17))]
/-- the classes of the arrays: int[], Gear[], Line[], State[], int[][], long[], double[] -/
def tysE (E : Nat → ClassId) : List (ClassId × FieldType) := [(E 0, .int), (E 1, .object RX0), (E 2, .object RX1), (E 3, .object RX3), (E 4, .array .int), (E 5, .long), (E 6, .double)]
/-- a cell's kind: 0 to 6 an object of that class; 7 int[], 8 Gear[], 9 Line[], 10 State[], 11 int[][], 12 long[], 13 double[], of a length -/
def ent (E : Nat → ClassId) (M : Mem) (a : Nat) (q : Nat × Nat) : va_E := match q.1 with
  | 7 => .inl (E 0, q.2, .inl (fun j => iI (gI M a j)))
  | 8 => .inl (E 1, q.2, .inr (.inr (.inr (.inr (fun j => some (gP M a j))))))
  | 9 => .inl (E 2, q.2, .inr (.inr (.inr (.inr (fun j => some (gP M a j))))))
  | 10 => .inl (E 3, q.2, .inr (.inr (.inr (.inr (fun j => some (gP M a j))))))
  | 11 => .inl (E 4, q.2, .inr (.inr (.inr (.inr (fun j => some (a + 1 + j))))))
  | 12 => .inl (E 5, q.2, .inr (.inl (fun j => lI (gL M a j))))
  | 13 => .inl (E 6, q.2, .inr (.inr (.inr (.inl (fun j => gD M a j)))))
  | c => .inr (c, flds c a M)
theorem flds_congr {ci a : Nat} {M M' : Mem} (h : Same M M' a) : flds ci a M' = flds ci a M := by
  obtain ⟨h1, h2, h3, h4⟩ := h
  unfold flds
  rw [h1, h2]
theorem ent_congr {E : Nat → ClassId} {a : Nat} {q : Nat × Nat} {M M' : Mem} (h : Same M M' a) : ent E M' a q = ent E M a q := by
  obtain ⟨h1, h2, h3, h4⟩ := h
  unfold ent
  rw [h1, h2, h3, h4]
  simp only [flds_congr ⟨h1, h2, h3, h4⟩]
def shS : List (Nat × Nat) := [(3, 0), (8, 6), (9, 10), (0, 0), (11, 3), (7, 31), (7, 31), (7, 31), (0, 0), (11, 3), (7, 31), (7, 31), (7, 31), (0, 0), (11, 3), (7, 31), (7, 31), (7, 31), (0, 0), (11, 3), (7, 31), (7, 31), (7, 31), (0, 0), (11, 3), (7, 31), (7, 31), (7, 31), (0, 0), (11, 3), (7, 31), (7, 31), (7, 31), (1, 0), (7, 12), (1, 0), (7, 12), (1, 0), (7, 12), (1, 0), (7, 12), (1, 0), (7, 12), (1, 0), (7, 12), (1, 0), (7, 12), (1, 0), (7, 12), (1, 0), (7, 12), (1, 0), (7, 12)]
def shT : List (Nat × Nat) := [(5, 0)] ++ shS ++ shS ++ [(10, 4)] ++ shS ++ shS ++ shS ++ shS ++ [(4, 0), (7, 160), (7, 160), (2, 0), (7, 30), (7, 30), (7, 30), (7, 30), (0, 0), (11, 3), (7, 31), (7, 31), (7, 31), (7, 6), (7, 6), (6, 0), (7, 722), (7, 2888), (7, 722), (7, 160), (7, 30), (7, 30), (7, 80), (12, 1), (13, 1)]
theorem shT_len : shT.length = 345 := by decide +kernel
/-- the whole: N, the classes' and the arrays' numbers -/
abbrev Gs : Type := Nat × va_G × (Nat → ClassId)
/-- the cell a is of the kind c, its length n -/
def At (G : Gs) (a c n : Nat) : Prop := ∃ d : Nat, a = G.1 + d ∧ shT[d]? = some (c, n)
def WW (G : Gs) (M : Mem) : va_W := shT.mapIdx (fun d q => (G.1 + d, ent G.2.2 M (G.1 + d) q))
theorem WW_at {G : Gs} {M : Mem} {d : Nat} {q : Nat × Nat} (h : shT[d]? = some q) : (WW G M)[d]? = some (G.1 + d, ent G.2.2 M (G.1 + d) q) := by
  unfold WW
  rw [List.getElem?_mapIdx, h]
  rfl
theorem WW_get {G : Gs} {M : Mem} {a c n : Nat} (h : At G a c n) : (WW G M)[a - G.1]? = some (a, ent G.2.2 M a (c, n)) := by
  obtain ⟨d, rfl, h⟩ := h
  rw [Nat.add_sub_cancel_left]
  exact WW_at h
theorem WW_set {G : Gs} {M M' : Mem} {a c n : Nat} {e : va_E} (h : At G a c n) (he : e = ent G.2.2 M' a (c, n)) (hs : ∀ b, b ≠ a → Same M M' b) : (WW G M).set (a - G.1) (a, e) = WW G M' := by
  obtain ⟨d, rfl, h⟩ := h
  subst he
  rw [Nat.add_sub_cancel_left]
  apply List.ext_getElem?
  intro i
  rw [List.getElem?_set]
  by_cases hi : d = i
  · subst hi
    have hl : d < (WW G M).length := by
      have h2 := WW_at (G := G) (M := M) h
      exact (List.getElem?_eq_some_iff.mp h2).1
    rw [if_pos rfl, if_pos hl, WW_at h]
  · rw [if_neg hi]
    cases hq : shT[i]? with
    | none =>
      unfold WW
      rw [List.getElem?_mapIdx, List.getElem?_mapIdx, hq]
      rfl
    | some q =>
      rw [WW_at hq, WW_at hq, ent_congr (hs (G.1 + i) (by omega))]
theorem WW_in {G : Gs} {M : Mem} {k : Nat} {q : Nat × va_E} (h : (WW G M)[k]? = some q) : q.1 = G.1 + k := by
  unfold WW at h
  rw [List.getElem?_mapIdx] at h
  cases hq : shT[k]? with
  | none => rw [hq] at h; cases h
  | some z => rw [hq] at h; cases h; rfl
/-- what the law's methods may change: all that lies behind N -/
abbrev Fr (G : Gs) : Nat → Prop := fun q => G.1 ≤ q
theorem WW_D {G : Gs} {M : Mem} : va_D (Fr G) (WW G M) := by
  refine ⟨fun i j p q h1 h2 h3 => ?_, fun k q h => ?_⟩
  · have e1 := WW_in h1
    have e2 := WW_in h2
    omega
  · have e1 := WW_in h
    show G.1 ≤ q.1
    omega
theorem va_P_ext {G : Gs} {M M' : Mem} {H : Heap} (h : va_P G.2.1 vwCl (WW G M) H) (hs : ∀ b, Same M M' b) : va_P G.2.1 vwCl (WW G M') H := by
  have h2 : WW G M' = WW G M := by
    unfold WW
    apply List.ext_getElem?
    intro i
    rw [List.getElem?_mapIdx, List.getElem?_mapIdx]
    cases shT[i]? with
    | none => rfl
    | some q => simp only [Option.map_some, ent_congr (hs _)]
  rw [h2]
  exact h
theorem At.inj {G : Gs} {a c n c' n' : Nat} (h : At G a c n) (h' : At G a c' n') : c = c' ∧ n = n' := by
  obtain ⟨d, h1, h2⟩ := h
  obtain ⟨d', h3, h4⟩ := h'
  have : d = d' := by omega
  subst this
  rw [h2] at h4
  cases h4
  exact ⟨rfl, rfl⟩
