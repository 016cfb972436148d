/-! what undo brings back, as the class keeps it and as numbers -/
abbrev Gr : Type := Int × Int × (Int → Int → Int)
abbrev Ln : Type := Int × Int × Int × (Int → Int)
/-- the numbers of gears and lines, the gears, the lines -/
abbrev Ast : Type := Int × Int × (Int → Gr) × (Int → Ln)
abbrev GrIs (M : Mem) (a : Nat) (q : Gr) : Prop := GearIs M a q.1 q.2.1 q.2.2
abbrev GrOk (q : Gr) : Prop := GearOk q.1 q.2.1 q.2.2
abbrev LnIs (M : Mem) (a : Nat) (q : Ln) : Prop := LineIs M a q.1 q.2.1 q.2.2.1 q.2.2.2
abbrev LnOk (q : Ln) : Prop := LineOk q.2.2.1 q.2.2.2
def IsState (G : Gs) (S : Nat) : Prop := At G S 3 0 ∧ At G (S + 1) 8 6 ∧ At G (S + 2) 9 10 ∧ (∀ j : Nat, j < 6 → IsGear G (S + 3 + 5 * j)) ∧ ∀ j : Nat, j < 10 → IsLine G (S + 33 + 2 * j)
/-- the row at b holds n pooled things, each once, laid from o on, d apart -/
def RowP (M : Mem) (b o d n : Nat) : Prop := (∀ i : Int, 0 ≤ i → i < n → ∃ j : Nat, j < n ∧ gP M b i = o + d * j) ∧ ∀ i i' : Int, 0 ≤ i → i < n → 0 ≤ i' → i' < n → gP M b i = gP M b i' → i = i'
abbrev RowG (M : Mem) (S : Nat) : Prop := RowP M (S + 1) (S + 3) 5 6
abbrev RowL (M : Mem) (S : Nat) : Prop := RowP M (S + 2) (S + 33) 2 10
theorem RowP.kept {M M' : Mem} {b o d n : Nat} (h : RowP M b o d n) (e : gP M' b = gP M b) : RowP M' b o d n := by
  unfold RowP
  rw [e]
  exact h
theorem RowP.perm {M M' : Mem} {b o d n : Nat} (h : RowP M b o d n) (f : Int → Int) (hf : ∀ k : Int, 0 ≤ k → k < n → 0 ≤ f k ∧ f k < n ∧ gP M' b k = gP M b (f k)) (hi : ∀ i i' : Int, 0 ≤ i → i < n → 0 ≤ i' → i' < n → f i = f i' → i = i') : RowP M' b o d n := by
  refine ⟨fun i a c => ?_, fun i i' a c a' c' e => ?_⟩
  · obtain ⟨q1, q2, q3⟩ := hf i a c
    rw [q3]
    exact h.1 _ q1 q2
  · obtain ⟨q1, q2, q3⟩ := hf i a c
    obtain ⟨p1, p2, p3⟩ := hf i' a' c'
    rw [q3, p3] at e
    exact hi i i' a c a' c' (h.2 _ _ q1 q2 p1 p2 e)
theorem RowG.gear {G : Gs} {M : Mem} {S : Nat} (hS : IsState G S) (h : RowG M S) {i : Int} (h0 : 0 ≤ i) (h1 : i < 6) : IsGear G (gP M (S + 1) i) := by
  obtain ⟨j, hj, e⟩ := h.1 i h0 h1
  rw [e]
  exact hS.2.2.2.1 j hj
theorem RowL.line {G : Gs} {M : Mem} {S : Nat} (hS : IsState G S) (h : RowL M S) {i : Int} (h0 : 0 ≤ i) (h1 : i < 10) : IsLine G (gP M (S + 2) i) := by
  obtain ⟨j, hj, e⟩ := h.1 i h0 h1
  rw [e]
  exact hS.2.2.2.2 j hj
theorem RowG.in {M : Mem} {S : Nat} (h : RowG M S) {i : Int} (h0 : 0 ≤ i) (h1 : i < 6) : S + 3 ≤ gP M (S + 1) i ∧ gP M (S + 1) i + 5 ≤ S + 33 := by
  obtain ⟨j, hj, e⟩ := h.1 i h0 h1
  rw [e]
  omega
theorem RowL.in {M : Mem} {S : Nat} (h : RowL M S) {i : Int} (h0 : 0 ≤ i) (h1 : i < 10) : S + 33 ≤ gP M (S + 2) i ∧ gP M (S + 2) i + 2 ≤ S + 53 := by
  obtain ⟨j, hj, e⟩ := h.1 i h0 h1
  rw [e]
  omega
theorem RowG.apart {M : Mem} {S : Nat} (h : RowG M S) {i i' : Int} (h0 : 0 ≤ i) (h1 : i < 6) (h2 : 0 ≤ i') (h3 : i' < 6) (hn : i ≠ i') : gP M (S + 1) i + 5 ≤ gP M (S + 1) i' ∨ gP M (S + 1) i' + 5 ≤ gP M (S + 1) i := by
  obtain ⟨j, hj, e⟩ := h.1 i h0 h1
  obtain ⟨j', hj', e'⟩ := h.1 i' h2 h3
  have : j ≠ j' := fun q => hn (h.2 i i' h0 h1 h2 h3 (by rw [e, e', q]))
  rw [e, e']
  omega
theorem RowL.apart {M : Mem} {S : Nat} (h : RowL M S) {i i' : Int} (h0 : 0 ≤ i) (h1 : i < 10) (h2 : 0 ≤ i') (h3 : i' < 10) (hn : i ≠ i') : gP M (S + 2) i + 2 ≤ gP M (S + 2) i' ∨ gP M (S + 2) i' + 2 ≤ gP M (S + 2) i := by
  obtain ⟨j, hj, e⟩ := h.1 i h0 h1
  obtain ⟨j', hj', e'⟩ := h.1 i' h2 h3
  have : j ≠ j' := fun q => hn (h.2 i i' h0 h1 h2 h3 (by rw [e, e', q]))
  rw [e, e']
  omega
def StateIs (M : Mem) (S : Nat) (s : Ast) : Prop := gI M S 0 = s.1 ∧ gI M S 1 = s.2.1 ∧ RowG M S ∧ RowL M S ∧ (∀ k : Int, 0 ≤ k → k < s.1 → GrIs M (gP M (S + 1) k) (s.2.2.1 k)) ∧ ∀ k : Int, 0 ≤ k → k < s.2.1 → LnIs M (gP M (S + 2) k) (s.2.2.2 k)
def StateOk (s : Ast) : Prop := 0 ≤ s.1 ∧ s.1 ≤ 6 ∧ 0 ≤ s.2.1 ∧ s.2.1 ≤ 10 ∧ (∀ k : Int, 0 ≤ k → k < s.1 → GrOk (s.2.2.1 k)) ∧ ∀ k : Int, 0 ≤ k → k < s.2.1 → LnOk (s.2.2.2 k) ∧ 0 ≤ (s.2.2.2 k).1 ∧ (s.2.2.2 k).1 < s.1 ∧ 0 ≤ (s.2.2.2 k).2.1 ∧ (s.2.2.2 k).2.1 ≤ 1
theorem StateIs.kept {M M' : Mem} {S : Nat} {s : Ast} (h : StateIs M S s) (hok : StateOk s) (hs : ∀ c, S ≤ c → c < S + 53 → Same M M' c) : StateIs M' S s := by
  obtain ⟨h1, h2, h3, h4, h5, h6⟩ := h
  have e0 := hs S (by omega) (by omega)
  have e1 := (hs (S + 1) (by omega) (by omega)).2.2.2
  have e2 := (hs (S + 2) (by omega) (by omega)).2.2.2
  refine ⟨by rw [e0.1]; exact h1, by rw [e0.1]; exact h2, h3.kept e1, h4.kept e2, fun k a b => ?_, fun k a b => ?_⟩
  · rw [e1]
    have := h3.in a (by have := hok.2.1; omega)
    exact (h5 k a b).kept (fun c p1 p2 => hs c (by omega) (by omega))
  · rw [e2]
    have := h4.in a (by have := hok.2.2.2.1; omega)
    exact (h6 k a b).kept (fun c p1 p2 => hs c (by omega) (by omega))
theorem StateIs.only {M M' : Mem} {S a b : Nat} {s : Ast} (h : StateIs M S s) (hok : StateOk s) (k : Only M M' a b) (hd : S + 53 ≤ a ∨ b ≤ S) : StateIs M' S s := h.kept hok (fun c h1 h2 => k c (by omega))
def upF {α : Type} (f : Int → α) (i : Int) (v : α) : Int → α := fun j => if j = i then v else f j
theorem upF_eq {α : Type} {f : Int → α} {i : Int} {v : α} : upF f i v i = v := if_pos rfl
theorem upF_ne {α : Type} {f : Int → α} {i j : Int} {v : α} (h : j ≠ i) : upF f i v j = f j := if_neg h
/-- f without its i-th -/
def rmF {α : Type} (f : Int → α) (i : Int) : Int → α := fun j => if j < i then f j else f (j + 1)
theorem rmF_lt {α : Type} {f : Int → α} {i j : Int} (h : j < i) : rmF f i j = f j := if_pos h
theorem rmF_ge {α : Type} {f : Int → α} {i j : Int} (h : i ≤ j) : rmF f i j = f (j + 1) := if_neg (by omega)
def addG (s : Ast) (t m : Int) : Ast := (s.1 + 1, s.2.1, upF s.2.2.1 s.1 (t, m, fun _ _ => 0), s.2.2.2)
def addL (s : Ast) (g k : Int) : Ast := (s.1, s.2.1 + 1, s.2.2.1, upF s.2.2.2 s.2.1 (g, k, 0, fun _ => 0))
def delL (s : Ast) (l : Int) : Ast := (s.1, s.2.1 - 1, s.2.2.1, rmF s.2.2.2 l)
/-- the lines of the gear g among the first n are removed, the last first -/
def rmL (g : Int) : Nat → Ast → Ast
  | 0, s => s
  | n + 1, s => rmL g n (if (s.2.2.2 n).1 = g then delL s n else s)
def decL (g : Int) (q : Ln) : Ln := (if g < q.1 then q.1 - 1 else q.1, q.2)
def decA (g : Int) (s : Ast) : Ast := (s.1, s.2.1, s.2.2.1, fun i => decL g (s.2.2.2 i))
def remG (s : Ast) (g : Int) : Ast := (s.1 - 1, s.2.1, rmF s.2.2.1 g, s.2.2.2)
def delG (s : Ast) (g : Int) : Ast := remG (decA g (rmL g s.2.1.toNat s)) g
theorem rmL_s (g : Int) {i : Int} (h : 0 ≤ i) (s : Ast) : rmL g (i + 1).toNat s = rmL g i.toNat (if (s.2.2.2 i).1 = g then delL s i else s) := by
  obtain ⟨n, rfl⟩ : ∃ n : Nat, i = n := ⟨i.toNat, by omega⟩
  rw [show ((n : Int) + 1).toNat = n + 1 by omega, show ((n : Int)).toNat = n by omega]
  rfl
theorem delL_ok {s : Ast} {l : Int} (h : StateOk s) (h0 : 0 ≤ l) (h1 : l < s.2.1) : StateOk (delL s l) := by
  obtain ⟨a1, a2, a3, a4, a5, a6⟩ := h
  refine ⟨a1, a2, by show 0 ≤ s.2.1 - 1; omega, by show s.2.1 - 1 ≤ 10; omega, a5, fun k p q => ?_⟩
  have q' : k < s.2.1 - 1 := q
  show LnOk (rmF s.2.2.2 l k) ∧ _
  by_cases w : k < l
  · rw [show (delL s l).2.2.2 k = s.2.2.2 k from rmF_lt w, rmF_lt w]; exact a6 k p (by omega)
  · rw [show (delL s l).2.2.2 k = s.2.2.2 (k + 1) from rmF_ge (by omega), rmF_ge (by omega)]; exact a6 (k + 1) (by omega) (by omega)
theorem rmL_ok (g : Int) : ∀ (n : Nat) (s : Ast), StateOk s → (n : Int) ≤ s.2.1 → StateOk (rmL g n s)
  | 0, _, h, _ => h
  | n + 1, s, h, hn => by
    show StateOk (rmL g n (if (s.2.2.2 n).1 = g then delL s n else s))
    split
    · exact rmL_ok g n _ (delL_ok h (by omega) (by omega)) (by show (n : Int) ≤ s.2.1 - 1; omega)
    · exact rmL_ok g n _ h (by omega)
theorem rmL_1 (g : Int) : ∀ (n : Nat) (s : Ast), (rmL g n s).1 = s.1 ∧ (rmL g n s).2.2.1 = s.2.2.1
  | 0, _ => ⟨rfl, rfl⟩
  | n + 1, s => by
    show (rmL g n (if (s.2.2.2 n).1 = g then delL s n else s)).1 = s.1 ∧ (rmL g n (if (s.2.2.2 n).1 = g then delL s n else s)).2.2.1 = s.2.2.1
    split
    · exact rmL_1 g n (delL s n)
    · exact rmL_1 g n s
/-- after the rounds none of the lines is the gear's -/
theorem rmL_no (g : Int) : ∀ (n : Nat) (s : Ast), (n : Int) ≤ s.2.1 → (∀ k : Int, (n : Int) ≤ k → k < s.2.1 → (s.2.2.2 k).1 ≠ g) → ∀ k : Int, 0 ≤ k → k < (rmL g n s).2.1 → ((rmL g n s).2.2.2 k).1 ≠ g
  | 0, _, _, h => fun k a b => h k (by omega) b
  | n + 1, s, hn, h => by
    show ∀ k : Int, 0 ≤ k → k < (rmL g n (if (s.2.2.2 n).1 = g then delL s n else s)).2.1 → ((rmL g n (if (s.2.2.2 n).1 = g then delL s n else s)).2.2.2 k).1 ≠ g
    split
    · refine rmL_no g n (delL s n) (by show (n : Int) ≤ s.2.1 - 1; omega) (fun k a b => ?_)
      have b' : k < s.2.1 - 1 := b
      show (rmF s.2.2.2 n k).1 ≠ g
      rw [rmF_ge a]
      exact h (k + 1) (by omega) (by omega)
    · rename_i w
      refine rmL_no g n s (by omega) (fun k a b => ?_)
      rcases (show k = n ∨ (n : Int) + 1 ≤ k by omega) with q | q
      · rw [q]; exact w
      · exact h k (by omega) b
theorem delG_ok {s : Ast} {g : Int} (h : StateOk s) (h0 : 0 ≤ g) (h1 : g < s.1) : StateOk (delG s g) := by
  have hn := rmL_no g s.2.1.toNat s (by have := h.2.2.1; omega) (fun k a b => absurd b (by omega))
  have hk := rmL_ok g s.2.1.toNat s h (by have := h.2.2.1; omega)
  have h1' := rmL_1 g s.2.1.toNat s
  generalize hr : rmL g s.2.1.toNat s = r at hn hk h1'
  obtain ⟨a1, a2, a3, a4, a5, a6⟩ := hk
  have e : delG s g = remG (decA g r) g := by unfold delG; rw [hr]
  rw [e]
  refine ⟨by show 0 ≤ r.1 - 1; rw [h1'.1]; omega, by show r.1 - 1 ≤ 6; omega, a3, a4, fun k p q => ?_, fun k p q => ?_⟩
  · have q' : k < r.1 - 1 := q
    show GrOk (rmF r.2.2.1 g k)
    by_cases w : k < g
    · rw [rmF_lt w]; exact a5 k p (by omega)
    · rw [rmF_ge (by omega)]; exact a5 (k + 1) (by omega) (by omega)
  · obtain ⟨b1, b2, b3, b4, b5⟩ := a6 k p q
    have b6 := hn k p q
    refine ⟨b1, ?_, ?_, b4, b5⟩
    · show 0 ≤ (if g < (r.2.2.2 k).1 then (r.2.2.2 k).1 - 1 else (r.2.2.2 k).1)
      split <;> omega
    · show (if g < (r.2.2.2 k).1 then (r.2.2.2 k).1 - 1 else (r.2.2.2 k).1) < r.1 - 1
      split <;> omega
theorem addG_ok {s : Ast} {t m : Int} (h : StateOk s) (hn : s.1 < 6) (h1 : 5 ≤ t) (h2 : t ≤ 30) (h3 : 1 ≤ m) (h4 : m ≤ 20) : StateOk (addG s t m) := by
  obtain ⟨a1, a2, a3, a4, a5, a6⟩ := h
  refine ⟨by show 0 ≤ s.1 + 1; omega, by show s.1 + 1 ≤ 6; omega, a3, a4, fun k p q => ?_, fun k p q => ?_⟩
  · have q' : k < s.1 + 1 := q
    show GrOk (upF s.2.2.1 s.1 (t, m, fun _ _ => 0) k)
    by_cases w : k = s.1
    · rw [w, upF_eq]
      exact ⟨h1, h2, h3, h4, fun _ _ _ _ _ _ => ⟨by show -5000 ≤ (0 : Int); omega, by show (0 : Int) ≤ 5000; omega⟩⟩
    · rw [upF_ne w]; exact a5 k p (by omega)
  · obtain ⟨b1, b2, b3, b4, b5⟩ := a6 k p q
    exact ⟨b1, b2, by show (s.2.2.2 k).1 < s.1 + 1; omega, b4, b5⟩
theorem addL_ok {s : Ast} {g k : Int} (h : StateOk s) (hn : s.2.1 < 10) (h1 : 0 ≤ g) (h2 : g < s.1) (h3 : 0 ≤ k) (h4 : k ≤ 1) : StateOk (addL s g k) := by
  obtain ⟨a1, a2, a3, a4, a5, a6⟩ := h
  refine ⟨a1, a2, by show 0 ≤ s.2.1 + 1; omega, by show s.2.1 + 1 ≤ 10; omega, a5, fun j p q => ?_⟩
  have q' : j < s.2.1 + 1 := q
  show LnOk (upF s.2.2.2 s.2.1 (g, k, 0, fun _ => 0) j) ∧ 0 ≤ (upF s.2.2.2 s.2.1 (g, k, 0, fun _ => 0) j).1 ∧ (upF s.2.2.2 s.2.1 (g, k, 0, fun _ => 0) j).1 < s.1 ∧ 0 ≤ (upF s.2.2.2 s.2.1 (g, k, 0, fun _ => 0) j).2.1 ∧ (upF s.2.2.2 s.2.1 (g, k, 0, fun _ => 0) j).2.1 ≤ 1
  by_cases w : j = s.2.1
  · rw [w, upF_eq]
    exact ⟨⟨Int.le_refl _, by show (0 : Int) ≤ 12; omega, fun i p q => absurd q (by show ¬ i < 0; omega)⟩, h1, h2, h3, h4⟩
  · rw [upF_ne w]; exact a6 j p (by omega)
/-- how many lines a gear has, of the first n -/
def cnF (s : Ast) (g : Int) : Nat → Int
  | 0 => 0
  | n + 1 => if (s.2.2.2 n).1 = g then cnF s g n + 1 else cnF s g n
theorem cnF_s (s : Ast) (g : Int) {i : Int} (h : 0 ≤ i) : cnF s g (i + 1).toNat = if (s.2.2.2 i).1 = g then cnF s g i.toNat + 1 else cnF s g i.toNat := by
  obtain ⟨n, rfl⟩ : ∃ n : Nat, i = n := ⟨i.toNat, by omega⟩
  rw [show ((n : Int) + 1).toNat = n + 1 by omega, show ((n : Int)).toNat = n by omega]
  rfl
theorem cnF_in (s : Ast) (g : Int) : ∀ n : Nat, 0 ≤ cnF s g n ∧ cnF s g n ≤ n
  | 0 => ⟨Int.le_refl _, Int.le_refl _⟩
  | n + 1 => by
    have := cnF_in s g n
    unfold cnF
    split <;> omega
/-- the greatest absolute deviation what of the first n lines, of the gear's, of the kind -/
def goF (s : Ast) (g k w : Int) : Nat → Int
  | 0 => 0
  | n + 1 => if (s.2.2.2 n).1 = g ∧ (s.2.2.2 n).2.1 = k ∧ 3 ≤ (s.2.2.2 n).2.2.1 then max (goF s g k w n) (absI (ldS (s.2.2.2 n).2.2.2 (s.2.2.2 n).2.2.1 w)) else goF s g k w n
theorem goF_s (s : Ast) (g k w : Int) {i : Int} (h : 0 ≤ i) : goF s g k w (i + 1).toNat = if (s.2.2.2 i).1 = g ∧ (s.2.2.2 i).2.1 = k ∧ 3 ≤ (s.2.2.2 i).2.2.1 then max (goF s g k w i.toNat) (absI (ldS (s.2.2.2 i).2.2.2 (s.2.2.2 i).2.2.1 w)) else goF s g k w i.toNat := by
  obtain ⟨n, rfl⟩ : ∃ n : Nat, i = n := ⟨i.toNat, by omega⟩
  rw [show ((n : Int) + 1).toNat = n + 1 by omega, show ((n : Int)).toNat = n by omega]
  rfl
theorem goF_in {s : Ast} (h : StateOk s) (g k w : Int) : ∀ n : Nat, (n : Int) ≤ s.2.1 → 0 ≤ goF s g k w n ∧ goF s g k w n ≤ 1000000000
  | 0, _ => by show (0 : Int) ≤ 0 ∧ (0 : Int) ≤ 1000000000; omega
  | n + 1, hn => by
    have h1 := goF_in h g k w n (by omega)
    unfold goF
    split
    · rename_i q
      have := ldS_in (what := w) (h.2.2.2.2.2 n (by omega) (by omega)).1 (by omega)
      show 0 ≤ max _ (max _ _) ∧ max _ (max _ _) ≤ (1000000000 : Int)
      omega
    · exact h1
/-- a gear's deviation what -/
def dvS (s : Ast) (g w : Int) : Int :=
  if w = 0 then max (gpS (s.2.2.1 g).1 ((s.2.2.1 g).2.2 0)) (gpS (s.2.2.1 g).1 ((s.2.2.1 g).2.2 1))
  else if w = 1 then max (irS (s.2.2.1 g).1 ((s.2.2.1 g).2.2 0)) (irS (s.2.2.1 g).1 ((s.2.2.1 g).2.2 1))
  else if w = 2 then ruS (s.2.2.1 g).1 ((s.2.2.1 g).2.2 2)
  else goF s g ((w - 3) / 3) ((w - 3) % 3) s.2.1.toNat
theorem dvS_in {s : Ast} (h : StateOk s) {g w : Int} (h0 : 0 ≤ g) (h1 : g < s.1) : -1000000000 ≤ dvS s g w ∧ dvS s g w ≤ 1000000000 := by
  have hg := h.2.2.2.2.1 g h0 h1
  unfold dvS
  split
  · have a1 := gpS_in hg (s := 0) (by omega) (by omega)
    have a2 := gpS_in hg (s := 1) (by omega) (by omega)
    omega
  · split
    · have a1 := irS_in hg (s := 0) (by omega) (by omega)
      have a2 := irS_in hg (s := 1) (by omega) (by omega)
      omega
    · split
      · have a1 := ruS_in hg
        omega
      · have := goF_in h g ((w - 3) / 3) ((w - 3) % 3) s.2.1.toNat (by have := h.2.2.1; omega)
        omega
/-- the first i lines are decreased -/
def decP (g i : Int) (s : Ast) : Ast := (s.1, s.2.1, s.2.2.1, fun k => if 0 ≤ k ∧ k < i then decL g (s.2.2.2 k) else s.2.2.2 k)
theorem decP_0 (g : Int) (s : Ast) : decP g 0 s = s := by
  obtain ⟨a, b, c, d⟩ := s
  unfold decP
  simp only [Prod.mk.injEq, true_and]
  funext k
  rw [if_neg (by omega)]
theorem decP_ne {g i k : Int} {s : Ast} (h : k ≠ i) : (decP g (i + 1) s).2.2.2 k = (decP g i s).2.2.2 k := by
  show (if 0 ≤ k ∧ k < i + 1 then decL g (s.2.2.2 k) else s.2.2.2 k) = if 0 ≤ k ∧ k < i then decL g (s.2.2.2 k) else s.2.2.2 k
  by_cases w : 0 ≤ k ∧ k < i
  · rw [if_pos w, if_pos (by omega)]
  · rw [if_neg w, if_neg (by omega)]
theorem decP_s {g i : Int} {s : Ast} (h0 : 0 ≤ i) (h : decL g (s.2.2.2 i) = s.2.2.2 i) : decP g (i + 1) s = decP g i s := by
  unfold decP
  simp only [Prod.mk.injEq, true_and]
  funext k
  by_cases q : k = i
  · rw [q, if_pos (by omega), if_neg (by omega), h]
  · by_cases w : 0 ≤ k ∧ k < i
    · rw [if_pos w, if_pos (by omega)]
    · rw [if_neg w, if_neg (by omega)]
