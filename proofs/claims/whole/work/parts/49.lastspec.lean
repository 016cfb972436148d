/-! append, undo, parse, digest -/
def oApp (len v : Int) : Int × Int := if ¬ (0 ≤ v ∧ v ≤ 127) then (1, 0) else if ¬ len < 160 then (2, 0) else (0, len + 1)
theorem TxB.app {M M' : Mem} {a : Nat} {len v : Int} {b : Int → Int} (h : TxB M a len b) (h0 : 0 ≤ len) (e : M' = sI (sI M (a + 1) len v) a 1 (len + 1)) : TxB M' a (len + 1) (upF b len v) := by
  subst e
  refine ⟨gI_eq, fun i p q => ?_⟩
  rw [gI_ne (by omega)]
  by_cases w : i = len
  · rw [w, gI_eq, upF_eq]
  · rw [gI_nk w, upF_ne w]; exact h.2 i p (by omega)
theorem TxOk.app {len v : Int} {b : Int → Int} (h : TxOk len b) (h1 : len < 160) (v0 : 0 ≤ v) (v1 : v ≤ 127) : TxOk (len + 1) (upF b len v) := by
  obtain ⟨a1, a2, a3⟩ := h
  refine ⟨by omega, by omega, fun i p q => ?_⟩
  by_cases w : i = len
  · rw [w, upF_eq]; exact ⟨v0, v1⟩
  · rw [upF_ne w]; exact a3 i p (by omega)
/-- one saved state less -/
theorem GgIs.cut {M M' : Mem} {N : Nat} {a : Ast} {c c' : Int} {sv : Int → Ast} (h : GgIs M N (a, c, sv)) (hok : GgOk (a, c, sv)) (hc : c' ≤ c) (h3 : gI M' N 3 = c') (hF : ∀ d : Nat, d ≠ N → Same M M' d) : GgIs M' N (a, c', sv) := by
  obtain ⟨h1, h2, h3', h4, h5, h6, h7⟩ := h
  have eP := (hF (N + 107) (by omega)).2.2.2
  refine ⟨h1.kept hok.1 (fun d _ _ => hF d (by omega)), h3, h3'.kept eP, fun j hj => ⟨(h4 j hj).1.kept (hF _ (by omega)).2.2.2, (h4 j hj).2.kept (hF _ (by omega)).2.2.2⟩, fun i p q => ?_, h6.kept (hF _ (by omega)).2.2.2, h7.kept (hF _ (by omega)).2.2.2⟩
  have q' : i < c' := q
  have q4 : i < 4 := by have w := hok.2.2.1; have w2 : c ≤ 4 := w; omega
  show StateIs M' (gP M' (N + 107) i) (sv i)
  rw [eP]
  have hi := RowS.in h3' p q4
  exact (h5 i p (show i < c by omega)).kept (hok.2.2.2 i p (show i < c by omega)) (fun d _ _ => hF d (by omega))
/-- what a command does, if it is possible -/
noncomputable def cmF (a : Ast) (q : Sq) : Option Ast := @dite _ (∃ r, CmR a q r) (Classical.propDecidable _) (fun h => Classical.choose h) (fun _ => none)
theorem cmF_eq {a : Ast} {q : Sq} {r : Option Ast} (h : CmR a q r) : cmF a q = r := by
  have hx : ∃ r, CmR a q r := ⟨r, h⟩
  unfold cmF
  rw [dif_pos hx]
  exact CmR.unique (Classical.choose_spec hx) h
/-- behind n bytes: how many commands were carried out, what is then; none: one was not possible -/
noncomputable def runP (b : Int → Int) (s : Ast) : Nat → Int × Option Ast
  | 0 => (0, some s)
  | n + 1 => if b n = 59 then (match (runP b s n).2 with
    | none => runP b s n
    | some t => match cmF t (auS b n) with
      | none => ((runP b s n).1, none)
      | some t' => ((runP b s n).1 + 1, some t')) else runP b s n
theorem runP_skip {b : Int → Int} {s : Ast} {p : Nat} : ∀ e : Nat, p ≤ e → (∀ k : Int, (p : Int) ≤ k → k < e → ¬ b k = 59) → runP b s e = runP b s p
  | 0, h, _ => by rw [show p = 0 by omega]
  | e + 1, h, hk => by
    by_cases w : p = e + 1
    · rw [w]
    · have h1 := runP_skip (b := b) (s := s) e (by omega) (fun k a c => hk k a (by omega))
      show (if b e = 59 then _ else runP b s e) = _
      rw [if_neg (hk e (by omega) (by omega)), h1]
theorem runP_some {b : Int → Int} {s t t' : Ast} {n : Int} {e : Nat} (h : runP b s e = (n, some t)) (hb : b e = 59) (hc : cmF t (auS b e) = some t') : runP b s (e + 1) = (n + 1, some t') := by
  show (if b e = 59 then (match (runP b s e).2 with
    | none => runP b s e
    | some t => match cmF t (auS b e) with
      | none => ((runP b s e).1, none)
      | some t' => ((runP b s e).1 + 1, some t')) else runP b s e) = _
  rw [if_pos hb, h]
  simp only [hc]
theorem runP_no {b : Int → Int} {s t : Ast} {n : Int} {e : Nat} (h : runP b s e = (n, some t)) (hb : b e = 59) (hc : cmF t (auS b e) = none) : runP b s (e + 1) = (n, none) := by
  show (if b e = 59 then (match (runP b s e).2 with
    | none => runP b s e
    | some t => match cmF t (auS b e) with
      | none => ((runP b s e).1, none)
      | some t' => ((runP b s e).1 + 1, some t')) else runP b s e) = _
  rw [if_pos hb, h]
  simp only [hc]
theorem runP_none {b : Int → Int} {s : Ast} {n : Int} {p : Nat} (h : runP b s p = (n, none)) : ∀ e : Nat, p ≤ e → runP b s e = (n, none)
  | 0, hp => by rw [← show p = 0 by omega]; exact h
  | e + 1, hp => by
    by_cases w : p = e + 1
    · rw [← w]; exact h
    · have h1 := runP_none h e (by omega)
      show (if b e = 59 then (match (runP b s e).2 with
        | none => runP b s e
        | some t => match cmF t (auS b e) with
          | none => ((runP b s e).1, none)
          | some t' => ((runP b s e).1 + 1, some t')) else runP b s e) = _
      rw [h1]
      simp only [ite_self]
/-- what parse answers, and what is then now -/
def PaR (s : Ast) (b : Int → Int) (len r : Int) (o : Option Ast) : Prop :=
  (∃ er : Int, SynE b len er ∧ er ≠ -1 ∧ r = -10 - er ∧ o = none) ∨
  (SynE b len (-1) ∧ (∃ n : Int, runP b s len.toNat = (n, none) ∧ r = -1000 - n) ∧ o = none) ∨
  (SynE b len (-1) ∧ ∃ t : Ast, runP b s len.toNat = (r, some t) ∧ o = some t)
theorem PaR.unique {s : Ast} {b : Int → Int} {len r r' : Int} {o o' : Option Ast} (hl : 0 ≤ len) (h : PaR s b len r o) (h' : PaR s b len r' o') : r = r' ∧ o = o' := by
  rcases h with ⟨er, a1, a2, a3, a4⟩ | ⟨a1, ⟨n, a2, a3⟩, a4⟩ | ⟨a1, t, a2, a3⟩ <;> rcases h' with ⟨er', c1, c2, c3, c4⟩ | ⟨c1, ⟨n', c2, c3⟩, c4⟩ | ⟨c1, t', c2, c3⟩
  · have := SynE.unique hl a1 c1
    exact ⟨by omega, by rw [a4, c4]⟩
  · exact absurd (SynE.unique hl a1 c1) a2
  · exact absurd (SynE.unique hl a1 c1) a2
  · exact absurd (SynE.unique hl c1 a1) c2
  · rw [a2] at c2
    cases c2
    exact ⟨by rw [a3, c3], by rw [a4, c4]⟩
  · rw [a2] at c2
    cases c2
  · exact absurd (SynE.unique hl c1 a1) c2
  · rw [a2] at c2
    cases c2
  · rw [a2] at c2
    cases c2
    exact ⟨rfl, by rw [a3, c3]⟩
def paS (s : Gst) (o : Option Ast) : Gst := match o with
  | none => s
  | some t => (t, (savG s).2)
/-- a command that ends at e -/
theorem cmd_at {b : Int → Int} {len e : Int} (h : Okto b len) (e0 : 0 ≤ e) (e1 : e < len) (hb : b e = 59) : ¬ (auS b e.toNat).1 = 0 ∧ isLet (auS b e.toNat).1 ∧ 1 ≤ (auS b e.toNat).2.1 ∧ mnN (auS b e.toNat).1 ≤ (auS b e.toNat).2.1 ∧ (auS b e.toNat).2.1 ≤ mxN (auS b e.toNat).1 ∧ ∀ k : Int, 0 ≤ k → k < (auS b e.toNat).2.1 → -9999 ≤ (auS b e.toNat).2.2.2.2 k ∧ (auS b e.toNat).2.2.2.2 k ≤ 9999 := by
  have h1 := auS_in (b := b) e.toNat (fun i p q => h i p (by omega))
  have h2 := h e e0 e1
  rw [hb] at h2
  have h3 : ¬ (auS b e.toNat).1 = 0 := by
    rcases h2 with ⟨w1, w2⟩ | ⟨w1, w2⟩
    · unfold isLet at w2; omega
    · exact w1
  rcases h1 with w | ⟨a1, a2, a3, a4, a5, a6, a7, a8, a9, a10⟩
  · exact absurd w h3
  · refine ⟨h3, a1, a2, ?_, a8, a9⟩
    rcases h2 with ⟨w1, w2⟩ | ⟨w1, w2⟩
    · exact absurd w1 h3
    · rcases w2 with w | w | w | w <;> omega
/-! the digest -/
def mfF (f : Int → Int) : Nat → Int → Int
  | 0, h => h
  | n + 1, h => 31 * mfF f n h + f n
theorem mfF_s (f : Int → Int) (h : Int) {i : Int} (hi : 0 ≤ i) : mfF f (i + 1).toNat h = 31 * mfF f i.toNat h + f i := by
  obtain ⟨n, rfl⟩ : ∃ n : Nat, i = n := ⟨i.toNat, by omega⟩
  rw [show ((n : Int) + 1).toNat = n + 1 by omega, show ((n : Int)).toNat = n by omega]
  rfl
/-- .. the series of a gear -/
def dgR (s : Ast) (g : Int) : Nat → Int → Int
  | 0, h => h
  | n + 1, h => mfF ((s.2.2.1 g).2.2 n) (szS (s.2.2.1 g).1 n).toNat (dgR s g n h)
theorem dgR_s (s : Ast) (g h : Int) {i : Int} (hi : 0 ≤ i) : dgR s g (i + 1).toNat h = mfF ((s.2.2.1 g).2.2 i) (szS (s.2.2.1 g).1 i).toNat (dgR s g i.toNat h) := by
  obtain ⟨n, rfl⟩ : ∃ n : Nat, i = n := ⟨i.toNat, by omega⟩
  rw [show ((n : Int) + 1).toNat = n + 1 by omega, show ((n : Int)).toNat = n by omega]
  rfl
def tdS (s : Ast) (g w : Int) : Int := if w = 0 then (s.2.2.1 g).1 else if w = 1 then (s.2.2.1 g).2.1 else if w = 2 then cnF s g s.2.1.toNat else if w = 3 then cgS s g else if w = 4 then (s.2.2.1 g).2.2 0 (s.2.2.1 g).1 - (s.2.2.1 g).2.2 0 0 else (s.2.2.1 g).2.2 1 (s.2.2.1 g).1 - (s.2.2.1 g).2.2 1 0
def dgG (s : Ast) (g h : Int) : Int := mfF (dvS s g) 9 (dgR s g 3 (mfF (tdS s g) 6 h))
def dgF (s : Ast) : Nat → Int → Int
  | 0, h => h
  | n + 1, h => dgG s n (dgF s n h)
theorem dgF_s (s : Ast) (h : Int) {i : Int} (hi : 0 ≤ i) : dgF s (i + 1).toNat h = dgG s i (dgF s i.toNat h) := by
  obtain ⟨n, rfl⟩ : ∃ n : Nat, i = n := ⟨i.toNat, by omega⟩
  rw [show ((n : Int) + 1).toNat = n + 1 by omega, show ((n : Int)).toNat = n by omega]
  rfl
def dgL (s : Ast) (l h : Int) : Int := mfF (ldS (s.2.2.2 l).2.2.2 (s.2.2.2 l).2.2.1) (if 3 ≤ (s.2.2.2 l).2.2.1 then 3 else 0) (mfF (s.2.2.2 l).2.2.2 (s.2.2.2 l).2.2.1.toNat (31 * (31 * (31 * h + (s.2.2.2 l).1) + (s.2.2.2 l).2.1) + (s.2.2.2 l).2.2.1))
def dlF (s : Ast) : Nat → Int → Int
  | 0, h => h
  | n + 1, h => dgL s n (dlF s n h)
theorem dlF_s (s : Ast) (h : Int) {i : Int} (hi : 0 ≤ i) : dlF s (i + 1).toNat h = dgL s i (dlF s i.toNat h) := by
  obtain ⟨n, rfl⟩ : ∃ n : Nat, i = n := ⟨i.toNat, by omega⟩
  rw [show ((n : Int) + 1).toNat = n + 1 by omega, show ((n : Int)).toNat = n by omega]
  rfl
def dgS (s : Ast) (len c : Int) : Int := 31 * dlF s s.2.1.toNat (31 * dgF s s.1.toNat (31 * (31 * 2963 + len) + s.1) + s.2.1) + c
