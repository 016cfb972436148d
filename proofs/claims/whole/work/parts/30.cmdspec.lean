/-! what a command does -/
abbrev isG (t m : Int) : Prop := 5 ≤ t ∧ t ≤ 30 ∧ 1 ≤ m ∧ m ≤ 20
def inRg (nu : Int) (va : Int → Int) : Prop := ∀ k : Int, 0 ≤ k → k < nu → -5000 ≤ va k ∧ va k ≤ 5000
def rdSet (rd : Int → Int → Int) (s : Int) (va : Int → Int) : Int → Int → Int := fun t k => if t = s then va k else rd t k
def setS (a : Ast) (s : Int) (va : Int → Int) : Ast := (a.1, a.2.1, upF a.2.2.1 (a.1 - 1) ((a.2.2.1 (a.1 - 1)).1, (a.2.2.1 (a.1 - 1)).2.1, rdSet (a.2.2.1 (a.1 - 1)).2.2 s va), a.2.2.2)
def addN (a : Ast) (k nu : Int) (va : Int → Int) : Ast := (a.1, a.2.1 + 1, a.2.2.1, upF a.2.2.2 a.2.1 (a.1 - 1, k, nu, va))
/-- r: what comes of the command q in the state a, if it is possible -/
def CmR (a : Ast) (q : Sq) (r : Option Ast) : Prop :=
  (q.1 = 103 ∧ ((isG (q.2.2.2.2 0) (q.2.2.2.2 1) ∧ a.1 < 6 ∧ r = some (addG a (q.2.2.2.2 0) (q.2.2.2.2 1))) ∨ (¬ (isG (q.2.2.2.2 0) (q.2.2.2.2 1) ∧ a.1 < 6) ∧ r = none))) ∨
  (∃ s : Int, (q.1 = 108 ∧ s = 0 ∨ q.1 = 114 ∧ s = 1 ∨ q.1 = 102 ∧ s = 2) ∧ ((1 ≤ a.1 ∧ inRg q.2.1 q.2.2.2.2 ∧ q.2.1 = szS (a.2.2.1 (a.1 - 1)).1 s ∧ r = some (setS a s q.2.2.2.2)) ∨ (¬ (1 ≤ a.1 ∧ inRg q.2.1 q.2.2.2.2 ∧ q.2.1 = szS (a.2.2.1 (a.1 - 1)).1 s) ∧ r = none))) ∨
  (∃ k : Int, (q.1 = 112 ∧ k = 0 ∨ q.1 = 104 ∧ k = 1) ∧ ((1 ≤ a.1 ∧ inRg q.2.1 q.2.2.2.2 ∧ a.2.1 < 10 ∧ r = some (addN a k q.2.1 q.2.2.2.2)) ∨ (¬ (1 ≤ a.1 ∧ inRg q.2.1 q.2.2.2.2 ∧ a.2.1 < 10) ∧ r = none)))
theorem CmR.unique {a : Ast} {q : Sq} {r r' : Option Ast} (h : CmR a q r) (h' : CmR a q r') : r = r' := by
  have alt : ∀ {P : Prop} {x : Ast} {u v : Option Ast}, ((P ∧ u = some x) ∨ (¬ P ∧ u = none)) → ((P ∧ v = some x) ∨ (¬ P ∧ v = none)) → u = v := fun {P x u v} h1 h2 => by
    rcases h1 with ⟨p1, p2⟩ | ⟨p1, p2⟩ <;> rcases h2 with ⟨t1, t2⟩ | ⟨t1, t2⟩
    · rw [p2, t2]
    · exact absurd p1 t1
    · exact absurd t1 p1
    · rw [p2, t2]
  rcases h with ⟨h1, h2⟩ | ⟨s, h1, h2⟩ | ⟨s, h1, h2⟩ <;> rcases h' with ⟨k1, k2⟩ | ⟨t, k1, k2⟩ | ⟨t, k1, k2⟩
  · exact alt (P := isG (q.2.2.2.2 0) (q.2.2.2.2 1) ∧ a.1 < 6) (h2.imp (fun w => ⟨⟨w.1, w.2.1⟩, w.2.2⟩) id) (k2.imp (fun w => ⟨⟨w.1, w.2.1⟩, w.2.2⟩) id)
  · omega
  · omega
  · omega
  · have e : s = t := by omega
    subst e
    exact alt (P := 1 ≤ a.1 ∧ inRg q.2.1 q.2.2.2.2 ∧ q.2.1 = szS (a.2.2.1 (a.1 - 1)).1 s) (h2.imp (fun w => ⟨⟨w.1, w.2.1, w.2.2.1⟩, w.2.2.2⟩) id) (k2.imp (fun w => ⟨⟨w.1, w.2.1, w.2.2.1⟩, w.2.2.2⟩) id)
  · omega
  · omega
  · omega
  · have e : s = t := by omega
    subst e
    exact alt (P := 1 ≤ a.1 ∧ inRg q.2.1 q.2.2.2.2 ∧ a.2.1 < 10) (h2.imp (fun w => ⟨⟨w.1, w.2.1, w.2.2.1⟩, w.2.2.2⟩) id) (k2.imp (fun w => ⟨⟨w.1, w.2.1, w.2.2.1⟩, w.2.2.2⟩) id)
theorem setS_ok {a : Ast} {s : Int} {va : Int → Int} (h : StateOk a) (h1 : 1 ≤ a.1) (h2 : inRg (szS (a.2.2.1 (a.1 - 1)).1 s) va) : StateOk (setS a s va) := by
  obtain ⟨a1, a2, a3, a4, a5, a6⟩ := h
  refine ⟨a1, a2, a3, a4, fun k p q => ?_, a6⟩
  show GrOk (upF a.2.2.1 (a.1 - 1) ((a.2.2.1 (a.1 - 1)).1, (a.2.2.1 (a.1 - 1)).2.1, rdSet (a.2.2.1 (a.1 - 1)).2.2 s va) k)
  by_cases w : k = a.1 - 1
  · rw [w, upF_eq]
    obtain ⟨b1, b2, b3, b4, b5⟩ := a5 (a.1 - 1) (by omega) (by omega)
    refine ⟨b1, b2, b3, b4, fun t j c d e f => ?_⟩
    show -5000 ≤ (if t = s then va j else (a.2.2.1 (a.1 - 1)).2.2 t j) ∧ (if t = s then va j else (a.2.2.1 (a.1 - 1)).2.2 t j) ≤ 5000
    by_cases z : t = s
    · rw [if_pos z]
      rw [z] at f
      exact h2 j e f
    · rw [if_neg z]
      exact b5 t j c d e f
  · rw [upF_ne w]; exact a5 k p q
theorem addN_ok {a : Ast} {k nu : Int} {va : Int → Int} (h : StateOk a) (h1 : 1 ≤ a.1) (h2 : inRg nu va) (h3 : a.2.1 < 10) (h4 : 0 ≤ nu) (h5 : nu ≤ 12) (h6 : 0 ≤ k) (h7 : k ≤ 1) : StateOk (addN a k nu va) := by
  obtain ⟨a1, a2, a3, a4, a5, a6⟩ := h
  refine ⟨a1, a2, by show 0 ≤ a.2.1 + 1; omega, by show a.2.1 + 1 ≤ 10; omega, a5, fun j p q => ?_⟩
  have q' : j < a.2.1 + 1 := q
  show LnOk (upF a.2.2.2 a.2.1 (a.1 - 1, k, nu, va) j) ∧ 0 ≤ (upF a.2.2.2 a.2.1 (a.1 - 1, k, nu, va) j).1 ∧ (upF a.2.2.2 a.2.1 (a.1 - 1, k, nu, va) j).1 < a.1 ∧ 0 ≤ (upF a.2.2.2 a.2.1 (a.1 - 1, k, nu, va) j).2.1 ∧ (upF a.2.2.2 a.2.1 (a.1 - 1, k, nu, va) j).2.1 ≤ 1
  by_cases w : j = a.2.1
  · rw [w, upF_eq]
    exact ⟨⟨h4, h5, h2⟩, by show 0 ≤ a.1 - 1; omega, by show a.1 - 1 < a.1; omega, h6, h7⟩
  · rw [upF_ne w]; exact a6 j p (by omega)
theorem CmR.ok {a s' : Ast} {q : Sq} (h : CmR a q (some s')) (hok : StateOk a) (h0 : 0 ≤ q.2.1) (h1 : q.2.1 ≤ mxN q.1) : StateOk s' := by
  rcases h with ⟨h1, h2⟩ | ⟨s, h1, h2⟩ | ⟨k, h1', h2⟩
  · rcases h2 with ⟨w1, w2, w3⟩ | ⟨w1, w2⟩
    · cases w3
      exact addG_ok hok w2 w1.1 w1.2.1 w1.2.2.1 w1.2.2.2
    · cases w2
  · rcases h2 with ⟨w1, w2, w3, w4⟩ | ⟨w1, w2⟩
    · cases w4
      exact setS_ok hok w1 (by rw [← w3]; exact w2)
    · cases w2
  · rcases h2 with ⟨w1, w2, w3, w4⟩ | ⟨w1, w2⟩
    · cases w4
      have hm : mxN q.1 = 12 := by
        unfold mxN
        rw [if_neg (by omega), if_pos (by omega)]
      exact addN_ok hok w1 w2 w3 h0 (by omega) (by omega) (by omega)
    · cases w2
theorem ySet_same (y : Int → Int) (j : Int) : ySet y j (y j) = y := by
  funext k
  unfold ySet
  by_cases w : k = j
  · rw [if_pos w, w]
  · rw [if_neg w]
theorem LineIs.zero {M : Mem} {a : Nat} {g k : Int} {y y' : Int → Int} (h : LineIs M a g k 0 y) : LineIs M a g k 0 y' := by
  obtain ⟨h1, h2, h3, h4, h5, h6, h7, h8⟩ := h
  exact ⟨h1, h2, h3, h4, h5, h6, h7, fun j p q => absurd q (by omega)⟩
