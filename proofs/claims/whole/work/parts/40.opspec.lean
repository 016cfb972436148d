/-! what each call answers: (the place of what it throws, 0: nothing; the answer) -/
def oReading (a : Ast) (g se ix : Int) : Int × Int := if (0 ≤ g ∧ g < a.1) ∧ (0 ≤ se ∧ se < 3) ∧ (0 ≤ ix ∧ ix < szS (a.2.2.1 g).1 se) then (0, (a.2.2.1 g).2.2 se ix) else (1, 0)
def oIndex (a : Ast) (g f t : Int) : Int × Int := if (0 ≤ g ∧ g < a.1) ∧ (0 ≤ f ∧ f < 2) ∧ (0 ≤ t ∧ t ≤ (a.2.2.1 g).1) then (0, ixS (a.2.2.1 g).1 ((a.2.2.1 g).2.2 f) t) else (1, 0)
def oPitch (a : Ast) (g f t : Int) : Int × Int := if (0 ≤ g ∧ g < a.1) ∧ (0 ≤ f ∧ f < 2) ∧ (1 ≤ t ∧ t ≤ (a.2.2.1 g).1) then (0, ixS (a.2.2.1 g).1 ((a.2.2.1 g).2.2 f) t - ixS (a.2.2.1 g).1 ((a.2.2.1 g).2.2 f) (t - 1)) else (1, 0)
def oSpan (a : Ast) (g f k : Int) : Int × Int := if ¬ ((0 ≤ g ∧ g < a.1) ∧ (0 ≤ f ∧ f < 2)) then (1, 0) else if ¬ (1 ≤ k ∧ k ≤ (a.2.2.1 g).1) then (2, 0) else (0, spS (a.2.2.1 g).1 ((a.2.2.1 g).2.2 f) k)
def oThick (a : Ast) (g t : Int) : Int × Int := if ¬ (0 ≤ g ∧ g < a.1) then (1, 0) else if t = -1 then (0, thS (a.2.2.1 g).1 ((a.2.2.1 g).2.2)) else if 0 ≤ t ∧ t < (a.2.2.1 g).1 then (0, thF (a.2.2.1 g).1 ((a.2.2.1 g).2.2) t) else (1, 0)
def oEcc (a : Ast) (g : Int) : Int × Int := if ¬ (0 ≤ g ∧ g < a.1) then (1, 0) else (0, opS (a.2.2.1 g).1 ((a.2.2.1 g).2.2 2))
def oDev (a : Ast) (g w : Int) : Int × Int := if ¬ (0 ≤ g ∧ g < a.1) then (1, 0) else if ¬ (0 ≤ w ∧ w < 9) then (2, 0) else (0, dvS a g w)
def oGear (a : Ast) (g w : Int) : Int × Int := if ¬ (0 ≤ g ∧ g < a.1) then (1, 0) else if w = 0 then (0, (a.2.2.1 g).1) else if w = 1 then (0, (a.2.2.1 g).2.1) else if w = 2 then (0, cnF a g a.2.1.toNat) else if w = 3 then (0, cgS a g) else if w = 4 then (0, (a.2.2.1 g).2.2 0 (a.2.2.1 g).1 - (a.2.2.1 g).2.2 0 0) else if w = 5 then (0, (a.2.2.1 g).2.2 1 (a.2.2.1 g).1 - (a.2.2.1 g).2.2 1 0) else (2, 0)
def oLine (a : Ast) (i w : Int) : Int × Int := if ¬ (0 ≤ i ∧ i < a.2.1) then (1, 0) else if w = 0 then (0, (a.2.2.2 i).1) else if w = 1 then (0, (a.2.2.2 i).2.1) else if w = 2 then (0, (a.2.2.2 i).2.2.1) else (2, 0)
def oPoint (a : Ast) (i p : Int) : Int × Int := if (0 ≤ i ∧ i < a.2.1) ∧ (0 ≤ p ∧ p < (a.2.2.2 i).2.2.1) then (0, (a.2.2.2 i).2.2.2 p) else (1, 0)
def oLdev (a : Ast) (i w : Int) : Int × Int := if ¬ (0 ≤ i ∧ i < a.2.1) then (1, 0) else if ¬ (0 ≤ w ∧ w < 3) then (2, 0) else if ¬ 3 ≤ (a.2.2.2 i).2.2.1 then (3, 0) else (0, ldS ((a.2.2.2 i).2.2.2) ((a.2.2.2 i).2.2.1) w)
def bnS (a : Ast) (i sl : Int) : Int := if sl = 0 then inS ((a.2.2.2 i).2.2.2) ((a.2.2.2 i).2.2.1) else slS ((a.2.2.2 i).2.2.2) ((a.2.2.2 i).2.2.1)
def oBest (a : Ast) (i sl p : Int) : Int × Int := if ¬ (0 ≤ i ∧ i < a.2.1) then (1, 0) else if ¬ (p = 0 ∨ p = 1) then (2, 0) else if ¬ 3 ≤ (a.2.2.2 i).2.2.1 then (3, 0) else (0, (if p = 0 then bnS a i sl else dnS ((a.2.2.2 i).2.2.1)).tdiv (max 1 ((Int.gcd (bnS a i sl) (dnS ((a.2.2.2 i).2.2.1)) : Nat) : Int)))
def oTol (a : Ast) (g w q : Int) : Int × Int := if ¬ (0 ≤ g ∧ g < a.1) then (1, 0) else if ¬ ((0 ≤ w ∧ w < 9) ∧ (1 ≤ q ∧ q ≤ 12)) then (2, 0) else (0, ocS (btS (a.2.2.1 g).1 (a.2.2.1 g).2.1 w) q)
def oQual (a : Ast) (g w : Int) : Int × Int := if ¬ (0 ≤ g ∧ g < a.1) then (1, 0) else if w = -1 then (0, cgS a g) else if ¬ (0 ≤ w ∧ w < 9) then (2, 0) else (0, kwS a g w)
/-- what is decided by one deviation -/
def dcS (a : Ast) (g q u w : Int) : Int := if u < dvS a g w - ocS (btS (a.2.2.1 g).1 (a.2.2.1 g).2.1 w) q then 2 else if -u < dvS a g w - ocS (btS (a.2.2.1 g).1 (a.2.2.1 g).2.1 w) q then 1 else 0
def dcF (a : Ast) (g q u : Int) : Nat → Int
  | 0 => 0
  | n + 1 => max (dcF a g q u n) (dcS a g q u n)
theorem dcF_s (a : Ast) (g q u : Int) {i : Int} (h : 0 ≤ i) : dcF a g q u (i + 1).toNat = max (dcF a g q u i.toNat) (dcS a g q u i) := by
  obtain ⟨n, rfl⟩ : ∃ n : Nat, i = n := ⟨i.toNat, by omega⟩
  rw [show ((n : Int) + 1).toNat = n + 1 by omega, show ((n : Int)).toNat = n by omega]
  rfl
theorem dcS_in (a : Ast) (g q u w : Int) : 0 ≤ dcS a g q u w ∧ dcS a g q u w ≤ 2 := by
  unfold dcS
  split
  · omega
  · split <;> omega
theorem dcF_in (a : Ast) (g q u : Int) : ∀ n : Nat, 0 ≤ dcF a g q u n ∧ dcF a g q u n ≤ 2
  | 0 => by show (0 : Int) ≤ 0 ∧ (0 : Int) ≤ 2; omega
  | n + 1 => by
    have h1 := dcF_in a g q u n
    have h2 := dcS_in a g q u n
    show 0 ≤ max _ _ ∧ max _ _ ≤ (2 : Int)
    omega
theorem dcF_2 (a : Ast) (g q u : Int) {i : Int} (h0 : 0 ≤ i) (h1 : i < 9) (h : dcS a g q u i = 2) : dcF a g q u 9 = 2 := by
  have key : ∀ n : Nat, i < n → dcF a g q u n = 2 := fun n => by
    induction n with
    | zero => intro h; omega
    | succ n ih =>
      intro hn
      have hb := dcF_in a g q u n
      have hs := dcS_in a g q u n
      show max (dcF a g q u n) (dcS a g q u n) = 2
      by_cases w : i = n
      · rw [← w, h]; omega
      · rw [ih (by omega)]; omega
  exact key 9 (by omega)
def oDec (a : Ast) (g q u : Int) : Int × Int := if ¬ (0 ≤ g ∧ g < a.1) then (1, 0) else if ¬ ((1 ≤ q ∧ q ≤ 12) ∧ (0 ≤ u ∧ u ≤ 1000)) then (2, 0) else (0, dcF a g q u 9)
/-- the transmission error of two gears at a phase -/
def gcG (a : Ast) (g h : Int) : Int := (Int.gcd (a.2.2.1 g).1 (a.2.2.1 h).1 : Int)
def erG (a : Ast) (g h f ph : Int) : Int := erS (gcG a g h) (fun r => cmx (ixS (a.2.2.1 g).1 ((a.2.2.1 g).2.2 f)) (gcG a g h) r (a.2.2.1 g).1.toNat) (fun r => cmn (ixS (a.2.2.1 g).1 ((a.2.2.1 g).2.2 f)) (gcG a g h) r (a.2.2.1 g).1.toNat) (fun r => cmx (ixS (a.2.2.1 h).1 ((a.2.2.1 h).2.2 f)) (gcG a g h) r (a.2.2.1 h).1.toNat) (fun r => cmn (ixS (a.2.2.1 h).1 ((a.2.2.1 h).2.2 f)) (gcG a g h) r (a.2.2.1 h).1.toNat) ph
def phG (a : Ast) (g h f : Int) : Int := psF (erG a g h f) (gcG a g h - 1).toNat
def oMesh (a : Ast) (g h f ph : Int) : Int × Int := if ¬ ((0 ≤ g ∧ g < a.1) ∧ (0 ≤ h ∧ h < a.1) ∧ (0 ≤ f ∧ f < 2)) then (1, 0) else if ¬ (0 ≤ ph ∧ ph < (a.2.2.1 h).1) then (2, 0) else (0, erG a g h f ph)
def oBph (a : Ast) (g h f : Int) : Int × Int := if ¬ ((0 ≤ g ∧ g < a.1) ∧ (0 ≤ h ∧ h < a.1) ∧ (0 ≤ f ∧ f < 2)) then (1, 0) else (0, phG a g h f)
/-- the best partner among the first n, its error -/
def ptF (a : Ast) (g f : Int) : Nat → Int × Int
  | 0 => (-1, 0)
  | n + 1 => if (n : Int) = g then ptF a g f n else if (ptF a g f n).1 = -1 ∨ erG a g n f (phG a g n f) < (ptF a g f n).2 then ((n : Int), erG a g n f (phG a g n f)) else ptF a g f n
theorem ptF_s (a : Ast) (g f : Int) {i : Int} (h : 0 ≤ i) : ptF a g f (i + 1).toNat = if i = g then ptF a g f i.toNat else if (ptF a g f i.toNat).1 = -1 ∨ erG a g i f (phG a g i f) < (ptF a g f i.toNat).2 then (i, erG a g i f (phG a g i f)) else ptF a g f i.toNat := by
  obtain ⟨n, rfl⟩ : ∃ n : Nat, i = n := ⟨i.toNat, by omega⟩
  rw [show ((n : Int) + 1).toNat = n + 1 by omega, show ((n : Int)).toNat = n by omega]
  rfl
def oPart (a : Ast) (g f : Int) : Int × Int := if ¬ ((0 ≤ g ∧ g < a.1) ∧ (0 ≤ f ∧ f < 2)) then (1, 0) else (0, (ptF a g f a.1.toNat).1)
def smF (a : Ast) (w : Int) : Nat → Int
  | 0 => 0
  | n + 1 => smF a w n + dvS a n w
theorem smF_s (a : Ast) (w : Int) {i : Int} (h : 0 ≤ i) : smF a w (i + 1).toNat = smF a w i.toNat + dvS a i w := by
  obtain ⟨n, rfl⟩ : ∃ n : Nat, i = n := ⟨i.toNat, by omega⟩
  rw [show ((n : Int) + 1).toNat = n + 1 by omega, show ((n : Int)).toNat = n by omega]
  rfl
def oMean (a : Ast) (w : Int) : Int × Int := if ¬ (0 ≤ w ∧ w < 9) then (1, 0) else (0, smF a w a.1.toNat)
/-- the last of the first n gears that has the place p -/
def rnF (a : Ast) (p : Int) : Nat → Int
  | 0 => 0
  | n + 1 => if rkN (cgS a) (fun g => dvS a g 1) n a.1.toNat = p then (n : Int) else rnF a p n
theorem rnF_s (a : Ast) (p : Int) {i : Int} (h : 0 ≤ i) : rnF a p (i + 1).toNat = if rkN (cgS a) (fun g => dvS a g 1) i a.1.toNat = p then i else rnF a p i.toNat := by
  obtain ⟨n, rfl⟩ : ∃ n : Nat, i = n := ⟨i.toNat, by omega⟩
  rw [show ((n : Int) + 1).toNat = n + 1 by omega, show ((n : Int)).toNat = n by omega]
  rfl
def oRank (a : Ast) (p : Int) : Int × Int := if ¬ (0 ≤ p ∧ p < a.1) then (1, 0) else (0, rnF a p a.1.toNat)
/-! .. of those that change the state: also what is then now -/
def rdPut (rd : Int → Int → Int) (s k v : Int) : Int → Int → Int := fun t j => if t = s ∧ j = k then v else rd t j
def setR (a : Ast) (g s k v : Int) : Ast := (a.1, a.2.1, upF a.2.2.1 g ((a.2.2.1 g).1, (a.2.2.1 g).2.1, rdPut (a.2.2.1 g).2.2 s k v), a.2.2.2)
def putG (a : Ast) (g : Int) (rd : Int → Int → Int) : Ast := (a.1, a.2.1, upF a.2.2.1 g ((a.2.2.1 g).1, (a.2.2.1 g).2.1, rd), a.2.2.2)
def addP (a : Ast) (i v : Int) : Ast := (a.1, a.2.1, a.2.2.1, upF a.2.2.2 i ((a.2.2.2 i).1, (a.2.2.2 i).2.1, (a.2.2.2 i).2.2.1 + 1, ySet (a.2.2.2 i).2.2.2 (a.2.2.2 i).2.2.1 v))
def oAddG (a : Ast) (t m : Int) : Int × Int × Ast := if ¬ isG t m then (1, 0, a) else if ¬ a.1 < 6 then (2, 0, a) else (0, a.1, addG a t m)
def oRemG (a : Ast) (g : Int) : Int × Int × Ast := if ¬ (0 ≤ g ∧ g < a.1) then (1, 0, a) else (0, a.2.1 - (delG a g).2.1, delG a g)
def oSetR (a : Ast) (g s k v : Int) : Int × Int × Ast := if ¬ ((0 ≤ g ∧ g < a.1) ∧ (0 ≤ s ∧ s < 3) ∧ (0 ≤ k ∧ k < szS (a.2.2.1 g).1 s)) then (1, 0, a) else if ¬ (-5000 ≤ v ∧ v ≤ 5000) then (2, 0, a) else (0, (a.2.2.1 g).2.2 s k, setR a g s k v)
def oFill (a : Ast) (g seed sp : Int) : Int × Int × Ast := if ¬ (0 ≤ g ∧ g < a.1) then (1, 0, a) else if ¬ ((0 ≤ seed ∧ seed ≤ 999999) ∧ (0 ≤ sp ∧ sp ≤ 5000)) then (2, 0, a) else (0, fiV seed sp (a.2.2.1 g).1 0 (a.2.2.1 g).1 - fiV seed sp (a.2.2.1 g).1 0 0, putG a g (fiV seed sp (a.2.2.1 g).1))
noncomputable def oTurn (a : Ast) (g k : Int) : Int × Int × Ast := if ¬ ((0 ≤ g ∧ g < a.1) ∧ (0 ≤ k ∧ k < (a.2.2.1 g).1)) then (1, 0, a) else @ite _ (¬ RdIn (a.2.2.1 g).1 (trF (a.2.2.1 g).1 ((a.2.2.1 g).2.2) k)) (Classical.propDecidable _) (2, 0, a) (0, trF (a.2.2.1 g).1 ((a.2.2.1 g).2.2) k 0 0, putG a g (trF (a.2.2.1 g).1 ((a.2.2.1 g).2.2) k))
def oAddL (a : Ast) (g k : Int) : Int × Int × Ast := if ¬ (0 ≤ g ∧ g < a.1) then (1, 0, a) else if ¬ (0 ≤ k ∧ k ≤ 1) then (2, 0, a) else if ¬ a.2.1 < 10 then (3, 0, a) else (0, a.2.1, addL a g k)
def oAddP (a : Ast) (i v : Int) : Int × Int × Ast := if ¬ (0 ≤ i ∧ i < a.2.1) then (1, 0, a) else if ¬ (-5000 ≤ v ∧ v ≤ 5000) then (2, 0, a) else if ¬ (a.2.2.2 i).2.2.1 < 12 then (3, 0, a) else (0, (a.2.2.2 i).2.2.1 + 1, addP a i v)
def oRemL (a : Ast) (i : Int) : Int × Int × Ast := if ¬ (0 ≤ i ∧ i < a.2.1) then (1, 0, a) else (0, a.2.1 - 1, delL a i)
