/-! tolerances, classes, ranks, what is saved -/
/-- the greatest r up to n whose square is at most p -/
def rtN (p : Int) : Nat → Int
  | 0 => 0
  | n + 1 => if ((n : Int) + 1) * ((n : Int) + 1) ≤ p then (n : Int) + 1 else rtN p n
def rtS (p : Int) : Int := rtN p 30
theorem rtN_eq {p r : Int} (h0 : 0 ≤ r) (h1 : r * r ≤ p) (h2 : p < (r + 1) * (r + 1)) : ∀ n : Nat, r ≤ n → rtN p n = r
  | 0, h => by show (0 : Int) = r; omega
  | n + 1, h => by
    show (if ((n : Int) + 1) * ((n : Int) + 1) ≤ p then (n : Int) + 1 else rtN p n) = r
    by_cases w : r = n + 1
    · rw [if_pos (by rw [← w]; exact h1), w]
    · have hn : r + 1 ≤ (n : Int) + 1 := by omega
      have a1 : (r + 1) * (r + 1) ≤ ((n : Int) + 1) * (r + 1) := Int.mul_le_mul_of_nonneg_right hn (by omega)
      have a2 : ((n : Int) + 1) * (r + 1) ≤ ((n : Int) + 1) * ((n : Int) + 1) := Int.mul_le_mul_of_nonneg_left hn (by omega)
      rw [if_neg (by omega)]
      exact rtN_eq h0 h1 h2 n (by omega)
theorem rtN_in (p : Int) : ∀ n : Nat, 0 ≤ rtN p n ∧ rtN p n ≤ n
  | 0 => ⟨Int.le_refl _, Int.le_refl _⟩
  | n + 1 => by
    have := rtN_in p n
    unfold rtN
    split <;> omega
theorem rtS_in (p : Int) : 0 ≤ rtS p ∧ rtS p ≤ 30 := rtN_in p 30
/-- the tolerance of class 5, by module, root, deviation -/
def btR (m r w : Int) : Int :=
  if w = 0 then 30 + 3 * m + r else if w = 1 then 70 + 3 * m + 11 * r else if w = 2 then (70 + 3 * m + 11 * r) * 8 / 10
  else if w = 3 then 40 + 10 * m + r else if w = 4 then (40 + 10 * m + r) * 7 / 10 else if w = 5 then (40 + 10 * m + r) * 8 / 10
  else if w = 6 then 60 + 2 * r else (60 + 2 * r) * 6 / 10
def btS (t m w : Int) : Int := btR m (rtS (m * t)) w
theorem btS_in {t m w : Int} (h1 : 1 ≤ m) (h2 : m ≤ 20) : 0 ≤ btS t m w ∧ btS t m w ≤ 500 := by
  have := rtS_in (m * t)
  unfold btS btR
  split
  · omega
  · split
    · omega
    · split
      · omega
      · split
        · omega
        · split
          · omega
          · split
            · omega
            · split <;> omega
def ocU (v : Int) : Nat → Int
  | 0 => v
  | n + 1 => ocU v n * 1414 / 1000
def ocD (v : Int) : Nat → Int
  | 0 => v
  | n + 1 => ocD v n * 1000 / 1414
def bdU : Nat → Int
  | 0 => 500
  | n + 1 => bdU n * 2
theorem ocU_bd {v : Int} (h0 : 0 ≤ v) (h1 : v ≤ 500) : ∀ n : Nat, 0 ≤ ocU v n ∧ ocU v n ≤ bdU n
  | 0 => ⟨h0, h1⟩
  | n + 1 => by
    have := ocU_bd h0 h1 n
    show 0 ≤ ocU v n * 1414 / 1000 ∧ ocU v n * 1414 / 1000 ≤ bdU n * 2
    omega
theorem bdU_in : ∀ n : Nat, n ≤ 7 → bdU n ≤ 64000
  | 0, _ => by decide
  | 1, _ => by decide
  | 2, _ => by decide
  | 3, _ => by decide
  | 4, _ => by decide
  | 5, _ => by decide
  | 6, _ => by decide
  | 7, _ => by decide
  | n + 8, h => by omega
theorem ocU_in {v : Int} (h0 : 0 ≤ v) (h1 : v ≤ 500) {n : Nat} (hn : n ≤ 7) : 0 ≤ ocU v n ∧ ocU v n ≤ 64000 := by
  have a := ocU_bd h0 h1 n
  have b := bdU_in n hn
  omega
theorem ocD_in {v : Int} (h0 : 0 ≤ v) (h1 : v ≤ 500) : ∀ n : Nat, 0 ≤ ocD v n ∧ ocD v n ≤ 500
  | 0 => ⟨h0, h1⟩
  | n + 1 => by
    have := ocD_in h0 h1 n
    show 0 ≤ ocD v n * 1000 / 1414 ∧ ocD v n * 1000 / 1414 ≤ 500
    omega
theorem ocU_s (v : Int) {i : Int} (h : 5 ≤ i) : ocU v (i + 1 - 5).toNat = ocU v (i - 5).toNat * 1414 / 1000 := by
  rw [show (i + 1 - 5).toNat = (i - 5).toNat + 1 by omega]
  rfl
theorem ocD_s (v : Int) {i : Int} (h : i ≤ 5) : ocD v (5 - (i - 1)).toNat = ocD v (5 - i).toNat * 1000 / 1414 := by
  rw [show (5 - (i - 1)).toNat = (5 - i).toNat + 1 by omega]
  rfl
/-- the tolerance of class q, from that of class 5 -/
def ocS (v q : Int) : Int := if 5 ≤ q then ocU v (q - 5).toNat else ocD v (5 - q).toNat
theorem ocS_in {v q : Int} (h0 : 0 ≤ v) (h1 : v ≤ 500) (hq : q ≤ 12) : 0 ≤ ocS v q ∧ ocS v q ≤ 64000 := by
  unfold ocS
  split
  · exact ocU_in h0 h1 (by omega)
  · have := ocD_in h0 h1 (5 - q).toNat
    omega
/-- the first class, of the last n of the twelve, whose tolerance is not below d; 13 -/
def clF (v d : Int) : Nat → Int
  | 0 => 13
  | n + 1 => if ocS v (12 - n) < d then clF v d n else 12 - n
def clS (v d : Int) : Int := clF v d 12
theorem clF_s (v d : Int) {q : Int} (h : q ≤ 12) : clF v d (13 - q).toNat = if ocS v q < d then clF v d (12 - q).toNat else q := by
  obtain ⟨n, hn⟩ : ∃ n : Nat, 12 - q = n := ⟨(12 - q).toNat, by omega⟩
  rw [show (13 - q).toNat = n + 1 by omega, show (12 - q).toNat = n by omega, show q = 12 - (n : Int) by omega]
  rfl
theorem clF_in (v d : Int) : ∀ n : Nat, n ≤ 12 → 1 ≤ clF v d n ∧ clF v d n ≤ 13
  | 0, _ => by show (1 : Int) ≤ 13 ∧ (13 : Int) ≤ 13; omega
  | n + 1, h => by
    have := clF_in v d n (by omega)
    unfold clF
    split <;> omega
theorem clS_in (v d : Int) : 1 ≤ clS v d ∧ clS v d ≤ 13 := clF_in v d 12 (by omega)
/-- a gear's class by its deviation w -/
def kwS (s : Ast) (g w : Int) : Int := clS (btS (s.2.2.1 g).1 (s.2.2.1 g).2.1 w) (dvS s g w)
/-- a gear's class by its first n deviations -/
def cgF (s : Ast) (g : Int) : Nat → Int
  | 0 => 1
  | n + 1 => max (cgF s g n) (kwS s g n)
def cgS (s : Ast) (g : Int) : Int := cgF s g 9
theorem cgF_s (s : Ast) (g : Int) {i : Int} (h : 0 ≤ i) : cgF s g (i + 1).toNat = max (cgF s g i.toNat) (kwS s g i) := by
  obtain ⟨n, rfl⟩ : ∃ n : Nat, i = n := ⟨i.toNat, by omega⟩
  rw [show ((n : Int) + 1).toNat = n + 1 by omega, show ((n : Int)).toNat = n by omega]
  rfl
theorem kwS_in (s : Ast) (g w : Int) : 1 ≤ kwS s g w ∧ kwS s g w ≤ 13 := clS_in _ _
theorem cgF_in (s : Ast) (g : Int) : ∀ n : Nat, 1 ≤ cgF s g n ∧ cgF s g n ≤ 13
  | 0 => by show (1 : Int) ≤ 1 ∧ (1 : Int) ≤ 13; omega
  | n + 1 => by
    have h1 := cgF_in s g n
    have h2 := kwS_in s g n
    show 1 ≤ max (cgF s g n) (kwS s g n) ∧ max (cgF s g n) (kwS s g n) ≤ 13
    omega
theorem cgS_in (s : Ast) (g : Int) : 1 ≤ cgS s g ∧ cgS s g ≤ 13 := cgF_in s g 9
/-- whether the gear i ranks before the gear j, by rows of classes and ranges -/
def rkB (p x : Int → Int) (i j : Int) : Prop := p i < p j ∨ (p i = p j ∧ (x i < x j ∨ (x i = x j ∧ i < j)))
def rkD (p x : Int → Int) (i j : Int) : Int := if p i < p j then 1 else if p j < p i then 0 else if x i < x j then 1 else if x j < x i then 0 else if i < j then 1 else 0
/-- how many of the first n rank before j -/
def rkN (p x : Int → Int) (j : Int) : Nat → Int
  | 0 => 0
  | n + 1 => rkN p x j n + rkD p x n j
theorem rkD_in (p x : Int → Int) (i j : Int) : 0 ≤ rkD p x i j ∧ rkD p x i j ≤ 1 := by
  unfold rkD
  split
  · omega
  · split
    · omega
    · split
      · omega
      · split
        · omega
        · split <;> omega
theorem rkN_s (p x : Int → Int) (j : Int) {i : Int} (h : 0 ≤ i) : rkN p x j (i + 1).toNat = rkN p x j i.toNat + rkD p x i j := by
  obtain ⟨n, rfl⟩ : ∃ n : Nat, i = n := ⟨i.toNat, by omega⟩
  rw [show ((n : Int) + 1).toNat = n + 1 by omega, show ((n : Int)).toNat = n by omega]
  rfl
theorem rkN_in (p x : Int → Int) (j : Int) : ∀ n : Nat, 0 ≤ rkN p x j n ∧ rkN p x j n ≤ n
  | 0 => ⟨Int.le_refl _, Int.le_refl _⟩
  | n + 1 => by
    have h1 := rkN_in p x j n
    have h2 := rkD_in p x n j
    show 0 ≤ rkN p x j n + rkD p x n j ∧ rkN p x j n + rkD p x n j ≤ ((n + 1 : Nat) : Int)
    omega
/-- the gauge at N -/
def IsGg (G : Gs) (N : Nat) : Prop := At G N 5 0 ∧ IsState G (N + 1) ∧ IsState G (N + 54) ∧ At G (N + 107) 10 4 ∧ (∀ j : Nat, j < 4 → IsState G (N + 108 + 53 * j)) ∧ IsText G (N + 320) ∧ IsMesh G (N + 323) ∧ IsGear G (N + 328) ∧ At G (N + 333) 7 6 ∧ At G (N + 334) 7 6
/-- now, how many are saved, the saved -/
abbrev Gst : Type := Ast × Int × (Int → Ast)
def GgIs (M : Mem) (N : Nat) (s : Gst) : Prop := StateIs M (N + 1) s.1 ∧ gI M N 3 = s.2.1 ∧ RowP M (N + 107) (N + 108) 53 4 ∧ (∀ j : Nat, j < 4 → RowG M (N + 108 + 53 * j) ∧ RowL M (N + 108 + 53 * j)) ∧ (∀ i : Int, 0 ≤ i → i < s.2.1 → StateIs M (gP M (N + 107) i) (s.2.2 i)) ∧ RowG M (N + 54) ∧ RowL M (N + 54)
def GgOk (s : Gst) : Prop := StateOk s.1 ∧ 0 ≤ s.2.1 ∧ s.2.1 ≤ 4 ∧ ∀ i : Int, 0 ≤ i → i < s.2.1 → StateOk (s.2.2 i)
/-- now is saved; of five the oldest goes -/
def savG (s : Gst) : Gst := if 4 ≤ s.2.1 then (s.1, 4, fun i => if i = 3 then s.1 else s.2.2 (i + 1)) else (s.1, s.2.1 + 1, upF s.2.2 s.2.1 s.1)
theorem savG_ok {s : Gst} (h : GgOk s) : GgOk (savG s) := by
  obtain ⟨h1, h2, h3, h4⟩ := h
  unfold savG
  split
  · refine ⟨h1, by show (0 : Int) ≤ 4; omega, by show (4 : Int) ≤ 4; omega, fun i a b => ?_⟩
    have b' : i < 4 := b
    show StateOk (if i = 3 then s.1 else s.2.2 (i + 1))
    by_cases w : i = 3
    · rw [if_pos w]; exact h1
    · rw [if_neg w]; exact h4 _ (by omega) (by omega)
  · refine ⟨h1, by show 0 ≤ s.2.1 + 1; omega, by show s.2.1 + 1 ≤ 4; omega, fun i a b => ?_⟩
    have b' : i < s.2.1 + 1 := b
    show StateOk (upF s.2.2 s.2.1 s.1 i)
    by_cases w : i = s.2.1
    · rw [w, upF_eq]; exact h1
    · rw [upF_ne w]; exact h4 _ a (by omega)
theorem RowS.state {G : Gs} {M : Mem} {N : Nat} (hG : IsGg G N) (h : RowP M (N + 107) (N + 108) 53 4) {i : Int} (h0 : 0 ≤ i) (h1 : i < 4) : IsState G (gP M (N + 107) i) := by
  obtain ⟨j, hj, e⟩ := h.1 i h0 h1
  rw [e]
  exact hG.2.2.2.2.1 j hj
theorem RowS.in {M : Mem} {N : Nat} (h : RowP M (N + 107) (N + 108) 53 4) {i : Int} (h0 : 0 ≤ i) (h1 : i < 4) : N + 108 ≤ gP M (N + 107) i ∧ gP M (N + 107) i + 53 ≤ N + 320 := by
  obtain ⟨j, hj, e⟩ := h.1 i h0 h1
  rw [e]
  omega
theorem RowS.apart {M : Mem} {N : Nat} (h : RowP M (N + 107) (N + 108) 53 4) {i i' : Int} (h0 : 0 ≤ i) (h1 : i < 4) (h2 : 0 ≤ i') (h3 : i' < 4) (hn : i ≠ i') : gP M (N + 107) i + 53 ≤ gP M (N + 107) i' ∨ gP M (N + 107) i' + 53 ≤ gP M (N + 107) i := by
  obtain ⟨j, hj, e⟩ := h.1 i h0 h1
  obtain ⟨j', hj', e'⟩ := h.1 i' h2 h3
  have : j ≠ j' := fun q => hn (h.2 i i' h0 h1 h2 h3 (by rw [e, e', q]))
  rw [e, e']
  omega
/-- what lies in the saved states alone -/
theorem GgIs.kept {M M' : Mem} {N : Nat} {s : Gst} (h : GgIs M N s) (hok : GgOk s) (h0 : gI M' N 3 = gI M N 3) (hs : ∀ c, N + 1 ≤ c → c < N + 320 → Same M M' c) : GgIs M' N s := by
  obtain ⟨h1, h2, h3, h4, h5, h6, h7⟩ := h
  have eP := (hs (N + 107) (by omega) (by omega)).2.2.2
  refine ⟨h1.kept hok.1 (fun c a b => hs c (by omega) (by omega)), by rw [h0]; exact h2, h3.kept eP, fun j hj => ⟨(h4 j hj).1.kept (hs (N + 108 + 53 * j + 1) (by omega) (by omega)).2.2.2, (h4 j hj).2.kept (hs (N + 108 + 53 * j + 2) (by omega) (by omega)).2.2.2⟩, fun i a b => ?_, h6.kept (hs (N + 55) (by omega) (by omega)).2.2.2, h7.kept (hs (N + 56) (by omega) (by omega)).2.2.2⟩
  rw [eP]
  have b4 : i < 4 := by have := hok.2.2.1; omega
  have hi := RowS.in h3 a b4
  exact (h5 i a b).kept (hok.2.2.2 i a b) (fun c p q => hs c (by omega) (by omega))
