/-! numbers: the xor's sign, floor division, rounding -/
def lxI (x y : Int) : Int := (lI x ^^^ lI y).toInt
theorem lxI_lI (x y : Int) : lI x ^^^ lI y = lI (lxI x y) := (lI_of _).symm
theorem lxI_in (x y : Int) : In64 (lxI x y) := in64_of _
theorem i64_neg (x : Int64) : x.toInt < 0 ↔ x.toBitVec.msb = true := by
  show x.toBitVec.toInt < 0 ↔ _
  exact BitVec.toInt_neg_iff.trans (by rw [BitVec.msb_eq_true_iff_two_mul_ge])
theorem lxI_neg {x y : Int} (hx : In64 x) (hy : In64 y) : lxI x y < 0 ↔ ¬ (x < 0 ↔ y < 0) := by
  unfold lxI
  rw [i64_neg, Int64.toBitVec_xor, BitVec.msb_xor]
  have h1 := i64_neg (lI x)
  have h2 := i64_neg (lI y)
  rw [lI_toInt hx] at h1
  rw [lI_toInt hy] at h2
  rw [h1, h2]
  cases (lI x).toBitVec.msb <;> cases (lI y).toBitVec.msb <;> decide
/-- p / q, to the nearest whole number, the greater one of two -/
def rnd (p q : Int) : Int := (2 * p + q) / (2 * q)
/-- the quotient of a positive divisor, rounded to 0, and its rest -/
theorem tdiv_pos {x y : Int} (hy : 0 < y) : ∃ r, x = x.tdiv y * y + r ∧ (0 ≤ x → 0 ≤ r ∧ r < y) ∧ (x < 0 → -y < r ∧ r ≤ 0) := by
  refine ⟨x.tmod y, ?_, ?_, ?_⟩
  · have := Int.mul_tdiv_add_tmod x y
    rw [Int.mul_comm] at this
    omega
  · intro h
    exact ⟨Int.tmod_nonneg _ h, Int.tmod_lt_of_pos _ hy⟩
  · intro h
    have h1 : (-x).tmod y = -(x.tmod y) := Int.neg_tmod _ _
    have h2 := Int.tmod_nonneg y (show 0 ≤ -x by omega)
    have h3 := Int.tmod_lt_of_pos (-x) hy
    omega
theorem ediv_unique {x y q r : Int} (h : x = q * y + r) (h0 : 0 ≤ r) (h1 : r < y) : x / y = q := by
  rw [h, Int.add_comm, Int.add_mul_ediv_right _ _ (by omega), Int.ediv_eq_zero_of_lt h0 h1]
  omega
theorem floor_of_tdiv {x y : Int} (hy : 0 < y) : x / y = if x < 0 ∧ ¬ x.tdiv y * y = x then x.tdiv y - 1 else x.tdiv y := by
  obtain ⟨r, h1, h2, h3⟩ := tdiv_pos (x := x) hy
  by_cases hx : x < 0
  · obtain ⟨h4, h5⟩ := h3 hx
    by_cases hr : r = 0
    · rw [if_neg (fun q => q.2 (by omega))]
      exact ediv_unique h1 (by omega) (by omega)
    · rw [if_pos ⟨hx, fun q => hr (by omega)⟩]
      refine ediv_unique (r := r + y) ?_ (by omega) (by omega)
      rw [Int.sub_mul]
      omega
  · obtain ⟨h4, h5⟩ := h2 (by omega)
    rw [if_neg (fun q => hx q.1)]
    exact ediv_unique h1 h4 h5
/-- the quotient times the divisor is no larger than the number -/
theorem tdiv_mul_in {x y : Int} (hy : 0 < y) : (0 ≤ x → 0 ≤ x.tdiv y * y ∧ x.tdiv y * y ≤ x) ∧ (x < 0 → x ≤ x.tdiv y * y ∧ x.tdiv y * y ≤ 0) := by
  obtain ⟨r, h1, h2, h3⟩ := tdiv_pos (x := x) hy
  refine ⟨fun h => ?_, fun h => ?_⟩
  · obtain ⟨h4, h5⟩ := h2 h
    have h6 : 0 ≤ x.tdiv y := Int.tdiv_nonneg h (by omega)
    have h7 := Int.mul_nonneg h6 (show 0 ≤ y by omega)
    omega
  · obtain ⟨h4, h5⟩ := h3 h
    have h6 : 0 ≤ (-x).tdiv y := Int.tdiv_nonneg (by omega) (by omega)
    rw [Int.neg_tdiv] at h6
    have h7 := Int.mul_nonneg h6 (show 0 ≤ y by omega)
    rw [Int.neg_mul] at h7
    omega
theorem tdiv_le_self {x y : Int} (hy : 0 < y) : (0 ≤ x → 0 ≤ x.tdiv y ∧ x.tdiv y ≤ x) ∧ (x < 0 → x ≤ x.tdiv y ∧ x.tdiv y ≤ 0) := by
  refine ⟨fun h => ⟨Int.tdiv_nonneg h (by omega), Int.tdiv_le_self _ h⟩, fun h => ?_⟩
  have h6 : 0 ≤ (-x).tdiv y := Int.tdiv_nonneg (by omega) (by omega)
  have h7 := Int.tdiv_le_self (a := -x) y (by omega)
  rw [Int.neg_tdiv] at h6 h7
  omega
section R
variable {l : Launch} {G : Gs} {X : Cx} {cc : ByteArray} {nL : Nat} {own : String} {rm0 : Room} {ret0 : Option FieldType} {k n : Nat} {Q : State → Prop} {M : Mem} {pc : Nat} {lv : List (Nat × Value)} {st : List Value}
theorem r_lxor (B : Bx l G X cc nL own rm0 ret0) {x y : Int} (hdg : decode cc pc = .ok (.lxor, 1)) (kk : WM G X k n Q M (pc + 1) lv (.long (lI (lxI x y)) :: st)) : WM G X k n Q M pc lv (.long (lI y) :: .long (lI x) :: st) :=
  fun H locs ls hP hS hl => lv_lxor B.1.1 B.1.2.1 hdg (by rw [lxI_lI]; exact kk H locs ls hP hS hl)
end R
section R
variable {l : Launch} {G : Gs} {X : Cx} {cc : ByteArray} {nL : Nat} {own : String} {rm0 : Room} {ret0 : Option FieldType} {k n : Nat} {Q : State → Prop} {M : Mem} {pc : Nat} {lv : List (Nat × Value)} {st : List Value}
theorem r_look (B : Bx l G X cc nL own rm0 ret0) {dflt : Int} {ps : Array (Int × Int)} {len : Nat} {x off : Int} {tgt : Nat} (hdg : decode cc pc = .ok (.lookupswitch dflt ps, len)) (hs : (ps.toList.zip (ps.toList.drop 1)).all (fun (a, next) => a.1 < next.1) = true) (hx : In32 x) (ho : Op.lookupswitch.offset ps.toList dflt x = off) (ht : (pc : Int) + off = (tgt : Int)) (kk : WM G X k n Q M tgt lv st) : WM G X k n Q M pc lv (.int (iI x) :: st) :=
  fun H locs ls hP hS hl => lv_lookup B.1.1 B.1.2.1 hdg hs (by rw [iI_toInt hx]; exact ho) ht (kk H locs ls hP hS hl)
theorem r_tabIn (B : Bx l G X cc nL own rm0 ret0) {dflt lo hi : Int} {offs : Array Int} {len : Nat} {x off : Int} {tgt : Nat} (hdg : decode cc pc = .ok (.tableswitch dflt lo hi offs, len)) (hx : In32 x) (h1 : lo ≤ x) (h2 : x ≤ hi) (ho : offs[(x - lo).toNat]? = some off) (ht : (pc : Int) + off = (tgt : Int)) (kk : WM G X k n Q M tgt lv st) : WM G X k n Q M pc lv (.int (iI x) :: st) :=
  fun H locs ls hP hS hl => lv_tableIn B.1.1 B.1.2.1 hdg (by rw [iI_toInt hx]; omega) (by rw [iI_toInt hx]; omega) (by rw [iI_toInt hx]; exact ho) ht (kk H locs ls hP hS hl)
theorem r_tabOut (B : Bx l G X cc nL own rm0 ret0) {dflt lo hi : Int} {offs : Array Int} {len : Nat} {x : Int} {tgt : Nat} (hdg : decode cc pc = .ok (.tableswitch dflt lo hi offs, len)) (hx : In32 x) (h : x < lo ∨ hi < x) (ht : (pc : Int) + dflt = (tgt : Int)) (kk : WM G X k n Q M tgt lv st) : WM G X k n Q M pc lv (.int (iI x) :: st) :=
  fun H locs ls hP hS hl => lv_tableOut B.1.1 B.1.2.1 hdg (by rw [iI_toInt hx]; exact h) ht (kk H locs ls hP hS hl)
end R
theorem mulB {x y A C : Int} (hA : 0 ≤ A) (h1 : -A ≤ x) (h2 : x ≤ A) (h3 : -C ≤ y) (h4 : y ≤ C) : -(A * C) ≤ x * y ∧ x * y ≤ A * C := by
  have hC : 0 ≤ C := by omega
  rcases (show 0 ≤ y ∨ y ≤ 0 by omega) with h | h
  · have a1 : x * y ≤ A * y := Int.mul_le_mul_of_nonneg_right h2 h
    have a2 : A * y ≤ A * C := Int.mul_le_mul_of_nonneg_left h4 hA
    have a3 : (-A) * y ≤ x * y := Int.mul_le_mul_of_nonneg_right h1 h
    rw [Int.neg_mul] at a3
    omega
  · have a1 : x * (-y) ≤ A * (-y) := Int.mul_le_mul_of_nonneg_right h2 (by omega)
    have a2 : A * (-y) ≤ A * C := Int.mul_le_mul_of_nonneg_left (by omega) hA
    have a3 : (-A) * (-y) ≤ x * (-y) := Int.mul_le_mul_of_nonneg_right h1 (by omega)
    simp only [Int.mul_neg, Int.neg_mul, Int.neg_neg] at a1 a2 a3
    omega
/-- f 0 + .. + f (n - 1) -/
def sumF (f : Int → Int) : Nat → Int
  | 0 => 0
  | n + 1 => sumF f n + f n
theorem sumF_s (f : Int → Int) {i : Int} (h : 0 ≤ i) : sumF f (i + 1).toNat = sumF f i.toNat + f i := by
  obtain ⟨n, rfl⟩ : ∃ n : Nat, i = n := ⟨i.toNat, by omega⟩
  rw [show ((n : Int) + 1).toNat = n + 1 by omega, show ((n : Int)).toNat = n by omega]
  rfl
theorem sumF_in {f : Int → Int} {L U : Int} : ∀ n : Nat, (∀ i : Int, 0 ≤ i → i < n → L ≤ f i ∧ f i ≤ U) → n * L ≤ sumF f n ∧ sumF f n ≤ n * U
  | 0, _ => by show (0 : Int) * L ≤ 0 ∧ 0 ≤ (0 : Int) * U; omega
  | n + 1, h => by
    have h1 := sumF_in n (fun i a b => h i a (by omega))
    have h2 := h n (by omega) (by omega)
    show ((n + 1 : Nat) : Int) * L ≤ sumF f n + f n ∧ sumF f n + f n ≤ ((n + 1 : Nat) : Int) * U
    rw [Int.natCast_add, Int.add_mul, Int.add_mul]
    omega
theorem sumF_congr {f g : Int → Int} : ∀ n : Nat, (∀ i : Int, 0 ≤ i → i < n → f i = g i) → sumF f n = sumF g n
  | 0, _ => rfl
  | n + 1, h => by
    show sumF f n + f n = sumF g n + g n
    rw [sumF_congr n (fun i a b => h i a (by omega)), h n (by omega) (by omega)]
