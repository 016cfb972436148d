/-! numbers: the xor's sign, floor division, rounding -/
def lxI (x y : Int) : Int := (lI x ^^^ lI y).toInt
theorem lxI_lI (x y : Int) : lI x ^^^ lI y = lI (lxI x y) := (lI_of _).symm
theorem lxI_in (x y : Int) : In64 (lxI x y) := in64_of _
theorem i64_neg (x : Int64) : x.toInt < 0 ↔ x.toBitVec.msb = true := by
  show x.toBitVec.toInt < 0 ↔ _
  exact BitVec.toInt_neg_iff.trans (by rw [BitVec.msb_eq_true_iff_two_mul_ge])
theorem lxI_neg {x y : Int} (hx : In64 x) (hy : In64 y) : lxI x y < 0 ↔ ¬ (x < 0 ↔ y < 0) := by
  unfold lxI
  rw [i64_neg, Int64.toBitVec_xor, BitVec.msb_xor]
  have h1 := i64_neg (lI x)
  have h2 := i64_neg (lI y)
  rw [lI_toInt hx] at h1
  rw [lI_toInt hy] at h2
  rw [h1, h2]
  cases (lI x).toBitVec.msb <;> cases (lI y).toBitVec.msb <;> decide
/-- p / q, to the nearest whole number, the greater one of two -/
def rnd (p q : Int) : Int := (2 * p + q) / (2 * q)
/-- the quotient of a positive divisor, rounded to 0, and its rest -/
theorem tdiv_pos {x y : Int} (hy : 0 < y) : ∃ r, x = x.tdiv y * y + r ∧ (0 ≤ x → 0 ≤ r ∧ r < y) ∧ (x < 0 → -y < r ∧ r ≤ 0) := by
  refine ⟨x.tmod y, ?_, ?_, ?_⟩
  · have := Int.mul_tdiv_add_tmod x y
    rw [Int.mul_comm] at this
    omega
  · intro h
    exact ⟨Int.tmod_nonneg _ h, Int.tmod_lt_of_pos _ hy⟩
  · intro h
    have h1 : (-x).tmod y = -(x.tmod y) := Int.neg_tmod _ _
    have h2 := Int.tmod_nonneg y (show 0 ≤ -x by omega)
    have h3 := Int.tmod_lt_of_pos (-x) hy
    omega
theorem ediv_unique {x y q r : Int} (h : x = q * y + r) (h0 : 0 ≤ r) (h1 : r < y) : x / y = q := by
  rw [h, Int.add_comm, Int.add_mul_ediv_right _ _ (by omega), Int.ediv_eq_zero_of_lt h0 h1]
  omega
theorem floor_of_tdiv {x y : Int} (hy : 0 < y) : x / y = if x < 0 ∧ ¬ x.tdiv y * y = x then x.tdiv y - 1 else x.tdiv y := by
  obtain ⟨r, h1, h2, h3⟩ := tdiv_pos (x := x) hy
  by_cases hx : x < 0
  · obtain ⟨h4, h5⟩ := h3 hx
    by_cases hr : r = 0
    · rw [if_neg (fun q => q.2 (by omega))]
      exact ediv_unique h1 (by omega) (by omega)
    · rw [if_pos ⟨hx, fun q => hr (by omega)⟩]
      refine ediv_unique (r := r + y) ?_ (by omega) (by omega)
      rw [Int.sub_mul]
      omega
  · obtain ⟨h4, h5⟩ := h2 (by omega)
    rw [if_neg (fun q => hx q.1)]
    exact ediv_unique h1 h4 h5
/-- the quotient times the divisor is no larger than the number -/
theorem tdiv_mul_in {x y : Int} (hy : 0 < y) : (0 ≤ x → 0 ≤ x.tdiv y * y ∧ x.tdiv y * y ≤ x) ∧ (x < 0 → x ≤ x.tdiv y * y ∧ x.tdiv y * y ≤ 0) := by
  obtain ⟨r, h1, h2, h3⟩ := tdiv_pos (x := x) hy
  refine ⟨fun h => ?_, fun h => ?_⟩
  · obtain ⟨h4, h5⟩ := h2 h
    have h6 : 0 ≤ x.tdiv y := Int.tdiv_nonneg h (by omega)
    have h7 := Int.mul_nonneg h6 (show 0 ≤ y by omega)
    omega
  · obtain ⟨h4, h5⟩ := h3 h
    have h6 : 0 ≤ (-x).tdiv y := Int.tdiv_nonneg (by omega) (by omega)
    rw [Int.neg_tdiv] at h6
    have h7 := Int.mul_nonneg h6 (show 0 ≤ y by omega)
    rw [Int.neg_mul] at h7
    omega
theorem tdiv_le_self {x y : Int} (hy : 0 < y) : (0 ≤ x → 0 ≤ x.tdiv y ∧ x.tdiv y ≤ x) ∧ (x < 0 → x ≤ x.tdiv y ∧ x.tdiv y ≤ 0) := by
  refine ⟨fun h => ⟨Int.tdiv_nonneg h (by omega), Int.tdiv_le_self _ h⟩, fun h => ?_⟩
  have h6 : 0 ≤ (-x).tdiv y := Int.tdiv_nonneg (by omega) (by omega)
  have h7 := Int.tdiv_le_self (a := -x) y (by omega)
  rw [Int.neg_tdiv] at h6 h7
  omega
section R
variable {l : Launch} {G : Gs} {X : Cx} {cc : ByteArray} {nL : Nat} {own : String} {rm0 : Room} {ret0 : Option FieldType} {k n : Nat} {Q : State → Prop} {M : Mem} {pc : Nat} {lv : List (Nat × Value)} {st : List Value}
theorem r_lxor (B : Bx l G X cc nL own rm0 ret0) {x y : Int} (hdg : decode cc pc = .ok (.lxor, 1)) (kk : WM G X k n Q M (pc + 1) lv (.long (lI (lxI x y)) :: st)) : WM G X k n Q M pc lv (.long (lI y) :: .long (lI x) :: st) :=
  fun H locs ls hP hS hl => lv_lxor B.1.1 B.1.2.1 hdg (by rw [lxI_lI]; exact kk H locs ls hP hS hl)
end R
