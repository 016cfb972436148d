/-! doubles: what is no NaN; rows -/
def nnD (d : FP.Core.Datum) : Prop := match d with
  | .nan => False
  | .inf _ => True
  | .fin _ c q => c < 9007199254740992 ∧ q ≤ 971
def nnN (n : Nat) : Prop := n < 18446744073709551616 ∧ n % 9223372036854775808 ≤ 9218868437227405312
theorem b64_p : FP.Core.b64.p = 53 := rfl
theorem b64_tails : FP.Core.b64.tails = 4503599627370496 := by decide +kernel
theorem b64_exps : FP.Core.b64.exps = 2048 := by decide +kernel
theorem b64_qmin : FP.Core.b64.qmin = -1074 := by decide +kernel
theorem b64_qmax : FP.Core.b64.qmax = 971 := by decide +kernel
theorem nn_bound {s : Bool} {c : Nat} {q : Int} (h : c < 9007199254740992) : nnD (FP.Core.bound FP.Core.b64 s c q) := by
  unfold FP.Core.bound
  split
  · rename_i w
    rw [b64_qmax] at w
    exact ⟨h, w⟩
  · trivial
theorem nn_ratio {s : Bool} {a b : Nat} {e : Int} : nnD (FP.Core.roundRatio FP.Core.b64 s a b e) := by
  unfold FP.Core.roundRatio
  split
  · rw [b64_qmin]
    exact ⟨by decide, by decide⟩
  · unfold FP.Core.roundAt FP.Core.settle
    split
    · rename_i w
      exact nn_bound (by rw [b64_p] at w; exact w)
    · exact nn_bound (by rw [b64_tails]; decide)
theorem nn_enc {d : FP.Core.Datum} (h : nnD d) : nnN (FP.Core.encode FP.Core.b64 d) := by
  unfold FP.Core.encode
  cases d with
  | nan => exact absurd h (by unfold nnD; exact id)
  | inf s =>
    unfold nnN FP.Core.assemble
    simp only [b64_tails, b64_exps]
    cases s <;> simp only [Bool.toNat_true, Bool.toNat_false] <;> omega
  | fin s c q =>
    obtain ⟨h1, h2⟩ := h
    simp only [b64_tails]
    split
    · unfold nnN FP.Core.assemble
      simp only [b64_tails, b64_exps]
      cases s <;> simp only [Bool.toNat_true, Bool.toNat_false] <;> omega
    · unfold nnN FP.Core.assemble
      simp only [b64_tails, b64_exps, b64_qmin]
      cases s <;> simp only [Bool.toNat_true, Bool.toNat_false] <;> omega
theorem nn_dec {n : Nat} (h : nnN n) : FP.Core.decode FP.Core.b64 n ≠ .nan := by
  unfold FP.Core.decode FP.Core.fieldE FP.Core.fieldT
  simp only [b64_tails, b64_exps]
  obtain ⟨h1, h2⟩ := h
  split
  · split
    · exact fun w => by cases w
    · omega
  · split <;> exact fun w => by cases w
theorem nn_quo {x y : FP.Core.Datum} (hx : x ≠ .nan) (hy : ∃ t d r, y = .fin t d r ∧ d ≠ 0) : nnD (FP.Core.quotient FP.Core.b64 x y) := by
  obtain ⟨t, d, r, rfl, hd⟩ := hy
  cases x with
  | nan => exact absurd rfl hx
  | inf s => trivial
  | fin s c q =>
    unfold FP.Core.quotient
    simp only [if_neg hd]
    exact nn_ratio
theorem n64_of {n : Nat} (h : nnN n) : vf_n64 (UInt64.ofNat n) := by
  obtain ⟨h1, h2⟩ := h
  show (UInt64.ofNat n &&& 9223372036854775807 : UInt64) ≤ 9218868437227405312
  rw [UInt64.le_iff_toNat_le, UInt64.toNat_and, UInt64.toNat_ofNat']
  show n % 18446744073709551616 &&& (2 ^ 63 - 1) ≤ 9218868437227405312
  rw [Nat.and_two_pow_sub_one_eq_mod, Nat.mod_eq_of_lt h1]
  exact h2
def finN (d : FP.Core.Datum) : Bool := match d with
  | .fin _ c _ => c != 0
  | _ => false
theorem finN_ex {d : FP.Core.Datum} (h : finN d = true) : ∃ t c r, d = .fin t c r ∧ c ≠ 0 := by
  cases d with
  | nan => cases h
  | inf s => cases h
  | fin t c r => exact ⟨t, c, r, rfl, by simpa [finN] using h⟩
theorem nn_i2d (x : Int32) : nnN (FP.i2d x).toNat := by
  have h : nnN (FP.Core.fromInt FP.Core.b64 x.toInt) := by
    unfold FP.Core.fromInt FP.Core.ofInt FP.Core.round
    exact nn_enc nn_ratio
  show nnN (UInt64.ofNat _).toNat
  rw [UInt64.toNat_ofNat', Nat.mod_eq_of_lt h.1]
  exact h
theorem n64_div {x : Int32} {y : UInt64} (hy : finN (FP.Core.decode FP.Core.b64 y.toNat) = true) : vf_n64 (FP.ddiv (FP.i2d x) y) :=
  n64_of (nn_enc (nn_quo (nn_dec (nn_i2d x)) (finN_ex hy)))
def dvD (x y : Int) : UInt64 := FP.ddiv (FP.i2d (iI x)) (FP.i2d (iI y))
theorem n64_small {x y : Int} (h1 : 1 ≤ y) (h2 : y ≤ 6) : vf_n64 (dvD x y) := by
  refine n64_div ?_
  rcases (show y = 1 ∨ y = 2 ∨ y = 3 ∨ y = 4 ∨ y = 5 ∨ y = 6 by omega) with rfl | rfl | rfl | rfl | rfl | rfl <;> decide +kernel
section R
variable {l : Launch} {G : Gs} {X : Cx} {cc : ByteArray} {nL : Nat} {own : String} {rm0 : Room} {ret0 : Option FieldType} {k n : Nat} {Q : State → Prop} {M : Mem} {pc : Nat} {lv : List (Nat × Value)} {st : List Value}
theorem r_i2d (B : Bx l G X cc nL own rm0 ret0) {x : Int} (hdg : decode cc pc = .ok (.i2d, 1)) (kk : WM G X k n Q M (pc + 1) lv (.double (FP.i2d (iI x)) :: st)) : WM G X k n Q M pc lv (.int (iI x) :: st) :=
  fun H locs ls hP hS hl => lv_i2d B.1.1 B.1.2.1 hdg (kk H locs ls hP hS hl)
theorem r_ddiv (B : Bx l G X cc nL own rm0 ret0) {x y : UInt64} (hdg : decode cc pc = .ok (.ddiv, 1)) (hn : vf_n64 (FP.ddiv x y)) (kk : WM G X k n Q M (pc + 1) lv (.double (FP.ddiv x y) :: st)) : WM G X k n Q M pc lv (.double y :: .double x :: st) :=
  fun H locs ls hP hS hl => lv_ddiv B.1.1 B.1.2.1 hdg hn (kk H locs ls hP hS hl)
theorem r_ldc2d (B : Bx l G X cc nL own rm0 ret0) {i : Nat} {v : UInt64} (hdg : decode cc pc = .ok (.ldc2_w i, 3)) (w : Cond.constantDouble own i v ∈ tG) (kk : WM G X k n Q M (pc + 3) lv (.double v :: st)) : WM G X k n Q M pc lv st :=
  fun H locs ls hP hS hl => lv_ldc2d B.1.1 B.1.2.1 B.1.2.2.2.1 (B.1.2.2.2.2 _ w) hdg (kk H locs ls hP hS hl)
end R
theorem r_dconst0 {l : Launch} {G : Gs} {X : Cx} {cc : ByteArray} {nL : Nat} {own : String} {rm0 : Room} {ret0 : Option FieldType} {k n : Nat} {Q : State → Prop} {M : Mem} {pc : Nat} {lv : List (Nat × Value)} {st : List Value} (B : Bx l G X cc nL own rm0 ret0) (hdg : decode cc pc = .ok (.dconst 0, 1)) (kk : WM G X k n Q M (pc + 1) lv (.double FP.dconst0 :: st)) : WM G X k n Q M pc lv st :=
  fun H locs ls hP hS hl => lv_dconst0 B.1.1 B.1.2.1 hdg (kk H locs ls hP hS hl)
def meanD (a : Ast) (w : Int) : UInt64 := if a.1 < 1 then FP.dconst0 else dvD (smF a w a.1.toNat) a.1
def halfD (v : Int) : UInt64 := FP.ddiv (FP.i2d (iI v)) 4611686018427387904
theorem n64_half (v : Int) : vf_n64 (halfD v) := n64_div (by decide +kernel)
theorem smF_in {a : Ast} (h : StateOk a) (w : Int) : ∀ n : Nat, (n : Int) ≤ a.1 → -1000000000 * (n : Int) ≤ smF a w n ∧ smF a w n ≤ 1000000000 * (n : Int)
  | 0, _ => by show -1000000000 * (0 : Int) ≤ 0 ∧ (0 : Int) ≤ 1000000000 * (0 : Int); omega
  | n + 1, hn => by
    have h1 := smF_in h w n (by omega)
    have h2 := dvS_in h (g := n) (w := w) (by omega) (by omega)
    show -1000000000 * ((n + 1 : Nat) : Int) ≤ smF a w n + dvS a n w ∧ smF a w n + dvS a n w ≤ 1000000000 * ((n + 1 : Nat) : Int)
    omega
