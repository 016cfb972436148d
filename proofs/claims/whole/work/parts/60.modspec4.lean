/-! two gears in mesh: the walk over the common multiple finds what the classes of teeth find -/
theorem bez (m n : Nat) : ∃ x y : Int, (m : Int) * x + n * y = (Nat.gcd m n : Nat) := by
  induction m, n using Nat.gcd.induction with
  | H0 n => exact ⟨0, 1, by rw [Nat.gcd_zero_left]; omega⟩
  | H1 m n hm ih =>
    obtain ⟨x, y, h⟩ := ih
    refine ⟨y - (n / m : Nat) * x, x, ?_⟩
    rw [Nat.gcd_rec m n, ← h]
    have e : ((n % m : Nat) : Int) = (n : Int) - m * (n / m : Nat) := by
      have w := Nat.div_add_mod n m
      have w2 : ((m * (n / m) + n % m : Nat) : Int) = n := by rw [w]
      rw [Int.natCast_add, Int.natCast_mul] at w2
      omega
    rw [e]
    grind
theorem bezI {a b : Int} (ha : 0 < a) (hb : 0 < b) : ∃ x y : Int, a * x + b * y = (Int.gcd a b : Int) := by
  obtain ⟨x, y, h⟩ := bez a.toNat b.toNat
  refine ⟨x, y, ?_⟩
  have e : Int.gcd a b = Nat.gcd a.toNat b.toNat := by
    unfold Int.gcd
    rw [show a.natAbs = a.toNat by omega, show b.natAbs = b.toNat by omega]
  rw [e, ← h, show ((a.toNat : Nat) : Int) = a by omega, show ((b.toNat : Nat) : Int) = b by omega]
def lcI (a b : Int) : Int := a / (Int.gcd a b : Int) * b
theorem lcI_dvd {a b : Int} (ha : 0 < a) (hb : 0 < b) : a ∣ lcI a b ∧ b ∣ lcI a b ∧ 0 < lcI a b := by
  have h1 : ((Int.gcd a b : Nat) : Int) ∣ a := Int.gcd_dvd_left a b
  have h2 : ((Int.gcd a b : Nat) : Int) ∣ b := Int.gcd_dvd_right a b
  have hp := gcd_z ha hb
  unfold lcI
  generalize ((Int.gcd a b : Nat) : Int) = p at h1 h2 hp
  obtain ⟨u, hu⟩ := h1
  obtain ⟨v, hv⟩ := h2
  have e : a / p = u := by rw [hu]; exact Int.mul_ediv_cancel_left _ (by omega)
  rw [e]
  refine ⟨⟨v, by rw [hu, hv]; grind⟩, ⟨u, by grind⟩, Int.mul_pos ?_ hb⟩
  rcases (show 0 < u ∨ u ≤ 0 by omega) with w | w
  · exact w
  · have := Int.mul_nonpos_of_nonneg_of_nonpos (show 0 ≤ p by omega) w
    omega
/-- teeth of two gears meet when their numbers fit -/
theorem crt {a b i j c : Int} (ha : 0 < a) (hb : 0 < b) (i0 : 0 ≤ i) (i1 : i < a) (j0 : 0 ≤ j) (j1 : j < b) (h : ((Int.gcd a b : Nat) : Int) ∣ j - c - i) : ∃ k : Int, 0 ≤ k ∧ k < lcI a b ∧ k % a = i ∧ (k + c) % b = j := by
  obtain ⟨x, y, hxy⟩ := bezI ha hb
  obtain ⟨d, hd⟩ := h
  obtain ⟨l1, l2, l3⟩ := lcI_dvd ha hb
  refine ⟨(i + a * x * d) % lcI a b, Int.emod_nonneg _ (by omega), Int.emod_lt_of_pos _ l3, ?_, ?_⟩
  · rw [Int.emod_emod_of_dvd _ l1, show i + a * x * d = i + a * (x * d) by grind, Int.add_mul_emod_self_left]
    exact Int.emod_eq_of_lt i0 i1
  · rw [Int.add_emod, Int.emod_emod_of_dvd _ l2, ← Int.add_emod]
    have e : i + a * x * d + c = j + b * (-(y * d)) := by
      rw [← hxy] at hd
      grind
    rw [e, Int.add_mul_emod_self_left]
    exact Int.emod_eq_of_lt j0 j1
theorem mxF_ge (f : Int → Int) : ∀ (n : Nat) (i : Int), 0 ≤ i → i ≤ n → f i ≤ mxF f n
  | 0, i, h0, h1 => by rw [show i = 0 by omega]; exact Int.le_refl _
  | n + 1, i, h0, h1 => by
    show f i ≤ max (mxF f n) (f (n + 1))
    by_cases w : i = n + 1
    · rw [w]; omega
    · have := mxF_ge f n i h0 (by omega); omega
theorem mxF_at (f : Int → Int) : ∀ n : Nat, ∃ i : Int, 0 ≤ i ∧ i ≤ n ∧ mxF f n = f i
  | 0 => ⟨0, by omega, by omega, rfl⟩
  | n + 1 => by
    obtain ⟨i, a, b, c⟩ := mxF_at f n
    show ∃ k : Int, 0 ≤ k ∧ k ≤ ((n + 1 : Nat) : Int) ∧ max (mxF f n) (f (n + 1)) = f k
    rcases (show mxF f n ≤ f (n + 1) ∨ f (n + 1) ≤ mxF f n by omega) with w | w
    · exact ⟨n + 1, by omega, by omega, by omega⟩
    · exact ⟨i, a, by omega, by omega⟩
theorem mnF_le (f : Int → Int) : ∀ (n : Nat) (i : Int), 0 ≤ i → i ≤ n → mnF f n ≤ f i
  | 0, i, h0, h1 => by rw [show i = 0 by omega]; exact Int.le_refl _
  | n + 1, i, h0, h1 => by
    show min (mnF f n) (f (n + 1)) ≤ f i
    by_cases w : i = n + 1
    · rw [w]; omega
    · have := mnF_le f n i h0 (by omega); omega
theorem mnF_at (f : Int → Int) : ∀ n : Nat, ∃ i : Int, 0 ≤ i ∧ i ≤ n ∧ mnF f n = f i
  | 0 => ⟨0, by omega, by omega, rfl⟩
  | n + 1 => by
    obtain ⟨i, a, b, c⟩ := mnF_at f n
    show ∃ k : Int, 0 ≤ k ∧ k ≤ ((n + 1 : Nat) : Int) ∧ min (mnF f n) (f (n + 1)) = f k
    rcases (show mnF f n ≤ f (n + 1) ∨ f (n + 1) ≤ mnF f n by omega) with w | w
    · exact ⟨i, a, by omega, by omega⟩
    · exact ⟨n + 1, by omega, by omega, by omega⟩
theorem cmx_ge (f : Int → Int) {p r : Int} (hr : 0 ≤ r) (hp : r < p) : ∀ (n : Nat) (i : Int), 0 ≤ i → i < n → i % p = r → f i ≤ cmx f p r n
  | 0, i, h0, h1, _ => by omega
  | n + 1, i, h0, h1, h2 => by
    show f i ≤ if (n : Int) % p = r then (if (n : Int) < p then f n else max (cmx f p r n) (f n)) else cmx f p r n
    by_cases w : i = n
    · rw [← w, if_pos h2]
      split <;> omega
    · have ih := cmx_ge f hr hp n i h0 (by omega) h2
      split
      · rename_i q
        split
        · rename_i q2
          rw [Int.emod_eq_of_lt (by omega) q2] at q
          rw [Int.emod_eq_of_lt h0 (by omega)] at h2
          omega
        · omega
      · exact ih
theorem cmx_at (f : Int → Int) {p r : Int} (hr : 0 ≤ r) (hp : r < p) : ∀ n : Nat, r < n → ∃ i : Int, 0 ≤ i ∧ i < n ∧ i % p = r ∧ cmx f p r n = f i
  | 0, h => by omega
  | n + 1, h => by
    show ∃ i : Int, 0 ≤ i ∧ i < ((n + 1 : Nat) : Int) ∧ i % p = r ∧ (if (n : Int) % p = r then (if (n : Int) < p then f n else max (cmx f p r n) (f n)) else cmx f p r n) = f i
    by_cases w : (n : Int) % p = r
    · rw [if_pos w]
      by_cases w2 : (n : Int) < p
      · rw [if_pos w2]
        exact ⟨n, by omega, by omega, w, rfl⟩
      · rw [if_neg w2]
        obtain ⟨i, a, b, c, d⟩ := cmx_at f hr hp n (by omega)
        rcases (show cmx f p r n ≤ f n ∨ f n ≤ cmx f p r n by omega) with q | q
        · exact ⟨n, by omega, by omega, w, by omega⟩
        · exact ⟨i, a, by omega, c, by omega⟩
    · rw [if_neg w]
      have : r ≠ n := fun q => by rw [← q, Int.emod_eq_of_lt hr hp] at w; exact w rfl
      obtain ⟨i, a, b, c, d⟩ := cmx_at f hr hp n (by omega)
      exact ⟨i, a, by omega, c, d⟩
theorem cmn_le (f : Int → Int) {p r : Int} (hr : 0 ≤ r) (hp : r < p) : ∀ (n : Nat) (i : Int), 0 ≤ i → i < n → i % p = r → cmn f p r n ≤ f i
  | 0, i, h0, h1, _ => by omega
  | n + 1, i, h0, h1, h2 => by
    show (if (n : Int) % p = r then (if (n : Int) < p then f n else min (cmn f p r n) (f n)) else cmn f p r n) ≤ f i
    by_cases w : i = n
    · rw [← w, if_pos h2]
      split <;> omega
    · have ih := cmn_le f hr hp n i h0 (by omega) h2
      split
      · rename_i q
        split
        · rename_i q2
          rw [Int.emod_eq_of_lt (by omega) q2] at q
          rw [Int.emod_eq_of_lt h0 (by omega)] at h2
          omega
        · omega
      · exact ih
theorem cmn_at (f : Int → Int) {p r : Int} (hr : 0 ≤ r) (hp : r < p) : ∀ n : Nat, r < n → ∃ i : Int, 0 ≤ i ∧ i < n ∧ i % p = r ∧ cmn f p r n = f i
  | 0, h => by omega
  | n + 1, h => by
    show ∃ i : Int, 0 ≤ i ∧ i < ((n + 1 : Nat) : Int) ∧ i % p = r ∧ (if (n : Int) % p = r then (if (n : Int) < p then f n else min (cmn f p r n) (f n)) else cmn f p r n) = f i
    by_cases w : (n : Int) % p = r
    · rw [if_pos w]
      by_cases w2 : (n : Int) < p
      · rw [if_pos w2]
        exact ⟨n, by omega, by omega, w, rfl⟩
      · rw [if_neg w2]
        obtain ⟨i, a, b, c, d⟩ := cmn_at f hr hp n (by omega)
        rcases (show cmn f p r n ≤ f n ∨ f n ≤ cmn f p r n by omega) with q | q
        · exact ⟨i, a, by omega, c, by omega⟩
        · exact ⟨n, by omega, by omega, w, by omega⟩
    · rw [if_neg w]
      have : r ≠ n := fun q => by rw [← q, Int.emod_eq_of_lt hr hp] at w; exact w rfl
      obtain ⟨i, a, b, c, d⟩ := cmn_at f hr hp n (by omega)
      exact ⟨i, a, by omega, c, d⟩
/-- the sum at step k -/
def wkF (a b : Int) (f h : Int → Int) (c k : Int) : Int := f (k % a) + h ((k + c) % b)
theorem walk_mx {a b c : Int} (f h : Int → Int) (ha : 0 < a) (hb : 0 < b) : mxF (wkF a b f h c) (lcI a b - 1).toNat = mxF (fun r => cmx f (Int.gcd a b : Int) r a.toNat + cmx h (Int.gcd a b : Int) ((r + c) % (Int.gcd a b : Int)) b.toNat) ((Int.gcd a b : Int) - 1).toNat := by
  have hp := gcd_z ha hb
  have d1 : ((Int.gcd a b : Nat) : Int) ∣ a := Int.gcd_dvd_left a b
  have d2 : ((Int.gcd a b : Nat) : Int) ∣ b := Int.gcd_dvd_right a b
  have hl := (lcI_dvd ha hb).2.2
  have hc := fun (i j : Int) (i0 : 0 ≤ i) (i1 : i < a) (j0 : 0 ≤ j) (j1 : j < b) (q : ((Int.gcd a b : Nat) : Int) ∣ j - c - i) => crt (c := c) ha hb i0 i1 j0 j1 q
  generalize hpe : ((Int.gcd a b : Nat) : Int) = p at hp d1 d2 hc
  apply Int.le_antisymm
  · obtain ⟨k, k0, k1, e⟩ := mxF_at (wkF a b f h c) (lcI a b - 1).toNat
    rw [e]
    have r0 := Int.emod_nonneg k (show p ≠ 0 by omega)
    have r1 := Int.emod_lt_of_pos k (show 0 < p by omega)
    have u0 := Int.emod_nonneg k (show a ≠ 0 by omega)
    have u1 := Int.emod_lt_of_pos k ha
    have v0 := Int.emod_nonneg (k + c) (show b ≠ 0 by omega)
    have v1 := Int.emod_lt_of_pos (k + c) hb
    have w0 := Int.emod_nonneg (k % p + c) (show p ≠ 0 by omega)
    have w1 := Int.emod_lt_of_pos (k % p + c) (show 0 < p by omega)
    have g1 := cmx_ge f r0 r1 a.toNat (k % a) u0 (by omega) (Int.emod_emod_of_dvd k d1)
    have g2 := cmx_ge h w0 w1 b.toNat ((k + c) % b) v0 (by omega) (by rw [Int.emod_emod_of_dvd _ d2, Int.emod_add_emod])
    have g3 := mxF_ge (fun r => cmx f p r a.toNat + cmx h p ((r + c) % p) b.toNat) (p - 1).toNat (k % p) r0 (by omega)
    have g4 : cmx f p (k % p) a.toNat + cmx h p ((k % p + c) % p) b.toNat ≤ mxF (fun r => cmx f p r a.toNat + cmx h p ((r + c) % p) b.toNat) (p - 1).toNat := g3
    show f (k % a) + h ((k + c) % b) ≤ _
    omega
  · obtain ⟨r, r0, r1, e⟩ := mxF_at (fun r => cmx f p r a.toNat + cmx h p ((r + c) % p) b.toNat) (p - 1).toNat
    rw [e]
    show cmx f p r a.toNat + cmx h p ((r + c) % p) b.toNat ≤ _
    have w0 := Int.emod_nonneg (r + c) (show p ≠ 0 by omega)
    have w1 := Int.emod_lt_of_pos (r + c) (show 0 < p by omega)
    obtain ⟨i, i0, i1, i2, i3⟩ := cmx_at f r0 (show r < p by omega) a.toNat (by omega)
    obtain ⟨j, j0, j1, j2, j3⟩ := cmx_at h w0 w1 b.toNat (by omega)
    obtain ⟨k, k0, k1, k2, k3⟩ := hc i j i0 (by omega) j0 (by omega) (by
      have q1 : (j - c - i) % p = 0 := by
        have q2 : j % p = (i + c) % p := by rw [j2, Int.add_emod, Int.add_emod i, i2, Int.emod_eq_of_lt r0 (by omega)]
        rw [show j - c - i = j - (i + c) by omega]
        exact Int.emod_eq_emod_iff_emod_sub_eq_zero.mp q2
      exact Int.dvd_of_emod_eq_zero q1)
    have g := mxF_ge (wkF a b f h c) (lcI a b - 1).toNat k k0 (by omega)
    have g2 : f (k % a) + h ((k + c) % b) ≤ mxF (wkF a b f h c) (lcI a b - 1).toNat := g
    rw [k2, k3] at g2
    omega
theorem walk_mn {a b c : Int} (f h : Int → Int) (ha : 0 < a) (hb : 0 < b) : mnF (wkF a b f h c) (lcI a b - 1).toNat = mnF (fun r => cmn f (Int.gcd a b : Int) r a.toNat + cmn h (Int.gcd a b : Int) ((r + c) % (Int.gcd a b : Int)) b.toNat) ((Int.gcd a b : Int) - 1).toNat := by
  have hp := gcd_z ha hb
  have d1 : ((Int.gcd a b : Nat) : Int) ∣ a := Int.gcd_dvd_left a b
  have d2 : ((Int.gcd a b : Nat) : Int) ∣ b := Int.gcd_dvd_right a b
  have hl := (lcI_dvd ha hb).2.2
  have hc := fun (i j : Int) (i0 : 0 ≤ i) (i1 : i < a) (j0 : 0 ≤ j) (j1 : j < b) (q : ((Int.gcd a b : Nat) : Int) ∣ j - c - i) => crt (c := c) ha hb i0 i1 j0 j1 q
  generalize hpe : ((Int.gcd a b : Nat) : Int) = p at hp d1 d2 hc
  apply Int.le_antisymm
  · obtain ⟨r, r0, r1, e⟩ := mnF_at (fun r => cmn f p r a.toNat + cmn h p ((r + c) % p) b.toNat) (p - 1).toNat
    rw [e]
    show _ ≤ cmn f p r a.toNat + cmn h p ((r + c) % p) b.toNat
    have w0 := Int.emod_nonneg (r + c) (show p ≠ 0 by omega)
    have w1 := Int.emod_lt_of_pos (r + c) (show 0 < p by omega)
    obtain ⟨i, i0, i1, i2, i3⟩ := cmn_at f r0 (show r < p by omega) a.toNat (by omega)
    obtain ⟨j, j0, j1, j2, j3⟩ := cmn_at h w0 w1 b.toNat (by omega)
    obtain ⟨k, k0, k1, k2, k3⟩ := hc i j i0 (by omega) j0 (by omega) (by
      have q1 : (j - c - i) % p = 0 := by
        have q2 : j % p = (i + c) % p := by rw [j2, Int.add_emod, Int.add_emod i, i2, Int.emod_eq_of_lt r0 (by omega)]
        rw [show j - c - i = j - (i + c) by omega]
        exact Int.emod_eq_emod_iff_emod_sub_eq_zero.mp q2
      exact Int.dvd_of_emod_eq_zero q1)
    have g := mnF_le (wkF a b f h c) (lcI a b - 1).toNat k k0 (by omega)
    have g2 : mnF (wkF a b f h c) (lcI a b - 1).toNat ≤ f (k % a) + h ((k + c) % b) := g
    rw [k2, k3] at g2
    omega
  · obtain ⟨k, k0, k1, e⟩ := mnF_at (wkF a b f h c) (lcI a b - 1).toNat
    rw [e]
    have r0 := Int.emod_nonneg k (show p ≠ 0 by omega)
    have r1 := Int.emod_lt_of_pos k (show 0 < p by omega)
    have u0 := Int.emod_nonneg k (show a ≠ 0 by omega)
    have u1 := Int.emod_lt_of_pos k ha
    have v0 := Int.emod_nonneg (k + c) (show b ≠ 0 by omega)
    have v1 := Int.emod_lt_of_pos (k + c) hb
    have w0 := Int.emod_nonneg (k % p + c) (show p ≠ 0 by omega)
    have w1 := Int.emod_lt_of_pos (k % p + c) (show 0 < p by omega)
    have g1 := cmn_le f r0 r1 a.toNat (k % a) u0 (by omega) (Int.emod_emod_of_dvd k d1)
    have g2 := cmn_le h w0 w1 b.toNat ((k + c) % b) v0 (by omega) (by rw [Int.emod_emod_of_dvd _ d2, Int.emod_add_emod])
    have g3 := mnF_le (fun r => cmn f p r a.toNat + cmn h p ((r + c) % p) b.toNat) (p - 1).toNat (k % p) r0 (by omega)
    have g4 : mnF (fun r => cmn f p r a.toNat + cmn h p ((r + c) % p) b.toNat) (p - 1).toNat ≤ cmn f p (k % p) a.toNat + cmn h p ((k % p + c) % p) b.toNat := g3
    show _ ≤ f (k % a) + h ((k + c) % b)
    omega
theorem walk_er (a : Ast) (g k f ph : Int) (ha : 0 < (a.2.2.1 g).1) (hb : 0 < (a.2.2.1 k).1) : mxF (wkF (a.2.2.1 g).1 (a.2.2.1 k).1 (ixS (a.2.2.1 g).1 ((a.2.2.1 g).2.2 f)) (ixS (a.2.2.1 k).1 ((a.2.2.1 k).2.2 f)) ph) (lcI (a.2.2.1 g).1 (a.2.2.1 k).1 - 1).toNat - mnF (wkF (a.2.2.1 g).1 (a.2.2.1 k).1 (ixS (a.2.2.1 g).1 ((a.2.2.1 g).2.2 f)) (ixS (a.2.2.1 k).1 ((a.2.2.1 k).2.2 f)) ph) (lcI (a.2.2.1 g).1 (a.2.2.1 k).1 - 1).toNat = erG a g k f ph := by
  rw [walk_mx _ _ ha hb, walk_mn _ _ ha hb]
  rfl
theorem psF_le (e : Int → Int) : ∀ (n : Nat) (j : Int), 0 ≤ j → j ≤ n → e (psF e n) ≤ e j
  | 0, j, h0, h1 => by rw [show j = 0 by omega]; exact Int.le_refl _
  | n + 1, j, h0, h1 => by
    have h2 : psF e (n + 1) = if e (n + 1) < e (psF e n) then (n : Int) + 1 else psF e n := rfl
    rw [h2]
    by_cases w : j = n + 1
    · rw [w]; split <;> omega
    · have := psF_le e n j h0 (by omega)
      split <;> omega
/-- the phases repeat with the period -/
theorem psF_per (e : Int → Int) {p : Int} (hp : 1 ≤ p) (he : ∀ k : Int, e k = e (k % p)) : ∀ n : Nat, p - 1 ≤ n → psF e n = psF e (p - 1).toNat
  | 0, h => by rw [show (p - 1).toNat = 0 by omega]
  | n + 1, h => by
    rcases (show p - 1 = ((n + 1 : Nat) : Int) ∨ p - 1 ≤ n by omega) with w | w
    · rw [show (p - 1).toNat = n + 1 by omega]
    · have ih := psF_per e hp he n w
      have h2 : psF e (n + 1) = if e (n + 1) < e (psF e n) then (n : Int) + 1 else psF e n := rfl
      have r0 := Int.emod_nonneg ((n : Int) + 1) (show p ≠ 0 by omega)
      have r1 := Int.emod_lt_of_pos ((n : Int) + 1) (show 0 < p by omega)
      have h3 := psF_le e n (((n : Int) + 1) % p) r0 (by omega)
      rw [← he] at h3
      rw [h2, if_neg (by omega), ih]
theorem erG_per (a : Ast) (g k f : Int) (ph : Int) : erG a g k f ph = erG a g k f (ph % gcG a g k) := by
  have e : ∀ r : Int, (r + ph) % gcG a g k = (r + ph % gcG a g k) % gcG a g k := fun r => by rw [Int.add_emod, Int.add_emod r (ph % gcG a g k), Int.emod_emod_of_dvd _ ⟨1, by omega⟩]
  unfold erG erS
  simp only [e]
theorem phG_eq {a : Ast} (h : StateOk a) {g k f : Int} (g0 : 0 ≤ g) (g1 : g < a.1) (k0 : 0 ≤ k) (k1 : k < a.1) : psF (erG a g k f) ((a.2.2.1 k).1 - 1).toNat = phG a g k f := by
  have hp := gcG_in h g0 g1 k0 k1
  exact psF_per _ hp.1 (erG_per a g k f) _ (by omega)
def Laid (M : Mem) (m : Nat) (a : Ast) (g k f : Int) : Prop := (∀ i : Int, 0 ≤ i → i < (a.2.2.1 g).1 → gI M (m + 5) i = ixS (a.2.2.1 g).1 ((a.2.2.1 g).2.2 f) i) ∧ ∀ i : Int, 0 ≤ i → i < (a.2.2.1 k).1 → gI M (m + 6) i = ixS (a.2.2.1 k).1 ((a.2.2.1 k).2.2 f) i
theorem Only.mds {M M' : Mem} {m : Nat} {s : Ast} (h : Only M M' (m + 5) (m + 7)) (k : MdS M m s) : MdS M' m s := by
  unfold MdS
  rw [(h (m + 1) (by omega)).1]
  exact k
theorem lcI_in {a b : Int} (ha : 0 < a) (hb : 0 < b) (ha1 : a ≤ 30) (hb1 : b ≤ 30) : 1 ≤ lcI a b ∧ lcI a b ≤ 900 := by
  have hp := gcd_z ha hb
  have h := (lcI_dvd ha hb).2.2
  refine ⟨h, ?_⟩
  have h0 : 0 ≤ a / (Int.gcd a b : Int) := Int.ediv_nonneg (by omega) (by omega)
  have h1 : a / (Int.gcd a b : Int) ≤ a := Int.ediv_le_self _ (by omega)
  have := mulB (x := a / (Int.gcd a b : Int)) (y := b) (A := 30) (C := 30) (by omega) (by omega) (by omega) (by omega) (by omega)
  unfold lcI
  omega
theorem wkF_in {a b c A : Int} {f h : Int → Int} (ha : 0 < a) (hb : 0 < b) (hf : ∀ i : Int, 0 ≤ i → i < a → -A ≤ f i ∧ f i ≤ A) (hh : ∀ i : Int, 0 ≤ i → i < b → -A ≤ h i ∧ h i ≤ A) (k : Int) : -(2 * A) ≤ wkF a b f h c k ∧ wkF a b f h c k ≤ 2 * A := by
  have a1 := hf (k % a) (Int.emod_nonneg _ (by omega)) (Int.emod_lt_of_pos _ ha)
  have a2 := hh ((k + c) % b) (Int.emod_nonneg _ (by omega)) (Int.emod_lt_of_pos _ hb)
  unfold wkF
  omega
