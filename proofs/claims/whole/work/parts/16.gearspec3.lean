/-! a gear that is written -/
theorem gI_eq {M : Mem} {a : Nat} {k v : Int} : gI (sI M a k v) a k = v := by rw [gI_sI, if_pos ⟨rfl, rfl⟩]
theorem gI_ne {M : Mem} {a b : Nat} {k v j : Int} (h : b ≠ a) : gI (sI M a k v) b j = gI M b j := by rw [gI_sI, if_neg (fun q => h q.1)]
theorem gI_nk {M : Mem} {a b : Nat} {k v j : Int} (h : j ≠ k) : gI (sI M a k v) b j = gI M b j := by rw [gI_sI, if_neg (fun q => h q.2)]
theorem gL_eq {M : Mem} {a : Nat} {k v : Int} : gL (sL M a k v) a k = v := by rw [gL_sL, if_pos ⟨rfl, rfl⟩]
theorem gL_ne {M : Mem} {a b : Nat} {k v j : Int} (h : b ≠ a) : gL (sL M a k v) b j = gL M b j := by rw [gL_sL, if_neg (fun q => h q.1)]
theorem gL_nk {M : Mem} {a b : Nat} {k v j : Int} (h : j ≠ k) : gL (sL M a k v) b j = gL M b j := by rw [gL_sL, if_neg (fun q => h q.2)]
theorem gP_eq {M : Mem} {a : Nat} {k : Int} {v : Nat} : gP (sP M a k v) a k = v := by rw [gP_sP, if_pos ⟨rfl, rfl⟩]
theorem gP_ne {M : Mem} {a b : Nat} {k j : Int} {v : Nat} (h : b ≠ a) : gP (sP M a k v) b j = gP M b j := by rw [gP_sP, if_neg (fun q => h q.1)]
theorem gP_nk {M : Mem} {a b : Nat} {k j : Int} {v : Nat} (h : j ≠ k) : gP (sP M a k v) b j = gP M b j := by rw [gP_sP, if_neg (fun q => h q.2)]
theorem gI_cp_ne {M : Mem} {a b c : Nat} {sp dp n j : Int} (h : c ≠ b) : gI (cpI M a sp b dp n) c j = gI M c j := by rw [gI_cpI, if_neg (fun q => h q.1)]
/-- nothing but the cells from a on, below b, has changed -/
def Only (M M' : Mem) (a b : Nat) : Prop := ∀ c : Nat, (c < a ∨ b ≤ c) → Same M M' c
theorem Only.rf {M : Mem} {a b : Nat} : Only M M a b := fun c _ => Same.rf M c
theorem Only.tr {M1 M2 M3 : Mem} {a b : Nat} (h : Only M1 M2 a b) (k : Only M2 M3 a b) : Only M1 M3 a b := fun c hc => (h c hc).tr (k c hc)
theorem Only.sI {M : Mem} {a b c : Nat} {k v : Int} (h1 : a ≤ c) (h2 : c < b) : Only M (sI M c k v) a b := fun d hd => Same.sI (by omega)
theorem Only.sL {M : Mem} {a b c : Nat} {k v : Int} (h1 : a ≤ c) (h2 : c < b) : Only M (sL M c k v) a b := fun d hd => Same.sL (by omega)
theorem Only.sD {M : Mem} {a b c : Nat} {k : Int} {v : UInt64} (h1 : a ≤ c) (h2 : c < b) : Only M (sD M c k v) a b := fun d hd => Same.sD (by omega)
theorem Only.sP {M : Mem} {a b c : Nat} {k : Int} {v : Nat} (h1 : a ≤ c) (h2 : c < b) : Only M (sP M c k v) a b := fun d hd => Same.sP (by omega)
theorem Only.cpI {M : Mem} {a b c d : Nat} {sp dp n : Int} (h1 : a ≤ d) (h2 : d < b) : Only M (cpI M c sp d dp n) a b := fun e he => Same.cpI (by omega)
theorem Only.wide {M M' : Mem} {a b a' b' : Nat} (h : Only M M' a b) (h1 : a' ≤ a) (h2 : b ≤ b') : Only M M' a' b' := fun c hc => h c (by omega)
theorem GearIs.kept {M M' : Mem} {g : Nat} {z m : Int} {rd : Int → Int → Int} (h : GearIs M g z m rd) (hs : ∀ c, g ≤ c → c < g + 5 → Same M M' c) : GearIs M' g z m rd := by
  obtain ⟨h1, h2, h3⟩ := h
  refine ⟨by rw [(hs g (by omega) (by omega)).1]; exact h1, by rw [(hs g (by omega) (by omega)).1]; exact h2, fun s k a b c d => ?_⟩
  rw [(hs (g + 1 + 1 + s.toNat) (by omega) (by omega)).1]
  exact h3 s k a b c d
/-- 1 where a reading is in range -/
def inB (v : Int) : Int := if -5000 ≤ v ∧ v ≤ 5000 then 1 else 0
def RdIn (z : Int) (rd : Int → Int → Int) : Prop := ∀ s k : Int, 0 ≤ s → s < 3 → 0 ≤ k → k < szS z s → -5000 ≤ rd s k ∧ rd s k ≤ 5000
/-- the readings of a gear that is turned by k teeth -/
def trF (z : Int) (rd : Int → Int → Int) (k s i : Int) : Int := if z ≤ k + i then rd s (k + i - z) + (if s = 2 then 0 else rd s z - rd s 0) else rd s (k + i)
/-- the filling numbers -/
def lcg (s : Int) : Int := (1103515245 * s + 12345) % 2147483648
def lcgN (s : Int) : Nat → Int
  | 0 => s
  | n + 1 => lcg (lcgN s n)
/-- how many numbers come before the reading k of the series s -/
def fiP (z s k : Int) : Int := if s = 0 then k else if s = 1 then z + 1 + k else 2 * (z + 1) + k
def fiV (seed sp z s k : Int) : Int := lcgN seed (fiP z s k + 1).toNat / 65536 % (2 * sp + 1) - sp
theorem lcg_in (s : Int) : 0 ≤ lcg s ∧ lcg s < 2147483648 := ⟨Int.emod_nonneg _ (by omega), Int.emod_lt_of_pos _ (by omega)⟩
theorem lcgN_in {s : Int} (h0 : 0 ≤ s) (h1 : s < 2147483648) : ∀ n : Nat, 0 ≤ lcgN s n ∧ lcgN s n < 2147483648
  | 0 => ⟨h0, h1⟩
  | n + 1 => lcg_in _
theorem lcgN_s (s : Int) {p : Int} (h : 0 ≤ p) : lcgN s (p + 1).toNat = lcg (lcgN s p.toNat) := by
  obtain ⟨n, rfl⟩ : ∃ n : Nat, p = n := ⟨p.toNat, by omega⟩
  rw [show ((n : Int) + 1).toNat = n + 1 by omega, show ((n : Int)).toNat = n by omega]
  rfl
theorem fiP_nn {z s k : Int} (hz : 0 ≤ z) (h0 : 0 ≤ s) (h1 : s < 3) (hk : 0 ≤ k) : 0 ≤ fiP z s k := by
  unfold fiP
  split
  · omega
  · split <;> omega
theorem fiP_s {z s k : Int} : fiP z s (k + 1) = fiP z s k + 1 := by
  unfold fiP
  split
  · omega
  · split <;> omega
theorem fiP_n {z s : Int} (h0 : 0 ≤ s) (h1 : s < 2) : fiP z (s + 1) 0 = fiP z s (szS z s) := by
  rw [szS_fl h1]
  unfold fiP
  rcases (show s = 0 ∨ s = 1 by omega) with rfl | rfl <;> simp <;> omega
theorem fiV_in {seed sp z s k : Int} (h : 0 ≤ sp) : -sp ≤ fiV seed sp z s k ∧ fiV seed sp z s k ≤ sp := by
  unfold fiV
  have a1 := Int.emod_nonneg (lcgN seed (fiP z s k + 1).toNat / 65536) (show 2 * sp + 1 ≠ 0 by omega)
  have a2 := Int.emod_lt_of_pos (lcgN seed (fiP z s k + 1).toNat / 65536) (show 0 < 2 * sp + 1 by omega)
  omega
theorem gI_cp_eq {M : Mem} {a b : Nat} {n j : Int} (h0 : 0 ≤ j) (h1 : j < n) : gI (cpI M a 0 b 0 n) b j = gI M a j := by
  rw [gI_cpI, if_pos ⟨rfl, h0, by omega⟩]
  congr 1
  omega
theorem Only.at {M M' : Mem} {a b c : Nat} (h : Only M M' a b) (k : Int) (hc : c < a ∨ b ≤ c) : gI M' c k = gI M c k := by rw [(h c hc).1]
theorem GearIs.only {M M' : Mem} {o a b : Nat} {z m : Int} {rd : Int → Int → Int} (h : GearIs M o z m rd) (k : Only M M' a b) (hd : o + 5 ≤ a ∨ b ≤ o) : GearIs M' o z m rd := h.kept (fun c h1 h2 => k c (by omega))
