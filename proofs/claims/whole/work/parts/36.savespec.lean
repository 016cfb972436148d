/-! what save leaves alone -/
def SvO (M M' : Mem) (N : Nat) : Prop := ∀ c : Nat, c ≠ N → (c < N + 107 ∨ N + 320 ≤ c) → Same M M' c
theorem SvO.rf {M : Mem} {N : Nat} : SvO M M N := fun c _ _ => Same.rf M c
theorem SvO.tr {M1 M2 M3 : Mem} {N : Nat} (h : SvO M1 M2 N) (k : SvO M2 M3 N) : SvO M1 M3 N := fun c p q => (h c p q).tr (k c p q)
theorem GgIs.rows {M : Mem} {N : Nat} {s : Gst} (h : GgIs M N s) {i : Int} (h0 : 0 ≤ i) (h1 : i < 4) : RowG M (gP M (N + 107) i) ∧ RowL M (gP M (N + 107) i) := by
  obtain ⟨j, hj, e⟩ := h.2.2.1.1 i h0 h1
  rw [e]
  exact h.2.2.2.1 j hj
/-- one more is saved at c -/
theorem GgIs.save {M M1 M2 : Mem} {N : Nat} {a : Ast} {c : Int} {sv : Int → Ast} (h : GgIs M N (a, c, sv)) (hok : GgOk (a, c, sv)) (h0 : 0 ≤ c) (h1 : c < 4) (hS : StateIs M1 (gP M (N + 107) c) a) (hF : Only M M1 (gP M (N + 107) c) (gP M (N + 107) c + 53)) (hRG : ∀ j : Nat, j < 4 → RowG M1 (N + 108 + 53 * j) ∧ RowL M1 (N + 108 + 53 * j)) (e2 : M2 = sI M1 N 3 (c + 1)) : GgIs M2 N (a, c + 1, upF sv c a) ∧ SvO M M2 N := by
  subst e2
  have hb := RowS.in h.2.2.1 h0 h1
  have hq : ∀ d : Nat, d ≠ N → (d < gP M (N + 107) c ∨ gP M (N + 107) c + 53 ≤ d) → Same M (sI M1 N 3 (c + 1)) d := fun d p q => (hF d q).tr (Same.sI p)
  have hq1 : ∀ d : Nat, d ≠ N → Same M1 (sI M1 N 3 (c + 1)) d := fun d p => Same.sI p
  have eP : gP (sI M1 N 3 (c + 1)) (N + 107) = gP M (N + 107) := (hq (N + 107) (by omega) (by omega)).2.2.2
  refine ⟨⟨h.1.kept hok.1 (fun d p q => hq d (by omega) (by omega)), gI_eq, h.2.2.1.kept eP, fun j hj => ⟨(hRG j hj).1.kept (hq1 _ (by omega)).2.2.2, (hRG j hj).2.kept (hq1 _ (by omega)).2.2.2⟩, fun i p q => ?_, h.2.2.2.2.2.1.kept (hq _ (by omega) (by omega)).2.2.2, h.2.2.2.2.2.2.kept (hq _ (by omega) (by omega)).2.2.2⟩, fun d p q => hq d p (by omega)⟩
  have q' : i < c + 1 := q
  rw [eP]
  show StateIs (sI M1 N 3 (c + 1)) (gP M (N + 107) i) (upF sv c a i)
  by_cases w : i = c
  · rw [w, upF_eq]
    exact hS.kept hok.1 (fun d p q => hq1 d (by omega))
  · rw [upF_ne w]
    have h2 := RowS.in h.2.2.1 p (show i < 4 by omega)
    have h3 := RowS.apart h.2.2.1 p (show i < 4 by omega) h0 h1 w
    exact (h.2.2.2.2.1 i p (show i < c by omega)).kept (hok.2.2.2 i p (show i < c by omega)) (fun d p q => hq d (by omega) (by omega))
/-- the rows of the pool, when one state is written -/
theorem GgIs.pool {M M1 : Mem} {N : Nat} {s : Gst} (h : GgIs M N s) {c : Int} (h0 : 0 ≤ c) (h1 : c < 4) (hS : RowG M1 (gP M (N + 107) c) ∧ RowL M1 (gP M (N + 107) c)) (hF : Only M M1 (gP M (N + 107) c) (gP M (N + 107) c + 53)) : ∀ j : Nat, j < 4 → RowG M1 (N + 108 + 53 * j) ∧ RowL M1 (N + 108 + 53 * j) := by
  intro j hj
  obtain ⟨k, hk, e⟩ := h.2.2.1.1 c h0 h1
  rw [e] at hS hF
  by_cases w : j = k
  · rw [w]; exact hS
  · have hr := h.2.2.2.1 j hj
    exact ⟨hr.1.kept (hF _ (by omega)).2.2.2, hr.2.kept (hF _ (by omega)).2.2.2⟩
/-- the oldest goes behind the others -/
theorem GgIs.rot {M M2 : Mem} {N : Nat} {a : Ast} {c : Int} {sv : Int → Ast} (h : GgIs M N (a, c, sv)) (hok : GgOk (a, c, sv)) (hc : c = 4) (hP : ∀ k : Int, gP M2 (N + 107) k = if k = 3 then gP M (N + 107) 0 else if 0 ≤ k ∧ k < 3 then gP M (N + 107) (k + 1) else gP M (N + 107) k) (h3 : gI M2 N 3 = 3) (hF : ∀ d : Nat, d ≠ N → d ≠ N + 107 → Same M M2 d) : GgIs M2 N (a, 3, fun i => sv (i + 1)) := by
  refine ⟨h.1.kept hok.1 (fun d p q => hF d (by omega) (by omega)), h3, h.2.2.1.perm (fun k => if k = 3 then 0 else k + 1) (fun k p q => ⟨?_, ?_, ?_⟩) (fun k k' p q p' q' e => ?_), fun j hj => ⟨(h.2.2.2.1 j hj).1.kept (hF _ (by omega) (by omega)).2.2.2, (h.2.2.2.1 j hj).2.kept (hF _ (by omega) (by omega)).2.2.2⟩, fun i p q => ?_, h.2.2.2.2.2.1.kept (hF _ (by omega) (by omega)).2.2.2, h.2.2.2.2.2.2.kept (hF _ (by omega) (by omega)).2.2.2⟩
  · show 0 ≤ (if k = 3 then (0 : Int) else k + 1)
    split <;> omega
  · show (if k = 3 then (0 : Int) else k + 1) < 4
    split <;> omega
  · rw [hP]
    show _ = gP M (N + 107) (if k = 3 then (0 : Int) else k + 1)
    by_cases w : k = 3
    · rw [if_pos w, if_pos w]
    · rw [if_neg w, if_neg w, if_pos (by omega)]
  · have e' : (if k = 3 then (0 : Int) else k + 1) = if k' = 3 then (0 : Int) else k' + 1 := e
    split at e' <;> split at e' <;> omega
  · have q' : i < 3 := q
    rw [hP, if_neg (by omega), if_pos ⟨p, q'⟩]
    have h2 := RowS.in h.2.2.1 (i := i + 1) (by omega) (by omega)
    exact (h.2.2.2.2.1 (i + 1) (by omega) (by show i + 1 < c; omega)).kept (hok.2.2.2 (i + 1) (by omega) (by show i + 1 < c; omega)) (fun d p q => hF d (by omega) (by omega))
