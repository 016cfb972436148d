set_option maxRecDepth 100000 in
set_option maxHeartbeats 4000000 in
theorem c_X5_save (l : Launch) (G : Gs) (M : Mem) (N : Nat) (a : Ast) (cn : Int) (sv : Int → Ast) (hG : IsGg G N) (hA : GgIs M N (a, cn, sv)) (hok : GgOk (a, cn, sv)) : Ct l G yX5_save cX5_save 3 (none) rm_X5_save [.ref N] M (PoV G (fun M' => GgIs M' N (savG (a, cn, sv)) ∧ SvO M M' N)) 0 0 := by
  refine Ct.of (by decide +kernel) (Nat.le_of_ble_eq_true rfl) [(0, .ref N)] rfl ?_
  intro X B
  have hc0 : 0 ≤ cn := hok.2.1
  have hc4 : cn ≤ 4 := hok.2.2.1
  have h54 : ∀ (Mr : Mem) (c : Int) (tv : Int → Ast), 0 ≤ c → c < 4 → GgIs Mr N (a, c, tv) → GgOk (a, c, tv) → SvO M Mr N → savG (a, cn, sv) = (a, c + 1, upF tv c a) → WM G X 0 0 (bM X (PoV G (fun M' => GgIs M' N (savG (a, cn, sv)) ∧ SvO M M' N)) 0 0 G) Mr 54 [(0, .ref N)] [] := by
    intro Mr c tv hc1 hc2 hAr hokr hfr hsv
    have hbc := RowS.in hAr.2.2.1 hc1 hc2
    refine r_aload_n B 0 dX5_save_54 rfl ?_
    refine rg5_saved B hG.1 q_173 dX5_save_55 ?_
    refine r_aload_n B 0 dX5_save_58 rfl ?_
    refine rg5_savedCount B hG.1 q_174 dX5_save_59 ?_
    refine r_vi (y := c) hAr.2.1 ?_
    refine r_aaload10 B dX5_save_62 hG.2.2.2.1 (by omega) (by omega) ?_
    refine r_aload_n B 0 dX5_save_63 rfl ?_
    refine rg5_now B hG.1 q_171 dX5_save_64 ?_
    refine r_Vv1 B (c_X3_copyFrom l G Mr (gP Mr (N + 107) c) (N + 1) a (RowS.state hG hAr.2.2.1 (i := c) (by omega) (by omega)) hG.2.1 (hAr.rows hc1 hc2).1 (hAr.rows hc1 hc2).2 hAr.1 hokr.1 (by omega)) ⟨rfl, rfl⟩ ok_X3_copyFrom vi_X3_copyFrom q_239 (RowS.state hG hAr.2.2.1 (i := c) (by omega) (by omega)).1 rfl (fun _ => rfl) ⟨Nat.le_of_ble_eq_true rfl, Nat.le_of_ble_eq_true rfl, Nat.le_of_ble_eq_true rfl⟩ ⟨Nat.le_of_ble_eq_true rfl, Nat.le_of_ble_eq_true rfl⟩ dX5_save_67 (fun Mk hks => ?_)
    refine r_aload_n B 0 dX5_save_70 rfl ?_
    refine r_dup B dX5_save_71 rfl ?_
    refine rg5_savedCount B hG.1 q_174 dX5_save_72 ?_
    refine r_vi (y := c) (by rw [(hks.2 N (by omega)).1]; exact hAr.2.1) ?_
    refine r_iconst B dX5_save_75 ?_
    refine r_iadd B dX5_save_76 ?_
    refine rp5_savedCount B hG.1 q_174 dX5_save_77 ?_
    refine WM.nm (fun M1 eM1 => ?_)
    have hfin := hAr.save hokr hc1 hc2 hks.1 hks.2 (hAr.pool hc1 hc2 ⟨hks.1.2.2.1, hks.1.2.2.2.1⟩ hks.2) eM1
    exact r_vret B dX5_save_80 ⟨by rw [hsv]; exact hfin.1, hfr.tr hfin.2⟩
  refine r_aload_n B 0 dX5_save_0 rfl ?_
  refine rg5_savedCount B hG.1 q_174 dX5_save_1 ?_
  refine r_vi (y := cn) hA.2.1 ?_
  refine r_iconst B dX5_save_4 ?_
  refine r_icmp_lt B dX5_save_5 rfl ⟨by omega, by omega⟩ ⟨by omega, by omega⟩ (fun h2 => ?_) (fun h2 => ?_)
  · exact h54 M cn sv (by omega) h2 hA hok SvO.rf (by unfold savG; rw [if_neg (by show ¬ 4 ≤ cn; omega)])
  · refine r_aload_n B 0 dX5_save_8 rfl ?_
    refine rg5_saved B hG.1 q_173 dX5_save_9 ?_
    refine r_iconst B dX5_save_12 ?_
    refine r_aaload10 B dX5_save_13 hG.2.2.2.1 (by omega) (by omega) ?_
    refine r_astore_n B (lv' := [(1, .ref (gP M (N + 107) 0)), (0, .ref N)]) dX5_save_14 (by decide) rfl ?_
    refine r_iconst B dX5_save_15 ?_
    refine r_istore_n B (lv' := [(2, .int (iI 1)), (1, .ref (gP M (N + 107) 0)), (0, .ref N)]) dX5_save_16 (by decide) rfl ?_
    have lp3 : ∀ (nlp3 : Nat) (i : Int) (Mc : Mem) (hi0 : 1 ≤ i) (hi1 : i ≤ 4) (hp : ∀ k : Int, gP Mc (N + 107) k = if 0 ≤ k ∧ k < i - 1 then gP M (N + 107) (k + 1) else gP M (N + 107) k) (hf : ∀ d : Nat, d ≠ N + 107 → Same M Mc d), (4 - i).toNat < nlp3 → WM G X 0 0 (bM X (PoV G (fun M' => GgIs M' N (savG (a, cn, sv)) ∧ SvO M M' N)) 0 0 G) Mc 17 [(0, .ref N), (1, .ref (gP M (N + 107) 0)), (2, .int (iI i))] [] := by
      intro nlp3
      induction nlp3 with
      | zero => intro i Mc hi0 hi1 hp hf hm; omega
      | succ nlp3 ihlp3 =>
        intro i Mc hi0 hi1 hp hf hm
        refine r_iload_n B 2 dX5_save_17 rfl ?_
        refine r_iconst B dX5_save_18 ?_
        refine r_icmp_ge B dX5_save_19 rfl ⟨by omega, by omega⟩ ⟨by omega, by omega⟩ (fun h4 => ?_) (fun h4 => ?_)
        · refine r_aload_n B 0 dX5_save_42 rfl ?_
          refine rg5_saved B hG.1 q_173 dX5_save_43 ?_
          refine r_iconst B dX5_save_46 ?_
          refine r_aload_n B 1 dX5_save_47 rfl ?_
          refine r_aastore10 B dX5_save_48 hG.2.2.2.1 (RowS.state hG hA.2.2.1 (i := 0) (by omega) (by omega)).1 (by omega) (by omega) ?_
          refine WM.nm (fun M5 eM5 => ?_)
          refine r_aload_n B 0 dX5_save_49 rfl ?_
          refine r_iconst B dX5_save_50 ?_
          refine rp5_savedCount B hG.1 q_174 dX5_save_51 ?_
          refine WM.nm (fun M6 eM6 => ?_)
          refine WM.pick [0] rfl ?_
          refine h54 M6 3 (fun i => sv (i + 1)) (by omega) (by omega) (hA.rot hok (by omega) (fun k => ?_) (by rw [eM6]; exact gI_eq) (fun d p q => (hf d q).tr (by rw [eM6, eM5]; exact (Same.sP q).tr (Same.sI p)))) ⟨hok.1, by show (0 : Int) ≤ 3; omega, by show (3 : Int) ≤ 4; omega, fun i p q => hok.2.2.2 (i + 1) (by omega) (by have q1 : i < 3 := q; show i + 1 < cn; omega)⟩ (fun d p q => (hf d (by omega)).tr (by rw [eM6, eM5]; exact (Same.sP (by omega)).tr (Same.sI p))) (by unfold savG; rw [if_pos (by show 4 ≤ cn; omega)]; rfl)
          rw [eM6, gP_sI, eM5]
          by_cases w : k = 3
          · rw [w, gP_eq, if_pos rfl]
          · rw [gP_nk w, hp, if_neg w]
            by_cases w2 : 0 ≤ k ∧ k < 3
            · rw [if_pos w2, if_pos (by omega)]
            · rw [if_neg w2, if_neg (by omega)]
        · refine r_aload_n B 0 dX5_save_22 rfl ?_
          refine rg5_saved B hG.1 q_173 dX5_save_23 ?_
          refine r_iload_n B 2 dX5_save_26 rfl ?_
          refine r_iconst B dX5_save_27 ?_
          refine r_isub B dX5_save_28 ?_
          refine r_aload_n B 0 dX5_save_29 rfl ?_
          refine rg5_saved B hG.1 q_173 dX5_save_30 ?_
          refine r_iload_n B 2 dX5_save_33 rfl ?_
          refine r_aaload10 B dX5_save_34 hG.2.2.2.1 (by omega) (by omega) ?_
          refine r_va (y := gP M (N + 107) i) (by rw [hp, if_neg (by omega)]) ?_
          refine r_aastore10 B dX5_save_35 hG.2.2.2.1 (RowS.state hG hA.2.2.1 (i := i) (by omega) (by omega)).1 (by omega) (by omega) ?_
          refine WM.nm (fun M7 eM7 => ?_)
          refine r_iinc B (lv' := [(2, .int (iI (i + 1))), (0, .ref N), (1, .ref (gP M (N + 107) 0))]) dX5_save_36 (j := 2) rfl (by decide) rfl ?_
          refine r_goto B dX5_save_39 rfl ?_
          refine WM.pick [1, 2, 0] rfl ?_
          refine ihlp3 (i + 1) M7 (by omega) (by omega) ?_ (fun d q => (hf d q).tr (by rw [eM7]; exact Same.sP q)) (by omega)
          · intro k
            rw [eM7]
            by_cases w : k = i - 1
            · rw [w, gP_eq, if_pos (by omega), show i - 1 + 1 = i by omega]
            · rw [gP_nk w, hp]
              by_cases w2 : 0 ≤ k ∧ k < i - 1
              · rw [if_pos w2, if_pos (by omega)]
              · rw [if_neg w2, if_neg (by omega)]
    refine WM.pick [2, 1, 0] rfl ?_
    exact lp3 _ 1 M (by omega) (by omega) (fun k => by rw [if_neg (by omega)]) (fun d _ => Same.rf M d) (Nat.lt_succ_self _)
