/-! the law's cases -/
set_option maxRecDepth 100000 in
set_option maxHeartbeats 4000000 in
theorem law_addGear (l : Launch) (hst : l.stackTraces = false) (G : Gs) (X : Cx) (B : Bx l G X cL_law 9 RL room_1 ret) {Q : State → Prop} {bS L : Nat} {xs : Nat → Int32} (hX : va_X bS L xs X.2.2.2.2.1 X.2.2.2.2.1.heap) (hbl : bS < X.2.2.2.2.1.heap.size) (hbA : bS < G.1) (hG : IsGg G G.1) (hMd : IsMd G (G.1 + 335)) (hO : At G (G.1 + 343) 12 1) (hOD : At G (G.1 + 344) 13 1) (M : Mem) (g : Gst) (len : Int) (b : Int → Int) (hC : CI G M g len b) (hR : RI G M g len b) (hk : OkI g len b) (k n : Nat) (hkn : k + 4 ≤ 601024 ∧ n + 24 ≤ 7293034) (i : Int) (hi : 0 ≤ i) (hiL : i + 5 ≤ L) (hL : L ≤ 2560) (kend : ∀ (M' : Mem) (g' : Gst) (len' : Int) (b' : Int → Int), CI G M' g' len' b' → RI G M' g' len' b' → OkI g' len' b' → WM G X (k + 4) (n + 24) Q M' 2423 [(5, .int (iI i)), (4, .ref (G.1 + 344)), (3, .ref (G.1 + 343)), (2, .ref (G.1 + 335)), (1, .ref G.1), (0, .ref bS)] []) : WM G X k n Q M 200 [(5, .int (iI i)), (4, .ref (G.1 + 344)), (3, .ref (G.1 + 343)), (2, .ref (G.1 + 335)), (1, .ref G.1), (0, .ref bS)] [] := by
  refine r_aload_n B 4 dL_law_200 rfl ?_
  refine r_aload_n B 5 dL_law_201 rfl ?_
  refine r_iload B 0 dL_law_202 rfl ?_
  refine r_iconst B dL_law_204 ?_
  refine r_iadd B dL_law_205 ?_
  refine r_sld B hX hbl hbA dL_law_206 (by omega) (by omega) hL ?_
  refine r_aload_n B 5 dL_law_207 rfl ?_
  refine r_iload B 0 dL_law_208 rfl ?_
  refine r_iconst B dL_law_210 ?_
  refine r_iadd B dL_law_211 ?_
  refine r_sld B hX hbl hbA dL_law_212 (by omega) (by omega) hL ?_
  refine r_aload_n B 2 dL_law_213 rfl ?_
  refine r_W B (As := [.ref G.1, .int (iI (sc xs (i + 1))), .int (iI (sc xs (i + 2))), .ref (G.1 + 343)]) (st := []) (w_addGear l hst G M g len b hG hO hC hk (sc xs (i + 1)) (sc xs (i + 2)) (sc_in _ _) (sc_in _ _)) ⟨rfl, rfl⟩ rfl ⟨by decide +kernel, by decide +kernel⟩ (z := 4) rfl (by decide +kernel) q_434 q_0 q_432 q_433 ⟨Nat.le_of_ble_eq_true rfl, Nat.le_of_ble_eq_true rfl, Nat.le_of_ble_eq_true rfl⟩ ⟨by show _ ≤ 601024; omega, by show _ ≤ 7293034; omega⟩ dL_law_214 (fun kr M1 hw => ?_)
  obtain ⟨hr, hk32, hout, hC1, hF1⟩ := hw
  subst hr
  have hR1 := hR.kept hF1
  refine WM.widen (k' := k + 4) (n' := n + 24) (by omega) (by omega) ?_
  refine r_istore B (lv' := [(6, .int (iI ((oAddG g.1 (sc xs (i + 1)) (sc xs (i + 2))).1))), (5, .int (iI i)), (4, .ref (G.1 + 344)), (3, .ref (G.1 + 343)), (2, .ref (G.1 + 335)), (1, .ref G.1), (0, .ref bS)]) dL_law_217 (by decide) rfl ?_
  refine r_aload_n B 4 dL_law_219 rfl ?_
  refine r_aload_n B 6 dL_law_220 rfl ?_
  refine r_iload B 1 dL_law_221 rfl ?_
  refine r_iconst B dL_law_223 ?_
  refine r_iadd B dL_law_224 ?_
  refine r_sld B hX hbl hbA dL_law_225 (by omega) (by omega) hL ?_
  refine r_aload_n B 6 dL_law_226 rfl ?_
  refine r_iload B 1 dL_law_227 rfl ?_
  refine r_iconst B dL_law_229 ?_
  refine r_iadd B dL_law_230 ?_
  refine r_sld B hX hbl hbA dL_law_231 (by omega) (by omega) hL ?_
  refine r_Vi2 B (c_X6_addGear l G M1 (G.1 + 335) hMd g.1 g.2.1 g.2.2 hR1.1 hk.1 (sc xs (i + 1)) (sc xs (i + 2)) (sc_in _ _) (sc_in _ _)) ⟨rfl, rfl⟩ ok_X6_addGear vi_X6_addGear q_951 hMd.1 rfl (fun _ => rfl) ⟨Nat.le_of_ble_eq_true rfl, Nat.le_of_ble_eq_true rfl, Nat.le_of_ble_eq_true rfl⟩ ⟨by show _ ≤ 601024; omega, by show _ ≤ 7293034; omega⟩ dL_law_232 (fun r M2 h2 => ?_)
  have h3 := Rp.D hR1 h2
  obtain ⟨hr2, h6, hR2, hF2⟩ := h3
  subst hr2
  have hk2 : OkI (nxG g (oAddG g.1 (sc xs (i + 1)) (sc xs (i + 2)))) len b := ⟨nxG_ok hk.1 (ok_oAddG hk.1.1), hk.2⟩
  have hC2 := hC1.kept hk2.1 hF2
  have hout2 : (oAddG g.1 (sc xs (i + 1)) (sc xs (i + 2))).1 = 0 → gL M2 (G.1 + 343) 0 = (xI (oAddG g.1 (sc xs (i + 1)) (sc xs (i + 2))).2.1) := fun w => by rw [(hF2 (G.1 + 343) (by omega)).2.1]; exact hout w
  refine r_istore B (lv' := [(7, .int (iI ((oAddG g.1 (sc xs (i + 1)) (sc xs (i + 2))).2.1))), (6, .int (iI ((oAddG g.1 (sc xs (i + 1)) (sc xs (i + 2))).1))), (5, .int (iI i)), (4, .ref (G.1 + 344)), (3, .ref (G.1 + 343)), (2, .ref (G.1 + 335)), (1, .ref G.1), (0, .ref bS)]) dL_law_235 (by decide) rfl ?_
  refine r_aload_n B 5 dL_law_237 rfl ?_
  refine r_pVi0 B (c_X6_thrown l G M2 (G.1 + 335) hMd _ h6) ⟨rfl, rfl⟩ ok_X6_thrown vi_X6_thrown q_947 hMd.1 rfl (fun _ => rfl) ⟨Nat.le_of_ble_eq_true rfl, Nat.le_of_ble_eq_true rfl, Nat.le_of_ble_eq_true rfl⟩ ⟨by show _ ≤ 601024; omega, by show _ ≤ 7293034; omega⟩ dL_law_238 ?_
  refine r_iload B 1 dL_law_241 rfl ?_
  refine r_same B dL_law_243 rfl ?_
  refine r_iload B 1 dL_law_248 rfl ?_
  have hend : WM G X (k + 4) (n + 24) Q M2 265 [(7, .int (iI ((oAddG g.1 (sc xs (i + 1)) (sc xs (i + 2))).2.1))), (6, .int (iI ((oAddG g.1 (sc xs (i + 1)) (sc xs (i + 2))).1))), (5, .int (iI i)), (4, .ref (G.1 + 344)), (3, .ref (G.1 + 343)), (2, .ref (G.1 + 335)), (1, .ref G.1), (0, .ref bS)] [] := by
    refine r_goto B dL_law_265 rfl ?_
    refine WM.pick [2, 3, 4, 5, 6, 7] rfl ?_
    exact kend M2 _ _ _ hC2 hR2 hk2
  refine r_if_ne B dL_law_250 rfl hk32 (fun _ => hend) (fun hz => ?_)
  refine r_aload_n B 4 dL_law_253 rfl ?_
  refine r_iconst B dL_law_254 ?_
  refine r_laload B dL_law_255 hO (by omega) (by decide) ?_
  refine r_vl (y := (xI (oAddG g.1 (sc xs (i + 1)) (sc xs (i + 2))).2.1)) (hout2 hz) ?_
  refine r_iload B 0 dL_law_256 rfl ?_
  refine r_i2lw B dL_law_258 ?_
  exact r_lsame B dL_law_259 dL_law_260 rfl hend
set_option maxRecDepth 100000 in
set_option maxHeartbeats 4000000 in
theorem law_removeGear (l : Launch) (hst : l.stackTraces = false) (G : Gs) (X : Cx) (B : Bx l G X cL_law 9 RL room_1 ret) {Q : State → Prop} {bS L : Nat} {xs : Nat → Int32} (hX : va_X bS L xs X.2.2.2.2.1 X.2.2.2.2.1.heap) (hbl : bS < X.2.2.2.2.1.heap.size) (hbA : bS < G.1) (hG : IsGg G G.1) (hMd : IsMd G (G.1 + 335)) (hO : At G (G.1 + 343) 12 1) (hOD : At G (G.1 + 344) 13 1) (M : Mem) (g : Gst) (len : Int) (b : Int → Int) (hC : CI G M g len b) (hR : RI G M g len b) (hk : OkI g len b) (k n : Nat) (hkn : k + 4 ≤ 601024 ∧ n + 24 ≤ 7293034) (i : Int) (hi : 0 ≤ i) (hiL : i + 5 ≤ L) (hL : L ≤ 2560) (kend : ∀ (M' : Mem) (g' : Gst) (len' : Int) (b' : Int → Int), CI G M' g' len' b' → RI G M' g' len' b' → OkI g' len' b' → WM G X (k + 4) (n + 24) Q M' 2423 [(5, .int (iI i)), (4, .ref (G.1 + 344)), (3, .ref (G.1 + 343)), (2, .ref (G.1 + 335)), (1, .ref G.1), (0, .ref bS)] []) : WM G X k n Q M 268 [(5, .int (iI i)), (4, .ref (G.1 + 344)), (3, .ref (G.1 + 343)), (2, .ref (G.1 + 335)), (1, .ref G.1), (0, .ref bS)] [] := by
  refine r_aload_n B 4 dL_law_268 rfl ?_
  refine r_aload_n B 5 dL_law_269 rfl ?_
  refine r_iload B 0 dL_law_270 rfl ?_
  refine r_iconst B dL_law_272 ?_
  refine r_iadd B dL_law_273 ?_
  refine r_sld B hX hbl hbA dL_law_274 (by omega) (by omega) hL ?_
  refine r_aload_n B 2 dL_law_275 rfl ?_
  refine r_W B (As := [.ref G.1, .int (iI (sc xs (i + 1))), .ref (G.1 + 343)]) (st := []) (w_removeGear l hst G M g len b hG hO hC hk (sc xs (i + 1)) (sc_in _ _)) ⟨rfl, rfl⟩ rfl ⟨by decide +kernel, by decide +kernel⟩ (z := 3) rfl (by decide +kernel) q_529 q_0 q_527 q_528 ⟨Nat.le_of_ble_eq_true rfl, Nat.le_of_ble_eq_true rfl, Nat.le_of_ble_eq_true rfl⟩ ⟨by show _ ≤ 601024; omega, by show _ ≤ 7293034; omega⟩ dL_law_276 (fun kr M1 hw => ?_)
  obtain ⟨hr, hk32, hout, hC1, hF1⟩ := hw
  subst hr
  have hR1 := hR.kept hF1
  refine WM.widen (k' := k + 4) (n' := n + 24) (by omega) (by omega) ?_
  refine r_istore B (lv' := [(6, .int (iI ((oRemG g.1 (sc xs (i + 1))).1))), (5, .int (iI i)), (4, .ref (G.1 + 344)), (3, .ref (G.1 + 343)), (2, .ref (G.1 + 335)), (1, .ref G.1), (0, .ref bS)]) dL_law_279 (by decide) rfl ?_
  refine r_aload_n B 4 dL_law_281 rfl ?_
  refine r_aload_n B 6 dL_law_282 rfl ?_
  refine r_iload B 1 dL_law_283 rfl ?_
  refine r_iconst B dL_law_285 ?_
  refine r_iadd B dL_law_286 ?_
  refine r_sld B hX hbl hbA dL_law_287 (by omega) (by omega) hL ?_
  refine r_Vi1 B (c_X6_removeGear l G M1 (G.1 + 335) hMd g.1 g.2.1 g.2.2 hR1.1 hk.1 (sc xs (i + 1)) (sc_in _ _)) ⟨rfl, rfl⟩ ok_X6_removeGear vi_X6_removeGear q_984 hMd.1 rfl (fun _ => rfl) ⟨Nat.le_of_ble_eq_true rfl, Nat.le_of_ble_eq_true rfl, Nat.le_of_ble_eq_true rfl⟩ ⟨by show _ ≤ 601024; omega, by show _ ≤ 7293034; omega⟩ dL_law_288 (fun r M2 h2 => ?_)
  have h3 := Rp.D hR1 h2
  obtain ⟨hr2, h6, hR2, hF2⟩ := h3
  subst hr2
  have hk2 : OkI (nxG g (oRemG g.1 (sc xs (i + 1)))) len b := ⟨nxG_ok hk.1 (ok_oRemG hk.1.1), hk.2⟩
  have hC2 := hC1.kept hk2.1 hF2
  have hout2 : (oRemG g.1 (sc xs (i + 1))).1 = 0 → gL M2 (G.1 + 343) 0 = (xI (oRemG g.1 (sc xs (i + 1))).2.1) := fun w => by rw [(hF2 (G.1 + 343) (by omega)).2.1]; exact hout w
  refine r_istore B (lv' := [(7, .int (iI ((oRemG g.1 (sc xs (i + 1))).2.1))), (6, .int (iI ((oRemG g.1 (sc xs (i + 1))).1))), (5, .int (iI i)), (4, .ref (G.1 + 344)), (3, .ref (G.1 + 343)), (2, .ref (G.1 + 335)), (1, .ref G.1), (0, .ref bS)]) dL_law_291 (by decide) rfl ?_
  refine r_aload_n B 5 dL_law_293 rfl ?_
  refine r_pVi0 B (c_X6_thrown l G M2 (G.1 + 335) hMd _ h6) ⟨rfl, rfl⟩ ok_X6_thrown vi_X6_thrown q_947 hMd.1 rfl (fun _ => rfl) ⟨Nat.le_of_ble_eq_true rfl, Nat.le_of_ble_eq_true rfl, Nat.le_of_ble_eq_true rfl⟩ ⟨by show _ ≤ 601024; omega, by show _ ≤ 7293034; omega⟩ dL_law_294 ?_
  refine r_iload B 1 dL_law_297 rfl ?_
  refine r_same B dL_law_299 rfl ?_
  refine r_iload B 1 dL_law_304 rfl ?_
  have hend : WM G X (k + 4) (n + 24) Q M2 321 [(7, .int (iI ((oRemG g.1 (sc xs (i + 1))).2.1))), (6, .int (iI ((oRemG g.1 (sc xs (i + 1))).1))), (5, .int (iI i)), (4, .ref (G.1 + 344)), (3, .ref (G.1 + 343)), (2, .ref (G.1 + 335)), (1, .ref G.1), (0, .ref bS)] [] := by
    refine r_goto B dL_law_321 rfl ?_
    refine WM.pick [2, 3, 4, 5, 6, 7] rfl ?_
    exact kend M2 _ _ _ hC2 hR2 hk2
  refine r_if_ne B dL_law_306 rfl hk32 (fun _ => hend) (fun hz => ?_)
  refine r_aload_n B 4 dL_law_309 rfl ?_
  refine r_iconst B dL_law_310 ?_
  refine r_laload B dL_law_311 hO (by omega) (by decide) ?_
  refine r_vl (y := (xI (oRemG g.1 (sc xs (i + 1))).2.1)) (hout2 hz) ?_
  refine r_iload B 0 dL_law_312 rfl ?_
  refine r_i2lw B dL_law_314 ?_
  exact r_lsame B dL_law_315 dL_law_316 rfl hend
set_option maxRecDepth 100000 in
set_option maxHeartbeats 4000000 in
theorem law_setReading (l : Launch) (hst : l.stackTraces = false) (G : Gs) (X : Cx) (B : Bx l G X cL_law 9 RL room_1 ret) {Q : State → Prop} {bS L : Nat} {xs : Nat → Int32} (hX : va_X bS L xs X.2.2.2.2.1 X.2.2.2.2.1.heap) (hbl : bS < X.2.2.2.2.1.heap.size) (hbA : bS < G.1) (hG : IsGg G G.1) (hMd : IsMd G (G.1 + 335)) (hO : At G (G.1 + 343) 12 1) (hOD : At G (G.1 + 344) 13 1) (M : Mem) (g : Gst) (len : Int) (b : Int → Int) (hC : CI G M g len b) (hR : RI G M g len b) (hk : OkI g len b) (k n : Nat) (hkn : k + 4 ≤ 601024 ∧ n + 24 ≤ 7293034) (i : Int) (hi : 0 ≤ i) (hiL : i + 5 ≤ L) (hL : L ≤ 2560) (kend : ∀ (M' : Mem) (g' : Gst) (len' : Int) (b' : Int → Int), CI G M' g' len' b' → RI G M' g' len' b' → OkI g' len' b' → WM G X (k + 4) (n + 24) Q M' 2423 [(5, .int (iI i)), (4, .ref (G.1 + 344)), (3, .ref (G.1 + 343)), (2, .ref (G.1 + 335)), (1, .ref G.1), (0, .ref bS)] []) : WM G X k n Q M 324 [(5, .int (iI i)), (4, .ref (G.1 + 344)), (3, .ref (G.1 + 343)), (2, .ref (G.1 + 335)), (1, .ref G.1), (0, .ref bS)] [] := by
  refine r_aload_n B 4 dL_law_324 rfl ?_
  refine r_aload_n B 5 dL_law_325 rfl ?_
  refine r_iload B 0 dL_law_326 rfl ?_
  refine r_iconst B dL_law_328 ?_
  refine r_iadd B dL_law_329 ?_
  refine r_sld B hX hbl hbA dL_law_330 (by omega) (by omega) hL ?_
  refine r_aload_n B 5 dL_law_331 rfl ?_
  refine r_iload B 0 dL_law_332 rfl ?_
  refine r_iconst B dL_law_334 ?_
  refine r_iadd B dL_law_335 ?_
  refine r_sld B hX hbl hbA dL_law_336 (by omega) (by omega) hL ?_
  refine r_aload_n B 5 dL_law_337 rfl ?_
  refine r_iload B 0 dL_law_338 rfl ?_
  refine r_iconst B dL_law_340 ?_
  refine r_iadd B dL_law_341 ?_
  refine r_sld B hX hbl hbA dL_law_342 (by omega) (by omega) hL ?_
  refine r_aload_n B 5 dL_law_343 rfl ?_
  refine r_iload B 0 dL_law_344 rfl ?_
  refine r_iconst B dL_law_346 ?_
  refine r_iadd B dL_law_347 ?_
  refine r_sld B hX hbl hbA dL_law_348 (by omega) (by omega) hL ?_
  refine r_aload_n B 2 dL_law_349 rfl ?_
  refine r_W B (As := [.ref G.1, .int (iI (sc xs (i + 1))), .int (iI (sc xs (i + 2))), .int (iI (sc xs (i + 3))), .int (iI (sc xs (i + 4))), .ref (G.1 + 343)]) (st := []) (w_setReading l hst G M g len b hG hO hC hk (sc xs (i + 1)) (sc xs (i + 2)) (sc xs (i + 3)) (sc xs (i + 4)) (sc_in _ _) (sc_in _ _) (sc_in _ _) (sc_in _ _)) ⟨rfl, rfl⟩ rfl ⟨by decide +kernel, by decide +kernel⟩ (z := 6) rfl (by decide +kernel) q_565 q_0 q_563 q_564 ⟨Nat.le_of_ble_eq_true rfl, Nat.le_of_ble_eq_true rfl, Nat.le_of_ble_eq_true rfl⟩ ⟨by show _ ≤ 601024; omega, by show _ ≤ 7293034; omega⟩ dL_law_350 (fun kr M1 hw => ?_)
  obtain ⟨hr, hk32, hout, hC1, hF1⟩ := hw
  subst hr
  have hR1 := hR.kept hF1
  refine WM.widen (k' := k + 4) (n' := n + 24) (by omega) (by omega) ?_
  refine r_istore B (lv' := [(6, .int (iI ((oSetR g.1 (sc xs (i + 1)) (sc xs (i + 2)) (sc xs (i + 3)) (sc xs (i + 4))).1))), (5, .int (iI i)), (4, .ref (G.1 + 344)), (3, .ref (G.1 + 343)), (2, .ref (G.1 + 335)), (1, .ref G.1), (0, .ref bS)]) dL_law_353 (by decide) rfl ?_
  refine r_aload_n B 4 dL_law_355 rfl ?_
  refine r_aload_n B 6 dL_law_356 rfl ?_
  refine r_iload B 1 dL_law_357 rfl ?_
  refine r_iconst B dL_law_359 ?_
  refine r_iadd B dL_law_360 ?_
  refine r_sld B hX hbl hbA dL_law_361 (by omega) (by omega) hL ?_
  refine r_aload_n B 6 dL_law_362 rfl ?_
  refine r_iload B 1 dL_law_363 rfl ?_
  refine r_iconst B dL_law_365 ?_
  refine r_iadd B dL_law_366 ?_
  refine r_sld B hX hbl hbA dL_law_367 (by omega) (by omega) hL ?_
  refine r_aload_n B 6 dL_law_368 rfl ?_
  refine r_iload B 1 dL_law_369 rfl ?_
  refine r_iconst B dL_law_371 ?_
  refine r_iadd B dL_law_372 ?_
  refine r_sld B hX hbl hbA dL_law_373 (by omega) (by omega) hL ?_
  refine r_aload_n B 6 dL_law_374 rfl ?_
  refine r_iload B 1 dL_law_375 rfl ?_
  refine r_iconst B dL_law_377 ?_
  refine r_iadd B dL_law_378 ?_
  refine r_sld B hX hbl hbA dL_law_379 (by omega) (by omega) hL ?_
  refine r_Vi4 B (c_X6_setReading l G M1 (G.1 + 335) hMd g.1 g.2.1 g.2.2 hR1.1 hk.1 (sc xs (i + 1)) (sc xs (i + 2)) (sc xs (i + 3)) (sc xs (i + 4)) (sc_in _ _) (sc_in _ _) (sc_in _ _) (sc_in _ _)) ⟨rfl, rfl⟩ ok_X6_setReading vi_X6_setReading q_1000 hMd.1 rfl (fun _ => rfl) ⟨Nat.le_of_ble_eq_true rfl, Nat.le_of_ble_eq_true rfl, Nat.le_of_ble_eq_true rfl⟩ ⟨by show _ ≤ 601024; omega, by show _ ≤ 7293034; omega⟩ dL_law_380 (fun r M2 h2 => ?_)
  have h3 := Rp.D hR1 h2
  obtain ⟨hr2, h6, hR2, hF2⟩ := h3
  subst hr2
  have hk2 : OkI (nxG g (oSetR g.1 (sc xs (i + 1)) (sc xs (i + 2)) (sc xs (i + 3)) (sc xs (i + 4)))) len b := ⟨nxG_ok hk.1 (ok_oSetR hk.1.1), hk.2⟩
  have hC2 := hC1.kept hk2.1 hF2
  have hout2 : (oSetR g.1 (sc xs (i + 1)) (sc xs (i + 2)) (sc xs (i + 3)) (sc xs (i + 4))).1 = 0 → gL M2 (G.1 + 343) 0 = (xI (oSetR g.1 (sc xs (i + 1)) (sc xs (i + 2)) (sc xs (i + 3)) (sc xs (i + 4))).2.1) := fun w => by rw [(hF2 (G.1 + 343) (by omega)).2.1]; exact hout w
  refine r_istore B (lv' := [(7, .int (iI ((oSetR g.1 (sc xs (i + 1)) (sc xs (i + 2)) (sc xs (i + 3)) (sc xs (i + 4))).2.1))), (6, .int (iI ((oSetR g.1 (sc xs (i + 1)) (sc xs (i + 2)) (sc xs (i + 3)) (sc xs (i + 4))).1))), (5, .int (iI i)), (4, .ref (G.1 + 344)), (3, .ref (G.1 + 343)), (2, .ref (G.1 + 335)), (1, .ref G.1), (0, .ref bS)]) dL_law_383 (by decide) rfl ?_
  refine r_aload_n B 5 dL_law_385 rfl ?_
  refine r_pVi0 B (c_X6_thrown l G M2 (G.1 + 335) hMd _ h6) ⟨rfl, rfl⟩ ok_X6_thrown vi_X6_thrown q_947 hMd.1 rfl (fun _ => rfl) ⟨Nat.le_of_ble_eq_true rfl, Nat.le_of_ble_eq_true rfl, Nat.le_of_ble_eq_true rfl⟩ ⟨by show _ ≤ 601024; omega, by show _ ≤ 7293034; omega⟩ dL_law_386 ?_
  refine r_iload B 1 dL_law_389 rfl ?_
  refine r_same B dL_law_391 rfl ?_
  refine r_iload B 1 dL_law_396 rfl ?_
  have hend : WM G X (k + 4) (n + 24) Q M2 413 [(7, .int (iI ((oSetR g.1 (sc xs (i + 1)) (sc xs (i + 2)) (sc xs (i + 3)) (sc xs (i + 4))).2.1))), (6, .int (iI ((oSetR g.1 (sc xs (i + 1)) (sc xs (i + 2)) (sc xs (i + 3)) (sc xs (i + 4))).1))), (5, .int (iI i)), (4, .ref (G.1 + 344)), (3, .ref (G.1 + 343)), (2, .ref (G.1 + 335)), (1, .ref G.1), (0, .ref bS)] [] := by
    refine r_goto B dL_law_413 rfl ?_
    refine WM.pick [2, 3, 4, 5, 6, 7] rfl ?_
    exact kend M2 _ _ _ hC2 hR2 hk2
  refine r_if_ne B dL_law_398 rfl hk32 (fun _ => hend) (fun hz => ?_)
  refine r_aload_n B 4 dL_law_401 rfl ?_
  refine r_iconst B dL_law_402 ?_
  refine r_laload B dL_law_403 hO (by omega) (by decide) ?_
  refine r_vl (y := (xI (oSetR g.1 (sc xs (i + 1)) (sc xs (i + 2)) (sc xs (i + 3)) (sc xs (i + 4))).2.1)) (hout2 hz) ?_
  refine r_iload B 0 dL_law_404 rfl ?_
  refine r_i2lw B dL_law_406 ?_
  exact r_lsame B dL_law_407 dL_law_408 rfl hend
set_option maxRecDepth 100000 in
set_option maxHeartbeats 4000000 in
theorem law_fill (l : Launch) (hst : l.stackTraces = false) (G : Gs) (X : Cx) (B : Bx l G X cL_law 9 RL room_1 ret) {Q : State → Prop} {bS L : Nat} {xs : Nat → Int32} (hX : va_X bS L xs X.2.2.2.2.1 X.2.2.2.2.1.heap) (hbl : bS < X.2.2.2.2.1.heap.size) (hbA : bS < G.1) (hG : IsGg G G.1) (hMd : IsMd G (G.1 + 335)) (hO : At G (G.1 + 343) 12 1) (hOD : At G (G.1 + 344) 13 1) (M : Mem) (g : Gst) (len : Int) (b : Int → Int) (hC : CI G M g len b) (hR : RI G M g len b) (hk : OkI g len b) (k n : Nat) (hkn : k + 4 ≤ 601024 ∧ n + 24 ≤ 7293034) (i : Int) (hi : 0 ≤ i) (hiL : i + 5 ≤ L) (hL : L ≤ 2560) (kend : ∀ (M' : Mem) (g' : Gst) (len' : Int) (b' : Int → Int), CI G M' g' len' b' → RI G M' g' len' b' → OkI g' len' b' → WM G X (k + 4) (n + 24) Q M' 2423 [(5, .int (iI i)), (4, .ref (G.1 + 344)), (3, .ref (G.1 + 343)), (2, .ref (G.1 + 335)), (1, .ref G.1), (0, .ref bS)] []) : WM G X k n Q M 416 [(5, .int (iI i)), (4, .ref (G.1 + 344)), (3, .ref (G.1 + 343)), (2, .ref (G.1 + 335)), (1, .ref G.1), (0, .ref bS)] [] := by
  refine r_aload_n B 4 dL_law_416 rfl ?_
  refine r_aload_n B 5 dL_law_417 rfl ?_
  refine r_iload B 0 dL_law_418 rfl ?_
  refine r_iconst B dL_law_420 ?_
  refine r_iadd B dL_law_421 ?_
  refine r_sld B hX hbl hbA dL_law_422 (by omega) (by omega) hL ?_
  refine r_aload_n B 5 dL_law_423 rfl ?_
  refine r_iload B 0 dL_law_424 rfl ?_
  refine r_iconst B dL_law_426 ?_
  refine r_iadd B dL_law_427 ?_
  refine r_sld B hX hbl hbA dL_law_428 (by omega) (by omega) hL ?_
  refine r_aload_n B 5 dL_law_429 rfl ?_
  refine r_iload B 0 dL_law_430 rfl ?_
  refine r_iconst B dL_law_432 ?_
  refine r_iadd B dL_law_433 ?_
  refine r_sld B hX hbl hbA dL_law_434 (by omega) (by omega) hL ?_
  refine r_aload_n B 2 dL_law_435 rfl ?_
  refine r_W B (As := [.ref G.1, .int (iI (sc xs (i + 1))), .int (iI (sc xs (i + 2))), .int (iI (sc xs (i + 3))), .ref (G.1 + 343)]) (st := []) (w_fill l hst G M g len b hG hO hC hk (sc xs (i + 1)) (sc xs (i + 2)) (sc xs (i + 3)) (sc_in _ _) (sc_in _ _) (sc_in _ _)) ⟨rfl, rfl⟩ rfl ⟨by decide +kernel, by decide +kernel⟩ (z := 5) rfl (by decide +kernel) q_579 q_0 q_577 q_578 ⟨Nat.le_of_ble_eq_true rfl, Nat.le_of_ble_eq_true rfl, Nat.le_of_ble_eq_true rfl⟩ ⟨by show _ ≤ 601024; omega, by show _ ≤ 7293034; omega⟩ dL_law_436 (fun kr M1 hw => ?_)
  obtain ⟨hr, hk32, hout, hC1, hF1⟩ := hw
  subst hr
  have hR1 := hR.kept hF1
  refine WM.widen (k' := k + 4) (n' := n + 24) (by omega) (by omega) ?_
  refine r_istore B (lv' := [(6, .int (iI ((oFill g.1 (sc xs (i + 1)) (sc xs (i + 2)) (sc xs (i + 3))).1))), (5, .int (iI i)), (4, .ref (G.1 + 344)), (3, .ref (G.1 + 343)), (2, .ref (G.1 + 335)), (1, .ref G.1), (0, .ref bS)]) dL_law_439 (by decide) rfl ?_
  refine r_aload_n B 4 dL_law_441 rfl ?_
  refine r_aload_n B 6 dL_law_442 rfl ?_
  refine r_iload B 1 dL_law_443 rfl ?_
  refine r_iconst B dL_law_445 ?_
  refine r_iadd B dL_law_446 ?_
  refine r_sld B hX hbl hbA dL_law_447 (by omega) (by omega) hL ?_
  refine r_aload_n B 6 dL_law_448 rfl ?_
  refine r_iload B 1 dL_law_449 rfl ?_
  refine r_iconst B dL_law_451 ?_
  refine r_iadd B dL_law_452 ?_
  refine r_sld B hX hbl hbA dL_law_453 (by omega) (by omega) hL ?_
  refine r_aload_n B 6 dL_law_454 rfl ?_
  refine r_iload B 1 dL_law_455 rfl ?_
  refine r_iconst B dL_law_457 ?_
  refine r_iadd B dL_law_458 ?_
  refine r_sld B hX hbl hbA dL_law_459 (by omega) (by omega) hL ?_
  refine r_Vi3 B (c_X6_fill l G M1 (G.1 + 335) hMd g.1 g.2.1 g.2.2 hR1.1 hk.1 (sc xs (i + 1)) (sc xs (i + 2)) (sc xs (i + 3)) (sc_in _ _) (sc_in _ _) (sc_in _ _)) ⟨rfl, rfl⟩ ok_X6_fill vi_X6_fill q_1029 hMd.1 rfl (fun _ => rfl) ⟨Nat.le_of_ble_eq_true rfl, Nat.le_of_ble_eq_true rfl, Nat.le_of_ble_eq_true rfl⟩ ⟨by show _ ≤ 601024; omega, by show _ ≤ 7293034; omega⟩ dL_law_460 (fun r M2 h2 => ?_)
  have h3 := Rp.D hR1 h2
  obtain ⟨hr2, h6, hR2, hF2⟩ := h3
  subst hr2
  have hk2 : OkI (nxG g (oFill g.1 (sc xs (i + 1)) (sc xs (i + 2)) (sc xs (i + 3)))) len b := ⟨nxG_ok hk.1 (ok_oFill hk.1.1), hk.2⟩
  have hC2 := hC1.kept hk2.1 hF2
  have hout2 : (oFill g.1 (sc xs (i + 1)) (sc xs (i + 2)) (sc xs (i + 3))).1 = 0 → gL M2 (G.1 + 343) 0 = (xI (oFill g.1 (sc xs (i + 1)) (sc xs (i + 2)) (sc xs (i + 3))).2.1) := fun w => by rw [(hF2 (G.1 + 343) (by omega)).2.1]; exact hout w
  refine r_istore B (lv' := [(7, .int (iI ((oFill g.1 (sc xs (i + 1)) (sc xs (i + 2)) (sc xs (i + 3))).2.1))), (6, .int (iI ((oFill g.1 (sc xs (i + 1)) (sc xs (i + 2)) (sc xs (i + 3))).1))), (5, .int (iI i)), (4, .ref (G.1 + 344)), (3, .ref (G.1 + 343)), (2, .ref (G.1 + 335)), (1, .ref G.1), (0, .ref bS)]) dL_law_463 (by decide) rfl ?_
  refine r_aload_n B 5 dL_law_465 rfl ?_
  refine r_pVi0 B (c_X6_thrown l G M2 (G.1 + 335) hMd _ h6) ⟨rfl, rfl⟩ ok_X6_thrown vi_X6_thrown q_947 hMd.1 rfl (fun _ => rfl) ⟨Nat.le_of_ble_eq_true rfl, Nat.le_of_ble_eq_true rfl, Nat.le_of_ble_eq_true rfl⟩ ⟨by show _ ≤ 601024; omega, by show _ ≤ 7293034; omega⟩ dL_law_466 ?_
  refine r_iload B 1 dL_law_469 rfl ?_
  refine r_same B dL_law_471 rfl ?_
  refine r_iload B 1 dL_law_476 rfl ?_
  have hend : WM G X (k + 4) (n + 24) Q M2 493 [(7, .int (iI ((oFill g.1 (sc xs (i + 1)) (sc xs (i + 2)) (sc xs (i + 3))).2.1))), (6, .int (iI ((oFill g.1 (sc xs (i + 1)) (sc xs (i + 2)) (sc xs (i + 3))).1))), (5, .int (iI i)), (4, .ref (G.1 + 344)), (3, .ref (G.1 + 343)), (2, .ref (G.1 + 335)), (1, .ref G.1), (0, .ref bS)] [] := by
    refine r_goto B dL_law_493 rfl ?_
    refine WM.pick [2, 3, 4, 5, 6, 7] rfl ?_
    exact kend M2 _ _ _ hC2 hR2 hk2
  refine r_if_ne B dL_law_478 rfl hk32 (fun _ => hend) (fun hz => ?_)
  refine r_aload_n B 4 dL_law_481 rfl ?_
  refine r_iconst B dL_law_482 ?_
  refine r_laload B dL_law_483 hO (by omega) (by decide) ?_
  refine r_vl (y := (xI (oFill g.1 (sc xs (i + 1)) (sc xs (i + 2)) (sc xs (i + 3))).2.1)) (hout2 hz) ?_
  refine r_iload B 0 dL_law_484 rfl ?_
  refine r_i2lw B dL_law_486 ?_
  exact r_lsame B dL_law_487 dL_law_488 rfl hend
set_option maxRecDepth 100000 in
set_option maxHeartbeats 4000000 in
theorem law_turn (l : Launch) (hst : l.stackTraces = false) (G : Gs) (X : Cx) (B : Bx l G X cL_law 9 RL room_1 ret) {Q : State → Prop} {bS L : Nat} {xs : Nat → Int32} (hX : va_X bS L xs X.2.2.2.2.1 X.2.2.2.2.1.heap) (hbl : bS < X.2.2.2.2.1.heap.size) (hbA : bS < G.1) (hG : IsGg G G.1) (hMd : IsMd G (G.1 + 335)) (hO : At G (G.1 + 343) 12 1) (hOD : At G (G.1 + 344) 13 1) (M : Mem) (g : Gst) (len : Int) (b : Int → Int) (hC : CI G M g len b) (hR : RI G M g len b) (hk : OkI g len b) (k n : Nat) (hkn : k + 4 ≤ 601024 ∧ n + 24 ≤ 7293034) (i : Int) (hi : 0 ≤ i) (hiL : i + 5 ≤ L) (hL : L ≤ 2560) (kend : ∀ (M' : Mem) (g' : Gst) (len' : Int) (b' : Int → Int), CI G M' g' len' b' → RI G M' g' len' b' → OkI g' len' b' → WM G X (k + 4) (n + 24) Q M' 2423 [(5, .int (iI i)), (4, .ref (G.1 + 344)), (3, .ref (G.1 + 343)), (2, .ref (G.1 + 335)), (1, .ref G.1), (0, .ref bS)] []) : WM G X k n Q M 496 [(5, .int (iI i)), (4, .ref (G.1 + 344)), (3, .ref (G.1 + 343)), (2, .ref (G.1 + 335)), (1, .ref G.1), (0, .ref bS)] [] := by
  refine r_aload_n B 4 dL_law_496 rfl ?_
  refine r_aload_n B 5 dL_law_497 rfl ?_
  refine r_iload B 0 dL_law_498 rfl ?_
  refine r_iconst B dL_law_500 ?_
  refine r_iadd B dL_law_501 ?_
  refine r_sld B hX hbl hbA dL_law_502 (by omega) (by omega) hL ?_
  refine r_aload_n B 5 dL_law_503 rfl ?_
  refine r_iload B 0 dL_law_504 rfl ?_
  refine r_iconst B dL_law_506 ?_
  refine r_iadd B dL_law_507 ?_
  refine r_sld B hX hbl hbA dL_law_508 (by omega) (by omega) hL ?_
  refine r_aload_n B 2 dL_law_509 rfl ?_
  refine r_W B (As := [.ref G.1, .int (iI (sc xs (i + 1))), .int (iI (sc xs (i + 2))), .ref (G.1 + 343)]) (st := []) (w_turn l hst G M g len b hG hO hC hk (sc xs (i + 1)) (sc xs (i + 2)) (sc_in _ _) (sc_in _ _)) ⟨rfl, rfl⟩ rfl ⟨by decide +kernel, by decide +kernel⟩ (z := 4) rfl (by decide +kernel) q_597 q_0 q_595 q_596 ⟨Nat.le_of_ble_eq_true rfl, Nat.le_of_ble_eq_true rfl, Nat.le_of_ble_eq_true rfl⟩ ⟨by show _ ≤ 601024; omega, by show _ ≤ 7293034; omega⟩ dL_law_510 (fun kr M1 hw => ?_)
  obtain ⟨hr, hk32, hout, hC1, hF1⟩ := hw
  subst hr
  have hR1 := hR.kept hF1
  refine WM.widen (k' := k + 4) (n' := n + 24) (by omega) (by omega) ?_
  refine r_istore B (lv' := [(6, .int (iI ((oTurn g.1 (sc xs (i + 1)) (sc xs (i + 2))).1))), (5, .int (iI i)), (4, .ref (G.1 + 344)), (3, .ref (G.1 + 343)), (2, .ref (G.1 + 335)), (1, .ref G.1), (0, .ref bS)]) dL_law_513 (by decide) rfl ?_
  refine r_aload_n B 4 dL_law_515 rfl ?_
  refine r_aload_n B 6 dL_law_516 rfl ?_
  refine r_iload B 1 dL_law_517 rfl ?_
  refine r_iconst B dL_law_519 ?_
  refine r_iadd B dL_law_520 ?_
  refine r_sld B hX hbl hbA dL_law_521 (by omega) (by omega) hL ?_
  refine r_aload_n B 6 dL_law_522 rfl ?_
  refine r_iload B 1 dL_law_523 rfl ?_
  refine r_iconst B dL_law_525 ?_
  refine r_iadd B dL_law_526 ?_
  refine r_sld B hX hbl hbA dL_law_527 (by omega) (by omega) hL ?_
  refine r_Vi2 B (c_X6_turn l G M1 (G.1 + 335) hMd g.1 g.2.1 g.2.2 hR1.1 hk.1 (sc xs (i + 1)) (sc xs (i + 2)) (sc_in _ _) (sc_in _ _)) ⟨rfl, rfl⟩ ok_X6_turn vi_X6_turn q_1042 hMd.1 rfl (fun _ => rfl) ⟨Nat.le_of_ble_eq_true rfl, Nat.le_of_ble_eq_true rfl, Nat.le_of_ble_eq_true rfl⟩ ⟨by show _ ≤ 601024; omega, by show _ ≤ 7293034; omega⟩ dL_law_528 (fun r M2 h2 => ?_)
  have h3 := Rp.D hR1 h2
  obtain ⟨hr2, h6, hR2, hF2⟩ := h3
  subst hr2
  have hk2 : OkI (nxG g (oTurn g.1 (sc xs (i + 1)) (sc xs (i + 2)))) len b := ⟨nxG_ok hk.1 (ok_oTurn hk.1.1), hk.2⟩
  have hC2 := hC1.kept hk2.1 hF2
  have hout2 : (oTurn g.1 (sc xs (i + 1)) (sc xs (i + 2))).1 = 0 → gL M2 (G.1 + 343) 0 = (xI (oTurn g.1 (sc xs (i + 1)) (sc xs (i + 2))).2.1) := fun w => by rw [(hF2 (G.1 + 343) (by omega)).2.1]; exact hout w
  refine r_istore B (lv' := [(7, .int (iI ((oTurn g.1 (sc xs (i + 1)) (sc xs (i + 2))).2.1))), (6, .int (iI ((oTurn g.1 (sc xs (i + 1)) (sc xs (i + 2))).1))), (5, .int (iI i)), (4, .ref (G.1 + 344)), (3, .ref (G.1 + 343)), (2, .ref (G.1 + 335)), (1, .ref G.1), (0, .ref bS)]) dL_law_531 (by decide) rfl ?_
  refine r_aload_n B 5 dL_law_533 rfl ?_
  refine r_pVi0 B (c_X6_thrown l G M2 (G.1 + 335) hMd _ h6) ⟨rfl, rfl⟩ ok_X6_thrown vi_X6_thrown q_947 hMd.1 rfl (fun _ => rfl) ⟨Nat.le_of_ble_eq_true rfl, Nat.le_of_ble_eq_true rfl, Nat.le_of_ble_eq_true rfl⟩ ⟨by show _ ≤ 601024; omega, by show _ ≤ 7293034; omega⟩ dL_law_534 ?_
  refine r_iload B 1 dL_law_537 rfl ?_
  refine r_same B dL_law_539 rfl ?_
  refine r_iload B 1 dL_law_544 rfl ?_
  have hend : WM G X (k + 4) (n + 24) Q M2 561 [(7, .int (iI ((oTurn g.1 (sc xs (i + 1)) (sc xs (i + 2))).2.1))), (6, .int (iI ((oTurn g.1 (sc xs (i + 1)) (sc xs (i + 2))).1))), (5, .int (iI i)), (4, .ref (G.1 + 344)), (3, .ref (G.1 + 343)), (2, .ref (G.1 + 335)), (1, .ref G.1), (0, .ref bS)] [] := by
    refine r_goto B dL_law_561 rfl ?_
    refine WM.pick [2, 3, 4, 5, 6, 7] rfl ?_
    exact kend M2 _ _ _ hC2 hR2 hk2
  refine r_if_ne B dL_law_546 rfl hk32 (fun _ => hend) (fun hz => ?_)
  refine r_aload_n B 4 dL_law_549 rfl ?_
  refine r_iconst B dL_law_550 ?_
  refine r_laload B dL_law_551 hO (by omega) (by decide) ?_
  refine r_vl (y := (xI (oTurn g.1 (sc xs (i + 1)) (sc xs (i + 2))).2.1)) (hout2 hz) ?_
  refine r_iload B 0 dL_law_552 rfl ?_
  refine r_i2lw B dL_law_554 ?_
  exact r_lsame B dL_law_555 dL_law_556 rfl hend
set_option maxRecDepth 100000 in
set_option maxHeartbeats 4000000 in
theorem law_gears (l : Launch) (hst : l.stackTraces = false) (G : Gs) (X : Cx) (B : Bx l G X cL_law 9 RL room_1 ret) {Q : State → Prop} {bS L : Nat} {xs : Nat → Int32} (hX : va_X bS L xs X.2.2.2.2.1 X.2.2.2.2.1.heap) (hbl : bS < X.2.2.2.2.1.heap.size) (hbA : bS < G.1) (hG : IsGg G G.1) (hMd : IsMd G (G.1 + 335)) (hO : At G (G.1 + 343) 12 1) (hOD : At G (G.1 + 344) 13 1) (M : Mem) (g : Gst) (len : Int) (b : Int → Int) (hC : CI G M g len b) (hR : RI G M g len b) (hk : OkI g len b) (k n : Nat) (hkn : k + 4 ≤ 601024 ∧ n + 24 ≤ 7293034) (i : Int) (hi : 0 ≤ i) (hiL : i + 5 ≤ L) (hL : L ≤ 2560) (kend : ∀ (M' : Mem) (g' : Gst) (len' : Int) (b' : Int → Int), CI G M' g' len' b' → RI G M' g' len' b' → OkI g' len' b' → WM G X (k + 4) (n + 24) Q M' 2423 [(5, .int (iI i)), (4, .ref (G.1 + 344)), (3, .ref (G.1 + 343)), (2, .ref (G.1 + 335)), (1, .ref G.1), (0, .ref bS)] []) : WM G X k n Q M 564 [(5, .int (iI i)), (4, .ref (G.1 + 344)), (3, .ref (G.1 + 343)), (2, .ref (G.1 + 335)), (1, .ref G.1), (0, .ref bS)] [] := by
  refine r_aload_n B 4 dL_law_564 rfl ?_
  refine r_pVi0 B (c_X5_gears l G M G.1 g.1 hG hC.1.1 hk.1.1) ⟨rfl, rfl⟩ ok_X5_gears vi_X5_gears q_199 hG.1 rfl (fun _ => rfl) ⟨Nat.le_of_ble_eq_true rfl, Nat.le_of_ble_eq_true rfl, Nat.le_of_ble_eq_true rfl⟩ ⟨by show _ ≤ 601024; omega, by show _ ≤ 7293034; omega⟩ dL_law_565 ?_
  refine r_aload_n B 3 dL_law_568 rfl ?_
  refine r_Vi0 B (c_X6_gears l G M (G.1 + 335) hMd g.1 hR.1.1 hk.1.1) ⟨rfl, rfl⟩ ok_X6_gears vi_X6_gears q_1054 hMd.1 rfl (fun _ => rfl) ⟨Nat.le_of_ble_eq_true rfl, Nat.le_of_ble_eq_true rfl, Nat.le_of_ble_eq_true rfl⟩ ⟨by show _ ≤ 601024; omega, by show _ ≤ 7293034; omega⟩ dL_law_569 (fun r2 M2 h2 => ?_)
  obtain ⟨e1, e2⟩ := h2
  rw [e1, e2]
  have hC2 := hC.kept hk.1 (fR.sI (G := G) (M := M) (k := 6) (v := 0))
  have hR2 := hR.sI6 (v := 0)
  refine WM.widen (k' := k + 4) (n' := n + 24) (by omega) (by omega) ?_
  exact r_same B dL_law_572 rfl (kend _ _ _ _ hC2 hR2 hk)
set_option maxRecDepth 100000 in
set_option maxHeartbeats 4000000 in
theorem law_gear (l : Launch) (hst : l.stackTraces = false) (G : Gs) (X : Cx) (B : Bx l G X cL_law 9 RL room_1 ret) {Q : State → Prop} {bS L : Nat} {xs : Nat → Int32} (hX : va_X bS L xs X.2.2.2.2.1 X.2.2.2.2.1.heap) (hbl : bS < X.2.2.2.2.1.heap.size) (hbA : bS < G.1) (hG : IsGg G G.1) (hMd : IsMd G (G.1 + 335)) (hO : At G (G.1 + 343) 12 1) (hOD : At G (G.1 + 344) 13 1) (M : Mem) (g : Gst) (len : Int) (b : Int → Int) (hC : CI G M g len b) (hR : RI G M g len b) (hk : OkI g len b) (k n : Nat) (hkn : k + 4 ≤ 601024 ∧ n + 24 ≤ 7293034) (i : Int) (hi : 0 ≤ i) (hiL : i + 5 ≤ L) (hL : L ≤ 2560) (kend : ∀ (M' : Mem) (g' : Gst) (len' : Int) (b' : Int → Int), CI G M' g' len' b' → RI G M' g' len' b' → OkI g' len' b' → WM G X (k + 4) (n + 24) Q M' 2423 [(5, .int (iI i)), (4, .ref (G.1 + 344)), (3, .ref (G.1 + 343)), (2, .ref (G.1 + 335)), (1, .ref G.1), (0, .ref bS)] []) : WM G X k n Q M 577 [(5, .int (iI i)), (4, .ref (G.1 + 344)), (3, .ref (G.1 + 343)), (2, .ref (G.1 + 335)), (1, .ref G.1), (0, .ref bS)] [] := by
  refine r_aload_n B 4 dL_law_577 rfl ?_
  refine r_aload_n B 5 dL_law_578 rfl ?_
  refine r_iload B 0 dL_law_579 rfl ?_
  refine r_iconst B dL_law_581 ?_
  refine r_iadd B dL_law_582 ?_
  refine r_sld B hX hbl hbA dL_law_583 (by omega) (by omega) hL ?_
  refine r_aload_n B 5 dL_law_584 rfl ?_
  refine r_iload B 0 dL_law_585 rfl ?_
  refine r_iconst B dL_law_587 ?_
  refine r_iadd B dL_law_588 ?_
  refine r_sld B hX hbl hbA dL_law_589 (by omega) (by omega) hL ?_
  refine r_aload_n B 2 dL_law_590 rfl ?_
  refine r_W B (As := [.ref G.1, .int (iI (sc xs (i + 1))), .int (iI (sc xs (i + 2))), .ref (G.1 + 343)]) (st := []) (w_gear l hst G M g len b hG hO hC hk (sc xs (i + 1)) (sc xs (i + 2)) (sc_in _ _) (sc_in _ _)) ⟨rfl, rfl⟩ rfl ⟨by decide +kernel, by decide +kernel⟩ (z := 4) rfl (by decide +kernel) q_616 q_0 q_614 q_615 ⟨Nat.le_of_ble_eq_true rfl, Nat.le_of_ble_eq_true rfl, Nat.le_of_ble_eq_true rfl⟩ ⟨by show _ ≤ 601024; omega, by show _ ≤ 7293034; omega⟩ dL_law_591 (fun kr M1 hw => ?_)
  obtain ⟨hr, hk32, hout, hC1, hF1⟩ := hw
  subst hr
  have hR1 := hR.kept hF1
  refine WM.widen (k' := k + 4) (n' := n + 24) (by omega) (by omega) ?_
  refine r_istore B (lv' := [(6, .int (iI ((oGear g.1 (sc xs (i + 1)) (sc xs (i + 2))).1))), (5, .int (iI i)), (4, .ref (G.1 + 344)), (3, .ref (G.1 + 343)), (2, .ref (G.1 + 335)), (1, .ref G.1), (0, .ref bS)]) dL_law_594 (by decide) rfl ?_
  refine r_aload_n B 4 dL_law_596 rfl ?_
  refine r_aload_n B 6 dL_law_597 rfl ?_
  refine r_iload B 1 dL_law_598 rfl ?_
  refine r_iconst B dL_law_600 ?_
  refine r_iadd B dL_law_601 ?_
  refine r_sld B hX hbl hbA dL_law_602 (by omega) (by omega) hL ?_
  refine r_aload_n B 6 dL_law_603 rfl ?_
  refine r_iload B 1 dL_law_604 rfl ?_
  refine r_iconst B dL_law_606 ?_
  refine r_iadd B dL_law_607 ?_
  refine r_sld B hX hbl hbA dL_law_608 (by omega) (by omega) hL ?_
  refine r_Vi2 B (c_X6_gear l G M1 (G.1 + 335) hMd g.1 hR1.1.1 hk.1.1 (sc xs (i + 1)) (sc xs (i + 2)) (sc_in _ _) (sc_in _ _)) ⟨rfl, rfl⟩ ok_X6_gear vi_X6_gear q_1058 hMd.1 rfl (fun _ => rfl) ⟨Nat.le_of_ble_eq_true rfl, Nat.le_of_ble_eq_true rfl, Nat.le_of_ble_eq_true rfl⟩ ⟨by show _ ≤ 601024; omega, by show _ ≤ 7293034; omega⟩ dL_law_609 (fun r M2 h2 => ?_)
  have h3 := Rp.B hR1 h2
  obtain ⟨hr2, h6, hR2, hF2⟩ := h3
  subst hr2
  have hk2 : OkI g len b := hk
  have hC2 := hC1.kept hk2.1 hF2
  have hout2 : (oGear g.1 (sc xs (i + 1)) (sc xs (i + 2))).1 = 0 → gL M2 (G.1 + 343) 0 = (xI (oGear g.1 (sc xs (i + 1)) (sc xs (i + 2))).2) := fun w => by rw [(hF2 (G.1 + 343) (by omega)).2.1]; exact hout w
  refine r_istore B (lv' := [(7, .int (iI ((oGear g.1 (sc xs (i + 1)) (sc xs (i + 2))).2))), (6, .int (iI ((oGear g.1 (sc xs (i + 1)) (sc xs (i + 2))).1))), (5, .int (iI i)), (4, .ref (G.1 + 344)), (3, .ref (G.1 + 343)), (2, .ref (G.1 + 335)), (1, .ref G.1), (0, .ref bS)]) dL_law_612 (by decide) rfl ?_
  refine r_aload_n B 5 dL_law_614 rfl ?_
  refine r_pVi0 B (c_X6_thrown l G M2 (G.1 + 335) hMd _ h6) ⟨rfl, rfl⟩ ok_X6_thrown vi_X6_thrown q_947 hMd.1 rfl (fun _ => rfl) ⟨Nat.le_of_ble_eq_true rfl, Nat.le_of_ble_eq_true rfl, Nat.le_of_ble_eq_true rfl⟩ ⟨by show _ ≤ 601024; omega, by show _ ≤ 7293034; omega⟩ dL_law_615 ?_
  refine r_iload B 1 dL_law_618 rfl ?_
  refine r_same B dL_law_620 rfl ?_
  refine r_iload B 1 dL_law_625 rfl ?_
  have hend : WM G X (k + 4) (n + 24) Q M2 642 [(7, .int (iI ((oGear g.1 (sc xs (i + 1)) (sc xs (i + 2))).2))), (6, .int (iI ((oGear g.1 (sc xs (i + 1)) (sc xs (i + 2))).1))), (5, .int (iI i)), (4, .ref (G.1 + 344)), (3, .ref (G.1 + 343)), (2, .ref (G.1 + 335)), (1, .ref G.1), (0, .ref bS)] [] := by
    refine r_goto B dL_law_642 rfl ?_
    refine WM.pick [2, 3, 4, 5, 6, 7] rfl ?_
    exact kend M2 _ _ _ hC2 hR2 hk2
  refine r_if_ne B dL_law_627 rfl hk32 (fun _ => hend) (fun hz => ?_)
  refine r_aload_n B 4 dL_law_630 rfl ?_
  refine r_iconst B dL_law_631 ?_
  refine r_laload B dL_law_632 hO (by omega) (by decide) ?_
  refine r_vl (y := (xI (oGear g.1 (sc xs (i + 1)) (sc xs (i + 2))).2)) (hout2 hz) ?_
  refine r_iload B 0 dL_law_633 rfl ?_
  refine r_i2lw B dL_law_635 ?_
  exact r_lsame B dL_law_636 dL_law_637 rfl hend
set_option maxRecDepth 100000 in
set_option maxHeartbeats 4000000 in
theorem law_reading (l : Launch) (hst : l.stackTraces = false) (G : Gs) (X : Cx) (B : Bx l G X cL_law 9 RL room_1 ret) {Q : State → Prop} {bS L : Nat} {xs : Nat → Int32} (hX : va_X bS L xs X.2.2.2.2.1 X.2.2.2.2.1.heap) (hbl : bS < X.2.2.2.2.1.heap.size) (hbA : bS < G.1) (hG : IsGg G G.1) (hMd : IsMd G (G.1 + 335)) (hO : At G (G.1 + 343) 12 1) (hOD : At G (G.1 + 344) 13 1) (M : Mem) (g : Gst) (len : Int) (b : Int → Int) (hC : CI G M g len b) (hR : RI G M g len b) (hk : OkI g len b) (k n : Nat) (hkn : k + 4 ≤ 601024 ∧ n + 24 ≤ 7293034) (i : Int) (hi : 0 ≤ i) (hiL : i + 5 ≤ L) (hL : L ≤ 2560) (kend : ∀ (M' : Mem) (g' : Gst) (len' : Int) (b' : Int → Int), CI G M' g' len' b' → RI G M' g' len' b' → OkI g' len' b' → WM G X (k + 4) (n + 24) Q M' 2423 [(5, .int (iI i)), (4, .ref (G.1 + 344)), (3, .ref (G.1 + 343)), (2, .ref (G.1 + 335)), (1, .ref G.1), (0, .ref bS)] []) : WM G X k n Q M 645 [(5, .int (iI i)), (4, .ref (G.1 + 344)), (3, .ref (G.1 + 343)), (2, .ref (G.1 + 335)), (1, .ref G.1), (0, .ref bS)] [] := by
  refine r_aload_n B 4 dL_law_645 rfl ?_
  refine r_aload_n B 5 dL_law_646 rfl ?_
  refine r_iload B 0 dL_law_647 rfl ?_
  refine r_iconst B dL_law_649 ?_
  refine r_iadd B dL_law_650 ?_
  refine r_sld B hX hbl hbA dL_law_651 (by omega) (by omega) hL ?_
  refine r_aload_n B 5 dL_law_652 rfl ?_
  refine r_iload B 0 dL_law_653 rfl ?_
  refine r_iconst B dL_law_655 ?_
  refine r_iadd B dL_law_656 ?_
  refine r_sld B hX hbl hbA dL_law_657 (by omega) (by omega) hL ?_
  refine r_aload_n B 5 dL_law_658 rfl ?_
  refine r_iload B 0 dL_law_659 rfl ?_
  refine r_iconst B dL_law_661 ?_
  refine r_iadd B dL_law_662 ?_
  refine r_sld B hX hbl hbA dL_law_663 (by omega) (by omega) hL ?_
  refine r_aload_n B 2 dL_law_664 rfl ?_
  refine r_W B (As := [.ref G.1, .int (iI (sc xs (i + 1))), .int (iI (sc xs (i + 2))), .int (iI (sc xs (i + 3))), .ref (G.1 + 343)]) (st := []) (w_reading l hst G M g len b hG hO hC hk (sc xs (i + 1)) (sc xs (i + 2)) (sc xs (i + 3)) (sc_in _ _) (sc_in _ _) (sc_in _ _)) ⟨rfl, rfl⟩ rfl ⟨by decide +kernel, by decide +kernel⟩ (z := 5) rfl (by decide +kernel) q_624 q_0 q_622 q_623 ⟨Nat.le_of_ble_eq_true rfl, Nat.le_of_ble_eq_true rfl, Nat.le_of_ble_eq_true rfl⟩ ⟨by show _ ≤ 601024; omega, by show _ ≤ 7293034; omega⟩ dL_law_665 (fun kr M1 hw => ?_)
  obtain ⟨hr, hk32, hout, hC1, hF1⟩ := hw
  subst hr
  have hR1 := hR.kept hF1
  refine WM.widen (k' := k + 4) (n' := n + 24) (by omega) (by omega) ?_
  refine r_istore B (lv' := [(6, .int (iI ((oReading g.1 (sc xs (i + 1)) (sc xs (i + 2)) (sc xs (i + 3))).1))), (5, .int (iI i)), (4, .ref (G.1 + 344)), (3, .ref (G.1 + 343)), (2, .ref (G.1 + 335)), (1, .ref G.1), (0, .ref bS)]) dL_law_668 (by decide) rfl ?_
  refine r_aload_n B 4 dL_law_670 rfl ?_
  refine r_aload_n B 6 dL_law_671 rfl ?_
  refine r_iload B 1 dL_law_672 rfl ?_
  refine r_iconst B dL_law_674 ?_
  refine r_iadd B dL_law_675 ?_
  refine r_sld B hX hbl hbA dL_law_676 (by omega) (by omega) hL ?_
  refine r_aload_n B 6 dL_law_677 rfl ?_
  refine r_iload B 1 dL_law_678 rfl ?_
  refine r_iconst B dL_law_680 ?_
  refine r_iadd B dL_law_681 ?_
  refine r_sld B hX hbl hbA dL_law_682 (by omega) (by omega) hL ?_
  refine r_aload_n B 6 dL_law_683 rfl ?_
  refine r_iload B 1 dL_law_684 rfl ?_
  refine r_iconst B dL_law_686 ?_
  refine r_iadd B dL_law_687 ?_
  refine r_sld B hX hbl hbA dL_law_688 (by omega) (by omega) hL ?_
  refine r_Vi3 B (c_X6_reading l G M1 (G.1 + 335) hMd g.1 hR1.1.1 hk.1.1 (sc xs (i + 1)) (sc xs (i + 2)) (sc xs (i + 3)) (sc_in _ _) (sc_in _ _) (sc_in _ _)) ⟨rfl, rfl⟩ ok_X6_reading vi_X6_reading q_1134 hMd.1 rfl (fun _ => rfl) ⟨Nat.le_of_ble_eq_true rfl, Nat.le_of_ble_eq_true rfl, Nat.le_of_ble_eq_true rfl⟩ ⟨by show _ ≤ 601024; omega, by show _ ≤ 7293034; omega⟩ dL_law_689 (fun r M2 h2 => ?_)
  have h3 := Rp.A hR1 h2
  obtain ⟨hr2, h6, hR2, hF2⟩ := h3
  subst hr2
  have hk2 : OkI g len b := hk
  have hC2 := hC1.kept hk2.1 hF2
  have hout2 : (oReading g.1 (sc xs (i + 1)) (sc xs (i + 2)) (sc xs (i + 3))).1 = 0 → gL M2 (G.1 + 343) 0 = (xI (oReading g.1 (sc xs (i + 1)) (sc xs (i + 2)) (sc xs (i + 3))).2) := fun w => by rw [(hF2 (G.1 + 343) (by omega)).2.1]; exact hout w
  refine r_istore B (lv' := [(7, .int (iI ((oReading g.1 (sc xs (i + 1)) (sc xs (i + 2)) (sc xs (i + 3))).2))), (6, .int (iI ((oReading g.1 (sc xs (i + 1)) (sc xs (i + 2)) (sc xs (i + 3))).1))), (5, .int (iI i)), (4, .ref (G.1 + 344)), (3, .ref (G.1 + 343)), (2, .ref (G.1 + 335)), (1, .ref G.1), (0, .ref bS)]) dL_law_692 (by decide) rfl ?_
  refine r_aload_n B 5 dL_law_694 rfl ?_
  refine r_pVi0 B (c_X6_thrown l G M2 (G.1 + 335) hMd _ h6) ⟨rfl, rfl⟩ ok_X6_thrown vi_X6_thrown q_947 hMd.1 rfl (fun _ => rfl) ⟨Nat.le_of_ble_eq_true rfl, Nat.le_of_ble_eq_true rfl, Nat.le_of_ble_eq_true rfl⟩ ⟨by show _ ≤ 601024; omega, by show _ ≤ 7293034; omega⟩ dL_law_695 ?_
  refine r_iload B 1 dL_law_698 rfl ?_
  refine r_same B dL_law_700 rfl ?_
  refine r_iload B 1 dL_law_705 rfl ?_
  have hend : WM G X (k + 4) (n + 24) Q M2 722 [(7, .int (iI ((oReading g.1 (sc xs (i + 1)) (sc xs (i + 2)) (sc xs (i + 3))).2))), (6, .int (iI ((oReading g.1 (sc xs (i + 1)) (sc xs (i + 2)) (sc xs (i + 3))).1))), (5, .int (iI i)), (4, .ref (G.1 + 344)), (3, .ref (G.1 + 343)), (2, .ref (G.1 + 335)), (1, .ref G.1), (0, .ref bS)] [] := by
    refine r_goto B dL_law_722 rfl ?_
    refine WM.pick [2, 3, 4, 5, 6, 7] rfl ?_
    exact kend M2 _ _ _ hC2 hR2 hk2
  refine r_if_ne B dL_law_707 rfl hk32 (fun _ => hend) (fun hz => ?_)
  refine r_aload_n B 4 dL_law_710 rfl ?_
  refine r_iconst B dL_law_711 ?_
  refine r_laload B dL_law_712 hO (by omega) (by decide) ?_
  refine r_vl (y := (xI (oReading g.1 (sc xs (i + 1)) (sc xs (i + 2)) (sc xs (i + 3))).2)) (hout2 hz) ?_
  refine r_iload B 0 dL_law_713 rfl ?_
  refine r_i2lw B dL_law_715 ?_
  exact r_lsame B dL_law_716 dL_law_717 rfl hend
set_option maxRecDepth 100000 in
set_option maxHeartbeats 4000000 in
theorem law_index (l : Launch) (hst : l.stackTraces = false) (G : Gs) (X : Cx) (B : Bx l G X cL_law 9 RL room_1 ret) {Q : State → Prop} {bS L : Nat} {xs : Nat → Int32} (hX : va_X bS L xs X.2.2.2.2.1 X.2.2.2.2.1.heap) (hbl : bS < X.2.2.2.2.1.heap.size) (hbA : bS < G.1) (hG : IsGg G G.1) (hMd : IsMd G (G.1 + 335)) (hO : At G (G.1 + 343) 12 1) (hOD : At G (G.1 + 344) 13 1) (M : Mem) (g : Gst) (len : Int) (b : Int → Int) (hC : CI G M g len b) (hR : RI G M g len b) (hk : OkI g len b) (k n : Nat) (hkn : k + 4 ≤ 601024 ∧ n + 24 ≤ 7293034) (i : Int) (hi : 0 ≤ i) (hiL : i + 5 ≤ L) (hL : L ≤ 2560) (kend : ∀ (M' : Mem) (g' : Gst) (len' : Int) (b' : Int → Int), CI G M' g' len' b' → RI G M' g' len' b' → OkI g' len' b' → WM G X (k + 4) (n + 24) Q M' 2423 [(5, .int (iI i)), (4, .ref (G.1 + 344)), (3, .ref (G.1 + 343)), (2, .ref (G.1 + 335)), (1, .ref G.1), (0, .ref bS)] []) : WM G X k n Q M 725 [(5, .int (iI i)), (4, .ref (G.1 + 344)), (3, .ref (G.1 + 343)), (2, .ref (G.1 + 335)), (1, .ref G.1), (0, .ref bS)] [] := by
  refine r_aload_n B 4 dL_law_725 rfl ?_
  refine r_aload_n B 5 dL_law_726 rfl ?_
  refine r_iload B 0 dL_law_727 rfl ?_
  refine r_iconst B dL_law_729 ?_
  refine r_iadd B dL_law_730 ?_
  refine r_sld B hX hbl hbA dL_law_731 (by omega) (by omega) hL ?_
  refine r_aload_n B 5 dL_law_732 rfl ?_
  refine r_iload B 0 dL_law_733 rfl ?_
  refine r_iconst B dL_law_735 ?_
  refine r_iadd B dL_law_736 ?_
  refine r_sld B hX hbl hbA dL_law_737 (by omega) (by omega) hL ?_
  refine r_aload_n B 5 dL_law_738 rfl ?_
  refine r_iload B 0 dL_law_739 rfl ?_
  refine r_iconst B dL_law_741 ?_
  refine r_iadd B dL_law_742 ?_
  refine r_sld B hX hbl hbA dL_law_743 (by omega) (by omega) hL ?_
  refine r_aload_n B 2 dL_law_744 rfl ?_
  refine r_W B (As := [.ref G.1, .int (iI (sc xs (i + 1))), .int (iI (sc xs (i + 2))), .int (iI (sc xs (i + 3))), .ref (G.1 + 343)]) (st := []) (w_index l hst G M g len b hG hO hC hk (sc xs (i + 1)) (sc xs (i + 2)) (sc xs (i + 3)) (sc_in _ _) (sc_in _ _) (sc_in _ _)) ⟨rfl, rfl⟩ rfl ⟨by decide +kernel, by decide +kernel⟩ (z := 5) rfl (by decide +kernel) q_631 q_0 q_629 q_630 ⟨Nat.le_of_ble_eq_true rfl, Nat.le_of_ble_eq_true rfl, Nat.le_of_ble_eq_true rfl⟩ ⟨by show _ ≤ 601024; omega, by show _ ≤ 7293034; omega⟩ dL_law_745 (fun kr M1 hw => ?_)
  obtain ⟨hr, hk32, hout, hC1, hF1⟩ := hw
  subst hr
  have hR1 := hR.kept hF1
  refine WM.widen (k' := k + 4) (n' := n + 24) (by omega) (by omega) ?_
  refine r_istore B (lv' := [(6, .int (iI ((oIndex g.1 (sc xs (i + 1)) (sc xs (i + 2)) (sc xs (i + 3))).1))), (5, .int (iI i)), (4, .ref (G.1 + 344)), (3, .ref (G.1 + 343)), (2, .ref (G.1 + 335)), (1, .ref G.1), (0, .ref bS)]) dL_law_748 (by decide) rfl ?_
  refine r_aload_n B 4 dL_law_750 rfl ?_
  refine r_aload_n B 6 dL_law_751 rfl ?_
  refine r_iload B 1 dL_law_752 rfl ?_
  refine r_iconst B dL_law_754 ?_
  refine r_iadd B dL_law_755 ?_
  refine r_sld B hX hbl hbA dL_law_756 (by omega) (by omega) hL ?_
  refine r_aload_n B 6 dL_law_757 rfl ?_
  refine r_iload B 1 dL_law_758 rfl ?_
  refine r_iconst B dL_law_760 ?_
  refine r_iadd B dL_law_761 ?_
  refine r_sld B hX hbl hbA dL_law_762 (by omega) (by omega) hL ?_
  refine r_aload_n B 6 dL_law_763 rfl ?_
  refine r_iload B 1 dL_law_764 rfl ?_
  refine r_iconst B dL_law_766 ?_
  refine r_iadd B dL_law_767 ?_
  refine r_sld B hX hbl hbA dL_law_768 (by omega) (by omega) hL ?_
  refine r_Vi3 B (c_X6_index l G M1 (G.1 + 335) hMd g.1 hR1.1.1 hk.1.1 (sc xs (i + 1)) (sc xs (i + 2)) (sc xs (i + 3)) (sc_in _ _) (sc_in _ _) (sc_in _ _)) ⟨rfl, rfl⟩ ok_X6_index vi_X6_index q_1138 hMd.1 rfl (fun _ => rfl) ⟨Nat.le_of_ble_eq_true rfl, Nat.le_of_ble_eq_true rfl, Nat.le_of_ble_eq_true rfl⟩ ⟨by show _ ≤ 601024; omega, by show _ ≤ 7293034; omega⟩ dL_law_769 (fun r M2 h2 => ?_)
  have h3 := Rp.A hR1 h2
  obtain ⟨hr2, h6, hR2, hF2⟩ := h3
  subst hr2
  have hk2 : OkI g len b := hk
  have hC2 := hC1.kept hk2.1 hF2
  have hout2 : (oIndex g.1 (sc xs (i + 1)) (sc xs (i + 2)) (sc xs (i + 3))).1 = 0 → gL M2 (G.1 + 343) 0 = (xI (oIndex g.1 (sc xs (i + 1)) (sc xs (i + 2)) (sc xs (i + 3))).2) := fun w => by rw [(hF2 (G.1 + 343) (by omega)).2.1]; exact hout w
  refine r_istore B (lv' := [(7, .int (iI ((oIndex g.1 (sc xs (i + 1)) (sc xs (i + 2)) (sc xs (i + 3))).2))), (6, .int (iI ((oIndex g.1 (sc xs (i + 1)) (sc xs (i + 2)) (sc xs (i + 3))).1))), (5, .int (iI i)), (4, .ref (G.1 + 344)), (3, .ref (G.1 + 343)), (2, .ref (G.1 + 335)), (1, .ref G.1), (0, .ref bS)]) dL_law_772 (by decide) rfl ?_
  refine r_aload_n B 5 dL_law_774 rfl ?_
  refine r_pVi0 B (c_X6_thrown l G M2 (G.1 + 335) hMd _ h6) ⟨rfl, rfl⟩ ok_X6_thrown vi_X6_thrown q_947 hMd.1 rfl (fun _ => rfl) ⟨Nat.le_of_ble_eq_true rfl, Nat.le_of_ble_eq_true rfl, Nat.le_of_ble_eq_true rfl⟩ ⟨by show _ ≤ 601024; omega, by show _ ≤ 7293034; omega⟩ dL_law_775 ?_
  refine r_iload B 1 dL_law_778 rfl ?_
  refine r_same B dL_law_780 rfl ?_
  refine r_iload B 1 dL_law_785 rfl ?_
  have hend : WM G X (k + 4) (n + 24) Q M2 802 [(7, .int (iI ((oIndex g.1 (sc xs (i + 1)) (sc xs (i + 2)) (sc xs (i + 3))).2))), (6, .int (iI ((oIndex g.1 (sc xs (i + 1)) (sc xs (i + 2)) (sc xs (i + 3))).1))), (5, .int (iI i)), (4, .ref (G.1 + 344)), (3, .ref (G.1 + 343)), (2, .ref (G.1 + 335)), (1, .ref G.1), (0, .ref bS)] [] := by
    refine r_goto B dL_law_802 rfl ?_
    refine WM.pick [2, 3, 4, 5, 6, 7] rfl ?_
    exact kend M2 _ _ _ hC2 hR2 hk2
  refine r_if_ne B dL_law_787 rfl hk32 (fun _ => hend) (fun hz => ?_)
  refine r_aload_n B 4 dL_law_790 rfl ?_
  refine r_iconst B dL_law_791 ?_
  refine r_laload B dL_law_792 hO (by omega) (by decide) ?_
  refine r_vl (y := (xI (oIndex g.1 (sc xs (i + 1)) (sc xs (i + 2)) (sc xs (i + 3))).2)) (hout2 hz) ?_
  refine r_iload B 0 dL_law_793 rfl ?_
  refine r_i2lw B dL_law_795 ?_
  exact r_lsame B dL_law_796 dL_law_797 rfl hend
set_option maxRecDepth 100000 in
set_option maxHeartbeats 4000000 in
theorem law_pitch (l : Launch) (hst : l.stackTraces = false) (G : Gs) (X : Cx) (B : Bx l G X cL_law 9 RL room_1 ret) {Q : State → Prop} {bS L : Nat} {xs : Nat → Int32} (hX : va_X bS L xs X.2.2.2.2.1 X.2.2.2.2.1.heap) (hbl : bS < X.2.2.2.2.1.heap.size) (hbA : bS < G.1) (hG : IsGg G G.1) (hMd : IsMd G (G.1 + 335)) (hO : At G (G.1 + 343) 12 1) (hOD : At G (G.1 + 344) 13 1) (M : Mem) (g : Gst) (len : Int) (b : Int → Int) (hC : CI G M g len b) (hR : RI G M g len b) (hk : OkI g len b) (k n : Nat) (hkn : k + 4 ≤ 601024 ∧ n + 24 ≤ 7293034) (i : Int) (hi : 0 ≤ i) (hiL : i + 5 ≤ L) (hL : L ≤ 2560) (kend : ∀ (M' : Mem) (g' : Gst) (len' : Int) (b' : Int → Int), CI G M' g' len' b' → RI G M' g' len' b' → OkI g' len' b' → WM G X (k + 4) (n + 24) Q M' 2423 [(5, .int (iI i)), (4, .ref (G.1 + 344)), (3, .ref (G.1 + 343)), (2, .ref (G.1 + 335)), (1, .ref G.1), (0, .ref bS)] []) : WM G X k n Q M 805 [(5, .int (iI i)), (4, .ref (G.1 + 344)), (3, .ref (G.1 + 343)), (2, .ref (G.1 + 335)), (1, .ref G.1), (0, .ref bS)] [] := by
  refine r_aload_n B 4 dL_law_805 rfl ?_
  refine r_aload_n B 5 dL_law_806 rfl ?_
  refine r_iload B 0 dL_law_807 rfl ?_
  refine r_iconst B dL_law_809 ?_
  refine r_iadd B dL_law_810 ?_
  refine r_sld B hX hbl hbA dL_law_811 (by omega) (by omega) hL ?_
  refine r_aload_n B 5 dL_law_812 rfl ?_
  refine r_iload B 0 dL_law_813 rfl ?_
  refine r_iconst B dL_law_815 ?_
  refine r_iadd B dL_law_816 ?_
  refine r_sld B hX hbl hbA dL_law_817 (by omega) (by omega) hL ?_
  refine r_aload_n B 5 dL_law_818 rfl ?_
  refine r_iload B 0 dL_law_819 rfl ?_
  refine r_iconst B dL_law_821 ?_
  refine r_iadd B dL_law_822 ?_
  refine r_sld B hX hbl hbA dL_law_823 (by omega) (by omega) hL ?_
  refine r_aload_n B 2 dL_law_824 rfl ?_
  refine r_W B (As := [.ref G.1, .int (iI (sc xs (i + 1))), .int (iI (sc xs (i + 2))), .int (iI (sc xs (i + 3))), .ref (G.1 + 343)]) (st := []) (w_pitch l hst G M g len b hG hO hC hk (sc xs (i + 1)) (sc xs (i + 2)) (sc xs (i + 3)) (sc_in _ _) (sc_in _ _) (sc_in _ _)) ⟨rfl, rfl⟩ rfl ⟨by decide +kernel, by decide +kernel⟩ (z := 5) rfl (by decide +kernel) q_643 q_0 q_641 q_642 ⟨Nat.le_of_ble_eq_true rfl, Nat.le_of_ble_eq_true rfl, Nat.le_of_ble_eq_true rfl⟩ ⟨by show _ ≤ 601024; omega, by show _ ≤ 7293034; omega⟩ dL_law_825 (fun kr M1 hw => ?_)
  obtain ⟨hr, hk32, hout, hC1, hF1⟩ := hw
  subst hr
  have hR1 := hR.kept hF1
  refine WM.widen (k' := k + 4) (n' := n + 24) (by omega) (by omega) ?_
  refine r_istore B (lv' := [(6, .int (iI ((oPitch g.1 (sc xs (i + 1)) (sc xs (i + 2)) (sc xs (i + 3))).1))), (5, .int (iI i)), (4, .ref (G.1 + 344)), (3, .ref (G.1 + 343)), (2, .ref (G.1 + 335)), (1, .ref G.1), (0, .ref bS)]) dL_law_828 (by decide) rfl ?_
  refine r_aload_n B 4 dL_law_830 rfl ?_
  refine r_aload_n B 6 dL_law_831 rfl ?_
  refine r_iload B 1 dL_law_832 rfl ?_
  refine r_iconst B dL_law_834 ?_
  refine r_iadd B dL_law_835 ?_
  refine r_sld B hX hbl hbA dL_law_836 (by omega) (by omega) hL ?_
  refine r_aload_n B 6 dL_law_837 rfl ?_
  refine r_iload B 1 dL_law_838 rfl ?_
  refine r_iconst B dL_law_840 ?_
  refine r_iadd B dL_law_841 ?_
  refine r_sld B hX hbl hbA dL_law_842 (by omega) (by omega) hL ?_
  refine r_aload_n B 6 dL_law_843 rfl ?_
  refine r_iload B 1 dL_law_844 rfl ?_
  refine r_iconst B dL_law_846 ?_
  refine r_iadd B dL_law_847 ?_
  refine r_sld B hX hbl hbA dL_law_848 (by omega) (by omega) hL ?_
  refine r_Vi3 B (c_X6_pitch l G M1 (G.1 + 335) hMd g.1 hR1.1.1 hk.1.1 (sc xs (i + 1)) (sc xs (i + 2)) (sc xs (i + 3)) (sc_in _ _) (sc_in _ _) (sc_in _ _)) ⟨rfl, rfl⟩ ok_X6_pitch vi_X6_pitch q_1146 hMd.1 rfl (fun _ => rfl) ⟨Nat.le_of_ble_eq_true rfl, Nat.le_of_ble_eq_true rfl, Nat.le_of_ble_eq_true rfl⟩ ⟨by show _ ≤ 601024; omega, by show _ ≤ 7293034; omega⟩ dL_law_849 (fun r M2 h2 => ?_)
  have h3 := Rp.A hR1 h2
  obtain ⟨hr2, h6, hR2, hF2⟩ := h3
  subst hr2
  have hk2 : OkI g len b := hk
  have hC2 := hC1.kept hk2.1 hF2
  have hout2 : (oPitch g.1 (sc xs (i + 1)) (sc xs (i + 2)) (sc xs (i + 3))).1 = 0 → gL M2 (G.1 + 343) 0 = (xI (oPitch g.1 (sc xs (i + 1)) (sc xs (i + 2)) (sc xs (i + 3))).2) := fun w => by rw [(hF2 (G.1 + 343) (by omega)).2.1]; exact hout w
  refine r_istore B (lv' := [(7, .int (iI ((oPitch g.1 (sc xs (i + 1)) (sc xs (i + 2)) (sc xs (i + 3))).2))), (6, .int (iI ((oPitch g.1 (sc xs (i + 1)) (sc xs (i + 2)) (sc xs (i + 3))).1))), (5, .int (iI i)), (4, .ref (G.1 + 344)), (3, .ref (G.1 + 343)), (2, .ref (G.1 + 335)), (1, .ref G.1), (0, .ref bS)]) dL_law_852 (by decide) rfl ?_
  refine r_aload_n B 5 dL_law_854 rfl ?_
  refine r_pVi0 B (c_X6_thrown l G M2 (G.1 + 335) hMd _ h6) ⟨rfl, rfl⟩ ok_X6_thrown vi_X6_thrown q_947 hMd.1 rfl (fun _ => rfl) ⟨Nat.le_of_ble_eq_true rfl, Nat.le_of_ble_eq_true rfl, Nat.le_of_ble_eq_true rfl⟩ ⟨by show _ ≤ 601024; omega, by show _ ≤ 7293034; omega⟩ dL_law_855 ?_
  refine r_iload B 1 dL_law_858 rfl ?_
  refine r_same B dL_law_860 rfl ?_
  refine r_iload B 1 dL_law_865 rfl ?_
  have hend : WM G X (k + 4) (n + 24) Q M2 882 [(7, .int (iI ((oPitch g.1 (sc xs (i + 1)) (sc xs (i + 2)) (sc xs (i + 3))).2))), (6, .int (iI ((oPitch g.1 (sc xs (i + 1)) (sc xs (i + 2)) (sc xs (i + 3))).1))), (5, .int (iI i)), (4, .ref (G.1 + 344)), (3, .ref (G.1 + 343)), (2, .ref (G.1 + 335)), (1, .ref G.1), (0, .ref bS)] [] := by
    refine r_goto B dL_law_882 rfl ?_
    refine WM.pick [2, 3, 4, 5, 6, 7] rfl ?_
    exact kend M2 _ _ _ hC2 hR2 hk2
  refine r_if_ne B dL_law_867 rfl hk32 (fun _ => hend) (fun hz => ?_)
  refine r_aload_n B 4 dL_law_870 rfl ?_
  refine r_iconst B dL_law_871 ?_
  refine r_laload B dL_law_872 hO (by omega) (by decide) ?_
  refine r_vl (y := (xI (oPitch g.1 (sc xs (i + 1)) (sc xs (i + 2)) (sc xs (i + 3))).2)) (hout2 hz) ?_
  refine r_iload B 0 dL_law_873 rfl ?_
  refine r_i2lw B dL_law_875 ?_
  exact r_lsame B dL_law_876 dL_law_877 rfl hend
set_option maxRecDepth 100000 in
set_option maxHeartbeats 4000000 in
theorem law_span (l : Launch) (hst : l.stackTraces = false) (G : Gs) (X : Cx) (B : Bx l G X cL_law 9 RL room_1 ret) {Q : State → Prop} {bS L : Nat} {xs : Nat → Int32} (hX : va_X bS L xs X.2.2.2.2.1 X.2.2.2.2.1.heap) (hbl : bS < X.2.2.2.2.1.heap.size) (hbA : bS < G.1) (hG : IsGg G G.1) (hMd : IsMd G (G.1 + 335)) (hO : At G (G.1 + 343) 12 1) (hOD : At G (G.1 + 344) 13 1) (M : Mem) (g : Gst) (len : Int) (b : Int → Int) (hC : CI G M g len b) (hR : RI G M g len b) (hk : OkI g len b) (k n : Nat) (hkn : k + 4 ≤ 601024 ∧ n + 24 ≤ 7293034) (i : Int) (hi : 0 ≤ i) (hiL : i + 5 ≤ L) (hL : L ≤ 2560) (kend : ∀ (M' : Mem) (g' : Gst) (len' : Int) (b' : Int → Int), CI G M' g' len' b' → RI G M' g' len' b' → OkI g' len' b' → WM G X (k + 4) (n + 24) Q M' 2423 [(5, .int (iI i)), (4, .ref (G.1 + 344)), (3, .ref (G.1 + 343)), (2, .ref (G.1 + 335)), (1, .ref G.1), (0, .ref bS)] []) : WM G X k n Q M 885 [(5, .int (iI i)), (4, .ref (G.1 + 344)), (3, .ref (G.1 + 343)), (2, .ref (G.1 + 335)), (1, .ref G.1), (0, .ref bS)] [] := by
  refine r_aload_n B 4 dL_law_885 rfl ?_
  refine r_aload_n B 5 dL_law_886 rfl ?_
  refine r_iload B 0 dL_law_887 rfl ?_
  refine r_iconst B dL_law_889 ?_
  refine r_iadd B dL_law_890 ?_
  refine r_sld B hX hbl hbA dL_law_891 (by omega) (by omega) hL ?_
  refine r_aload_n B 5 dL_law_892 rfl ?_
  refine r_iload B 0 dL_law_893 rfl ?_
  refine r_iconst B dL_law_895 ?_
  refine r_iadd B dL_law_896 ?_
  refine r_sld B hX hbl hbA dL_law_897 (by omega) (by omega) hL ?_
  refine r_aload_n B 5 dL_law_898 rfl ?_
  refine r_iload B 0 dL_law_899 rfl ?_
  refine r_iconst B dL_law_901 ?_
  refine r_iadd B dL_law_902 ?_
  refine r_sld B hX hbl hbA dL_law_903 (by omega) (by omega) hL ?_
  refine r_aload_n B 2 dL_law_904 rfl ?_
  refine r_W B (As := [.ref G.1, .int (iI (sc xs (i + 1))), .int (iI (sc xs (i + 2))), .int (iI (sc xs (i + 3))), .ref (G.1 + 343)]) (st := []) (w_span l hst G M g len b hG hO hC hk (sc xs (i + 1)) (sc xs (i + 2)) (sc xs (i + 3)) (sc_in _ _) (sc_in _ _) (sc_in _ _)) ⟨rfl, rfl⟩ rfl ⟨by decide +kernel, by decide +kernel⟩ (z := 5) rfl (by decide +kernel) q_650 q_0 q_648 q_649 ⟨Nat.le_of_ble_eq_true rfl, Nat.le_of_ble_eq_true rfl, Nat.le_of_ble_eq_true rfl⟩ ⟨by show _ ≤ 601024; omega, by show _ ≤ 7293034; omega⟩ dL_law_905 (fun kr M1 hw => ?_)
  obtain ⟨hr, hk32, hout, hC1, hF1⟩ := hw
  subst hr
  have hR1 := hR.kept hF1
  refine WM.widen (k' := k + 4) (n' := n + 24) (by omega) (by omega) ?_
  refine r_istore B (lv' := [(6, .int (iI ((oSpan g.1 (sc xs (i + 1)) (sc xs (i + 2)) (sc xs (i + 3))).1))), (5, .int (iI i)), (4, .ref (G.1 + 344)), (3, .ref (G.1 + 343)), (2, .ref (G.1 + 335)), (1, .ref G.1), (0, .ref bS)]) dL_law_908 (by decide) rfl ?_
  refine r_aload_n B 4 dL_law_910 rfl ?_
  refine r_aload_n B 6 dL_law_911 rfl ?_
  refine r_iload B 1 dL_law_912 rfl ?_
  refine r_iconst B dL_law_914 ?_
  refine r_iadd B dL_law_915 ?_
  refine r_sld B hX hbl hbA dL_law_916 (by omega) (by omega) hL ?_
  refine r_aload_n B 6 dL_law_917 rfl ?_
  refine r_iload B 1 dL_law_918 rfl ?_
  refine r_iconst B dL_law_920 ?_
  refine r_iadd B dL_law_921 ?_
  refine r_sld B hX hbl hbA dL_law_922 (by omega) (by omega) hL ?_
  refine r_aload_n B 6 dL_law_923 rfl ?_
  refine r_iload B 1 dL_law_924 rfl ?_
  refine r_iconst B dL_law_926 ?_
  refine r_iadd B dL_law_927 ?_
  refine r_sld B hX hbl hbA dL_law_928 (by omega) (by omega) hL ?_
  refine r_Vi3 B (c_X6_span l G M1 (G.1 + 335) hMd g.1 hR1.1.1 hk.1.1 (sc xs (i + 1)) (sc xs (i + 2)) (sc xs (i + 3)) (sc_in _ _) (sc_in _ _) (sc_in _ _)) ⟨rfl, rfl⟩ ok_X6_span vi_X6_span q_1150 hMd.1 rfl (fun _ => rfl) ⟨Nat.le_of_ble_eq_true rfl, Nat.le_of_ble_eq_true rfl, Nat.le_of_ble_eq_true rfl⟩ ⟨by show _ ≤ 601024; omega, by show _ ≤ 7293034; omega⟩ dL_law_929 (fun r M2 h2 => ?_)
  have h3 := Rp.A hR1 h2
  obtain ⟨hr2, h6, hR2, hF2⟩ := h3
  subst hr2
  have hk2 : OkI g len b := hk
  have hC2 := hC1.kept hk2.1 hF2
  have hout2 : (oSpan g.1 (sc xs (i + 1)) (sc xs (i + 2)) (sc xs (i + 3))).1 = 0 → gL M2 (G.1 + 343) 0 = (xI (oSpan g.1 (sc xs (i + 1)) (sc xs (i + 2)) (sc xs (i + 3))).2) := fun w => by rw [(hF2 (G.1 + 343) (by omega)).2.1]; exact hout w
  refine r_istore B (lv' := [(7, .int (iI ((oSpan g.1 (sc xs (i + 1)) (sc xs (i + 2)) (sc xs (i + 3))).2))), (6, .int (iI ((oSpan g.1 (sc xs (i + 1)) (sc xs (i + 2)) (sc xs (i + 3))).1))), (5, .int (iI i)), (4, .ref (G.1 + 344)), (3, .ref (G.1 + 343)), (2, .ref (G.1 + 335)), (1, .ref G.1), (0, .ref bS)]) dL_law_932 (by decide) rfl ?_
  refine r_aload_n B 5 dL_law_934 rfl ?_
  refine r_pVi0 B (c_X6_thrown l G M2 (G.1 + 335) hMd _ h6) ⟨rfl, rfl⟩ ok_X6_thrown vi_X6_thrown q_947 hMd.1 rfl (fun _ => rfl) ⟨Nat.le_of_ble_eq_true rfl, Nat.le_of_ble_eq_true rfl, Nat.le_of_ble_eq_true rfl⟩ ⟨by show _ ≤ 601024; omega, by show _ ≤ 7293034; omega⟩ dL_law_935 ?_
  refine r_iload B 1 dL_law_938 rfl ?_
  refine r_same B dL_law_940 rfl ?_
  refine r_iload B 1 dL_law_945 rfl ?_
  have hend : WM G X (k + 4) (n + 24) Q M2 962 [(7, .int (iI ((oSpan g.1 (sc xs (i + 1)) (sc xs (i + 2)) (sc xs (i + 3))).2))), (6, .int (iI ((oSpan g.1 (sc xs (i + 1)) (sc xs (i + 2)) (sc xs (i + 3))).1))), (5, .int (iI i)), (4, .ref (G.1 + 344)), (3, .ref (G.1 + 343)), (2, .ref (G.1 + 335)), (1, .ref G.1), (0, .ref bS)] [] := by
    refine r_goto B dL_law_962 rfl ?_
    refine WM.pick [2, 3, 4, 5, 6, 7] rfl ?_
    exact kend M2 _ _ _ hC2 hR2 hk2
  refine r_if_ne B dL_law_947 rfl hk32 (fun _ => hend) (fun hz => ?_)
  refine r_aload_n B 4 dL_law_950 rfl ?_
  refine r_iconst B dL_law_951 ?_
  refine r_laload B dL_law_952 hO (by omega) (by decide) ?_
  refine r_vl (y := (xI (oSpan g.1 (sc xs (i + 1)) (sc xs (i + 2)) (sc xs (i + 3))).2)) (hout2 hz) ?_
  refine r_iload B 0 dL_law_953 rfl ?_
  refine r_i2lw B dL_law_955 ?_
  exact r_lsame B dL_law_956 dL_law_957 rfl hend
set_option maxRecDepth 100000 in
set_option maxHeartbeats 4000000 in
theorem law_thickness (l : Launch) (hst : l.stackTraces = false) (G : Gs) (X : Cx) (B : Bx l G X cL_law 9 RL room_1 ret) {Q : State → Prop} {bS L : Nat} {xs : Nat → Int32} (hX : va_X bS L xs X.2.2.2.2.1 X.2.2.2.2.1.heap) (hbl : bS < X.2.2.2.2.1.heap.size) (hbA : bS < G.1) (hG : IsGg G G.1) (hMd : IsMd G (G.1 + 335)) (hO : At G (G.1 + 343) 12 1) (hOD : At G (G.1 + 344) 13 1) (M : Mem) (g : Gst) (len : Int) (b : Int → Int) (hC : CI G M g len b) (hR : RI G M g len b) (hk : OkI g len b) (k n : Nat) (hkn : k + 4 ≤ 601024 ∧ n + 24 ≤ 7293034) (i : Int) (hi : 0 ≤ i) (hiL : i + 5 ≤ L) (hL : L ≤ 2560) (kend : ∀ (M' : Mem) (g' : Gst) (len' : Int) (b' : Int → Int), CI G M' g' len' b' → RI G M' g' len' b' → OkI g' len' b' → WM G X (k + 4) (n + 24) Q M' 2423 [(5, .int (iI i)), (4, .ref (G.1 + 344)), (3, .ref (G.1 + 343)), (2, .ref (G.1 + 335)), (1, .ref G.1), (0, .ref bS)] []) : WM G X k n Q M 965 [(5, .int (iI i)), (4, .ref (G.1 + 344)), (3, .ref (G.1 + 343)), (2, .ref (G.1 + 335)), (1, .ref G.1), (0, .ref bS)] [] := by
  refine r_aload_n B 4 dL_law_965 rfl ?_
  refine r_aload_n B 5 dL_law_966 rfl ?_
  refine r_iload B 0 dL_law_967 rfl ?_
  refine r_iconst B dL_law_969 ?_
  refine r_iadd B dL_law_970 ?_
  refine r_sld B hX hbl hbA dL_law_971 (by omega) (by omega) hL ?_
  refine r_aload_n B 5 dL_law_972 rfl ?_
  refine r_iload B 0 dL_law_973 rfl ?_
  refine r_iconst B dL_law_975 ?_
  refine r_iadd B dL_law_976 ?_
  refine r_sld B hX hbl hbA dL_law_977 (by omega) (by omega) hL ?_
  refine r_aload_n B 2 dL_law_978 rfl ?_
  refine r_W B (As := [.ref G.1, .int (iI (sc xs (i + 1))), .int (iI (sc xs (i + 2))), .ref (G.1 + 343)]) (st := []) (w_thickness l hst G M g len b hG hO hC hk (sc xs (i + 1)) (sc xs (i + 2)) (sc_in _ _) (sc_in _ _)) ⟨rfl, rfl⟩ rfl ⟨by decide +kernel, by decide +kernel⟩ (z := 4) rfl (by decide +kernel) q_666 q_0 q_664 q_665 ⟨Nat.le_of_ble_eq_true rfl, Nat.le_of_ble_eq_true rfl, Nat.le_of_ble_eq_true rfl⟩ ⟨by show _ ≤ 601024; omega, by show _ ≤ 7293034; omega⟩ dL_law_979 (fun kr M1 hw => ?_)
  obtain ⟨hr, hk32, hout, hC1, hF1⟩ := hw
  subst hr
  have hR1 := hR.kept hF1
  refine WM.widen (k' := k + 4) (n' := n + 24) (by omega) (by omega) ?_
  refine r_istore B (lv' := [(6, .int (iI ((oThick g.1 (sc xs (i + 1)) (sc xs (i + 2))).1))), (5, .int (iI i)), (4, .ref (G.1 + 344)), (3, .ref (G.1 + 343)), (2, .ref (G.1 + 335)), (1, .ref G.1), (0, .ref bS)]) dL_law_982 (by decide) rfl ?_
  refine r_aload_n B 4 dL_law_984 rfl ?_
  refine r_aload_n B 6 dL_law_985 rfl ?_
  refine r_iload B 1 dL_law_986 rfl ?_
  refine r_iconst B dL_law_988 ?_
  refine r_iadd B dL_law_989 ?_
  refine r_sld B hX hbl hbA dL_law_990 (by omega) (by omega) hL ?_
  refine r_aload_n B 6 dL_law_991 rfl ?_
  refine r_iload B 1 dL_law_992 rfl ?_
  refine r_iconst B dL_law_994 ?_
  refine r_iadd B dL_law_995 ?_
  refine r_sld B hX hbl hbA dL_law_996 (by omega) (by omega) hL ?_
  refine r_Vi2 B (c_X6_thickness l G M1 (G.1 + 335) hMd g.1 hR1.1.1 hk.1.1 (sc xs (i + 1)) (sc xs (i + 2)) (sc_in _ _) (sc_in _ _)) ⟨rfl, rfl⟩ ok_X6_thickness vi_X6_thickness q_1154 hMd.1 rfl (fun _ => rfl) ⟨Nat.le_of_ble_eq_true rfl, Nat.le_of_ble_eq_true rfl, Nat.le_of_ble_eq_true rfl⟩ ⟨by show _ ≤ 601024; omega, by show _ ≤ 7293034; omega⟩ dL_law_997 (fun r M2 h2 => ?_)
  have h3 := Rp.A hR1 h2
  obtain ⟨hr2, h6, hR2, hF2⟩ := h3
  subst hr2
  have hk2 : OkI g len b := hk
  have hC2 := hC1.kept hk2.1 hF2
  have hout2 : (oThick g.1 (sc xs (i + 1)) (sc xs (i + 2))).1 = 0 → gL M2 (G.1 + 343) 0 = (xI (oThick g.1 (sc xs (i + 1)) (sc xs (i + 2))).2) := fun w => by rw [(hF2 (G.1 + 343) (by omega)).2.1]; exact hout w
  refine r_istore B (lv' := [(7, .int (iI ((oThick g.1 (sc xs (i + 1)) (sc xs (i + 2))).2))), (6, .int (iI ((oThick g.1 (sc xs (i + 1)) (sc xs (i + 2))).1))), (5, .int (iI i)), (4, .ref (G.1 + 344)), (3, .ref (G.1 + 343)), (2, .ref (G.1 + 335)), (1, .ref G.1), (0, .ref bS)]) dL_law_1000 (by decide) rfl ?_
  refine r_aload_n B 5 dL_law_1002 rfl ?_
  refine r_pVi0 B (c_X6_thrown l G M2 (G.1 + 335) hMd _ h6) ⟨rfl, rfl⟩ ok_X6_thrown vi_X6_thrown q_947 hMd.1 rfl (fun _ => rfl) ⟨Nat.le_of_ble_eq_true rfl, Nat.le_of_ble_eq_true rfl, Nat.le_of_ble_eq_true rfl⟩ ⟨by show _ ≤ 601024; omega, by show _ ≤ 7293034; omega⟩ dL_law_1003 ?_
  refine r_iload B 1 dL_law_1006 rfl ?_
  refine r_same B dL_law_1008 rfl ?_
  refine r_iload B 1 dL_law_1013 rfl ?_
  have hend : WM G X (k + 4) (n + 24) Q M2 1030 [(7, .int (iI ((oThick g.1 (sc xs (i + 1)) (sc xs (i + 2))).2))), (6, .int (iI ((oThick g.1 (sc xs (i + 1)) (sc xs (i + 2))).1))), (5, .int (iI i)), (4, .ref (G.1 + 344)), (3, .ref (G.1 + 343)), (2, .ref (G.1 + 335)), (1, .ref G.1), (0, .ref bS)] [] := by
    refine r_goto B dL_law_1030 rfl ?_
    refine WM.pick [2, 3, 4, 5, 6, 7] rfl ?_
    exact kend M2 _ _ _ hC2 hR2 hk2
  refine r_if_ne B dL_law_1015 rfl hk32 (fun _ => hend) (fun hz => ?_)
  refine r_aload_n B 4 dL_law_1018 rfl ?_
  refine r_iconst B dL_law_1019 ?_
  refine r_laload B dL_law_1020 hO (by omega) (by decide) ?_
  refine r_vl (y := (xI (oThick g.1 (sc xs (i + 1)) (sc xs (i + 2))).2)) (hout2 hz) ?_
  refine r_iload B 0 dL_law_1021 rfl ?_
  refine r_i2lw B dL_law_1023 ?_
  exact r_lsame B dL_law_1024 dL_law_1025 rfl hend
set_option maxRecDepth 100000 in
set_option maxHeartbeats 4000000 in
theorem law_eccentricity (l : Launch) (hst : l.stackTraces = false) (G : Gs) (X : Cx) (B : Bx l G X cL_law 9 RL room_1 ret) {Q : State → Prop} {bS L : Nat} {xs : Nat → Int32} (hX : va_X bS L xs X.2.2.2.2.1 X.2.2.2.2.1.heap) (hbl : bS < X.2.2.2.2.1.heap.size) (hbA : bS < G.1) (hG : IsGg G G.1) (hMd : IsMd G (G.1 + 335)) (hO : At G (G.1 + 343) 12 1) (hOD : At G (G.1 + 344) 13 1) (M : Mem) (g : Gst) (len : Int) (b : Int → Int) (hC : CI G M g len b) (hR : RI G M g len b) (hk : OkI g len b) (k n : Nat) (hkn : k + 4 ≤ 601024 ∧ n + 24 ≤ 7293034) (i : Int) (hi : 0 ≤ i) (hiL : i + 5 ≤ L) (hL : L ≤ 2560) (kend : ∀ (M' : Mem) (g' : Gst) (len' : Int) (b' : Int → Int), CI G M' g' len' b' → RI G M' g' len' b' → OkI g' len' b' → WM G X (k + 4) (n + 24) Q M' 2423 [(5, .int (iI i)), (4, .ref (G.1 + 344)), (3, .ref (G.1 + 343)), (2, .ref (G.1 + 335)), (1, .ref G.1), (0, .ref bS)] []) : WM G X k n Q M 1033 [(5, .int (iI i)), (4, .ref (G.1 + 344)), (3, .ref (G.1 + 343)), (2, .ref (G.1 + 335)), (1, .ref G.1), (0, .ref bS)] [] := by
  refine r_aload_n B 4 dL_law_1033 rfl ?_
  refine r_aload_n B 5 dL_law_1034 rfl ?_
  refine r_iload B 0 dL_law_1035 rfl ?_
  refine r_iconst B dL_law_1037 ?_
  refine r_iadd B dL_law_1038 ?_
  refine r_sld B hX hbl hbA dL_law_1039 (by omega) (by omega) hL ?_
  refine r_aload B 1 dL_law_1040 rfl ?_
  refine r_W B (As := [.ref G.1, .int (iI (sc xs (i + 1))), .ref (G.1 + 344)]) (st := []) (w_eccentricity l hst G M g len b hG hOD hC hk (sc xs (i + 1)) (sc_in _ _)) ⟨rfl, rfl⟩ rfl ⟨by decide +kernel, by decide +kernel⟩ (z := 3) rfl (by decide +kernel) q_682 q_0 q_680 q_681 ⟨Nat.le_of_ble_eq_true rfl, Nat.le_of_ble_eq_true rfl, Nat.le_of_ble_eq_true rfl⟩ ⟨by show _ ≤ 601024; omega, by show _ ≤ 7293034; omega⟩ dL_law_1042 (fun kr M1 hw => ?_)
  obtain ⟨hr, hk32, hout, hC1, hF1⟩ := hw
  subst hr
  have hR1 := hR.kept hF1
  refine WM.widen (k' := k + 4) (n' := n + 24) (by omega) (by omega) ?_
  refine r_istore B (lv' := [(6, .int (iI ((oEcc g.1 (sc xs (i + 1))).1))), (5, .int (iI i)), (4, .ref (G.1 + 344)), (3, .ref (G.1 + 343)), (2, .ref (G.1 + 335)), (1, .ref G.1), (0, .ref bS)]) dL_law_1045 (by decide) rfl ?_
  refine r_aload_n B 4 dL_law_1047 rfl ?_
  refine r_aload_n B 6 dL_law_1048 rfl ?_
  refine r_iload B 1 dL_law_1049 rfl ?_
  refine r_iconst B dL_law_1051 ?_
  refine r_iadd B dL_law_1052 ?_
  refine r_sld B hX hbl hbA dL_law_1053 (by omega) (by omega) hL ?_
  refine r_Vd1 B (c_X6_eccentricity l G M1 (G.1 + 335) hMd g.1 hR1.1.1 hk.1.1 (sc xs (i + 1)) (sc_in _ _)) ⟨rfl, rfl⟩ ok_X6_eccentricity vi_X6_eccentricity q_1163 hMd.1 rfl (fun _ => rfl) ⟨Nat.le_of_ble_eq_true rfl, Nat.le_of_ble_eq_true rfl, Nat.le_of_ble_eq_true rfl⟩ ⟨by show _ ≤ 601024; omega, by show _ ≤ 7293034; omega⟩ dL_law_1054 (fun r M2 h2 => ?_)
  have h3 := Rp.A (v0 := 0) (r := 0) hR1 ⟨rfl, h2.2⟩
  obtain ⟨-, h6, hR2, hF2⟩ := h3
  have hk2 : OkI g len b := hk
  have hC2 := hC1.kept hk2.1 hF2
  have hout2 : (oEcc g.1 (sc xs (i + 1))).1 = 0 → gD M2 (G.1 + 344) 0 = (halfD (oEcc g.1 (sc xs (i + 1))).2) := fun w => by rw [(hF2 (G.1 + 344) (by omega)).2.2.1]; exact hout w
  refine r_dstore B (lv' := [(7, .double r), (6, .int (iI ((oEcc g.1 (sc xs (i + 1))).1))), (5, .int (iI i)), (4, .ref (G.1 + 344)), (3, .ref (G.1 + 343)), (2, .ref (G.1 + 335)), (1, .ref G.1), (0, .ref bS)]) dL_law_1057 (by decide) rfl ?_
  refine r_aload_n B 5 dL_law_1059 rfl ?_
  refine r_pVi0 B (c_X6_thrown l G M2 (G.1 + 335) hMd _ h6) ⟨rfl, rfl⟩ ok_X6_thrown vi_X6_thrown q_947 hMd.1 rfl (fun _ => rfl) ⟨Nat.le_of_ble_eq_true rfl, Nat.le_of_ble_eq_true rfl, Nat.le_of_ble_eq_true rfl⟩ ⟨by show _ ≤ 601024; omega, by show _ ≤ 7293034; omega⟩ dL_law_1060 ?_
  refine r_iload B 1 dL_law_1063 rfl ?_
  refine r_same B dL_law_1065 rfl ?_
  refine r_iload B 1 dL_law_1070 rfl ?_
  have hend : WM G X (k + 4) (n + 24) Q M2 1107 [(7, .double r), (6, .int (iI ((oEcc g.1 (sc xs (i + 1))).1))), (5, .int (iI i)), (4, .ref (G.1 + 344)), (3, .ref (G.1 + 343)), (2, .ref (G.1 + 335)), (1, .ref G.1), (0, .ref bS)] [] := by
    refine r_goto B dL_law_1107 rfl ?_
    refine WM.pick [2, 3, 4, 5, 6, 7] rfl ?_
    exact kend M2 _ _ _ hC2 hR2 hk2
  refine r_if_ne B dL_law_1072 rfl hk32 (fun _ => hend) (fun hz => ?_)
  have hrv := h2.1 hz
  refine r_aload B 3 dL_law_1075 rfl ?_
  refine r_iconst B dL_law_1077 ?_
  refine r_daload B dL_law_1078 hOD (by omega) (by decide) ?_
  refine r_vd (y := r) (by rw [hout2 hz, hrv]) ?_
  refine r_dload B 0 dL_law_1079 rfl ?_
  obtain ⟨z, hz1, hz2⟩ := dcmp_same r
  refine r_dsame B dL_law_1081 hz2 ?_
  refine r_if_eq B dL_law_1082 rfl ⟨by omega, by omega⟩ (fun _ => hend) (fun hq => ?_)
  refine r_aload B 3 dL_law_1085 rfl ?_
  refine r_iconst B dL_law_1087 ?_
  refine r_daload B dL_law_1088 hOD (by omega) (by decide) ?_
  refine r_vd (y := r) (by rw [hout2 hz, hrv]) ?_
  refine r_aload B 3 dL_law_1089 rfl ?_
  refine r_iconst B dL_law_1091 ?_
  refine r_daload B dL_law_1092 hOD (by omega) (by decide) ?_
  refine r_vd (y := r) (by rw [hout2 hz, hrv]) ?_
  refine r_dsame B dL_law_1093 hz2 ?_
  refine r_if_eq B dL_law_1094 rfl ⟨by omega, by omega⟩ (fun hq2 => absurd hq2 hq) (fun _ => ?_)
  refine r_dload B 0 dL_law_1097 rfl ?_
  refine r_dload B 0 dL_law_1099 rfl ?_
  refine r_dsame B dL_law_1101 hz2 ?_
  exact r_if_ne B dL_law_1102 rfl ⟨by omega, by omega⟩ (fun _ => hend) (fun hq2 => absurd hq2 hq)
set_option maxRecDepth 100000 in
set_option maxHeartbeats 4000000 in
theorem law_deviation (l : Launch) (hst : l.stackTraces = false) (G : Gs) (X : Cx) (B : Bx l G X cL_law 9 RL room_1 ret) {Q : State → Prop} {bS L : Nat} {xs : Nat → Int32} (hX : va_X bS L xs X.2.2.2.2.1 X.2.2.2.2.1.heap) (hbl : bS < X.2.2.2.2.1.heap.size) (hbA : bS < G.1) (hG : IsGg G G.1) (hMd : IsMd G (G.1 + 335)) (hO : At G (G.1 + 343) 12 1) (hOD : At G (G.1 + 344) 13 1) (M : Mem) (g : Gst) (len : Int) (b : Int → Int) (hC : CI G M g len b) (hR : RI G M g len b) (hk : OkI g len b) (k n : Nat) (hkn : k + 4 ≤ 601024 ∧ n + 24 ≤ 7293034) (i : Int) (hi : 0 ≤ i) (hiL : i + 5 ≤ L) (hL : L ≤ 2560) (kend : ∀ (M' : Mem) (g' : Gst) (len' : Int) (b' : Int → Int), CI G M' g' len' b' → RI G M' g' len' b' → OkI g' len' b' → WM G X (k + 4) (n + 24) Q M' 2423 [(5, .int (iI i)), (4, .ref (G.1 + 344)), (3, .ref (G.1 + 343)), (2, .ref (G.1 + 335)), (1, .ref G.1), (0, .ref bS)] []) : WM G X k n Q M 1110 [(5, .int (iI i)), (4, .ref (G.1 + 344)), (3, .ref (G.1 + 343)), (2, .ref (G.1 + 335)), (1, .ref G.1), (0, .ref bS)] [] := by
  refine r_aload_n B 4 dL_law_1110 rfl ?_
  refine r_aload_n B 5 dL_law_1111 rfl ?_
  refine r_iload B 0 dL_law_1112 rfl ?_
  refine r_iconst B dL_law_1114 ?_
  refine r_iadd B dL_law_1115 ?_
  refine r_sld B hX hbl hbA dL_law_1116 (by omega) (by omega) hL ?_
  refine r_aload_n B 5 dL_law_1117 rfl ?_
  refine r_iload B 0 dL_law_1118 rfl ?_
  refine r_iconst B dL_law_1120 ?_
  refine r_iadd B dL_law_1121 ?_
  refine r_sld B hX hbl hbA dL_law_1122 (by omega) (by omega) hL ?_
  refine r_aload_n B 2 dL_law_1123 rfl ?_
  refine r_W B (As := [.ref G.1, .int (iI (sc xs (i + 1))), .int (iI (sc xs (i + 2))), .ref (G.1 + 343)]) (st := []) (w_deviation l hst G M g len b hG hO hC hk (sc xs (i + 1)) (sc xs (i + 2)) (sc_in _ _) (sc_in _ _)) ⟨rfl, rfl⟩ rfl ⟨by decide +kernel, by decide +kernel⟩ (z := 4) rfl (by decide +kernel) q_694 q_0 q_692 q_693 ⟨Nat.le_of_ble_eq_true rfl, Nat.le_of_ble_eq_true rfl, Nat.le_of_ble_eq_true rfl⟩ ⟨by show _ ≤ 601024; omega, by show _ ≤ 7293034; omega⟩ dL_law_1124 (fun kr M1 hw => ?_)
  obtain ⟨hr, hk32, hout, hC1, hF1⟩ := hw
  subst hr
  have hR1 := hR.kept hF1
  refine WM.widen (k' := k + 4) (n' := n + 24) (by omega) (by omega) ?_
  refine r_istore B (lv' := [(6, .int (iI ((oDev g.1 (sc xs (i + 1)) (sc xs (i + 2))).1))), (5, .int (iI i)), (4, .ref (G.1 + 344)), (3, .ref (G.1 + 343)), (2, .ref (G.1 + 335)), (1, .ref G.1), (0, .ref bS)]) dL_law_1127 (by decide) rfl ?_
  refine r_aload_n B 4 dL_law_1129 rfl ?_
  refine r_aload_n B 6 dL_law_1130 rfl ?_
  refine r_iload B 1 dL_law_1131 rfl ?_
  refine r_iconst B dL_law_1133 ?_
  refine r_iadd B dL_law_1134 ?_
  refine r_sld B hX hbl hbA dL_law_1135 (by omega) (by omega) hL ?_
  refine r_aload_n B 6 dL_law_1136 rfl ?_
  refine r_iload B 1 dL_law_1137 rfl ?_
  refine r_iconst B dL_law_1139 ?_
  refine r_iadd B dL_law_1140 ?_
  refine r_sld B hX hbl hbA dL_law_1141 (by omega) (by omega) hL ?_
  refine r_Vi2 B (c_X6_deviation l G M1 (G.1 + 335) hMd g.1 hR1.1.1 hk.1.1 (sc xs (i + 1)) (sc xs (i + 2)) (sc_in _ _) (sc_in _ _)) ⟨rfl, rfl⟩ ok_X6_deviation vi_X6_deviation q_1168 hMd.1 rfl (fun _ => rfl) ⟨Nat.le_of_ble_eq_true rfl, Nat.le_of_ble_eq_true rfl, Nat.le_of_ble_eq_true rfl⟩ ⟨by show _ ≤ 601024; omega, by show _ ≤ 7293034; omega⟩ dL_law_1142 (fun r M2 h2 => ?_)
  have h3 := Rp.B hR1 h2
  obtain ⟨hr2, h6, hR2, hF2⟩ := h3
  subst hr2
  have hk2 : OkI g len b := hk
  have hC2 := hC1.kept hk2.1 hF2
  have hout2 : (oDev g.1 (sc xs (i + 1)) (sc xs (i + 2))).1 = 0 → gL M2 (G.1 + 343) 0 = (xI (oDev g.1 (sc xs (i + 1)) (sc xs (i + 2))).2) := fun w => by rw [(hF2 (G.1 + 343) (by omega)).2.1]; exact hout w
  refine r_istore B (lv' := [(7, .int (iI ((oDev g.1 (sc xs (i + 1)) (sc xs (i + 2))).2))), (6, .int (iI ((oDev g.1 (sc xs (i + 1)) (sc xs (i + 2))).1))), (5, .int (iI i)), (4, .ref (G.1 + 344)), (3, .ref (G.1 + 343)), (2, .ref (G.1 + 335)), (1, .ref G.1), (0, .ref bS)]) dL_law_1145 (by decide) rfl ?_
  refine r_aload_n B 5 dL_law_1147 rfl ?_
  refine r_pVi0 B (c_X6_thrown l G M2 (G.1 + 335) hMd _ h6) ⟨rfl, rfl⟩ ok_X6_thrown vi_X6_thrown q_947 hMd.1 rfl (fun _ => rfl) ⟨Nat.le_of_ble_eq_true rfl, Nat.le_of_ble_eq_true rfl, Nat.le_of_ble_eq_true rfl⟩ ⟨by show _ ≤ 601024; omega, by show _ ≤ 7293034; omega⟩ dL_law_1148 ?_
  refine r_iload B 1 dL_law_1151 rfl ?_
  refine r_same B dL_law_1153 rfl ?_
  refine r_iload B 1 dL_law_1158 rfl ?_
  have hend : WM G X (k + 4) (n + 24) Q M2 1175 [(7, .int (iI ((oDev g.1 (sc xs (i + 1)) (sc xs (i + 2))).2))), (6, .int (iI ((oDev g.1 (sc xs (i + 1)) (sc xs (i + 2))).1))), (5, .int (iI i)), (4, .ref (G.1 + 344)), (3, .ref (G.1 + 343)), (2, .ref (G.1 + 335)), (1, .ref G.1), (0, .ref bS)] [] := by
    refine r_goto B dL_law_1175 rfl ?_
    refine WM.pick [2, 3, 4, 5, 6, 7] rfl ?_
    exact kend M2 _ _ _ hC2 hR2 hk2
  refine r_if_ne B dL_law_1160 rfl hk32 (fun _ => hend) (fun hz => ?_)
  refine r_aload_n B 4 dL_law_1163 rfl ?_
  refine r_iconst B dL_law_1164 ?_
  refine r_laload B dL_law_1165 hO (by omega) (by decide) ?_
  refine r_vl (y := (xI (oDev g.1 (sc xs (i + 1)) (sc xs (i + 2))).2)) (hout2 hz) ?_
  refine r_iload B 0 dL_law_1166 rfl ?_
  refine r_i2lw B dL_law_1168 ?_
  exact r_lsame B dL_law_1169 dL_law_1170 rfl hend
set_option maxRecDepth 100000 in
set_option maxHeartbeats 4000000 in
theorem law_addLine (l : Launch) (hst : l.stackTraces = false) (G : Gs) (X : Cx) (B : Bx l G X cL_law 9 RL room_1 ret) {Q : State → Prop} {bS L : Nat} {xs : Nat → Int32} (hX : va_X bS L xs X.2.2.2.2.1 X.2.2.2.2.1.heap) (hbl : bS < X.2.2.2.2.1.heap.size) (hbA : bS < G.1) (hG : IsGg G G.1) (hMd : IsMd G (G.1 + 335)) (hO : At G (G.1 + 343) 12 1) (hOD : At G (G.1 + 344) 13 1) (M : Mem) (g : Gst) (len : Int) (b : Int → Int) (hC : CI G M g len b) (hR : RI G M g len b) (hk : OkI g len b) (k n : Nat) (hkn : k + 4 ≤ 601024 ∧ n + 24 ≤ 7293034) (i : Int) (hi : 0 ≤ i) (hiL : i + 5 ≤ L) (hL : L ≤ 2560) (kend : ∀ (M' : Mem) (g' : Gst) (len' : Int) (b' : Int → Int), CI G M' g' len' b' → RI G M' g' len' b' → OkI g' len' b' → WM G X (k + 4) (n + 24) Q M' 2423 [(5, .int (iI i)), (4, .ref (G.1 + 344)), (3, .ref (G.1 + 343)), (2, .ref (G.1 + 335)), (1, .ref G.1), (0, .ref bS)] []) : WM G X k n Q M 1178 [(5, .int (iI i)), (4, .ref (G.1 + 344)), (3, .ref (G.1 + 343)), (2, .ref (G.1 + 335)), (1, .ref G.1), (0, .ref bS)] [] := by
  refine r_aload_n B 4 dL_law_1178 rfl ?_
  refine r_aload_n B 5 dL_law_1179 rfl ?_
  refine r_iload B 0 dL_law_1180 rfl ?_
  refine r_iconst B dL_law_1182 ?_
  refine r_iadd B dL_law_1183 ?_
  refine r_sld B hX hbl hbA dL_law_1184 (by omega) (by omega) hL ?_
  refine r_aload_n B 5 dL_law_1185 rfl ?_
  refine r_iload B 0 dL_law_1186 rfl ?_
  refine r_iconst B dL_law_1188 ?_
  refine r_iadd B dL_law_1189 ?_
  refine r_sld B hX hbl hbA dL_law_1190 (by omega) (by omega) hL ?_
  refine r_aload_n B 2 dL_law_1191 rfl ?_
  refine r_W B (As := [.ref G.1, .int (iI (sc xs (i + 1))), .int (iI (sc xs (i + 2))), .ref (G.1 + 343)]) (st := []) (w_addLine l hst G M g len b hG hO hC hk (sc xs (i + 1)) (sc xs (i + 2)) (sc_in _ _) (sc_in _ _)) ⟨rfl, rfl⟩ rfl ⟨by decide +kernel, by decide +kernel⟩ (z := 4) rfl (by decide +kernel) q_704 q_0 q_702 q_703 ⟨Nat.le_of_ble_eq_true rfl, Nat.le_of_ble_eq_true rfl, Nat.le_of_ble_eq_true rfl⟩ ⟨by show _ ≤ 601024; omega, by show _ ≤ 7293034; omega⟩ dL_law_1192 (fun kr M1 hw => ?_)
  obtain ⟨hr, hk32, hout, hC1, hF1⟩ := hw
  subst hr
  have hR1 := hR.kept hF1
  refine WM.widen (k' := k + 4) (n' := n + 24) (by omega) (by omega) ?_
  refine r_istore B (lv' := [(6, .int (iI ((oAddL g.1 (sc xs (i + 1)) (sc xs (i + 2))).1))), (5, .int (iI i)), (4, .ref (G.1 + 344)), (3, .ref (G.1 + 343)), (2, .ref (G.1 + 335)), (1, .ref G.1), (0, .ref bS)]) dL_law_1195 (by decide) rfl ?_
  refine r_aload_n B 4 dL_law_1197 rfl ?_
  refine r_aload_n B 6 dL_law_1198 rfl ?_
  refine r_iload B 1 dL_law_1199 rfl ?_
  refine r_iconst B dL_law_1201 ?_
  refine r_iadd B dL_law_1202 ?_
  refine r_sld B hX hbl hbA dL_law_1203 (by omega) (by omega) hL ?_
  refine r_aload_n B 6 dL_law_1204 rfl ?_
  refine r_iload B 1 dL_law_1205 rfl ?_
  refine r_iconst B dL_law_1207 ?_
  refine r_iadd B dL_law_1208 ?_
  refine r_sld B hX hbl hbA dL_law_1209 (by omega) (by omega) hL ?_
  refine r_Vi2 B (c_X6_addLine l G M1 (G.1 + 335) hMd g.1 g.2.1 g.2.2 hR1.1 hk.1 (sc xs (i + 1)) (sc xs (i + 2)) (sc_in _ _) (sc_in _ _)) ⟨rfl, rfl⟩ ok_X6_addLine vi_X6_addLine q_1176 hMd.1 rfl (fun _ => rfl) ⟨Nat.le_of_ble_eq_true rfl, Nat.le_of_ble_eq_true rfl, Nat.le_of_ble_eq_true rfl⟩ ⟨by show _ ≤ 601024; omega, by show _ ≤ 7293034; omega⟩ dL_law_1210 (fun r M2 h2 => ?_)
  have h3 := Rp.D hR1 h2
  obtain ⟨hr2, h6, hR2, hF2⟩ := h3
  subst hr2
  have hk2 : OkI (nxG g (oAddL g.1 (sc xs (i + 1)) (sc xs (i + 2)))) len b := ⟨nxG_ok hk.1 (ok_oAddL hk.1.1), hk.2⟩
  have hC2 := hC1.kept hk2.1 hF2
  have hout2 : (oAddL g.1 (sc xs (i + 1)) (sc xs (i + 2))).1 = 0 → gL M2 (G.1 + 343) 0 = (xI (oAddL g.1 (sc xs (i + 1)) (sc xs (i + 2))).2.1) := fun w => by rw [(hF2 (G.1 + 343) (by omega)).2.1]; exact hout w
  refine r_istore B (lv' := [(7, .int (iI ((oAddL g.1 (sc xs (i + 1)) (sc xs (i + 2))).2.1))), (6, .int (iI ((oAddL g.1 (sc xs (i + 1)) (sc xs (i + 2))).1))), (5, .int (iI i)), (4, .ref (G.1 + 344)), (3, .ref (G.1 + 343)), (2, .ref (G.1 + 335)), (1, .ref G.1), (0, .ref bS)]) dL_law_1213 (by decide) rfl ?_
  refine r_aload_n B 5 dL_law_1215 rfl ?_
  refine r_pVi0 B (c_X6_thrown l G M2 (G.1 + 335) hMd _ h6) ⟨rfl, rfl⟩ ok_X6_thrown vi_X6_thrown q_947 hMd.1 rfl (fun _ => rfl) ⟨Nat.le_of_ble_eq_true rfl, Nat.le_of_ble_eq_true rfl, Nat.le_of_ble_eq_true rfl⟩ ⟨by show _ ≤ 601024; omega, by show _ ≤ 7293034; omega⟩ dL_law_1216 ?_
  refine r_iload B 1 dL_law_1219 rfl ?_
  refine r_same B dL_law_1221 rfl ?_
  refine r_iload B 1 dL_law_1226 rfl ?_
  have hend : WM G X (k + 4) (n + 24) Q M2 1243 [(7, .int (iI ((oAddL g.1 (sc xs (i + 1)) (sc xs (i + 2))).2.1))), (6, .int (iI ((oAddL g.1 (sc xs (i + 1)) (sc xs (i + 2))).1))), (5, .int (iI i)), (4, .ref (G.1 + 344)), (3, .ref (G.1 + 343)), (2, .ref (G.1 + 335)), (1, .ref G.1), (0, .ref bS)] [] := by
    refine r_goto B dL_law_1243 rfl ?_
    refine WM.pick [2, 3, 4, 5, 6, 7] rfl ?_
    exact kend M2 _ _ _ hC2 hR2 hk2
  refine r_if_ne B dL_law_1228 rfl hk32 (fun _ => hend) (fun hz => ?_)
  refine r_aload_n B 4 dL_law_1231 rfl ?_
  refine r_iconst B dL_law_1232 ?_
  refine r_laload B dL_law_1233 hO (by omega) (by decide) ?_
  refine r_vl (y := (xI (oAddL g.1 (sc xs (i + 1)) (sc xs (i + 2))).2.1)) (hout2 hz) ?_
  refine r_iload B 0 dL_law_1234 rfl ?_
  refine r_i2lw B dL_law_1236 ?_
  exact r_lsame B dL_law_1237 dL_law_1238 rfl hend
set_option maxRecDepth 100000 in
set_option maxHeartbeats 4000000 in
theorem law_addPoint (l : Launch) (hst : l.stackTraces = false) (G : Gs) (X : Cx) (B : Bx l G X cL_law 9 RL room_1 ret) {Q : State → Prop} {bS L : Nat} {xs : Nat → Int32} (hX : va_X bS L xs X.2.2.2.2.1 X.2.2.2.2.1.heap) (hbl : bS < X.2.2.2.2.1.heap.size) (hbA : bS < G.1) (hG : IsGg G G.1) (hMd : IsMd G (G.1 + 335)) (hO : At G (G.1 + 343) 12 1) (hOD : At G (G.1 + 344) 13 1) (M : Mem) (g : Gst) (len : Int) (b : Int → Int) (hC : CI G M g len b) (hR : RI G M g len b) (hk : OkI g len b) (k n : Nat) (hkn : k + 4 ≤ 601024 ∧ n + 24 ≤ 7293034) (i : Int) (hi : 0 ≤ i) (hiL : i + 5 ≤ L) (hL : L ≤ 2560) (kend : ∀ (M' : Mem) (g' : Gst) (len' : Int) (b' : Int → Int), CI G M' g' len' b' → RI G M' g' len' b' → OkI g' len' b' → WM G X (k + 4) (n + 24) Q M' 2423 [(5, .int (iI i)), (4, .ref (G.1 + 344)), (3, .ref (G.1 + 343)), (2, .ref (G.1 + 335)), (1, .ref G.1), (0, .ref bS)] []) : WM G X k n Q M 1246 [(5, .int (iI i)), (4, .ref (G.1 + 344)), (3, .ref (G.1 + 343)), (2, .ref (G.1 + 335)), (1, .ref G.1), (0, .ref bS)] [] := by
  refine r_aload_n B 4 dL_law_1246 rfl ?_
  refine r_aload_n B 5 dL_law_1247 rfl ?_
  refine r_iload B 0 dL_law_1248 rfl ?_
  refine r_iconst B dL_law_1250 ?_
  refine r_iadd B dL_law_1251 ?_
  refine r_sld B hX hbl hbA dL_law_1252 (by omega) (by omega) hL ?_
  refine r_aload_n B 5 dL_law_1253 rfl ?_
  refine r_iload B 0 dL_law_1254 rfl ?_
  refine r_iconst B dL_law_1256 ?_
  refine r_iadd B dL_law_1257 ?_
  refine r_sld B hX hbl hbA dL_law_1258 (by omega) (by omega) hL ?_
  refine r_aload_n B 2 dL_law_1259 rfl ?_
  refine r_W B (As := [.ref G.1, .int (iI (sc xs (i + 1))), .int (iI (sc xs (i + 2))), .ref (G.1 + 343)]) (st := []) (w_addPoint l hst G M g len b hG hO hC hk (sc xs (i + 1)) (sc xs (i + 2)) (sc_in _ _) (sc_in _ _)) ⟨rfl, rfl⟩ rfl ⟨by decide +kernel, by decide +kernel⟩ (z := 4) rfl (by decide +kernel) q_714 q_0 q_712 q_713 ⟨Nat.le_of_ble_eq_true rfl, Nat.le_of_ble_eq_true rfl, Nat.le_of_ble_eq_true rfl⟩ ⟨by show _ ≤ 601024; omega, by show _ ≤ 7293034; omega⟩ dL_law_1260 (fun kr M1 hw => ?_)
  obtain ⟨hr, hk32, hout, hC1, hF1⟩ := hw
  subst hr
  have hR1 := hR.kept hF1
  refine WM.widen (k' := k + 4) (n' := n + 24) (by omega) (by omega) ?_
  refine r_istore B (lv' := [(6, .int (iI ((oAddP g.1 (sc xs (i + 1)) (sc xs (i + 2))).1))), (5, .int (iI i)), (4, .ref (G.1 + 344)), (3, .ref (G.1 + 343)), (2, .ref (G.1 + 335)), (1, .ref G.1), (0, .ref bS)]) dL_law_1263 (by decide) rfl ?_
  refine r_aload_n B 4 dL_law_1265 rfl ?_
  refine r_aload_n B 6 dL_law_1266 rfl ?_
  refine r_iload B 1 dL_law_1267 rfl ?_
  refine r_iconst B dL_law_1269 ?_
  refine r_iadd B dL_law_1270 ?_
  refine r_sld B hX hbl hbA dL_law_1271 (by omega) (by omega) hL ?_
  refine r_aload_n B 6 dL_law_1272 rfl ?_
  refine r_iload B 1 dL_law_1273 rfl ?_
  refine r_iconst B dL_law_1275 ?_
  refine r_iadd B dL_law_1276 ?_
  refine r_sld B hX hbl hbA dL_law_1277 (by omega) (by omega) hL ?_
  refine r_Vi2 B (c_X6_addPoint l G M1 (G.1 + 335) hMd g.1 g.2.1 g.2.2 hR1.1 hk.1 (sc xs (i + 1)) (sc xs (i + 2)) (sc_in _ _) (sc_in _ _)) ⟨rfl, rfl⟩ ok_X6_addPoint vi_X6_addPoint q_1184 hMd.1 rfl (fun _ => rfl) ⟨Nat.le_of_ble_eq_true rfl, Nat.le_of_ble_eq_true rfl, Nat.le_of_ble_eq_true rfl⟩ ⟨by show _ ≤ 601024; omega, by show _ ≤ 7293034; omega⟩ dL_law_1278 (fun r M2 h2 => ?_)
  have h3 := Rp.D hR1 h2
  obtain ⟨hr2, h6, hR2, hF2⟩ := h3
  subst hr2
  have hk2 : OkI (nxG g (oAddP g.1 (sc xs (i + 1)) (sc xs (i + 2)))) len b := ⟨nxG_ok hk.1 (ok_oAddP hk.1.1), hk.2⟩
  have hC2 := hC1.kept hk2.1 hF2
  have hout2 : (oAddP g.1 (sc xs (i + 1)) (sc xs (i + 2))).1 = 0 → gL M2 (G.1 + 343) 0 = (xI (oAddP g.1 (sc xs (i + 1)) (sc xs (i + 2))).2.1) := fun w => by rw [(hF2 (G.1 + 343) (by omega)).2.1]; exact hout w
  refine r_istore B (lv' := [(7, .int (iI ((oAddP g.1 (sc xs (i + 1)) (sc xs (i + 2))).2.1))), (6, .int (iI ((oAddP g.1 (sc xs (i + 1)) (sc xs (i + 2))).1))), (5, .int (iI i)), (4, .ref (G.1 + 344)), (3, .ref (G.1 + 343)), (2, .ref (G.1 + 335)), (1, .ref G.1), (0, .ref bS)]) dL_law_1281 (by decide) rfl ?_
  refine r_aload_n B 5 dL_law_1283 rfl ?_
  refine r_pVi0 B (c_X6_thrown l G M2 (G.1 + 335) hMd _ h6) ⟨rfl, rfl⟩ ok_X6_thrown vi_X6_thrown q_947 hMd.1 rfl (fun _ => rfl) ⟨Nat.le_of_ble_eq_true rfl, Nat.le_of_ble_eq_true rfl, Nat.le_of_ble_eq_true rfl⟩ ⟨by show _ ≤ 601024; omega, by show _ ≤ 7293034; omega⟩ dL_law_1284 ?_
  refine r_iload B 1 dL_law_1287 rfl ?_
  refine r_same B dL_law_1289 rfl ?_
  refine r_iload B 1 dL_law_1294 rfl ?_
  have hend : WM G X (k + 4) (n + 24) Q M2 1311 [(7, .int (iI ((oAddP g.1 (sc xs (i + 1)) (sc xs (i + 2))).2.1))), (6, .int (iI ((oAddP g.1 (sc xs (i + 1)) (sc xs (i + 2))).1))), (5, .int (iI i)), (4, .ref (G.1 + 344)), (3, .ref (G.1 + 343)), (2, .ref (G.1 + 335)), (1, .ref G.1), (0, .ref bS)] [] := by
    refine r_goto B dL_law_1311 rfl ?_
    refine WM.pick [2, 3, 4, 5, 6, 7] rfl ?_
    exact kend M2 _ _ _ hC2 hR2 hk2
  refine r_if_ne B dL_law_1296 rfl hk32 (fun _ => hend) (fun hz => ?_)
  refine r_aload_n B 4 dL_law_1299 rfl ?_
  refine r_iconst B dL_law_1300 ?_
  refine r_laload B dL_law_1301 hO (by omega) (by decide) ?_
  refine r_vl (y := (xI (oAddP g.1 (sc xs (i + 1)) (sc xs (i + 2))).2.1)) (hout2 hz) ?_
  refine r_iload B 0 dL_law_1302 rfl ?_
  refine r_i2lw B dL_law_1304 ?_
  exact r_lsame B dL_law_1305 dL_law_1306 rfl hend
set_option maxRecDepth 100000 in
set_option maxHeartbeats 4000000 in
theorem law_removeLine (l : Launch) (hst : l.stackTraces = false) (G : Gs) (X : Cx) (B : Bx l G X cL_law 9 RL room_1 ret) {Q : State → Prop} {bS L : Nat} {xs : Nat → Int32} (hX : va_X bS L xs X.2.2.2.2.1 X.2.2.2.2.1.heap) (hbl : bS < X.2.2.2.2.1.heap.size) (hbA : bS < G.1) (hG : IsGg G G.1) (hMd : IsMd G (G.1 + 335)) (hO : At G (G.1 + 343) 12 1) (hOD : At G (G.1 + 344) 13 1) (M : Mem) (g : Gst) (len : Int) (b : Int → Int) (hC : CI G M g len b) (hR : RI G M g len b) (hk : OkI g len b) (k n : Nat) (hkn : k + 4 ≤ 601024 ∧ n + 24 ≤ 7293034) (i : Int) (hi : 0 ≤ i) (hiL : i + 5 ≤ L) (hL : L ≤ 2560) (kend : ∀ (M' : Mem) (g' : Gst) (len' : Int) (b' : Int → Int), CI G M' g' len' b' → RI G M' g' len' b' → OkI g' len' b' → WM G X (k + 4) (n + 24) Q M' 2423 [(5, .int (iI i)), (4, .ref (G.1 + 344)), (3, .ref (G.1 + 343)), (2, .ref (G.1 + 335)), (1, .ref G.1), (0, .ref bS)] []) : WM G X k n Q M 1314 [(5, .int (iI i)), (4, .ref (G.1 + 344)), (3, .ref (G.1 + 343)), (2, .ref (G.1 + 335)), (1, .ref G.1), (0, .ref bS)] [] := by
  refine r_aload_n B 4 dL_law_1314 rfl ?_
  refine r_aload_n B 5 dL_law_1315 rfl ?_
  refine r_iload B 0 dL_law_1316 rfl ?_
  refine r_iconst B dL_law_1318 ?_
  refine r_iadd B dL_law_1319 ?_
  refine r_sld B hX hbl hbA dL_law_1320 (by omega) (by omega) hL ?_
  refine r_aload_n B 2 dL_law_1321 rfl ?_
  refine r_W B (As := [.ref G.1, .int (iI (sc xs (i + 1))), .ref (G.1 + 343)]) (st := []) (w_removeLine l hst G M g len b hG hO hC hk (sc xs (i + 1)) (sc_in _ _)) ⟨rfl, rfl⟩ rfl ⟨by decide +kernel, by decide +kernel⟩ (z := 3) rfl (by decide +kernel) q_728 q_0 q_726 q_727 ⟨Nat.le_of_ble_eq_true rfl, Nat.le_of_ble_eq_true rfl, Nat.le_of_ble_eq_true rfl⟩ ⟨by show _ ≤ 601024; omega, by show _ ≤ 7293034; omega⟩ dL_law_1322 (fun kr M1 hw => ?_)
  obtain ⟨hr, hk32, hout, hC1, hF1⟩ := hw
  subst hr
  have hR1 := hR.kept hF1
  refine WM.widen (k' := k + 4) (n' := n + 24) (by omega) (by omega) ?_
  refine r_istore B (lv' := [(6, .int (iI ((oRemL g.1 (sc xs (i + 1))).1))), (5, .int (iI i)), (4, .ref (G.1 + 344)), (3, .ref (G.1 + 343)), (2, .ref (G.1 + 335)), (1, .ref G.1), (0, .ref bS)]) dL_law_1325 (by decide) rfl ?_
  refine r_aload_n B 4 dL_law_1327 rfl ?_
  refine r_aload_n B 6 dL_law_1328 rfl ?_
  refine r_iload B 1 dL_law_1329 rfl ?_
  refine r_iconst B dL_law_1331 ?_
  refine r_iadd B dL_law_1332 ?_
  refine r_sld B hX hbl hbA dL_law_1333 (by omega) (by omega) hL ?_
  refine r_Vi1 B (c_X6_removeLine l G M1 (G.1 + 335) hMd g.1 g.2.1 g.2.2 hR1.1 hk.1 (sc xs (i + 1)) (sc_in _ _)) ⟨rfl, rfl⟩ ok_X6_removeLine vi_X6_removeLine q_1196 hMd.1 rfl (fun _ => rfl) ⟨Nat.le_of_ble_eq_true rfl, Nat.le_of_ble_eq_true rfl, Nat.le_of_ble_eq_true rfl⟩ ⟨by show _ ≤ 601024; omega, by show _ ≤ 7293034; omega⟩ dL_law_1334 (fun r M2 h2 => ?_)
  have h3 := Rp.D hR1 h2
  obtain ⟨hr2, h6, hR2, hF2⟩ := h3
  subst hr2
  have hk2 : OkI (nxG g (oRemL g.1 (sc xs (i + 1)))) len b := ⟨nxG_ok hk.1 (ok_oRemL hk.1.1), hk.2⟩
  have hC2 := hC1.kept hk2.1 hF2
  have hout2 : (oRemL g.1 (sc xs (i + 1))).1 = 0 → gL M2 (G.1 + 343) 0 = (xI (oRemL g.1 (sc xs (i + 1))).2.1) := fun w => by rw [(hF2 (G.1 + 343) (by omega)).2.1]; exact hout w
  refine r_istore B (lv' := [(7, .int (iI ((oRemL g.1 (sc xs (i + 1))).2.1))), (6, .int (iI ((oRemL g.1 (sc xs (i + 1))).1))), (5, .int (iI i)), (4, .ref (G.1 + 344)), (3, .ref (G.1 + 343)), (2, .ref (G.1 + 335)), (1, .ref G.1), (0, .ref bS)]) dL_law_1337 (by decide) rfl ?_
  refine r_aload_n B 5 dL_law_1339 rfl ?_
  refine r_pVi0 B (c_X6_thrown l G M2 (G.1 + 335) hMd _ h6) ⟨rfl, rfl⟩ ok_X6_thrown vi_X6_thrown q_947 hMd.1 rfl (fun _ => rfl) ⟨Nat.le_of_ble_eq_true rfl, Nat.le_of_ble_eq_true rfl, Nat.le_of_ble_eq_true rfl⟩ ⟨by show _ ≤ 601024; omega, by show _ ≤ 7293034; omega⟩ dL_law_1340 ?_
  refine r_iload B 1 dL_law_1343 rfl ?_
  refine r_same B dL_law_1345 rfl ?_
  refine r_iload B 1 dL_law_1350 rfl ?_
  have hend : WM G X (k + 4) (n + 24) Q M2 1367 [(7, .int (iI ((oRemL g.1 (sc xs (i + 1))).2.1))), (6, .int (iI ((oRemL g.1 (sc xs (i + 1))).1))), (5, .int (iI i)), (4, .ref (G.1 + 344)), (3, .ref (G.1 + 343)), (2, .ref (G.1 + 335)), (1, .ref G.1), (0, .ref bS)] [] := by
    refine r_goto B dL_law_1367 rfl ?_
    refine WM.pick [2, 3, 4, 5, 6, 7] rfl ?_
    exact kend M2 _ _ _ hC2 hR2 hk2
  refine r_if_ne B dL_law_1352 rfl hk32 (fun _ => hend) (fun hz => ?_)
  refine r_aload_n B 4 dL_law_1355 rfl ?_
  refine r_iconst B dL_law_1356 ?_
  refine r_laload B dL_law_1357 hO (by omega) (by decide) ?_
  refine r_vl (y := (xI (oRemL g.1 (sc xs (i + 1))).2.1)) (hout2 hz) ?_
  refine r_iload B 0 dL_law_1358 rfl ?_
  refine r_i2lw B dL_law_1360 ?_
  exact r_lsame B dL_law_1361 dL_law_1362 rfl hend
set_option maxRecDepth 100000 in
set_option maxHeartbeats 4000000 in
theorem law_lines (l : Launch) (hst : l.stackTraces = false) (G : Gs) (X : Cx) (B : Bx l G X cL_law 9 RL room_1 ret) {Q : State → Prop} {bS L : Nat} {xs : Nat → Int32} (hX : va_X bS L xs X.2.2.2.2.1 X.2.2.2.2.1.heap) (hbl : bS < X.2.2.2.2.1.heap.size) (hbA : bS < G.1) (hG : IsGg G G.1) (hMd : IsMd G (G.1 + 335)) (hO : At G (G.1 + 343) 12 1) (hOD : At G (G.1 + 344) 13 1) (M : Mem) (g : Gst) (len : Int) (b : Int → Int) (hC : CI G M g len b) (hR : RI G M g len b) (hk : OkI g len b) (k n : Nat) (hkn : k + 4 ≤ 601024 ∧ n + 24 ≤ 7293034) (i : Int) (hi : 0 ≤ i) (hiL : i + 5 ≤ L) (hL : L ≤ 2560) (kend : ∀ (M' : Mem) (g' : Gst) (len' : Int) (b' : Int → Int), CI G M' g' len' b' → RI G M' g' len' b' → OkI g' len' b' → WM G X (k + 4) (n + 24) Q M' 2423 [(5, .int (iI i)), (4, .ref (G.1 + 344)), (3, .ref (G.1 + 343)), (2, .ref (G.1 + 335)), (1, .ref G.1), (0, .ref bS)] []) : WM G X k n Q M 1370 [(5, .int (iI i)), (4, .ref (G.1 + 344)), (3, .ref (G.1 + 343)), (2, .ref (G.1 + 335)), (1, .ref G.1), (0, .ref bS)] [] := by
  refine r_aload_n B 4 dL_law_1370 rfl ?_
  refine r_pVi0 B (c_X5_lines l G M G.1 g.1 hG hC.1.1 hk.1.1) ⟨rfl, rfl⟩ ok_X5_lines vi_X5_lines q_203 hG.1 rfl (fun _ => rfl) ⟨Nat.le_of_ble_eq_true rfl, Nat.le_of_ble_eq_true rfl, Nat.le_of_ble_eq_true rfl⟩ ⟨by show _ ≤ 601024; omega, by show _ ≤ 7293034; omega⟩ dL_law_1371 ?_
  refine r_aload_n B 3 dL_law_1374 rfl ?_
  refine r_Vi0 B (c_X6_lines l G M (G.1 + 335) hMd g.1 hR.1.1 hk.1.1) ⟨rfl, rfl⟩ ok_X6_lines vi_X6_lines q_1200 hMd.1 rfl (fun _ => rfl) ⟨Nat.le_of_ble_eq_true rfl, Nat.le_of_ble_eq_true rfl, Nat.le_of_ble_eq_true rfl⟩ ⟨by show _ ≤ 601024; omega, by show _ ≤ 7293034; omega⟩ dL_law_1375 (fun r2 M2 h2 => ?_)
  obtain ⟨e1, e2⟩ := h2
  rw [e1, e2]
  have hC2 := hC.kept hk.1 (fR.sI (G := G) (M := M) (k := 6) (v := 0))
  have hR2 := hR.sI6 (v := 0)
  refine WM.widen (k' := k + 4) (n' := n + 24) (by omega) (by omega) ?_
  exact r_same B dL_law_1378 rfl (kend _ _ _ _ hC2 hR2 hk)
