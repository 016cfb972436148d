/-! the law's cases, on -/
set_option maxRecDepth 100000 in
set_option maxHeartbeats 4000000 in
theorem law_line (l : Launch) (hst : l.stackTraces = false) (G : Gs) (X : Cx) (B : Bx l G X cL_law 9 RL room_1 ret) {Q : State → Prop} {bS L : Nat} {xs : Nat → Int32} (hX : va_X bS L xs X.2.2.2.2.1 X.2.2.2.2.1.heap) (hbl : bS < X.2.2.2.2.1.heap.size) (hbA : bS < G.1) (hG : IsGg G G.1) (hMd : IsMd G (G.1 + 335)) (hO : At G (G.1 + 343) 12 1) (hOD : At G (G.1 + 344) 13 1) (M : Mem) (g : Gst) (len : Int) (b : Int → Int) (hC : CI G M g len b) (hR : RI G M g len b) (hk : OkI g len b) (k n : Nat) (hkn : k + 4 ≤ 601024 ∧ n + 24 ≤ 7293034) (i : Int) (hi : 0 ≤ i) (hiL : i + 5 ≤ L) (hL : L ≤ 2560) (kend : ∀ (M' : Mem) (g' : Gst) (len' : Int) (b' : Int → Int), CI G M' g' len' b' → RI G M' g' len' b' → OkI g' len' b' → WM G X (k + 4) (n + 24) Q M' 2423 [(5, .int (iI i)), (4, .ref (G.1 + 344)), (3, .ref (G.1 + 343)), (2, .ref (G.1 + 335)), (1, .ref G.1), (0, .ref bS)] []) : WM G X k n Q M 1383 [(5, .int (iI i)), (4, .ref (G.1 + 344)), (3, .ref (G.1 + 343)), (2, .ref (G.1 + 335)), (1, .ref G.1), (0, .ref bS)] [] := by
  refine r_aload_n B 4 dL_law_1383 rfl ?_
  refine r_aload_n B 5 dL_law_1384 rfl ?_
  refine r_iload B 0 dL_law_1385 rfl ?_
  refine r_iconst B dL_law_1387 ?_
  refine r_iadd B dL_law_1388 ?_
  refine r_sld B hX hbl hbA dL_law_1389 (by omega) (by omega) hL ?_
  refine r_aload_n B 5 dL_law_1390 rfl ?_
  refine r_iload B 0 dL_law_1391 rfl ?_
  refine r_iconst B dL_law_1393 ?_
  refine r_iadd B dL_law_1394 ?_
  refine r_sld B hX hbl hbA dL_law_1395 (by omega) (by omega) hL ?_
  refine r_aload_n B 2 dL_law_1396 rfl ?_
  refine r_W B (As := [.ref G.1, .int (iI (sc xs (i + 1))), .int (iI (sc xs (i + 2))), .ref (G.1 + 343)]) (st := []) (w_line l hst G M g len b hG hO hC hk (sc xs (i + 1)) (sc xs (i + 2)) (sc_in _ _) (sc_in _ _)) ⟨rfl, rfl⟩ rfl ⟨by decide +kernel, by decide +kernel⟩ (z := 4) rfl (by decide +kernel) q_736 q_0 q_734 q_735 ⟨Nat.le_of_ble_eq_true rfl, Nat.le_of_ble_eq_true rfl, Nat.le_of_ble_eq_true rfl⟩ ⟨by show _ ≤ 601024; omega, by show _ ≤ 7293034; omega⟩ dL_law_1397 (fun kr M1 hw => ?_)
  obtain ⟨hr, hk32, hout, hC1, hF1⟩ := hw
  subst hr
  have hR1 := hR.kept hF1
  refine WM.widen (k' := k + 4) (n' := n + 24) (by omega) (by omega) ?_
  refine r_istore B (lv' := [(6, .int (iI ((oLine g.1 (sc xs (i + 1)) (sc xs (i + 2))).1))), (5, .int (iI i)), (4, .ref (G.1 + 344)), (3, .ref (G.1 + 343)), (2, .ref (G.1 + 335)), (1, .ref G.1), (0, .ref bS)]) dL_law_1400 (by decide) rfl ?_
  refine r_aload_n B 4 dL_law_1402 rfl ?_
  refine r_aload_n B 6 dL_law_1403 rfl ?_
  refine r_iload B 1 dL_law_1404 rfl ?_
  refine r_iconst B dL_law_1406 ?_
  refine r_iadd B dL_law_1407 ?_
  refine r_sld B hX hbl hbA dL_law_1408 (by omega) (by omega) hL ?_
  refine r_aload_n B 6 dL_law_1409 rfl ?_
  refine r_iload B 1 dL_law_1410 rfl ?_
  refine r_iconst B dL_law_1412 ?_
  refine r_iadd B dL_law_1413 ?_
  refine r_sld B hX hbl hbA dL_law_1414 (by omega) (by omega) hL ?_
  refine r_Vi2 B (c_X6_line l G M1 (G.1 + 335) hMd g.1 hR1.1.1 hk.1.1 (sc xs (i + 1)) (sc xs (i + 2)) (sc_in _ _) (sc_in _ _)) ⟨rfl, rfl⟩ ok_X6_line vi_X6_line q_1204 hMd.1 rfl (fun _ => rfl) ⟨Nat.le_of_ble_eq_true rfl, Nat.le_of_ble_eq_true rfl, Nat.le_of_ble_eq_true rfl⟩ ⟨by show _ ≤ 601024; omega, by show _ ≤ 7293034; omega⟩ dL_law_1415 (fun r M2 h2 => ?_)
  have h3 := Rp.A hR1 h2
  obtain ⟨hr2, h6, hR2, hF2⟩ := h3
  subst hr2
  have hk2 : OkI g len b := hk
  have hC2 := hC1.kept hk2.1 hF2
  have hout2 : (oLine g.1 (sc xs (i + 1)) (sc xs (i + 2))).1 = 0 → gL M2 (G.1 + 343) 0 = (xI (oLine g.1 (sc xs (i + 1)) (sc xs (i + 2))).2) := fun w => by rw [(hF2 (G.1 + 343) (by omega)).2.1]; exact hout w
  refine r_istore B (lv' := [(7, .int (iI ((oLine g.1 (sc xs (i + 1)) (sc xs (i + 2))).2))), (6, .int (iI ((oLine g.1 (sc xs (i + 1)) (sc xs (i + 2))).1))), (5, .int (iI i)), (4, .ref (G.1 + 344)), (3, .ref (G.1 + 343)), (2, .ref (G.1 + 335)), (1, .ref G.1), (0, .ref bS)]) dL_law_1418 (by decide) rfl ?_
  refine r_aload_n B 5 dL_law_1420 rfl ?_
  refine r_pVi0 B (c_X6_thrown l G M2 (G.1 + 335) hMd _ h6) ⟨rfl, rfl⟩ ok_X6_thrown vi_X6_thrown q_947 hMd.1 rfl (fun _ => rfl) ⟨Nat.le_of_ble_eq_true rfl, Nat.le_of_ble_eq_true rfl, Nat.le_of_ble_eq_true rfl⟩ ⟨by show _ ≤ 601024; omega, by show _ ≤ 7293034; omega⟩ dL_law_1421 ?_
  refine r_iload B 1 dL_law_1424 rfl ?_
  refine r_same B dL_law_1426 rfl ?_
  refine r_iload B 1 dL_law_1431 rfl ?_
  have hend : WM G X (k + 4) (n + 24) Q M2 1448 [(7, .int (iI ((oLine g.1 (sc xs (i + 1)) (sc xs (i + 2))).2))), (6, .int (iI ((oLine g.1 (sc xs (i + 1)) (sc xs (i + 2))).1))), (5, .int (iI i)), (4, .ref (G.1 + 344)), (3, .ref (G.1 + 343)), (2, .ref (G.1 + 335)), (1, .ref G.1), (0, .ref bS)] [] := by
    refine r_goto B dL_law_1448 rfl ?_
    refine WM.pick [2, 3, 4, 5, 6, 7] rfl ?_
    exact kend M2 _ _ _ hC2 hR2 hk2
  refine r_if_ne B dL_law_1433 rfl hk32 (fun _ => hend) (fun hz => ?_)
  refine r_aload_n B 4 dL_law_1436 rfl ?_
  refine r_iconst B dL_law_1437 ?_
  refine r_laload B dL_law_1438 hO (by omega) (by decide) ?_
  refine r_vl (y := (xI (oLine g.1 (sc xs (i + 1)) (sc xs (i + 2))).2)) (hout2 hz) ?_
  refine r_iload B 0 dL_law_1439 rfl ?_
  refine r_i2lw B dL_law_1441 ?_
  exact r_lsame B dL_law_1442 dL_law_1443 rfl hend
set_option maxRecDepth 100000 in
set_option maxHeartbeats 4000000 in
theorem law_point (l : Launch) (hst : l.stackTraces = false) (G : Gs) (X : Cx) (B : Bx l G X cL_law 9 RL room_1 ret) {Q : State → Prop} {bS L : Nat} {xs : Nat → Int32} (hX : va_X bS L xs X.2.2.2.2.1 X.2.2.2.2.1.heap) (hbl : bS < X.2.2.2.2.1.heap.size) (hbA : bS < G.1) (hG : IsGg G G.1) (hMd : IsMd G (G.1 + 335)) (hO : At G (G.1 + 343) 12 1) (hOD : At G (G.1 + 344) 13 1) (M : Mem) (g : Gst) (len : Int) (b : Int → Int) (hC : CI G M g len b) (hR : RI G M g len b) (hk : OkI g len b) (k n : Nat) (hkn : k + 4 ≤ 601024 ∧ n + 24 ≤ 7293034) (i : Int) (hi : 0 ≤ i) (hiL : i + 5 ≤ L) (hL : L ≤ 2560) (kend : ∀ (M' : Mem) (g' : Gst) (len' : Int) (b' : Int → Int), CI G M' g' len' b' → RI G M' g' len' b' → OkI g' len' b' → WM G X (k + 4) (n + 24) Q M' 2423 [(5, .int (iI i)), (4, .ref (G.1 + 344)), (3, .ref (G.1 + 343)), (2, .ref (G.1 + 335)), (1, .ref G.1), (0, .ref bS)] []) : WM G X k n Q M 1451 [(5, .int (iI i)), (4, .ref (G.1 + 344)), (3, .ref (G.1 + 343)), (2, .ref (G.1 + 335)), (1, .ref G.1), (0, .ref bS)] [] := by
  refine r_aload_n B 4 dL_law_1451 rfl ?_
  refine r_aload_n B 5 dL_law_1452 rfl ?_
  refine r_iload B 0 dL_law_1453 rfl ?_
  refine r_iconst B dL_law_1455 ?_
  refine r_iadd B dL_law_1456 ?_
  refine r_sld B hX hbl hbA dL_law_1457 (by omega) (by omega) hL ?_
  refine r_aload_n B 5 dL_law_1458 rfl ?_
  refine r_iload B 0 dL_law_1459 rfl ?_
  refine r_iconst B dL_law_1461 ?_
  refine r_iadd B dL_law_1462 ?_
  refine r_sld B hX hbl hbA dL_law_1463 (by omega) (by omega) hL ?_
  refine r_aload_n B 2 dL_law_1464 rfl ?_
  refine r_W B (As := [.ref G.1, .int (iI (sc xs (i + 1))), .int (iI (sc xs (i + 2))), .ref (G.1 + 343)]) (st := []) (w_point l hst G M g len b hG hO hC hk (sc xs (i + 1)) (sc xs (i + 2)) (sc_in _ _) (sc_in _ _)) ⟨rfl, rfl⟩ rfl ⟨by decide +kernel, by decide +kernel⟩ (z := 4) rfl (by decide +kernel) q_743 q_0 q_741 q_742 ⟨Nat.le_of_ble_eq_true rfl, Nat.le_of_ble_eq_true rfl, Nat.le_of_ble_eq_true rfl⟩ ⟨by show _ ≤ 601024; omega, by show _ ≤ 7293034; omega⟩ dL_law_1465 (fun kr M1 hw => ?_)
  obtain ⟨hr, hk32, hout, hC1, hF1⟩ := hw
  subst hr
  have hR1 := hR.kept hF1
  refine WM.widen (k' := k + 4) (n' := n + 24) (by omega) (by omega) ?_
  refine r_istore B (lv' := [(6, .int (iI ((oPoint g.1 (sc xs (i + 1)) (sc xs (i + 2))).1))), (5, .int (iI i)), (4, .ref (G.1 + 344)), (3, .ref (G.1 + 343)), (2, .ref (G.1 + 335)), (1, .ref G.1), (0, .ref bS)]) dL_law_1468 (by decide) rfl ?_
  refine r_aload_n B 4 dL_law_1470 rfl ?_
  refine r_aload_n B 6 dL_law_1471 rfl ?_
  refine r_iload B 1 dL_law_1472 rfl ?_
  refine r_iconst B dL_law_1474 ?_
  refine r_iadd B dL_law_1475 ?_
  refine r_sld B hX hbl hbA dL_law_1476 (by omega) (by omega) hL ?_
  refine r_aload_n B 6 dL_law_1477 rfl ?_
  refine r_iload B 1 dL_law_1478 rfl ?_
  refine r_iconst B dL_law_1480 ?_
  refine r_iadd B dL_law_1481 ?_
  refine r_sld B hX hbl hbA dL_law_1482 (by omega) (by omega) hL ?_
  refine r_Vi2 B (c_X6_point l G M1 (G.1 + 335) hMd g.1 hR1.1.1 hk.1.1 (sc xs (i + 1)) (sc xs (i + 2)) (sc_in _ _) (sc_in _ _)) ⟨rfl, rfl⟩ ok_X6_point vi_X6_point q_1208 hMd.1 rfl (fun _ => rfl) ⟨Nat.le_of_ble_eq_true rfl, Nat.le_of_ble_eq_true rfl, Nat.le_of_ble_eq_true rfl⟩ ⟨by show _ ≤ 601024; omega, by show _ ≤ 7293034; omega⟩ dL_law_1483 (fun r M2 h2 => ?_)
  have h3 := Rp.A hR1 h2
  obtain ⟨hr2, h6, hR2, hF2⟩ := h3
  subst hr2
  have hk2 : OkI g len b := hk
  have hC2 := hC1.kept hk2.1 hF2
  have hout2 : (oPoint g.1 (sc xs (i + 1)) (sc xs (i + 2))).1 = 0 → gL M2 (G.1 + 343) 0 = (xI (oPoint g.1 (sc xs (i + 1)) (sc xs (i + 2))).2) := fun w => by rw [(hF2 (G.1 + 343) (by omega)).2.1]; exact hout w
  refine r_istore B (lv' := [(7, .int (iI ((oPoint g.1 (sc xs (i + 1)) (sc xs (i + 2))).2))), (6, .int (iI ((oPoint g.1 (sc xs (i + 1)) (sc xs (i + 2))).1))), (5, .int (iI i)), (4, .ref (G.1 + 344)), (3, .ref (G.1 + 343)), (2, .ref (G.1 + 335)), (1, .ref G.1), (0, .ref bS)]) dL_law_1486 (by decide) rfl ?_
  refine r_aload_n B 5 dL_law_1488 rfl ?_
  refine r_pVi0 B (c_X6_thrown l G M2 (G.1 + 335) hMd _ h6) ⟨rfl, rfl⟩ ok_X6_thrown vi_X6_thrown q_947 hMd.1 rfl (fun _ => rfl) ⟨Nat.le_of_ble_eq_true rfl, Nat.le_of_ble_eq_true rfl, Nat.le_of_ble_eq_true rfl⟩ ⟨by show _ ≤ 601024; omega, by show _ ≤ 7293034; omega⟩ dL_law_1489 ?_
  refine r_iload B 1 dL_law_1492 rfl ?_
  refine r_same B dL_law_1494 rfl ?_
  refine r_iload B 1 dL_law_1499 rfl ?_
  have hend : WM G X (k + 4) (n + 24) Q M2 1516 [(7, .int (iI ((oPoint g.1 (sc xs (i + 1)) (sc xs (i + 2))).2))), (6, .int (iI ((oPoint g.1 (sc xs (i + 1)) (sc xs (i + 2))).1))), (5, .int (iI i)), (4, .ref (G.1 + 344)), (3, .ref (G.1 + 343)), (2, .ref (G.1 + 335)), (1, .ref G.1), (0, .ref bS)] [] := by
    refine r_goto B dL_law_1516 rfl ?_
    refine WM.pick [2, 3, 4, 5, 6, 7] rfl ?_
    exact kend M2 _ _ _ hC2 hR2 hk2
  refine r_if_ne B dL_law_1501 rfl hk32 (fun _ => hend) (fun hz => ?_)
  refine r_aload_n B 4 dL_law_1504 rfl ?_
  refine r_iconst B dL_law_1505 ?_
  refine r_laload B dL_law_1506 hO (by omega) (by decide) ?_
  refine r_vl (y := (xI (oPoint g.1 (sc xs (i + 1)) (sc xs (i + 2))).2)) (hout2 hz) ?_
  refine r_iload B 0 dL_law_1507 rfl ?_
  refine r_i2lw B dL_law_1509 ?_
  exact r_lsame B dL_law_1510 dL_law_1511 rfl hend
set_option maxRecDepth 100000 in
set_option maxHeartbeats 4000000 in
theorem law_lineDeviation (l : Launch) (hst : l.stackTraces = false) (G : Gs) (X : Cx) (B : Bx l G X cL_law 9 RL room_1 ret) {Q : State → Prop} {bS L : Nat} {xs : Nat → Int32} (hX : va_X bS L xs X.2.2.2.2.1 X.2.2.2.2.1.heap) (hbl : bS < X.2.2.2.2.1.heap.size) (hbA : bS < G.1) (hG : IsGg G G.1) (hMd : IsMd G (G.1 + 335)) (hO : At G (G.1 + 343) 12 1) (hOD : At G (G.1 + 344) 13 1) (M : Mem) (g : Gst) (len : Int) (b : Int → Int) (hC : CI G M g len b) (hR : RI G M g len b) (hk : OkI g len b) (k n : Nat) (hkn : k + 4 ≤ 601024 ∧ n + 24 ≤ 7293034) (i : Int) (hi : 0 ≤ i) (hiL : i + 5 ≤ L) (hL : L ≤ 2560) (kend : ∀ (M' : Mem) (g' : Gst) (len' : Int) (b' : Int → Int), CI G M' g' len' b' → RI G M' g' len' b' → OkI g' len' b' → WM G X (k + 4) (n + 24) Q M' 2423 [(5, .int (iI i)), (4, .ref (G.1 + 344)), (3, .ref (G.1 + 343)), (2, .ref (G.1 + 335)), (1, .ref G.1), (0, .ref bS)] []) : WM G X k n Q M 1519 [(5, .int (iI i)), (4, .ref (G.1 + 344)), (3, .ref (G.1 + 343)), (2, .ref (G.1 + 335)), (1, .ref G.1), (0, .ref bS)] [] := by
  refine r_aload_n B 4 dL_law_1519 rfl ?_
  refine r_aload_n B 5 dL_law_1520 rfl ?_
  refine r_iload B 0 dL_law_1521 rfl ?_
  refine r_iconst B dL_law_1523 ?_
  refine r_iadd B dL_law_1524 ?_
  refine r_sld B hX hbl hbA dL_law_1525 (by omega) (by omega) hL ?_
  refine r_aload_n B 5 dL_law_1526 rfl ?_
  refine r_iload B 0 dL_law_1527 rfl ?_
  refine r_iconst B dL_law_1529 ?_
  refine r_iadd B dL_law_1530 ?_
  refine r_sld B hX hbl hbA dL_law_1531 (by omega) (by omega) hL ?_
  refine r_aload_n B 2 dL_law_1532 rfl ?_
  refine r_W B (As := [.ref G.1, .int (iI (sc xs (i + 1))), .int (iI (sc xs (i + 2))), .ref (G.1 + 343)]) (st := []) (w_lineDeviation l hst G M g len b hG hO hC hk (sc xs (i + 1)) (sc xs (i + 2)) (sc_in _ _) (sc_in _ _)) ⟨rfl, rfl⟩ rfl ⟨by decide +kernel, by decide +kernel⟩ (z := 4) rfl (by decide +kernel) q_751 q_0 q_749 q_750 ⟨Nat.le_of_ble_eq_true rfl, Nat.le_of_ble_eq_true rfl, Nat.le_of_ble_eq_true rfl⟩ ⟨by show _ ≤ 601024; omega, by show _ ≤ 7293034; omega⟩ dL_law_1533 (fun kr M1 hw => ?_)
  obtain ⟨hr, hk32, hout, hC1, hF1⟩ := hw
  subst hr
  have hR1 := hR.kept hF1
  refine WM.widen (k' := k + 4) (n' := n + 24) (by omega) (by omega) ?_
  refine r_istore B (lv' := [(6, .int (iI ((oLdev g.1 (sc xs (i + 1)) (sc xs (i + 2))).1))), (5, .int (iI i)), (4, .ref (G.1 + 344)), (3, .ref (G.1 + 343)), (2, .ref (G.1 + 335)), (1, .ref G.1), (0, .ref bS)]) dL_law_1536 (by decide) rfl ?_
  refine r_aload_n B 4 dL_law_1538 rfl ?_
  refine r_aload_n B 6 dL_law_1539 rfl ?_
  refine r_iload B 1 dL_law_1540 rfl ?_
  refine r_iconst B dL_law_1542 ?_
  refine r_iadd B dL_law_1543 ?_
  refine r_sld B hX hbl hbA dL_law_1544 (by omega) (by omega) hL ?_
  refine r_aload_n B 6 dL_law_1545 rfl ?_
  refine r_iload B 1 dL_law_1546 rfl ?_
  refine r_iconst B dL_law_1548 ?_
  refine r_iadd B dL_law_1549 ?_
  refine r_sld B hX hbl hbA dL_law_1550 (by omega) (by omega) hL ?_
  refine r_Vi2 B (c_X6_lineDeviation l G M1 (G.1 + 335) hMd g.1 hR1.1.1 hk.1.1 (sc xs (i + 1)) (sc xs (i + 2)) (sc_in _ _) (sc_in _ _)) ⟨rfl, rfl⟩ ok_X6_lineDeviation vi_X6_lineDeviation q_1212 hMd.1 rfl (fun _ => rfl) ⟨Nat.le_of_ble_eq_true rfl, Nat.le_of_ble_eq_true rfl, Nat.le_of_ble_eq_true rfl⟩ ⟨by show _ ≤ 601024; omega, by show _ ≤ 7293034; omega⟩ dL_law_1551 (fun r M2 h2 => ?_)
  have h3 := Rp.B hR1 h2
  obtain ⟨hr2, h6, hR2, hF2⟩ := h3
  subst hr2
  have hk2 : OkI g len b := hk
  have hC2 := hC1.kept hk2.1 hF2
  have hout2 : (oLdev g.1 (sc xs (i + 1)) (sc xs (i + 2))).1 = 0 → gL M2 (G.1 + 343) 0 = (xI (oLdev g.1 (sc xs (i + 1)) (sc xs (i + 2))).2) := fun w => by rw [(hF2 (G.1 + 343) (by omega)).2.1]; exact hout w
  refine r_istore B (lv' := [(7, .int (iI ((oLdev g.1 (sc xs (i + 1)) (sc xs (i + 2))).2))), (6, .int (iI ((oLdev g.1 (sc xs (i + 1)) (sc xs (i + 2))).1))), (5, .int (iI i)), (4, .ref (G.1 + 344)), (3, .ref (G.1 + 343)), (2, .ref (G.1 + 335)), (1, .ref G.1), (0, .ref bS)]) dL_law_1554 (by decide) rfl ?_
  refine r_aload_n B 5 dL_law_1556 rfl ?_
  refine r_pVi0 B (c_X6_thrown l G M2 (G.1 + 335) hMd _ h6) ⟨rfl, rfl⟩ ok_X6_thrown vi_X6_thrown q_947 hMd.1 rfl (fun _ => rfl) ⟨Nat.le_of_ble_eq_true rfl, Nat.le_of_ble_eq_true rfl, Nat.le_of_ble_eq_true rfl⟩ ⟨by show _ ≤ 601024; omega, by show _ ≤ 7293034; omega⟩ dL_law_1557 ?_
  refine r_iload B 1 dL_law_1560 rfl ?_
  refine r_same B dL_law_1562 rfl ?_
  refine r_iload B 1 dL_law_1567 rfl ?_
  have hend : WM G X (k + 4) (n + 24) Q M2 1584 [(7, .int (iI ((oLdev g.1 (sc xs (i + 1)) (sc xs (i + 2))).2))), (6, .int (iI ((oLdev g.1 (sc xs (i + 1)) (sc xs (i + 2))).1))), (5, .int (iI i)), (4, .ref (G.1 + 344)), (3, .ref (G.1 + 343)), (2, .ref (G.1 + 335)), (1, .ref G.1), (0, .ref bS)] [] := by
    refine r_goto B dL_law_1584 rfl ?_
    refine WM.pick [2, 3, 4, 5, 6, 7] rfl ?_
    exact kend M2 _ _ _ hC2 hR2 hk2
  refine r_if_ne B dL_law_1569 rfl hk32 (fun _ => hend) (fun hz => ?_)
  refine r_aload_n B 4 dL_law_1572 rfl ?_
  refine r_iconst B dL_law_1573 ?_
  refine r_laload B dL_law_1574 hO (by omega) (by decide) ?_
  refine r_vl (y := (xI (oLdev g.1 (sc xs (i + 1)) (sc xs (i + 2))).2)) (hout2 hz) ?_
  refine r_iload B 0 dL_law_1575 rfl ?_
  refine r_i2lw B dL_law_1577 ?_
  exact r_lsame B dL_law_1578 dL_law_1579 rfl hend
set_option maxRecDepth 100000 in
set_option maxHeartbeats 4000000 in
theorem law_best (l : Launch) (hst : l.stackTraces = false) (G : Gs) (X : Cx) (B : Bx l G X cL_law 9 RL room_1 ret) {Q : State → Prop} {bS L : Nat} {xs : Nat → Int32} (hX : va_X bS L xs X.2.2.2.2.1 X.2.2.2.2.1.heap) (hbl : bS < X.2.2.2.2.1.heap.size) (hbA : bS < G.1) (hG : IsGg G G.1) (hMd : IsMd G (G.1 + 335)) (hO : At G (G.1 + 343) 12 1) (hOD : At G (G.1 + 344) 13 1) (M : Mem) (g : Gst) (len : Int) (b : Int → Int) (hC : CI G M g len b) (hR : RI G M g len b) (hk : OkI g len b) (k n : Nat) (hkn : k + 4 ≤ 601024 ∧ n + 24 ≤ 7293034) (i : Int) (hi : 0 ≤ i) (hiL : i + 5 ≤ L) (hL : L ≤ 2560) (kend : ∀ (M' : Mem) (g' : Gst) (len' : Int) (b' : Int → Int), CI G M' g' len' b' → RI G M' g' len' b' → OkI g' len' b' → WM G X (k + 4) (n + 24) Q M' 2423 [(5, .int (iI i)), (4, .ref (G.1 + 344)), (3, .ref (G.1 + 343)), (2, .ref (G.1 + 335)), (1, .ref G.1), (0, .ref bS)] []) : WM G X k n Q M 1587 [(5, .int (iI i)), (4, .ref (G.1 + 344)), (3, .ref (G.1 + 343)), (2, .ref (G.1 + 335)), (1, .ref G.1), (0, .ref bS)] [] := by
  refine r_aload_n B 4 dL_law_1587 rfl ?_
  refine r_aload_n B 5 dL_law_1588 rfl ?_
  refine r_iload B 0 dL_law_1589 rfl ?_
  refine r_iconst B dL_law_1591 ?_
  refine r_iadd B dL_law_1592 ?_
  refine r_sld B hX hbl hbA dL_law_1593 (by omega) (by omega) hL ?_
  refine r_aload_n B 5 dL_law_1594 rfl ?_
  refine r_iload B 0 dL_law_1595 rfl ?_
  refine r_iconst B dL_law_1597 ?_
  refine r_iadd B dL_law_1598 ?_
  refine r_sld B hX hbl hbA dL_law_1599 (by omega) (by omega) hL ?_
  have J1600 : WM G X k n Q M 1608 [(5, .int (iI i)), (4, .ref (G.1 + 344)), (3, .ref (G.1 + 343)), (2, .ref (G.1 + 335)), (1, .ref G.1), (0, .ref bS)] [.int (iI (blF (sc xs (i + 2)))), .int (iI (sc xs (i + 1))), .ref G.1] := by
    refine r_aload_n B 5 dL_law_1608 rfl ?_
    refine r_iload B 0 dL_law_1609 rfl ?_
    refine r_iconst B dL_law_1611 ?_
    refine r_iadd B dL_law_1612 ?_
    refine r_sld B hX hbl hbA dL_law_1613 (by omega) (by omega) hL ?_
    refine r_aload_n B 2 dL_law_1614 rfl ?_
    refine r_W B (As := [.ref G.1, .int (iI (sc xs (i + 1))), .int (iI (blF (sc xs (i + 2)))), .int (iI (sc xs (i + 3))), .ref (G.1 + 343)]) (st := []) (w_best l hst G M g len b hG hO hC hk (sc xs (i + 1)) (blF (sc xs (i + 2))) (sc xs (i + 3)) (sc_in _ _) (sc_in _ _) (blF_in _)) ⟨rfl, rfl⟩ rfl ⟨by decide +kernel, by decide +kernel⟩ (z := 5) rfl (by decide +kernel) q_762 q_0 q_760 q_761 ⟨Nat.le_of_ble_eq_true rfl, Nat.le_of_ble_eq_true rfl, Nat.le_of_ble_eq_true rfl⟩ ⟨by show _ ≤ 601024; omega, by show _ ≤ 7293034; omega⟩ dL_law_1615 (fun kr M1 hw => ?_)
    obtain ⟨hr, hk32, hout, hC1, hF1⟩ := hw
    subst hr
    have hR1 := hR.kept hF1
    refine WM.widen (k' := k + 4) (n' := n + 24) (by omega) (by omega) ?_
    refine r_istore B (lv' := [(6, .int (iI ((oBest g.1 (sc xs (i + 1)) (blF (sc xs (i + 2))) (sc xs (i + 3))).1))), (5, .int (iI i)), (4, .ref (G.1 + 344)), (3, .ref (G.1 + 343)), (2, .ref (G.1 + 335)), (1, .ref G.1), (0, .ref bS)]) dL_law_1618 (by decide) rfl ?_
    refine r_aload_n B 4 dL_law_1620 rfl ?_
    refine r_aload_n B 6 dL_law_1621 rfl ?_
    refine r_iload B 1 dL_law_1622 rfl ?_
    refine r_iconst B dL_law_1624 ?_
    refine r_iadd B dL_law_1625 ?_
    refine r_sld B hX hbl hbA dL_law_1626 (by omega) (by omega) hL ?_
    refine r_aload_n B 6 dL_law_1627 rfl ?_
    refine r_iload B 1 dL_law_1628 rfl ?_
    refine r_iconst B dL_law_1630 ?_
    refine r_iadd B dL_law_1631 ?_
    refine r_sld B hX hbl hbA dL_law_1632 (by omega) (by omega) hL ?_
    have J1633 : WM G X (k + 4) (n + 24) Q M1 1641 [(6, .int (iI ((oBest g.1 (sc xs (i + 1)) (blF (sc xs (i + 2))) (sc xs (i + 3))).1))), (5, .int (iI i)), (4, .ref (G.1 + 344)), (3, .ref (G.1 + 343)), (2, .ref (G.1 + 335)), (1, .ref G.1), (0, .ref bS)] [.int (iI (blF (sc xs (i + 2)))), .int (iI (sc xs (i + 1))), .ref (G.1 + 335)] := by
      refine r_aload_n B 6 dL_law_1641 rfl ?_
      refine r_iload B 1 dL_law_1642 rfl ?_
      refine r_iconst B dL_law_1644 ?_
      refine r_iadd B dL_law_1645 ?_
      refine r_sld B hX hbl hbA dL_law_1646 (by omega) (by omega) hL ?_
      refine r_Vl3 B (c_X6_best l G M1 (G.1 + 335) hMd g.1 hR1.1.1 hk.1.1 (sc xs (i + 1)) (blF (sc xs (i + 2))) (sc xs (i + 3)) (sc_in _ _) (sc_in _ _) (blF_in _)) ⟨rfl, rfl⟩ ok_X6_best vi_X6_best q_1216 hMd.1 rfl (fun _ => rfl) ⟨Nat.le_of_ble_eq_true rfl, Nat.le_of_ble_eq_true rfl, Nat.le_of_ble_eq_true rfl⟩ ⟨by show _ ≤ 601024; omega, by show _ ≤ 7293034; omega⟩ dL_law_1647 (fun r M2 h2 => ?_)
      have h3 := Rp.E hR1 h2
      obtain ⟨hr2, h6, hR2, hF2⟩ := h3
      subst hr2
      have hk2 : OkI g len b := hk
      have hC2 := hC1.kept hk2.1 hF2
      have hout2 : (oBest g.1 (sc xs (i + 1)) (blF (sc xs (i + 2))) (sc xs (i + 3))).1 = 0 → gL M2 (G.1 + 343) 0 = (oBest g.1 (sc xs (i + 1)) (blF (sc xs (i + 2))) (sc xs (i + 3))).2 := fun w => by rw [(hF2 (G.1 + 343) (by omega)).2.1]; exact hout w
      refine r_lstore B (lv' := [(7, .long (lI ((oBest g.1 (sc xs (i + 1)) (blF (sc xs (i + 2))) (sc xs (i + 3))).2))), (6, .int (iI ((oBest g.1 (sc xs (i + 1)) (blF (sc xs (i + 2))) (sc xs (i + 3))).1))), (5, .int (iI i)), (4, .ref (G.1 + 344)), (3, .ref (G.1 + 343)), (2, .ref (G.1 + 335)), (1, .ref G.1), (0, .ref bS)]) dL_law_1650 (by decide) rfl ?_
      refine r_aload_n B 5 dL_law_1652 rfl ?_
      refine r_pVi0 B (c_X6_thrown l G M2 (G.1 + 335) hMd _ h6) ⟨rfl, rfl⟩ ok_X6_thrown vi_X6_thrown q_947 hMd.1 rfl (fun _ => rfl) ⟨Nat.le_of_ble_eq_true rfl, Nat.le_of_ble_eq_true rfl, Nat.le_of_ble_eq_true rfl⟩ ⟨by show _ ≤ 601024; omega, by show _ ≤ 7293034; omega⟩ dL_law_1653 ?_
      refine r_iload B 1 dL_law_1656 rfl ?_
      refine r_same B dL_law_1658 rfl ?_
      refine r_iload B 1 dL_law_1663 rfl ?_
      have hend : WM G X (k + 4) (n + 24) Q M2 1679 [(7, .long (lI ((oBest g.1 (sc xs (i + 1)) (blF (sc xs (i + 2))) (sc xs (i + 3))).2))), (6, .int (iI ((oBest g.1 (sc xs (i + 1)) (blF (sc xs (i + 2))) (sc xs (i + 3))).1))), (5, .int (iI i)), (4, .ref (G.1 + 344)), (3, .ref (G.1 + 343)), (2, .ref (G.1 + 335)), (1, .ref G.1), (0, .ref bS)] [] := by
        refine r_goto B dL_law_1679 rfl ?_
        refine WM.pick [2, 3, 4, 5, 6, 7] rfl ?_
        exact kend M2 _ _ _ hC2 hR2 hk2
      refine r_if_ne B dL_law_1665 rfl hk32 (fun _ => hend) (fun hz => ?_)
      refine r_aload_n B 4 dL_law_1668 rfl ?_
      refine r_iconst B dL_law_1669 ?_
      refine r_laload B dL_law_1670 hO (by omega) (by decide) ?_
      refine r_vl (y := (oBest g.1 (sc xs (i + 1)) (blF (sc xs (i + 2))) (sc xs (i + 3))).2) (hout2 hz) ?_
      refine r_lload B 0 dL_law_1671 rfl ?_
      exact r_lsame B dL_law_1673 dL_law_1674 rfl hend
    refine r_if_eq B dL_law_1633 rfl (sc_in _ _) (fun h => ?_) (fun h => ?_)
    · refine r_iconst B dL_law_1640 ?_
      refine r_vi (y := blF (sc xs (i + 2))) (show blF (sc xs (i + 2)) = 0 from if_pos h).symm ?_
      exact J1633
    · refine r_iconst B dL_law_1636 ?_
      refine r_vi (y := blF (sc xs (i + 2))) (show blF (sc xs (i + 2)) = 1 from if_neg h).symm ?_
      refine r_goto B dL_law_1637 rfl ?_
      exact J1633
  refine r_if_eq B dL_law_1600 rfl (sc_in _ _) (fun h => ?_) (fun h => ?_)
  · refine r_iconst B dL_law_1607 ?_
    refine r_vi (y := blF (sc xs (i + 2))) (show blF (sc xs (i + 2)) = 0 from if_pos h).symm ?_
    exact J1600
  · refine r_iconst B dL_law_1603 ?_
    refine r_vi (y := blF (sc xs (i + 2))) (show blF (sc xs (i + 2)) = 1 from if_neg h).symm ?_
    refine r_goto B dL_law_1604 rfl ?_
    exact J1600
set_option maxRecDepth 100000 in
set_option maxHeartbeats 4000000 in
theorem law_tolerance (l : Launch) (hst : l.stackTraces = false) (G : Gs) (X : Cx) (B : Bx l G X cL_law 9 RL room_1 ret) {Q : State → Prop} {bS L : Nat} {xs : Nat → Int32} (hX : va_X bS L xs X.2.2.2.2.1 X.2.2.2.2.1.heap) (hbl : bS < X.2.2.2.2.1.heap.size) (hbA : bS < G.1) (hG : IsGg G G.1) (hMd : IsMd G (G.1 + 335)) (hO : At G (G.1 + 343) 12 1) (hOD : At G (G.1 + 344) 13 1) (M : Mem) (g : Gst) (len : Int) (b : Int → Int) (hC : CI G M g len b) (hR : RI G M g len b) (hk : OkI g len b) (k n : Nat) (hkn : k + 4 ≤ 601024 ∧ n + 24 ≤ 7293034) (i : Int) (hi : 0 ≤ i) (hiL : i + 5 ≤ L) (hL : L ≤ 2560) (kend : ∀ (M' : Mem) (g' : Gst) (len' : Int) (b' : Int → Int), CI G M' g' len' b' → RI G M' g' len' b' → OkI g' len' b' → WM G X (k + 4) (n + 24) Q M' 2423 [(5, .int (iI i)), (4, .ref (G.1 + 344)), (3, .ref (G.1 + 343)), (2, .ref (G.1 + 335)), (1, .ref G.1), (0, .ref bS)] []) : WM G X k n Q M 1682 [(5, .int (iI i)), (4, .ref (G.1 + 344)), (3, .ref (G.1 + 343)), (2, .ref (G.1 + 335)), (1, .ref G.1), (0, .ref bS)] [] := by
  refine r_aload_n B 4 dL_law_1682 rfl ?_
  refine r_aload_n B 5 dL_law_1683 rfl ?_
  refine r_iload B 0 dL_law_1684 rfl ?_
  refine r_iconst B dL_law_1686 ?_
  refine r_iadd B dL_law_1687 ?_
  refine r_sld B hX hbl hbA dL_law_1688 (by omega) (by omega) hL ?_
  refine r_aload_n B 5 dL_law_1689 rfl ?_
  refine r_iload B 0 dL_law_1690 rfl ?_
  refine r_iconst B dL_law_1692 ?_
  refine r_iadd B dL_law_1693 ?_
  refine r_sld B hX hbl hbA dL_law_1694 (by omega) (by omega) hL ?_
  refine r_aload_n B 5 dL_law_1695 rfl ?_
  refine r_iload B 0 dL_law_1696 rfl ?_
  refine r_iconst B dL_law_1698 ?_
  refine r_iadd B dL_law_1699 ?_
  refine r_sld B hX hbl hbA dL_law_1700 (by omega) (by omega) hL ?_
  refine r_aload_n B 2 dL_law_1701 rfl ?_
  refine r_W B (As := [.ref G.1, .int (iI (sc xs (i + 1))), .int (iI (sc xs (i + 2))), .int (iI (sc xs (i + 3))), .ref (G.1 + 343)]) (st := []) (w_tolerance l hst G M g len b hG hO hC hk (sc xs (i + 1)) (sc xs (i + 2)) (sc xs (i + 3)) (sc_in _ _) (sc_in _ _) (sc_in _ _)) ⟨rfl, rfl⟩ rfl ⟨by decide +kernel, by decide +kernel⟩ (z := 5) rfl (by decide +kernel) q_780 q_0 q_778 q_779 ⟨Nat.le_of_ble_eq_true rfl, Nat.le_of_ble_eq_true rfl, Nat.le_of_ble_eq_true rfl⟩ ⟨by show _ ≤ 601024; omega, by show _ ≤ 7293034; omega⟩ dL_law_1702 (fun kr M1 hw => ?_)
  obtain ⟨hr, hk32, hout, hC1, hF1⟩ := hw
  subst hr
  have hR1 := hR.kept hF1
  refine WM.widen (k' := k + 4) (n' := n + 24) (by omega) (by omega) ?_
  refine r_istore B (lv' := [(6, .int (iI ((oTol g.1 (sc xs (i + 1)) (sc xs (i + 2)) (sc xs (i + 3))).1))), (5, .int (iI i)), (4, .ref (G.1 + 344)), (3, .ref (G.1 + 343)), (2, .ref (G.1 + 335)), (1, .ref G.1), (0, .ref bS)]) dL_law_1705 (by decide) rfl ?_
  refine r_aload_n B 4 dL_law_1707 rfl ?_
  refine r_aload_n B 6 dL_law_1708 rfl ?_
  refine r_iload B 1 dL_law_1709 rfl ?_
  refine r_iconst B dL_law_1711 ?_
  refine r_iadd B dL_law_1712 ?_
  refine r_sld B hX hbl hbA dL_law_1713 (by omega) (by omega) hL ?_
  refine r_aload_n B 6 dL_law_1714 rfl ?_
  refine r_iload B 1 dL_law_1715 rfl ?_
  refine r_iconst B dL_law_1717 ?_
  refine r_iadd B dL_law_1718 ?_
  refine r_sld B hX hbl hbA dL_law_1719 (by omega) (by omega) hL ?_
  refine r_aload_n B 6 dL_law_1720 rfl ?_
  refine r_iload B 1 dL_law_1721 rfl ?_
  refine r_iconst B dL_law_1723 ?_
  refine r_iadd B dL_law_1724 ?_
  refine r_sld B hX hbl hbA dL_law_1725 (by omega) (by omega) hL ?_
  refine r_Vi3 B (c_X6_tolerance l G M1 (G.1 + 335) hMd g.1 hR1.1.1 hk.1.1 (sc xs (i + 1)) (sc xs (i + 2)) (sc xs (i + 3)) (sc_in _ _) (sc_in _ _) (sc_in _ _)) ⟨rfl, rfl⟩ ok_X6_tolerance vi_X6_tolerance q_1223 hMd.1 rfl (fun _ => rfl) ⟨Nat.le_of_ble_eq_true rfl, Nat.le_of_ble_eq_true rfl, Nat.le_of_ble_eq_true rfl⟩ ⟨by show _ ≤ 601024; omega, by show _ ≤ 7293034; omega⟩ dL_law_1726 (fun r M2 h2 => ?_)
  have h3 := Rp.A hR1 h2
  obtain ⟨hr2, h6, hR2, hF2⟩ := h3
  subst hr2
  have hk2 : OkI g len b := hk
  have hC2 := hC1.kept hk2.1 hF2
  have hout2 : (oTol g.1 (sc xs (i + 1)) (sc xs (i + 2)) (sc xs (i + 3))).1 = 0 → gL M2 (G.1 + 343) 0 = (xI (oTol g.1 (sc xs (i + 1)) (sc xs (i + 2)) (sc xs (i + 3))).2) := fun w => by rw [(hF2 (G.1 + 343) (by omega)).2.1]; exact hout w
  refine r_istore B (lv' := [(7, .int (iI ((oTol g.1 (sc xs (i + 1)) (sc xs (i + 2)) (sc xs (i + 3))).2))), (6, .int (iI ((oTol g.1 (sc xs (i + 1)) (sc xs (i + 2)) (sc xs (i + 3))).1))), (5, .int (iI i)), (4, .ref (G.1 + 344)), (3, .ref (G.1 + 343)), (2, .ref (G.1 + 335)), (1, .ref G.1), (0, .ref bS)]) dL_law_1729 (by decide) rfl ?_
  refine r_aload_n B 5 dL_law_1731 rfl ?_
  refine r_pVi0 B (c_X6_thrown l G M2 (G.1 + 335) hMd _ h6) ⟨rfl, rfl⟩ ok_X6_thrown vi_X6_thrown q_947 hMd.1 rfl (fun _ => rfl) ⟨Nat.le_of_ble_eq_true rfl, Nat.le_of_ble_eq_true rfl, Nat.le_of_ble_eq_true rfl⟩ ⟨by show _ ≤ 601024; omega, by show _ ≤ 7293034; omega⟩ dL_law_1732 ?_
  refine r_iload B 1 dL_law_1735 rfl ?_
  refine r_same B dL_law_1737 rfl ?_
  refine r_iload B 1 dL_law_1742 rfl ?_
  have hend : WM G X (k + 4) (n + 24) Q M2 1759 [(7, .int (iI ((oTol g.1 (sc xs (i + 1)) (sc xs (i + 2)) (sc xs (i + 3))).2))), (6, .int (iI ((oTol g.1 (sc xs (i + 1)) (sc xs (i + 2)) (sc xs (i + 3))).1))), (5, .int (iI i)), (4, .ref (G.1 + 344)), (3, .ref (G.1 + 343)), (2, .ref (G.1 + 335)), (1, .ref G.1), (0, .ref bS)] [] := by
    refine r_goto B dL_law_1759 rfl ?_
    refine WM.pick [2, 3, 4, 5, 6, 7] rfl ?_
    exact kend M2 _ _ _ hC2 hR2 hk2
  refine r_if_ne B dL_law_1744 rfl hk32 (fun _ => hend) (fun hz => ?_)
  refine r_aload_n B 4 dL_law_1747 rfl ?_
  refine r_iconst B dL_law_1748 ?_
  refine r_laload B dL_law_1749 hO (by omega) (by decide) ?_
  refine r_vl (y := (xI (oTol g.1 (sc xs (i + 1)) (sc xs (i + 2)) (sc xs (i + 3))).2)) (hout2 hz) ?_
  refine r_iload B 0 dL_law_1750 rfl ?_
  refine r_i2lw B dL_law_1752 ?_
  exact r_lsame B dL_law_1753 dL_law_1754 rfl hend
set_option maxRecDepth 100000 in
set_option maxHeartbeats 4000000 in
theorem law_quality (l : Launch) (hst : l.stackTraces = false) (G : Gs) (X : Cx) (B : Bx l G X cL_law 9 RL room_1 ret) {Q : State → Prop} {bS L : Nat} {xs : Nat → Int32} (hX : va_X bS L xs X.2.2.2.2.1 X.2.2.2.2.1.heap) (hbl : bS < X.2.2.2.2.1.heap.size) (hbA : bS < G.1) (hG : IsGg G G.1) (hMd : IsMd G (G.1 + 335)) (hO : At G (G.1 + 343) 12 1) (hOD : At G (G.1 + 344) 13 1) (M : Mem) (g : Gst) (len : Int) (b : Int → Int) (hC : CI G M g len b) (hR : RI G M g len b) (hk : OkI g len b) (k n : Nat) (hkn : k + 4 ≤ 601024 ∧ n + 24 ≤ 7293034) (i : Int) (hi : 0 ≤ i) (hiL : i + 5 ≤ L) (hL : L ≤ 2560) (kend : ∀ (M' : Mem) (g' : Gst) (len' : Int) (b' : Int → Int), CI G M' g' len' b' → RI G M' g' len' b' → OkI g' len' b' → WM G X (k + 4) (n + 24) Q M' 2423 [(5, .int (iI i)), (4, .ref (G.1 + 344)), (3, .ref (G.1 + 343)), (2, .ref (G.1 + 335)), (1, .ref G.1), (0, .ref bS)] []) : WM G X k n Q M 1762 [(5, .int (iI i)), (4, .ref (G.1 + 344)), (3, .ref (G.1 + 343)), (2, .ref (G.1 + 335)), (1, .ref G.1), (0, .ref bS)] [] := by
  refine r_aload_n B 4 dL_law_1762 rfl ?_
  refine r_aload_n B 5 dL_law_1763 rfl ?_
  refine r_iload B 0 dL_law_1764 rfl ?_
  refine r_iconst B dL_law_1766 ?_
  refine r_iadd B dL_law_1767 ?_
  refine r_sld B hX hbl hbA dL_law_1768 (by omega) (by omega) hL ?_
  refine r_aload_n B 5 dL_law_1769 rfl ?_
  refine r_iload B 0 dL_law_1770 rfl ?_
  refine r_iconst B dL_law_1772 ?_
  refine r_iadd B dL_law_1773 ?_
  refine r_sld B hX hbl hbA dL_law_1774 (by omega) (by omega) hL ?_
  refine r_aload_n B 2 dL_law_1775 rfl ?_
  refine r_W B (As := [.ref G.1, .int (iI (sc xs (i + 1))), .int (iI (sc xs (i + 2))), .ref (G.1 + 343)]) (st := []) (w_quality l hst G M g len b hG hO hC hk (sc xs (i + 1)) (sc xs (i + 2)) (sc_in _ _) (sc_in _ _)) ⟨rfl, rfl⟩ rfl ⟨by decide +kernel, by decide +kernel⟩ (z := 4) rfl (by decide +kernel) q_791 q_0 q_789 q_790 ⟨Nat.le_of_ble_eq_true rfl, Nat.le_of_ble_eq_true rfl, Nat.le_of_ble_eq_true rfl⟩ ⟨by show _ ≤ 601024; omega, by show _ ≤ 7293034; omega⟩ dL_law_1776 (fun kr M1 hw => ?_)
  obtain ⟨hr, hk32, hout, hC1, hF1⟩ := hw
  subst hr
  have hR1 := hR.kept hF1
  refine WM.widen (k' := k + 4) (n' := n + 24) (by omega) (by omega) ?_
  refine r_istore B (lv' := [(6, .int (iI ((oQual g.1 (sc xs (i + 1)) (sc xs (i + 2))).1))), (5, .int (iI i)), (4, .ref (G.1 + 344)), (3, .ref (G.1 + 343)), (2, .ref (G.1 + 335)), (1, .ref G.1), (0, .ref bS)]) dL_law_1779 (by decide) rfl ?_
  refine r_aload_n B 4 dL_law_1781 rfl ?_
  refine r_aload_n B 6 dL_law_1782 rfl ?_
  refine r_iload B 1 dL_law_1783 rfl ?_
  refine r_iconst B dL_law_1785 ?_
  refine r_iadd B dL_law_1786 ?_
  refine r_sld B hX hbl hbA dL_law_1787 (by omega) (by omega) hL ?_
  refine r_aload_n B 6 dL_law_1788 rfl ?_
  refine r_iload B 1 dL_law_1789 rfl ?_
  refine r_iconst B dL_law_1791 ?_
  refine r_iadd B dL_law_1792 ?_
  refine r_sld B hX hbl hbA dL_law_1793 (by omega) (by omega) hL ?_
  refine r_Vi2 B (c_X6_quality l G M1 (G.1 + 335) hMd g.1 hR1.1.1 hk.1.1 (sc xs (i + 1)) (sc xs (i + 2)) (sc_in _ _) (sc_in _ _)) ⟨rfl, rfl⟩ ok_X6_quality vi_X6_quality q_1228 hMd.1 rfl (fun _ => rfl) ⟨Nat.le_of_ble_eq_true rfl, Nat.le_of_ble_eq_true rfl, Nat.le_of_ble_eq_true rfl⟩ ⟨by show _ ≤ 601024; omega, by show _ ≤ 7293034; omega⟩ dL_law_1794 (fun r M2 h2 => ?_)
  have h3 := Rp.B hR1 h2
  obtain ⟨hr2, h6, hR2, hF2⟩ := h3
  subst hr2
  have hk2 : OkI g len b := hk
  have hC2 := hC1.kept hk2.1 hF2
  have hout2 : (oQual g.1 (sc xs (i + 1)) (sc xs (i + 2))).1 = 0 → gL M2 (G.1 + 343) 0 = (xI (oQual g.1 (sc xs (i + 1)) (sc xs (i + 2))).2) := fun w => by rw [(hF2 (G.1 + 343) (by omega)).2.1]; exact hout w
  refine r_istore B (lv' := [(7, .int (iI ((oQual g.1 (sc xs (i + 1)) (sc xs (i + 2))).2))), (6, .int (iI ((oQual g.1 (sc xs (i + 1)) (sc xs (i + 2))).1))), (5, .int (iI i)), (4, .ref (G.1 + 344)), (3, .ref (G.1 + 343)), (2, .ref (G.1 + 335)), (1, .ref G.1), (0, .ref bS)]) dL_law_1797 (by decide) rfl ?_
  refine r_aload_n B 5 dL_law_1799 rfl ?_
  refine r_pVi0 B (c_X6_thrown l G M2 (G.1 + 335) hMd _ h6) ⟨rfl, rfl⟩ ok_X6_thrown vi_X6_thrown q_947 hMd.1 rfl (fun _ => rfl) ⟨Nat.le_of_ble_eq_true rfl, Nat.le_of_ble_eq_true rfl, Nat.le_of_ble_eq_true rfl⟩ ⟨by show _ ≤ 601024; omega, by show _ ≤ 7293034; omega⟩ dL_law_1800 ?_
  refine r_iload B 1 dL_law_1803 rfl ?_
  refine r_same B dL_law_1805 rfl ?_
  refine r_iload B 1 dL_law_1810 rfl ?_
  have hend : WM G X (k + 4) (n + 24) Q M2 1827 [(7, .int (iI ((oQual g.1 (sc xs (i + 1)) (sc xs (i + 2))).2))), (6, .int (iI ((oQual g.1 (sc xs (i + 1)) (sc xs (i + 2))).1))), (5, .int (iI i)), (4, .ref (G.1 + 344)), (3, .ref (G.1 + 343)), (2, .ref (G.1 + 335)), (1, .ref G.1), (0, .ref bS)] [] := by
    refine r_goto B dL_law_1827 rfl ?_
    refine WM.pick [2, 3, 4, 5, 6, 7] rfl ?_
    exact kend M2 _ _ _ hC2 hR2 hk2
  refine r_if_ne B dL_law_1812 rfl hk32 (fun _ => hend) (fun hz => ?_)
  refine r_aload_n B 4 dL_law_1815 rfl ?_
  refine r_iconst B dL_law_1816 ?_
  refine r_laload B dL_law_1817 hO (by omega) (by decide) ?_
  refine r_vl (y := (xI (oQual g.1 (sc xs (i + 1)) (sc xs (i + 2))).2)) (hout2 hz) ?_
  refine r_iload B 0 dL_law_1818 rfl ?_
  refine r_i2lw B dL_law_1820 ?_
  exact r_lsame B dL_law_1821 dL_law_1822 rfl hend
set_option maxRecDepth 100000 in
set_option maxHeartbeats 4000000 in
theorem law_decide (l : Launch) (hst : l.stackTraces = false) (G : Gs) (X : Cx) (B : Bx l G X cL_law 9 RL room_1 ret) {Q : State → Prop} {bS L : Nat} {xs : Nat → Int32} (hX : va_X bS L xs X.2.2.2.2.1 X.2.2.2.2.1.heap) (hbl : bS < X.2.2.2.2.1.heap.size) (hbA : bS < G.1) (hG : IsGg G G.1) (hMd : IsMd G (G.1 + 335)) (hO : At G (G.1 + 343) 12 1) (hOD : At G (G.1 + 344) 13 1) (M : Mem) (g : Gst) (len : Int) (b : Int → Int) (hC : CI G M g len b) (hR : RI G M g len b) (hk : OkI g len b) (k n : Nat) (hkn : k + 4 ≤ 601024 ∧ n + 24 ≤ 7293034) (i : Int) (hi : 0 ≤ i) (hiL : i + 5 ≤ L) (hL : L ≤ 2560) (kend : ∀ (M' : Mem) (g' : Gst) (len' : Int) (b' : Int → Int), CI G M' g' len' b' → RI G M' g' len' b' → OkI g' len' b' → WM G X (k + 4) (n + 24) Q M' 2423 [(5, .int (iI i)), (4, .ref (G.1 + 344)), (3, .ref (G.1 + 343)), (2, .ref (G.1 + 335)), (1, .ref G.1), (0, .ref bS)] []) : WM G X k n Q M 1830 [(5, .int (iI i)), (4, .ref (G.1 + 344)), (3, .ref (G.1 + 343)), (2, .ref (G.1 + 335)), (1, .ref G.1), (0, .ref bS)] [] := by
  refine r_aload_n B 4 dL_law_1830 rfl ?_
  refine r_aload_n B 5 dL_law_1831 rfl ?_
  refine r_iload B 0 dL_law_1832 rfl ?_
  refine r_iconst B dL_law_1834 ?_
  refine r_iadd B dL_law_1835 ?_
  refine r_sld B hX hbl hbA dL_law_1836 (by omega) (by omega) hL ?_
  refine r_aload_n B 5 dL_law_1837 rfl ?_
  refine r_iload B 0 dL_law_1838 rfl ?_
  refine r_iconst B dL_law_1840 ?_
  refine r_iadd B dL_law_1841 ?_
  refine r_sld B hX hbl hbA dL_law_1842 (by omega) (by omega) hL ?_
  refine r_aload_n B 5 dL_law_1843 rfl ?_
  refine r_iload B 0 dL_law_1844 rfl ?_
  refine r_iconst B dL_law_1846 ?_
  refine r_iadd B dL_law_1847 ?_
  refine r_sld B hX hbl hbA dL_law_1848 (by omega) (by omega) hL ?_
  refine r_aload_n B 2 dL_law_1849 rfl ?_
  refine r_W B (As := [.ref G.1, .int (iI (sc xs (i + 1))), .int (iI (sc xs (i + 2))), .int (iI (sc xs (i + 3))), .ref (G.1 + 343)]) (st := []) (w_decide l hst G M g len b hG hO hC hk (sc xs (i + 1)) (sc xs (i + 2)) (sc xs (i + 3)) (sc_in _ _) (sc_in _ _) (sc_in _ _)) ⟨rfl, rfl⟩ rfl ⟨by decide +kernel, by decide +kernel⟩ (z := 5) rfl (by decide +kernel) q_798 q_0 q_796 q_797 ⟨Nat.le_of_ble_eq_true rfl, Nat.le_of_ble_eq_true rfl, Nat.le_of_ble_eq_true rfl⟩ ⟨by show _ ≤ 601024; omega, by show _ ≤ 7293034; omega⟩ dL_law_1850 (fun kr M1 hw => ?_)
  obtain ⟨hr, hk32, hout, hC1, hF1⟩ := hw
  subst hr
  have hR1 := hR.kept hF1
  refine WM.widen (k' := k + 4) (n' := n + 24) (by omega) (by omega) ?_
  refine r_istore B (lv' := [(6, .int (iI ((oDec g.1 (sc xs (i + 1)) (sc xs (i + 2)) (sc xs (i + 3))).1))), (5, .int (iI i)), (4, .ref (G.1 + 344)), (3, .ref (G.1 + 343)), (2, .ref (G.1 + 335)), (1, .ref G.1), (0, .ref bS)]) dL_law_1853 (by decide) rfl ?_
  refine r_aload_n B 4 dL_law_1855 rfl ?_
  refine r_aload_n B 6 dL_law_1856 rfl ?_
  refine r_iload B 1 dL_law_1857 rfl ?_
  refine r_iconst B dL_law_1859 ?_
  refine r_iadd B dL_law_1860 ?_
  refine r_sld B hX hbl hbA dL_law_1861 (by omega) (by omega) hL ?_
  refine r_aload_n B 6 dL_law_1862 rfl ?_
  refine r_iload B 1 dL_law_1863 rfl ?_
  refine r_iconst B dL_law_1865 ?_
  refine r_iadd B dL_law_1866 ?_
  refine r_sld B hX hbl hbA dL_law_1867 (by omega) (by omega) hL ?_
  refine r_aload_n B 6 dL_law_1868 rfl ?_
  refine r_iload B 1 dL_law_1869 rfl ?_
  refine r_iconst B dL_law_1871 ?_
  refine r_iadd B dL_law_1872 ?_
  refine r_sld B hX hbl hbA dL_law_1873 (by omega) (by omega) hL ?_
  refine r_Vi3 B (c_X6_decide l G M1 (G.1 + 335) hMd g.1 hR1.1.1 hk.1.1 (sc xs (i + 1)) (sc xs (i + 2)) (sc xs (i + 3)) (sc_in _ _) (sc_in _ _) (sc_in _ _)) ⟨rfl, rfl⟩ ok_X6_decide vi_X6_decide q_1232 hMd.1 rfl (fun _ => rfl) ⟨Nat.le_of_ble_eq_true rfl, Nat.le_of_ble_eq_true rfl, Nat.le_of_ble_eq_true rfl⟩ ⟨by show _ ≤ 601024; omega, by show _ ≤ 7293034; omega⟩ dL_law_1874 (fun r M2 h2 => ?_)
  have h3 := Rp.B hR1 h2
  obtain ⟨hr2, h6, hR2, hF2⟩ := h3
  subst hr2
  have hk2 : OkI g len b := hk
  have hC2 := hC1.kept hk2.1 hF2
  have hout2 : (oDec g.1 (sc xs (i + 1)) (sc xs (i + 2)) (sc xs (i + 3))).1 = 0 → gL M2 (G.1 + 343) 0 = (xI (oDec g.1 (sc xs (i + 1)) (sc xs (i + 2)) (sc xs (i + 3))).2) := fun w => by rw [(hF2 (G.1 + 343) (by omega)).2.1]; exact hout w
  refine r_istore B (lv' := [(7, .int (iI ((oDec g.1 (sc xs (i + 1)) (sc xs (i + 2)) (sc xs (i + 3))).2))), (6, .int (iI ((oDec g.1 (sc xs (i + 1)) (sc xs (i + 2)) (sc xs (i + 3))).1))), (5, .int (iI i)), (4, .ref (G.1 + 344)), (3, .ref (G.1 + 343)), (2, .ref (G.1 + 335)), (1, .ref G.1), (0, .ref bS)]) dL_law_1877 (by decide) rfl ?_
  refine r_aload_n B 5 dL_law_1879 rfl ?_
  refine r_pVi0 B (c_X6_thrown l G M2 (G.1 + 335) hMd _ h6) ⟨rfl, rfl⟩ ok_X6_thrown vi_X6_thrown q_947 hMd.1 rfl (fun _ => rfl) ⟨Nat.le_of_ble_eq_true rfl, Nat.le_of_ble_eq_true rfl, Nat.le_of_ble_eq_true rfl⟩ ⟨by show _ ≤ 601024; omega, by show _ ≤ 7293034; omega⟩ dL_law_1880 ?_
  refine r_iload B 1 dL_law_1883 rfl ?_
  refine r_same B dL_law_1885 rfl ?_
  refine r_iload B 1 dL_law_1890 rfl ?_
  have hend : WM G X (k + 4) (n + 24) Q M2 1907 [(7, .int (iI ((oDec g.1 (sc xs (i + 1)) (sc xs (i + 2)) (sc xs (i + 3))).2))), (6, .int (iI ((oDec g.1 (sc xs (i + 1)) (sc xs (i + 2)) (sc xs (i + 3))).1))), (5, .int (iI i)), (4, .ref (G.1 + 344)), (3, .ref (G.1 + 343)), (2, .ref (G.1 + 335)), (1, .ref G.1), (0, .ref bS)] [] := by
    refine r_goto B dL_law_1907 rfl ?_
    refine WM.pick [2, 3, 4, 5, 6, 7] rfl ?_
    exact kend M2 _ _ _ hC2 hR2 hk2
  refine r_if_ne B dL_law_1892 rfl hk32 (fun _ => hend) (fun hz => ?_)
  refine r_aload_n B 4 dL_law_1895 rfl ?_
  refine r_iconst B dL_law_1896 ?_
  refine r_laload B dL_law_1897 hO (by omega) (by decide) ?_
  refine r_vl (y := (xI (oDec g.1 (sc xs (i + 1)) (sc xs (i + 2)) (sc xs (i + 3))).2)) (hout2 hz) ?_
  refine r_iload B 0 dL_law_1898 rfl ?_
  refine r_i2lw B dL_law_1900 ?_
  exact r_lsame B dL_law_1901 dL_law_1902 rfl hend
set_option maxRecDepth 100000 in
set_option maxHeartbeats 4000000 in
theorem law_mesh (l : Launch) (hst : l.stackTraces = false) (G : Gs) (X : Cx) (B : Bx l G X cL_law 9 RL room_1 ret) {Q : State → Prop} {bS L : Nat} {xs : Nat → Int32} (hX : va_X bS L xs X.2.2.2.2.1 X.2.2.2.2.1.heap) (hbl : bS < X.2.2.2.2.1.heap.size) (hbA : bS < G.1) (hG : IsGg G G.1) (hMd : IsMd G (G.1 + 335)) (hO : At G (G.1 + 343) 12 1) (hOD : At G (G.1 + 344) 13 1) (M : Mem) (g : Gst) (len : Int) (b : Int → Int) (hC : CI G M g len b) (hR : RI G M g len b) (hk : OkI g len b) (k n : Nat) (hkn : k + 4 ≤ 601024 ∧ n + 24 ≤ 7293034) (i : Int) (hi : 0 ≤ i) (hiL : i + 5 ≤ L) (hL : L ≤ 2560) (kend : ∀ (M' : Mem) (g' : Gst) (len' : Int) (b' : Int → Int), CI G M' g' len' b' → RI G M' g' len' b' → OkI g' len' b' → WM G X (k + 4) (n + 24) Q M' 2423 [(5, .int (iI i)), (4, .ref (G.1 + 344)), (3, .ref (G.1 + 343)), (2, .ref (G.1 + 335)), (1, .ref G.1), (0, .ref bS)] []) : WM G X k n Q M 1910 [(5, .int (iI i)), (4, .ref (G.1 + 344)), (3, .ref (G.1 + 343)), (2, .ref (G.1 + 335)), (1, .ref G.1), (0, .ref bS)] [] := by
  refine r_aload_n B 4 dL_law_1910 rfl ?_
  refine r_aload_n B 5 dL_law_1911 rfl ?_
  refine r_iload B 0 dL_law_1912 rfl ?_
  refine r_iconst B dL_law_1914 ?_
  refine r_iadd B dL_law_1915 ?_
  refine r_sld B hX hbl hbA dL_law_1916 (by omega) (by omega) hL ?_
  refine r_aload_n B 5 dL_law_1917 rfl ?_
  refine r_iload B 0 dL_law_1918 rfl ?_
  refine r_iconst B dL_law_1920 ?_
  refine r_iadd B dL_law_1921 ?_
  refine r_sld B hX hbl hbA dL_law_1922 (by omega) (by omega) hL ?_
  refine r_aload_n B 5 dL_law_1923 rfl ?_
  refine r_iload B 0 dL_law_1924 rfl ?_
  refine r_iconst B dL_law_1926 ?_
  refine r_iadd B dL_law_1927 ?_
  refine r_sld B hX hbl hbA dL_law_1928 (by omega) (by omega) hL ?_
  refine r_aload_n B 5 dL_law_1929 rfl ?_
  refine r_iload B 0 dL_law_1930 rfl ?_
  refine r_iconst B dL_law_1932 ?_
  refine r_iadd B dL_law_1933 ?_
  refine r_sld B hX hbl hbA dL_law_1934 (by omega) (by omega) hL ?_
  refine r_aload_n B 2 dL_law_1935 rfl ?_
  refine r_W B (As := [.ref G.1, .int (iI (sc xs (i + 1))), .int (iI (sc xs (i + 2))), .int (iI (sc xs (i + 3))), .int (iI (sc xs (i + 4))), .ref (G.1 + 343)]) (st := []) (w_mesh l hst G M g len b hG hO hC hk (sc xs (i + 1)) (sc xs (i + 2)) (sc xs (i + 3)) (sc xs (i + 4)) (sc_in _ _) (sc_in _ _) (sc_in _ _) (sc_in _ _)) ⟨rfl, rfl⟩ rfl ⟨by decide +kernel, by decide +kernel⟩ (z := 6) rfl (by decide +kernel) q_806 q_0 q_804 q_805 ⟨Nat.le_of_ble_eq_true rfl, Nat.le_of_ble_eq_true rfl, Nat.le_of_ble_eq_true rfl⟩ ⟨by show _ ≤ 601024; omega, by show _ ≤ 7293034; omega⟩ dL_law_1936 (fun kr M1 hw => ?_)
  obtain ⟨hr, hk32, hout, hC1, hF1⟩ := hw
  subst hr
  have hR1 := hR.kept hF1
  refine WM.widen (k' := k + 4) (n' := n + 24) (by omega) (by omega) ?_
  refine r_istore B (lv' := [(6, .int (iI ((oMesh g.1 (sc xs (i + 1)) (sc xs (i + 2)) (sc xs (i + 3)) (sc xs (i + 4))).1))), (5, .int (iI i)), (4, .ref (G.1 + 344)), (3, .ref (G.1 + 343)), (2, .ref (G.1 + 335)), (1, .ref G.1), (0, .ref bS)]) dL_law_1939 (by decide) rfl ?_
  refine r_aload_n B 4 dL_law_1941 rfl ?_
  refine r_aload_n B 6 dL_law_1942 rfl ?_
  refine r_iload B 1 dL_law_1943 rfl ?_
  refine r_iconst B dL_law_1945 ?_
  refine r_iadd B dL_law_1946 ?_
  refine r_sld B hX hbl hbA dL_law_1947 (by omega) (by omega) hL ?_
  refine r_aload_n B 6 dL_law_1948 rfl ?_
  refine r_iload B 1 dL_law_1949 rfl ?_
  refine r_iconst B dL_law_1951 ?_
  refine r_iadd B dL_law_1952 ?_
  refine r_sld B hX hbl hbA dL_law_1953 (by omega) (by omega) hL ?_
  refine r_aload_n B 6 dL_law_1954 rfl ?_
  refine r_iload B 1 dL_law_1955 rfl ?_
  refine r_iconst B dL_law_1957 ?_
  refine r_iadd B dL_law_1958 ?_
  refine r_sld B hX hbl hbA dL_law_1959 (by omega) (by omega) hL ?_
  refine r_aload_n B 6 dL_law_1960 rfl ?_
  refine r_iload B 1 dL_law_1961 rfl ?_
  refine r_iconst B dL_law_1963 ?_
  refine r_iadd B dL_law_1964 ?_
  refine r_sld B hX hbl hbA dL_law_1965 (by omega) (by omega) hL ?_
  refine r_Vi4 B (c_X6_mesh l G M1 (G.1 + 335) hMd g.1 hR1.1.1 hk.1.1 (sc xs (i + 1)) (sc xs (i + 2)) (sc xs (i + 3)) (sc xs (i + 4)) (sc_in _ _) (sc_in _ _) (sc_in _ _) (sc_in _ _)) ⟨rfl, rfl⟩ ok_X6_mesh vi_X6_mesh q_1237 hMd.1 rfl (fun _ => rfl) ⟨Nat.le_of_ble_eq_true rfl, Nat.le_of_ble_eq_true rfl, Nat.le_of_ble_eq_true rfl⟩ ⟨by show _ ≤ 601024; omega, by show _ ≤ 7293034; omega⟩ dL_law_1966 (fun r M2 h2 => ?_)
  have h3 := Rp.C hR1 h2
  obtain ⟨hr2, h6, hR2, hF2⟩ := h3
  subst hr2
  have hk2 : OkI g len b := hk
  have hC2 := hC1.kept hk2.1 hF2
  have hout2 : (oMesh g.1 (sc xs (i + 1)) (sc xs (i + 2)) (sc xs (i + 3)) (sc xs (i + 4))).1 = 0 → gL M2 (G.1 + 343) 0 = (xI (oMesh g.1 (sc xs (i + 1)) (sc xs (i + 2)) (sc xs (i + 3)) (sc xs (i + 4))).2) := fun w => by rw [(hF2 (G.1 + 343) (by omega)).2.1]; exact hout w
  refine r_istore B (lv' := [(7, .int (iI ((oMesh g.1 (sc xs (i + 1)) (sc xs (i + 2)) (sc xs (i + 3)) (sc xs (i + 4))).2))), (6, .int (iI ((oMesh g.1 (sc xs (i + 1)) (sc xs (i + 2)) (sc xs (i + 3)) (sc xs (i + 4))).1))), (5, .int (iI i)), (4, .ref (G.1 + 344)), (3, .ref (G.1 + 343)), (2, .ref (G.1 + 335)), (1, .ref G.1), (0, .ref bS)]) dL_law_1969 (by decide) rfl ?_
  refine r_aload_n B 5 dL_law_1971 rfl ?_
  refine r_pVi0 B (c_X6_thrown l G M2 (G.1 + 335) hMd _ h6) ⟨rfl, rfl⟩ ok_X6_thrown vi_X6_thrown q_947 hMd.1 rfl (fun _ => rfl) ⟨Nat.le_of_ble_eq_true rfl, Nat.le_of_ble_eq_true rfl, Nat.le_of_ble_eq_true rfl⟩ ⟨by show _ ≤ 601024; omega, by show _ ≤ 7293034; omega⟩ dL_law_1972 ?_
  refine r_iload B 1 dL_law_1975 rfl ?_
  refine r_same B dL_law_1977 rfl ?_
  refine r_iload B 1 dL_law_1982 rfl ?_
  have hend : WM G X (k + 4) (n + 24) Q M2 1999 [(7, .int (iI ((oMesh g.1 (sc xs (i + 1)) (sc xs (i + 2)) (sc xs (i + 3)) (sc xs (i + 4))).2))), (6, .int (iI ((oMesh g.1 (sc xs (i + 1)) (sc xs (i + 2)) (sc xs (i + 3)) (sc xs (i + 4))).1))), (5, .int (iI i)), (4, .ref (G.1 + 344)), (3, .ref (G.1 + 343)), (2, .ref (G.1 + 335)), (1, .ref G.1), (0, .ref bS)] [] := by
    refine r_goto B dL_law_1999 rfl ?_
    refine WM.pick [2, 3, 4, 5, 6, 7] rfl ?_
    exact kend M2 _ _ _ hC2 hR2 hk2
  refine r_if_ne B dL_law_1984 rfl hk32 (fun _ => hend) (fun hz => ?_)
  refine r_aload_n B 4 dL_law_1987 rfl ?_
  refine r_iconst B dL_law_1988 ?_
  refine r_laload B dL_law_1989 hO (by omega) (by decide) ?_
  refine r_vl (y := (xI (oMesh g.1 (sc xs (i + 1)) (sc xs (i + 2)) (sc xs (i + 3)) (sc xs (i + 4))).2)) (hout2 hz) ?_
  refine r_iload B 0 dL_law_1990 rfl ?_
  refine r_i2lw B dL_law_1992 ?_
  exact r_lsame B dL_law_1993 dL_law_1994 rfl hend
set_option maxRecDepth 100000 in
set_option maxHeartbeats 4000000 in
theorem law_bestPhase (l : Launch) (hst : l.stackTraces = false) (G : Gs) (X : Cx) (B : Bx l G X cL_law 9 RL room_1 ret) {Q : State → Prop} {bS L : Nat} {xs : Nat → Int32} (hX : va_X bS L xs X.2.2.2.2.1 X.2.2.2.2.1.heap) (hbl : bS < X.2.2.2.2.1.heap.size) (hbA : bS < G.1) (hG : IsGg G G.1) (hMd : IsMd G (G.1 + 335)) (hO : At G (G.1 + 343) 12 1) (hOD : At G (G.1 + 344) 13 1) (M : Mem) (g : Gst) (len : Int) (b : Int → Int) (hC : CI G M g len b) (hR : RI G M g len b) (hk : OkI g len b) (k n : Nat) (hkn : k + 4 ≤ 601024 ∧ n + 24 ≤ 7293034) (i : Int) (hi : 0 ≤ i) (hiL : i + 5 ≤ L) (hL : L ≤ 2560) (kend : ∀ (M' : Mem) (g' : Gst) (len' : Int) (b' : Int → Int), CI G M' g' len' b' → RI G M' g' len' b' → OkI g' len' b' → WM G X (k + 4) (n + 24) Q M' 2423 [(5, .int (iI i)), (4, .ref (G.1 + 344)), (3, .ref (G.1 + 343)), (2, .ref (G.1 + 335)), (1, .ref G.1), (0, .ref bS)] []) : WM G X k n Q M 2002 [(5, .int (iI i)), (4, .ref (G.1 + 344)), (3, .ref (G.1 + 343)), (2, .ref (G.1 + 335)), (1, .ref G.1), (0, .ref bS)] [] := by
  refine r_aload_n B 4 dL_law_2002 rfl ?_
  refine r_aload_n B 5 dL_law_2003 rfl ?_
  refine r_iload B 0 dL_law_2004 rfl ?_
  refine r_iconst B dL_law_2006 ?_
  refine r_iadd B dL_law_2007 ?_
  refine r_sld B hX hbl hbA dL_law_2008 (by omega) (by omega) hL ?_
  refine r_aload_n B 5 dL_law_2009 rfl ?_
  refine r_iload B 0 dL_law_2010 rfl ?_
  refine r_iconst B dL_law_2012 ?_
  refine r_iadd B dL_law_2013 ?_
  refine r_sld B hX hbl hbA dL_law_2014 (by omega) (by omega) hL ?_
  refine r_aload_n B 5 dL_law_2015 rfl ?_
  refine r_iload B 0 dL_law_2016 rfl ?_
  refine r_iconst B dL_law_2018 ?_
  refine r_iadd B dL_law_2019 ?_
  refine r_sld B hX hbl hbA dL_law_2020 (by omega) (by omega) hL ?_
  refine r_aload_n B 2 dL_law_2021 rfl ?_
  refine r_W B (As := [.ref G.1, .int (iI (sc xs (i + 1))), .int (iI (sc xs (i + 2))), .int (iI (sc xs (i + 3))), .ref (G.1 + 343)]) (st := []) (w_bestPhase l hst G M g len b hG hO hC hk (sc xs (i + 1)) (sc xs (i + 2)) (sc xs (i + 3)) (sc_in _ _) (sc_in _ _) (sc_in _ _)) ⟨rfl, rfl⟩ rfl ⟨by decide +kernel, by decide +kernel⟩ (z := 5) rfl (by decide +kernel) q_830 q_0 q_828 q_829 ⟨Nat.le_of_ble_eq_true rfl, Nat.le_of_ble_eq_true rfl, Nat.le_of_ble_eq_true rfl⟩ ⟨by show _ ≤ 601024; omega, by show _ ≤ 7293034; omega⟩ dL_law_2022 (fun kr M1 hw => ?_)
  obtain ⟨hr, hk32, hout, hC1, hF1⟩ := hw
  subst hr
  have hR1 := hR.kept hF1
  refine WM.widen (k' := k + 4) (n' := n + 24) (by omega) (by omega) ?_
  refine r_istore B (lv' := [(6, .int (iI ((oBph g.1 (sc xs (i + 1)) (sc xs (i + 2)) (sc xs (i + 3))).1))), (5, .int (iI i)), (4, .ref (G.1 + 344)), (3, .ref (G.1 + 343)), (2, .ref (G.1 + 335)), (1, .ref G.1), (0, .ref bS)]) dL_law_2025 (by decide) rfl ?_
  refine r_aload_n B 4 dL_law_2027 rfl ?_
  refine r_aload_n B 6 dL_law_2028 rfl ?_
  refine r_iload B 1 dL_law_2029 rfl ?_
  refine r_iconst B dL_law_2031 ?_
  refine r_iadd B dL_law_2032 ?_
  refine r_sld B hX hbl hbA dL_law_2033 (by omega) (by omega) hL ?_
  refine r_aload_n B 6 dL_law_2034 rfl ?_
  refine r_iload B 1 dL_law_2035 rfl ?_
  refine r_iconst B dL_law_2037 ?_
  refine r_iadd B dL_law_2038 ?_
  refine r_sld B hX hbl hbA dL_law_2039 (by omega) (by omega) hL ?_
  refine r_aload_n B 6 dL_law_2040 rfl ?_
  refine r_iload B 1 dL_law_2041 rfl ?_
  refine r_iconst B dL_law_2043 ?_
  refine r_iadd B dL_law_2044 ?_
  refine r_sld B hX hbl hbA dL_law_2045 (by omega) (by omega) hL ?_
  refine r_Vi3 B (c_X6_bestPhase l G M1 (G.1 + 335) hMd g.1 hR1.1.1 hk.1.1 (sc xs (i + 1)) (sc xs (i + 2)) (sc xs (i + 3)) (sc_in _ _) (sc_in _ _) (sc_in _ _)) ⟨rfl, rfl⟩ ok_X6_bestPhase vi_X6_bestPhase q_1252 hMd.1 rfl (fun _ => rfl) ⟨Nat.le_of_ble_eq_true rfl, Nat.le_of_ble_eq_true rfl, Nat.le_of_ble_eq_true rfl⟩ ⟨by show _ ≤ 601024; omega, by show _ ≤ 7293034; omega⟩ dL_law_2046 (fun r M2 h2 => ?_)
  have h3 := Rp.C hR1 h2
  obtain ⟨hr2, h6, hR2, hF2⟩ := h3
  subst hr2
  have hk2 : OkI g len b := hk
  have hC2 := hC1.kept hk2.1 hF2
  have hout2 : (oBph g.1 (sc xs (i + 1)) (sc xs (i + 2)) (sc xs (i + 3))).1 = 0 → gL M2 (G.1 + 343) 0 = (xI (oBph g.1 (sc xs (i + 1)) (sc xs (i + 2)) (sc xs (i + 3))).2) := fun w => by rw [(hF2 (G.1 + 343) (by omega)).2.1]; exact hout w
  refine r_istore B (lv' := [(7, .int (iI ((oBph g.1 (sc xs (i + 1)) (sc xs (i + 2)) (sc xs (i + 3))).2))), (6, .int (iI ((oBph g.1 (sc xs (i + 1)) (sc xs (i + 2)) (sc xs (i + 3))).1))), (5, .int (iI i)), (4, .ref (G.1 + 344)), (3, .ref (G.1 + 343)), (2, .ref (G.1 + 335)), (1, .ref G.1), (0, .ref bS)]) dL_law_2049 (by decide) rfl ?_
  refine r_aload_n B 5 dL_law_2051 rfl ?_
  refine r_pVi0 B (c_X6_thrown l G M2 (G.1 + 335) hMd _ h6) ⟨rfl, rfl⟩ ok_X6_thrown vi_X6_thrown q_947 hMd.1 rfl (fun _ => rfl) ⟨Nat.le_of_ble_eq_true rfl, Nat.le_of_ble_eq_true rfl, Nat.le_of_ble_eq_true rfl⟩ ⟨by show _ ≤ 601024; omega, by show _ ≤ 7293034; omega⟩ dL_law_2052 ?_
  refine r_iload B 1 dL_law_2055 rfl ?_
  refine r_same B dL_law_2057 rfl ?_
  refine r_iload B 1 dL_law_2062 rfl ?_
  have hend : WM G X (k + 4) (n + 24) Q M2 2079 [(7, .int (iI ((oBph g.1 (sc xs (i + 1)) (sc xs (i + 2)) (sc xs (i + 3))).2))), (6, .int (iI ((oBph g.1 (sc xs (i + 1)) (sc xs (i + 2)) (sc xs (i + 3))).1))), (5, .int (iI i)), (4, .ref (G.1 + 344)), (3, .ref (G.1 + 343)), (2, .ref (G.1 + 335)), (1, .ref G.1), (0, .ref bS)] [] := by
    refine r_goto B dL_law_2079 rfl ?_
    refine WM.pick [2, 3, 4, 5, 6, 7] rfl ?_
    exact kend M2 _ _ _ hC2 hR2 hk2
  refine r_if_ne B dL_law_2064 rfl hk32 (fun _ => hend) (fun hz => ?_)
  refine r_aload_n B 4 dL_law_2067 rfl ?_
  refine r_iconst B dL_law_2068 ?_
  refine r_laload B dL_law_2069 hO (by omega) (by decide) ?_
  refine r_vl (y := (xI (oBph g.1 (sc xs (i + 1)) (sc xs (i + 2)) (sc xs (i + 3))).2)) (hout2 hz) ?_
  refine r_iload B 0 dL_law_2070 rfl ?_
  refine r_i2lw B dL_law_2072 ?_
  exact r_lsame B dL_law_2073 dL_law_2074 rfl hend
set_option maxRecDepth 100000 in
set_option maxHeartbeats 4000000 in
theorem law_partner (l : Launch) (hst : l.stackTraces = false) (G : Gs) (X : Cx) (B : Bx l G X cL_law 9 RL room_1 ret) {Q : State → Prop} {bS L : Nat} {xs : Nat → Int32} (hX : va_X bS L xs X.2.2.2.2.1 X.2.2.2.2.1.heap) (hbl : bS < X.2.2.2.2.1.heap.size) (hbA : bS < G.1) (hG : IsGg G G.1) (hMd : IsMd G (G.1 + 335)) (hO : At G (G.1 + 343) 12 1) (hOD : At G (G.1 + 344) 13 1) (M : Mem) (g : Gst) (len : Int) (b : Int → Int) (hC : CI G M g len b) (hR : RI G M g len b) (hk : OkI g len b) (k n : Nat) (hkn : k + 4 ≤ 601024 ∧ n + 24 ≤ 7293034) (i : Int) (hi : 0 ≤ i) (hiL : i + 5 ≤ L) (hL : L ≤ 2560) (kend : ∀ (M' : Mem) (g' : Gst) (len' : Int) (b' : Int → Int), CI G M' g' len' b' → RI G M' g' len' b' → OkI g' len' b' → WM G X (k + 4) (n + 24) Q M' 2423 [(5, .int (iI i)), (4, .ref (G.1 + 344)), (3, .ref (G.1 + 343)), (2, .ref (G.1 + 335)), (1, .ref G.1), (0, .ref bS)] []) : WM G X k n Q M 2082 [(5, .int (iI i)), (4, .ref (G.1 + 344)), (3, .ref (G.1 + 343)), (2, .ref (G.1 + 335)), (1, .ref G.1), (0, .ref bS)] [] := by
  refine r_aload_n B 4 dL_law_2082 rfl ?_
  refine r_aload_n B 5 dL_law_2083 rfl ?_
  refine r_iload B 0 dL_law_2084 rfl ?_
  refine r_iconst B dL_law_2086 ?_
  refine r_iadd B dL_law_2087 ?_
  refine r_sld B hX hbl hbA dL_law_2088 (by omega) (by omega) hL ?_
  refine r_aload_n B 5 dL_law_2089 rfl ?_
  refine r_iload B 0 dL_law_2090 rfl ?_
  refine r_iconst B dL_law_2092 ?_
  refine r_iadd B dL_law_2093 ?_
  refine r_sld B hX hbl hbA dL_law_2094 (by omega) (by omega) hL ?_
  refine r_aload_n B 2 dL_law_2095 rfl ?_
  refine r_W B (As := [.ref G.1, .int (iI (sc xs (i + 1))), .int (iI (sc xs (i + 2))), .ref (G.1 + 343)]) (st := []) (w_partner l hst G M g len b hG hO hC hk (sc xs (i + 1)) (sc xs (i + 2)) (sc_in _ _) (sc_in _ _)) ⟨rfl, rfl⟩ rfl ⟨by decide +kernel, by decide +kernel⟩ (z := 4) rfl (by decide +kernel) q_842 q_0 q_840 q_841 ⟨Nat.le_of_ble_eq_true rfl, Nat.le_of_ble_eq_true rfl, Nat.le_of_ble_eq_true rfl⟩ ⟨by show _ ≤ 601024; omega, by show _ ≤ 7293034; omega⟩ dL_law_2096 (fun kr M1 hw => ?_)
  obtain ⟨hr, hk32, hout, hC1, hF1⟩ := hw
  subst hr
  have hR1 := hR.kept hF1
  refine WM.widen (k' := k + 4) (n' := n + 24) (by omega) (by omega) ?_
  refine r_istore B (lv' := [(6, .int (iI ((oPart g.1 (sc xs (i + 1)) (sc xs (i + 2))).1))), (5, .int (iI i)), (4, .ref (G.1 + 344)), (3, .ref (G.1 + 343)), (2, .ref (G.1 + 335)), (1, .ref G.1), (0, .ref bS)]) dL_law_2099 (by decide) rfl ?_
  refine r_aload_n B 4 dL_law_2101 rfl ?_
  refine r_aload_n B 6 dL_law_2102 rfl ?_
  refine r_iload B 1 dL_law_2103 rfl ?_
  refine r_iconst B dL_law_2105 ?_
  refine r_iadd B dL_law_2106 ?_
  refine r_sld B hX hbl hbA dL_law_2107 (by omega) (by omega) hL ?_
  refine r_aload_n B 6 dL_law_2108 rfl ?_
  refine r_iload B 1 dL_law_2109 rfl ?_
  refine r_iconst B dL_law_2111 ?_
  refine r_iadd B dL_law_2112 ?_
  refine r_sld B hX hbl hbA dL_law_2113 (by omega) (by omega) hL ?_
  refine r_Vi2 B (c_X6_partner l G M1 (G.1 + 335) hMd g.1 hR1.1.1 hk.1.1 (sc xs (i + 1)) (sc xs (i + 2)) (sc_in _ _) (sc_in _ _)) ⟨rfl, rfl⟩ ok_X6_partner vi_X6_partner q_1260 hMd.1 rfl (fun _ => rfl) ⟨Nat.le_of_ble_eq_true rfl, Nat.le_of_ble_eq_true rfl, Nat.le_of_ble_eq_true rfl⟩ ⟨by show _ ≤ 601024; omega, by show _ ≤ 7293034; omega⟩ dL_law_2114 (fun r M2 h2 => ?_)
  have h3 := Rp.C hR1 h2
  obtain ⟨hr2, h6, hR2, hF2⟩ := h3
  subst hr2
  have hk2 : OkI g len b := hk
  have hC2 := hC1.kept hk2.1 hF2
  have hout2 : (oPart g.1 (sc xs (i + 1)) (sc xs (i + 2))).1 = 0 → gL M2 (G.1 + 343) 0 = (xI (oPart g.1 (sc xs (i + 1)) (sc xs (i + 2))).2) := fun w => by rw [(hF2 (G.1 + 343) (by omega)).2.1]; exact hout w
  refine r_istore B (lv' := [(7, .int (iI ((oPart g.1 (sc xs (i + 1)) (sc xs (i + 2))).2))), (6, .int (iI ((oPart g.1 (sc xs (i + 1)) (sc xs (i + 2))).1))), (5, .int (iI i)), (4, .ref (G.1 + 344)), (3, .ref (G.1 + 343)), (2, .ref (G.1 + 335)), (1, .ref G.1), (0, .ref bS)]) dL_law_2117 (by decide) rfl ?_
  refine r_aload_n B 5 dL_law_2119 rfl ?_
  refine r_pVi0 B (c_X6_thrown l G M2 (G.1 + 335) hMd _ h6) ⟨rfl, rfl⟩ ok_X6_thrown vi_X6_thrown q_947 hMd.1 rfl (fun _ => rfl) ⟨Nat.le_of_ble_eq_true rfl, Nat.le_of_ble_eq_true rfl, Nat.le_of_ble_eq_true rfl⟩ ⟨by show _ ≤ 601024; omega, by show _ ≤ 7293034; omega⟩ dL_law_2120 ?_
  refine r_iload B 1 dL_law_2123 rfl ?_
  refine r_same B dL_law_2125 rfl ?_
  refine r_iload B 1 dL_law_2130 rfl ?_
  have hend : WM G X (k + 4) (n + 24) Q M2 2147 [(7, .int (iI ((oPart g.1 (sc xs (i + 1)) (sc xs (i + 2))).2))), (6, .int (iI ((oPart g.1 (sc xs (i + 1)) (sc xs (i + 2))).1))), (5, .int (iI i)), (4, .ref (G.1 + 344)), (3, .ref (G.1 + 343)), (2, .ref (G.1 + 335)), (1, .ref G.1), (0, .ref bS)] [] := by
    refine r_goto B dL_law_2147 rfl ?_
    refine WM.pick [2, 3, 4, 5, 6, 7] rfl ?_
    exact kend M2 _ _ _ hC2 hR2 hk2
  refine r_if_ne B dL_law_2132 rfl hk32 (fun _ => hend) (fun hz => ?_)
  refine r_aload_n B 4 dL_law_2135 rfl ?_
  refine r_iconst B dL_law_2136 ?_
  refine r_laload B dL_law_2137 hO (by omega) (by decide) ?_
  refine r_vl (y := (xI (oPart g.1 (sc xs (i + 1)) (sc xs (i + 2))).2)) (hout2 hz) ?_
  refine r_iload B 0 dL_law_2138 rfl ?_
  refine r_i2lw B dL_law_2140 ?_
  exact r_lsame B dL_law_2141 dL_law_2142 rfl hend
set_option maxRecDepth 100000 in
set_option maxHeartbeats 4000000 in
theorem law_mean (l : Launch) (hst : l.stackTraces = false) (G : Gs) (X : Cx) (B : Bx l G X cL_law 9 RL room_1 ret) {Q : State → Prop} {bS L : Nat} {xs : Nat → Int32} (hX : va_X bS L xs X.2.2.2.2.1 X.2.2.2.2.1.heap) (hbl : bS < X.2.2.2.2.1.heap.size) (hbA : bS < G.1) (hG : IsGg G G.1) (hMd : IsMd G (G.1 + 335)) (hO : At G (G.1 + 343) 12 1) (hOD : At G (G.1 + 344) 13 1) (M : Mem) (g : Gst) (len : Int) (b : Int → Int) (hC : CI G M g len b) (hR : RI G M g len b) (hk : OkI g len b) (k n : Nat) (hkn : k + 4 ≤ 601024 ∧ n + 24 ≤ 7293034) (i : Int) (hi : 0 ≤ i) (hiL : i + 5 ≤ L) (hL : L ≤ 2560) (kend : ∀ (M' : Mem) (g' : Gst) (len' : Int) (b' : Int → Int), CI G M' g' len' b' → RI G M' g' len' b' → OkI g' len' b' → WM G X (k + 4) (n + 24) Q M' 2423 [(5, .int (iI i)), (4, .ref (G.1 + 344)), (3, .ref (G.1 + 343)), (2, .ref (G.1 + 335)), (1, .ref G.1), (0, .ref bS)] []) : WM G X k n Q M 2150 [(5, .int (iI i)), (4, .ref (G.1 + 344)), (3, .ref (G.1 + 343)), (2, .ref (G.1 + 335)), (1, .ref G.1), (0, .ref bS)] [] := by
  refine r_aload_n B 4 dL_law_2150 rfl ?_
  refine r_aload_n B 5 dL_law_2151 rfl ?_
  refine r_iload B 0 dL_law_2152 rfl ?_
  refine r_iconst B dL_law_2154 ?_
  refine r_iadd B dL_law_2155 ?_
  refine r_sld B hX hbl hbA dL_law_2156 (by omega) (by omega) hL ?_
  refine r_aload B 1 dL_law_2157 rfl ?_
  refine r_W B (As := [.ref G.1, .int (iI (sc xs (i + 1))), .ref (G.1 + 344)]) (st := []) (w_mean l hst G M g len b hG hOD hC hk (sc xs (i + 1)) (sc_in _ _)) ⟨rfl, rfl⟩ rfl ⟨by decide +kernel, by decide +kernel⟩ (z := 3) rfl (by decide +kernel) q_849 q_0 q_847 q_848 ⟨Nat.le_of_ble_eq_true rfl, Nat.le_of_ble_eq_true rfl, Nat.le_of_ble_eq_true rfl⟩ ⟨by show _ ≤ 601024; omega, by show _ ≤ 7293034; omega⟩ dL_law_2159 (fun kr M1 hw => ?_)
  obtain ⟨hr, hk32, hout, hC1, hF1⟩ := hw
  subst hr
  have hR1 := hR.kept hF1
  refine WM.widen (k' := k + 4) (n' := n + 24) (by omega) (by omega) ?_
  refine r_istore B (lv' := [(6, .int (iI ((oMean g.1 (sc xs (i + 1))).1))), (5, .int (iI i)), (4, .ref (G.1 + 344)), (3, .ref (G.1 + 343)), (2, .ref (G.1 + 335)), (1, .ref G.1), (0, .ref bS)]) dL_law_2162 (by decide) rfl ?_
  refine r_aload_n B 4 dL_law_2164 rfl ?_
  refine r_aload_n B 6 dL_law_2165 rfl ?_
  refine r_iload B 1 dL_law_2166 rfl ?_
  refine r_iconst B dL_law_2168 ?_
  refine r_iadd B dL_law_2169 ?_
  refine r_sld B hX hbl hbA dL_law_2170 (by omega) (by omega) hL ?_
  refine r_Vd1 B (c_X6_mean l G M1 (G.1 + 335) hMd g.1 hR1.1.1 hk.1.1 (sc xs (i + 1)) (sc_in _ _)) ⟨rfl, rfl⟩ ok_X6_mean vi_X6_mean q_1264 hMd.1 rfl (fun _ => rfl) ⟨Nat.le_of_ble_eq_true rfl, Nat.le_of_ble_eq_true rfl, Nat.le_of_ble_eq_true rfl⟩ ⟨by show _ ≤ 601024; omega, by show _ ≤ 7293034; omega⟩ dL_law_2171 (fun r M2 h2 => ?_)
  have h3 := Rp.B (v0 := 0) (r := 0) hR1 ⟨rfl, h2.2⟩
  obtain ⟨-, h6, hR2, hF2⟩ := h3
  have hk2 : OkI g len b := hk
  have hC2 := hC1.kept hk2.1 hF2
  have hout2 : (oMean g.1 (sc xs (i + 1))).1 = 0 → gD M2 (G.1 + 344) 0 = (meanD g.1 (sc xs (i + 1))) := fun w => by rw [(hF2 (G.1 + 344) (by omega)).2.2.1]; exact hout w
  refine r_dstore B (lv' := [(7, .double r), (6, .int (iI ((oMean g.1 (sc xs (i + 1))).1))), (5, .int (iI i)), (4, .ref (G.1 + 344)), (3, .ref (G.1 + 343)), (2, .ref (G.1 + 335)), (1, .ref G.1), (0, .ref bS)]) dL_law_2174 (by decide) rfl ?_
  refine r_aload_n B 5 dL_law_2176 rfl ?_
  refine r_pVi0 B (c_X6_thrown l G M2 (G.1 + 335) hMd _ h6) ⟨rfl, rfl⟩ ok_X6_thrown vi_X6_thrown q_947 hMd.1 rfl (fun _ => rfl) ⟨Nat.le_of_ble_eq_true rfl, Nat.le_of_ble_eq_true rfl, Nat.le_of_ble_eq_true rfl⟩ ⟨by show _ ≤ 601024; omega, by show _ ≤ 7293034; omega⟩ dL_law_2177 ?_
  refine r_iload B 1 dL_law_2180 rfl ?_
  refine r_same B dL_law_2182 rfl ?_
  refine r_iload B 1 dL_law_2187 rfl ?_
  have hend : WM G X (k + 4) (n + 24) Q M2 2224 [(7, .double r), (6, .int (iI ((oMean g.1 (sc xs (i + 1))).1))), (5, .int (iI i)), (4, .ref (G.1 + 344)), (3, .ref (G.1 + 343)), (2, .ref (G.1 + 335)), (1, .ref G.1), (0, .ref bS)] [] := by
    refine r_goto B dL_law_2224 rfl ?_
    refine WM.pick [2, 3, 4, 5, 6, 7] rfl ?_
    exact kend M2 _ _ _ hC2 hR2 hk2
  refine r_if_ne B dL_law_2189 rfl hk32 (fun _ => hend) (fun hz => ?_)
  have hrv := h2.1 hz
  refine r_aload B 3 dL_law_2192 rfl ?_
  refine r_iconst B dL_law_2194 ?_
  refine r_daload B dL_law_2195 hOD (by omega) (by decide) ?_
  refine r_vd (y := r) (by rw [hout2 hz, hrv]) ?_
  refine r_dload B 0 dL_law_2196 rfl ?_
  obtain ⟨z, hz1, hz2⟩ := dcmp_same r
  refine r_dsame B dL_law_2198 hz2 ?_
  refine r_if_eq B dL_law_2199 rfl ⟨by omega, by omega⟩ (fun _ => hend) (fun hq => ?_)
  refine r_aload B 3 dL_law_2202 rfl ?_
  refine r_iconst B dL_law_2204 ?_
  refine r_daload B dL_law_2205 hOD (by omega) (by decide) ?_
  refine r_vd (y := r) (by rw [hout2 hz, hrv]) ?_
  refine r_aload B 3 dL_law_2206 rfl ?_
  refine r_iconst B dL_law_2208 ?_
  refine r_daload B dL_law_2209 hOD (by omega) (by decide) ?_
  refine r_vd (y := r) (by rw [hout2 hz, hrv]) ?_
  refine r_dsame B dL_law_2210 hz2 ?_
  refine r_if_eq B dL_law_2211 rfl ⟨by omega, by omega⟩ (fun hq2 => absurd hq2 hq) (fun _ => ?_)
  refine r_dload B 0 dL_law_2214 rfl ?_
  refine r_dload B 0 dL_law_2216 rfl ?_
  refine r_dsame B dL_law_2218 hz2 ?_
  exact r_if_ne B dL_law_2219 rfl ⟨by omega, by omega⟩ (fun _ => hend) (fun hq2 => absurd hq2 hq)
set_option maxRecDepth 100000 in
set_option maxHeartbeats 4000000 in
theorem law_ranked (l : Launch) (hst : l.stackTraces = false) (G : Gs) (X : Cx) (B : Bx l G X cL_law 9 RL room_1 ret) {Q : State → Prop} {bS L : Nat} {xs : Nat → Int32} (hX : va_X bS L xs X.2.2.2.2.1 X.2.2.2.2.1.heap) (hbl : bS < X.2.2.2.2.1.heap.size) (hbA : bS < G.1) (hG : IsGg G G.1) (hMd : IsMd G (G.1 + 335)) (hO : At G (G.1 + 343) 12 1) (hOD : At G (G.1 + 344) 13 1) (M : Mem) (g : Gst) (len : Int) (b : Int → Int) (hC : CI G M g len b) (hR : RI G M g len b) (hk : OkI g len b) (k n : Nat) (hkn : k + 4 ≤ 601024 ∧ n + 24 ≤ 7293034) (i : Int) (hi : 0 ≤ i) (hiL : i + 5 ≤ L) (hL : L ≤ 2560) (kend : ∀ (M' : Mem) (g' : Gst) (len' : Int) (b' : Int → Int), CI G M' g' len' b' → RI G M' g' len' b' → OkI g' len' b' → WM G X (k + 4) (n + 24) Q M' 2423 [(5, .int (iI i)), (4, .ref (G.1 + 344)), (3, .ref (G.1 + 343)), (2, .ref (G.1 + 335)), (1, .ref G.1), (0, .ref bS)] []) : WM G X k n Q M 2227 [(5, .int (iI i)), (4, .ref (G.1 + 344)), (3, .ref (G.1 + 343)), (2, .ref (G.1 + 335)), (1, .ref G.1), (0, .ref bS)] [] := by
  refine r_aload_n B 4 dL_law_2227 rfl ?_
  refine r_aload_n B 5 dL_law_2228 rfl ?_
  refine r_iload B 0 dL_law_2229 rfl ?_
  refine r_iconst B dL_law_2231 ?_
  refine r_iadd B dL_law_2232 ?_
  refine r_sld B hX hbl hbA dL_law_2233 (by omega) (by omega) hL ?_
  refine r_aload_n B 2 dL_law_2234 rfl ?_
  refine r_W B (As := [.ref G.1, .int (iI (sc xs (i + 1))), .ref (G.1 + 343)]) (st := []) (w_ranked l hst G M g len b hG hO hC hk (sc xs (i + 1)) (sc_in _ _)) ⟨rfl, rfl⟩ rfl ⟨by decide +kernel, by decide +kernel⟩ (z := 3) rfl (by decide +kernel) q_856 q_0 q_854 q_855 ⟨Nat.le_of_ble_eq_true rfl, Nat.le_of_ble_eq_true rfl, Nat.le_of_ble_eq_true rfl⟩ ⟨by show _ ≤ 601024; omega, by show _ ≤ 7293034; omega⟩ dL_law_2235 (fun kr M1 hw => ?_)
  obtain ⟨hr, hk32, hout, hC1, hF1⟩ := hw
  subst hr
  have hR1 := hR.kept hF1
  refine WM.widen (k' := k + 4) (n' := n + 24) (by omega) (by omega) ?_
  refine r_istore B (lv' := [(6, .int (iI ((oRank g.1 (sc xs (i + 1))).1))), (5, .int (iI i)), (4, .ref (G.1 + 344)), (3, .ref (G.1 + 343)), (2, .ref (G.1 + 335)), (1, .ref G.1), (0, .ref bS)]) dL_law_2238 (by decide) rfl ?_
  refine r_aload_n B 4 dL_law_2240 rfl ?_
  refine r_aload_n B 6 dL_law_2241 rfl ?_
  refine r_iload B 1 dL_law_2242 rfl ?_
  refine r_iconst B dL_law_2244 ?_
  refine r_iadd B dL_law_2245 ?_
  refine r_sld B hX hbl hbA dL_law_2246 (by omega) (by omega) hL ?_
  refine r_Vi1 B (c_X6_ranked l G M1 (G.1 + 335) hMd g.1 hR1.1.1 hk.1.1 (sc xs (i + 1)) (sc_in _ _)) ⟨rfl, rfl⟩ ok_X6_ranked vi_X6_ranked q_1268 hMd.1 rfl (fun _ => rfl) ⟨Nat.le_of_ble_eq_true rfl, Nat.le_of_ble_eq_true rfl, Nat.le_of_ble_eq_true rfl⟩ ⟨by show _ ≤ 601024; omega, by show _ ≤ 7293034; omega⟩ dL_law_2247 (fun r M2 h2 => ?_)
  have h3 := Rp.B hR1 h2
  obtain ⟨hr2, h6, hR2, hF2⟩ := h3
  subst hr2
  have hk2 : OkI g len b := hk
  have hC2 := hC1.kept hk2.1 hF2
  have hout2 : (oRank g.1 (sc xs (i + 1))).1 = 0 → gL M2 (G.1 + 343) 0 = (xI (oRank g.1 (sc xs (i + 1))).2) := fun w => by rw [(hF2 (G.1 + 343) (by omega)).2.1]; exact hout w
  refine r_istore B (lv' := [(7, .int (iI ((oRank g.1 (sc xs (i + 1))).2))), (6, .int (iI ((oRank g.1 (sc xs (i + 1))).1))), (5, .int (iI i)), (4, .ref (G.1 + 344)), (3, .ref (G.1 + 343)), (2, .ref (G.1 + 335)), (1, .ref G.1), (0, .ref bS)]) dL_law_2250 (by decide) rfl ?_
  refine r_aload_n B 5 dL_law_2252 rfl ?_
  refine r_pVi0 B (c_X6_thrown l G M2 (G.1 + 335) hMd _ h6) ⟨rfl, rfl⟩ ok_X6_thrown vi_X6_thrown q_947 hMd.1 rfl (fun _ => rfl) ⟨Nat.le_of_ble_eq_true rfl, Nat.le_of_ble_eq_true rfl, Nat.le_of_ble_eq_true rfl⟩ ⟨by show _ ≤ 601024; omega, by show _ ≤ 7293034; omega⟩ dL_law_2253 ?_
  refine r_iload B 1 dL_law_2256 rfl ?_
  refine r_same B dL_law_2258 rfl ?_
  refine r_iload B 1 dL_law_2263 rfl ?_
  have hend : WM G X (k + 4) (n + 24) Q M2 2280 [(7, .int (iI ((oRank g.1 (sc xs (i + 1))).2))), (6, .int (iI ((oRank g.1 (sc xs (i + 1))).1))), (5, .int (iI i)), (4, .ref (G.1 + 344)), (3, .ref (G.1 + 343)), (2, .ref (G.1 + 335)), (1, .ref G.1), (0, .ref bS)] [] := by
    refine r_goto B dL_law_2280 rfl ?_
    refine WM.pick [2, 3, 4, 5, 6, 7] rfl ?_
    exact kend M2 _ _ _ hC2 hR2 hk2
  refine r_if_ne B dL_law_2265 rfl hk32 (fun _ => hend) (fun hz => ?_)
  refine r_aload_n B 4 dL_law_2268 rfl ?_
  refine r_iconst B dL_law_2269 ?_
  refine r_laload B dL_law_2270 hO (by omega) (by decide) ?_
  refine r_vl (y := (xI (oRank g.1 (sc xs (i + 1))).2)) (hout2 hz) ?_
  refine r_iload B 0 dL_law_2271 rfl ?_
  refine r_i2lw B dL_law_2273 ?_
  exact r_lsame B dL_law_2274 dL_law_2275 rfl hend
set_option maxRecDepth 100000 in
set_option maxHeartbeats 4000000 in
theorem law_append (l : Launch) (hst : l.stackTraces = false) (G : Gs) (X : Cx) (B : Bx l G X cL_law 9 RL room_1 ret) {Q : State → Prop} {bS L : Nat} {xs : Nat → Int32} (hX : va_X bS L xs X.2.2.2.2.1 X.2.2.2.2.1.heap) (hbl : bS < X.2.2.2.2.1.heap.size) (hbA : bS < G.1) (hG : IsGg G G.1) (hMd : IsMd G (G.1 + 335)) (hO : At G (G.1 + 343) 12 1) (hOD : At G (G.1 + 344) 13 1) (M : Mem) (g : Gst) (len : Int) (b : Int → Int) (hC : CI G M g len b) (hR : RI G M g len b) (hk : OkI g len b) (k n : Nat) (hkn : k + 4 ≤ 601024 ∧ n + 24 ≤ 7293034) (i : Int) (hi : 0 ≤ i) (hiL : i + 5 ≤ L) (hL : L ≤ 2560) (kend : ∀ (M' : Mem) (g' : Gst) (len' : Int) (b' : Int → Int), CI G M' g' len' b' → RI G M' g' len' b' → OkI g' len' b' → WM G X (k + 4) (n + 24) Q M' 2423 [(5, .int (iI i)), (4, .ref (G.1 + 344)), (3, .ref (G.1 + 343)), (2, .ref (G.1 + 335)), (1, .ref G.1), (0, .ref bS)] []) : WM G X k n Q M 2283 [(5, .int (iI i)), (4, .ref (G.1 + 344)), (3, .ref (G.1 + 343)), (2, .ref (G.1 + 335)), (1, .ref G.1), (0, .ref bS)] [] := by
  refine r_aload_n B 4 dL_law_2283 rfl ?_
  refine r_aload_n B 5 dL_law_2284 rfl ?_
  refine r_iload B 0 dL_law_2285 rfl ?_
  refine r_iconst B dL_law_2287 ?_
  refine r_iadd B dL_law_2288 ?_
  refine r_sld B hX hbl hbA dL_law_2289 (by omega) (by omega) hL ?_
  refine r_aload_n B 2 dL_law_2290 rfl ?_
  refine r_W B (As := [.ref G.1, .int (iI (sc xs (i + 1))), .ref (G.1 + 343)]) (st := []) (w_append l hst G M g len b hG hO hC hk (sc xs (i + 1)) (sc_in _ _)) ⟨rfl, rfl⟩ rfl ⟨by decide +kernel, by decide +kernel⟩ (z := 3) rfl (by decide +kernel) q_872 q_0 q_870 q_871 ⟨Nat.le_of_ble_eq_true rfl, Nat.le_of_ble_eq_true rfl, Nat.le_of_ble_eq_true rfl⟩ ⟨by show _ ≤ 601024; omega, by show _ ≤ 7293034; omega⟩ dL_law_2291 (fun kr M1 hw => ?_)
  obtain ⟨hr, hk32, hout, hC1, hF1⟩ := hw
  subst hr
  have hR1 := hR.kept hF1
  refine WM.widen (k' := k + 4) (n' := n + 24) (by omega) (by omega) ?_
  refine r_istore B (lv' := [(6, .int (iI ((oApp len (sc xs (i + 1))).1))), (5, .int (iI i)), (4, .ref (G.1 + 344)), (3, .ref (G.1 + 343)), (2, .ref (G.1 + 335)), (1, .ref G.1), (0, .ref bS)]) dL_law_2294 (by decide) rfl ?_
  refine r_aload_n B 4 dL_law_2296 rfl ?_
  refine r_aload_n B 6 dL_law_2297 rfl ?_
  refine r_iload B 1 dL_law_2298 rfl ?_
  refine r_iconst B dL_law_2300 ?_
  refine r_iadd B dL_law_2301 ?_
  refine r_sld B hX hbl hbA dL_law_2302 (by omega) (by omega) hL ?_
  refine r_Vi1 B (c_X6_append l G M1 (G.1 + 335) hMd len b hR1.2.1 hR1.2.2 hk.2 (sc xs (i + 1)) (sc_in _ _)) ⟨rfl, rfl⟩ ok_X6_append vi_X6_append q_1276 hMd.1 rfl (fun _ => rfl) ⟨Nat.le_of_ble_eq_true rfl, Nat.le_of_ble_eq_true rfl, Nat.le_of_ble_eq_true rfl⟩ ⟨by show _ ≤ 601024; omega, by show _ ≤ 7293034; omega⟩ dL_law_2303 (fun r M2 h2 => ?_)
  have h3 := Rp.app hR1 h2
  obtain ⟨hr2, h6, hR2, hF2⟩ := h3
  subst hr2
  have hk2 : OkI g (apL len (sc xs (i + 1))) (apB len (sc xs (i + 1)) b) := ⟨hk.1, ap_ok hk.2⟩
  have hC2 := hC1.kept hk2.1 hF2
  have hout2 : (oApp len (sc xs (i + 1))).1 = 0 → gL M2 (G.1 + 343) 0 = (xI (oApp len (sc xs (i + 1))).2) := fun w => by rw [(hF2 (G.1 + 343) (by omega)).2.1]; exact hout w
  refine r_istore B (lv' := [(7, .int (iI ((oApp len (sc xs (i + 1))).2))), (6, .int (iI ((oApp len (sc xs (i + 1))).1))), (5, .int (iI i)), (4, .ref (G.1 + 344)), (3, .ref (G.1 + 343)), (2, .ref (G.1 + 335)), (1, .ref G.1), (0, .ref bS)]) dL_law_2306 (by decide) rfl ?_
  refine r_aload_n B 5 dL_law_2308 rfl ?_
  refine r_pVi0 B (c_X6_thrown l G M2 (G.1 + 335) hMd _ h6) ⟨rfl, rfl⟩ ok_X6_thrown vi_X6_thrown q_947 hMd.1 rfl (fun _ => rfl) ⟨Nat.le_of_ble_eq_true rfl, Nat.le_of_ble_eq_true rfl, Nat.le_of_ble_eq_true rfl⟩ ⟨by show _ ≤ 601024; omega, by show _ ≤ 7293034; omega⟩ dL_law_2309 ?_
  refine r_iload B 1 dL_law_2312 rfl ?_
  refine r_same B dL_law_2314 rfl ?_
  refine r_iload B 1 dL_law_2319 rfl ?_
  have hend : WM G X (k + 4) (n + 24) Q M2 2336 [(7, .int (iI ((oApp len (sc xs (i + 1))).2))), (6, .int (iI ((oApp len (sc xs (i + 1))).1))), (5, .int (iI i)), (4, .ref (G.1 + 344)), (3, .ref (G.1 + 343)), (2, .ref (G.1 + 335)), (1, .ref G.1), (0, .ref bS)] [] := by
    refine r_goto B dL_law_2336 rfl ?_
    refine WM.pick [2, 3, 4, 5, 6, 7] rfl ?_
    exact kend M2 _ _ _ hC2 hR2 hk2
  refine r_if_ne B dL_law_2321 rfl hk32 (fun _ => hend) (fun hz => ?_)
  refine r_aload_n B 4 dL_law_2324 rfl ?_
  refine r_iconst B dL_law_2325 ?_
  refine r_laload B dL_law_2326 hO (by omega) (by decide) ?_
  refine r_vl (y := (xI (oApp len (sc xs (i + 1))).2)) (hout2 hz) ?_
  refine r_iload B 0 dL_law_2327 rfl ?_
  refine r_i2lw B dL_law_2329 ?_
  exact r_lsame B dL_law_2330 dL_law_2331 rfl hend
set_option maxRecDepth 100000 in
set_option maxHeartbeats 4000000 in
theorem law_clearText (l : Launch) (hst : l.stackTraces = false) (G : Gs) (X : Cx) (B : Bx l G X cL_law 9 RL room_1 ret) {Q : State → Prop} {bS L : Nat} {xs : Nat → Int32} (hX : va_X bS L xs X.2.2.2.2.1 X.2.2.2.2.1.heap) (hbl : bS < X.2.2.2.2.1.heap.size) (hbA : bS < G.1) (hG : IsGg G G.1) (hMd : IsMd G (G.1 + 335)) (hO : At G (G.1 + 343) 12 1) (hOD : At G (G.1 + 344) 13 1) (M : Mem) (g : Gst) (len : Int) (b : Int → Int) (hC : CI G M g len b) (hR : RI G M g len b) (hk : OkI g len b) (k n : Nat) (hkn : k + 4 ≤ 601024 ∧ n + 24 ≤ 7293034) (i : Int) (hi : 0 ≤ i) (hiL : i + 5 ≤ L) (hL : L ≤ 2560) (kend : ∀ (M' : Mem) (g' : Gst) (len' : Int) (b' : Int → Int), CI G M' g' len' b' → RI G M' g' len' b' → OkI g' len' b' → WM G X (k + 4) (n + 24) Q M' 2423 [(5, .int (iI i)), (4, .ref (G.1 + 344)), (3, .ref (G.1 + 343)), (2, .ref (G.1 + 335)), (1, .ref G.1), (0, .ref bS)] []) : WM G X k n Q M 2339 [(5, .int (iI i)), (4, .ref (G.1 + 344)), (3, .ref (G.1 + 343)), (2, .ref (G.1 + 335)), (1, .ref G.1), (0, .ref bS)] [] := by
  refine r_aload_n B 4 dL_law_2339 rfl ?_
  refine r_Vi0 B (c_X5_clearText l G M G.1 hG len b hC.2 hk.2) ⟨rfl, rfl⟩ ok_X5_clearText vi_X5_clearText q_207 hG.1 rfl (fun _ => rfl) ⟨Nat.le_of_ble_eq_true rfl, Nat.le_of_ble_eq_true rfl, Nat.le_of_ble_eq_true rfl⟩ ⟨by show _ ≤ 601024; omega, by show _ ≤ 7293034; omega⟩ dL_law_2340 (fun r1 M1 h1 => ?_)
  obtain ⟨e1, e2⟩ := h1
  rw [e1, e2]
  have hF1 : fC G M (sI M (G.1 + 320) 1 0) := fun c p q => Same.sI (by omega)
  have hC1 : CI G (sI M (G.1 + 320) 1 0) g 0 b := ⟨hC.1.kept hk.1 (gI_ne (by omega)) (fun c p q => Same.sI (by omega)), gI_eq, fun i p q => by omega⟩
  have hR1 := hR.kept hF1
  refine r_aload_n B 3 dL_law_2343 rfl ?_
  refine r_Vi0 B (c_X6_clearText l G (sI M (G.1 + 320) 1 0) (G.1 + 335) hMd len b hR1.2.1 hR1.2.2 hk.2) ⟨rfl, rfl⟩ ok_X6_clearText vi_X6_clearText q_1281 hMd.1 rfl (fun _ => rfl) ⟨Nat.le_of_ble_eq_true rfl, Nat.le_of_ble_eq_true rfl, Nat.le_of_ble_eq_true rfl⟩ ⟨by show _ ≤ 601024; omega, by show _ ≤ 7293034; omega⟩ dL_law_2344 (fun r2 M2 h2 => ?_)
  obtain ⟨e3, e4⟩ := h2
  rw [e3, e4]
  have hF2 : fR G (sI M (G.1 + 320) 1 0) (sI (sI (sI M (G.1 + 320) 1 0) (G.1 + 335) 5 0) (G.1 + 335) 6 0) := fR.sI.tr fR.sI
  have hk2 : OkI g 0 b := ⟨hk.1, by omega, by omega, fun i p q => by omega⟩
  have hC2 := hC1.kept hk2.1 hF2
  have hR2 : RI G (sI (sI (sI M (G.1 + 320) 1 0) (G.1 + 335) 5 0) (G.1 + 335) 6 0) g 0 b := RI.sI6 ⟨hR1.1.only (by funext j; exact gI_ne (by omega)) (by funext j; exact gI_ne (by omega)) (gI_nk (by omega)), gI_eq, fun i p q => by omega⟩
  refine WM.widen (k' := k + 4) (n' := n + 24) (by omega) (by omega) ?_
  exact r_same B dL_law_2347 rfl (kend _ _ _ _ hC2 hR2 hk2)
set_option maxRecDepth 100000 in
set_option maxHeartbeats 4000000 in
theorem law_parse (l : Launch) (hst : l.stackTraces = false) (G : Gs) (X : Cx) (B : Bx l G X cL_law 9 RL room_1 ret) {Q : State → Prop} {bS L : Nat} {xs : Nat → Int32} (hX : va_X bS L xs X.2.2.2.2.1 X.2.2.2.2.1.heap) (hbl : bS < X.2.2.2.2.1.heap.size) (hbA : bS < G.1) (hG : IsGg G G.1) (hMd : IsMd G (G.1 + 335)) (hO : At G (G.1 + 343) 12 1) (hOD : At G (G.1 + 344) 13 1) (M : Mem) (g : Gst) (len : Int) (b : Int → Int) (hC : CI G M g len b) (hR : RI G M g len b) (hk : OkI g len b) (k n : Nat) (hkn : k + 4 ≤ 601024 ∧ n + 24 ≤ 7293034) (i : Int) (hi : 0 ≤ i) (hiL : i + 5 ≤ L) (hL : L ≤ 2560) (kend : ∀ (M' : Mem) (g' : Gst) (len' : Int) (b' : Int → Int), CI G M' g' len' b' → RI G M' g' len' b' → OkI g' len' b' → WM G X (k + 4) (n + 24) Q M' 2423 [(5, .int (iI i)), (4, .ref (G.1 + 344)), (3, .ref (G.1 + 343)), (2, .ref (G.1 + 335)), (1, .ref G.1), (0, .ref bS)] []) : WM G X k n Q M 2352 [(5, .int (iI i)), (4, .ref (G.1 + 344)), (3, .ref (G.1 + 343)), (2, .ref (G.1 + 335)), (1, .ref G.1), (0, .ref bS)] [] := by
  refine r_aload_n B 4 dL_law_2352 rfl ?_
  refine r_Vi0 B (c_X5_parse l G M G.1 g.1 g.2.1 g.2.2 hG hC.1 hk.1 len b hC.2 hk.2) ⟨rfl, rfl⟩ ok_X5_parse vi_X5_parse q_211 hG.1 rfl (fun _ => rfl) ⟨Nat.le_of_ble_eq_true rfl, Nat.le_of_ble_eq_true rfl, Nat.le_of_ble_eq_true rfl⟩ ⟨by show _ ≤ 601024; omega, by show _ ≤ 7293034; omega⟩ dL_law_2353 (fun r1 M1 h1 => ?_)
  obtain ⟨o1, p1, p2, p3, p4⟩ := h1
  have hF1 : fC G M M1 := fC.only p4 (by omega)
  have hR1 := hR.kept hF1
  refine r_aload_n B 3 dL_law_2356 rfl ?_
  refine r_Vi0 B (c_X6_parse l G M1 (G.1 + 335) hMd g.1 g.2.1 g.2.2 hR1.1 hk.1 len b hR1.2.1 hR1.2.2 hk.2) ⟨rfl, rfl⟩ ok_X6_parse vi_X6_parse q_1285 hMd.1 rfl (fun _ => rfl) ⟨Nat.le_of_ble_eq_true rfl, Nat.le_of_ble_eq_true rfl, Nat.le_of_ble_eq_true rfl⟩ ⟨by show _ ≤ 601024; omega, by show _ ≤ 7293034; omega⟩ dL_law_2357 (fun r2 M2 h2 => ?_)
  obtain ⟨o2, u1, u2, u3, u4⟩ := h2
  obtain ⟨e1, e2⟩ := PaR.unique hk.2.1 p1 u1
  subst e1
  subst e2
  have hk2 : OkI (paS g o1) len b := ⟨paS_ok hk.1 hk.2.1 p1, hk.2⟩
  have hC2 : CI G M2 (paS g o1) len b := CI.kept ⟨p2, p3⟩ hk2.1 (fR.only u4.2.2 (by omega) (by omega))
  have hR2 : RI G M2 (paS g o1) len b := hR1.mdf u3 u4
  refine WM.widen (k' := k + 4) (n' := n + 24) (by omega) (by omega) ?_
  exact r_same B dL_law_2360 rfl (kend _ _ _ _ hC2 hR2 hk2)
set_option maxRecDepth 100000 in
set_option maxHeartbeats 4000000 in
theorem law_undo (l : Launch) (hst : l.stackTraces = false) (G : Gs) (X : Cx) (B : Bx l G X cL_law 9 RL room_1 ret) {Q : State → Prop} {bS L : Nat} {xs : Nat → Int32} (hX : va_X bS L xs X.2.2.2.2.1 X.2.2.2.2.1.heap) (hbl : bS < X.2.2.2.2.1.heap.size) (hbA : bS < G.1) (hG : IsGg G G.1) (hMd : IsMd G (G.1 + 335)) (hO : At G (G.1 + 343) 12 1) (hOD : At G (G.1 + 344) 13 1) (M : Mem) (g : Gst) (len : Int) (b : Int → Int) (hC : CI G M g len b) (hR : RI G M g len b) (hk : OkI g len b) (k n : Nat) (hkn : k + 4 ≤ 601024 ∧ n + 24 ≤ 7293034) (i : Int) (hi : 0 ≤ i) (hiL : i + 5 ≤ L) (hL : L ≤ 2560) (kend : ∀ (M' : Mem) (g' : Gst) (len' : Int) (b' : Int → Int), CI G M' g' len' b' → RI G M' g' len' b' → OkI g' len' b' → WM G X (k + 4) (n + 24) Q M' 2423 [(5, .int (iI i)), (4, .ref (G.1 + 344)), (3, .ref (G.1 + 343)), (2, .ref (G.1 + 335)), (1, .ref G.1), (0, .ref bS)] []) : WM G X k n Q M 2365 [(5, .int (iI i)), (4, .ref (G.1 + 344)), (3, .ref (G.1 + 343)), (2, .ref (G.1 + 335)), (1, .ref G.1), (0, .ref bS)] [] := by
  refine r_aload_n B 4 dL_law_2365 rfl ?_
  refine r_aload_n B 2 dL_law_2366 rfl ?_
  refine r_W B (As := [.ref G.1, .ref (G.1 + 343)]) (st := []) (w_undo l hst G M g len b hG hO hC hk  ) ⟨rfl, rfl⟩ rfl ⟨by decide +kernel, by decide +kernel⟩ (z := 2) rfl (by decide +kernel) q_880 q_0 q_878 q_879 ⟨Nat.le_of_ble_eq_true rfl, Nat.le_of_ble_eq_true rfl, Nat.le_of_ble_eq_true rfl⟩ ⟨by show _ ≤ 601024; omega, by show _ ≤ 7293034; omega⟩ dL_law_2367 (fun kr M1 hw => ?_)
  obtain ⟨hr, hk32, hout, hC1, hF1⟩ := hw
  subst hr
  have hR1 := hR.kept hF1
  refine WM.widen (k' := k + 4) (n' := n + 24) (by omega) (by omega) ?_
  refine r_istore B (lv' := [(6, .int (iI (uoK g))), (5, .int (iI i)), (4, .ref (G.1 + 344)), (3, .ref (G.1 + 343)), (2, .ref (G.1 + 335)), (1, .ref G.1), (0, .ref bS)]) dL_law_2370 (by decide) rfl ?_
  refine r_aload_n B 4 dL_law_2372 rfl ?_
  refine r_Vi0 B (c_X6_undo l G M1 (G.1 + 335) hMd g.1 g.2.1 g.2.2 hR1.1 hk.1) ⟨rfl, rfl⟩ ok_X6_undo vi_X6_undo q_1313 hMd.1 rfl (fun _ => rfl) ⟨Nat.le_of_ble_eq_true rfl, Nat.le_of_ble_eq_true rfl, Nat.le_of_ble_eq_true rfl⟩ ⟨by show _ ≤ 601024; omega, by show _ ≤ 7293034; omega⟩ dL_law_2373 (fun r M2 h2 => ?_)
  have h3 := Rp.undo hR1 h2
  obtain ⟨hr2, h6, hR2, hF2⟩ := h3
  subst hr2
  have hk2 : OkI (uoG g) len b := ⟨uoG_ok hk.1, hk.2⟩
  have hC2 := hC1.kept hk2.1 hF2
  have hout2 : (uoK g) = 0 → gL M2 (G.1 + 343) 0 = (xI (uoV g)) := fun w => by rw [(hF2 (G.1 + 343) (by omega)).2.1]; exact hout w
  refine r_istore B (lv' := [(7, .int (iI (uoV g))), (6, .int (iI (uoK g))), (5, .int (iI i)), (4, .ref (G.1 + 344)), (3, .ref (G.1 + 343)), (2, .ref (G.1 + 335)), (1, .ref G.1), (0, .ref bS)]) dL_law_2376 (by decide) rfl ?_
  refine r_aload_n B 5 dL_law_2378 rfl ?_
  refine r_pVi0 B (c_X6_thrown l G M2 (G.1 + 335) hMd _ h6) ⟨rfl, rfl⟩ ok_X6_thrown vi_X6_thrown q_947 hMd.1 rfl (fun _ => rfl) ⟨Nat.le_of_ble_eq_true rfl, Nat.le_of_ble_eq_true rfl, Nat.le_of_ble_eq_true rfl⟩ ⟨by show _ ≤ 601024; omega, by show _ ≤ 7293034; omega⟩ dL_law_2379 ?_
  refine r_iload B 1 dL_law_2382 rfl ?_
  refine r_same B dL_law_2384 rfl ?_
  refine r_iload B 1 dL_law_2389 rfl ?_
  have hend : WM G X (k + 4) (n + 24) Q M2 2406 [(7, .int (iI (uoV g))), (6, .int (iI (uoK g))), (5, .int (iI i)), (4, .ref (G.1 + 344)), (3, .ref (G.1 + 343)), (2, .ref (G.1 + 335)), (1, .ref G.1), (0, .ref bS)] [] := by
    refine r_goto B dL_law_2406 rfl ?_
    refine WM.pick [2, 3, 4, 5, 6, 7] rfl ?_
    exact kend M2 _ _ _ hC2 hR2 hk2
  refine r_if_ne B dL_law_2391 rfl hk32 (fun _ => hend) (fun hz => ?_)
  refine r_aload_n B 4 dL_law_2394 rfl ?_
  refine r_iconst B dL_law_2395 ?_
  refine r_laload B dL_law_2396 hO (by omega) (by decide) ?_
  refine r_vl (y := (xI (uoV g))) (hout2 hz) ?_
  refine r_iload B 0 dL_law_2397 rfl ?_
  refine r_i2lw B dL_law_2399 ?_
  exact r_lsame B dL_law_2400 dL_law_2401 rfl hend
set_option maxRecDepth 100000 in
set_option maxHeartbeats 4000000 in
theorem law_digest (l : Launch) (hst : l.stackTraces = false) (G : Gs) (X : Cx) (B : Bx l G X cL_law 9 RL room_1 ret) {Q : State → Prop} {bS L : Nat} {xs : Nat → Int32} (hX : va_X bS L xs X.2.2.2.2.1 X.2.2.2.2.1.heap) (hbl : bS < X.2.2.2.2.1.heap.size) (hbA : bS < G.1) (hG : IsGg G G.1) (hMd : IsMd G (G.1 + 335)) (hO : At G (G.1 + 343) 12 1) (hOD : At G (G.1 + 344) 13 1) (M : Mem) (g : Gst) (len : Int) (b : Int → Int) (hC : CI G M g len b) (hR : RI G M g len b) (hk : OkI g len b) (k n : Nat) (hkn : k + 4 ≤ 601024 ∧ n + 24 ≤ 7293034) (i : Int) (hi : 0 ≤ i) (hiL : i + 5 ≤ L) (hL : L ≤ 2560) (kend : ∀ (M' : Mem) (g' : Gst) (len' : Int) (b' : Int → Int), CI G M' g' len' b' → RI G M' g' len' b' → OkI g' len' b' → WM G X (k + 4) (n + 24) Q M' 2423 [(5, .int (iI i)), (4, .ref (G.1 + 344)), (3, .ref (G.1 + 343)), (2, .ref (G.1 + 335)), (1, .ref G.1), (0, .ref bS)] []) : WM G X k n Q M 2409 [(5, .int (iI i)), (4, .ref (G.1 + 344)), (3, .ref (G.1 + 343)), (2, .ref (G.1 + 335)), (1, .ref G.1), (0, .ref bS)] [] := by
  refine r_aload_n B 4 dL_law_2409 rfl ?_
  refine r_pVl0 B (c_X5_digest l G M G.1 g.1 g.2.1 g.2.2 hG hC.1 hk.1 len b hC.2 hk.2) ⟨rfl, rfl⟩ ok_X5_digest vi_X5_digest q_315 hG.1 rfl (fun _ => rfl) ⟨Nat.le_of_ble_eq_true rfl, Nat.le_of_ble_eq_true rfl, Nat.le_of_ble_eq_true rfl⟩ ⟨by show _ ≤ 601024; omega, by show _ ≤ 7293034; omega⟩ dL_law_2410 ?_
  refine r_aload_n B 3 dL_law_2413 rfl ?_
  refine r_Vl0 B (c_X6_digest l G M (G.1 + 335) hMd g.1 g.2.1 g.2.2 hR.1 hk.1 len b hR.2.1 hk.2) ⟨rfl, rfl⟩ ok_X6_digest vi_X6_digest q_1317 hMd.1 rfl (fun _ => rfl) ⟨Nat.le_of_ble_eq_true rfl, Nat.le_of_ble_eq_true rfl, Nat.le_of_ble_eq_true rfl⟩ ⟨by show _ ≤ 601024; omega, by show _ ≤ 7293034; omega⟩ dL_law_2414 (fun r2 M2 h2 => ?_)
  obtain ⟨e1, e2⟩ := h2
  rw [e1]
  have hC2 := hC.kept hk.1 ((fR.sI (G := G) (M := M) (k := 6) (v := 0)).tr (fR.fl e2.2))
  have hR2 := (hR.sI6 (v := 0)).gI e2.1
  refine WM.widen (k' := k + 4) (n' := n + 24) (by omega) (by omega) ?_
  exact r_lsame B dL_law_2417 dL_law_2418 rfl (kend _ _ _ _ hC2 hR2 hk)
