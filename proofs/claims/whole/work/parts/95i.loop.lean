/-! (goes on) -/
theorem lw_kind {L c n : Nat} {xs : Nat → Int32} {I : Nat → Nat → Int32} {J : Nat → Nat → Int64} {S : STT} (hL : L ≤ 3584) (hc2 : 7 * c + 6 < L) (inv : INVS S I) (cont : ∀ (I2 : Nat → Nat → Int32) (J2 : Nat → Nat → Int64) (S2 : STT), INVS S2 I2 → EV (some (L, xs)) M_L_law_ 41 23 (LVc (c + 1)) [] (hp I2 J2) (QN n)) : EV (some (L, xs)) M_L_law_ 41 1328 (LVc c) [] (hp I J) (QN (n + 1)) := by
  rcases ans_kind (a0 := xs (7 * c + 1)) (a1 := xs (7 * c + 2)) (a2 := xs (7 * c + 3)) (a3 := xs (7 * c + 4)) inv with hV | hX1
  · obtain ⟨v, h1, h2⟩ := hV J
    obtain ⟨I2, J2, S2, h3, jj, inv2, t2⟩ := h2 (wr J 135 0 v)
    show EV (some (L, xs)) M_L_law_ 41 1328 [(0, .ref spc), (1, .ref 0), (2, .ref 106), (3, .ref 135), (4, .int (nI (7 * c)))] [] (hp I J) _
    refine EV.l (lv' := [(0, _), (1, _), (2, _), (3, _), (4, _)]) r_L_law__1328 rfl ?_
    refine EV.l (lv' := [(0, _), (1, _), (2, _), (3, _), (4, _)]) r_L_law__1329 rfl ?_
    refine EV.l (lv' := [(0, _), (1, _), (2, _), (3, _), (4, _)]) r_L_law__1330 rfl ?_
    refine EV.o r_L_law__1332 (icN (1) (v := 1)) ?_
    refine EV.o r_L_law__1333 iaddN ?_
    refine EV.sld r_L_law__1334 (by omega) (by omega) ?_
    refine EV.l (lv' := [(0, _), (1, _), (2, _), (3, _), (4, _)]) r_L_law__1335 rfl ?_
    refine EV.l (lv' := [(0, _), (1, _), (2, _), (3, _), (4, _)]) r_L_law__1336 rfl ?_
    refine EV.o r_L_law__1338 (icN (2) (v := 2)) ?_
    refine EV.o r_L_law__1339 iaddN ?_
    refine EV.sld r_L_law__1340 (by omega) (by omega) ?_
    refine EV.l (lv' := [(0, _), (1, _), (2, _), (3, _), (4, _)]) r_L_law__1341 rfl ?_
    refine EV.l (lv' := [(0, _), (1, _), (2, _), (3, _), (4, _)]) r_L_law__1342 rfl ?_
    refine EV.o r_L_law__1344 (icN (3) (v := 3)) ?_
    refine EV.o r_L_law__1345 iaddN ?_
    refine EV.sld r_L_law__1346 (by omega) (by omega) ?_
    refine EV.l (lv' := [(0, _), (1, _), (2, _), (3, _), (4, _)]) r_L_law__1347 rfl ?_
    refine EV.l (lv' := [(0, _), (1, _), (2, _), (3, _), (4, _)]) r_L_law__1348 rfl ?_
    refine EV.o r_L_law__1350 (icN (4) (v := 4)) ?_
    refine EV.o r_L_law__1351 iaddN ?_
    refine EV.sld r_L_law__1352 (by omega) (by omega) ?_
    refine EV.l (lv' := [(0, _), (1, _), (2, _), (3, _), (4, _)]) r_L_law__1353 rfl ?_
    refine EV.inv r_L_law__1354.1 rfl (by decide) (aS6 mt_306) (Nat.le_of_ble_eq_true rfl) (wv_kind h1) (hp_len _ _ _ _) ?_
    show EV (some (L, xs)) M_L_law_ 41 1357 [(0, .ref spc), (1, .ref 0), (2, .ref 106), (3, .ref 135), (4, .int (nI (7 * c)))] [.int (nI 0)] (hp I (wr J 135 0 v)) _
    refine EV.l (lv' := [(0, _), (1, _), (2, _), (3, _), (4, _), (5, _)]) r_L_law__1357 rfl ?_
    refine EV.l (lv' := [(0, _), (1, _), (2, _), (3, _), (4, _), (5, _)]) r_L_law__1359 rfl ?_
    refine EV.l (lv' := [(0, _), (1, _), (2, _), (3, _), (4, _), (5, _)]) r_L_law__1360 rfl ?_
    refine EV.l (lv' := [(0, _), (1, _), (2, _), (3, _), (4, _), (5, _)]) r_L_law__1361 rfl ?_
    refine EV.o r_L_law__1363 (icN (1) (v := 1)) ?_
    refine EV.o r_L_law__1364 iaddN ?_
    refine EV.sld r_L_law__1365 (by omega) (by omega) ?_
    refine EV.l (lv' := [(0, _), (1, _), (2, _), (3, _), (4, _), (5, _)]) r_L_law__1366 rfl ?_
    refine EV.l (lv' := [(0, _), (1, _), (2, _), (3, _), (4, _), (5, _)]) r_L_law__1367 rfl ?_
    refine EV.o r_L_law__1369 (icN (2) (v := 2)) ?_
    refine EV.o r_L_law__1370 iaddN ?_
    refine EV.sld r_L_law__1371 (by omega) (by omega) ?_
    refine EV.l (lv' := [(0, _), (1, _), (2, _), (3, _), (4, _), (5, _)]) r_L_law__1372 rfl ?_
    refine EV.l (lv' := [(0, _), (1, _), (2, _), (3, _), (4, _), (5, _)]) r_L_law__1373 rfl ?_
    refine EV.o r_L_law__1375 (icN (3) (v := 3)) ?_
    refine EV.o r_L_law__1376 iaddN ?_
    refine EV.sld r_L_law__1377 (by omega) (by omega) ?_
    refine EV.l (lv' := [(0, _), (1, _), (2, _), (3, _), (4, _), (5, _)]) r_L_law__1378 rfl ?_
    refine EV.l (lv' := [(0, _), (1, _), (2, _), (3, _), (4, _), (5, _)]) r_L_law__1379 rfl ?_
    refine EV.o r_L_law__1381 (icN (4) (v := 4)) ?_
    refine EV.o r_L_law__1382 iaddN ?_
    refine EV.sld r_L_law__1383 (by omega) (by omega) ?_
    refine EV.inv r_L_law__1384.1 rfl (by decide) (aV4 mt_257 la_106) (Nat.le_of_ble_eq_true rfl) (h3) (hp_len _ _ _ _) ?_
    show EV (some (L, xs)) M_L_law_ 41 1387 [(0, .ref spc), (1, .ref 0), (2, .ref 106), (3, .ref 135), (4, .int (nI (7 * c))), (5, .int (nI 0))] [.long v] (hp I2 J2) _
    refine EV.l (lv' := [(0, _), (1, _), (2, _), (3, _), (4, _), (5, _), (6, _)]) r_L_law__1387 rfl ?_
    refine EV.l (lv' := [(0, _), (1, _), (2, _), (3, _), (4, _), (5, _), (6, _)]) r_L_law__1389 rfl ?_
    refine EV.inv r_L_law__1390.1 rfl (by decide) (aV0 mt_168 la_106) (Nat.le_of_ble_eq_true rfl) (m_thrown (d := 41) (by omega)) (hp_len _ _ _ _) ?_
    show EV (some (L, xs)) M_L_law_ 41 1393 [(0, .ref spc), (1, .ref 0), (2, .ref 106), (3, .ref 135), (4, .int (nI (7 * c))), (5, .int (nI 0)), (6, .long v)] [.int (I2 106 0)] (hp I2 J2) _
    rw [t2]
    refine EV.l (lv' := [(0, _), (1, _), (2, _), (3, _), (4, _), (5, _), (6, _)]) r_L_law__1393 rfl ?_
    refine EV.r2_eq r_L_law__1395 (fun _ => ?_) (fun z => absurd rfl z)
    refine EV.l (lv' := [(0, _), (1, _), (2, _), (3, _), (4, _), (5, _), (6, _)]) r_L_law__1400 rfl ?_
    refine EV.n0_ne r_L_law__1402 (fun z => absurd rfl z) (fun _ => ?_)
    refine EV.l (lv' := [(0, _), (1, _), (2, _), (3, _), (4, _), (5, _), (6, _)]) r_L_law__1405 rfl ?_
    refine EV.o r_L_law__1406 (icN (0) (v := 0)) ?_
    refine EV.laloadI r_L_law__1407.1 la_135 rfl (by decide) (by decide) ?_
    rw [show J2 135 0 = v from (congrFun jj 0).trans wr_same]
    show EV (some (L, xs)) M_L_law_ 41 1408 [(0, .ref spc), (1, .ref 0), (2, .ref 106), (3, .ref 135), (4, .int (nI (7 * c))), (5, .int (nI 0)), (6, .long v)] [.long v] (hp I2 J2) _
    refine EV.l (lv' := [(0, _), (1, _), (2, _), (3, _), (4, _), (5, _), (6, _)]) r_L_law__1408 rfl ?_
    refine EV.o r_L_law__1410 (st' := [.int (lg_cmp v v)]) rfl ?_
    rw [lg_self]
    refine EV.n0_eq r_L_law__1411 (fun _ => ?_) (fun z => absurd rfl z)
    refine EV.g r_L_law__1416 ?_
    refine EV.l (lv' := [(0, _), (1, _), (2, _), (3, _), (4, _), (5, _), (6, _)]) r_L_law__2543 rfl ?_
    rw [inc_7]
    refine EV.g r_L_law__2546 ?_
    refine EV.fg (lv' := [(0, _), (1, _), (2, _), (3, _), (4, _)]) r_L_law__23 rfl rfl rfl ?_
    exact (cont I2 J2 _ inv2).mono (fun r G q h => QN.of h (by omega))
  · obtain ⟨I1, h1, h2⟩ := hX1 J
    obtain ⟨b, I2, J2, S2, h3, jj, inv2, t2⟩ := h2 J
    show EV (some (L, xs)) M_L_law_ 41 1328 [(0, .ref spc), (1, .ref 0), (2, .ref 106), (3, .ref 135), (4, .int (nI (7 * c)))] [] (hp I J) _
    refine EV.l (lv' := [(0, _), (1, _), (2, _), (3, _), (4, _)]) r_L_law__1328 rfl ?_
    refine EV.l (lv' := [(0, _), (1, _), (2, _), (3, _), (4, _)]) r_L_law__1329 rfl ?_
    refine EV.l (lv' := [(0, _), (1, _), (2, _), (3, _), (4, _)]) r_L_law__1330 rfl ?_
    refine EV.o r_L_law__1332 (icN (1) (v := 1)) ?_
    refine EV.o r_L_law__1333 iaddN ?_
    refine EV.sld r_L_law__1334 (by omega) (by omega) ?_
    refine EV.l (lv' := [(0, _), (1, _), (2, _), (3, _), (4, _)]) r_L_law__1335 rfl ?_
    refine EV.l (lv' := [(0, _), (1, _), (2, _), (3, _), (4, _)]) r_L_law__1336 rfl ?_
    refine EV.o r_L_law__1338 (icN (2) (v := 2)) ?_
    refine EV.o r_L_law__1339 iaddN ?_
    refine EV.sld r_L_law__1340 (by omega) (by omega) ?_
    refine EV.l (lv' := [(0, _), (1, _), (2, _), (3, _), (4, _)]) r_L_law__1341 rfl ?_
    refine EV.l (lv' := [(0, _), (1, _), (2, _), (3, _), (4, _)]) r_L_law__1342 rfl ?_
    refine EV.o r_L_law__1344 (icN (3) (v := 3)) ?_
    refine EV.o r_L_law__1345 iaddN ?_
    refine EV.sld r_L_law__1346 (by omega) (by omega) ?_
    refine EV.l (lv' := [(0, _), (1, _), (2, _), (3, _), (4, _)]) r_L_law__1347 rfl ?_
    refine EV.l (lv' := [(0, _), (1, _), (2, _), (3, _), (4, _)]) r_L_law__1348 rfl ?_
    refine EV.o r_L_law__1350 (icN (4) (v := 4)) ?_
    refine EV.o r_L_law__1351 iaddN ?_
    refine EV.sld r_L_law__1352 (by omega) (by omega) ?_
    refine EV.l (lv' := [(0, _), (1, _), (2, _), (3, _), (4, _)]) r_L_law__1353 rfl ?_
    refine EV.inv r_L_law__1354.1 rfl (by decide) (aS6 mt_306) (Nat.le_of_ble_eq_true rfl) (wx1_kind h1) (hp_len _ _ _ _) ?_
    show EV (some (L, xs)) M_L_law_ 41 1357 [(0, .ref spc), (1, .ref 0), (2, .ref 106), (3, .ref 135), (4, .int (nI (7 * c)))] [.int (nI 1)] (hp I1 J) _
    refine EV.l (lv' := [(0, _), (1, _), (2, _), (3, _), (4, _), (5, _)]) r_L_law__1357 rfl ?_
    refine EV.l (lv' := [(0, _), (1, _), (2, _), (3, _), (4, _), (5, _)]) r_L_law__1359 rfl ?_
    refine EV.l (lv' := [(0, _), (1, _), (2, _), (3, _), (4, _), (5, _)]) r_L_law__1360 rfl ?_
    refine EV.l (lv' := [(0, _), (1, _), (2, _), (3, _), (4, _), (5, _)]) r_L_law__1361 rfl ?_
    refine EV.o r_L_law__1363 (icN (1) (v := 1)) ?_
    refine EV.o r_L_law__1364 iaddN ?_
    refine EV.sld r_L_law__1365 (by omega) (by omega) ?_
    refine EV.l (lv' := [(0, _), (1, _), (2, _), (3, _), (4, _), (5, _)]) r_L_law__1366 rfl ?_
    refine EV.l (lv' := [(0, _), (1, _), (2, _), (3, _), (4, _), (5, _)]) r_L_law__1367 rfl ?_
    refine EV.o r_L_law__1369 (icN (2) (v := 2)) ?_
    refine EV.o r_L_law__1370 iaddN ?_
    refine EV.sld r_L_law__1371 (by omega) (by omega) ?_
    refine EV.l (lv' := [(0, _), (1, _), (2, _), (3, _), (4, _), (5, _)]) r_L_law__1372 rfl ?_
    refine EV.l (lv' := [(0, _), (1, _), (2, _), (3, _), (4, _), (5, _)]) r_L_law__1373 rfl ?_
    refine EV.o r_L_law__1375 (icN (3) (v := 3)) ?_
    refine EV.o r_L_law__1376 iaddN ?_
    refine EV.sld r_L_law__1377 (by omega) (by omega) ?_
    refine EV.l (lv' := [(0, _), (1, _), (2, _), (3, _), (4, _), (5, _)]) r_L_law__1378 rfl ?_
    refine EV.l (lv' := [(0, _), (1, _), (2, _), (3, _), (4, _), (5, _)]) r_L_law__1379 rfl ?_
    refine EV.o r_L_law__1381 (icN (4) (v := 4)) ?_
    refine EV.o r_L_law__1382 iaddN ?_
    refine EV.sld r_L_law__1383 (by omega) (by omega) ?_
    refine EV.inv r_L_law__1384.1 rfl (by decide) (aV4 mt_257 la_106) (Nat.le_of_ble_eq_true rfl) (h3) (hp_len _ _ _ _) ?_
    show EV (some (L, xs)) M_L_law_ 41 1387 [(0, .ref spc), (1, .ref 0), (2, .ref 106), (3, .ref 135), (4, .int (nI (7 * c))), (5, .int (nI 1))] [.long b] (hp I2 J2) _
    refine EV.l (lv' := [(0, _), (1, _), (2, _), (3, _), (4, _), (5, _), (6, _)]) r_L_law__1387 rfl ?_
    refine EV.l (lv' := [(0, _), (1, _), (2, _), (3, _), (4, _), (5, _), (6, _)]) r_L_law__1389 rfl ?_
    refine EV.inv r_L_law__1390.1 rfl (by decide) (aV0 mt_168 la_106) (Nat.le_of_ble_eq_true rfl) (m_thrown (d := 41) (by omega)) (hp_len _ _ _ _) ?_
    show EV (some (L, xs)) M_L_law_ 41 1393 [(0, .ref spc), (1, .ref 0), (2, .ref 106), (3, .ref 135), (4, .int (nI (7 * c))), (5, .int (nI 1)), (6, .long b)] [.int (I2 106 0)] (hp I2 J2) _
    rw [t2]
    refine EV.l (lv' := [(0, _), (1, _), (2, _), (3, _), (4, _), (5, _), (6, _)]) r_L_law__1393 rfl ?_
    refine EV.r2_eq r_L_law__1395 (fun _ => ?_) (fun z => absurd rfl z)
    refine EV.l (lv' := [(0, _), (1, _), (2, _), (3, _), (4, _), (5, _), (6, _)]) r_L_law__1400 rfl ?_
    refine EV.n0_ne r_L_law__1402 (fun _ => ?_) (fun z => absurd z (by decide))
    refine EV.g r_L_law__1416 ?_
    refine EV.l (lv' := [(0, _), (1, _), (2, _), (3, _), (4, _), (5, _), (6, _)]) r_L_law__2543 rfl ?_
    rw [inc_7]
    refine EV.g r_L_law__2546 ?_
    refine EV.fg (lv' := [(0, _), (1, _), (2, _), (3, _), (4, _)]) r_L_law__23 rfl rfl rfl ?_
    exact (cont I2 J2 _ inv2).mono (fun r G q h => QN.of h (by omega))
theorem lw_order {L c n : Nat} {xs : Nat → Int32} {I : Nat → Nat → Int32} {J : Nat → Nat → Int64} {S : STT} (hL : L ≤ 3584) (hc2 : 7 * c + 6 < L) (inv : INVS S I) (cont : ∀ (I2 : Nat → Nat → Int32) (J2 : Nat → Nat → Int64) (S2 : STT), INVS S2 I2 → EV (some (L, xs)) M_L_law_ 41 23 (LVc (c + 1)) [] (hp I2 J2) (QN n)) : EV (some (L, xs)) M_L_law_ 41 1419 (LVc c) [] (hp I J) (QN (n + 1)) := by
  rcases ans_order (a0 := xs (7 * c + 1)) (a1 := xs (7 * c + 2)) (a2 := xs (7 * c + 3)) inv with hV | hX1
  · obtain ⟨v, I1, h1, h2⟩ := hV J
    obtain ⟨I2, S2, h3, inv2, t2⟩ := h2 (wr J 135 0 v.toInt64)
    show EV (some (L, xs)) M_L_law_ 41 1419 [(0, .ref spc), (1, .ref 0), (2, .ref 106), (3, .ref 135), (4, .int (nI (7 * c)))] [] (hp I J) _
    refine EV.l (lv' := [(0, _), (1, _), (2, _), (3, _), (4, _)]) r_L_law__1419 rfl ?_
    refine EV.l (lv' := [(0, _), (1, _), (2, _), (3, _), (4, _)]) r_L_law__1420 rfl ?_
    refine EV.l (lv' := [(0, _), (1, _), (2, _), (3, _), (4, _)]) r_L_law__1421 rfl ?_
    refine EV.o r_L_law__1423 (icN (1) (v := 1)) ?_
    refine EV.o r_L_law__1424 iaddN ?_
    refine EV.sld r_L_law__1425 (by omega) (by omega) ?_
    refine EV.l (lv' := [(0, _), (1, _), (2, _), (3, _), (4, _)]) r_L_law__1426 rfl ?_
    refine EV.l (lv' := [(0, _), (1, _), (2, _), (3, _), (4, _)]) r_L_law__1427 rfl ?_
    refine EV.o r_L_law__1429 (icN (2) (v := 2)) ?_
    refine EV.o r_L_law__1430 iaddN ?_
    refine EV.sld r_L_law__1431 (by omega) (by omega) ?_
    refine EV.l (lv' := [(0, _), (1, _), (2, _), (3, _), (4, _)]) r_L_law__1432 rfl ?_
    refine EV.l (lv' := [(0, _), (1, _), (2, _), (3, _), (4, _)]) r_L_law__1433 rfl ?_
    refine EV.o r_L_law__1435 (icN (3) (v := 3)) ?_
    refine EV.o r_L_law__1436 iaddN ?_
    refine EV.sld r_L_law__1437 (by omega) (by omega) ?_
    refine EV.l (lv' := [(0, _), (1, _), (2, _), (3, _), (4, _)]) r_L_law__1438 rfl ?_
    refine EV.inv r_L_law__1439.1 rfl (by decide) (aS5 mt_307) (Nat.le_of_ble_eq_true rfl) (wv_order h1) (hp_len _ _ _ _) ?_
    show EV (some (L, xs)) M_L_law_ 41 1442 [(0, .ref spc), (1, .ref 0), (2, .ref 106), (3, .ref 135), (4, .int (nI (7 * c)))] [.int (nI 0)] (hp I1 (wr J 135 0 v.toInt64)) _
    refine EV.l (lv' := [(0, _), (1, _), (2, _), (3, _), (4, _), (5, _)]) r_L_law__1442 rfl ?_
    refine EV.l (lv' := [(0, _), (1, _), (2, _), (3, _), (4, _), (5, _)]) r_L_law__1444 rfl ?_
    refine EV.l (lv' := [(0, _), (1, _), (2, _), (3, _), (4, _), (5, _)]) r_L_law__1445 rfl ?_
    refine EV.l (lv' := [(0, _), (1, _), (2, _), (3, _), (4, _), (5, _)]) r_L_law__1446 rfl ?_
    refine EV.o r_L_law__1448 (icN (1) (v := 1)) ?_
    refine EV.o r_L_law__1449 iaddN ?_
    refine EV.sld r_L_law__1450 (by omega) (by omega) ?_
    refine EV.l (lv' := [(0, _), (1, _), (2, _), (3, _), (4, _), (5, _)]) r_L_law__1451 rfl ?_
    refine EV.l (lv' := [(0, _), (1, _), (2, _), (3, _), (4, _), (5, _)]) r_L_law__1452 rfl ?_
    refine EV.o r_L_law__1454 (icN (2) (v := 2)) ?_
    refine EV.o r_L_law__1455 iaddN ?_
    refine EV.sld r_L_law__1456 (by omega) (by omega) ?_
    refine EV.l (lv' := [(0, _), (1, _), (2, _), (3, _), (4, _), (5, _)]) r_L_law__1457 rfl ?_
    refine EV.l (lv' := [(0, _), (1, _), (2, _), (3, _), (4, _), (5, _)]) r_L_law__1458 rfl ?_
    refine EV.o r_L_law__1460 (icN (3) (v := 3)) ?_
    refine EV.o r_L_law__1461 iaddN ?_
    refine EV.sld r_L_law__1462 (by omega) (by omega) ?_
    refine EV.inv r_L_law__1463.1 rfl (by decide) (aV3 mt_259 la_106) (Nat.le_of_ble_eq_true rfl) (h3) (hp_len _ _ _ _) ?_
    show EV (some (L, xs)) M_L_law_ 41 1466 [(0, .ref spc), (1, .ref 0), (2, .ref 106), (3, .ref 135), (4, .int (nI (7 * c))), (5, .int (nI 0))] [.int v] (hp I2 (wr J 135 0 v.toInt64)) _
    refine EV.l (lv' := [(0, _), (1, _), (2, _), (3, _), (4, _), (5, _), (6, _)]) r_L_law__1466 rfl ?_
    refine EV.l (lv' := [(0, _), (1, _), (2, _), (3, _), (4, _), (5, _), (6, _)]) r_L_law__1468 rfl ?_
    refine EV.inv r_L_law__1469.1 rfl (by decide) (aV0 mt_168 la_106) (Nat.le_of_ble_eq_true rfl) (m_thrown (d := 41) (by omega)) (hp_len _ _ _ _) ?_
    show EV (some (L, xs)) M_L_law_ 41 1472 [(0, .ref spc), (1, .ref 0), (2, .ref 106), (3, .ref 135), (4, .int (nI (7 * c))), (5, .int (nI 0)), (6, .int v)] [.int (I2 106 0)] (hp I2 (wr J 135 0 v.toInt64)) _
    rw [t2]
    refine EV.l (lv' := [(0, _), (1, _), (2, _), (3, _), (4, _), (5, _), (6, _)]) r_L_law__1472 rfl ?_
    refine EV.r2_eq r_L_law__1474 (fun _ => ?_) (fun z => absurd rfl z)
    refine EV.l (lv' := [(0, _), (1, _), (2, _), (3, _), (4, _), (5, _), (6, _)]) r_L_law__1479 rfl ?_
    refine EV.n0_ne r_L_law__1481 (fun z => absurd rfl z) (fun _ => ?_)
    refine EV.l (lv' := [(0, _), (1, _), (2, _), (3, _), (4, _), (5, _), (6, _)]) r_L_law__1484 rfl ?_
    refine EV.o r_L_law__1485 (icN (0) (v := 0)) ?_
    refine EV.laloadI r_L_law__1486.1 la_135 rfl (by decide) (by decide) ?_
    rw [show (wr J 135 0 v.toInt64) 135 0 = v.toInt64 from wr_same]
    show EV (some (L, xs)) M_L_law_ 41 1487 [(0, .ref spc), (1, .ref 0), (2, .ref 106), (3, .ref 135), (4, .int (nI (7 * c))), (5, .int (nI 0)), (6, .int v)] [.long v.toInt64] (hp I2 (wr J 135 0 v.toInt64)) _
    refine EV.l (lv' := [(0, _), (1, _), (2, _), (3, _), (4, _), (5, _), (6, _)]) r_L_law__1487 rfl ?_
    refine EV.o r_L_law__1489 rfl ?_
    refine EV.o r_L_law__1490 (st' := [.int (lg_cmp v.toInt64 v.toInt64)]) rfl ?_
    rw [lg_self]
    refine EV.n0_eq r_L_law__1491 (fun _ => ?_) (fun z => absurd rfl z)
    refine EV.g r_L_law__1496 ?_
    refine EV.l (lv' := [(0, _), (1, _), (2, _), (3, _), (4, _), (5, _), (6, _)]) r_L_law__2543 rfl ?_
    rw [inc_7]
    refine EV.g r_L_law__2546 ?_
    refine EV.fg (lv' := [(0, _), (1, _), (2, _), (3, _), (4, _)]) r_L_law__23 rfl rfl rfl ?_
    exact (cont I2 (wr J 135 0 v.toInt64) _ inv2).mono (fun r G q h => QN.of h (by omega))
  · obtain ⟨I1, h1, h2⟩ := hX1 J
    obtain ⟨b, I2, S2, h3, inv2, t2⟩ := h2 J
    show EV (some (L, xs)) M_L_law_ 41 1419 [(0, .ref spc), (1, .ref 0), (2, .ref 106), (3, .ref 135), (4, .int (nI (7 * c)))] [] (hp I J) _
    refine EV.l (lv' := [(0, _), (1, _), (2, _), (3, _), (4, _)]) r_L_law__1419 rfl ?_
    refine EV.l (lv' := [(0, _), (1, _), (2, _), (3, _), (4, _)]) r_L_law__1420 rfl ?_
    refine EV.l (lv' := [(0, _), (1, _), (2, _), (3, _), (4, _)]) r_L_law__1421 rfl ?_
    refine EV.o r_L_law__1423 (icN (1) (v := 1)) ?_
    refine EV.o r_L_law__1424 iaddN ?_
    refine EV.sld r_L_law__1425 (by omega) (by omega) ?_
    refine EV.l (lv' := [(0, _), (1, _), (2, _), (3, _), (4, _)]) r_L_law__1426 rfl ?_
    refine EV.l (lv' := [(0, _), (1, _), (2, _), (3, _), (4, _)]) r_L_law__1427 rfl ?_
    refine EV.o r_L_law__1429 (icN (2) (v := 2)) ?_
    refine EV.o r_L_law__1430 iaddN ?_
    refine EV.sld r_L_law__1431 (by omega) (by omega) ?_
    refine EV.l (lv' := [(0, _), (1, _), (2, _), (3, _), (4, _)]) r_L_law__1432 rfl ?_
    refine EV.l (lv' := [(0, _), (1, _), (2, _), (3, _), (4, _)]) r_L_law__1433 rfl ?_
    refine EV.o r_L_law__1435 (icN (3) (v := 3)) ?_
    refine EV.o r_L_law__1436 iaddN ?_
    refine EV.sld r_L_law__1437 (by omega) (by omega) ?_
    refine EV.l (lv' := [(0, _), (1, _), (2, _), (3, _), (4, _)]) r_L_law__1438 rfl ?_
    refine EV.inv r_L_law__1439.1 rfl (by decide) (aS5 mt_307) (Nat.le_of_ble_eq_true rfl) (wx1_order h1) (hp_len _ _ _ _) ?_
    show EV (some (L, xs)) M_L_law_ 41 1442 [(0, .ref spc), (1, .ref 0), (2, .ref 106), (3, .ref 135), (4, .int (nI (7 * c)))] [.int (nI 1)] (hp I1 J) _
    refine EV.l (lv' := [(0, _), (1, _), (2, _), (3, _), (4, _), (5, _)]) r_L_law__1442 rfl ?_
    refine EV.l (lv' := [(0, _), (1, _), (2, _), (3, _), (4, _), (5, _)]) r_L_law__1444 rfl ?_
    refine EV.l (lv' := [(0, _), (1, _), (2, _), (3, _), (4, _), (5, _)]) r_L_law__1445 rfl ?_
    refine EV.l (lv' := [(0, _), (1, _), (2, _), (3, _), (4, _), (5, _)]) r_L_law__1446 rfl ?_
    refine EV.o r_L_law__1448 (icN (1) (v := 1)) ?_
    refine EV.o r_L_law__1449 iaddN ?_
    refine EV.sld r_L_law__1450 (by omega) (by omega) ?_
    refine EV.l (lv' := [(0, _), (1, _), (2, _), (3, _), (4, _), (5, _)]) r_L_law__1451 rfl ?_
    refine EV.l (lv' := [(0, _), (1, _), (2, _), (3, _), (4, _), (5, _)]) r_L_law__1452 rfl ?_
    refine EV.o r_L_law__1454 (icN (2) (v := 2)) ?_
    refine EV.o r_L_law__1455 iaddN ?_
    refine EV.sld r_L_law__1456 (by omega) (by omega) ?_
    refine EV.l (lv' := [(0, _), (1, _), (2, _), (3, _), (4, _), (5, _)]) r_L_law__1457 rfl ?_
    refine EV.l (lv' := [(0, _), (1, _), (2, _), (3, _), (4, _), (5, _)]) r_L_law__1458 rfl ?_
    refine EV.o r_L_law__1460 (icN (3) (v := 3)) ?_
    refine EV.o r_L_law__1461 iaddN ?_
    refine EV.sld r_L_law__1462 (by omega) (by omega) ?_
    refine EV.inv r_L_law__1463.1 rfl (by decide) (aV3 mt_259 la_106) (Nat.le_of_ble_eq_true rfl) (h3) (hp_len _ _ _ _) ?_
    show EV (some (L, xs)) M_L_law_ 41 1466 [(0, .ref spc), (1, .ref 0), (2, .ref 106), (3, .ref 135), (4, .int (nI (7 * c))), (5, .int (nI 1))] [.int b] (hp I2 J) _
    refine EV.l (lv' := [(0, _), (1, _), (2, _), (3, _), (4, _), (5, _), (6, _)]) r_L_law__1466 rfl ?_
    refine EV.l (lv' := [(0, _), (1, _), (2, _), (3, _), (4, _), (5, _), (6, _)]) r_L_law__1468 rfl ?_
    refine EV.inv r_L_law__1469.1 rfl (by decide) (aV0 mt_168 la_106) (Nat.le_of_ble_eq_true rfl) (m_thrown (d := 41) (by omega)) (hp_len _ _ _ _) ?_
    show EV (some (L, xs)) M_L_law_ 41 1472 [(0, .ref spc), (1, .ref 0), (2, .ref 106), (3, .ref 135), (4, .int (nI (7 * c))), (5, .int (nI 1)), (6, .int b)] [.int (I2 106 0)] (hp I2 J) _
    rw [t2]
    refine EV.l (lv' := [(0, _), (1, _), (2, _), (3, _), (4, _), (5, _), (6, _)]) r_L_law__1472 rfl ?_
    refine EV.r2_eq r_L_law__1474 (fun _ => ?_) (fun z => absurd rfl z)
    refine EV.l (lv' := [(0, _), (1, _), (2, _), (3, _), (4, _), (5, _), (6, _)]) r_L_law__1479 rfl ?_
    refine EV.n0_ne r_L_law__1481 (fun _ => ?_) (fun z => absurd z (by decide))
    refine EV.g r_L_law__1496 ?_
    refine EV.l (lv' := [(0, _), (1, _), (2, _), (3, _), (4, _), (5, _), (6, _)]) r_L_law__2543 rfl ?_
    rw [inc_7]
    refine EV.g r_L_law__2546 ?_
    refine EV.fg (lv' := [(0, _), (1, _), (2, _), (3, _), (4, _)]) r_L_law__23 rfl rfl rfl ?_
    exact (cont I2 J _ inv2).mono (fun r G q h => QN.of h (by omega))
theorem lw_loaf {L c n : Nat} {xs : Nat → Int32} {I : Nat → Nat → Int32} {J : Nat → Nat → Int64} {S : STT} (hL : L ≤ 3584) (hc2 : 7 * c + 6 < L) (inv : INVS S I) (cont : ∀ (I2 : Nat → Nat → Int32) (J2 : Nat → Nat → Int64) (S2 : STT), INVS S2 I2 → EV (some (L, xs)) M_L_law_ 41 23 (LVc (c + 1)) [] (hp I2 J2) (QN n)) : EV (some (L, xs)) M_L_law_ 41 1499 (LVc c) [] (hp I J) (QN (n + 1)) := by
  rcases ans_loaf (a0 := xs (7 * c + 1)) (a1 := xs (7 * c + 2)) (a2 := xs (7 * c + 3)) inv with hV | hX0 | hX1
  · obtain ⟨v, I1, h1, h2⟩ := hV J
    obtain ⟨I2, S2, h3, inv2, t2⟩ := h2 (wr J 135 0 v.toInt64)
    show EV (some (L, xs)) M_L_law_ 41 1499 [(0, .ref spc), (1, .ref 0), (2, .ref 106), (3, .ref 135), (4, .int (nI (7 * c)))] [] (hp I J) _
    refine EV.l (lv' := [(0, _), (1, _), (2, _), (3, _), (4, _)]) r_L_law__1499 rfl ?_
    refine EV.l (lv' := [(0, _), (1, _), (2, _), (3, _), (4, _)]) r_L_law__1500 rfl ?_
    refine EV.l (lv' := [(0, _), (1, _), (2, _), (3, _), (4, _)]) r_L_law__1501 rfl ?_
    refine EV.o r_L_law__1503 (icN (1) (v := 1)) ?_
    refine EV.o r_L_law__1504 iaddN ?_
    refine EV.sld r_L_law__1505 (by omega) (by omega) ?_
    refine EV.l (lv' := [(0, _), (1, _), (2, _), (3, _), (4, _)]) r_L_law__1506 rfl ?_
    refine EV.l (lv' := [(0, _), (1, _), (2, _), (3, _), (4, _)]) r_L_law__1507 rfl ?_
    refine EV.o r_L_law__1509 (icN (2) (v := 2)) ?_
    refine EV.o r_L_law__1510 iaddN ?_
    refine EV.sld r_L_law__1511 (by omega) (by omega) ?_
    refine EV.l (lv' := [(0, _), (1, _), (2, _), (3, _), (4, _)]) r_L_law__1512 rfl ?_
    refine EV.l (lv' := [(0, _), (1, _), (2, _), (3, _), (4, _)]) r_L_law__1513 rfl ?_
    refine EV.o r_L_law__1515 (icN (3) (v := 3)) ?_
    refine EV.o r_L_law__1516 iaddN ?_
    refine EV.sld r_L_law__1517 (by omega) (by omega) ?_
    refine EV.l (lv' := [(0, _), (1, _), (2, _), (3, _), (4, _)]) r_L_law__1518 rfl ?_
    refine EV.inv r_L_law__1519.1 rfl (by decide) (aS5 mt_308) (Nat.le_of_ble_eq_true rfl) (wv_loaf h1) (hp_len _ _ _ _) ?_
    show EV (some (L, xs)) M_L_law_ 41 1522 [(0, .ref spc), (1, .ref 0), (2, .ref 106), (3, .ref 135), (4, .int (nI (7 * c)))] [.int (nI 0)] (hp I1 (wr J 135 0 v.toInt64)) _
    refine EV.l (lv' := [(0, _), (1, _), (2, _), (3, _), (4, _), (5, _)]) r_L_law__1522 rfl ?_
    refine EV.l (lv' := [(0, _), (1, _), (2, _), (3, _), (4, _), (5, _)]) r_L_law__1524 rfl ?_
    refine EV.l (lv' := [(0, _), (1, _), (2, _), (3, _), (4, _), (5, _)]) r_L_law__1525 rfl ?_
    refine EV.l (lv' := [(0, _), (1, _), (2, _), (3, _), (4, _), (5, _)]) r_L_law__1526 rfl ?_
    refine EV.o r_L_law__1528 (icN (1) (v := 1)) ?_
    refine EV.o r_L_law__1529 iaddN ?_
    refine EV.sld r_L_law__1530 (by omega) (by omega) ?_
    refine EV.l (lv' := [(0, _), (1, _), (2, _), (3, _), (4, _), (5, _)]) r_L_law__1531 rfl ?_
    refine EV.l (lv' := [(0, _), (1, _), (2, _), (3, _), (4, _), (5, _)]) r_L_law__1532 rfl ?_
    refine EV.o r_L_law__1534 (icN (2) (v := 2)) ?_
    refine EV.o r_L_law__1535 iaddN ?_
    refine EV.sld r_L_law__1536 (by omega) (by omega) ?_
    refine EV.l (lv' := [(0, _), (1, _), (2, _), (3, _), (4, _), (5, _)]) r_L_law__1537 rfl ?_
    refine EV.l (lv' := [(0, _), (1, _), (2, _), (3, _), (4, _), (5, _)]) r_L_law__1538 rfl ?_
    refine EV.o r_L_law__1540 (icN (3) (v := 3)) ?_
    refine EV.o r_L_law__1541 iaddN ?_
    refine EV.sld r_L_law__1542 (by omega) (by omega) ?_
    refine EV.inv r_L_law__1543.1 rfl (by decide) (aV3 mt_263 la_106) (Nat.le_of_ble_eq_true rfl) (h3) (hp_len _ _ _ _) ?_
    show EV (some (L, xs)) M_L_law_ 41 1546 [(0, .ref spc), (1, .ref 0), (2, .ref 106), (3, .ref 135), (4, .int (nI (7 * c))), (5, .int (nI 0))] [.int v] (hp I2 (wr J 135 0 v.toInt64)) _
    refine EV.l (lv' := [(0, _), (1, _), (2, _), (3, _), (4, _), (5, _), (6, _)]) r_L_law__1546 rfl ?_
    refine EV.l (lv' := [(0, _), (1, _), (2, _), (3, _), (4, _), (5, _), (6, _)]) r_L_law__1548 rfl ?_
    refine EV.inv r_L_law__1549.1 rfl (by decide) (aV0 mt_168 la_106) (Nat.le_of_ble_eq_true rfl) (m_thrown (d := 41) (by omega)) (hp_len _ _ _ _) ?_
    show EV (some (L, xs)) M_L_law_ 41 1552 [(0, .ref spc), (1, .ref 0), (2, .ref 106), (3, .ref 135), (4, .int (nI (7 * c))), (5, .int (nI 0)), (6, .int v)] [.int (I2 106 0)] (hp I2 (wr J 135 0 v.toInt64)) _
    rw [t2]
    refine EV.l (lv' := [(0, _), (1, _), (2, _), (3, _), (4, _), (5, _), (6, _)]) r_L_law__1552 rfl ?_
    refine EV.r2_eq r_L_law__1554 (fun _ => ?_) (fun z => absurd rfl z)
    refine EV.l (lv' := [(0, _), (1, _), (2, _), (3, _), (4, _), (5, _), (6, _)]) r_L_law__1559 rfl ?_
    refine EV.n0_ne r_L_law__1561 (fun z => absurd rfl z) (fun _ => ?_)
    refine EV.l (lv' := [(0, _), (1, _), (2, _), (3, _), (4, _), (5, _), (6, _)]) r_L_law__1564 rfl ?_
    refine EV.o r_L_law__1565 (icN (0) (v := 0)) ?_
    refine EV.laloadI r_L_law__1566.1 la_135 rfl (by decide) (by decide) ?_
    rw [show (wr J 135 0 v.toInt64) 135 0 = v.toInt64 from wr_same]
    show EV (some (L, xs)) M_L_law_ 41 1567 [(0, .ref spc), (1, .ref 0), (2, .ref 106), (3, .ref 135), (4, .int (nI (7 * c))), (5, .int (nI 0)), (6, .int v)] [.long v.toInt64] (hp I2 (wr J 135 0 v.toInt64)) _
    refine EV.l (lv' := [(0, _), (1, _), (2, _), (3, _), (4, _), (5, _), (6, _)]) r_L_law__1567 rfl ?_
    refine EV.o r_L_law__1569 rfl ?_
    refine EV.o r_L_law__1570 (st' := [.int (lg_cmp v.toInt64 v.toInt64)]) rfl ?_
    rw [lg_self]
    refine EV.n0_eq r_L_law__1571 (fun _ => ?_) (fun z => absurd rfl z)
    refine EV.g r_L_law__1576 ?_
    refine EV.l (lv' := [(0, _), (1, _), (2, _), (3, _), (4, _), (5, _), (6, _)]) r_L_law__2543 rfl ?_
    rw [inc_7]
    refine EV.g r_L_law__2546 ?_
    refine EV.fg (lv' := [(0, _), (1, _), (2, _), (3, _), (4, _)]) r_L_law__23 rfl rfl rfl ?_
    exact (cont I2 (wr J 135 0 v.toInt64) _ inv2).mono (fun r G q h => QN.of h (by omega))
  · obtain ⟨I1, h1, h2⟩ := hX0 J
    obtain ⟨b, I2, S2, h3, inv2, t2⟩ := h2 J
    show EV (some (L, xs)) M_L_law_ 41 1499 [(0, .ref spc), (1, .ref 0), (2, .ref 106), (3, .ref 135), (4, .int (nI (7 * c)))] [] (hp I J) _
    refine EV.l (lv' := [(0, _), (1, _), (2, _), (3, _), (4, _)]) r_L_law__1499 rfl ?_
    refine EV.l (lv' := [(0, _), (1, _), (2, _), (3, _), (4, _)]) r_L_law__1500 rfl ?_
    refine EV.l (lv' := [(0, _), (1, _), (2, _), (3, _), (4, _)]) r_L_law__1501 rfl ?_
    refine EV.o r_L_law__1503 (icN (1) (v := 1)) ?_
    refine EV.o r_L_law__1504 iaddN ?_
    refine EV.sld r_L_law__1505 (by omega) (by omega) ?_
    refine EV.l (lv' := [(0, _), (1, _), (2, _), (3, _), (4, _)]) r_L_law__1506 rfl ?_
    refine EV.l (lv' := [(0, _), (1, _), (2, _), (3, _), (4, _)]) r_L_law__1507 rfl ?_
    refine EV.o r_L_law__1509 (icN (2) (v := 2)) ?_
    refine EV.o r_L_law__1510 iaddN ?_
    refine EV.sld r_L_law__1511 (by omega) (by omega) ?_
    refine EV.l (lv' := [(0, _), (1, _), (2, _), (3, _), (4, _)]) r_L_law__1512 rfl ?_
    refine EV.l (lv' := [(0, _), (1, _), (2, _), (3, _), (4, _)]) r_L_law__1513 rfl ?_
    refine EV.o r_L_law__1515 (icN (3) (v := 3)) ?_
    refine EV.o r_L_law__1516 iaddN ?_
    refine EV.sld r_L_law__1517 (by omega) (by omega) ?_
    refine EV.l (lv' := [(0, _), (1, _), (2, _), (3, _), (4, _)]) r_L_law__1518 rfl ?_
    refine EV.inv r_L_law__1519.1 rfl (by decide) (aS5 mt_308) (Nat.le_of_ble_eq_true rfl) (wx0_loaf h1) (hp_len _ _ _ _) ?_
    show EV (some (L, xs)) M_L_law_ 41 1522 [(0, .ref spc), (1, .ref 0), (2, .ref 106), (3, .ref 135), (4, .int (nI (7 * c)))] [.int (nI 1)] (hp I1 J) _
    refine EV.l (lv' := [(0, _), (1, _), (2, _), (3, _), (4, _), (5, _)]) r_L_law__1522 rfl ?_
    refine EV.l (lv' := [(0, _), (1, _), (2, _), (3, _), (4, _), (5, _)]) r_L_law__1524 rfl ?_
    refine EV.l (lv' := [(0, _), (1, _), (2, _), (3, _), (4, _), (5, _)]) r_L_law__1525 rfl ?_
    refine EV.l (lv' := [(0, _), (1, _), (2, _), (3, _), (4, _), (5, _)]) r_L_law__1526 rfl ?_
    refine EV.o r_L_law__1528 (icN (1) (v := 1)) ?_
    refine EV.o r_L_law__1529 iaddN ?_
    refine EV.sld r_L_law__1530 (by omega) (by omega) ?_
    refine EV.l (lv' := [(0, _), (1, _), (2, _), (3, _), (4, _), (5, _)]) r_L_law__1531 rfl ?_
    refine EV.l (lv' := [(0, _), (1, _), (2, _), (3, _), (4, _), (5, _)]) r_L_law__1532 rfl ?_
    refine EV.o r_L_law__1534 (icN (2) (v := 2)) ?_
    refine EV.o r_L_law__1535 iaddN ?_
    refine EV.sld r_L_law__1536 (by omega) (by omega) ?_
    refine EV.l (lv' := [(0, _), (1, _), (2, _), (3, _), (4, _), (5, _)]) r_L_law__1537 rfl ?_
    refine EV.l (lv' := [(0, _), (1, _), (2, _), (3, _), (4, _), (5, _)]) r_L_law__1538 rfl ?_
    refine EV.o r_L_law__1540 (icN (3) (v := 3)) ?_
    refine EV.o r_L_law__1541 iaddN ?_
    refine EV.sld r_L_law__1542 (by omega) (by omega) ?_
    refine EV.inv r_L_law__1543.1 rfl (by decide) (aV3 mt_263 la_106) (Nat.le_of_ble_eq_true rfl) (h3) (hp_len _ _ _ _) ?_
    show EV (some (L, xs)) M_L_law_ 41 1546 [(0, .ref spc), (1, .ref 0), (2, .ref 106), (3, .ref 135), (4, .int (nI (7 * c))), (5, .int (nI 1))] [.int b] (hp I2 J) _
    refine EV.l (lv' := [(0, _), (1, _), (2, _), (3, _), (4, _), (5, _), (6, _)]) r_L_law__1546 rfl ?_
    refine EV.l (lv' := [(0, _), (1, _), (2, _), (3, _), (4, _), (5, _), (6, _)]) r_L_law__1548 rfl ?_
    refine EV.inv r_L_law__1549.1 rfl (by decide) (aV0 mt_168 la_106) (Nat.le_of_ble_eq_true rfl) (m_thrown (d := 41) (by omega)) (hp_len _ _ _ _) ?_
    show EV (some (L, xs)) M_L_law_ 41 1552 [(0, .ref spc), (1, .ref 0), (2, .ref 106), (3, .ref 135), (4, .int (nI (7 * c))), (5, .int (nI 1)), (6, .int b)] [.int (I2 106 0)] (hp I2 J) _
    rw [t2]
    refine EV.l (lv' := [(0, _), (1, _), (2, _), (3, _), (4, _), (5, _), (6, _)]) r_L_law__1552 rfl ?_
    refine EV.r2_eq r_L_law__1554 (fun _ => ?_) (fun z => absurd rfl z)
    refine EV.l (lv' := [(0, _), (1, _), (2, _), (3, _), (4, _), (5, _), (6, _)]) r_L_law__1559 rfl ?_
    refine EV.n0_ne r_L_law__1561 (fun _ => ?_) (fun z => absurd z (by decide))
    refine EV.g r_L_law__1576 ?_
    refine EV.l (lv' := [(0, _), (1, _), (2, _), (3, _), (4, _), (5, _), (6, _)]) r_L_law__2543 rfl ?_
    rw [inc_7]
    refine EV.g r_L_law__2546 ?_
    refine EV.fg (lv' := [(0, _), (1, _), (2, _), (3, _), (4, _)]) r_L_law__23 rfl rfl rfl ?_
    exact (cont I2 J _ inv2).mono (fun r G q h => QN.of h (by omega))
  · obtain ⟨I1, h1, h2⟩ := hX1 J
    obtain ⟨b, I2, S2, h3, inv2, t2⟩ := h2 J
    show EV (some (L, xs)) M_L_law_ 41 1499 [(0, .ref spc), (1, .ref 0), (2, .ref 106), (3, .ref 135), (4, .int (nI (7 * c)))] [] (hp I J) _
    refine EV.l (lv' := [(0, _), (1, _), (2, _), (3, _), (4, _)]) r_L_law__1499 rfl ?_
    refine EV.l (lv' := [(0, _), (1, _), (2, _), (3, _), (4, _)]) r_L_law__1500 rfl ?_
    refine EV.l (lv' := [(0, _), (1, _), (2, _), (3, _), (4, _)]) r_L_law__1501 rfl ?_
    refine EV.o r_L_law__1503 (icN (1) (v := 1)) ?_
    refine EV.o r_L_law__1504 iaddN ?_
    refine EV.sld r_L_law__1505 (by omega) (by omega) ?_
    refine EV.l (lv' := [(0, _), (1, _), (2, _), (3, _), (4, _)]) r_L_law__1506 rfl ?_
    refine EV.l (lv' := [(0, _), (1, _), (2, _), (3, _), (4, _)]) r_L_law__1507 rfl ?_
    refine EV.o r_L_law__1509 (icN (2) (v := 2)) ?_
    refine EV.o r_L_law__1510 iaddN ?_
    refine EV.sld r_L_law__1511 (by omega) (by omega) ?_
    refine EV.l (lv' := [(0, _), (1, _), (2, _), (3, _), (4, _)]) r_L_law__1512 rfl ?_
    refine EV.l (lv' := [(0, _), (1, _), (2, _), (3, _), (4, _)]) r_L_law__1513 rfl ?_
    refine EV.o r_L_law__1515 (icN (3) (v := 3)) ?_
    refine EV.o r_L_law__1516 iaddN ?_
    refine EV.sld r_L_law__1517 (by omega) (by omega) ?_
    refine EV.l (lv' := [(0, _), (1, _), (2, _), (3, _), (4, _)]) r_L_law__1518 rfl ?_
    refine EV.inv r_L_law__1519.1 rfl (by decide) (aS5 mt_308) (Nat.le_of_ble_eq_true rfl) (wx1_loaf h1) (hp_len _ _ _ _) ?_
    show EV (some (L, xs)) M_L_law_ 41 1522 [(0, .ref spc), (1, .ref 0), (2, .ref 106), (3, .ref 135), (4, .int (nI (7 * c)))] [.int (nI 2)] (hp I1 J) _
    refine EV.l (lv' := [(0, _), (1, _), (2, _), (3, _), (4, _), (5, _)]) r_L_law__1522 rfl ?_
    refine EV.l (lv' := [(0, _), (1, _), (2, _), (3, _), (4, _), (5, _)]) r_L_law__1524 rfl ?_
    refine EV.l (lv' := [(0, _), (1, _), (2, _), (3, _), (4, _), (5, _)]) r_L_law__1525 rfl ?_
    refine EV.l (lv' := [(0, _), (1, _), (2, _), (3, _), (4, _), (5, _)]) r_L_law__1526 rfl ?_
    refine EV.o r_L_law__1528 (icN (1) (v := 1)) ?_
    refine EV.o r_L_law__1529 iaddN ?_
    refine EV.sld r_L_law__1530 (by omega) (by omega) ?_
    refine EV.l (lv' := [(0, _), (1, _), (2, _), (3, _), (4, _), (5, _)]) r_L_law__1531 rfl ?_
    refine EV.l (lv' := [(0, _), (1, _), (2, _), (3, _), (4, _), (5, _)]) r_L_law__1532 rfl ?_
    refine EV.o r_L_law__1534 (icN (2) (v := 2)) ?_
    refine EV.o r_L_law__1535 iaddN ?_
    refine EV.sld r_L_law__1536 (by omega) (by omega) ?_
    refine EV.l (lv' := [(0, _), (1, _), (2, _), (3, _), (4, _), (5, _)]) r_L_law__1537 rfl ?_
    refine EV.l (lv' := [(0, _), (1, _), (2, _), (3, _), (4, _), (5, _)]) r_L_law__1538 rfl ?_
    refine EV.o r_L_law__1540 (icN (3) (v := 3)) ?_
    refine EV.o r_L_law__1541 iaddN ?_
    refine EV.sld r_L_law__1542 (by omega) (by omega) ?_
    refine EV.inv r_L_law__1543.1 rfl (by decide) (aV3 mt_263 la_106) (Nat.le_of_ble_eq_true rfl) (h3) (hp_len _ _ _ _) ?_
    show EV (some (L, xs)) M_L_law_ 41 1546 [(0, .ref spc), (1, .ref 0), (2, .ref 106), (3, .ref 135), (4, .int (nI (7 * c))), (5, .int (nI 2))] [.int b] (hp I2 J) _
    refine EV.l (lv' := [(0, _), (1, _), (2, _), (3, _), (4, _), (5, _), (6, _)]) r_L_law__1546 rfl ?_
    refine EV.l (lv' := [(0, _), (1, _), (2, _), (3, _), (4, _), (5, _), (6, _)]) r_L_law__1548 rfl ?_
    refine EV.inv r_L_law__1549.1 rfl (by decide) (aV0 mt_168 la_106) (Nat.le_of_ble_eq_true rfl) (m_thrown (d := 41) (by omega)) (hp_len _ _ _ _) ?_
    show EV (some (L, xs)) M_L_law_ 41 1552 [(0, .ref spc), (1, .ref 0), (2, .ref 106), (3, .ref 135), (4, .int (nI (7 * c))), (5, .int (nI 2)), (6, .int b)] [.int (I2 106 0)] (hp I2 J) _
    rw [t2]
    refine EV.l (lv' := [(0, _), (1, _), (2, _), (3, _), (4, _), (5, _), (6, _)]) r_L_law__1552 rfl ?_
    refine EV.r2_eq r_L_law__1554 (fun _ => ?_) (fun z => absurd rfl z)
    refine EV.l (lv' := [(0, _), (1, _), (2, _), (3, _), (4, _), (5, _), (6, _)]) r_L_law__1559 rfl ?_
    refine EV.n0_ne r_L_law__1561 (fun _ => ?_) (fun z => absurd z (by decide))
    refine EV.g r_L_law__1576 ?_
    refine EV.l (lv' := [(0, _), (1, _), (2, _), (3, _), (4, _), (5, _), (6, _)]) r_L_law__2543 rfl ?_
    rw [inc_7]
    refine EV.g r_L_law__2546 ?_
    refine EV.fg (lv' := [(0, _), (1, _), (2, _), (3, _), (4, _)]) r_L_law__23 rfl rfl rfl ?_
    exact (cont I2 J _ inv2).mono (fun r G q h => QN.of h (by omega))
