/-! (goes on) -/
theorem lw_image {L c n : Nat} {xs : Nat → Int32} {I : Nat → Nat → Int32} {J : Nat → Nat → Int64} {S : STT} (hL : L ≤ 3584) (hc2 : 7 * c + 6 < L) (inv : INVS S I) (cont : ∀ (I2 : Nat → Nat → Int32) (J2 : Nat → Nat → Int64) (S2 : STT), INVS S2 I2 → EV (some (L, xs)) M_L_law_ 41 23 (LVc (c + 1)) [] (hp I2 J2) (QN n)) : EV (some (L, xs)) M_L_law_ 41 2467 (LVc c) [] (hp I J) (QN (n + 1)) := by
  obtain ⟨v, I1, h1, h2⟩ := ans_image inv J
  obtain ⟨I2, S2, h3, inv2, t2⟩ := h2 J
  show EV (some (L, xs)) M_L_law_ 41 2467 [(0, .ref spc), (1, .ref 0), (2, .ref 106), (3, .ref 135), (4, .int (nI (7 * c)))] [] (hp I J) _
  refine EV.l (lv' := [(0, _), (1, _), (2, _), (3, _), (4, _)]) r_L_law__2467 rfl ?_
  refine EV.inv r_L_law__2468.1 rfl (by decide) (aV0 mt_152 la_0) (Nat.le_of_ble_eq_true rfl) (h1) (hp_len _ _ _ _) ?_
  show EV (some (L, xs)) M_L_law_ 41 2471 [(0, .ref spc), (1, .ref 0), (2, .ref 106), (3, .ref 135), (4, .int (nI (7 * c)))] [.int v] (hp I1 J) _
  refine EV.l (lv' := [(0, _), (1, _), (2, _), (3, _), (4, _)]) r_L_law__2471 rfl ?_
  refine EV.inv r_L_law__2472.1 rfl (by decide) (aV0 mt_287 la_106) (Nat.le_of_ble_eq_true rfl) (h3) (hp_len _ _ _ _) ?_
  show EV (some (L, xs)) M_L_law_ 41 2475 [(0, .ref spc), (1, .ref 0), (2, .ref 106), (3, .ref 135), (4, .int (nI (7 * c)))] [.int v, .int v] (hp I2 J) _
  refine EV.r2_eq r_L_law__2475 (fun _ => ?_) (fun z => absurd rfl z)
  refine EV.l (lv' := [(0, _), (1, _), (2, _), (3, _), (4, _)]) r_L_law__2543 rfl ?_
  rw [inc_7]
  refine EV.g r_L_law__2546 ?_
  exact (cont I2 J _ inv2).mono (fun r G q h => QN.of h (by omega))
theorem lw_restore {L c n : Nat} {xs : Nat → Int32} {I : Nat → Nat → Int32} {J : Nat → Nat → Int64} {S : STT} (hL : L ≤ 3584) (hc2 : 7 * c + 6 < L) (inv : INVS S I) (cont : ∀ (I2 : Nat → Nat → Int32) (J2 : Nat → Nat → Int64) (S2 : STT), INVS S2 I2 → EV (some (L, xs)) M_L_law_ 41 23 (LVc (c + 1)) [] (hp I2 J2) (QN n)) : EV (some (L, xs)) M_L_law_ 41 2480 (LVc c) [] (hp I J) (QN (n + 1)) := by
  obtain ⟨v, I1, h1, h2⟩ := ans_restore inv J
  obtain ⟨I2, S2, h3, inv2, t2⟩ := h2 J
  show EV (some (L, xs)) M_L_law_ 41 2480 [(0, .ref spc), (1, .ref 0), (2, .ref 106), (3, .ref 135), (4, .int (nI (7 * c)))] [] (hp I J) _
  refine EV.l (lv' := [(0, _), (1, _), (2, _), (3, _), (4, _)]) r_L_law__2480 rfl ?_
  refine EV.inv r_L_law__2481.1 rfl (by decide) (aV0 mt_153 la_0) (Nat.le_of_ble_eq_true rfl) (h1) (hp_len _ _ _ _) ?_
  show EV (some (L, xs)) M_L_law_ 41 2484 [(0, .ref spc), (1, .ref 0), (2, .ref 106), (3, .ref 135), (4, .int (nI (7 * c)))] [.int v] (hp I1 J) _
  refine EV.l (lv' := [(0, _), (1, _), (2, _), (3, _), (4, _)]) r_L_law__2484 rfl ?_
  refine EV.inv r_L_law__2485.1 rfl (by decide) (aV0 mt_288 la_106) (Nat.le_of_ble_eq_true rfl) (h3) (hp_len _ _ _ _) ?_
  show EV (some (L, xs)) M_L_law_ 41 2488 [(0, .ref spc), (1, .ref 0), (2, .ref 106), (3, .ref 135), (4, .int (nI (7 * c)))] [.int v, .int v] (hp I2 J) _
  refine EV.r2_eq r_L_law__2488 (fun _ => ?_) (fun z => absurd rfl z)
  refine EV.l (lv' := [(0, _), (1, _), (2, _), (3, _), (4, _)]) r_L_law__2543 rfl ?_
  rw [inc_7]
  refine EV.g r_L_law__2546 ?_
  exact (cont I2 J _ inv2).mono (fun r G q h => QN.of h (by omega))
theorem lw_status {L c n : Nat} {xs : Nat → Int32} {I : Nat → Nat → Int32} {J : Nat → Nat → Int64} {S : STT} (hL : L ≤ 3584) (hc2 : 7 * c + 6 < L) (inv : INVS S I) (cont : ∀ (I2 : Nat → Nat → Int32) (J2 : Nat → Nat → Int64) (S2 : STT), INVS S2 I2 → EV (some (L, xs)) M_L_law_ 41 23 (LVc (c + 1)) [] (hp I2 J2) (QN n)) : EV (some (L, xs)) M_L_law_ 41 2493 (LVc c) [] (hp I J) (QN (n + 1)) := by
  obtain ⟨v, I1, h1, h2⟩ := ans_status (a0 := xs (7 * c + 1)) inv J
  obtain ⟨I2, S2, h3, inv2, t2⟩ := h2 J
  show EV (some (L, xs)) M_L_law_ 41 2493 [(0, .ref spc), (1, .ref 0), (2, .ref 106), (3, .ref 135), (4, .int (nI (7 * c)))] [] (hp I J) _
  refine EV.l (lv' := [(0, _), (1, _), (2, _), (3, _), (4, _)]) r_L_law__2493 rfl ?_
  refine EV.l (lv' := [(0, _), (1, _), (2, _), (3, _), (4, _)]) r_L_law__2494 rfl ?_
  refine EV.l (lv' := [(0, _), (1, _), (2, _), (3, _), (4, _)]) r_L_law__2495 rfl ?_
  refine EV.o r_L_law__2497 (icN (1) (v := 1)) ?_
  refine EV.o r_L_law__2498 iaddN ?_
  refine EV.sld r_L_law__2499 (by omega) (by omega) ?_
  refine EV.inv r_L_law__2500.1 rfl (by decide) (aV1 mt_154 la_0) (Nat.le_of_ble_eq_true rfl) (h1) (hp_len _ _ _ _) ?_
  show EV (some (L, xs)) M_L_law_ 41 2503 [(0, .ref spc), (1, .ref 0), (2, .ref 106), (3, .ref 135), (4, .int (nI (7 * c)))] [.int v] (hp I1 J) _
  refine EV.l (lv' := [(0, _), (1, _), (2, _), (3, _), (4, _)]) r_L_law__2503 rfl ?_
  refine EV.l (lv' := [(0, _), (1, _), (2, _), (3, _), (4, _)]) r_L_law__2504 rfl ?_
  refine EV.l (lv' := [(0, _), (1, _), (2, _), (3, _), (4, _)]) r_L_law__2505 rfl ?_
  refine EV.o r_L_law__2507 (icN (1) (v := 1)) ?_
  refine EV.o r_L_law__2508 iaddN ?_
  refine EV.sld r_L_law__2509 (by omega) (by omega) ?_
  refine EV.inv r_L_law__2510.1 rfl (by decide) (aV1 mt_289 la_106) (Nat.le_of_ble_eq_true rfl) (h3) (hp_len _ _ _ _) ?_
  show EV (some (L, xs)) M_L_law_ 41 2513 [(0, .ref spc), (1, .ref 0), (2, .ref 106), (3, .ref 135), (4, .int (nI (7 * c)))] [.int v, .int v] (hp I2 J) _
  refine EV.r2_eq r_L_law__2513 (fun _ => ?_) (fun z => absurd rfl z)
  refine EV.l (lv' := [(0, _), (1, _), (2, _), (3, _), (4, _)]) r_L_law__2543 rfl ?_
  rw [inc_7]
  refine EV.g r_L_law__2546 ?_
  exact (cont I2 J _ inv2).mono (fun r G q h => QN.of h (by omega))
theorem lw_count {L c n : Nat} {xs : Nat → Int32} {I : Nat → Nat → Int32} {J : Nat → Nat → Int64} {S : STT} (hL : L ≤ 3584) (hc2 : 7 * c + 6 < L) (inv : INVS S I) (cont : ∀ (I2 : Nat → Nat → Int32) (J2 : Nat → Nat → Int64) (S2 : STT), INVS S2 I2 → EV (some (L, xs)) M_L_law_ 41 23 (LVc (c + 1)) [] (hp I2 J2) (QN n)) : EV (some (L, xs)) M_L_law_ 41 2518 (LVc c) [] (hp I J) (QN (n + 1)) := by
  obtain ⟨v, I1, h1, h2⟩ := ans_count (a0 := xs (7 * c + 1)) inv J
  obtain ⟨I2, S2, h3, inv2, t2⟩ := h2 J
  show EV (some (L, xs)) M_L_law_ 41 2518 [(0, .ref spc), (1, .ref 0), (2, .ref 106), (3, .ref 135), (4, .int (nI (7 * c)))] [] (hp I J) _
  refine EV.l (lv' := [(0, _), (1, _), (2, _), (3, _), (4, _)]) r_L_law__2518 rfl ?_
  refine EV.l (lv' := [(0, _), (1, _), (2, _), (3, _), (4, _)]) r_L_law__2519 rfl ?_
  refine EV.l (lv' := [(0, _), (1, _), (2, _), (3, _), (4, _)]) r_L_law__2520 rfl ?_
  refine EV.o r_L_law__2522 (icN (1) (v := 1)) ?_
  refine EV.o r_L_law__2523 iaddN ?_
  refine EV.sld r_L_law__2524 (by omega) (by omega) ?_
  refine EV.inv r_L_law__2525.1 rfl (by decide) (aV1 mt_155 la_0) (Nat.le_of_ble_eq_true rfl) (h1) (hp_len _ _ _ _) ?_
  show EV (some (L, xs)) M_L_law_ 41 2528 [(0, .ref spc), (1, .ref 0), (2, .ref 106), (3, .ref 135), (4, .int (nI (7 * c)))] [.int v] (hp I1 J) _
  refine EV.l (lv' := [(0, _), (1, _), (2, _), (3, _), (4, _)]) r_L_law__2528 rfl ?_
  refine EV.l (lv' := [(0, _), (1, _), (2, _), (3, _), (4, _)]) r_L_law__2529 rfl ?_
  refine EV.l (lv' := [(0, _), (1, _), (2, _), (3, _), (4, _)]) r_L_law__2530 rfl ?_
  refine EV.o r_L_law__2532 (icN (1) (v := 1)) ?_
  refine EV.o r_L_law__2533 iaddN ?_
  refine EV.sld r_L_law__2534 (by omega) (by omega) ?_
  refine EV.inv r_L_law__2535.1 rfl (by decide) (aV1 mt_290 la_106) (Nat.le_of_ble_eq_true rfl) (h3) (hp_len _ _ _ _) ?_
  show EV (some (L, xs)) M_L_law_ 41 2538 [(0, .ref spc), (1, .ref 0), (2, .ref 106), (3, .ref 135), (4, .int (nI (7 * c)))] [.int v, .int v] (hp I2 J) _
  refine EV.r2_eq r_L_law__2538 (fun _ => ?_) (fun z => absurd rfl z)
  refine EV.l (lv' := [(0, _), (1, _), (2, _), (3, _), (4, _)]) r_L_law__2543 rfl ?_
  rw [inc_7]
  refine EV.g r_L_law__2546 ?_
  exact (cont I2 J _ inv2).mono (fun r G q h => QN.of h (by omega))
theorem lw_loop {L : Nat} {xs : Nat → Int32} (hL : L ≤ 3584) : ∀ (n c : Nat) (I : Nat → Nat → Int32) (J : Nat → Nat → Int64) (S : STT), L ≤ 7 * c + 7 * n + 6 → 7 * c < 100000 → INVS S I → EV (some (L, xs)) M_L_law_ 41 23 (LVc c) [] (hp I J) (QN n)
  | n, c, I, J, S, hn, hc9, inv => by
    show EV (some (L, xs)) M_L_law_ 41 23 [(0, .ref spc), (1, .ref 0), (2, .ref 106), (3, .ref 135), (4, .int (nI (7 * c)))] [] (hp I J) _
    refine EV.l (lv' := [(0, _), (1, _), (2, _), (3, _), (4, _)]) r_L_law__23 rfl ?_
    refine EV.l (lv' := [(0, _), (1, _), (2, _), (3, _), (4, _)]) r_L_law__25 rfl ?_
    refine EV.slen r_L_law__26 ?_
    refine EV.o r_L_law__27 (bpN (7) 7) ?_
    refine EV.o r_L_law__29 isubNZ ?_
    refine EV.nz2_gt r_L_law__30 (fun _ => ?_) (fun hle => ?_)
    · refine EV.o r_L_law__2549 (icN (1) (v := 1)) ?_
      exact EV.ret r_L_law__2550.1 rfl ⟨rfl, Nat.zero_le _⟩
    · have hc2 : 7 * c + 6 < L := by omega
      obtain ⟨n, rfl⟩ : ∃ k, n = k + 1 := ⟨n - 1, by omega⟩
      have cont : ∀ (I2 : Nat → Nat → Int32) (J2 : Nat → Nat → Int64) (S2 : STT), INVS S2 I2 → EV (some (L, xs)) M_L_law_ 41 23 (LVc (c + 1)) [] (hp I2 J2) (QN n) := fun I2 J2 S2 i2 => lw_loop hL n (c + 1) I2 J2 S2 (by omega) (by omega) i2
      refine EV.l (lv' := [(0, _), (1, _), (2, _), (3, _), (4, _)]) r_L_law__33 rfl ?_
      refine EV.l (lv' := [(0, _), (1, _), (2, _), (3, _), (4, _)]) r_L_law__34 rfl ?_
      refine EV.sld r_L_law__36 (by omega) (by omega) ?_
      obtain ⟨a, -, ea⟩ := i_n (xs (7 * c))
      rw [ea]
      refine EV.o r_L_law__37 (bpN (63) 63) ?_
      refine EV.o r_L_law__39 iandN ?_
      have hy : a &&& 63 ≤ 63 := Nat.and_le_right
      generalize a &&& 63 = y at hy ⊢
      by_cases h43 : y < 43
      · have ys : y = 0 ∨ y = 1 ∨ y = 2 ∨ y = 3 ∨ y = 4 ∨ y = 5 ∨ y = 6 ∨ y = 7 ∨ y = 8 ∨ y = 9 ∨ y = 10 ∨ y = 11 ∨ y = 12 ∨ y = 13 ∨ y = 14 ∨ y = 15 ∨ y = 16 ∨ y = 17 ∨ y = 18 ∨ y = 19 ∨ y = 20 ∨ y = 21 ∨ y = 22 ∨ y = 23 ∨ y = 24 ∨ y = 25 ∨ y = 26 ∨ y = 27 ∨ y = 28 ∨ y = 29 ∨ y = 30 ∨ y = 31 ∨ y = 32 ∨ y = 33 ∨ y = 34 ∨ y = 35 ∨ y = 36 ∨ y = 37 ∨ y = 38 ∨ y = 39 ∨ y = 40 ∨ y = 41 ∨ y = 42 := by omega
        rcases ys with rfl | rfl | rfl | rfl | rfl | rfl | rfl | rfl | rfl | rfl | rfl | rfl | rfl | rfl | rfl | rfl | rfl | rfl | rfl | rfl | rfl | rfl | rfl | rfl | rfl | rfl | rfl | rfl | rfl | rfl | rfl | rfl | rfl | rfl | rfl | rfl | rfl | rfl | rfl | rfl | rfl | rfl | rfl
        · exact EV.ts (q := 228) r_L_law__40 (by decide +kernel) (lw_feed hL hc2 inv cont)
        · exact EV.ts (q := 301) r_L_law__40 (by decide +kernel) (lw_court hL hc2 inv cont)
        · exact EV.ts (q := 357) r_L_law__40 (by decide +kernel) (lw_law hL hc2 inv cont)
        · exact EV.ts (q := 413) r_L_law__40 (by decide +kernel) (lw_work hL hc2 inv cont)
        · exact EV.ts (q := 469) r_L_law__40 (by decide +kernel) (lw_book hL hc2 inv cont)
        · exact EV.ts (q := 525) r_L_law__40 (by decide +kernel) (lw_fault hL hc2 inv cont)
        · exact EV.ts (q := 538) r_L_law__40 (by decide +kernel) (lw_undo hL hc2 inv cont)
        · exact EV.ts (q := 551) r_L_law__40 (by decide +kernel) (lw_told hL hc2 inv cont)
        · exact EV.ts (q := 607) r_L_law__40 (by decide +kernel) (lw_lean hL hc2 inv cont)
        · exact EV.ts (q := 620) r_L_law__40 (by decide +kernel) (lw_saying hL hc2 inv cont)
        · exact EV.ts (q := 688) r_L_law__40 (by decide +kernel) (lw_bird hL hc2 inv cont)
        · exact EV.ts (q := 756) r_L_law__40 (by decide +kernel) (lw_counsel hL hc2 inv cont)
        · exact EV.ts (q := 824) r_L_law__40 (by decide +kernel) (lw_would hL hc2 inv cont)
        · exact EV.ts (q := 942) r_L_law__40 (by decide +kernel) (lw_at hL hc2 inv cont)
        · exact EV.ts (q := 1010) r_L_law__40 (by decide +kernel) (lw_clear hL hc2 inv cont)
        · exact EV.ts (q := 1023) r_L_law__40 (by decide +kernel) (lw_hide hL hc2 inv cont)
        · exact EV.ts (q := 1091) r_L_law__40 (by decide +kernel) (lw_follows hL hc2 inv cont)
        · exact EV.ts (q := 1147) r_L_law__40 (by decide +kernel) (lw_proof hL hc2 inv cont)
        · exact EV.ts (q := 1203) r_L_law__40 (by decide +kernel) (lw_turn hL hc2 inv cont)
        · exact EV.ts (q := 1216) r_L_law__40 (by decide +kernel) (lw_fits hL hc2 inv cont)
        · exact EV.ts (q := 1272) r_L_law__40 (by decide +kernel) (lw_look hL hc2 inv cont)
        · exact EV.ts (q := 1328) r_L_law__40 (by decide +kernel) (lw_kind hL hc2 inv cont)
        · exact EV.ts (q := 1419) r_L_law__40 (by decide +kernel) (lw_order hL hc2 inv cont)
        · exact EV.ts (q := 1499) r_L_law__40 (by decide +kernel) (lw_loaf hL hc2 inv cont)
        · exact EV.ts (q := 1579) r_L_law__40 (by decide +kernel) (lw_loss hL hc2 inv cont)
        · exact EV.ts (q := 1635) r_L_law__40 (by decide +kernel) (lw_next hL hc2 inv cont)
        · exact EV.ts (q := 1691) r_L_law__40 (by decide +kernel) (lw_side hL hc2 inv cont)
        · exact EV.ts (q := 1759) r_L_law__40 (by decide +kernel) (lw_leaders hL hc2 inv cont)
        · exact EV.ts (q := 1827) r_L_law__40 (by decide +kernel) (lw_used hL hc2 inv cont)
        · exact EV.ts (q := 1840) r_L_law__40 (by decide +kernel) (lw_over hL hc2 inv cont)
        · exact EV.ts (q := 1896) r_L_law__40 (by decide +kernel) (lw_delay hL hc2 inv cont)
        · exact EV.ts (q := 1952) r_L_law__40 (by decide +kernel) (lw_point hL hc2 inv cont)
        · exact EV.ts (q := 2020) r_L_law__40 (by decide +kernel) (lw_purse hL hc2 inv cont)
        · exact EV.ts (q := 2076) r_L_law__40 (by decide +kernel) (lw_pairs hL hc2 inv cont)
        · exact EV.ts (q := 2089) r_L_law__40 (by decide +kernel) (lw_crowd hL hc2 inv cont)
        · exact EV.ts (q := 2145) r_L_law__40 (by decide +kernel) (lw_swing hL hc2 inv cont)
        · exact EV.ts (q := 2201) r_L_law__40 (by decide +kernel) (lw_when hL hc2 inv cont)
        · exact EV.ts (q := 2257) r_L_law__40 (by decide +kernel) (lw_term hL hc2 inv cont)
        · exact EV.ts (q := 2349) r_L_law__40 (by decide +kernel) (lw_span hL hc2 inv cont)
        · exact EV.ts (q := 2467) r_L_law__40 (by decide +kernel) (lw_image hL hc2 inv cont)
        · exact EV.ts (q := 2480) r_L_law__40 (by decide +kernel) (lw_restore hL hc2 inv cont)
        · exact EV.ts (q := 2493) r_L_law__40 (by decide +kernel) (lw_status hL hc2 inv cont)
        · exact EV.ts (q := 2518) r_L_law__40 (by decide +kernel) (lw_count hL hc2 inv cont)
      · refine EV.ts (q := 2543) r_L_law__40 (by unfold swT; rw [← zI_nat, zI_toInt (by omega) (by omega), if_pos (by omega)]; rfl) ?_
        refine EV.l (lv' := [(0, _), (1, _), (2, _), (3, _), (4, _)]) r_L_law__2543 rfl ?_
        rw [inc_7]
        refine EV.g r_L_law__2546 ?_
        exact (cont I J S inv).mono (fun r G q h => QN.of h (by omega))
