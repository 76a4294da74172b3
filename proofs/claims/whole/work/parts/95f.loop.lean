/-! (goes on) -/
theorem lw_told {L c n : Nat} {xs : Nat → Int32} {I : Nat → Nat → Int32} {J : Nat → Nat → Int64} {S : STT} (hL : L ≤ 3584) (hc2 : 7 * c + 6 < L) (inv : INVS S I) (cont : ∀ (I2 : Nat → Nat → Int32) (J2 : Nat → Nat → Int64) (S2 : STT), INVS S2 I2 → EV (some (L, xs)) M_L_law_ 41 23 (LVc (c + 1)) [] (hp I2 J2) (QN n)) : EV (some (L, xs)) M_L_law_ 41 551 (LVc c) [] (hp I J) (QN (n + 1)) := by
  rcases ans_told (a0 := xs (7 * c + 1)) inv with hV | hX1
  · obtain ⟨v, I1, h1, h2⟩ := hV J
    obtain ⟨I2, S2, h3, inv2, t2⟩ := h2 (wr J 135 0 v.toInt64)
    show EV (some (L, xs)) M_L_law_ 41 551 [(0, .ref spc), (1, .ref 0), (2, .ref 106), (3, .ref 135), (4, .int (nI (7 * c)))] [] (hp I J) _
    refine EV.l (lv' := [(0, _), (1, _), (2, _), (3, _), (4, _)]) r_L_law__551 rfl ?_
    refine EV.l (lv' := [(0, _), (1, _), (2, _), (3, _), (4, _)]) r_L_law__552 rfl ?_
    refine EV.l (lv' := [(0, _), (1, _), (2, _), (3, _), (4, _)]) r_L_law__553 rfl ?_
    refine EV.o r_L_law__555 (icN (1) (v := 1)) ?_
    refine EV.o r_L_law__556 iaddN ?_
    refine EV.sld r_L_law__557 (by omega) (by omega) ?_
    refine EV.l (lv' := [(0, _), (1, _), (2, _), (3, _), (4, _)]) r_L_law__558 rfl ?_
    refine EV.inv r_L_law__559.1 rfl (by decide) (aS3 mt_295) (Nat.le_of_ble_eq_true rfl) (wv_told h1) (hp_len _ _ _ _) ?_
    show EV (some (L, xs)) M_L_law_ 41 562 [(0, .ref spc), (1, .ref 0), (2, .ref 106), (3, .ref 135), (4, .int (nI (7 * c)))] [.int (nI 0)] (hp I1 (wr J 135 0 v.toInt64)) _
    refine EV.l (lv' := [(0, _), (1, _), (2, _), (3, _), (4, _), (5, _)]) r_L_law__562 rfl ?_
    refine EV.l (lv' := [(0, _), (1, _), (2, _), (3, _), (4, _), (5, _)]) r_L_law__564 rfl ?_
    refine EV.l (lv' := [(0, _), (1, _), (2, _), (3, _), (4, _), (5, _)]) r_L_law__565 rfl ?_
    refine EV.l (lv' := [(0, _), (1, _), (2, _), (3, _), (4, _), (5, _)]) r_L_law__566 rfl ?_
    refine EV.o r_L_law__568 (icN (1) (v := 1)) ?_
    refine EV.o r_L_law__569 iaddN ?_
    refine EV.sld r_L_law__570 (by omega) (by omega) ?_
    refine EV.inv r_L_law__571.1 rfl (by decide) (aV1 mt_236 la_106) (Nat.le_of_ble_eq_true rfl) (h3) (hp_len _ _ _ _) ?_
    show EV (some (L, xs)) M_L_law_ 41 574 [(0, .ref spc), (1, .ref 0), (2, .ref 106), (3, .ref 135), (4, .int (nI (7 * c))), (5, .int (nI 0))] [.int v] (hp I2 (wr J 135 0 v.toInt64)) _
    refine EV.l (lv' := [(0, _), (1, _), (2, _), (3, _), (4, _), (5, _), (6, _)]) r_L_law__574 rfl ?_
    refine EV.l (lv' := [(0, _), (1, _), (2, _), (3, _), (4, _), (5, _), (6, _)]) r_L_law__576 rfl ?_
    refine EV.inv r_L_law__577.1 rfl (by decide) (aV0 mt_168 la_106) (Nat.le_of_ble_eq_true rfl) (m_thrown (d := 41) (by omega)) (hp_len _ _ _ _) ?_
    show EV (some (L, xs)) M_L_law_ 41 580 [(0, .ref spc), (1, .ref 0), (2, .ref 106), (3, .ref 135), (4, .int (nI (7 * c))), (5, .int (nI 0)), (6, .int v)] [.int (I2 106 0)] (hp I2 (wr J 135 0 v.toInt64)) _
    rw [t2]
    refine EV.l (lv' := [(0, _), (1, _), (2, _), (3, _), (4, _), (5, _), (6, _)]) r_L_law__580 rfl ?_
    refine EV.r2_eq r_L_law__582 (fun _ => ?_) (fun z => absurd rfl z)
    refine EV.l (lv' := [(0, _), (1, _), (2, _), (3, _), (4, _), (5, _), (6, _)]) r_L_law__587 rfl ?_
    refine EV.n0_ne r_L_law__589 (fun z => absurd rfl z) (fun _ => ?_)
    refine EV.l (lv' := [(0, _), (1, _), (2, _), (3, _), (4, _), (5, _), (6, _)]) r_L_law__592 rfl ?_
    refine EV.o r_L_law__593 (icN (0) (v := 0)) ?_
    refine EV.laloadI r_L_law__594.1 la_135 rfl (by decide) (by decide) ?_
    rw [show (wr J 135 0 v.toInt64) 135 0 = v.toInt64 from wr_same]
    show EV (some (L, xs)) M_L_law_ 41 595 [(0, .ref spc), (1, .ref 0), (2, .ref 106), (3, .ref 135), (4, .int (nI (7 * c))), (5, .int (nI 0)), (6, .int v)] [.long v.toInt64] (hp I2 (wr J 135 0 v.toInt64)) _
    refine EV.l (lv' := [(0, _), (1, _), (2, _), (3, _), (4, _), (5, _), (6, _)]) r_L_law__595 rfl ?_
    refine EV.o r_L_law__597 rfl ?_
    refine EV.o r_L_law__598 (st' := [.int (lg_cmp v.toInt64 v.toInt64)]) rfl ?_
    rw [lg_self]
    refine EV.n0_eq r_L_law__599 (fun _ => ?_) (fun z => absurd rfl z)
    refine EV.g r_L_law__604 ?_
    refine EV.l (lv' := [(0, _), (1, _), (2, _), (3, _), (4, _), (5, _), (6, _)]) r_L_law__2543 rfl ?_
    rw [inc_7]
    refine EV.g r_L_law__2546 ?_
    refine EV.fg (lv' := [(0, _), (1, _), (2, _), (3, _), (4, _)]) r_L_law__23 rfl rfl rfl ?_
    exact (cont I2 (wr J 135 0 v.toInt64) _ inv2).mono (fun r G q h => QN.of h (by omega))
  · obtain ⟨I1, h1, h2⟩ := hX1 J
    obtain ⟨b, I2, S2, h3, inv2, t2⟩ := h2 J
    show EV (some (L, xs)) M_L_law_ 41 551 [(0, .ref spc), (1, .ref 0), (2, .ref 106), (3, .ref 135), (4, .int (nI (7 * c)))] [] (hp I J) _
    refine EV.l (lv' := [(0, _), (1, _), (2, _), (3, _), (4, _)]) r_L_law__551 rfl ?_
    refine EV.l (lv' := [(0, _), (1, _), (2, _), (3, _), (4, _)]) r_L_law__552 rfl ?_
    refine EV.l (lv' := [(0, _), (1, _), (2, _), (3, _), (4, _)]) r_L_law__553 rfl ?_
    refine EV.o r_L_law__555 (icN (1) (v := 1)) ?_
    refine EV.o r_L_law__556 iaddN ?_
    refine EV.sld r_L_law__557 (by omega) (by omega) ?_
    refine EV.l (lv' := [(0, _), (1, _), (2, _), (3, _), (4, _)]) r_L_law__558 rfl ?_
    refine EV.inv r_L_law__559.1 rfl (by decide) (aS3 mt_295) (Nat.le_of_ble_eq_true rfl) (wx1_told h1) (hp_len _ _ _ _) ?_
    show EV (some (L, xs)) M_L_law_ 41 562 [(0, .ref spc), (1, .ref 0), (2, .ref 106), (3, .ref 135), (4, .int (nI (7 * c)))] [.int (nI 1)] (hp I1 J) _
    refine EV.l (lv' := [(0, _), (1, _), (2, _), (3, _), (4, _), (5, _)]) r_L_law__562 rfl ?_
    refine EV.l (lv' := [(0, _), (1, _), (2, _), (3, _), (4, _), (5, _)]) r_L_law__564 rfl ?_
    refine EV.l (lv' := [(0, _), (1, _), (2, _), (3, _), (4, _), (5, _)]) r_L_law__565 rfl ?_
    refine EV.l (lv' := [(0, _), (1, _), (2, _), (3, _), (4, _), (5, _)]) r_L_law__566 rfl ?_
    refine EV.o r_L_law__568 (icN (1) (v := 1)) ?_
    refine EV.o r_L_law__569 iaddN ?_
    refine EV.sld r_L_law__570 (by omega) (by omega) ?_
    refine EV.inv r_L_law__571.1 rfl (by decide) (aV1 mt_236 la_106) (Nat.le_of_ble_eq_true rfl) (h3) (hp_len _ _ _ _) ?_
    show EV (some (L, xs)) M_L_law_ 41 574 [(0, .ref spc), (1, .ref 0), (2, .ref 106), (3, .ref 135), (4, .int (nI (7 * c))), (5, .int (nI 1))] [.int b] (hp I2 J) _
    refine EV.l (lv' := [(0, _), (1, _), (2, _), (3, _), (4, _), (5, _), (6, _)]) r_L_law__574 rfl ?_
    refine EV.l (lv' := [(0, _), (1, _), (2, _), (3, _), (4, _), (5, _), (6, _)]) r_L_law__576 rfl ?_
    refine EV.inv r_L_law__577.1 rfl (by decide) (aV0 mt_168 la_106) (Nat.le_of_ble_eq_true rfl) (m_thrown (d := 41) (by omega)) (hp_len _ _ _ _) ?_
    show EV (some (L, xs)) M_L_law_ 41 580 [(0, .ref spc), (1, .ref 0), (2, .ref 106), (3, .ref 135), (4, .int (nI (7 * c))), (5, .int (nI 1)), (6, .int b)] [.int (I2 106 0)] (hp I2 J) _
    rw [t2]
    refine EV.l (lv' := [(0, _), (1, _), (2, _), (3, _), (4, _), (5, _), (6, _)]) r_L_law__580 rfl ?_
    refine EV.r2_eq r_L_law__582 (fun _ => ?_) (fun z => absurd rfl z)
    refine EV.l (lv' := [(0, _), (1, _), (2, _), (3, _), (4, _), (5, _), (6, _)]) r_L_law__587 rfl ?_
    refine EV.n0_ne r_L_law__589 (fun _ => ?_) (fun z => absurd z (by decide))
    refine EV.g r_L_law__604 ?_
    refine EV.l (lv' := [(0, _), (1, _), (2, _), (3, _), (4, _), (5, _), (6, _)]) r_L_law__2543 rfl ?_
    rw [inc_7]
    refine EV.g r_L_law__2546 ?_
    refine EV.fg (lv' := [(0, _), (1, _), (2, _), (3, _), (4, _)]) r_L_law__23 rfl rfl rfl ?_
    exact (cont I2 J _ inv2).mono (fun r G q h => QN.of h (by omega))
theorem lw_lean {L c n : Nat} {xs : Nat → Int32} {I : Nat → Nat → Int32} {J : Nat → Nat → Int64} {S : STT} (hL : L ≤ 3584) (hc2 : 7 * c + 6 < L) (inv : INVS S I) (cont : ∀ (I2 : Nat → Nat → Int32) (J2 : Nat → Nat → Int64) (S2 : STT), INVS S2 I2 → EV (some (L, xs)) M_L_law_ 41 23 (LVc (c + 1)) [] (hp I2 J2) (QN n)) : EV (some (L, xs)) M_L_law_ 41 607 (LVc c) [] (hp I J) (QN (n + 1)) := by
  obtain ⟨v, I1, h1, h2⟩ := ans_lean inv J
  obtain ⟨I2, S2, h3, inv2, t2⟩ := h2 J
  show EV (some (L, xs)) M_L_law_ 41 607 [(0, .ref spc), (1, .ref 0), (2, .ref 106), (3, .ref 135), (4, .int (nI (7 * c)))] [] (hp I J) _
  refine EV.l (lv' := [(0, _), (1, _), (2, _), (3, _), (4, _)]) r_L_law__607 rfl ?_
  refine EV.inv r_L_law__608.1 rfl (by decide) (aV0 mt_121 la_0) (Nat.le_of_ble_eq_true rfl) (h1) (hp_len _ _ _ _) ?_
  show EV (some (L, xs)) M_L_law_ 41 611 [(0, .ref spc), (1, .ref 0), (2, .ref 106), (3, .ref 135), (4, .int (nI (7 * c)))] [.int v] (hp I1 J) _
  refine EV.l (lv' := [(0, _), (1, _), (2, _), (3, _), (4, _)]) r_L_law__611 rfl ?_
  refine EV.inv r_L_law__612.1 rfl (by decide) (aV0 mt_237 la_106) (Nat.le_of_ble_eq_true rfl) (h3) (hp_len _ _ _ _) ?_
  show EV (some (L, xs)) M_L_law_ 41 615 [(0, .ref spc), (1, .ref 0), (2, .ref 106), (3, .ref 135), (4, .int (nI (7 * c)))] [.int v, .int v] (hp I2 J) _
  refine EV.r2_eq r_L_law__615 (fun _ => ?_) (fun z => absurd rfl z)
  refine EV.l (lv' := [(0, _), (1, _), (2, _), (3, _), (4, _)]) r_L_law__2543 rfl ?_
  rw [inc_7]
  refine EV.g r_L_law__2546 ?_
  exact (cont I2 J _ inv2).mono (fun r G q h => QN.of h (by omega))
theorem lw_saying {L c n : Nat} {xs : Nat → Int32} {I : Nat → Nat → Int32} {J : Nat → Nat → Int64} {S : STT} (hL : L ≤ 3584) (hc2 : 7 * c + 6 < L) (inv : INVS S I) (cont : ∀ (I2 : Nat → Nat → Int32) (J2 : Nat → Nat → Int64) (S2 : STT), INVS S2 I2 → EV (some (L, xs)) M_L_law_ 41 23 (LVc (c + 1)) [] (hp I2 J2) (QN n)) : EV (some (L, xs)) M_L_law_ 41 620 (LVc c) [] (hp I J) (QN (n + 1)) := by
  rcases ans_saying (a0 := xs (7 * c + 1)) (a1 := xs (7 * c + 2)) inv with hV | hX0 | hX1
  · obtain ⟨v, I1, h1, h2⟩ := hV J
    obtain ⟨I2, S2, h3, inv2, t2⟩ := h2 (wr J 135 0 v.toInt64)
    show EV (some (L, xs)) M_L_law_ 41 620 [(0, .ref spc), (1, .ref 0), (2, .ref 106), (3, .ref 135), (4, .int (nI (7 * c)))] [] (hp I J) _
    refine EV.l (lv' := [(0, _), (1, _), (2, _), (3, _), (4, _)]) r_L_law__620 rfl ?_
    refine EV.l (lv' := [(0, _), (1, _), (2, _), (3, _), (4, _)]) r_L_law__621 rfl ?_
    refine EV.l (lv' := [(0, _), (1, _), (2, _), (3, _), (4, _)]) r_L_law__622 rfl ?_
    refine EV.o r_L_law__624 (icN (1) (v := 1)) ?_
    refine EV.o r_L_law__625 iaddN ?_
    refine EV.sld r_L_law__626 (by omega) (by omega) ?_
    refine EV.l (lv' := [(0, _), (1, _), (2, _), (3, _), (4, _)]) r_L_law__627 rfl ?_
    refine EV.l (lv' := [(0, _), (1, _), (2, _), (3, _), (4, _)]) r_L_law__628 rfl ?_
    refine EV.o r_L_law__630 (icN (2) (v := 2)) ?_
    refine EV.o r_L_law__631 iaddN ?_
    refine EV.sld r_L_law__632 (by omega) (by omega) ?_
    refine EV.l (lv' := [(0, _), (1, _), (2, _), (3, _), (4, _)]) r_L_law__633 rfl ?_
    refine EV.inv r_L_law__634.1 rfl (by decide) (aS4 mt_296) (Nat.le_of_ble_eq_true rfl) (wv_saying h1) (hp_len _ _ _ _) ?_
    show EV (some (L, xs)) M_L_law_ 41 637 [(0, .ref spc), (1, .ref 0), (2, .ref 106), (3, .ref 135), (4, .int (nI (7 * c)))] [.int (nI 0)] (hp I1 (wr J 135 0 v.toInt64)) _
    refine EV.l (lv' := [(0, _), (1, _), (2, _), (3, _), (4, _), (5, _)]) r_L_law__637 rfl ?_
    refine EV.l (lv' := [(0, _), (1, _), (2, _), (3, _), (4, _), (5, _)]) r_L_law__639 rfl ?_
    refine EV.l (lv' := [(0, _), (1, _), (2, _), (3, _), (4, _), (5, _)]) r_L_law__640 rfl ?_
    refine EV.l (lv' := [(0, _), (1, _), (2, _), (3, _), (4, _), (5, _)]) r_L_law__641 rfl ?_
    refine EV.o r_L_law__643 (icN (1) (v := 1)) ?_
    refine EV.o r_L_law__644 iaddN ?_
    refine EV.sld r_L_law__645 (by omega) (by omega) ?_
    refine EV.l (lv' := [(0, _), (1, _), (2, _), (3, _), (4, _), (5, _)]) r_L_law__646 rfl ?_
    refine EV.l (lv' := [(0, _), (1, _), (2, _), (3, _), (4, _), (5, _)]) r_L_law__647 rfl ?_
    refine EV.o r_L_law__649 (icN (2) (v := 2)) ?_
    refine EV.o r_L_law__650 iaddN ?_
    refine EV.sld r_L_law__651 (by omega) (by omega) ?_
    refine EV.inv r_L_law__652.1 rfl (by decide) (aV2 mt_241 la_106) (Nat.le_of_ble_eq_true rfl) (h3) (hp_len _ _ _ _) ?_
    show EV (some (L, xs)) M_L_law_ 41 655 [(0, .ref spc), (1, .ref 0), (2, .ref 106), (3, .ref 135), (4, .int (nI (7 * c))), (5, .int (nI 0))] [.int v] (hp I2 (wr J 135 0 v.toInt64)) _
    refine EV.l (lv' := [(0, _), (1, _), (2, _), (3, _), (4, _), (5, _), (6, _)]) r_L_law__655 rfl ?_
    refine EV.l (lv' := [(0, _), (1, _), (2, _), (3, _), (4, _), (5, _), (6, _)]) r_L_law__657 rfl ?_
    refine EV.inv r_L_law__658.1 rfl (by decide) (aV0 mt_168 la_106) (Nat.le_of_ble_eq_true rfl) (m_thrown (d := 41) (by omega)) (hp_len _ _ _ _) ?_
    show EV (some (L, xs)) M_L_law_ 41 661 [(0, .ref spc), (1, .ref 0), (2, .ref 106), (3, .ref 135), (4, .int (nI (7 * c))), (5, .int (nI 0)), (6, .int v)] [.int (I2 106 0)] (hp I2 (wr J 135 0 v.toInt64)) _
    rw [t2]
    refine EV.l (lv' := [(0, _), (1, _), (2, _), (3, _), (4, _), (5, _), (6, _)]) r_L_law__661 rfl ?_
    refine EV.r2_eq r_L_law__663 (fun _ => ?_) (fun z => absurd rfl z)
    refine EV.l (lv' := [(0, _), (1, _), (2, _), (3, _), (4, _), (5, _), (6, _)]) r_L_law__668 rfl ?_
    refine EV.n0_ne r_L_law__670 (fun z => absurd rfl z) (fun _ => ?_)
    refine EV.l (lv' := [(0, _), (1, _), (2, _), (3, _), (4, _), (5, _), (6, _)]) r_L_law__673 rfl ?_
    refine EV.o r_L_law__674 (icN (0) (v := 0)) ?_
    refine EV.laloadI r_L_law__675.1 la_135 rfl (by decide) (by decide) ?_
    rw [show (wr J 135 0 v.toInt64) 135 0 = v.toInt64 from wr_same]
    show EV (some (L, xs)) M_L_law_ 41 676 [(0, .ref spc), (1, .ref 0), (2, .ref 106), (3, .ref 135), (4, .int (nI (7 * c))), (5, .int (nI 0)), (6, .int v)] [.long v.toInt64] (hp I2 (wr J 135 0 v.toInt64)) _
    refine EV.l (lv' := [(0, _), (1, _), (2, _), (3, _), (4, _), (5, _), (6, _)]) r_L_law__676 rfl ?_
    refine EV.o r_L_law__678 rfl ?_
    refine EV.o r_L_law__679 (st' := [.int (lg_cmp v.toInt64 v.toInt64)]) rfl ?_
    rw [lg_self]
    refine EV.n0_eq r_L_law__680 (fun _ => ?_) (fun z => absurd rfl z)
    refine EV.g r_L_law__685 ?_
    refine EV.l (lv' := [(0, _), (1, _), (2, _), (3, _), (4, _), (5, _), (6, _)]) r_L_law__2543 rfl ?_
    rw [inc_7]
    refine EV.g r_L_law__2546 ?_
    refine EV.fg (lv' := [(0, _), (1, _), (2, _), (3, _), (4, _)]) r_L_law__23 rfl rfl rfl ?_
    exact (cont I2 (wr J 135 0 v.toInt64) _ inv2).mono (fun r G q h => QN.of h (by omega))
  · obtain ⟨I1, h1, h2⟩ := hX0 J
    obtain ⟨b, I2, S2, h3, inv2, t2⟩ := h2 J
    show EV (some (L, xs)) M_L_law_ 41 620 [(0, .ref spc), (1, .ref 0), (2, .ref 106), (3, .ref 135), (4, .int (nI (7 * c)))] [] (hp I J) _
    refine EV.l (lv' := [(0, _), (1, _), (2, _), (3, _), (4, _)]) r_L_law__620 rfl ?_
    refine EV.l (lv' := [(0, _), (1, _), (2, _), (3, _), (4, _)]) r_L_law__621 rfl ?_
    refine EV.l (lv' := [(0, _), (1, _), (2, _), (3, _), (4, _)]) r_L_law__622 rfl ?_
    refine EV.o r_L_law__624 (icN (1) (v := 1)) ?_
    refine EV.o r_L_law__625 iaddN ?_
    refine EV.sld r_L_law__626 (by omega) (by omega) ?_
    refine EV.l (lv' := [(0, _), (1, _), (2, _), (3, _), (4, _)]) r_L_law__627 rfl ?_
    refine EV.l (lv' := [(0, _), (1, _), (2, _), (3, _), (4, _)]) r_L_law__628 rfl ?_
    refine EV.o r_L_law__630 (icN (2) (v := 2)) ?_
    refine EV.o r_L_law__631 iaddN ?_
    refine EV.sld r_L_law__632 (by omega) (by omega) ?_
    refine EV.l (lv' := [(0, _), (1, _), (2, _), (3, _), (4, _)]) r_L_law__633 rfl ?_
    refine EV.inv r_L_law__634.1 rfl (by decide) (aS4 mt_296) (Nat.le_of_ble_eq_true rfl) (wx0_saying h1) (hp_len _ _ _ _) ?_
    show EV (some (L, xs)) M_L_law_ 41 637 [(0, .ref spc), (1, .ref 0), (2, .ref 106), (3, .ref 135), (4, .int (nI (7 * c)))] [.int (nI 1)] (hp I1 J) _
    refine EV.l (lv' := [(0, _), (1, _), (2, _), (3, _), (4, _), (5, _)]) r_L_law__637 rfl ?_
    refine EV.l (lv' := [(0, _), (1, _), (2, _), (3, _), (4, _), (5, _)]) r_L_law__639 rfl ?_
    refine EV.l (lv' := [(0, _), (1, _), (2, _), (3, _), (4, _), (5, _)]) r_L_law__640 rfl ?_
    refine EV.l (lv' := [(0, _), (1, _), (2, _), (3, _), (4, _), (5, _)]) r_L_law__641 rfl ?_
    refine EV.o r_L_law__643 (icN (1) (v := 1)) ?_
    refine EV.o r_L_law__644 iaddN ?_
    refine EV.sld r_L_law__645 (by omega) (by omega) ?_
    refine EV.l (lv' := [(0, _), (1, _), (2, _), (3, _), (4, _), (5, _)]) r_L_law__646 rfl ?_
    refine EV.l (lv' := [(0, _), (1, _), (2, _), (3, _), (4, _), (5, _)]) r_L_law__647 rfl ?_
    refine EV.o r_L_law__649 (icN (2) (v := 2)) ?_
    refine EV.o r_L_law__650 iaddN ?_
    refine EV.sld r_L_law__651 (by omega) (by omega) ?_
    refine EV.inv r_L_law__652.1 rfl (by decide) (aV2 mt_241 la_106) (Nat.le_of_ble_eq_true rfl) (h3) (hp_len _ _ _ _) ?_
    show EV (some (L, xs)) M_L_law_ 41 655 [(0, .ref spc), (1, .ref 0), (2, .ref 106), (3, .ref 135), (4, .int (nI (7 * c))), (5, .int (nI 1))] [.int b] (hp I2 J) _
    refine EV.l (lv' := [(0, _), (1, _), (2, _), (3, _), (4, _), (5, _), (6, _)]) r_L_law__655 rfl ?_
    refine EV.l (lv' := [(0, _), (1, _), (2, _), (3, _), (4, _), (5, _), (6, _)]) r_L_law__657 rfl ?_
    refine EV.inv r_L_law__658.1 rfl (by decide) (aV0 mt_168 la_106) (Nat.le_of_ble_eq_true rfl) (m_thrown (d := 41) (by omega)) (hp_len _ _ _ _) ?_
    show EV (some (L, xs)) M_L_law_ 41 661 [(0, .ref spc), (1, .ref 0), (2, .ref 106), (3, .ref 135), (4, .int (nI (7 * c))), (5, .int (nI 1)), (6, .int b)] [.int (I2 106 0)] (hp I2 J) _
    rw [t2]
    refine EV.l (lv' := [(0, _), (1, _), (2, _), (3, _), (4, _), (5, _), (6, _)]) r_L_law__661 rfl ?_
    refine EV.r2_eq r_L_law__663 (fun _ => ?_) (fun z => absurd rfl z)
    refine EV.l (lv' := [(0, _), (1, _), (2, _), (3, _), (4, _), (5, _), (6, _)]) r_L_law__668 rfl ?_
    refine EV.n0_ne r_L_law__670 (fun _ => ?_) (fun z => absurd z (by decide))
    refine EV.g r_L_law__685 ?_
    refine EV.l (lv' := [(0, _), (1, _), (2, _), (3, _), (4, _), (5, _), (6, _)]) r_L_law__2543 rfl ?_
    rw [inc_7]
    refine EV.g r_L_law__2546 ?_
    refine EV.fg (lv' := [(0, _), (1, _), (2, _), (3, _), (4, _)]) r_L_law__23 rfl rfl rfl ?_
    exact (cont I2 J _ inv2).mono (fun r G q h => QN.of h (by omega))
  · obtain ⟨I1, h1, h2⟩ := hX1 J
    obtain ⟨b, I2, S2, h3, inv2, t2⟩ := h2 J
    show EV (some (L, xs)) M_L_law_ 41 620 [(0, .ref spc), (1, .ref 0), (2, .ref 106), (3, .ref 135), (4, .int (nI (7 * c)))] [] (hp I J) _
    refine EV.l (lv' := [(0, _), (1, _), (2, _), (3, _), (4, _)]) r_L_law__620 rfl ?_
    refine EV.l (lv' := [(0, _), (1, _), (2, _), (3, _), (4, _)]) r_L_law__621 rfl ?_
    refine EV.l (lv' := [(0, _), (1, _), (2, _), (3, _), (4, _)]) r_L_law__622 rfl ?_
    refine EV.o r_L_law__624 (icN (1) (v := 1)) ?_
    refine EV.o r_L_law__625 iaddN ?_
    refine EV.sld r_L_law__626 (by omega) (by omega) ?_
    refine EV.l (lv' := [(0, _), (1, _), (2, _), (3, _), (4, _)]) r_L_law__627 rfl ?_
    refine EV.l (lv' := [(0, _), (1, _), (2, _), (3, _), (4, _)]) r_L_law__628 rfl ?_
    refine EV.o r_L_law__630 (icN (2) (v := 2)) ?_
    refine EV.o r_L_law__631 iaddN ?_
    refine EV.sld r_L_law__632 (by omega) (by omega) ?_
    refine EV.l (lv' := [(0, _), (1, _), (2, _), (3, _), (4, _)]) r_L_law__633 rfl ?_
    refine EV.inv r_L_law__634.1 rfl (by decide) (aS4 mt_296) (Nat.le_of_ble_eq_true rfl) (wx1_saying h1) (hp_len _ _ _ _) ?_
    show EV (some (L, xs)) M_L_law_ 41 637 [(0, .ref spc), (1, .ref 0), (2, .ref 106), (3, .ref 135), (4, .int (nI (7 * c)))] [.int (nI 2)] (hp I1 J) _
    refine EV.l (lv' := [(0, _), (1, _), (2, _), (3, _), (4, _), (5, _)]) r_L_law__637 rfl ?_
    refine EV.l (lv' := [(0, _), (1, _), (2, _), (3, _), (4, _), (5, _)]) r_L_law__639 rfl ?_
    refine EV.l (lv' := [(0, _), (1, _), (2, _), (3, _), (4, _), (5, _)]) r_L_law__640 rfl ?_
    refine EV.l (lv' := [(0, _), (1, _), (2, _), (3, _), (4, _), (5, _)]) r_L_law__641 rfl ?_
    refine EV.o r_L_law__643 (icN (1) (v := 1)) ?_
    refine EV.o r_L_law__644 iaddN ?_
    refine EV.sld r_L_law__645 (by omega) (by omega) ?_
    refine EV.l (lv' := [(0, _), (1, _), (2, _), (3, _), (4, _), (5, _)]) r_L_law__646 rfl ?_
    refine EV.l (lv' := [(0, _), (1, _), (2, _), (3, _), (4, _), (5, _)]) r_L_law__647 rfl ?_
    refine EV.o r_L_law__649 (icN (2) (v := 2)) ?_
    refine EV.o r_L_law__650 iaddN ?_
    refine EV.sld r_L_law__651 (by omega) (by omega) ?_
    refine EV.inv r_L_law__652.1 rfl (by decide) (aV2 mt_241 la_106) (Nat.le_of_ble_eq_true rfl) (h3) (hp_len _ _ _ _) ?_
    show EV (some (L, xs)) M_L_law_ 41 655 [(0, .ref spc), (1, .ref 0), (2, .ref 106), (3, .ref 135), (4, .int (nI (7 * c))), (5, .int (nI 2))] [.int b] (hp I2 J) _
    refine EV.l (lv' := [(0, _), (1, _), (2, _), (3, _), (4, _), (5, _), (6, _)]) r_L_law__655 rfl ?_
    refine EV.l (lv' := [(0, _), (1, _), (2, _), (3, _), (4, _), (5, _), (6, _)]) r_L_law__657 rfl ?_
    refine EV.inv r_L_law__658.1 rfl (by decide) (aV0 mt_168 la_106) (Nat.le_of_ble_eq_true rfl) (m_thrown (d := 41) (by omega)) (hp_len _ _ _ _) ?_
    show EV (some (L, xs)) M_L_law_ 41 661 [(0, .ref spc), (1, .ref 0), (2, .ref 106), (3, .ref 135), (4, .int (nI (7 * c))), (5, .int (nI 2)), (6, .int b)] [.int (I2 106 0)] (hp I2 J) _
    rw [t2]
    refine EV.l (lv' := [(0, _), (1, _), (2, _), (3, _), (4, _), (5, _), (6, _)]) r_L_law__661 rfl ?_
    refine EV.r2_eq r_L_law__663 (fun _ => ?_) (fun z => absurd rfl z)
    refine EV.l (lv' := [(0, _), (1, _), (2, _), (3, _), (4, _), (5, _), (6, _)]) r_L_law__668 rfl ?_
    refine EV.n0_ne r_L_law__670 (fun _ => ?_) (fun z => absurd z (by decide))
    refine EV.g r_L_law__685 ?_
    refine EV.l (lv' := [(0, _), (1, _), (2, _), (3, _), (4, _), (5, _), (6, _)]) r_L_law__2543 rfl ?_
    rw [inc_7]
    refine EV.g r_L_law__2546 ?_
    refine EV.fg (lv' := [(0, _), (1, _), (2, _), (3, _), (4, _)]) r_L_law__23 rfl rfl rfl ?_
    exact (cont I2 J _ inv2).mono (fun r G q h => QN.of h (by omega))
theorem lw_bird {L c n : Nat} {xs : Nat → Int32} {I : Nat → Nat → Int32} {J : Nat → Nat → Int64} {S : STT} (hL : L ≤ 3584) (hc2 : 7 * c + 6 < L) (inv : INVS S I) (cont : ∀ (I2 : Nat → Nat → Int32) (J2 : Nat → Nat → Int64) (S2 : STT), INVS S2 I2 → EV (some (L, xs)) M_L_law_ 41 23 (LVc (c + 1)) [] (hp I2 J2) (QN n)) : EV (some (L, xs)) M_L_law_ 41 688 (LVc c) [] (hp I J) (QN (n + 1)) := by
  rcases ans_bird (a0 := xs (7 * c + 1)) (a1 := xs (7 * c + 2)) inv with hV | hX0 | hX1
  · obtain ⟨v, I1, h1, h2⟩ := hV J
    obtain ⟨I2, S2, h3, inv2, t2⟩ := h2 (wr J 135 0 v.toInt64)
    show EV (some (L, xs)) M_L_law_ 41 688 [(0, .ref spc), (1, .ref 0), (2, .ref 106), (3, .ref 135), (4, .int (nI (7 * c)))] [] (hp I J) _
    refine EV.l (lv' := [(0, _), (1, _), (2, _), (3, _), (4, _)]) r_L_law__688 rfl ?_
    refine EV.l (lv' := [(0, _), (1, _), (2, _), (3, _), (4, _)]) r_L_law__689 rfl ?_
    refine EV.l (lv' := [(0, _), (1, _), (2, _), (3, _), (4, _)]) r_L_law__690 rfl ?_
    refine EV.o r_L_law__692 (icN (1) (v := 1)) ?_
    refine EV.o r_L_law__693 iaddN ?_
    refine EV.sld r_L_law__694 (by omega) (by omega) ?_
    refine EV.l (lv' := [(0, _), (1, _), (2, _), (3, _), (4, _)]) r_L_law__695 rfl ?_
    refine EV.l (lv' := [(0, _), (1, _), (2, _), (3, _), (4, _)]) r_L_law__696 rfl ?_
    refine EV.o r_L_law__698 (icN (2) (v := 2)) ?_
    refine EV.o r_L_law__699 iaddN ?_
    refine EV.sld r_L_law__700 (by omega) (by omega) ?_
    refine EV.l (lv' := [(0, _), (1, _), (2, _), (3, _), (4, _)]) r_L_law__701 rfl ?_
    refine EV.inv r_L_law__702.1 rfl (by decide) (aS4 mt_297) (Nat.le_of_ble_eq_true rfl) (wv_bird h1) (hp_len _ _ _ _) ?_
    show EV (some (L, xs)) M_L_law_ 41 705 [(0, .ref spc), (1, .ref 0), (2, .ref 106), (3, .ref 135), (4, .int (nI (7 * c)))] [.int (nI 0)] (hp I1 (wr J 135 0 v.toInt64)) _
    refine EV.l (lv' := [(0, _), (1, _), (2, _), (3, _), (4, _), (5, _)]) r_L_law__705 rfl ?_
    refine EV.l (lv' := [(0, _), (1, _), (2, _), (3, _), (4, _), (5, _)]) r_L_law__707 rfl ?_
    refine EV.l (lv' := [(0, _), (1, _), (2, _), (3, _), (4, _), (5, _)]) r_L_law__708 rfl ?_
    refine EV.l (lv' := [(0, _), (1, _), (2, _), (3, _), (4, _), (5, _)]) r_L_law__709 rfl ?_
    refine EV.o r_L_law__711 (icN (1) (v := 1)) ?_
    refine EV.o r_L_law__712 iaddN ?_
    refine EV.sld r_L_law__713 (by omega) (by omega) ?_
    refine EV.l (lv' := [(0, _), (1, _), (2, _), (3, _), (4, _), (5, _)]) r_L_law__714 rfl ?_
    refine EV.l (lv' := [(0, _), (1, _), (2, _), (3, _), (4, _), (5, _)]) r_L_law__715 rfl ?_
    refine EV.o r_L_law__717 (icN (2) (v := 2)) ?_
    refine EV.o r_L_law__718 iaddN ?_
    refine EV.sld r_L_law__719 (by omega) (by omega) ?_
    refine EV.inv r_L_law__720.1 rfl (by decide) (aV2 mt_242 la_106) (Nat.le_of_ble_eq_true rfl) (h3) (hp_len _ _ _ _) ?_
    show EV (some (L, xs)) M_L_law_ 41 723 [(0, .ref spc), (1, .ref 0), (2, .ref 106), (3, .ref 135), (4, .int (nI (7 * c))), (5, .int (nI 0))] [.int v] (hp I2 (wr J 135 0 v.toInt64)) _
    refine EV.l (lv' := [(0, _), (1, _), (2, _), (3, _), (4, _), (5, _), (6, _)]) r_L_law__723 rfl ?_
    refine EV.l (lv' := [(0, _), (1, _), (2, _), (3, _), (4, _), (5, _), (6, _)]) r_L_law__725 rfl ?_
    refine EV.inv r_L_law__726.1 rfl (by decide) (aV0 mt_168 la_106) (Nat.le_of_ble_eq_true rfl) (m_thrown (d := 41) (by omega)) (hp_len _ _ _ _) ?_
    show EV (some (L, xs)) M_L_law_ 41 729 [(0, .ref spc), (1, .ref 0), (2, .ref 106), (3, .ref 135), (4, .int (nI (7 * c))), (5, .int (nI 0)), (6, .int v)] [.int (I2 106 0)] (hp I2 (wr J 135 0 v.toInt64)) _
    rw [t2]
    refine EV.l (lv' := [(0, _), (1, _), (2, _), (3, _), (4, _), (5, _), (6, _)]) r_L_law__729 rfl ?_
    refine EV.r2_eq r_L_law__731 (fun _ => ?_) (fun z => absurd rfl z)
    refine EV.l (lv' := [(0, _), (1, _), (2, _), (3, _), (4, _), (5, _), (6, _)]) r_L_law__736 rfl ?_
    refine EV.n0_ne r_L_law__738 (fun z => absurd rfl z) (fun _ => ?_)
    refine EV.l (lv' := [(0, _), (1, _), (2, _), (3, _), (4, _), (5, _), (6, _)]) r_L_law__741 rfl ?_
    refine EV.o r_L_law__742 (icN (0) (v := 0)) ?_
    refine EV.laloadI r_L_law__743.1 la_135 rfl (by decide) (by decide) ?_
    rw [show (wr J 135 0 v.toInt64) 135 0 = v.toInt64 from wr_same]
    show EV (some (L, xs)) M_L_law_ 41 744 [(0, .ref spc), (1, .ref 0), (2, .ref 106), (3, .ref 135), (4, .int (nI (7 * c))), (5, .int (nI 0)), (6, .int v)] [.long v.toInt64] (hp I2 (wr J 135 0 v.toInt64)) _
    refine EV.l (lv' := [(0, _), (1, _), (2, _), (3, _), (4, _), (5, _), (6, _)]) r_L_law__744 rfl ?_
    refine EV.o r_L_law__746 rfl ?_
    refine EV.o r_L_law__747 (st' := [.int (lg_cmp v.toInt64 v.toInt64)]) rfl ?_
    rw [lg_self]
    refine EV.n0_eq r_L_law__748 (fun _ => ?_) (fun z => absurd rfl z)
    refine EV.g r_L_law__753 ?_
    refine EV.l (lv' := [(0, _), (1, _), (2, _), (3, _), (4, _), (5, _), (6, _)]) r_L_law__2543 rfl ?_
    rw [inc_7]
    refine EV.g r_L_law__2546 ?_
    refine EV.fg (lv' := [(0, _), (1, _), (2, _), (3, _), (4, _)]) r_L_law__23 rfl rfl rfl ?_
    exact (cont I2 (wr J 135 0 v.toInt64) _ inv2).mono (fun r G q h => QN.of h (by omega))
  · obtain ⟨I1, h1, h2⟩ := hX0 J
    obtain ⟨b, I2, S2, h3, inv2, t2⟩ := h2 J
    show EV (some (L, xs)) M_L_law_ 41 688 [(0, .ref spc), (1, .ref 0), (2, .ref 106), (3, .ref 135), (4, .int (nI (7 * c)))] [] (hp I J) _
    refine EV.l (lv' := [(0, _), (1, _), (2, _), (3, _), (4, _)]) r_L_law__688 rfl ?_
    refine EV.l (lv' := [(0, _), (1, _), (2, _), (3, _), (4, _)]) r_L_law__689 rfl ?_
    refine EV.l (lv' := [(0, _), (1, _), (2, _), (3, _), (4, _)]) r_L_law__690 rfl ?_
    refine EV.o r_L_law__692 (icN (1) (v := 1)) ?_
    refine EV.o r_L_law__693 iaddN ?_
    refine EV.sld r_L_law__694 (by omega) (by omega) ?_
    refine EV.l (lv' := [(0, _), (1, _), (2, _), (3, _), (4, _)]) r_L_law__695 rfl ?_
    refine EV.l (lv' := [(0, _), (1, _), (2, _), (3, _), (4, _)]) r_L_law__696 rfl ?_
    refine EV.o r_L_law__698 (icN (2) (v := 2)) ?_
    refine EV.o r_L_law__699 iaddN ?_
    refine EV.sld r_L_law__700 (by omega) (by omega) ?_
    refine EV.l (lv' := [(0, _), (1, _), (2, _), (3, _), (4, _)]) r_L_law__701 rfl ?_
    refine EV.inv r_L_law__702.1 rfl (by decide) (aS4 mt_297) (Nat.le_of_ble_eq_true rfl) (wx0_bird h1) (hp_len _ _ _ _) ?_
    show EV (some (L, xs)) M_L_law_ 41 705 [(0, .ref spc), (1, .ref 0), (2, .ref 106), (3, .ref 135), (4, .int (nI (7 * c)))] [.int (nI 1)] (hp I1 J) _
    refine EV.l (lv' := [(0, _), (1, _), (2, _), (3, _), (4, _), (5, _)]) r_L_law__705 rfl ?_
    refine EV.l (lv' := [(0, _), (1, _), (2, _), (3, _), (4, _), (5, _)]) r_L_law__707 rfl ?_
    refine EV.l (lv' := [(0, _), (1, _), (2, _), (3, _), (4, _), (5, _)]) r_L_law__708 rfl ?_
    refine EV.l (lv' := [(0, _), (1, _), (2, _), (3, _), (4, _), (5, _)]) r_L_law__709 rfl ?_
    refine EV.o r_L_law__711 (icN (1) (v := 1)) ?_
    refine EV.o r_L_law__712 iaddN ?_
    refine EV.sld r_L_law__713 (by omega) (by omega) ?_
    refine EV.l (lv' := [(0, _), (1, _), (2, _), (3, _), (4, _), (5, _)]) r_L_law__714 rfl ?_
    refine EV.l (lv' := [(0, _), (1, _), (2, _), (3, _), (4, _), (5, _)]) r_L_law__715 rfl ?_
    refine EV.o r_L_law__717 (icN (2) (v := 2)) ?_
    refine EV.o r_L_law__718 iaddN ?_
    refine EV.sld r_L_law__719 (by omega) (by omega) ?_
    refine EV.inv r_L_law__720.1 rfl (by decide) (aV2 mt_242 la_106) (Nat.le_of_ble_eq_true rfl) (h3) (hp_len _ _ _ _) ?_
    show EV (some (L, xs)) M_L_law_ 41 723 [(0, .ref spc), (1, .ref 0), (2, .ref 106), (3, .ref 135), (4, .int (nI (7 * c))), (5, .int (nI 1))] [.int b] (hp I2 J) _
    refine EV.l (lv' := [(0, _), (1, _), (2, _), (3, _), (4, _), (5, _), (6, _)]) r_L_law__723 rfl ?_
    refine EV.l (lv' := [(0, _), (1, _), (2, _), (3, _), (4, _), (5, _), (6, _)]) r_L_law__725 rfl ?_
    refine EV.inv r_L_law__726.1 rfl (by decide) (aV0 mt_168 la_106) (Nat.le_of_ble_eq_true rfl) (m_thrown (d := 41) (by omega)) (hp_len _ _ _ _) ?_
    show EV (some (L, xs)) M_L_law_ 41 729 [(0, .ref spc), (1, .ref 0), (2, .ref 106), (3, .ref 135), (4, .int (nI (7 * c))), (5, .int (nI 1)), (6, .int b)] [.int (I2 106 0)] (hp I2 J) _
    rw [t2]
    refine EV.l (lv' := [(0, _), (1, _), (2, _), (3, _), (4, _), (5, _), (6, _)]) r_L_law__729 rfl ?_
    refine EV.r2_eq r_L_law__731 (fun _ => ?_) (fun z => absurd rfl z)
    refine EV.l (lv' := [(0, _), (1, _), (2, _), (3, _), (4, _), (5, _), (6, _)]) r_L_law__736 rfl ?_
    refine EV.n0_ne r_L_law__738 (fun _ => ?_) (fun z => absurd z (by decide))
    refine EV.g r_L_law__753 ?_
    refine EV.l (lv' := [(0, _), (1, _), (2, _), (3, _), (4, _), (5, _), (6, _)]) r_L_law__2543 rfl ?_
    rw [inc_7]
    refine EV.g r_L_law__2546 ?_
    refine EV.fg (lv' := [(0, _), (1, _), (2, _), (3, _), (4, _)]) r_L_law__23 rfl rfl rfl ?_
    exact (cont I2 J _ inv2).mono (fun r G q h => QN.of h (by omega))
  · obtain ⟨I1, h1, h2⟩ := hX1 J
    obtain ⟨b, I2, S2, h3, inv2, t2⟩ := h2 J
    show EV (some (L, xs)) M_L_law_ 41 688 [(0, .ref spc), (1, .ref 0), (2, .ref 106), (3, .ref 135), (4, .int (nI (7 * c)))] [] (hp I J) _
    refine EV.l (lv' := [(0, _), (1, _), (2, _), (3, _), (4, _)]) r_L_law__688 rfl ?_
    refine EV.l (lv' := [(0, _), (1, _), (2, _), (3, _), (4, _)]) r_L_law__689 rfl ?_
    refine EV.l (lv' := [(0, _), (1, _), (2, _), (3, _), (4, _)]) r_L_law__690 rfl ?_
    refine EV.o r_L_law__692 (icN (1) (v := 1)) ?_
    refine EV.o r_L_law__693 iaddN ?_
    refine EV.sld r_L_law__694 (by omega) (by omega) ?_
    refine EV.l (lv' := [(0, _), (1, _), (2, _), (3, _), (4, _)]) r_L_law__695 rfl ?_
    refine EV.l (lv' := [(0, _), (1, _), (2, _), (3, _), (4, _)]) r_L_law__696 rfl ?_
    refine EV.o r_L_law__698 (icN (2) (v := 2)) ?_
    refine EV.o r_L_law__699 iaddN ?_
    refine EV.sld r_L_law__700 (by omega) (by omega) ?_
    refine EV.l (lv' := [(0, _), (1, _), (2, _), (3, _), (4, _)]) r_L_law__701 rfl ?_
    refine EV.inv r_L_law__702.1 rfl (by decide) (aS4 mt_297) (Nat.le_of_ble_eq_true rfl) (wx1_bird h1) (hp_len _ _ _ _) ?_
    show EV (some (L, xs)) M_L_law_ 41 705 [(0, .ref spc), (1, .ref 0), (2, .ref 106), (3, .ref 135), (4, .int (nI (7 * c)))] [.int (nI 2)] (hp I1 J) _
    refine EV.l (lv' := [(0, _), (1, _), (2, _), (3, _), (4, _), (5, _)]) r_L_law__705 rfl ?_
    refine EV.l (lv' := [(0, _), (1, _), (2, _), (3, _), (4, _), (5, _)]) r_L_law__707 rfl ?_
    refine EV.l (lv' := [(0, _), (1, _), (2, _), (3, _), (4, _), (5, _)]) r_L_law__708 rfl ?_
    refine EV.l (lv' := [(0, _), (1, _), (2, _), (3, _), (4, _), (5, _)]) r_L_law__709 rfl ?_
    refine EV.o r_L_law__711 (icN (1) (v := 1)) ?_
    refine EV.o r_L_law__712 iaddN ?_
    refine EV.sld r_L_law__713 (by omega) (by omega) ?_
    refine EV.l (lv' := [(0, _), (1, _), (2, _), (3, _), (4, _), (5, _)]) r_L_law__714 rfl ?_
    refine EV.l (lv' := [(0, _), (1, _), (2, _), (3, _), (4, _), (5, _)]) r_L_law__715 rfl ?_
    refine EV.o r_L_law__717 (icN (2) (v := 2)) ?_
    refine EV.o r_L_law__718 iaddN ?_
    refine EV.sld r_L_law__719 (by omega) (by omega) ?_
    refine EV.inv r_L_law__720.1 rfl (by decide) (aV2 mt_242 la_106) (Nat.le_of_ble_eq_true rfl) (h3) (hp_len _ _ _ _) ?_
    show EV (some (L, xs)) M_L_law_ 41 723 [(0, .ref spc), (1, .ref 0), (2, .ref 106), (3, .ref 135), (4, .int (nI (7 * c))), (5, .int (nI 2))] [.int b] (hp I2 J) _
    refine EV.l (lv' := [(0, _), (1, _), (2, _), (3, _), (4, _), (5, _), (6, _)]) r_L_law__723 rfl ?_
    refine EV.l (lv' := [(0, _), (1, _), (2, _), (3, _), (4, _), (5, _), (6, _)]) r_L_law__725 rfl ?_
    refine EV.inv r_L_law__726.1 rfl (by decide) (aV0 mt_168 la_106) (Nat.le_of_ble_eq_true rfl) (m_thrown (d := 41) (by omega)) (hp_len _ _ _ _) ?_
    show EV (some (L, xs)) M_L_law_ 41 729 [(0, .ref spc), (1, .ref 0), (2, .ref 106), (3, .ref 135), (4, .int (nI (7 * c))), (5, .int (nI 2)), (6, .int b)] [.int (I2 106 0)] (hp I2 J) _
    rw [t2]
    refine EV.l (lv' := [(0, _), (1, _), (2, _), (3, _), (4, _), (5, _), (6, _)]) r_L_law__729 rfl ?_
    refine EV.r2_eq r_L_law__731 (fun _ => ?_) (fun z => absurd rfl z)
    refine EV.l (lv' := [(0, _), (1, _), (2, _), (3, _), (4, _), (5, _), (6, _)]) r_L_law__736 rfl ?_
    refine EV.n0_ne r_L_law__738 (fun _ => ?_) (fun z => absurd z (by decide))
    refine EV.g r_L_law__753 ?_
    refine EV.l (lv' := [(0, _), (1, _), (2, _), (3, _), (4, _), (5, _), (6, _)]) r_L_law__2543 rfl ?_
    rw [inc_7]
    refine EV.g r_L_law__2546 ?_
    refine EV.fg (lv' := [(0, _), (1, _), (2, _), (3, _), (4, _)]) r_L_law__23 rfl rfl rfl ?_
    exact (cont I2 J _ inv2).mono (fun r G q h => QN.of h (by omega))
