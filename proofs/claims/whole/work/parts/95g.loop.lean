/-! (goes on) -/
theorem lw_counsel {L c n : Nat} {xs : Nat → Int32} {I : Nat → Nat → Int32} {J : Nat → Nat → Int64} {S : STT} (hL : L ≤ 3584) (hc2 : 7 * c + 6 < L) (inv : INVS S I) (cont : ∀ (I2 : Nat → Nat → Int32) (J2 : Nat → Nat → Int64) (S2 : STT), INVS S2 I2 → EV (some (L, xs)) M_L_law_ 41 23 (LVc (c + 1)) [] (hp I2 J2) (QN n)) : EV (some (L, xs)) M_L_law_ 41 756 (LVc c) [] (hp I J) (QN (n + 1)) := by
  rcases ans_counsel (a0 := xs (7 * c + 1)) (a1 := xs (7 * c + 2)) inv with hV | hX0 | hX1
  · obtain ⟨v, I1, h1, h2⟩ := hV J
    obtain ⟨I2, S2, h3, inv2, t2⟩ := h2 (wr J 135 0 v.toInt64)
    show EV (some (L, xs)) M_L_law_ 41 756 [(0, .ref spc), (1, .ref 0), (2, .ref 106), (3, .ref 135), (4, .int (nI (7 * c)))] [] (hp I J) _
    refine EV.l (lv' := [(0, _), (1, _), (2, _), (3, _), (4, _)]) r_L_law__756 rfl ?_
    refine EV.l (lv' := [(0, _), (1, _), (2, _), (3, _), (4, _)]) r_L_law__757 rfl ?_
    refine EV.l (lv' := [(0, _), (1, _), (2, _), (3, _), (4, _)]) r_L_law__758 rfl ?_
    refine EV.o r_L_law__760 (icN (1) (v := 1)) ?_
    refine EV.o r_L_law__761 iaddN ?_
    refine EV.sld r_L_law__762 (by omega) (by omega) ?_
    refine EV.l (lv' := [(0, _), (1, _), (2, _), (3, _), (4, _)]) r_L_law__763 rfl ?_
    refine EV.l (lv' := [(0, _), (1, _), (2, _), (3, _), (4, _)]) r_L_law__764 rfl ?_
    refine EV.o r_L_law__766 (icN (2) (v := 2)) ?_
    refine EV.o r_L_law__767 iaddN ?_
    refine EV.sld r_L_law__768 (by omega) (by omega) ?_
    refine EV.l (lv' := [(0, _), (1, _), (2, _), (3, _), (4, _)]) r_L_law__769 rfl ?_
    refine EV.inv r_L_law__770.1 rfl (by decide) (aS4 mt_298) (Nat.le_of_ble_eq_true rfl) (wv_counsel h1) (hp_len _ _ _ _) ?_
    show EV (some (L, xs)) M_L_law_ 41 773 [(0, .ref spc), (1, .ref 0), (2, .ref 106), (3, .ref 135), (4, .int (nI (7 * c)))] [.int (nI 0)] (hp I1 (wr J 135 0 v.toInt64)) _
    refine EV.l (lv' := [(0, _), (1, _), (2, _), (3, _), (4, _), (5, _)]) r_L_law__773 rfl ?_
    refine EV.l (lv' := [(0, _), (1, _), (2, _), (3, _), (4, _), (5, _)]) r_L_law__775 rfl ?_
    refine EV.l (lv' := [(0, _), (1, _), (2, _), (3, _), (4, _), (5, _)]) r_L_law__776 rfl ?_
    refine EV.l (lv' := [(0, _), (1, _), (2, _), (3, _), (4, _), (5, _)]) r_L_law__777 rfl ?_
    refine EV.o r_L_law__779 (icN (1) (v := 1)) ?_
    refine EV.o r_L_law__780 iaddN ?_
    refine EV.sld r_L_law__781 (by omega) (by omega) ?_
    refine EV.l (lv' := [(0, _), (1, _), (2, _), (3, _), (4, _), (5, _)]) r_L_law__782 rfl ?_
    refine EV.l (lv' := [(0, _), (1, _), (2, _), (3, _), (4, _), (5, _)]) r_L_law__783 rfl ?_
    refine EV.o r_L_law__785 (icN (2) (v := 2)) ?_
    refine EV.o r_L_law__786 iaddN ?_
    refine EV.sld r_L_law__787 (by omega) (by omega) ?_
    refine EV.inv r_L_law__788.1 rfl (by decide) (aV2 mt_243 la_106) (Nat.le_of_ble_eq_true rfl) (h3) (hp_len _ _ _ _) ?_
    show EV (some (L, xs)) M_L_law_ 41 791 [(0, .ref spc), (1, .ref 0), (2, .ref 106), (3, .ref 135), (4, .int (nI (7 * c))), (5, .int (nI 0))] [.int v] (hp I2 (wr J 135 0 v.toInt64)) _
    refine EV.l (lv' := [(0, _), (1, _), (2, _), (3, _), (4, _), (5, _), (6, _)]) r_L_law__791 rfl ?_
    refine EV.l (lv' := [(0, _), (1, _), (2, _), (3, _), (4, _), (5, _), (6, _)]) r_L_law__793 rfl ?_
    refine EV.inv r_L_law__794.1 rfl (by decide) (aV0 mt_168 la_106) (Nat.le_of_ble_eq_true rfl) (m_thrown (d := 41) (by omega)) (hp_len _ _ _ _) ?_
    show EV (some (L, xs)) M_L_law_ 41 797 [(0, .ref spc), (1, .ref 0), (2, .ref 106), (3, .ref 135), (4, .int (nI (7 * c))), (5, .int (nI 0)), (6, .int v)] [.int (I2 106 0)] (hp I2 (wr J 135 0 v.toInt64)) _
    rw [t2]
    refine EV.l (lv' := [(0, _), (1, _), (2, _), (3, _), (4, _), (5, _), (6, _)]) r_L_law__797 rfl ?_
    refine EV.r2_eq r_L_law__799 (fun _ => ?_) (fun z => absurd rfl z)
    refine EV.l (lv' := [(0, _), (1, _), (2, _), (3, _), (4, _), (5, _), (6, _)]) r_L_law__804 rfl ?_
    refine EV.n0_ne r_L_law__806 (fun z => absurd rfl z) (fun _ => ?_)
    refine EV.l (lv' := [(0, _), (1, _), (2, _), (3, _), (4, _), (5, _), (6, _)]) r_L_law__809 rfl ?_
    refine EV.o r_L_law__810 (icN (0) (v := 0)) ?_
    refine EV.laloadI r_L_law__811.1 la_135 rfl (by decide) (by decide) ?_
    rw [show (wr J 135 0 v.toInt64) 135 0 = v.toInt64 from wr_same]
    show EV (some (L, xs)) M_L_law_ 41 812 [(0, .ref spc), (1, .ref 0), (2, .ref 106), (3, .ref 135), (4, .int (nI (7 * c))), (5, .int (nI 0)), (6, .int v)] [.long v.toInt64] (hp I2 (wr J 135 0 v.toInt64)) _
    refine EV.l (lv' := [(0, _), (1, _), (2, _), (3, _), (4, _), (5, _), (6, _)]) r_L_law__812 rfl ?_
    refine EV.o r_L_law__814 rfl ?_
    refine EV.o r_L_law__815 (st' := [.int (lg_cmp v.toInt64 v.toInt64)]) rfl ?_
    rw [lg_self]
    refine EV.n0_eq r_L_law__816 (fun _ => ?_) (fun z => absurd rfl z)
    refine EV.g r_L_law__821 ?_
    refine EV.l (lv' := [(0, _), (1, _), (2, _), (3, _), (4, _), (5, _), (6, _)]) r_L_law__2543 rfl ?_
    rw [inc_7]
    refine EV.g r_L_law__2546 ?_
    refine EV.fg (lv' := [(0, _), (1, _), (2, _), (3, _), (4, _)]) r_L_law__23 rfl rfl rfl ?_
    exact (cont I2 (wr J 135 0 v.toInt64) _ inv2).mono (fun r G q h => QN.of h (by omega))
  · obtain ⟨I1, h1, h2⟩ := hX0 J
    obtain ⟨b, I2, S2, h3, inv2, t2⟩ := h2 J
    show EV (some (L, xs)) M_L_law_ 41 756 [(0, .ref spc), (1, .ref 0), (2, .ref 106), (3, .ref 135), (4, .int (nI (7 * c)))] [] (hp I J) _
    refine EV.l (lv' := [(0, _), (1, _), (2, _), (3, _), (4, _)]) r_L_law__756 rfl ?_
    refine EV.l (lv' := [(0, _), (1, _), (2, _), (3, _), (4, _)]) r_L_law__757 rfl ?_
    refine EV.l (lv' := [(0, _), (1, _), (2, _), (3, _), (4, _)]) r_L_law__758 rfl ?_
    refine EV.o r_L_law__760 (icN (1) (v := 1)) ?_
    refine EV.o r_L_law__761 iaddN ?_
    refine EV.sld r_L_law__762 (by omega) (by omega) ?_
    refine EV.l (lv' := [(0, _), (1, _), (2, _), (3, _), (4, _)]) r_L_law__763 rfl ?_
    refine EV.l (lv' := [(0, _), (1, _), (2, _), (3, _), (4, _)]) r_L_law__764 rfl ?_
    refine EV.o r_L_law__766 (icN (2) (v := 2)) ?_
    refine EV.o r_L_law__767 iaddN ?_
    refine EV.sld r_L_law__768 (by omega) (by omega) ?_
    refine EV.l (lv' := [(0, _), (1, _), (2, _), (3, _), (4, _)]) r_L_law__769 rfl ?_
    refine EV.inv r_L_law__770.1 rfl (by decide) (aS4 mt_298) (Nat.le_of_ble_eq_true rfl) (wx0_counsel h1) (hp_len _ _ _ _) ?_
    show EV (some (L, xs)) M_L_law_ 41 773 [(0, .ref spc), (1, .ref 0), (2, .ref 106), (3, .ref 135), (4, .int (nI (7 * c)))] [.int (nI 1)] (hp I1 J) _
    refine EV.l (lv' := [(0, _), (1, _), (2, _), (3, _), (4, _), (5, _)]) r_L_law__773 rfl ?_
    refine EV.l (lv' := [(0, _), (1, _), (2, _), (3, _), (4, _), (5, _)]) r_L_law__775 rfl ?_
    refine EV.l (lv' := [(0, _), (1, _), (2, _), (3, _), (4, _), (5, _)]) r_L_law__776 rfl ?_
    refine EV.l (lv' := [(0, _), (1, _), (2, _), (3, _), (4, _), (5, _)]) r_L_law__777 rfl ?_
    refine EV.o r_L_law__779 (icN (1) (v := 1)) ?_
    refine EV.o r_L_law__780 iaddN ?_
    refine EV.sld r_L_law__781 (by omega) (by omega) ?_
    refine EV.l (lv' := [(0, _), (1, _), (2, _), (3, _), (4, _), (5, _)]) r_L_law__782 rfl ?_
    refine EV.l (lv' := [(0, _), (1, _), (2, _), (3, _), (4, _), (5, _)]) r_L_law__783 rfl ?_
    refine EV.o r_L_law__785 (icN (2) (v := 2)) ?_
    refine EV.o r_L_law__786 iaddN ?_
    refine EV.sld r_L_law__787 (by omega) (by omega) ?_
    refine EV.inv r_L_law__788.1 rfl (by decide) (aV2 mt_243 la_106) (Nat.le_of_ble_eq_true rfl) (h3) (hp_len _ _ _ _) ?_
    show EV (some (L, xs)) M_L_law_ 41 791 [(0, .ref spc), (1, .ref 0), (2, .ref 106), (3, .ref 135), (4, .int (nI (7 * c))), (5, .int (nI 1))] [.int b] (hp I2 J) _
    refine EV.l (lv' := [(0, _), (1, _), (2, _), (3, _), (4, _), (5, _), (6, _)]) r_L_law__791 rfl ?_
    refine EV.l (lv' := [(0, _), (1, _), (2, _), (3, _), (4, _), (5, _), (6, _)]) r_L_law__793 rfl ?_
    refine EV.inv r_L_law__794.1 rfl (by decide) (aV0 mt_168 la_106) (Nat.le_of_ble_eq_true rfl) (m_thrown (d := 41) (by omega)) (hp_len _ _ _ _) ?_
    show EV (some (L, xs)) M_L_law_ 41 797 [(0, .ref spc), (1, .ref 0), (2, .ref 106), (3, .ref 135), (4, .int (nI (7 * c))), (5, .int (nI 1)), (6, .int b)] [.int (I2 106 0)] (hp I2 J) _
    rw [t2]
    refine EV.l (lv' := [(0, _), (1, _), (2, _), (3, _), (4, _), (5, _), (6, _)]) r_L_law__797 rfl ?_
    refine EV.r2_eq r_L_law__799 (fun _ => ?_) (fun z => absurd rfl z)
    refine EV.l (lv' := [(0, _), (1, _), (2, _), (3, _), (4, _), (5, _), (6, _)]) r_L_law__804 rfl ?_
    refine EV.n0_ne r_L_law__806 (fun _ => ?_) (fun z => absurd z (by decide))
    refine EV.g r_L_law__821 ?_
    refine EV.l (lv' := [(0, _), (1, _), (2, _), (3, _), (4, _), (5, _), (6, _)]) r_L_law__2543 rfl ?_
    rw [inc_7]
    refine EV.g r_L_law__2546 ?_
    refine EV.fg (lv' := [(0, _), (1, _), (2, _), (3, _), (4, _)]) r_L_law__23 rfl rfl rfl ?_
    exact (cont I2 J _ inv2).mono (fun r G q h => QN.of h (by omega))
  · obtain ⟨I1, h1, h2⟩ := hX1 J
    obtain ⟨b, I2, S2, h3, inv2, t2⟩ := h2 J
    show EV (some (L, xs)) M_L_law_ 41 756 [(0, .ref spc), (1, .ref 0), (2, .ref 106), (3, .ref 135), (4, .int (nI (7 * c)))] [] (hp I J) _
    refine EV.l (lv' := [(0, _), (1, _), (2, _), (3, _), (4, _)]) r_L_law__756 rfl ?_
    refine EV.l (lv' := [(0, _), (1, _), (2, _), (3, _), (4, _)]) r_L_law__757 rfl ?_
    refine EV.l (lv' := [(0, _), (1, _), (2, _), (3, _), (4, _)]) r_L_law__758 rfl ?_
    refine EV.o r_L_law__760 (icN (1) (v := 1)) ?_
    refine EV.o r_L_law__761 iaddN ?_
    refine EV.sld r_L_law__762 (by omega) (by omega) ?_
    refine EV.l (lv' := [(0, _), (1, _), (2, _), (3, _), (4, _)]) r_L_law__763 rfl ?_
    refine EV.l (lv' := [(0, _), (1, _), (2, _), (3, _), (4, _)]) r_L_law__764 rfl ?_
    refine EV.o r_L_law__766 (icN (2) (v := 2)) ?_
    refine EV.o r_L_law__767 iaddN ?_
    refine EV.sld r_L_law__768 (by omega) (by omega) ?_
    refine EV.l (lv' := [(0, _), (1, _), (2, _), (3, _), (4, _)]) r_L_law__769 rfl ?_
    refine EV.inv r_L_law__770.1 rfl (by decide) (aS4 mt_298) (Nat.le_of_ble_eq_true rfl) (wx1_counsel h1) (hp_len _ _ _ _) ?_
    show EV (some (L, xs)) M_L_law_ 41 773 [(0, .ref spc), (1, .ref 0), (2, .ref 106), (3, .ref 135), (4, .int (nI (7 * c)))] [.int (nI 2)] (hp I1 J) _
    refine EV.l (lv' := [(0, _), (1, _), (2, _), (3, _), (4, _), (5, _)]) r_L_law__773 rfl ?_
    refine EV.l (lv' := [(0, _), (1, _), (2, _), (3, _), (4, _), (5, _)]) r_L_law__775 rfl ?_
    refine EV.l (lv' := [(0, _), (1, _), (2, _), (3, _), (4, _), (5, _)]) r_L_law__776 rfl ?_
    refine EV.l (lv' := [(0, _), (1, _), (2, _), (3, _), (4, _), (5, _)]) r_L_law__777 rfl ?_
    refine EV.o r_L_law__779 (icN (1) (v := 1)) ?_
    refine EV.o r_L_law__780 iaddN ?_
    refine EV.sld r_L_law__781 (by omega) (by omega) ?_
    refine EV.l (lv' := [(0, _), (1, _), (2, _), (3, _), (4, _), (5, _)]) r_L_law__782 rfl ?_
    refine EV.l (lv' := [(0, _), (1, _), (2, _), (3, _), (4, _), (5, _)]) r_L_law__783 rfl ?_
    refine EV.o r_L_law__785 (icN (2) (v := 2)) ?_
    refine EV.o r_L_law__786 iaddN ?_
    refine EV.sld r_L_law__787 (by omega) (by omega) ?_
    refine EV.inv r_L_law__788.1 rfl (by decide) (aV2 mt_243 la_106) (Nat.le_of_ble_eq_true rfl) (h3) (hp_len _ _ _ _) ?_
    show EV (some (L, xs)) M_L_law_ 41 791 [(0, .ref spc), (1, .ref 0), (2, .ref 106), (3, .ref 135), (4, .int (nI (7 * c))), (5, .int (nI 2))] [.int b] (hp I2 J) _
    refine EV.l (lv' := [(0, _), (1, _), (2, _), (3, _), (4, _), (5, _), (6, _)]) r_L_law__791 rfl ?_
    refine EV.l (lv' := [(0, _), (1, _), (2, _), (3, _), (4, _), (5, _), (6, _)]) r_L_law__793 rfl ?_
    refine EV.inv r_L_law__794.1 rfl (by decide) (aV0 mt_168 la_106) (Nat.le_of_ble_eq_true rfl) (m_thrown (d := 41) (by omega)) (hp_len _ _ _ _) ?_
    show EV (some (L, xs)) M_L_law_ 41 797 [(0, .ref spc), (1, .ref 0), (2, .ref 106), (3, .ref 135), (4, .int (nI (7 * c))), (5, .int (nI 2)), (6, .int b)] [.int (I2 106 0)] (hp I2 J) _
    rw [t2]
    refine EV.l (lv' := [(0, _), (1, _), (2, _), (3, _), (4, _), (5, _), (6, _)]) r_L_law__797 rfl ?_
    refine EV.r2_eq r_L_law__799 (fun _ => ?_) (fun z => absurd rfl z)
    refine EV.l (lv' := [(0, _), (1, _), (2, _), (3, _), (4, _), (5, _), (6, _)]) r_L_law__804 rfl ?_
    refine EV.n0_ne r_L_law__806 (fun _ => ?_) (fun z => absurd z (by decide))
    refine EV.g r_L_law__821 ?_
    refine EV.l (lv' := [(0, _), (1, _), (2, _), (3, _), (4, _), (5, _), (6, _)]) r_L_law__2543 rfl ?_
    rw [inc_7]
    refine EV.g r_L_law__2546 ?_
    refine EV.fg (lv' := [(0, _), (1, _), (2, _), (3, _), (4, _)]) r_L_law__23 rfl rfl rfl ?_
    exact (cont I2 J _ inv2).mono (fun r G q h => QN.of h (by omega))
theorem lw_would {L c n : Nat} {xs : Nat → Int32} {I : Nat → Nat → Int32} {J : Nat → Nat → Int64} {S : STT} (hL : L ≤ 3584) (hc2 : 7 * c + 6 < L) (inv : INVS S I) (cont : ∀ (I2 : Nat → Nat → Int32) (J2 : Nat → Nat → Int64) (S2 : STT), INVS S2 I2 → EV (some (L, xs)) M_L_law_ 41 23 (LVc (c + 1)) [] (hp I2 J2) (QN n)) : EV (some (L, xs)) M_L_law_ 41 824 (LVc c) [] (hp I J) (QN (n + 1)) := by
  rcases ans_would (a0 := xs (7 * c + 1)) (a1 := xs (7 * c + 2)) (a2 := xs (7 * c + 3)) (a3 := xs (7 * c + 4)) (a4 := xs (7 * c + 5)) (a5 := xs (7 * c + 6)) inv with hV | hX1
  · obtain ⟨v, I1, h1, h2⟩ := hV J
    obtain ⟨I2, S2, h3, inv2, t2⟩ := h2 (wr J 135 0 v.toInt64)
    show EV (some (L, xs)) M_L_law_ 41 824 [(0, .ref spc), (1, .ref 0), (2, .ref 106), (3, .ref 135), (4, .int (nI (7 * c)))] [] (hp I J) _
    refine EV.l (lv' := [(0, _), (1, _), (2, _), (3, _), (4, _)]) r_L_law__824 rfl ?_
    refine EV.l (lv' := [(0, _), (1, _), (2, _), (3, _), (4, _)]) r_L_law__825 rfl ?_
    refine EV.l (lv' := [(0, _), (1, _), (2, _), (3, _), (4, _)]) r_L_law__826 rfl ?_
    refine EV.o r_L_law__828 (icN (1) (v := 1)) ?_
    refine EV.o r_L_law__829 iaddN ?_
    refine EV.sld r_L_law__830 (by omega) (by omega) ?_
    refine EV.l (lv' := [(0, _), (1, _), (2, _), (3, _), (4, _)]) r_L_law__831 rfl ?_
    refine EV.l (lv' := [(0, _), (1, _), (2, _), (3, _), (4, _)]) r_L_law__832 rfl ?_
    refine EV.o r_L_law__834 (icN (2) (v := 2)) ?_
    refine EV.o r_L_law__835 iaddN ?_
    refine EV.sld r_L_law__836 (by omega) (by omega) ?_
    refine EV.l (lv' := [(0, _), (1, _), (2, _), (3, _), (4, _)]) r_L_law__837 rfl ?_
    refine EV.l (lv' := [(0, _), (1, _), (2, _), (3, _), (4, _)]) r_L_law__838 rfl ?_
    refine EV.o r_L_law__840 (icN (3) (v := 3)) ?_
    refine EV.o r_L_law__841 iaddN ?_
    refine EV.sld r_L_law__842 (by omega) (by omega) ?_
    refine EV.l (lv' := [(0, _), (1, _), (2, _), (3, _), (4, _)]) r_L_law__843 rfl ?_
    refine EV.l (lv' := [(0, _), (1, _), (2, _), (3, _), (4, _)]) r_L_law__844 rfl ?_
    refine EV.o r_L_law__846 (icN (4) (v := 4)) ?_
    refine EV.o r_L_law__847 iaddN ?_
    refine EV.sld r_L_law__848 (by omega) (by omega) ?_
    refine EV.l (lv' := [(0, _), (1, _), (2, _), (3, _), (4, _)]) r_L_law__849 rfl ?_
    refine EV.l (lv' := [(0, _), (1, _), (2, _), (3, _), (4, _)]) r_L_law__850 rfl ?_
    refine EV.o r_L_law__852 (icN (5) (v := 5)) ?_
    refine EV.o r_L_law__853 iaddN ?_
    refine EV.sld r_L_law__854 (by omega) (by omega) ?_
    refine EV.l (lv' := [(0, _), (1, _), (2, _), (3, _), (4, _)]) r_L_law__855 rfl ?_
    refine EV.l (lv' := [(0, _), (1, _), (2, _), (3, _), (4, _)]) r_L_law__856 rfl ?_
    refine EV.o r_L_law__858 (bpN (6) 6) ?_
    refine EV.o r_L_law__860 iaddN ?_
    refine EV.sld r_L_law__861 (by omega) (by omega) ?_
    refine EV.l (lv' := [(0, _), (1, _), (2, _), (3, _), (4, _)]) r_L_law__862 rfl ?_
    refine EV.inv r_L_law__863.1 rfl (by decide) (aS8 mt_299) (Nat.le_of_ble_eq_true rfl) (wv_would h1) (hp_len _ _ _ _) ?_
    show EV (some (L, xs)) M_L_law_ 41 866 [(0, .ref spc), (1, .ref 0), (2, .ref 106), (3, .ref 135), (4, .int (nI (7 * c)))] [.int (nI 0)] (hp I1 (wr J 135 0 v.toInt64)) _
    refine EV.l (lv' := [(0, _), (1, _), (2, _), (3, _), (4, _), (5, _)]) r_L_law__866 rfl ?_
    refine EV.l (lv' := [(0, _), (1, _), (2, _), (3, _), (4, _), (5, _)]) r_L_law__868 rfl ?_
    refine EV.l (lv' := [(0, _), (1, _), (2, _), (3, _), (4, _), (5, _)]) r_L_law__869 rfl ?_
    refine EV.l (lv' := [(0, _), (1, _), (2, _), (3, _), (4, _), (5, _)]) r_L_law__870 rfl ?_
    refine EV.o r_L_law__872 (icN (1) (v := 1)) ?_
    refine EV.o r_L_law__873 iaddN ?_
    refine EV.sld r_L_law__874 (by omega) (by omega) ?_
    refine EV.l (lv' := [(0, _), (1, _), (2, _), (3, _), (4, _), (5, _)]) r_L_law__875 rfl ?_
    refine EV.l (lv' := [(0, _), (1, _), (2, _), (3, _), (4, _), (5, _)]) r_L_law__876 rfl ?_
    refine EV.o r_L_law__878 (icN (2) (v := 2)) ?_
    refine EV.o r_L_law__879 iaddN ?_
    refine EV.sld r_L_law__880 (by omega) (by omega) ?_
    refine EV.l (lv' := [(0, _), (1, _), (2, _), (3, _), (4, _), (5, _)]) r_L_law__881 rfl ?_
    refine EV.l (lv' := [(0, _), (1, _), (2, _), (3, _), (4, _), (5, _)]) r_L_law__882 rfl ?_
    refine EV.o r_L_law__884 (icN (3) (v := 3)) ?_
    refine EV.o r_L_law__885 iaddN ?_
    refine EV.sld r_L_law__886 (by omega) (by omega) ?_
    refine EV.l (lv' := [(0, _), (1, _), (2, _), (3, _), (4, _), (5, _)]) r_L_law__887 rfl ?_
    refine EV.l (lv' := [(0, _), (1, _), (2, _), (3, _), (4, _), (5, _)]) r_L_law__888 rfl ?_
    refine EV.o r_L_law__890 (icN (4) (v := 4)) ?_
    refine EV.o r_L_law__891 iaddN ?_
    refine EV.sld r_L_law__892 (by omega) (by omega) ?_
    refine EV.l (lv' := [(0, _), (1, _), (2, _), (3, _), (4, _), (5, _)]) r_L_law__893 rfl ?_
    refine EV.l (lv' := [(0, _), (1, _), (2, _), (3, _), (4, _), (5, _)]) r_L_law__894 rfl ?_
    refine EV.o r_L_law__896 (icN (5) (v := 5)) ?_
    refine EV.o r_L_law__897 iaddN ?_
    refine EV.sld r_L_law__898 (by omega) (by omega) ?_
    refine EV.l (lv' := [(0, _), (1, _), (2, _), (3, _), (4, _), (5, _)]) r_L_law__899 rfl ?_
    refine EV.l (lv' := [(0, _), (1, _), (2, _), (3, _), (4, _), (5, _)]) r_L_law__900 rfl ?_
    refine EV.o r_L_law__902 (bpN (6) 6) ?_
    refine EV.o r_L_law__904 iaddN ?_
    refine EV.sld r_L_law__905 (by omega) (by omega) ?_
    refine EV.inv r_L_law__906.1 rfl (by decide) (aV6 mt_244 la_106) (Nat.le_of_ble_eq_true rfl) (h3) (hp_len _ _ _ _) ?_
    show EV (some (L, xs)) M_L_law_ 41 909 [(0, .ref spc), (1, .ref 0), (2, .ref 106), (3, .ref 135), (4, .int (nI (7 * c))), (5, .int (nI 0))] [.int v] (hp I2 (wr J 135 0 v.toInt64)) _
    refine EV.l (lv' := [(0, _), (1, _), (2, _), (3, _), (4, _), (5, _), (6, _)]) r_L_law__909 rfl ?_
    refine EV.l (lv' := [(0, _), (1, _), (2, _), (3, _), (4, _), (5, _), (6, _)]) r_L_law__911 rfl ?_
    refine EV.inv r_L_law__912.1 rfl (by decide) (aV0 mt_168 la_106) (Nat.le_of_ble_eq_true rfl) (m_thrown (d := 41) (by omega)) (hp_len _ _ _ _) ?_
    show EV (some (L, xs)) M_L_law_ 41 915 [(0, .ref spc), (1, .ref 0), (2, .ref 106), (3, .ref 135), (4, .int (nI (7 * c))), (5, .int (nI 0)), (6, .int v)] [.int (I2 106 0)] (hp I2 (wr J 135 0 v.toInt64)) _
    rw [t2]
    refine EV.l (lv' := [(0, _), (1, _), (2, _), (3, _), (4, _), (5, _), (6, _)]) r_L_law__915 rfl ?_
    refine EV.r2_eq r_L_law__917 (fun _ => ?_) (fun z => absurd rfl z)
    refine EV.l (lv' := [(0, _), (1, _), (2, _), (3, _), (4, _), (5, _), (6, _)]) r_L_law__922 rfl ?_
    refine EV.n0_ne r_L_law__924 (fun z => absurd rfl z) (fun _ => ?_)
    refine EV.l (lv' := [(0, _), (1, _), (2, _), (3, _), (4, _), (5, _), (6, _)]) r_L_law__927 rfl ?_
    refine EV.o r_L_law__928 (icN (0) (v := 0)) ?_
    refine EV.laloadI r_L_law__929.1 la_135 rfl (by decide) (by decide) ?_
    rw [show (wr J 135 0 v.toInt64) 135 0 = v.toInt64 from wr_same]
    show EV (some (L, xs)) M_L_law_ 41 930 [(0, .ref spc), (1, .ref 0), (2, .ref 106), (3, .ref 135), (4, .int (nI (7 * c))), (5, .int (nI 0)), (6, .int v)] [.long v.toInt64] (hp I2 (wr J 135 0 v.toInt64)) _
    refine EV.l (lv' := [(0, _), (1, _), (2, _), (3, _), (4, _), (5, _), (6, _)]) r_L_law__930 rfl ?_
    refine EV.o r_L_law__932 rfl ?_
    refine EV.o r_L_law__933 (st' := [.int (lg_cmp v.toInt64 v.toInt64)]) rfl ?_
    rw [lg_self]
    refine EV.n0_eq r_L_law__934 (fun _ => ?_) (fun z => absurd rfl z)
    refine EV.g r_L_law__939 ?_
    refine EV.l (lv' := [(0, _), (1, _), (2, _), (3, _), (4, _), (5, _), (6, _)]) r_L_law__2543 rfl ?_
    rw [inc_7]
    refine EV.g r_L_law__2546 ?_
    refine EV.fg (lv' := [(0, _), (1, _), (2, _), (3, _), (4, _)]) r_L_law__23 rfl rfl rfl ?_
    exact (cont I2 (wr J 135 0 v.toInt64) _ inv2).mono (fun r G q h => QN.of h (by omega))
  · obtain ⟨I1, h1, h2⟩ := hX1 J
    obtain ⟨b, I2, S2, h3, inv2, t2⟩ := h2 J
    show EV (some (L, xs)) M_L_law_ 41 824 [(0, .ref spc), (1, .ref 0), (2, .ref 106), (3, .ref 135), (4, .int (nI (7 * c)))] [] (hp I J) _
    refine EV.l (lv' := [(0, _), (1, _), (2, _), (3, _), (4, _)]) r_L_law__824 rfl ?_
    refine EV.l (lv' := [(0, _), (1, _), (2, _), (3, _), (4, _)]) r_L_law__825 rfl ?_
    refine EV.l (lv' := [(0, _), (1, _), (2, _), (3, _), (4, _)]) r_L_law__826 rfl ?_
    refine EV.o r_L_law__828 (icN (1) (v := 1)) ?_
    refine EV.o r_L_law__829 iaddN ?_
    refine EV.sld r_L_law__830 (by omega) (by omega) ?_
    refine EV.l (lv' := [(0, _), (1, _), (2, _), (3, _), (4, _)]) r_L_law__831 rfl ?_
    refine EV.l (lv' := [(0, _), (1, _), (2, _), (3, _), (4, _)]) r_L_law__832 rfl ?_
    refine EV.o r_L_law__834 (icN (2) (v := 2)) ?_
    refine EV.o r_L_law__835 iaddN ?_
    refine EV.sld r_L_law__836 (by omega) (by omega) ?_
    refine EV.l (lv' := [(0, _), (1, _), (2, _), (3, _), (4, _)]) r_L_law__837 rfl ?_
    refine EV.l (lv' := [(0, _), (1, _), (2, _), (3, _), (4, _)]) r_L_law__838 rfl ?_
    refine EV.o r_L_law__840 (icN (3) (v := 3)) ?_
    refine EV.o r_L_law__841 iaddN ?_
    refine EV.sld r_L_law__842 (by omega) (by omega) ?_
    refine EV.l (lv' := [(0, _), (1, _), (2, _), (3, _), (4, _)]) r_L_law__843 rfl ?_
    refine EV.l (lv' := [(0, _), (1, _), (2, _), (3, _), (4, _)]) r_L_law__844 rfl ?_
    refine EV.o r_L_law__846 (icN (4) (v := 4)) ?_
    refine EV.o r_L_law__847 iaddN ?_
    refine EV.sld r_L_law__848 (by omega) (by omega) ?_
    refine EV.l (lv' := [(0, _), (1, _), (2, _), (3, _), (4, _)]) r_L_law__849 rfl ?_
    refine EV.l (lv' := [(0, _), (1, _), (2, _), (3, _), (4, _)]) r_L_law__850 rfl ?_
    refine EV.o r_L_law__852 (icN (5) (v := 5)) ?_
    refine EV.o r_L_law__853 iaddN ?_
    refine EV.sld r_L_law__854 (by omega) (by omega) ?_
    refine EV.l (lv' := [(0, _), (1, _), (2, _), (3, _), (4, _)]) r_L_law__855 rfl ?_
    refine EV.l (lv' := [(0, _), (1, _), (2, _), (3, _), (4, _)]) r_L_law__856 rfl ?_
    refine EV.o r_L_law__858 (bpN (6) 6) ?_
    refine EV.o r_L_law__860 iaddN ?_
    refine EV.sld r_L_law__861 (by omega) (by omega) ?_
    refine EV.l (lv' := [(0, _), (1, _), (2, _), (3, _), (4, _)]) r_L_law__862 rfl ?_
    refine EV.inv r_L_law__863.1 rfl (by decide) (aS8 mt_299) (Nat.le_of_ble_eq_true rfl) (wx1_would h1) (hp_len _ _ _ _) ?_
    show EV (some (L, xs)) M_L_law_ 41 866 [(0, .ref spc), (1, .ref 0), (2, .ref 106), (3, .ref 135), (4, .int (nI (7 * c)))] [.int (nI 1)] (hp I1 J) _
    refine EV.l (lv' := [(0, _), (1, _), (2, _), (3, _), (4, _), (5, _)]) r_L_law__866 rfl ?_
    refine EV.l (lv' := [(0, _), (1, _), (2, _), (3, _), (4, _), (5, _)]) r_L_law__868 rfl ?_
    refine EV.l (lv' := [(0, _), (1, _), (2, _), (3, _), (4, _), (5, _)]) r_L_law__869 rfl ?_
    refine EV.l (lv' := [(0, _), (1, _), (2, _), (3, _), (4, _), (5, _)]) r_L_law__870 rfl ?_
    refine EV.o r_L_law__872 (icN (1) (v := 1)) ?_
    refine EV.o r_L_law__873 iaddN ?_
    refine EV.sld r_L_law__874 (by omega) (by omega) ?_
    refine EV.l (lv' := [(0, _), (1, _), (2, _), (3, _), (4, _), (5, _)]) r_L_law__875 rfl ?_
    refine EV.l (lv' := [(0, _), (1, _), (2, _), (3, _), (4, _), (5, _)]) r_L_law__876 rfl ?_
    refine EV.o r_L_law__878 (icN (2) (v := 2)) ?_
    refine EV.o r_L_law__879 iaddN ?_
    refine EV.sld r_L_law__880 (by omega) (by omega) ?_
    refine EV.l (lv' := [(0, _), (1, _), (2, _), (3, _), (4, _), (5, _)]) r_L_law__881 rfl ?_
    refine EV.l (lv' := [(0, _), (1, _), (2, _), (3, _), (4, _), (5, _)]) r_L_law__882 rfl ?_
    refine EV.o r_L_law__884 (icN (3) (v := 3)) ?_
    refine EV.o r_L_law__885 iaddN ?_
    refine EV.sld r_L_law__886 (by omega) (by omega) ?_
    refine EV.l (lv' := [(0, _), (1, _), (2, _), (3, _), (4, _), (5, _)]) r_L_law__887 rfl ?_
    refine EV.l (lv' := [(0, _), (1, _), (2, _), (3, _), (4, _), (5, _)]) r_L_law__888 rfl ?_
    refine EV.o r_L_law__890 (icN (4) (v := 4)) ?_
    refine EV.o r_L_law__891 iaddN ?_
    refine EV.sld r_L_law__892 (by omega) (by omega) ?_
    refine EV.l (lv' := [(0, _), (1, _), (2, _), (3, _), (4, _), (5, _)]) r_L_law__893 rfl ?_
    refine EV.l (lv' := [(0, _), (1, _), (2, _), (3, _), (4, _), (5, _)]) r_L_law__894 rfl ?_
    refine EV.o r_L_law__896 (icN (5) (v := 5)) ?_
    refine EV.o r_L_law__897 iaddN ?_
    refine EV.sld r_L_law__898 (by omega) (by omega) ?_
    refine EV.l (lv' := [(0, _), (1, _), (2, _), (3, _), (4, _), (5, _)]) r_L_law__899 rfl ?_
    refine EV.l (lv' := [(0, _), (1, _), (2, _), (3, _), (4, _), (5, _)]) r_L_law__900 rfl ?_
    refine EV.o r_L_law__902 (bpN (6) 6) ?_
    refine EV.o r_L_law__904 iaddN ?_
    refine EV.sld r_L_law__905 (by omega) (by omega) ?_
    refine EV.inv r_L_law__906.1 rfl (by decide) (aV6 mt_244 la_106) (Nat.le_of_ble_eq_true rfl) (h3) (hp_len _ _ _ _) ?_
    show EV (some (L, xs)) M_L_law_ 41 909 [(0, .ref spc), (1, .ref 0), (2, .ref 106), (3, .ref 135), (4, .int (nI (7 * c))), (5, .int (nI 1))] [.int b] (hp I2 J) _
    refine EV.l (lv' := [(0, _), (1, _), (2, _), (3, _), (4, _), (5, _), (6, _)]) r_L_law__909 rfl ?_
    refine EV.l (lv' := [(0, _), (1, _), (2, _), (3, _), (4, _), (5, _), (6, _)]) r_L_law__911 rfl ?_
    refine EV.inv r_L_law__912.1 rfl (by decide) (aV0 mt_168 la_106) (Nat.le_of_ble_eq_true rfl) (m_thrown (d := 41) (by omega)) (hp_len _ _ _ _) ?_
    show EV (some (L, xs)) M_L_law_ 41 915 [(0, .ref spc), (1, .ref 0), (2, .ref 106), (3, .ref 135), (4, .int (nI (7 * c))), (5, .int (nI 1)), (6, .int b)] [.int (I2 106 0)] (hp I2 J) _
    rw [t2]
    refine EV.l (lv' := [(0, _), (1, _), (2, _), (3, _), (4, _), (5, _), (6, _)]) r_L_law__915 rfl ?_
    refine EV.r2_eq r_L_law__917 (fun _ => ?_) (fun z => absurd rfl z)
    refine EV.l (lv' := [(0, _), (1, _), (2, _), (3, _), (4, _), (5, _), (6, _)]) r_L_law__922 rfl ?_
    refine EV.n0_ne r_L_law__924 (fun _ => ?_) (fun z => absurd z (by decide))
    refine EV.g r_L_law__939 ?_
    refine EV.l (lv' := [(0, _), (1, _), (2, _), (3, _), (4, _), (5, _), (6, _)]) r_L_law__2543 rfl ?_
    rw [inc_7]
    refine EV.g r_L_law__2546 ?_
    refine EV.fg (lv' := [(0, _), (1, _), (2, _), (3, _), (4, _)]) r_L_law__23 rfl rfl rfl ?_
    exact (cont I2 J _ inv2).mono (fun r G q h => QN.of h (by omega))
theorem lw_at {L c n : Nat} {xs : Nat → Int32} {I : Nat → Nat → Int32} {J : Nat → Nat → Int64} {S : STT} (hL : L ≤ 3584) (hc2 : 7 * c + 6 < L) (inv : INVS S I) (cont : ∀ (I2 : Nat → Nat → Int32) (J2 : Nat → Nat → Int64) (S2 : STT), INVS S2 I2 → EV (some (L, xs)) M_L_law_ 41 23 (LVc (c + 1)) [] (hp I2 J2) (QN n)) : EV (some (L, xs)) M_L_law_ 41 942 (LVc c) [] (hp I J) (QN (n + 1)) := by
  rcases ans_at (a0 := xs (7 * c + 1)) (a1 := xs (7 * c + 2)) inv with hV | hX1
  · obtain ⟨v, I1, h1, h2⟩ := hV J
    obtain ⟨I2, S2, h3, inv2, t2⟩ := h2 (wr J 135 0 v.toInt64)
    show EV (some (L, xs)) M_L_law_ 41 942 [(0, .ref spc), (1, .ref 0), (2, .ref 106), (3, .ref 135), (4, .int (nI (7 * c)))] [] (hp I J) _
    refine EV.l (lv' := [(0, _), (1, _), (2, _), (3, _), (4, _)]) r_L_law__942 rfl ?_
    refine EV.l (lv' := [(0, _), (1, _), (2, _), (3, _), (4, _)]) r_L_law__943 rfl ?_
    refine EV.l (lv' := [(0, _), (1, _), (2, _), (3, _), (4, _)]) r_L_law__944 rfl ?_
    refine EV.o r_L_law__946 (icN (1) (v := 1)) ?_
    refine EV.o r_L_law__947 iaddN ?_
    refine EV.sld r_L_law__948 (by omega) (by omega) ?_
    refine EV.l (lv' := [(0, _), (1, _), (2, _), (3, _), (4, _)]) r_L_law__949 rfl ?_
    refine EV.l (lv' := [(0, _), (1, _), (2, _), (3, _), (4, _)]) r_L_law__950 rfl ?_
    refine EV.o r_L_law__952 (icN (2) (v := 2)) ?_
    refine EV.o r_L_law__953 iaddN ?_
    refine EV.sld r_L_law__954 (by omega) (by omega) ?_
    refine EV.l (lv' := [(0, _), (1, _), (2, _), (3, _), (4, _)]) r_L_law__955 rfl ?_
    refine EV.inv r_L_law__956.1 rfl (by decide) (aS4 mt_300) (Nat.le_of_ble_eq_true rfl) (wv_at h1) (hp_len _ _ _ _) ?_
    show EV (some (L, xs)) M_L_law_ 41 959 [(0, .ref spc), (1, .ref 0), (2, .ref 106), (3, .ref 135), (4, .int (nI (7 * c)))] [.int (nI 0)] (hp I1 (wr J 135 0 v.toInt64)) _
    refine EV.l (lv' := [(0, _), (1, _), (2, _), (3, _), (4, _), (5, _)]) r_L_law__959 rfl ?_
    refine EV.l (lv' := [(0, _), (1, _), (2, _), (3, _), (4, _), (5, _)]) r_L_law__961 rfl ?_
    refine EV.l (lv' := [(0, _), (1, _), (2, _), (3, _), (4, _), (5, _)]) r_L_law__962 rfl ?_
    refine EV.l (lv' := [(0, _), (1, _), (2, _), (3, _), (4, _), (5, _)]) r_L_law__963 rfl ?_
    refine EV.o r_L_law__965 (icN (1) (v := 1)) ?_
    refine EV.o r_L_law__966 iaddN ?_
    refine EV.sld r_L_law__967 (by omega) (by omega) ?_
    refine EV.l (lv' := [(0, _), (1, _), (2, _), (3, _), (4, _), (5, _)]) r_L_law__968 rfl ?_
    refine EV.l (lv' := [(0, _), (1, _), (2, _), (3, _), (4, _), (5, _)]) r_L_law__969 rfl ?_
    refine EV.o r_L_law__971 (icN (2) (v := 2)) ?_
    refine EV.o r_L_law__972 iaddN ?_
    refine EV.sld r_L_law__973 (by omega) (by omega) ?_
    refine EV.inv r_L_law__974.1 rfl (by decide) (aV2 mt_245 la_106) (Nat.le_of_ble_eq_true rfl) (h3) (hp_len _ _ _ _) ?_
    show EV (some (L, xs)) M_L_law_ 41 977 [(0, .ref spc), (1, .ref 0), (2, .ref 106), (3, .ref 135), (4, .int (nI (7 * c))), (5, .int (nI 0))] [.int v] (hp I2 (wr J 135 0 v.toInt64)) _
    refine EV.l (lv' := [(0, _), (1, _), (2, _), (3, _), (4, _), (5, _), (6, _)]) r_L_law__977 rfl ?_
    refine EV.l (lv' := [(0, _), (1, _), (2, _), (3, _), (4, _), (5, _), (6, _)]) r_L_law__979 rfl ?_
    refine EV.inv r_L_law__980.1 rfl (by decide) (aV0 mt_168 la_106) (Nat.le_of_ble_eq_true rfl) (m_thrown (d := 41) (by omega)) (hp_len _ _ _ _) ?_
    show EV (some (L, xs)) M_L_law_ 41 983 [(0, .ref spc), (1, .ref 0), (2, .ref 106), (3, .ref 135), (4, .int (nI (7 * c))), (5, .int (nI 0)), (6, .int v)] [.int (I2 106 0)] (hp I2 (wr J 135 0 v.toInt64)) _
    rw [t2]
    refine EV.l (lv' := [(0, _), (1, _), (2, _), (3, _), (4, _), (5, _), (6, _)]) r_L_law__983 rfl ?_
    refine EV.r2_eq r_L_law__985 (fun _ => ?_) (fun z => absurd rfl z)
    refine EV.l (lv' := [(0, _), (1, _), (2, _), (3, _), (4, _), (5, _), (6, _)]) r_L_law__990 rfl ?_
    refine EV.n0_ne r_L_law__992 (fun z => absurd rfl z) (fun _ => ?_)
    refine EV.l (lv' := [(0, _), (1, _), (2, _), (3, _), (4, _), (5, _), (6, _)]) r_L_law__995 rfl ?_
    refine EV.o r_L_law__996 (icN (0) (v := 0)) ?_
    refine EV.laloadI r_L_law__997.1 la_135 rfl (by decide) (by decide) ?_
    rw [show (wr J 135 0 v.toInt64) 135 0 = v.toInt64 from wr_same]
    show EV (some (L, xs)) M_L_law_ 41 998 [(0, .ref spc), (1, .ref 0), (2, .ref 106), (3, .ref 135), (4, .int (nI (7 * c))), (5, .int (nI 0)), (6, .int v)] [.long v.toInt64] (hp I2 (wr J 135 0 v.toInt64)) _
    refine EV.l (lv' := [(0, _), (1, _), (2, _), (3, _), (4, _), (5, _), (6, _)]) r_L_law__998 rfl ?_
    refine EV.o r_L_law__1000 rfl ?_
    refine EV.o r_L_law__1001 (st' := [.int (lg_cmp v.toInt64 v.toInt64)]) rfl ?_
    rw [lg_self]
    refine EV.n0_eq r_L_law__1002 (fun _ => ?_) (fun z => absurd rfl z)
    refine EV.g r_L_law__1007 ?_
    refine EV.l (lv' := [(0, _), (1, _), (2, _), (3, _), (4, _), (5, _), (6, _)]) r_L_law__2543 rfl ?_
    rw [inc_7]
    refine EV.g r_L_law__2546 ?_
    refine EV.fg (lv' := [(0, _), (1, _), (2, _), (3, _), (4, _)]) r_L_law__23 rfl rfl rfl ?_
    exact (cont I2 (wr J 135 0 v.toInt64) _ inv2).mono (fun r G q h => QN.of h (by omega))
  · obtain ⟨I1, h1, h2⟩ := hX1 J
    obtain ⟨b, I2, S2, h3, inv2, t2⟩ := h2 J
    show EV (some (L, xs)) M_L_law_ 41 942 [(0, .ref spc), (1, .ref 0), (2, .ref 106), (3, .ref 135), (4, .int (nI (7 * c)))] [] (hp I J) _
    refine EV.l (lv' := [(0, _), (1, _), (2, _), (3, _), (4, _)]) r_L_law__942 rfl ?_
    refine EV.l (lv' := [(0, _), (1, _), (2, _), (3, _), (4, _)]) r_L_law__943 rfl ?_
    refine EV.l (lv' := [(0, _), (1, _), (2, _), (3, _), (4, _)]) r_L_law__944 rfl ?_
    refine EV.o r_L_law__946 (icN (1) (v := 1)) ?_
    refine EV.o r_L_law__947 iaddN ?_
    refine EV.sld r_L_law__948 (by omega) (by omega) ?_
    refine EV.l (lv' := [(0, _), (1, _), (2, _), (3, _), (4, _)]) r_L_law__949 rfl ?_
    refine EV.l (lv' := [(0, _), (1, _), (2, _), (3, _), (4, _)]) r_L_law__950 rfl ?_
    refine EV.o r_L_law__952 (icN (2) (v := 2)) ?_
    refine EV.o r_L_law__953 iaddN ?_
    refine EV.sld r_L_law__954 (by omega) (by omega) ?_
    refine EV.l (lv' := [(0, _), (1, _), (2, _), (3, _), (4, _)]) r_L_law__955 rfl ?_
    refine EV.inv r_L_law__956.1 rfl (by decide) (aS4 mt_300) (Nat.le_of_ble_eq_true rfl) (wx1_at h1) (hp_len _ _ _ _) ?_
    show EV (some (L, xs)) M_L_law_ 41 959 [(0, .ref spc), (1, .ref 0), (2, .ref 106), (3, .ref 135), (4, .int (nI (7 * c)))] [.int (nI 1)] (hp I1 J) _
    refine EV.l (lv' := [(0, _), (1, _), (2, _), (3, _), (4, _), (5, _)]) r_L_law__959 rfl ?_
    refine EV.l (lv' := [(0, _), (1, _), (2, _), (3, _), (4, _), (5, _)]) r_L_law__961 rfl ?_
    refine EV.l (lv' := [(0, _), (1, _), (2, _), (3, _), (4, _), (5, _)]) r_L_law__962 rfl ?_
    refine EV.l (lv' := [(0, _), (1, _), (2, _), (3, _), (4, _), (5, _)]) r_L_law__963 rfl ?_
    refine EV.o r_L_law__965 (icN (1) (v := 1)) ?_
    refine EV.o r_L_law__966 iaddN ?_
    refine EV.sld r_L_law__967 (by omega) (by omega) ?_
    refine EV.l (lv' := [(0, _), (1, _), (2, _), (3, _), (4, _), (5, _)]) r_L_law__968 rfl ?_
    refine EV.l (lv' := [(0, _), (1, _), (2, _), (3, _), (4, _), (5, _)]) r_L_law__969 rfl ?_
    refine EV.o r_L_law__971 (icN (2) (v := 2)) ?_
    refine EV.o r_L_law__972 iaddN ?_
    refine EV.sld r_L_law__973 (by omega) (by omega) ?_
    refine EV.inv r_L_law__974.1 rfl (by decide) (aV2 mt_245 la_106) (Nat.le_of_ble_eq_true rfl) (h3) (hp_len _ _ _ _) ?_
    show EV (some (L, xs)) M_L_law_ 41 977 [(0, .ref spc), (1, .ref 0), (2, .ref 106), (3, .ref 135), (4, .int (nI (7 * c))), (5, .int (nI 1))] [.int b] (hp I2 J) _
    refine EV.l (lv' := [(0, _), (1, _), (2, _), (3, _), (4, _), (5, _), (6, _)]) r_L_law__977 rfl ?_
    refine EV.l (lv' := [(0, _), (1, _), (2, _), (3, _), (4, _), (5, _), (6, _)]) r_L_law__979 rfl ?_
    refine EV.inv r_L_law__980.1 rfl (by decide) (aV0 mt_168 la_106) (Nat.le_of_ble_eq_true rfl) (m_thrown (d := 41) (by omega)) (hp_len _ _ _ _) ?_
    show EV (some (L, xs)) M_L_law_ 41 983 [(0, .ref spc), (1, .ref 0), (2, .ref 106), (3, .ref 135), (4, .int (nI (7 * c))), (5, .int (nI 1)), (6, .int b)] [.int (I2 106 0)] (hp I2 J) _
    rw [t2]
    refine EV.l (lv' := [(0, _), (1, _), (2, _), (3, _), (4, _), (5, _), (6, _)]) r_L_law__983 rfl ?_
    refine EV.r2_eq r_L_law__985 (fun _ => ?_) (fun z => absurd rfl z)
    refine EV.l (lv' := [(0, _), (1, _), (2, _), (3, _), (4, _), (5, _), (6, _)]) r_L_law__990 rfl ?_
    refine EV.n0_ne r_L_law__992 (fun _ => ?_) (fun z => absurd z (by decide))
    refine EV.g r_L_law__1007 ?_
    refine EV.l (lv' := [(0, _), (1, _), (2, _), (3, _), (4, _), (5, _), (6, _)]) r_L_law__2543 rfl ?_
    rw [inc_7]
    refine EV.g r_L_law__2546 ?_
    refine EV.fg (lv' := [(0, _), (1, _), (2, _), (3, _), (4, _)]) r_L_law__23 rfl rfl rfl ?_
    exact (cont I2 J _ inv2).mono (fun r G q h => QN.of h (by omega))
theorem lw_clear {L c n : Nat} {xs : Nat → Int32} {I : Nat → Nat → Int32} {J : Nat → Nat → Int64} {S : STT} (hL : L ≤ 3584) (hc2 : 7 * c + 6 < L) (inv : INVS S I) (cont : ∀ (I2 : Nat → Nat → Int32) (J2 : Nat → Nat → Int64) (S2 : STT), INVS S2 I2 → EV (some (L, xs)) M_L_law_ 41 23 (LVc (c + 1)) [] (hp I2 J2) (QN n)) : EV (some (L, xs)) M_L_law_ 41 1010 (LVc c) [] (hp I J) (QN (n + 1)) := by
  obtain ⟨v, I1, h1, h2⟩ := ans_clear inv J
  obtain ⟨I2, S2, h3, inv2, t2⟩ := h2 J
  show EV (some (L, xs)) M_L_law_ 41 1010 [(0, .ref spc), (1, .ref 0), (2, .ref 106), (3, .ref 135), (4, .int (nI (7 * c)))] [] (hp I J) _
  refine EV.l (lv' := [(0, _), (1, _), (2, _), (3, _), (4, _)]) r_L_law__1010 rfl ?_
  refine EV.inv r_L_law__1011.1 rfl (by decide) (aV0 mt_127 la_0) (Nat.le_of_ble_eq_true rfl) (h1) (hp_len _ _ _ _) ?_
  show EV (some (L, xs)) M_L_law_ 41 1014 [(0, .ref spc), (1, .ref 0), (2, .ref 106), (3, .ref 135), (4, .int (nI (7 * c)))] [.int v] (hp I1 J) _
  refine EV.l (lv' := [(0, _), (1, _), (2, _), (3, _), (4, _)]) r_L_law__1014 rfl ?_
  refine EV.inv r_L_law__1015.1 rfl (by decide) (aV0 mt_246 la_106) (Nat.le_of_ble_eq_true rfl) (h3) (hp_len _ _ _ _) ?_
  show EV (some (L, xs)) M_L_law_ 41 1018 [(0, .ref spc), (1, .ref 0), (2, .ref 106), (3, .ref 135), (4, .int (nI (7 * c)))] [.int v, .int v] (hp I2 J) _
  refine EV.r2_eq r_L_law__1018 (fun _ => ?_) (fun z => absurd rfl z)
  refine EV.l (lv' := [(0, _), (1, _), (2, _), (3, _), (4, _)]) r_L_law__2543 rfl ?_
  rw [inc_7]
  refine EV.g r_L_law__2546 ?_
  exact (cont I2 J _ inv2).mono (fun r G q h => QN.of h (by omega))
