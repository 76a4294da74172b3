/-! (goes on) -/
theorem lw_hide {L c n : Nat} {xs : Nat → Int32} {I : Nat → Nat → Int32} {J : Nat → Nat → Int64} {S : STT} (hL : L ≤ 3584) (hc2 : 7 * c + 6 < L) (inv : INVS S I) (cont : ∀ (I2 : Nat → Nat → Int32) (J2 : Nat → Nat → Int64) (S2 : STT), INVS S2 I2 → EV (some (L, xs)) M_L_law_ 41 23 (LVc (c + 1)) [] (hp I2 J2) (QN n)) : EV (some (L, xs)) M_L_law_ 41 1023 (LVc c) [] (hp I J) (QN (n + 1)) := by
  rcases ans_hide (a0 := xs (7 * c + 1)) (a1 := xs (7 * c + 2)) inv with hV | hX1
  · obtain ⟨v, I1, h1, h2⟩ := hV J
    obtain ⟨I2, S2, h3, inv2, t2⟩ := h2 (wr J 135 0 v.toInt64)
    show EV (some (L, xs)) M_L_law_ 41 1023 [(0, .ref spc), (1, .ref 0), (2, .ref 106), (3, .ref 135), (4, .int (nI (7 * c)))] [] (hp I J) _
    refine EV.l (lv' := [(0, _), (1, _), (2, _), (3, _), (4, _)]) r_L_law__1023 rfl ?_
    refine EV.l (lv' := [(0, _), (1, _), (2, _), (3, _), (4, _)]) r_L_law__1024 rfl ?_
    refine EV.l (lv' := [(0, _), (1, _), (2, _), (3, _), (4, _)]) r_L_law__1025 rfl ?_
    refine EV.o r_L_law__1027 (icN (1) (v := 1)) ?_
    refine EV.o r_L_law__1028 iaddN ?_
    refine EV.sld r_L_law__1029 (by omega) (by omega) ?_
    refine EV.l (lv' := [(0, _), (1, _), (2, _), (3, _), (4, _)]) r_L_law__1030 rfl ?_
    refine EV.l (lv' := [(0, _), (1, _), (2, _), (3, _), (4, _)]) r_L_law__1031 rfl ?_
    refine EV.o r_L_law__1033 (icN (2) (v := 2)) ?_
    refine EV.o r_L_law__1034 iaddN ?_
    refine EV.sld r_L_law__1035 (by omega) (by omega) ?_
    refine EV.l (lv' := [(0, _), (1, _), (2, _), (3, _), (4, _)]) r_L_law__1036 rfl ?_
    refine EV.inv r_L_law__1037.1 rfl (by decide) (aS4 mt_301) (Nat.le_of_ble_eq_true rfl) (wv_hide h1) (hp_len _ _ _ _) ?_
    show EV (some (L, xs)) M_L_law_ 41 1040 [(0, .ref spc), (1, .ref 0), (2, .ref 106), (3, .ref 135), (4, .int (nI (7 * c)))] [.int (nI 0)] (hp I1 (wr J 135 0 v.toInt64)) _
    refine EV.l (lv' := [(0, _), (1, _), (2, _), (3, _), (4, _), (5, _)]) r_L_law__1040 rfl ?_
    refine EV.l (lv' := [(0, _), (1, _), (2, _), (3, _), (4, _), (5, _)]) r_L_law__1042 rfl ?_
    refine EV.l (lv' := [(0, _), (1, _), (2, _), (3, _), (4, _), (5, _)]) r_L_law__1043 rfl ?_
    refine EV.l (lv' := [(0, _), (1, _), (2, _), (3, _), (4, _), (5, _)]) r_L_law__1044 rfl ?_
    refine EV.o r_L_law__1046 (icN (1) (v := 1)) ?_
    refine EV.o r_L_law__1047 iaddN ?_
    refine EV.sld r_L_law__1048 (by omega) (by omega) ?_
    refine EV.l (lv' := [(0, _), (1, _), (2, _), (3, _), (4, _), (5, _)]) r_L_law__1049 rfl ?_
    refine EV.l (lv' := [(0, _), (1, _), (2, _), (3, _), (4, _), (5, _)]) r_L_law__1050 rfl ?_
    refine EV.o r_L_law__1052 (icN (2) (v := 2)) ?_
    refine EV.o r_L_law__1053 iaddN ?_
    refine EV.sld r_L_law__1054 (by omega) (by omega) ?_
    refine EV.inv r_L_law__1055.1 rfl (by decide) (aV2 mt_248 la_106) (Nat.le_of_ble_eq_true rfl) (h3) (hp_len _ _ _ _) ?_
    show EV (some (L, xs)) M_L_law_ 41 1058 [(0, .ref spc), (1, .ref 0), (2, .ref 106), (3, .ref 135), (4, .int (nI (7 * c))), (5, .int (nI 0))] [.int v] (hp I2 (wr J 135 0 v.toInt64)) _
    refine EV.l (lv' := [(0, _), (1, _), (2, _), (3, _), (4, _), (5, _), (6, _)]) r_L_law__1058 rfl ?_
    refine EV.l (lv' := [(0, _), (1, _), (2, _), (3, _), (4, _), (5, _), (6, _)]) r_L_law__1060 rfl ?_
    refine EV.inv r_L_law__1061.1 rfl (by decide) (aV0 mt_168 la_106) (Nat.le_of_ble_eq_true rfl) (m_thrown (d := 41) (by omega)) (hp_len _ _ _ _) ?_
    show EV (some (L, xs)) M_L_law_ 41 1064 [(0, .ref spc), (1, .ref 0), (2, .ref 106), (3, .ref 135), (4, .int (nI (7 * c))), (5, .int (nI 0)), (6, .int v)] [.int (I2 106 0)] (hp I2 (wr J 135 0 v.toInt64)) _
    rw [t2]
    refine EV.l (lv' := [(0, _), (1, _), (2, _), (3, _), (4, _), (5, _), (6, _)]) r_L_law__1064 rfl ?_
    refine EV.r2_eq r_L_law__1066 (fun _ => ?_) (fun z => absurd rfl z)
    refine EV.l (lv' := [(0, _), (1, _), (2, _), (3, _), (4, _), (5, _), (6, _)]) r_L_law__1071 rfl ?_
    refine EV.n0_ne r_L_law__1073 (fun z => absurd rfl z) (fun _ => ?_)
    refine EV.l (lv' := [(0, _), (1, _), (2, _), (3, _), (4, _), (5, _), (6, _)]) r_L_law__1076 rfl ?_
    refine EV.o r_L_law__1077 (icN (0) (v := 0)) ?_
    refine EV.laloadI r_L_law__1078.1 la_135 rfl (by decide) (by decide) ?_
    rw [show (wr J 135 0 v.toInt64) 135 0 = v.toInt64 from wr_same]
    show EV (some (L, xs)) M_L_law_ 41 1079 [(0, .ref spc), (1, .ref 0), (2, .ref 106), (3, .ref 135), (4, .int (nI (7 * c))), (5, .int (nI 0)), (6, .int v)] [.long v.toInt64] (hp I2 (wr J 135 0 v.toInt64)) _
    refine EV.l (lv' := [(0, _), (1, _), (2, _), (3, _), (4, _), (5, _), (6, _)]) r_L_law__1079 rfl ?_
    refine EV.o r_L_law__1081 rfl ?_
    refine EV.o r_L_law__1082 (st' := [.int (lg_cmp v.toInt64 v.toInt64)]) rfl ?_
    rw [lg_self]
    refine EV.n0_eq r_L_law__1083 (fun _ => ?_) (fun z => absurd rfl z)
    refine EV.g r_L_law__1088 ?_
    refine EV.l (lv' := [(0, _), (1, _), (2, _), (3, _), (4, _), (5, _), (6, _)]) r_L_law__2543 rfl ?_
    rw [inc_7]
    refine EV.g r_L_law__2546 ?_
    refine EV.fg (lv' := [(0, _), (1, _), (2, _), (3, _), (4, _)]) r_L_law__23 rfl rfl rfl ?_
    exact (cont I2 (wr J 135 0 v.toInt64) _ inv2).mono (fun r G q h => QN.of h (by omega))
  · obtain ⟨I1, h1, h2⟩ := hX1 J
    obtain ⟨b, I2, S2, h3, inv2, t2⟩ := h2 J
    show EV (some (L, xs)) M_L_law_ 41 1023 [(0, .ref spc), (1, .ref 0), (2, .ref 106), (3, .ref 135), (4, .int (nI (7 * c)))] [] (hp I J) _
    refine EV.l (lv' := [(0, _), (1, _), (2, _), (3, _), (4, _)]) r_L_law__1023 rfl ?_
    refine EV.l (lv' := [(0, _), (1, _), (2, _), (3, _), (4, _)]) r_L_law__1024 rfl ?_
    refine EV.l (lv' := [(0, _), (1, _), (2, _), (3, _), (4, _)]) r_L_law__1025 rfl ?_
    refine EV.o r_L_law__1027 (icN (1) (v := 1)) ?_
    refine EV.o r_L_law__1028 iaddN ?_
    refine EV.sld r_L_law__1029 (by omega) (by omega) ?_
    refine EV.l (lv' := [(0, _), (1, _), (2, _), (3, _), (4, _)]) r_L_law__1030 rfl ?_
    refine EV.l (lv' := [(0, _), (1, _), (2, _), (3, _), (4, _)]) r_L_law__1031 rfl ?_
    refine EV.o r_L_law__1033 (icN (2) (v := 2)) ?_
    refine EV.o r_L_law__1034 iaddN ?_
    refine EV.sld r_L_law__1035 (by omega) (by omega) ?_
    refine EV.l (lv' := [(0, _), (1, _), (2, _), (3, _), (4, _)]) r_L_law__1036 rfl ?_
    refine EV.inv r_L_law__1037.1 rfl (by decide) (aS4 mt_301) (Nat.le_of_ble_eq_true rfl) (wx1_hide h1) (hp_len _ _ _ _) ?_
    show EV (some (L, xs)) M_L_law_ 41 1040 [(0, .ref spc), (1, .ref 0), (2, .ref 106), (3, .ref 135), (4, .int (nI (7 * c)))] [.int (nI 1)] (hp I1 J) _
    refine EV.l (lv' := [(0, _), (1, _), (2, _), (3, _), (4, _), (5, _)]) r_L_law__1040 rfl ?_
    refine EV.l (lv' := [(0, _), (1, _), (2, _), (3, _), (4, _), (5, _)]) r_L_law__1042 rfl ?_
    refine EV.l (lv' := [(0, _), (1, _), (2, _), (3, _), (4, _), (5, _)]) r_L_law__1043 rfl ?_
    refine EV.l (lv' := [(0, _), (1, _), (2, _), (3, _), (4, _), (5, _)]) r_L_law__1044 rfl ?_
    refine EV.o r_L_law__1046 (icN (1) (v := 1)) ?_
    refine EV.o r_L_law__1047 iaddN ?_
    refine EV.sld r_L_law__1048 (by omega) (by omega) ?_
    refine EV.l (lv' := [(0, _), (1, _), (2, _), (3, _), (4, _), (5, _)]) r_L_law__1049 rfl ?_
    refine EV.l (lv' := [(0, _), (1, _), (2, _), (3, _), (4, _), (5, _)]) r_L_law__1050 rfl ?_
    refine EV.o r_L_law__1052 (icN (2) (v := 2)) ?_
    refine EV.o r_L_law__1053 iaddN ?_
    refine EV.sld r_L_law__1054 (by omega) (by omega) ?_
    refine EV.inv r_L_law__1055.1 rfl (by decide) (aV2 mt_248 la_106) (Nat.le_of_ble_eq_true rfl) (h3) (hp_len _ _ _ _) ?_
    show EV (some (L, xs)) M_L_law_ 41 1058 [(0, .ref spc), (1, .ref 0), (2, .ref 106), (3, .ref 135), (4, .int (nI (7 * c))), (5, .int (nI 1))] [.int b] (hp I2 J) _
    refine EV.l (lv' := [(0, _), (1, _), (2, _), (3, _), (4, _), (5, _), (6, _)]) r_L_law__1058 rfl ?_
    refine EV.l (lv' := [(0, _), (1, _), (2, _), (3, _), (4, _), (5, _), (6, _)]) r_L_law__1060 rfl ?_
    refine EV.inv r_L_law__1061.1 rfl (by decide) (aV0 mt_168 la_106) (Nat.le_of_ble_eq_true rfl) (m_thrown (d := 41) (by omega)) (hp_len _ _ _ _) ?_
    show EV (some (L, xs)) M_L_law_ 41 1064 [(0, .ref spc), (1, .ref 0), (2, .ref 106), (3, .ref 135), (4, .int (nI (7 * c))), (5, .int (nI 1)), (6, .int b)] [.int (I2 106 0)] (hp I2 J) _
    rw [t2]
    refine EV.l (lv' := [(0, _), (1, _), (2, _), (3, _), (4, _), (5, _), (6, _)]) r_L_law__1064 rfl ?_
    refine EV.r2_eq r_L_law__1066 (fun _ => ?_) (fun z => absurd rfl z)
    refine EV.l (lv' := [(0, _), (1, _), (2, _), (3, _), (4, _), (5, _), (6, _)]) r_L_law__1071 rfl ?_
    refine EV.n0_ne r_L_law__1073 (fun _ => ?_) (fun z => absurd z (by decide))
    refine EV.g r_L_law__1088 ?_
    refine EV.l (lv' := [(0, _), (1, _), (2, _), (3, _), (4, _), (5, _), (6, _)]) r_L_law__2543 rfl ?_
    rw [inc_7]
    refine EV.g r_L_law__2546 ?_
    refine EV.fg (lv' := [(0, _), (1, _), (2, _), (3, _), (4, _)]) r_L_law__23 rfl rfl rfl ?_
    exact (cont I2 J _ inv2).mono (fun r G q h => QN.of h (by omega))
theorem lw_follows {L c n : Nat} {xs : Nat → Int32} {I : Nat → Nat → Int32} {J : Nat → Nat → Int64} {S : STT} (hL : L ≤ 3584) (hc2 : 7 * c + 6 < L) (inv : INVS S I) (cont : ∀ (I2 : Nat → Nat → Int32) (J2 : Nat → Nat → Int64) (S2 : STT), INVS S2 I2 → EV (some (L, xs)) M_L_law_ 41 23 (LVc (c + 1)) [] (hp I2 J2) (QN n)) : EV (some (L, xs)) M_L_law_ 41 1091 (LVc c) [] (hp I J) (QN (n + 1)) := by
  rcases ans_follows (a0 := xs (7 * c + 1)) inv with hV | hX1
  · obtain ⟨v, I1, h1, h2⟩ := hV J
    obtain ⟨I2, S2, h3, inv2, t2⟩ := h2 (wr J 135 0 v.toInt64)
    show EV (some (L, xs)) M_L_law_ 41 1091 [(0, .ref spc), (1, .ref 0), (2, .ref 106), (3, .ref 135), (4, .int (nI (7 * c)))] [] (hp I J) _
    refine EV.l (lv' := [(0, _), (1, _), (2, _), (3, _), (4, _)]) r_L_law__1091 rfl ?_
    refine EV.l (lv' := [(0, _), (1, _), (2, _), (3, _), (4, _)]) r_L_law__1092 rfl ?_
    refine EV.l (lv' := [(0, _), (1, _), (2, _), (3, _), (4, _)]) r_L_law__1093 rfl ?_
    refine EV.o r_L_law__1095 (icN (1) (v := 1)) ?_
    refine EV.o r_L_law__1096 iaddN ?_
    refine EV.sld r_L_law__1097 (by omega) (by omega) ?_
    refine EV.l (lv' := [(0, _), (1, _), (2, _), (3, _), (4, _)]) r_L_law__1098 rfl ?_
    refine EV.inv r_L_law__1099.1 rfl (by decide) (aS3 mt_302) (Nat.le_of_ble_eq_true rfl) (wv_follows h1) (hp_len _ _ _ _) ?_
    show EV (some (L, xs)) M_L_law_ 41 1102 [(0, .ref spc), (1, .ref 0), (2, .ref 106), (3, .ref 135), (4, .int (nI (7 * c)))] [.int (nI 0)] (hp I1 (wr J 135 0 v.toInt64)) _
    refine EV.l (lv' := [(0, _), (1, _), (2, _), (3, _), (4, _), (5, _)]) r_L_law__1102 rfl ?_
    refine EV.l (lv' := [(0, _), (1, _), (2, _), (3, _), (4, _), (5, _)]) r_L_law__1104 rfl ?_
    refine EV.l (lv' := [(0, _), (1, _), (2, _), (3, _), (4, _), (5, _)]) r_L_law__1105 rfl ?_
    refine EV.l (lv' := [(0, _), (1, _), (2, _), (3, _), (4, _), (5, _)]) r_L_law__1106 rfl ?_
    refine EV.o r_L_law__1108 (icN (1) (v := 1)) ?_
    refine EV.o r_L_law__1109 iaddN ?_
    refine EV.sld r_L_law__1110 (by omega) (by omega) ?_
    refine EV.inv r_L_law__1111.1 rfl (by decide) (aV1 mt_249 la_106) (Nat.le_of_ble_eq_true rfl) (h3) (hp_len _ _ _ _) ?_
    show EV (some (L, xs)) M_L_law_ 41 1114 [(0, .ref spc), (1, .ref 0), (2, .ref 106), (3, .ref 135), (4, .int (nI (7 * c))), (5, .int (nI 0))] [.int v] (hp I2 (wr J 135 0 v.toInt64)) _
    refine EV.l (lv' := [(0, _), (1, _), (2, _), (3, _), (4, _), (5, _), (6, _)]) r_L_law__1114 rfl ?_
    refine EV.l (lv' := [(0, _), (1, _), (2, _), (3, _), (4, _), (5, _), (6, _)]) r_L_law__1116 rfl ?_
    refine EV.inv r_L_law__1117.1 rfl (by decide) (aV0 mt_168 la_106) (Nat.le_of_ble_eq_true rfl) (m_thrown (d := 41) (by omega)) (hp_len _ _ _ _) ?_
    show EV (some (L, xs)) M_L_law_ 41 1120 [(0, .ref spc), (1, .ref 0), (2, .ref 106), (3, .ref 135), (4, .int (nI (7 * c))), (5, .int (nI 0)), (6, .int v)] [.int (I2 106 0)] (hp I2 (wr J 135 0 v.toInt64)) _
    rw [t2]
    refine EV.l (lv' := [(0, _), (1, _), (2, _), (3, _), (4, _), (5, _), (6, _)]) r_L_law__1120 rfl ?_
    refine EV.r2_eq r_L_law__1122 (fun _ => ?_) (fun z => absurd rfl z)
    refine EV.l (lv' := [(0, _), (1, _), (2, _), (3, _), (4, _), (5, _), (6, _)]) r_L_law__1127 rfl ?_
    refine EV.n0_ne r_L_law__1129 (fun z => absurd rfl z) (fun _ => ?_)
    refine EV.l (lv' := [(0, _), (1, _), (2, _), (3, _), (4, _), (5, _), (6, _)]) r_L_law__1132 rfl ?_
    refine EV.o r_L_law__1133 (icN (0) (v := 0)) ?_
    refine EV.laloadI r_L_law__1134.1 la_135 rfl (by decide) (by decide) ?_
    rw [show (wr J 135 0 v.toInt64) 135 0 = v.toInt64 from wr_same]
    show EV (some (L, xs)) M_L_law_ 41 1135 [(0, .ref spc), (1, .ref 0), (2, .ref 106), (3, .ref 135), (4, .int (nI (7 * c))), (5, .int (nI 0)), (6, .int v)] [.long v.toInt64] (hp I2 (wr J 135 0 v.toInt64)) _
    refine EV.l (lv' := [(0, _), (1, _), (2, _), (3, _), (4, _), (5, _), (6, _)]) r_L_law__1135 rfl ?_
    refine EV.o r_L_law__1137 rfl ?_
    refine EV.o r_L_law__1138 (st' := [.int (lg_cmp v.toInt64 v.toInt64)]) rfl ?_
    rw [lg_self]
    refine EV.n0_eq r_L_law__1139 (fun _ => ?_) (fun z => absurd rfl z)
    refine EV.g r_L_law__1144 ?_
    refine EV.l (lv' := [(0, _), (1, _), (2, _), (3, _), (4, _), (5, _), (6, _)]) r_L_law__2543 rfl ?_
    rw [inc_7]
    refine EV.g r_L_law__2546 ?_
    refine EV.fg (lv' := [(0, _), (1, _), (2, _), (3, _), (4, _)]) r_L_law__23 rfl rfl rfl ?_
    exact (cont I2 (wr J 135 0 v.toInt64) _ inv2).mono (fun r G q h => QN.of h (by omega))
  · obtain ⟨I1, h1, h2⟩ := hX1 J
    obtain ⟨b, I2, S2, h3, inv2, t2⟩ := h2 J
    show EV (some (L, xs)) M_L_law_ 41 1091 [(0, .ref spc), (1, .ref 0), (2, .ref 106), (3, .ref 135), (4, .int (nI (7 * c)))] [] (hp I J) _
    refine EV.l (lv' := [(0, _), (1, _), (2, _), (3, _), (4, _)]) r_L_law__1091 rfl ?_
    refine EV.l (lv' := [(0, _), (1, _), (2, _), (3, _), (4, _)]) r_L_law__1092 rfl ?_
    refine EV.l (lv' := [(0, _), (1, _), (2, _), (3, _), (4, _)]) r_L_law__1093 rfl ?_
    refine EV.o r_L_law__1095 (icN (1) (v := 1)) ?_
    refine EV.o r_L_law__1096 iaddN ?_
    refine EV.sld r_L_law__1097 (by omega) (by omega) ?_
    refine EV.l (lv' := [(0, _), (1, _), (2, _), (3, _), (4, _)]) r_L_law__1098 rfl ?_
    refine EV.inv r_L_law__1099.1 rfl (by decide) (aS3 mt_302) (Nat.le_of_ble_eq_true rfl) (wx1_follows h1) (hp_len _ _ _ _) ?_
    show EV (some (L, xs)) M_L_law_ 41 1102 [(0, .ref spc), (1, .ref 0), (2, .ref 106), (3, .ref 135), (4, .int (nI (7 * c)))] [.int (nI 1)] (hp I1 J) _
    refine EV.l (lv' := [(0, _), (1, _), (2, _), (3, _), (4, _), (5, _)]) r_L_law__1102 rfl ?_
    refine EV.l (lv' := [(0, _), (1, _), (2, _), (3, _), (4, _), (5, _)]) r_L_law__1104 rfl ?_
    refine EV.l (lv' := [(0, _), (1, _), (2, _), (3, _), (4, _), (5, _)]) r_L_law__1105 rfl ?_
    refine EV.l (lv' := [(0, _), (1, _), (2, _), (3, _), (4, _), (5, _)]) r_L_law__1106 rfl ?_
    refine EV.o r_L_law__1108 (icN (1) (v := 1)) ?_
    refine EV.o r_L_law__1109 iaddN ?_
    refine EV.sld r_L_law__1110 (by omega) (by omega) ?_
    refine EV.inv r_L_law__1111.1 rfl (by decide) (aV1 mt_249 la_106) (Nat.le_of_ble_eq_true rfl) (h3) (hp_len _ _ _ _) ?_
    show EV (some (L, xs)) M_L_law_ 41 1114 [(0, .ref spc), (1, .ref 0), (2, .ref 106), (3, .ref 135), (4, .int (nI (7 * c))), (5, .int (nI 1))] [.int b] (hp I2 J) _
    refine EV.l (lv' := [(0, _), (1, _), (2, _), (3, _), (4, _), (5, _), (6, _)]) r_L_law__1114 rfl ?_
    refine EV.l (lv' := [(0, _), (1, _), (2, _), (3, _), (4, _), (5, _), (6, _)]) r_L_law__1116 rfl ?_
    refine EV.inv r_L_law__1117.1 rfl (by decide) (aV0 mt_168 la_106) (Nat.le_of_ble_eq_true rfl) (m_thrown (d := 41) (by omega)) (hp_len _ _ _ _) ?_
    show EV (some (L, xs)) M_L_law_ 41 1120 [(0, .ref spc), (1, .ref 0), (2, .ref 106), (3, .ref 135), (4, .int (nI (7 * c))), (5, .int (nI 1)), (6, .int b)] [.int (I2 106 0)] (hp I2 J) _
    rw [t2]
    refine EV.l (lv' := [(0, _), (1, _), (2, _), (3, _), (4, _), (5, _), (6, _)]) r_L_law__1120 rfl ?_
    refine EV.r2_eq r_L_law__1122 (fun _ => ?_) (fun z => absurd rfl z)
    refine EV.l (lv' := [(0, _), (1, _), (2, _), (3, _), (4, _), (5, _), (6, _)]) r_L_law__1127 rfl ?_
    refine EV.n0_ne r_L_law__1129 (fun _ => ?_) (fun z => absurd z (by decide))
    refine EV.g r_L_law__1144 ?_
    refine EV.l (lv' := [(0, _), (1, _), (2, _), (3, _), (4, _), (5, _), (6, _)]) r_L_law__2543 rfl ?_
    rw [inc_7]
    refine EV.g r_L_law__2546 ?_
    refine EV.fg (lv' := [(0, _), (1, _), (2, _), (3, _), (4, _)]) r_L_law__23 rfl rfl rfl ?_
    exact (cont I2 J _ inv2).mono (fun r G q h => QN.of h (by omega))
theorem lw_proof {L c n : Nat} {xs : Nat → Int32} {I : Nat → Nat → Int32} {J : Nat → Nat → Int64} {S : STT} (hL : L ≤ 3584) (hc2 : 7 * c + 6 < L) (inv : INVS S I) (cont : ∀ (I2 : Nat → Nat → Int32) (J2 : Nat → Nat → Int64) (S2 : STT), INVS S2 I2 → EV (some (L, xs)) M_L_law_ 41 23 (LVc (c + 1)) [] (hp I2 J2) (QN n)) : EV (some (L, xs)) M_L_law_ 41 1147 (LVc c) [] (hp I J) (QN (n + 1)) := by
  rcases ans_proof (a0 := xs (7 * c + 1)) inv with hV | hX0
  · obtain ⟨v, I1, h1, h2⟩ := hV J
    obtain ⟨I2, S2, h3, inv2, t2⟩ := h2 (wr J 135 0 v.toInt64)
    show EV (some (L, xs)) M_L_law_ 41 1147 [(0, .ref spc), (1, .ref 0), (2, .ref 106), (3, .ref 135), (4, .int (nI (7 * c)))] [] (hp I J) _
    refine EV.l (lv' := [(0, _), (1, _), (2, _), (3, _), (4, _)]) r_L_law__1147 rfl ?_
    refine EV.l (lv' := [(0, _), (1, _), (2, _), (3, _), (4, _)]) r_L_law__1148 rfl ?_
    refine EV.l (lv' := [(0, _), (1, _), (2, _), (3, _), (4, _)]) r_L_law__1149 rfl ?_
    refine EV.o r_L_law__1151 (icN (1) (v := 1)) ?_
    refine EV.o r_L_law__1152 iaddN ?_
    refine EV.sld r_L_law__1153 (by omega) (by omega) ?_
    refine EV.l (lv' := [(0, _), (1, _), (2, _), (3, _), (4, _)]) r_L_law__1154 rfl ?_
    refine EV.inv r_L_law__1155.1 rfl (by decide) (aS3 mt_303) (Nat.le_of_ble_eq_true rfl) (wv_proof h1) (hp_len _ _ _ _) ?_
    show EV (some (L, xs)) M_L_law_ 41 1158 [(0, .ref spc), (1, .ref 0), (2, .ref 106), (3, .ref 135), (4, .int (nI (7 * c)))] [.int (nI 0)] (hp I1 (wr J 135 0 v.toInt64)) _
    refine EV.l (lv' := [(0, _), (1, _), (2, _), (3, _), (4, _), (5, _)]) r_L_law__1158 rfl ?_
    refine EV.l (lv' := [(0, _), (1, _), (2, _), (3, _), (4, _), (5, _)]) r_L_law__1160 rfl ?_
    refine EV.l (lv' := [(0, _), (1, _), (2, _), (3, _), (4, _), (5, _)]) r_L_law__1161 rfl ?_
    refine EV.l (lv' := [(0, _), (1, _), (2, _), (3, _), (4, _), (5, _)]) r_L_law__1162 rfl ?_
    refine EV.o r_L_law__1164 (icN (1) (v := 1)) ?_
    refine EV.o r_L_law__1165 iaddN ?_
    refine EV.sld r_L_law__1166 (by omega) (by omega) ?_
    refine EV.inv r_L_law__1167.1 rfl (by decide) (aV1 mt_250 la_106) (Nat.le_of_ble_eq_true rfl) (h3) (hp_len _ _ _ _) ?_
    show EV (some (L, xs)) M_L_law_ 41 1170 [(0, .ref spc), (1, .ref 0), (2, .ref 106), (3, .ref 135), (4, .int (nI (7 * c))), (5, .int (nI 0))] [.int v] (hp I2 (wr J 135 0 v.toInt64)) _
    refine EV.l (lv' := [(0, _), (1, _), (2, _), (3, _), (4, _), (5, _), (6, _)]) r_L_law__1170 rfl ?_
    refine EV.l (lv' := [(0, _), (1, _), (2, _), (3, _), (4, _), (5, _), (6, _)]) r_L_law__1172 rfl ?_
    refine EV.inv r_L_law__1173.1 rfl (by decide) (aV0 mt_168 la_106) (Nat.le_of_ble_eq_true rfl) (m_thrown (d := 41) (by omega)) (hp_len _ _ _ _) ?_
    show EV (some (L, xs)) M_L_law_ 41 1176 [(0, .ref spc), (1, .ref 0), (2, .ref 106), (3, .ref 135), (4, .int (nI (7 * c))), (5, .int (nI 0)), (6, .int v)] [.int (I2 106 0)] (hp I2 (wr J 135 0 v.toInt64)) _
    rw [t2]
    refine EV.l (lv' := [(0, _), (1, _), (2, _), (3, _), (4, _), (5, _), (6, _)]) r_L_law__1176 rfl ?_
    refine EV.r2_eq r_L_law__1178 (fun _ => ?_) (fun z => absurd rfl z)
    refine EV.l (lv' := [(0, _), (1, _), (2, _), (3, _), (4, _), (5, _), (6, _)]) r_L_law__1183 rfl ?_
    refine EV.n0_ne r_L_law__1185 (fun z => absurd rfl z) (fun _ => ?_)
    refine EV.l (lv' := [(0, _), (1, _), (2, _), (3, _), (4, _), (5, _), (6, _)]) r_L_law__1188 rfl ?_
    refine EV.o r_L_law__1189 (icN (0) (v := 0)) ?_
    refine EV.laloadI r_L_law__1190.1 la_135 rfl (by decide) (by decide) ?_
    rw [show (wr J 135 0 v.toInt64) 135 0 = v.toInt64 from wr_same]
    show EV (some (L, xs)) M_L_law_ 41 1191 [(0, .ref spc), (1, .ref 0), (2, .ref 106), (3, .ref 135), (4, .int (nI (7 * c))), (5, .int (nI 0)), (6, .int v)] [.long v.toInt64] (hp I2 (wr J 135 0 v.toInt64)) _
    refine EV.l (lv' := [(0, _), (1, _), (2, _), (3, _), (4, _), (5, _), (6, _)]) r_L_law__1191 rfl ?_
    refine EV.o r_L_law__1193 rfl ?_
    refine EV.o r_L_law__1194 (st' := [.int (lg_cmp v.toInt64 v.toInt64)]) rfl ?_
    rw [lg_self]
    refine EV.n0_eq r_L_law__1195 (fun _ => ?_) (fun z => absurd rfl z)
    refine EV.g r_L_law__1200 ?_
    refine EV.l (lv' := [(0, _), (1, _), (2, _), (3, _), (4, _), (5, _), (6, _)]) r_L_law__2543 rfl ?_
    rw [inc_7]
    refine EV.g r_L_law__2546 ?_
    refine EV.fg (lv' := [(0, _), (1, _), (2, _), (3, _), (4, _)]) r_L_law__23 rfl rfl rfl ?_
    exact (cont I2 (wr J 135 0 v.toInt64) _ inv2).mono (fun r G q h => QN.of h (by omega))
  · obtain ⟨I1, h1, h2⟩ := hX0 J
    obtain ⟨b, I2, S2, h3, inv2, t2⟩ := h2 J
    show EV (some (L, xs)) M_L_law_ 41 1147 [(0, .ref spc), (1, .ref 0), (2, .ref 106), (3, .ref 135), (4, .int (nI (7 * c)))] [] (hp I J) _
    refine EV.l (lv' := [(0, _), (1, _), (2, _), (3, _), (4, _)]) r_L_law__1147 rfl ?_
    refine EV.l (lv' := [(0, _), (1, _), (2, _), (3, _), (4, _)]) r_L_law__1148 rfl ?_
    refine EV.l (lv' := [(0, _), (1, _), (2, _), (3, _), (4, _)]) r_L_law__1149 rfl ?_
    refine EV.o r_L_law__1151 (icN (1) (v := 1)) ?_
    refine EV.o r_L_law__1152 iaddN ?_
    refine EV.sld r_L_law__1153 (by omega) (by omega) ?_
    refine EV.l (lv' := [(0, _), (1, _), (2, _), (3, _), (4, _)]) r_L_law__1154 rfl ?_
    refine EV.inv r_L_law__1155.1 rfl (by decide) (aS3 mt_303) (Nat.le_of_ble_eq_true rfl) (wx0_proof h1) (hp_len _ _ _ _) ?_
    show EV (some (L, xs)) M_L_law_ 41 1158 [(0, .ref spc), (1, .ref 0), (2, .ref 106), (3, .ref 135), (4, .int (nI (7 * c)))] [.int (nI 1)] (hp I1 J) _
    refine EV.l (lv' := [(0, _), (1, _), (2, _), (3, _), (4, _), (5, _)]) r_L_law__1158 rfl ?_
    refine EV.l (lv' := [(0, _), (1, _), (2, _), (3, _), (4, _), (5, _)]) r_L_law__1160 rfl ?_
    refine EV.l (lv' := [(0, _), (1, _), (2, _), (3, _), (4, _), (5, _)]) r_L_law__1161 rfl ?_
    refine EV.l (lv' := [(0, _), (1, _), (2, _), (3, _), (4, _), (5, _)]) r_L_law__1162 rfl ?_
    refine EV.o r_L_law__1164 (icN (1) (v := 1)) ?_
    refine EV.o r_L_law__1165 iaddN ?_
    refine EV.sld r_L_law__1166 (by omega) (by omega) ?_
    refine EV.inv r_L_law__1167.1 rfl (by decide) (aV1 mt_250 la_106) (Nat.le_of_ble_eq_true rfl) (h3) (hp_len _ _ _ _) ?_
    show EV (some (L, xs)) M_L_law_ 41 1170 [(0, .ref spc), (1, .ref 0), (2, .ref 106), (3, .ref 135), (4, .int (nI (7 * c))), (5, .int (nI 1))] [.int b] (hp I2 J) _
    refine EV.l (lv' := [(0, _), (1, _), (2, _), (3, _), (4, _), (5, _), (6, _)]) r_L_law__1170 rfl ?_
    refine EV.l (lv' := [(0, _), (1, _), (2, _), (3, _), (4, _), (5, _), (6, _)]) r_L_law__1172 rfl ?_
    refine EV.inv r_L_law__1173.1 rfl (by decide) (aV0 mt_168 la_106) (Nat.le_of_ble_eq_true rfl) (m_thrown (d := 41) (by omega)) (hp_len _ _ _ _) ?_
    show EV (some (L, xs)) M_L_law_ 41 1176 [(0, .ref spc), (1, .ref 0), (2, .ref 106), (3, .ref 135), (4, .int (nI (7 * c))), (5, .int (nI 1)), (6, .int b)] [.int (I2 106 0)] (hp I2 J) _
    rw [t2]
    refine EV.l (lv' := [(0, _), (1, _), (2, _), (3, _), (4, _), (5, _), (6, _)]) r_L_law__1176 rfl ?_
    refine EV.r2_eq r_L_law__1178 (fun _ => ?_) (fun z => absurd rfl z)
    refine EV.l (lv' := [(0, _), (1, _), (2, _), (3, _), (4, _), (5, _), (6, _)]) r_L_law__1183 rfl ?_
    refine EV.n0_ne r_L_law__1185 (fun _ => ?_) (fun z => absurd z (by decide))
    refine EV.g r_L_law__1200 ?_
    refine EV.l (lv' := [(0, _), (1, _), (2, _), (3, _), (4, _), (5, _), (6, _)]) r_L_law__2543 rfl ?_
    rw [inc_7]
    refine EV.g r_L_law__2546 ?_
    refine EV.fg (lv' := [(0, _), (1, _), (2, _), (3, _), (4, _)]) r_L_law__23 rfl rfl rfl ?_
    exact (cont I2 J _ inv2).mono (fun r G q h => QN.of h (by omega))
theorem lw_turn {L c n : Nat} {xs : Nat → Int32} {I : Nat → Nat → Int32} {J : Nat → Nat → Int64} {S : STT} (hL : L ≤ 3584) (hc2 : 7 * c + 6 < L) (inv : INVS S I) (cont : ∀ (I2 : Nat → Nat → Int32) (J2 : Nat → Nat → Int64) (S2 : STT), INVS S2 I2 → EV (some (L, xs)) M_L_law_ 41 23 (LVc (c + 1)) [] (hp I2 J2) (QN n)) : EV (some (L, xs)) M_L_law_ 41 1203 (LVc c) [] (hp I J) (QN (n + 1)) := by
  obtain ⟨v, I1, h1, h2⟩ := ans_turn inv J
  obtain ⟨I2, S2, h3, inv2, t2⟩ := h2 J
  show EV (some (L, xs)) M_L_law_ 41 1203 [(0, .ref spc), (1, .ref 0), (2, .ref 106), (3, .ref 135), (4, .int (nI (7 * c)))] [] (hp I J) _
  refine EV.l (lv' := [(0, _), (1, _), (2, _), (3, _), (4, _)]) r_L_law__1203 rfl ?_
  refine EV.inv r_L_law__1204.1 rfl (by decide) (aV0 mt_131 la_0) (Nat.le_of_ble_eq_true rfl) (h1) (hp_len _ _ _ _) ?_
  show EV (some (L, xs)) M_L_law_ 41 1207 [(0, .ref spc), (1, .ref 0), (2, .ref 106), (3, .ref 135), (4, .int (nI (7 * c)))] [.int v] (hp I1 J) _
  refine EV.l (lv' := [(0, _), (1, _), (2, _), (3, _), (4, _)]) r_L_law__1207 rfl ?_
  refine EV.inv r_L_law__1208.1 rfl (by decide) (aV0 mt_251 la_106) (Nat.le_of_ble_eq_true rfl) (h3) (hp_len _ _ _ _) ?_
  show EV (some (L, xs)) M_L_law_ 41 1211 [(0, .ref spc), (1, .ref 0), (2, .ref 106), (3, .ref 135), (4, .int (nI (7 * c)))] [.int v, .int v] (hp I2 J) _
  refine EV.r2_eq r_L_law__1211 (fun _ => ?_) (fun z => absurd rfl z)
  refine EV.l (lv' := [(0, _), (1, _), (2, _), (3, _), (4, _)]) r_L_law__2543 rfl ?_
  rw [inc_7]
  refine EV.g r_L_law__2546 ?_
  exact (cont I2 J _ inv2).mono (fun r G q h => QN.of h (by omega))
theorem lw_fits {L c n : Nat} {xs : Nat → Int32} {I : Nat → Nat → Int32} {J : Nat → Nat → Int64} {S : STT} (hL : L ≤ 3584) (hc2 : 7 * c + 6 < L) (inv : INVS S I) (cont : ∀ (I2 : Nat → Nat → Int32) (J2 : Nat → Nat → Int64) (S2 : STT), INVS S2 I2 → EV (some (L, xs)) M_L_law_ 41 23 (LVc (c + 1)) [] (hp I2 J2) (QN n)) : EV (some (L, xs)) M_L_law_ 41 1216 (LVc c) [] (hp I J) (QN (n + 1)) := by
  rcases ans_fits (a0 := xs (7 * c + 1)) inv with hV | hX1
  · obtain ⟨v, I1, h1, h2⟩ := hV J
    obtain ⟨I2, S2, h3, inv2, t2⟩ := h2 (wr J 135 0 v.toInt64)
    show EV (some (L, xs)) M_L_law_ 41 1216 [(0, .ref spc), (1, .ref 0), (2, .ref 106), (3, .ref 135), (4, .int (nI (7 * c)))] [] (hp I J) _
    refine EV.l (lv' := [(0, _), (1, _), (2, _), (3, _), (4, _)]) r_L_law__1216 rfl ?_
    refine EV.l (lv' := [(0, _), (1, _), (2, _), (3, _), (4, _)]) r_L_law__1217 rfl ?_
    refine EV.l (lv' := [(0, _), (1, _), (2, _), (3, _), (4, _)]) r_L_law__1218 rfl ?_
    refine EV.o r_L_law__1220 (icN (1) (v := 1)) ?_
    refine EV.o r_L_law__1221 iaddN ?_
    refine EV.sld r_L_law__1222 (by omega) (by omega) ?_
    refine EV.l (lv' := [(0, _), (1, _), (2, _), (3, _), (4, _)]) r_L_law__1223 rfl ?_
    refine EV.inv r_L_law__1224.1 rfl (by decide) (aS3 mt_304) (Nat.le_of_ble_eq_true rfl) (wv_fits h1) (hp_len _ _ _ _) ?_
    show EV (some (L, xs)) M_L_law_ 41 1227 [(0, .ref spc), (1, .ref 0), (2, .ref 106), (3, .ref 135), (4, .int (nI (7 * c)))] [.int (nI 0)] (hp I1 (wr J 135 0 v.toInt64)) _
    refine EV.l (lv' := [(0, _), (1, _), (2, _), (3, _), (4, _), (5, _)]) r_L_law__1227 rfl ?_
    refine EV.l (lv' := [(0, _), (1, _), (2, _), (3, _), (4, _), (5, _)]) r_L_law__1229 rfl ?_
    refine EV.l (lv' := [(0, _), (1, _), (2, _), (3, _), (4, _), (5, _)]) r_L_law__1230 rfl ?_
    refine EV.l (lv' := [(0, _), (1, _), (2, _), (3, _), (4, _), (5, _)]) r_L_law__1231 rfl ?_
    refine EV.o r_L_law__1233 (icN (1) (v := 1)) ?_
    refine EV.o r_L_law__1234 iaddN ?_
    refine EV.sld r_L_law__1235 (by omega) (by omega) ?_
    refine EV.inv r_L_law__1236.1 rfl (by decide) (aV1 mt_254 la_106) (Nat.le_of_ble_eq_true rfl) (h3) (hp_len _ _ _ _) ?_
    show EV (some (L, xs)) M_L_law_ 41 1239 [(0, .ref spc), (1, .ref 0), (2, .ref 106), (3, .ref 135), (4, .int (nI (7 * c))), (5, .int (nI 0))] [.int v] (hp I2 (wr J 135 0 v.toInt64)) _
    refine EV.l (lv' := [(0, _), (1, _), (2, _), (3, _), (4, _), (5, _), (6, _)]) r_L_law__1239 rfl ?_
    refine EV.l (lv' := [(0, _), (1, _), (2, _), (3, _), (4, _), (5, _), (6, _)]) r_L_law__1241 rfl ?_
    refine EV.inv r_L_law__1242.1 rfl (by decide) (aV0 mt_168 la_106) (Nat.le_of_ble_eq_true rfl) (m_thrown (d := 41) (by omega)) (hp_len _ _ _ _) ?_
    show EV (some (L, xs)) M_L_law_ 41 1245 [(0, .ref spc), (1, .ref 0), (2, .ref 106), (3, .ref 135), (4, .int (nI (7 * c))), (5, .int (nI 0)), (6, .int v)] [.int (I2 106 0)] (hp I2 (wr J 135 0 v.toInt64)) _
    rw [t2]
    refine EV.l (lv' := [(0, _), (1, _), (2, _), (3, _), (4, _), (5, _), (6, _)]) r_L_law__1245 rfl ?_
    refine EV.r2_eq r_L_law__1247 (fun _ => ?_) (fun z => absurd rfl z)
    refine EV.l (lv' := [(0, _), (1, _), (2, _), (3, _), (4, _), (5, _), (6, _)]) r_L_law__1252 rfl ?_
    refine EV.n0_ne r_L_law__1254 (fun z => absurd rfl z) (fun _ => ?_)
    refine EV.l (lv' := [(0, _), (1, _), (2, _), (3, _), (4, _), (5, _), (6, _)]) r_L_law__1257 rfl ?_
    refine EV.o r_L_law__1258 (icN (0) (v := 0)) ?_
    refine EV.laloadI r_L_law__1259.1 la_135 rfl (by decide) (by decide) ?_
    rw [show (wr J 135 0 v.toInt64) 135 0 = v.toInt64 from wr_same]
    show EV (some (L, xs)) M_L_law_ 41 1260 [(0, .ref spc), (1, .ref 0), (2, .ref 106), (3, .ref 135), (4, .int (nI (7 * c))), (5, .int (nI 0)), (6, .int v)] [.long v.toInt64] (hp I2 (wr J 135 0 v.toInt64)) _
    refine EV.l (lv' := [(0, _), (1, _), (2, _), (3, _), (4, _), (5, _), (6, _)]) r_L_law__1260 rfl ?_
    refine EV.o r_L_law__1262 rfl ?_
    refine EV.o r_L_law__1263 (st' := [.int (lg_cmp v.toInt64 v.toInt64)]) rfl ?_
    rw [lg_self]
    refine EV.n0_eq r_L_law__1264 (fun _ => ?_) (fun z => absurd rfl z)
    refine EV.g r_L_law__1269 ?_
    refine EV.l (lv' := [(0, _), (1, _), (2, _), (3, _), (4, _), (5, _), (6, _)]) r_L_law__2543 rfl ?_
    rw [inc_7]
    refine EV.g r_L_law__2546 ?_
    refine EV.fg (lv' := [(0, _), (1, _), (2, _), (3, _), (4, _)]) r_L_law__23 rfl rfl rfl ?_
    exact (cont I2 (wr J 135 0 v.toInt64) _ inv2).mono (fun r G q h => QN.of h (by omega))
  · obtain ⟨I1, h1, h2⟩ := hX1 J
    obtain ⟨b, I2, S2, h3, inv2, t2⟩ := h2 J
    show EV (some (L, xs)) M_L_law_ 41 1216 [(0, .ref spc), (1, .ref 0), (2, .ref 106), (3, .ref 135), (4, .int (nI (7 * c)))] [] (hp I J) _
    refine EV.l (lv' := [(0, _), (1, _), (2, _), (3, _), (4, _)]) r_L_law__1216 rfl ?_
    refine EV.l (lv' := [(0, _), (1, _), (2, _), (3, _), (4, _)]) r_L_law__1217 rfl ?_
    refine EV.l (lv' := [(0, _), (1, _), (2, _), (3, _), (4, _)]) r_L_law__1218 rfl ?_
    refine EV.o r_L_law__1220 (icN (1) (v := 1)) ?_
    refine EV.o r_L_law__1221 iaddN ?_
    refine EV.sld r_L_law__1222 (by omega) (by omega) ?_
    refine EV.l (lv' := [(0, _), (1, _), (2, _), (3, _), (4, _)]) r_L_law__1223 rfl ?_
    refine EV.inv r_L_law__1224.1 rfl (by decide) (aS3 mt_304) (Nat.le_of_ble_eq_true rfl) (wx1_fits h1) (hp_len _ _ _ _) ?_
    show EV (some (L, xs)) M_L_law_ 41 1227 [(0, .ref spc), (1, .ref 0), (2, .ref 106), (3, .ref 135), (4, .int (nI (7 * c)))] [.int (nI 1)] (hp I1 J) _
    refine EV.l (lv' := [(0, _), (1, _), (2, _), (3, _), (4, _), (5, _)]) r_L_law__1227 rfl ?_
    refine EV.l (lv' := [(0, _), (1, _), (2, _), (3, _), (4, _), (5, _)]) r_L_law__1229 rfl ?_
    refine EV.l (lv' := [(0, _), (1, _), (2, _), (3, _), (4, _), (5, _)]) r_L_law__1230 rfl ?_
    refine EV.l (lv' := [(0, _), (1, _), (2, _), (3, _), (4, _), (5, _)]) r_L_law__1231 rfl ?_
    refine EV.o r_L_law__1233 (icN (1) (v := 1)) ?_
    refine EV.o r_L_law__1234 iaddN ?_
    refine EV.sld r_L_law__1235 (by omega) (by omega) ?_
    refine EV.inv r_L_law__1236.1 rfl (by decide) (aV1 mt_254 la_106) (Nat.le_of_ble_eq_true rfl) (h3) (hp_len _ _ _ _) ?_
    show EV (some (L, xs)) M_L_law_ 41 1239 [(0, .ref spc), (1, .ref 0), (2, .ref 106), (3, .ref 135), (4, .int (nI (7 * c))), (5, .int (nI 1))] [.int b] (hp I2 J) _
    refine EV.l (lv' := [(0, _), (1, _), (2, _), (3, _), (4, _), (5, _), (6, _)]) r_L_law__1239 rfl ?_
    refine EV.l (lv' := [(0, _), (1, _), (2, _), (3, _), (4, _), (5, _), (6, _)]) r_L_law__1241 rfl ?_
    refine EV.inv r_L_law__1242.1 rfl (by decide) (aV0 mt_168 la_106) (Nat.le_of_ble_eq_true rfl) (m_thrown (d := 41) (by omega)) (hp_len _ _ _ _) ?_
    show EV (some (L, xs)) M_L_law_ 41 1245 [(0, .ref spc), (1, .ref 0), (2, .ref 106), (3, .ref 135), (4, .int (nI (7 * c))), (5, .int (nI 1)), (6, .int b)] [.int (I2 106 0)] (hp I2 J) _
    rw [t2]
    refine EV.l (lv' := [(0, _), (1, _), (2, _), (3, _), (4, _), (5, _), (6, _)]) r_L_law__1245 rfl ?_
    refine EV.r2_eq r_L_law__1247 (fun _ => ?_) (fun z => absurd rfl z)
    refine EV.l (lv' := [(0, _), (1, _), (2, _), (3, _), (4, _), (5, _), (6, _)]) r_L_law__1252 rfl ?_
    refine EV.n0_ne r_L_law__1254 (fun _ => ?_) (fun z => absurd z (by decide))
    refine EV.g r_L_law__1269 ?_
    refine EV.l (lv' := [(0, _), (1, _), (2, _), (3, _), (4, _), (5, _), (6, _)]) r_L_law__2543 rfl ?_
    rw [inc_7]
    refine EV.g r_L_law__2546 ?_
    refine EV.fg (lv' := [(0, _), (1, _), (2, _), (3, _), (4, _)]) r_L_law__23 rfl rfl rfl ?_
    exact (cont I2 J _ inv2).mono (fun r G q h => QN.of h (by omega))
theorem lw_look {L c n : Nat} {xs : Nat → Int32} {I : Nat → Nat → Int32} {J : Nat → Nat → Int64} {S : STT} (hL : L ≤ 3584) (hc2 : 7 * c + 6 < L) (inv : INVS S I) (cont : ∀ (I2 : Nat → Nat → Int32) (J2 : Nat → Nat → Int64) (S2 : STT), INVS S2 I2 → EV (some (L, xs)) M_L_law_ 41 23 (LVc (c + 1)) [] (hp I2 J2) (QN n)) : EV (some (L, xs)) M_L_law_ 41 1272 (LVc c) [] (hp I J) (QN (n + 1)) := by
  rcases ans_look (a0 := xs (7 * c + 1)) inv with hV | hX1
  · obtain ⟨v, I1, h1, h2⟩ := hV J
    obtain ⟨I2, S2, h3, inv2, t2⟩ := h2 (wr J 135 0 v.toInt64)
    show EV (some (L, xs)) M_L_law_ 41 1272 [(0, .ref spc), (1, .ref 0), (2, .ref 106), (3, .ref 135), (4, .int (nI (7 * c)))] [] (hp I J) _
    refine EV.l (lv' := [(0, _), (1, _), (2, _), (3, _), (4, _)]) r_L_law__1272 rfl ?_
    refine EV.l (lv' := [(0, _), (1, _), (2, _), (3, _), (4, _)]) r_L_law__1273 rfl ?_
    refine EV.l (lv' := [(0, _), (1, _), (2, _), (3, _), (4, _)]) r_L_law__1274 rfl ?_
    refine EV.o r_L_law__1276 (icN (1) (v := 1)) ?_
    refine EV.o r_L_law__1277 iaddN ?_
    refine EV.sld r_L_law__1278 (by omega) (by omega) ?_
    refine EV.l (lv' := [(0, _), (1, _), (2, _), (3, _), (4, _)]) r_L_law__1279 rfl ?_
    refine EV.inv r_L_law__1280.1 rfl (by decide) (aS3 mt_305) (Nat.le_of_ble_eq_true rfl) (wv_look h1) (hp_len _ _ _ _) ?_
    show EV (some (L, xs)) M_L_law_ 41 1283 [(0, .ref spc), (1, .ref 0), (2, .ref 106), (3, .ref 135), (4, .int (nI (7 * c)))] [.int (nI 0)] (hp I1 (wr J 135 0 v.toInt64)) _
    refine EV.l (lv' := [(0, _), (1, _), (2, _), (3, _), (4, _), (5, _)]) r_L_law__1283 rfl ?_
    refine EV.l (lv' := [(0, _), (1, _), (2, _), (3, _), (4, _), (5, _)]) r_L_law__1285 rfl ?_
    refine EV.l (lv' := [(0, _), (1, _), (2, _), (3, _), (4, _), (5, _)]) r_L_law__1286 rfl ?_
    refine EV.l (lv' := [(0, _), (1, _), (2, _), (3, _), (4, _), (5, _)]) r_L_law__1287 rfl ?_
    refine EV.o r_L_law__1289 (icN (1) (v := 1)) ?_
    refine EV.o r_L_law__1290 iaddN ?_
    refine EV.sld r_L_law__1291 (by omega) (by omega) ?_
    refine EV.inv r_L_law__1292.1 rfl (by decide) (aV1 mt_255 la_106) (Nat.le_of_ble_eq_true rfl) (h3) (hp_len _ _ _ _) ?_
    show EV (some (L, xs)) M_L_law_ 41 1295 [(0, .ref spc), (1, .ref 0), (2, .ref 106), (3, .ref 135), (4, .int (nI (7 * c))), (5, .int (nI 0))] [.int v] (hp I2 (wr J 135 0 v.toInt64)) _
    refine EV.l (lv' := [(0, _), (1, _), (2, _), (3, _), (4, _), (5, _), (6, _)]) r_L_law__1295 rfl ?_
    refine EV.l (lv' := [(0, _), (1, _), (2, _), (3, _), (4, _), (5, _), (6, _)]) r_L_law__1297 rfl ?_
    refine EV.inv r_L_law__1298.1 rfl (by decide) (aV0 mt_168 la_106) (Nat.le_of_ble_eq_true rfl) (m_thrown (d := 41) (by omega)) (hp_len _ _ _ _) ?_
    show EV (some (L, xs)) M_L_law_ 41 1301 [(0, .ref spc), (1, .ref 0), (2, .ref 106), (3, .ref 135), (4, .int (nI (7 * c))), (5, .int (nI 0)), (6, .int v)] [.int (I2 106 0)] (hp I2 (wr J 135 0 v.toInt64)) _
    rw [t2]
    refine EV.l (lv' := [(0, _), (1, _), (2, _), (3, _), (4, _), (5, _), (6, _)]) r_L_law__1301 rfl ?_
    refine EV.r2_eq r_L_law__1303 (fun _ => ?_) (fun z => absurd rfl z)
    refine EV.l (lv' := [(0, _), (1, _), (2, _), (3, _), (4, _), (5, _), (6, _)]) r_L_law__1308 rfl ?_
    refine EV.n0_ne r_L_law__1310 (fun z => absurd rfl z) (fun _ => ?_)
    refine EV.l (lv' := [(0, _), (1, _), (2, _), (3, _), (4, _), (5, _), (6, _)]) r_L_law__1313 rfl ?_
    refine EV.o r_L_law__1314 (icN (0) (v := 0)) ?_
    refine EV.laloadI r_L_law__1315.1 la_135 rfl (by decide) (by decide) ?_
    rw [show (wr J 135 0 v.toInt64) 135 0 = v.toInt64 from wr_same]
    show EV (some (L, xs)) M_L_law_ 41 1316 [(0, .ref spc), (1, .ref 0), (2, .ref 106), (3, .ref 135), (4, .int (nI (7 * c))), (5, .int (nI 0)), (6, .int v)] [.long v.toInt64] (hp I2 (wr J 135 0 v.toInt64)) _
    refine EV.l (lv' := [(0, _), (1, _), (2, _), (3, _), (4, _), (5, _), (6, _)]) r_L_law__1316 rfl ?_
    refine EV.o r_L_law__1318 rfl ?_
    refine EV.o r_L_law__1319 (st' := [.int (lg_cmp v.toInt64 v.toInt64)]) rfl ?_
    rw [lg_self]
    refine EV.n0_eq r_L_law__1320 (fun _ => ?_) (fun z => absurd rfl z)
    refine EV.g r_L_law__1325 ?_
    refine EV.l (lv' := [(0, _), (1, _), (2, _), (3, _), (4, _), (5, _), (6, _)]) r_L_law__2543 rfl ?_
    rw [inc_7]
    refine EV.g r_L_law__2546 ?_
    refine EV.fg (lv' := [(0, _), (1, _), (2, _), (3, _), (4, _)]) r_L_law__23 rfl rfl rfl ?_
    exact (cont I2 (wr J 135 0 v.toInt64) _ inv2).mono (fun r G q h => QN.of h (by omega))
  · obtain ⟨I1, h1, h2⟩ := hX1 J
    obtain ⟨b, I2, S2, h3, inv2, t2⟩ := h2 J
    show EV (some (L, xs)) M_L_law_ 41 1272 [(0, .ref spc), (1, .ref 0), (2, .ref 106), (3, .ref 135), (4, .int (nI (7 * c)))] [] (hp I J) _
    refine EV.l (lv' := [(0, _), (1, _), (2, _), (3, _), (4, _)]) r_L_law__1272 rfl ?_
    refine EV.l (lv' := [(0, _), (1, _), (2, _), (3, _), (4, _)]) r_L_law__1273 rfl ?_
    refine EV.l (lv' := [(0, _), (1, _), (2, _), (3, _), (4, _)]) r_L_law__1274 rfl ?_
    refine EV.o r_L_law__1276 (icN (1) (v := 1)) ?_
    refine EV.o r_L_law__1277 iaddN ?_
    refine EV.sld r_L_law__1278 (by omega) (by omega) ?_
    refine EV.l (lv' := [(0, _), (1, _), (2, _), (3, _), (4, _)]) r_L_law__1279 rfl ?_
    refine EV.inv r_L_law__1280.1 rfl (by decide) (aS3 mt_305) (Nat.le_of_ble_eq_true rfl) (wx1_look h1) (hp_len _ _ _ _) ?_
    show EV (some (L, xs)) M_L_law_ 41 1283 [(0, .ref spc), (1, .ref 0), (2, .ref 106), (3, .ref 135), (4, .int (nI (7 * c)))] [.int (nI 1)] (hp I1 J) _
    refine EV.l (lv' := [(0, _), (1, _), (2, _), (3, _), (4, _), (5, _)]) r_L_law__1283 rfl ?_
    refine EV.l (lv' := [(0, _), (1, _), (2, _), (3, _), (4, _), (5, _)]) r_L_law__1285 rfl ?_
    refine EV.l (lv' := [(0, _), (1, _), (2, _), (3, _), (4, _), (5, _)]) r_L_law__1286 rfl ?_
    refine EV.l (lv' := [(0, _), (1, _), (2, _), (3, _), (4, _), (5, _)]) r_L_law__1287 rfl ?_
    refine EV.o r_L_law__1289 (icN (1) (v := 1)) ?_
    refine EV.o r_L_law__1290 iaddN ?_
    refine EV.sld r_L_law__1291 (by omega) (by omega) ?_
    refine EV.inv r_L_law__1292.1 rfl (by decide) (aV1 mt_255 la_106) (Nat.le_of_ble_eq_true rfl) (h3) (hp_len _ _ _ _) ?_
    show EV (some (L, xs)) M_L_law_ 41 1295 [(0, .ref spc), (1, .ref 0), (2, .ref 106), (3, .ref 135), (4, .int (nI (7 * c))), (5, .int (nI 1))] [.int b] (hp I2 J) _
    refine EV.l (lv' := [(0, _), (1, _), (2, _), (3, _), (4, _), (5, _), (6, _)]) r_L_law__1295 rfl ?_
    refine EV.l (lv' := [(0, _), (1, _), (2, _), (3, _), (4, _), (5, _), (6, _)]) r_L_law__1297 rfl ?_
    refine EV.inv r_L_law__1298.1 rfl (by decide) (aV0 mt_168 la_106) (Nat.le_of_ble_eq_true rfl) (m_thrown (d := 41) (by omega)) (hp_len _ _ _ _) ?_
    show EV (some (L, xs)) M_L_law_ 41 1301 [(0, .ref spc), (1, .ref 0), (2, .ref 106), (3, .ref 135), (4, .int (nI (7 * c))), (5, .int (nI 1)), (6, .int b)] [.int (I2 106 0)] (hp I2 J) _
    rw [t2]
    refine EV.l (lv' := [(0, _), (1, _), (2, _), (3, _), (4, _), (5, _), (6, _)]) r_L_law__1301 rfl ?_
    refine EV.r2_eq r_L_law__1303 (fun _ => ?_) (fun z => absurd rfl z)
    refine EV.l (lv' := [(0, _), (1, _), (2, _), (3, _), (4, _), (5, _), (6, _)]) r_L_law__1308 rfl ?_
    refine EV.n0_ne r_L_law__1310 (fun _ => ?_) (fun z => absurd z (by decide))
    refine EV.g r_L_law__1325 ?_
    refine EV.l (lv' := [(0, _), (1, _), (2, _), (3, _), (4, _), (5, _), (6, _)]) r_L_law__2543 rfl ?_
    rw [inc_7]
    refine EV.g r_L_law__2546 ?_
    refine EV.fg (lv' := [(0, _), (1, _), (2, _), (3, _), (4, _)]) r_L_law__23 rfl rfl rfl ?_
    exact (cont I2 J _ inv2).mono (fun r G q h => QN.of h (by omega))
