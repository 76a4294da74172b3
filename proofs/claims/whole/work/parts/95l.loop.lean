/-! (goes on) -/
theorem lw_swing {L c n : Nat} {xs : Nat → Int32} {I : Nat → Nat → Int32} {J : Nat → Nat → Int64} {S : STT} (hL : L ≤ 3584) (hc2 : 7 * c + 6 < L) (inv : INVS S I) (cont : ∀ (I2 : Nat → Nat → Int32) (J2 : Nat → Nat → Int64) (S2 : STT), INVS S2 I2 → EV (some (L, xs)) M_L_law_ 41 23 (LVc (c + 1)) [] (hp I2 J2) (QN n)) : EV (some (L, xs)) M_L_law_ 41 2145 (LVc c) [] (hp I J) (QN (n + 1)) := by
  rcases ans_swing (a0 := xs (7 * c + 1)) inv with hV | hX0
  · obtain ⟨v, I1, h1, h2⟩ := hV J
    obtain ⟨I2, S2, h3, inv2, t2⟩ := h2 (wr J 135 0 v.toInt64)
    show EV (some (L, xs)) M_L_law_ 41 2145 [(0, .ref spc), (1, .ref 0), (2, .ref 106), (3, .ref 135), (4, .int (nI (7 * c)))] [] (hp I J) _
    refine EV.l (lv' := [(0, _), (1, _), (2, _), (3, _), (4, _)]) r_L_law__2145 rfl ?_
    refine EV.l (lv' := [(0, _), (1, _), (2, _), (3, _), (4, _)]) r_L_law__2146 rfl ?_
    refine EV.l (lv' := [(0, _), (1, _), (2, _), (3, _), (4, _)]) r_L_law__2147 rfl ?_
    refine EV.o r_L_law__2149 (icN (1) (v := 1)) ?_
    refine EV.o r_L_law__2150 iaddN ?_
    refine EV.sld r_L_law__2151 (by omega) (by omega) ?_
    refine EV.l (lv' := [(0, _), (1, _), (2, _), (3, _), (4, _)]) r_L_law__2152 rfl ?_
    refine EV.inv r_L_law__2153.1 rfl (by decide) (aS3 mt_318) (Nat.le_of_ble_eq_true rfl) (wv_swing h1) (hp_len _ _ _ _) ?_
    show EV (some (L, xs)) M_L_law_ 41 2156 [(0, .ref spc), (1, .ref 0), (2, .ref 106), (3, .ref 135), (4, .int (nI (7 * c)))] [.int (nI 0)] (hp I1 (wr J 135 0 v.toInt64)) _
    refine EV.l (lv' := [(0, _), (1, _), (2, _), (3, _), (4, _), (5, _)]) r_L_law__2156 rfl ?_
    refine EV.l (lv' := [(0, _), (1, _), (2, _), (3, _), (4, _), (5, _)]) r_L_law__2158 rfl ?_
    refine EV.l (lv' := [(0, _), (1, _), (2, _), (3, _), (4, _), (5, _)]) r_L_law__2159 rfl ?_
    refine EV.l (lv' := [(0, _), (1, _), (2, _), (3, _), (4, _), (5, _)]) r_L_law__2160 rfl ?_
    refine EV.o r_L_law__2162 (icN (1) (v := 1)) ?_
    refine EV.o r_L_law__2163 iaddN ?_
    refine EV.sld r_L_law__2164 (by omega) (by omega) ?_
    refine EV.inv r_L_law__2165.1 rfl (by decide) (aV1 mt_278 la_106) (Nat.le_of_ble_eq_true rfl) (h3) (hp_len _ _ _ _) ?_
    show EV (some (L, xs)) M_L_law_ 41 2168 [(0, .ref spc), (1, .ref 0), (2, .ref 106), (3, .ref 135), (4, .int (nI (7 * c))), (5, .int (nI 0))] [.int v] (hp I2 (wr J 135 0 v.toInt64)) _
    refine EV.l (lv' := [(0, _), (1, _), (2, _), (3, _), (4, _), (5, _), (6, _)]) r_L_law__2168 rfl ?_
    refine EV.l (lv' := [(0, _), (1, _), (2, _), (3, _), (4, _), (5, _), (6, _)]) r_L_law__2170 rfl ?_
    refine EV.inv r_L_law__2171.1 rfl (by decide) (aV0 mt_168 la_106) (Nat.le_of_ble_eq_true rfl) (m_thrown (d := 41) (by omega)) (hp_len _ _ _ _) ?_
    show EV (some (L, xs)) M_L_law_ 41 2174 [(0, .ref spc), (1, .ref 0), (2, .ref 106), (3, .ref 135), (4, .int (nI (7 * c))), (5, .int (nI 0)), (6, .int v)] [.int (I2 106 0)] (hp I2 (wr J 135 0 v.toInt64)) _
    rw [t2]
    refine EV.l (lv' := [(0, _), (1, _), (2, _), (3, _), (4, _), (5, _), (6, _)]) r_L_law__2174 rfl ?_
    refine EV.r2_eq r_L_law__2176 (fun _ => ?_) (fun z => absurd rfl z)
    refine EV.l (lv' := [(0, _), (1, _), (2, _), (3, _), (4, _), (5, _), (6, _)]) r_L_law__2181 rfl ?_
    refine EV.n0_ne r_L_law__2183 (fun z => absurd rfl z) (fun _ => ?_)
    refine EV.l (lv' := [(0, _), (1, _), (2, _), (3, _), (4, _), (5, _), (6, _)]) r_L_law__2186 rfl ?_
    refine EV.o r_L_law__2187 (icN (0) (v := 0)) ?_
    refine EV.laloadI r_L_law__2188.1 la_135 rfl (by decide) (by decide) ?_
    rw [show (wr J 135 0 v.toInt64) 135 0 = v.toInt64 from wr_same]
    show EV (some (L, xs)) M_L_law_ 41 2189 [(0, .ref spc), (1, .ref 0), (2, .ref 106), (3, .ref 135), (4, .int (nI (7 * c))), (5, .int (nI 0)), (6, .int v)] [.long v.toInt64] (hp I2 (wr J 135 0 v.toInt64)) _
    refine EV.l (lv' := [(0, _), (1, _), (2, _), (3, _), (4, _), (5, _), (6, _)]) r_L_law__2189 rfl ?_
    refine EV.o r_L_law__2191 rfl ?_
    refine EV.o r_L_law__2192 (st' := [.int (lg_cmp v.toInt64 v.toInt64)]) rfl ?_
    rw [lg_self]
    refine EV.n0_eq r_L_law__2193 (fun _ => ?_) (fun z => absurd rfl z)
    refine EV.g r_L_law__2198 ?_
    refine EV.l (lv' := [(0, _), (1, _), (2, _), (3, _), (4, _), (5, _), (6, _)]) r_L_law__2543 rfl ?_
    rw [inc_7]
    refine EV.g r_L_law__2546 ?_
    refine EV.fg (lv' := [(0, _), (1, _), (2, _), (3, _), (4, _)]) r_L_law__23 rfl rfl rfl ?_
    exact (cont I2 (wr J 135 0 v.toInt64) _ inv2).mono (fun r G q h => QN.of h (by omega))
  · obtain ⟨I1, h1, h2⟩ := hX0 J
    obtain ⟨b, I2, S2, h3, inv2, t2⟩ := h2 J
    show EV (some (L, xs)) M_L_law_ 41 2145 [(0, .ref spc), (1, .ref 0), (2, .ref 106), (3, .ref 135), (4, .int (nI (7 * c)))] [] (hp I J) _
    refine EV.l (lv' := [(0, _), (1, _), (2, _), (3, _), (4, _)]) r_L_law__2145 rfl ?_
    refine EV.l (lv' := [(0, _), (1, _), (2, _), (3, _), (4, _)]) r_L_law__2146 rfl ?_
    refine EV.l (lv' := [(0, _), (1, _), (2, _), (3, _), (4, _)]) r_L_law__2147 rfl ?_
    refine EV.o r_L_law__2149 (icN (1) (v := 1)) ?_
    refine EV.o r_L_law__2150 iaddN ?_
    refine EV.sld r_L_law__2151 (by omega) (by omega) ?_
    refine EV.l (lv' := [(0, _), (1, _), (2, _), (3, _), (4, _)]) r_L_law__2152 rfl ?_
    refine EV.inv r_L_law__2153.1 rfl (by decide) (aS3 mt_318) (Nat.le_of_ble_eq_true rfl) (wx0_swing h1) (hp_len _ _ _ _) ?_
    show EV (some (L, xs)) M_L_law_ 41 2156 [(0, .ref spc), (1, .ref 0), (2, .ref 106), (3, .ref 135), (4, .int (nI (7 * c)))] [.int (nI 1)] (hp I1 J) _
    refine EV.l (lv' := [(0, _), (1, _), (2, _), (3, _), (4, _), (5, _)]) r_L_law__2156 rfl ?_
    refine EV.l (lv' := [(0, _), (1, _), (2, _), (3, _), (4, _), (5, _)]) r_L_law__2158 rfl ?_
    refine EV.l (lv' := [(0, _), (1, _), (2, _), (3, _), (4, _), (5, _)]) r_L_law__2159 rfl ?_
    refine EV.l (lv' := [(0, _), (1, _), (2, _), (3, _), (4, _), (5, _)]) r_L_law__2160 rfl ?_
    refine EV.o r_L_law__2162 (icN (1) (v := 1)) ?_
    refine EV.o r_L_law__2163 iaddN ?_
    refine EV.sld r_L_law__2164 (by omega) (by omega) ?_
    refine EV.inv r_L_law__2165.1 rfl (by decide) (aV1 mt_278 la_106) (Nat.le_of_ble_eq_true rfl) (h3) (hp_len _ _ _ _) ?_
    show EV (some (L, xs)) M_L_law_ 41 2168 [(0, .ref spc), (1, .ref 0), (2, .ref 106), (3, .ref 135), (4, .int (nI (7 * c))), (5, .int (nI 1))] [.int b] (hp I2 J) _
    refine EV.l (lv' := [(0, _), (1, _), (2, _), (3, _), (4, _), (5, _), (6, _)]) r_L_law__2168 rfl ?_
    refine EV.l (lv' := [(0, _), (1, _), (2, _), (3, _), (4, _), (5, _), (6, _)]) r_L_law__2170 rfl ?_
    refine EV.inv r_L_law__2171.1 rfl (by decide) (aV0 mt_168 la_106) (Nat.le_of_ble_eq_true rfl) (m_thrown (d := 41) (by omega)) (hp_len _ _ _ _) ?_
    show EV (some (L, xs)) M_L_law_ 41 2174 [(0, .ref spc), (1, .ref 0), (2, .ref 106), (3, .ref 135), (4, .int (nI (7 * c))), (5, .int (nI 1)), (6, .int b)] [.int (I2 106 0)] (hp I2 J) _
    rw [t2]
    refine EV.l (lv' := [(0, _), (1, _), (2, _), (3, _), (4, _), (5, _), (6, _)]) r_L_law__2174 rfl ?_
    refine EV.r2_eq r_L_law__2176 (fun _ => ?_) (fun z => absurd rfl z)
    refine EV.l (lv' := [(0, _), (1, _), (2, _), (3, _), (4, _), (5, _), (6, _)]) r_L_law__2181 rfl ?_
    refine EV.n0_ne r_L_law__2183 (fun _ => ?_) (fun z => absurd z (by decide))
    refine EV.g r_L_law__2198 ?_
    refine EV.l (lv' := [(0, _), (1, _), (2, _), (3, _), (4, _), (5, _), (6, _)]) r_L_law__2543 rfl ?_
    rw [inc_7]
    refine EV.g r_L_law__2546 ?_
    refine EV.fg (lv' := [(0, _), (1, _), (2, _), (3, _), (4, _)]) r_L_law__23 rfl rfl rfl ?_
    exact (cont I2 J _ inv2).mono (fun r G q h => QN.of h (by omega))
theorem lw_when {L c n : Nat} {xs : Nat → Int32} {I : Nat → Nat → Int32} {J : Nat → Nat → Int64} {S : STT} (hL : L ≤ 3584) (hc2 : 7 * c + 6 < L) (inv : INVS S I) (cont : ∀ (I2 : Nat → Nat → Int32) (J2 : Nat → Nat → Int64) (S2 : STT), INVS S2 I2 → EV (some (L, xs)) M_L_law_ 41 23 (LVc (c + 1)) [] (hp I2 J2) (QN n)) : EV (some (L, xs)) M_L_law_ 41 2201 (LVc c) [] (hp I J) (QN (n + 1)) := by
  rcases ans_when (a0 := xs (7 * c + 1)) inv with hV | hX1
  · obtain ⟨v, I1, h1, h2⟩ := hV J
    obtain ⟨I2, S2, h3, inv2, t2⟩ := h2 (wr J 135 0 v.toInt64)
    show EV (some (L, xs)) M_L_law_ 41 2201 [(0, .ref spc), (1, .ref 0), (2, .ref 106), (3, .ref 135), (4, .int (nI (7 * c)))] [] (hp I J) _
    refine EV.l (lv' := [(0, _), (1, _), (2, _), (3, _), (4, _)]) r_L_law__2201 rfl ?_
    refine EV.l (lv' := [(0, _), (1, _), (2, _), (3, _), (4, _)]) r_L_law__2202 rfl ?_
    refine EV.l (lv' := [(0, _), (1, _), (2, _), (3, _), (4, _)]) r_L_law__2203 rfl ?_
    refine EV.o r_L_law__2205 (icN (1) (v := 1)) ?_
    refine EV.o r_L_law__2206 iaddN ?_
    refine EV.sld r_L_law__2207 (by omega) (by omega) ?_
    refine EV.l (lv' := [(0, _), (1, _), (2, _), (3, _), (4, _)]) r_L_law__2208 rfl ?_
    refine EV.inv r_L_law__2209.1 rfl (by decide) (aS3 mt_319) (Nat.le_of_ble_eq_true rfl) (wv_when h1) (hp_len _ _ _ _) ?_
    show EV (some (L, xs)) M_L_law_ 41 2212 [(0, .ref spc), (1, .ref 0), (2, .ref 106), (3, .ref 135), (4, .int (nI (7 * c)))] [.int (nI 0)] (hp I1 (wr J 135 0 v.toInt64)) _
    refine EV.l (lv' := [(0, _), (1, _), (2, _), (3, _), (4, _), (5, _)]) r_L_law__2212 rfl ?_
    refine EV.l (lv' := [(0, _), (1, _), (2, _), (3, _), (4, _), (5, _)]) r_L_law__2214 rfl ?_
    refine EV.l (lv' := [(0, _), (1, _), (2, _), (3, _), (4, _), (5, _)]) r_L_law__2215 rfl ?_
    refine EV.l (lv' := [(0, _), (1, _), (2, _), (3, _), (4, _), (5, _)]) r_L_law__2216 rfl ?_
    refine EV.o r_L_law__2218 (icN (1) (v := 1)) ?_
    refine EV.o r_L_law__2219 iaddN ?_
    refine EV.sld r_L_law__2220 (by omega) (by omega) ?_
    refine EV.inv r_L_law__2221.1 rfl (by decide) (aV1 mt_279 la_106) (Nat.le_of_ble_eq_true rfl) (h3) (hp_len _ _ _ _) ?_
    show EV (some (L, xs)) M_L_law_ 41 2224 [(0, .ref spc), (1, .ref 0), (2, .ref 106), (3, .ref 135), (4, .int (nI (7 * c))), (5, .int (nI 0))] [.int v] (hp I2 (wr J 135 0 v.toInt64)) _
    refine EV.l (lv' := [(0, _), (1, _), (2, _), (3, _), (4, _), (5, _), (6, _)]) r_L_law__2224 rfl ?_
    refine EV.l (lv' := [(0, _), (1, _), (2, _), (3, _), (4, _), (5, _), (6, _)]) r_L_law__2226 rfl ?_
    refine EV.inv r_L_law__2227.1 rfl (by decide) (aV0 mt_168 la_106) (Nat.le_of_ble_eq_true rfl) (m_thrown (d := 41) (by omega)) (hp_len _ _ _ _) ?_
    show EV (some (L, xs)) M_L_law_ 41 2230 [(0, .ref spc), (1, .ref 0), (2, .ref 106), (3, .ref 135), (4, .int (nI (7 * c))), (5, .int (nI 0)), (6, .int v)] [.int (I2 106 0)] (hp I2 (wr J 135 0 v.toInt64)) _
    rw [t2]
    refine EV.l (lv' := [(0, _), (1, _), (2, _), (3, _), (4, _), (5, _), (6, _)]) r_L_law__2230 rfl ?_
    refine EV.r2_eq r_L_law__2232 (fun _ => ?_) (fun z => absurd rfl z)
    refine EV.l (lv' := [(0, _), (1, _), (2, _), (3, _), (4, _), (5, _), (6, _)]) r_L_law__2237 rfl ?_
    refine EV.n0_ne r_L_law__2239 (fun z => absurd rfl z) (fun _ => ?_)
    refine EV.l (lv' := [(0, _), (1, _), (2, _), (3, _), (4, _), (5, _), (6, _)]) r_L_law__2242 rfl ?_
    refine EV.o r_L_law__2243 (icN (0) (v := 0)) ?_
    refine EV.laloadI r_L_law__2244.1 la_135 rfl (by decide) (by decide) ?_
    rw [show (wr J 135 0 v.toInt64) 135 0 = v.toInt64 from wr_same]
    show EV (some (L, xs)) M_L_law_ 41 2245 [(0, .ref spc), (1, .ref 0), (2, .ref 106), (3, .ref 135), (4, .int (nI (7 * c))), (5, .int (nI 0)), (6, .int v)] [.long v.toInt64] (hp I2 (wr J 135 0 v.toInt64)) _
    refine EV.l (lv' := [(0, _), (1, _), (2, _), (3, _), (4, _), (5, _), (6, _)]) r_L_law__2245 rfl ?_
    refine EV.o r_L_law__2247 rfl ?_
    refine EV.o r_L_law__2248 (st' := [.int (lg_cmp v.toInt64 v.toInt64)]) rfl ?_
    rw [lg_self]
    refine EV.n0_eq r_L_law__2249 (fun _ => ?_) (fun z => absurd rfl z)
    refine EV.g r_L_law__2254 ?_
    refine EV.l (lv' := [(0, _), (1, _), (2, _), (3, _), (4, _), (5, _), (6, _)]) r_L_law__2543 rfl ?_
    rw [inc_7]
    refine EV.g r_L_law__2546 ?_
    refine EV.fg (lv' := [(0, _), (1, _), (2, _), (3, _), (4, _)]) r_L_law__23 rfl rfl rfl ?_
    exact (cont I2 (wr J 135 0 v.toInt64) _ inv2).mono (fun r G q h => QN.of h (by omega))
  · obtain ⟨I1, h1, h2⟩ := hX1 J
    obtain ⟨b, I2, S2, h3, inv2, t2⟩ := h2 J
    show EV (some (L, xs)) M_L_law_ 41 2201 [(0, .ref spc), (1, .ref 0), (2, .ref 106), (3, .ref 135), (4, .int (nI (7 * c)))] [] (hp I J) _
    refine EV.l (lv' := [(0, _), (1, _), (2, _), (3, _), (4, _)]) r_L_law__2201 rfl ?_
    refine EV.l (lv' := [(0, _), (1, _), (2, _), (3, _), (4, _)]) r_L_law__2202 rfl ?_
    refine EV.l (lv' := [(0, _), (1, _), (2, _), (3, _), (4, _)]) r_L_law__2203 rfl ?_
    refine EV.o r_L_law__2205 (icN (1) (v := 1)) ?_
    refine EV.o r_L_law__2206 iaddN ?_
    refine EV.sld r_L_law__2207 (by omega) (by omega) ?_
    refine EV.l (lv' := [(0, _), (1, _), (2, _), (3, _), (4, _)]) r_L_law__2208 rfl ?_
    refine EV.inv r_L_law__2209.1 rfl (by decide) (aS3 mt_319) (Nat.le_of_ble_eq_true rfl) (wx1_when h1) (hp_len _ _ _ _) ?_
    show EV (some (L, xs)) M_L_law_ 41 2212 [(0, .ref spc), (1, .ref 0), (2, .ref 106), (3, .ref 135), (4, .int (nI (7 * c)))] [.int (nI 1)] (hp I1 J) _
    refine EV.l (lv' := [(0, _), (1, _), (2, _), (3, _), (4, _), (5, _)]) r_L_law__2212 rfl ?_
    refine EV.l (lv' := [(0, _), (1, _), (2, _), (3, _), (4, _), (5, _)]) r_L_law__2214 rfl ?_
    refine EV.l (lv' := [(0, _), (1, _), (2, _), (3, _), (4, _), (5, _)]) r_L_law__2215 rfl ?_
    refine EV.l (lv' := [(0, _), (1, _), (2, _), (3, _), (4, _), (5, _)]) r_L_law__2216 rfl ?_
    refine EV.o r_L_law__2218 (icN (1) (v := 1)) ?_
    refine EV.o r_L_law__2219 iaddN ?_
    refine EV.sld r_L_law__2220 (by omega) (by omega) ?_
    refine EV.inv r_L_law__2221.1 rfl (by decide) (aV1 mt_279 la_106) (Nat.le_of_ble_eq_true rfl) (h3) (hp_len _ _ _ _) ?_
    show EV (some (L, xs)) M_L_law_ 41 2224 [(0, .ref spc), (1, .ref 0), (2, .ref 106), (3, .ref 135), (4, .int (nI (7 * c))), (5, .int (nI 1))] [.int b] (hp I2 J) _
    refine EV.l (lv' := [(0, _), (1, _), (2, _), (3, _), (4, _), (5, _), (6, _)]) r_L_law__2224 rfl ?_
    refine EV.l (lv' := [(0, _), (1, _), (2, _), (3, _), (4, _), (5, _), (6, _)]) r_L_law__2226 rfl ?_
    refine EV.inv r_L_law__2227.1 rfl (by decide) (aV0 mt_168 la_106) (Nat.le_of_ble_eq_true rfl) (m_thrown (d := 41) (by omega)) (hp_len _ _ _ _) ?_
    show EV (some (L, xs)) M_L_law_ 41 2230 [(0, .ref spc), (1, .ref 0), (2, .ref 106), (3, .ref 135), (4, .int (nI (7 * c))), (5, .int (nI 1)), (6, .int b)] [.int (I2 106 0)] (hp I2 J) _
    rw [t2]
    refine EV.l (lv' := [(0, _), (1, _), (2, _), (3, _), (4, _), (5, _), (6, _)]) r_L_law__2230 rfl ?_
    refine EV.r2_eq r_L_law__2232 (fun _ => ?_) (fun z => absurd rfl z)
    refine EV.l (lv' := [(0, _), (1, _), (2, _), (3, _), (4, _), (5, _), (6, _)]) r_L_law__2237 rfl ?_
    refine EV.n0_ne r_L_law__2239 (fun _ => ?_) (fun z => absurd z (by decide))
    refine EV.g r_L_law__2254 ?_
    refine EV.l (lv' := [(0, _), (1, _), (2, _), (3, _), (4, _), (5, _), (6, _)]) r_L_law__2543 rfl ?_
    rw [inc_7]
    refine EV.g r_L_law__2546 ?_
    refine EV.fg (lv' := [(0, _), (1, _), (2, _), (3, _), (4, _)]) r_L_law__23 rfl rfl rfl ?_
    exact (cont I2 J _ inv2).mono (fun r G q h => QN.of h (by omega))
theorem lw_term {L c n : Nat} {xs : Nat → Int32} {I : Nat → Nat → Int32} {J : Nat → Nat → Int64} {S : STT} (hL : L ≤ 3584) (hc2 : 7 * c + 6 < L) (inv : INVS S I) (cont : ∀ (I2 : Nat → Nat → Int32) (J2 : Nat → Nat → Int64) (S2 : STT), INVS S2 I2 → EV (some (L, xs)) M_L_law_ 41 23 (LVc (c + 1)) [] (hp I2 J2) (QN n)) : EV (some (L, xs)) M_L_law_ 41 2257 (LVc c) [] (hp I J) (QN (n + 1)) := by
  rcases ans_term (a0 := xs (7 * c + 1)) (a1 := xs (7 * c + 2)) (a2 := xs (7 * c + 3)) (a3 := xs (7 * c + 4)) inv with hV | hX1
  · obtain ⟨v, I1, h1, h2⟩ := hV J
    obtain ⟨I2, S2, h3, inv2, t2⟩ := h2 (wr J 135 0 v.toInt64)
    show EV (some (L, xs)) M_L_law_ 41 2257 [(0, .ref spc), (1, .ref 0), (2, .ref 106), (3, .ref 135), (4, .int (nI (7 * c)))] [] (hp I J) _
    refine EV.l (lv' := [(0, _), (1, _), (2, _), (3, _), (4, _)]) r_L_law__2257 rfl ?_
    refine EV.l (lv' := [(0, _), (1, _), (2, _), (3, _), (4, _)]) r_L_law__2258 rfl ?_
    refine EV.l (lv' := [(0, _), (1, _), (2, _), (3, _), (4, _)]) r_L_law__2259 rfl ?_
    refine EV.o r_L_law__2261 (icN (1) (v := 1)) ?_
    refine EV.o r_L_law__2262 iaddN ?_
    refine EV.sld r_L_law__2263 (by omega) (by omega) ?_
    refine EV.l (lv' := [(0, _), (1, _), (2, _), (3, _), (4, _)]) r_L_law__2264 rfl ?_
    refine EV.l (lv' := [(0, _), (1, _), (2, _), (3, _), (4, _)]) r_L_law__2265 rfl ?_
    refine EV.o r_L_law__2267 (icN (2) (v := 2)) ?_
    refine EV.o r_L_law__2268 iaddN ?_
    refine EV.sld r_L_law__2269 (by omega) (by omega) ?_
    refine EV.l (lv' := [(0, _), (1, _), (2, _), (3, _), (4, _)]) r_L_law__2270 rfl ?_
    refine EV.l (lv' := [(0, _), (1, _), (2, _), (3, _), (4, _)]) r_L_law__2271 rfl ?_
    refine EV.o r_L_law__2273 (icN (3) (v := 3)) ?_
    refine EV.o r_L_law__2274 iaddN ?_
    refine EV.sld r_L_law__2275 (by omega) (by omega) ?_
    refine EV.l (lv' := [(0, _), (1, _), (2, _), (3, _), (4, _)]) r_L_law__2276 rfl ?_
    refine EV.l (lv' := [(0, _), (1, _), (2, _), (3, _), (4, _)]) r_L_law__2277 rfl ?_
    refine EV.o r_L_law__2279 (icN (4) (v := 4)) ?_
    refine EV.o r_L_law__2280 iaddN ?_
    refine EV.sld r_L_law__2281 (by omega) (by omega) ?_
    refine EV.l (lv' := [(0, _), (1, _), (2, _), (3, _), (4, _)]) r_L_law__2282 rfl ?_
    refine EV.inv r_L_law__2283.1 rfl (by decide) (aS6 mt_320) (Nat.le_of_ble_eq_true rfl) (wv_term h1) (hp_len _ _ _ _) ?_
    show EV (some (L, xs)) M_L_law_ 41 2286 [(0, .ref spc), (1, .ref 0), (2, .ref 106), (3, .ref 135), (4, .int (nI (7 * c)))] [.int (nI 0)] (hp I1 (wr J 135 0 v.toInt64)) _
    refine EV.l (lv' := [(0, _), (1, _), (2, _), (3, _), (4, _), (5, _)]) r_L_law__2286 rfl ?_
    refine EV.l (lv' := [(0, _), (1, _), (2, _), (3, _), (4, _), (5, _)]) r_L_law__2288 rfl ?_
    refine EV.l (lv' := [(0, _), (1, _), (2, _), (3, _), (4, _), (5, _)]) r_L_law__2289 rfl ?_
    refine EV.l (lv' := [(0, _), (1, _), (2, _), (3, _), (4, _), (5, _)]) r_L_law__2290 rfl ?_
    refine EV.o r_L_law__2292 (icN (1) (v := 1)) ?_
    refine EV.o r_L_law__2293 iaddN ?_
    refine EV.sld r_L_law__2294 (by omega) (by omega) ?_
    refine EV.l (lv' := [(0, _), (1, _), (2, _), (3, _), (4, _), (5, _)]) r_L_law__2295 rfl ?_
    refine EV.l (lv' := [(0, _), (1, _), (2, _), (3, _), (4, _), (5, _)]) r_L_law__2296 rfl ?_
    refine EV.o r_L_law__2298 (icN (2) (v := 2)) ?_
    refine EV.o r_L_law__2299 iaddN ?_
    refine EV.sld r_L_law__2300 (by omega) (by omega) ?_
    refine EV.l (lv' := [(0, _), (1, _), (2, _), (3, _), (4, _), (5, _)]) r_L_law__2301 rfl ?_
    refine EV.l (lv' := [(0, _), (1, _), (2, _), (3, _), (4, _), (5, _)]) r_L_law__2302 rfl ?_
    refine EV.o r_L_law__2304 (icN (3) (v := 3)) ?_
    refine EV.o r_L_law__2305 iaddN ?_
    refine EV.sld r_L_law__2306 (by omega) (by omega) ?_
    refine EV.l (lv' := [(0, _), (1, _), (2, _), (3, _), (4, _), (5, _)]) r_L_law__2307 rfl ?_
    refine EV.l (lv' := [(0, _), (1, _), (2, _), (3, _), (4, _), (5, _)]) r_L_law__2308 rfl ?_
    refine EV.o r_L_law__2310 (icN (4) (v := 4)) ?_
    refine EV.o r_L_law__2311 iaddN ?_
    refine EV.sld r_L_law__2312 (by omega) (by omega) ?_
    refine EV.inv r_L_law__2313.1 rfl (by decide) (aV4 mt_283 la_106) (Nat.le_of_ble_eq_true rfl) (h3) (hp_len _ _ _ _) ?_
    show EV (some (L, xs)) M_L_law_ 41 2316 [(0, .ref spc), (1, .ref 0), (2, .ref 106), (3, .ref 135), (4, .int (nI (7 * c))), (5, .int (nI 0))] [.int v] (hp I2 (wr J 135 0 v.toInt64)) _
    refine EV.l (lv' := [(0, _), (1, _), (2, _), (3, _), (4, _), (5, _), (6, _)]) r_L_law__2316 rfl ?_
    refine EV.l (lv' := [(0, _), (1, _), (2, _), (3, _), (4, _), (5, _), (6, _)]) r_L_law__2318 rfl ?_
    refine EV.inv r_L_law__2319.1 rfl (by decide) (aV0 mt_168 la_106) (Nat.le_of_ble_eq_true rfl) (m_thrown (d := 41) (by omega)) (hp_len _ _ _ _) ?_
    show EV (some (L, xs)) M_L_law_ 41 2322 [(0, .ref spc), (1, .ref 0), (2, .ref 106), (3, .ref 135), (4, .int (nI (7 * c))), (5, .int (nI 0)), (6, .int v)] [.int (I2 106 0)] (hp I2 (wr J 135 0 v.toInt64)) _
    rw [t2]
    refine EV.l (lv' := [(0, _), (1, _), (2, _), (3, _), (4, _), (5, _), (6, _)]) r_L_law__2322 rfl ?_
    refine EV.r2_eq r_L_law__2324 (fun _ => ?_) (fun z => absurd rfl z)
    refine EV.l (lv' := [(0, _), (1, _), (2, _), (3, _), (4, _), (5, _), (6, _)]) r_L_law__2329 rfl ?_
    refine EV.n0_ne r_L_law__2331 (fun z => absurd rfl z) (fun _ => ?_)
    refine EV.l (lv' := [(0, _), (1, _), (2, _), (3, _), (4, _), (5, _), (6, _)]) r_L_law__2334 rfl ?_
    refine EV.o r_L_law__2335 (icN (0) (v := 0)) ?_
    refine EV.laloadI r_L_law__2336.1 la_135 rfl (by decide) (by decide) ?_
    rw [show (wr J 135 0 v.toInt64) 135 0 = v.toInt64 from wr_same]
    show EV (some (L, xs)) M_L_law_ 41 2337 [(0, .ref spc), (1, .ref 0), (2, .ref 106), (3, .ref 135), (4, .int (nI (7 * c))), (5, .int (nI 0)), (6, .int v)] [.long v.toInt64] (hp I2 (wr J 135 0 v.toInt64)) _
    refine EV.l (lv' := [(0, _), (1, _), (2, _), (3, _), (4, _), (5, _), (6, _)]) r_L_law__2337 rfl ?_
    refine EV.o r_L_law__2339 rfl ?_
    refine EV.o r_L_law__2340 (st' := [.int (lg_cmp v.toInt64 v.toInt64)]) rfl ?_
    rw [lg_self]
    refine EV.n0_eq r_L_law__2341 (fun _ => ?_) (fun z => absurd rfl z)
    refine EV.g r_L_law__2346 ?_
    refine EV.l (lv' := [(0, _), (1, _), (2, _), (3, _), (4, _), (5, _), (6, _)]) r_L_law__2543 rfl ?_
    rw [inc_7]
    refine EV.g r_L_law__2546 ?_
    refine EV.fg (lv' := [(0, _), (1, _), (2, _), (3, _), (4, _)]) r_L_law__23 rfl rfl rfl ?_
    exact (cont I2 (wr J 135 0 v.toInt64) _ inv2).mono (fun r G q h => QN.of h (by omega))
  · obtain ⟨I1, h1, h2⟩ := hX1 J
    obtain ⟨b, I2, S2, h3, inv2, t2⟩ := h2 J
    show EV (some (L, xs)) M_L_law_ 41 2257 [(0, .ref spc), (1, .ref 0), (2, .ref 106), (3, .ref 135), (4, .int (nI (7 * c)))] [] (hp I J) _
    refine EV.l (lv' := [(0, _), (1, _), (2, _), (3, _), (4, _)]) r_L_law__2257 rfl ?_
    refine EV.l (lv' := [(0, _), (1, _), (2, _), (3, _), (4, _)]) r_L_law__2258 rfl ?_
    refine EV.l (lv' := [(0, _), (1, _), (2, _), (3, _), (4, _)]) r_L_law__2259 rfl ?_
    refine EV.o r_L_law__2261 (icN (1) (v := 1)) ?_
    refine EV.o r_L_law__2262 iaddN ?_
    refine EV.sld r_L_law__2263 (by omega) (by omega) ?_
    refine EV.l (lv' := [(0, _), (1, _), (2, _), (3, _), (4, _)]) r_L_law__2264 rfl ?_
    refine EV.l (lv' := [(0, _), (1, _), (2, _), (3, _), (4, _)]) r_L_law__2265 rfl ?_
    refine EV.o r_L_law__2267 (icN (2) (v := 2)) ?_
    refine EV.o r_L_law__2268 iaddN ?_
    refine EV.sld r_L_law__2269 (by omega) (by omega) ?_
    refine EV.l (lv' := [(0, _), (1, _), (2, _), (3, _), (4, _)]) r_L_law__2270 rfl ?_
    refine EV.l (lv' := [(0, _), (1, _), (2, _), (3, _), (4, _)]) r_L_law__2271 rfl ?_
    refine EV.o r_L_law__2273 (icN (3) (v := 3)) ?_
    refine EV.o r_L_law__2274 iaddN ?_
    refine EV.sld r_L_law__2275 (by omega) (by omega) ?_
    refine EV.l (lv' := [(0, _), (1, _), (2, _), (3, _), (4, _)]) r_L_law__2276 rfl ?_
    refine EV.l (lv' := [(0, _), (1, _), (2, _), (3, _), (4, _)]) r_L_law__2277 rfl ?_
    refine EV.o r_L_law__2279 (icN (4) (v := 4)) ?_
    refine EV.o r_L_law__2280 iaddN ?_
    refine EV.sld r_L_law__2281 (by omega) (by omega) ?_
    refine EV.l (lv' := [(0, _), (1, _), (2, _), (3, _), (4, _)]) r_L_law__2282 rfl ?_
    refine EV.inv r_L_law__2283.1 rfl (by decide) (aS6 mt_320) (Nat.le_of_ble_eq_true rfl) (wx1_term h1) (hp_len _ _ _ _) ?_
    show EV (some (L, xs)) M_L_law_ 41 2286 [(0, .ref spc), (1, .ref 0), (2, .ref 106), (3, .ref 135), (4, .int (nI (7 * c)))] [.int (nI 1)] (hp I1 J) _
    refine EV.l (lv' := [(0, _), (1, _), (2, _), (3, _), (4, _), (5, _)]) r_L_law__2286 rfl ?_
    refine EV.l (lv' := [(0, _), (1, _), (2, _), (3, _), (4, _), (5, _)]) r_L_law__2288 rfl ?_
    refine EV.l (lv' := [(0, _), (1, _), (2, _), (3, _), (4, _), (5, _)]) r_L_law__2289 rfl ?_
    refine EV.l (lv' := [(0, _), (1, _), (2, _), (3, _), (4, _), (5, _)]) r_L_law__2290 rfl ?_
    refine EV.o r_L_law__2292 (icN (1) (v := 1)) ?_
    refine EV.o r_L_law__2293 iaddN ?_
    refine EV.sld r_L_law__2294 (by omega) (by omega) ?_
    refine EV.l (lv' := [(0, _), (1, _), (2, _), (3, _), (4, _), (5, _)]) r_L_law__2295 rfl ?_
    refine EV.l (lv' := [(0, _), (1, _), (2, _), (3, _), (4, _), (5, _)]) r_L_law__2296 rfl ?_
    refine EV.o r_L_law__2298 (icN (2) (v := 2)) ?_
    refine EV.o r_L_law__2299 iaddN ?_
    refine EV.sld r_L_law__2300 (by omega) (by omega) ?_
    refine EV.l (lv' := [(0, _), (1, _), (2, _), (3, _), (4, _), (5, _)]) r_L_law__2301 rfl ?_
    refine EV.l (lv' := [(0, _), (1, _), (2, _), (3, _), (4, _), (5, _)]) r_L_law__2302 rfl ?_
    refine EV.o r_L_law__2304 (icN (3) (v := 3)) ?_
    refine EV.o r_L_law__2305 iaddN ?_
    refine EV.sld r_L_law__2306 (by omega) (by omega) ?_
    refine EV.l (lv' := [(0, _), (1, _), (2, _), (3, _), (4, _), (5, _)]) r_L_law__2307 rfl ?_
    refine EV.l (lv' := [(0, _), (1, _), (2, _), (3, _), (4, _), (5, _)]) r_L_law__2308 rfl ?_
    refine EV.o r_L_law__2310 (icN (4) (v := 4)) ?_
    refine EV.o r_L_law__2311 iaddN ?_
    refine EV.sld r_L_law__2312 (by omega) (by omega) ?_
    refine EV.inv r_L_law__2313.1 rfl (by decide) (aV4 mt_283 la_106) (Nat.le_of_ble_eq_true rfl) (h3) (hp_len _ _ _ _) ?_
    show EV (some (L, xs)) M_L_law_ 41 2316 [(0, .ref spc), (1, .ref 0), (2, .ref 106), (3, .ref 135), (4, .int (nI (7 * c))), (5, .int (nI 1))] [.int b] (hp I2 J) _
    refine EV.l (lv' := [(0, _), (1, _), (2, _), (3, _), (4, _), (5, _), (6, _)]) r_L_law__2316 rfl ?_
    refine EV.l (lv' := [(0, _), (1, _), (2, _), (3, _), (4, _), (5, _), (6, _)]) r_L_law__2318 rfl ?_
    refine EV.inv r_L_law__2319.1 rfl (by decide) (aV0 mt_168 la_106) (Nat.le_of_ble_eq_true rfl) (m_thrown (d := 41) (by omega)) (hp_len _ _ _ _) ?_
    show EV (some (L, xs)) M_L_law_ 41 2322 [(0, .ref spc), (1, .ref 0), (2, .ref 106), (3, .ref 135), (4, .int (nI (7 * c))), (5, .int (nI 1)), (6, .int b)] [.int (I2 106 0)] (hp I2 J) _
    rw [t2]
    refine EV.l (lv' := [(0, _), (1, _), (2, _), (3, _), (4, _), (5, _), (6, _)]) r_L_law__2322 rfl ?_
    refine EV.r2_eq r_L_law__2324 (fun _ => ?_) (fun z => absurd rfl z)
    refine EV.l (lv' := [(0, _), (1, _), (2, _), (3, _), (4, _), (5, _), (6, _)]) r_L_law__2329 rfl ?_
    refine EV.n0_ne r_L_law__2331 (fun _ => ?_) (fun z => absurd z (by decide))
    refine EV.g r_L_law__2346 ?_
    refine EV.l (lv' := [(0, _), (1, _), (2, _), (3, _), (4, _), (5, _), (6, _)]) r_L_law__2543 rfl ?_
    rw [inc_7]
    refine EV.g r_L_law__2546 ?_
    refine EV.fg (lv' := [(0, _), (1, _), (2, _), (3, _), (4, _)]) r_L_law__23 rfl rfl rfl ?_
    exact (cont I2 J _ inv2).mono (fun r G q h => QN.of h (by omega))
theorem lw_span {L c n : Nat} {xs : Nat → Int32} {I : Nat → Nat → Int32} {J : Nat → Nat → Int64} {S : STT} (hL : L ≤ 3584) (hc2 : 7 * c + 6 < L) (inv : INVS S I) (cont : ∀ (I2 : Nat → Nat → Int32) (J2 : Nat → Nat → Int64) (S2 : STT), INVS S2 I2 → EV (some (L, xs)) M_L_law_ 41 23 (LVc (c + 1)) [] (hp I2 J2) (QN n)) : EV (some (L, xs)) M_L_law_ 41 2349 (LVc c) [] (hp I J) (QN (n + 1)) := by
  rcases ans_span (a0 := xs (7 * c + 1)) (a1 := xs (7 * c + 2)) (a2 := xs (7 * c + 3)) (a3 := xs (7 * c + 4)) (a4 := xs (7 * c + 5)) (a5 := xs (7 * c + 6)) inv with hV | hX1
  · obtain ⟨v, I1, h1, h2⟩ := hV J
    obtain ⟨I2, S2, h3, inv2, t2⟩ := h2 (wr J 135 0 v.toInt64)
    show EV (some (L, xs)) M_L_law_ 41 2349 [(0, .ref spc), (1, .ref 0), (2, .ref 106), (3, .ref 135), (4, .int (nI (7 * c)))] [] (hp I J) _
    refine EV.l (lv' := [(0, _), (1, _), (2, _), (3, _), (4, _)]) r_L_law__2349 rfl ?_
    refine EV.l (lv' := [(0, _), (1, _), (2, _), (3, _), (4, _)]) r_L_law__2350 rfl ?_
    refine EV.l (lv' := [(0, _), (1, _), (2, _), (3, _), (4, _)]) r_L_law__2351 rfl ?_
    refine EV.o r_L_law__2353 (icN (1) (v := 1)) ?_
    refine EV.o r_L_law__2354 iaddN ?_
    refine EV.sld r_L_law__2355 (by omega) (by omega) ?_
    refine EV.l (lv' := [(0, _), (1, _), (2, _), (3, _), (4, _)]) r_L_law__2356 rfl ?_
    refine EV.l (lv' := [(0, _), (1, _), (2, _), (3, _), (4, _)]) r_L_law__2357 rfl ?_
    refine EV.o r_L_law__2359 (icN (2) (v := 2)) ?_
    refine EV.o r_L_law__2360 iaddN ?_
    refine EV.sld r_L_law__2361 (by omega) (by omega) ?_
    refine EV.l (lv' := [(0, _), (1, _), (2, _), (3, _), (4, _)]) r_L_law__2362 rfl ?_
    refine EV.l (lv' := [(0, _), (1, _), (2, _), (3, _), (4, _)]) r_L_law__2363 rfl ?_
    refine EV.o r_L_law__2365 (icN (3) (v := 3)) ?_
    refine EV.o r_L_law__2366 iaddN ?_
    refine EV.sld r_L_law__2367 (by omega) (by omega) ?_
    refine EV.l (lv' := [(0, _), (1, _), (2, _), (3, _), (4, _)]) r_L_law__2368 rfl ?_
    refine EV.l (lv' := [(0, _), (1, _), (2, _), (3, _), (4, _)]) r_L_law__2369 rfl ?_
    refine EV.o r_L_law__2371 (icN (4) (v := 4)) ?_
    refine EV.o r_L_law__2372 iaddN ?_
    refine EV.sld r_L_law__2373 (by omega) (by omega) ?_
    refine EV.l (lv' := [(0, _), (1, _), (2, _), (3, _), (4, _)]) r_L_law__2374 rfl ?_
    refine EV.l (lv' := [(0, _), (1, _), (2, _), (3, _), (4, _)]) r_L_law__2375 rfl ?_
    refine EV.o r_L_law__2377 (icN (5) (v := 5)) ?_
    refine EV.o r_L_law__2378 iaddN ?_
    refine EV.sld r_L_law__2379 (by omega) (by omega) ?_
    refine EV.l (lv' := [(0, _), (1, _), (2, _), (3, _), (4, _)]) r_L_law__2380 rfl ?_
    refine EV.l (lv' := [(0, _), (1, _), (2, _), (3, _), (4, _)]) r_L_law__2381 rfl ?_
    refine EV.o r_L_law__2383 (bpN (6) 6) ?_
    refine EV.o r_L_law__2385 iaddN ?_
    refine EV.sld r_L_law__2386 (by omega) (by omega) ?_
    refine EV.l (lv' := [(0, _), (1, _), (2, _), (3, _), (4, _)]) r_L_law__2387 rfl ?_
    refine EV.inv r_L_law__2388.1 rfl (by decide) (aS8 mt_321) (Nat.le_of_ble_eq_true rfl) (wv_span h1) (hp_len _ _ _ _) ?_
    show EV (some (L, xs)) M_L_law_ 41 2391 [(0, .ref spc), (1, .ref 0), (2, .ref 106), (3, .ref 135), (4, .int (nI (7 * c)))] [.int (nI 0)] (hp I1 (wr J 135 0 v.toInt64)) _
    refine EV.l (lv' := [(0, _), (1, _), (2, _), (3, _), (4, _), (5, _)]) r_L_law__2391 rfl ?_
    refine EV.l (lv' := [(0, _), (1, _), (2, _), (3, _), (4, _), (5, _)]) r_L_law__2393 rfl ?_
    refine EV.l (lv' := [(0, _), (1, _), (2, _), (3, _), (4, _), (5, _)]) r_L_law__2394 rfl ?_
    refine EV.l (lv' := [(0, _), (1, _), (2, _), (3, _), (4, _), (5, _)]) r_L_law__2395 rfl ?_
    refine EV.o r_L_law__2397 (icN (1) (v := 1)) ?_
    refine EV.o r_L_law__2398 iaddN ?_
    refine EV.sld r_L_law__2399 (by omega) (by omega) ?_
    refine EV.l (lv' := [(0, _), (1, _), (2, _), (3, _), (4, _), (5, _)]) r_L_law__2400 rfl ?_
    refine EV.l (lv' := [(0, _), (1, _), (2, _), (3, _), (4, _), (5, _)]) r_L_law__2401 rfl ?_
    refine EV.o r_L_law__2403 (icN (2) (v := 2)) ?_
    refine EV.o r_L_law__2404 iaddN ?_
    refine EV.sld r_L_law__2405 (by omega) (by omega) ?_
    refine EV.l (lv' := [(0, _), (1, _), (2, _), (3, _), (4, _), (5, _)]) r_L_law__2406 rfl ?_
    refine EV.l (lv' := [(0, _), (1, _), (2, _), (3, _), (4, _), (5, _)]) r_L_law__2407 rfl ?_
    refine EV.o r_L_law__2409 (icN (3) (v := 3)) ?_
    refine EV.o r_L_law__2410 iaddN ?_
    refine EV.sld r_L_law__2411 (by omega) (by omega) ?_
    refine EV.l (lv' := [(0, _), (1, _), (2, _), (3, _), (4, _), (5, _)]) r_L_law__2412 rfl ?_
    refine EV.l (lv' := [(0, _), (1, _), (2, _), (3, _), (4, _), (5, _)]) r_L_law__2413 rfl ?_
    refine EV.o r_L_law__2415 (icN (4) (v := 4)) ?_
    refine EV.o r_L_law__2416 iaddN ?_
    refine EV.sld r_L_law__2417 (by omega) (by omega) ?_
    refine EV.l (lv' := [(0, _), (1, _), (2, _), (3, _), (4, _), (5, _)]) r_L_law__2418 rfl ?_
    refine EV.l (lv' := [(0, _), (1, _), (2, _), (3, _), (4, _), (5, _)]) r_L_law__2419 rfl ?_
    refine EV.o r_L_law__2421 (icN (5) (v := 5)) ?_
    refine EV.o r_L_law__2422 iaddN ?_
    refine EV.sld r_L_law__2423 (by omega) (by omega) ?_
    refine EV.l (lv' := [(0, _), (1, _), (2, _), (3, _), (4, _), (5, _)]) r_L_law__2424 rfl ?_
    refine EV.l (lv' := [(0, _), (1, _), (2, _), (3, _), (4, _), (5, _)]) r_L_law__2425 rfl ?_
    refine EV.o r_L_law__2427 (bpN (6) 6) ?_
    refine EV.o r_L_law__2429 iaddN ?_
    refine EV.sld r_L_law__2430 (by omega) (by omega) ?_
    refine EV.inv r_L_law__2431.1 rfl (by decide) (aV6 mt_284 la_106) (Nat.le_of_ble_eq_true rfl) (h3) (hp_len _ _ _ _) ?_
    show EV (some (L, xs)) M_L_law_ 41 2434 [(0, .ref spc), (1, .ref 0), (2, .ref 106), (3, .ref 135), (4, .int (nI (7 * c))), (5, .int (nI 0))] [.int v] (hp I2 (wr J 135 0 v.toInt64)) _
    refine EV.l (lv' := [(0, _), (1, _), (2, _), (3, _), (4, _), (5, _), (6, _)]) r_L_law__2434 rfl ?_
    refine EV.l (lv' := [(0, _), (1, _), (2, _), (3, _), (4, _), (5, _), (6, _)]) r_L_law__2436 rfl ?_
    refine EV.inv r_L_law__2437.1 rfl (by decide) (aV0 mt_168 la_106) (Nat.le_of_ble_eq_true rfl) (m_thrown (d := 41) (by omega)) (hp_len _ _ _ _) ?_
    show EV (some (L, xs)) M_L_law_ 41 2440 [(0, .ref spc), (1, .ref 0), (2, .ref 106), (3, .ref 135), (4, .int (nI (7 * c))), (5, .int (nI 0)), (6, .int v)] [.int (I2 106 0)] (hp I2 (wr J 135 0 v.toInt64)) _
    rw [t2]
    refine EV.l (lv' := [(0, _), (1, _), (2, _), (3, _), (4, _), (5, _), (6, _)]) r_L_law__2440 rfl ?_
    refine EV.r2_eq r_L_law__2442 (fun _ => ?_) (fun z => absurd rfl z)
    refine EV.l (lv' := [(0, _), (1, _), (2, _), (3, _), (4, _), (5, _), (6, _)]) r_L_law__2447 rfl ?_
    refine EV.n0_ne r_L_law__2449 (fun z => absurd rfl z) (fun _ => ?_)
    refine EV.l (lv' := [(0, _), (1, _), (2, _), (3, _), (4, _), (5, _), (6, _)]) r_L_law__2452 rfl ?_
    refine EV.o r_L_law__2453 (icN (0) (v := 0)) ?_
    refine EV.laloadI r_L_law__2454.1 la_135 rfl (by decide) (by decide) ?_
    rw [show (wr J 135 0 v.toInt64) 135 0 = v.toInt64 from wr_same]
    show EV (some (L, xs)) M_L_law_ 41 2455 [(0, .ref spc), (1, .ref 0), (2, .ref 106), (3, .ref 135), (4, .int (nI (7 * c))), (5, .int (nI 0)), (6, .int v)] [.long v.toInt64] (hp I2 (wr J 135 0 v.toInt64)) _
    refine EV.l (lv' := [(0, _), (1, _), (2, _), (3, _), (4, _), (5, _), (6, _)]) r_L_law__2455 rfl ?_
    refine EV.o r_L_law__2457 rfl ?_
    refine EV.o r_L_law__2458 (st' := [.int (lg_cmp v.toInt64 v.toInt64)]) rfl ?_
    rw [lg_self]
    refine EV.n0_eq r_L_law__2459 (fun _ => ?_) (fun z => absurd rfl z)
    refine EV.g r_L_law__2464 ?_
    refine EV.l (lv' := [(0, _), (1, _), (2, _), (3, _), (4, _), (5, _), (6, _)]) r_L_law__2543 rfl ?_
    rw [inc_7]
    refine EV.g r_L_law__2546 ?_
    refine EV.fg (lv' := [(0, _), (1, _), (2, _), (3, _), (4, _)]) r_L_law__23 rfl rfl rfl ?_
    exact (cont I2 (wr J 135 0 v.toInt64) _ inv2).mono (fun r G q h => QN.of h (by omega))
  · obtain ⟨I1, h1, h2⟩ := hX1 J
    obtain ⟨b, I2, S2, h3, inv2, t2⟩ := h2 J
    show EV (some (L, xs)) M_L_law_ 41 2349 [(0, .ref spc), (1, .ref 0), (2, .ref 106), (3, .ref 135), (4, .int (nI (7 * c)))] [] (hp I J) _
    refine EV.l (lv' := [(0, _), (1, _), (2, _), (3, _), (4, _)]) r_L_law__2349 rfl ?_
    refine EV.l (lv' := [(0, _), (1, _), (2, _), (3, _), (4, _)]) r_L_law__2350 rfl ?_
    refine EV.l (lv' := [(0, _), (1, _), (2, _), (3, _), (4, _)]) r_L_law__2351 rfl ?_
    refine EV.o r_L_law__2353 (icN (1) (v := 1)) ?_
    refine EV.o r_L_law__2354 iaddN ?_
    refine EV.sld r_L_law__2355 (by omega) (by omega) ?_
    refine EV.l (lv' := [(0, _), (1, _), (2, _), (3, _), (4, _)]) r_L_law__2356 rfl ?_
    refine EV.l (lv' := [(0, _), (1, _), (2, _), (3, _), (4, _)]) r_L_law__2357 rfl ?_
    refine EV.o r_L_law__2359 (icN (2) (v := 2)) ?_
    refine EV.o r_L_law__2360 iaddN ?_
    refine EV.sld r_L_law__2361 (by omega) (by omega) ?_
    refine EV.l (lv' := [(0, _), (1, _), (2, _), (3, _), (4, _)]) r_L_law__2362 rfl ?_
    refine EV.l (lv' := [(0, _), (1, _), (2, _), (3, _), (4, _)]) r_L_law__2363 rfl ?_
    refine EV.o r_L_law__2365 (icN (3) (v := 3)) ?_
    refine EV.o r_L_law__2366 iaddN ?_
    refine EV.sld r_L_law__2367 (by omega) (by omega) ?_
    refine EV.l (lv' := [(0, _), (1, _), (2, _), (3, _), (4, _)]) r_L_law__2368 rfl ?_
    refine EV.l (lv' := [(0, _), (1, _), (2, _), (3, _), (4, _)]) r_L_law__2369 rfl ?_
    refine EV.o r_L_law__2371 (icN (4) (v := 4)) ?_
    refine EV.o r_L_law__2372 iaddN ?_
    refine EV.sld r_L_law__2373 (by omega) (by omega) ?_
    refine EV.l (lv' := [(0, _), (1, _), (2, _), (3, _), (4, _)]) r_L_law__2374 rfl ?_
    refine EV.l (lv' := [(0, _), (1, _), (2, _), (3, _), (4, _)]) r_L_law__2375 rfl ?_
    refine EV.o r_L_law__2377 (icN (5) (v := 5)) ?_
    refine EV.o r_L_law__2378 iaddN ?_
    refine EV.sld r_L_law__2379 (by omega) (by omega) ?_
    refine EV.l (lv' := [(0, _), (1, _), (2, _), (3, _), (4, _)]) r_L_law__2380 rfl ?_
    refine EV.l (lv' := [(0, _), (1, _), (2, _), (3, _), (4, _)]) r_L_law__2381 rfl ?_
    refine EV.o r_L_law__2383 (bpN (6) 6) ?_
    refine EV.o r_L_law__2385 iaddN ?_
    refine EV.sld r_L_law__2386 (by omega) (by omega) ?_
    refine EV.l (lv' := [(0, _), (1, _), (2, _), (3, _), (4, _)]) r_L_law__2387 rfl ?_
    refine EV.inv r_L_law__2388.1 rfl (by decide) (aS8 mt_321) (Nat.le_of_ble_eq_true rfl) (wx1_span h1) (hp_len _ _ _ _) ?_
    show EV (some (L, xs)) M_L_law_ 41 2391 [(0, .ref spc), (1, .ref 0), (2, .ref 106), (3, .ref 135), (4, .int (nI (7 * c)))] [.int (nI 1)] (hp I1 J) _
    refine EV.l (lv' := [(0, _), (1, _), (2, _), (3, _), (4, _), (5, _)]) r_L_law__2391 rfl ?_
    refine EV.l (lv' := [(0, _), (1, _), (2, _), (3, _), (4, _), (5, _)]) r_L_law__2393 rfl ?_
    refine EV.l (lv' := [(0, _), (1, _), (2, _), (3, _), (4, _), (5, _)]) r_L_law__2394 rfl ?_
    refine EV.l (lv' := [(0, _), (1, _), (2, _), (3, _), (4, _), (5, _)]) r_L_law__2395 rfl ?_
    refine EV.o r_L_law__2397 (icN (1) (v := 1)) ?_
    refine EV.o r_L_law__2398 iaddN ?_
    refine EV.sld r_L_law__2399 (by omega) (by omega) ?_
    refine EV.l (lv' := [(0, _), (1, _), (2, _), (3, _), (4, _), (5, _)]) r_L_law__2400 rfl ?_
    refine EV.l (lv' := [(0, _), (1, _), (2, _), (3, _), (4, _), (5, _)]) r_L_law__2401 rfl ?_
    refine EV.o r_L_law__2403 (icN (2) (v := 2)) ?_
    refine EV.o r_L_law__2404 iaddN ?_
    refine EV.sld r_L_law__2405 (by omega) (by omega) ?_
    refine EV.l (lv' := [(0, _), (1, _), (2, _), (3, _), (4, _), (5, _)]) r_L_law__2406 rfl ?_
    refine EV.l (lv' := [(0, _), (1, _), (2, _), (3, _), (4, _), (5, _)]) r_L_law__2407 rfl ?_
    refine EV.o r_L_law__2409 (icN (3) (v := 3)) ?_
    refine EV.o r_L_law__2410 iaddN ?_
    refine EV.sld r_L_law__2411 (by omega) (by omega) ?_
    refine EV.l (lv' := [(0, _), (1, _), (2, _), (3, _), (4, _), (5, _)]) r_L_law__2412 rfl ?_
    refine EV.l (lv' := [(0, _), (1, _), (2, _), (3, _), (4, _), (5, _)]) r_L_law__2413 rfl ?_
    refine EV.o r_L_law__2415 (icN (4) (v := 4)) ?_
    refine EV.o r_L_law__2416 iaddN ?_
    refine EV.sld r_L_law__2417 (by omega) (by omega) ?_
    refine EV.l (lv' := [(0, _), (1, _), (2, _), (3, _), (4, _), (5, _)]) r_L_law__2418 rfl ?_
    refine EV.l (lv' := [(0, _), (1, _), (2, _), (3, _), (4, _), (5, _)]) r_L_law__2419 rfl ?_
    refine EV.o r_L_law__2421 (icN (5) (v := 5)) ?_
    refine EV.o r_L_law__2422 iaddN ?_
    refine EV.sld r_L_law__2423 (by omega) (by omega) ?_
    refine EV.l (lv' := [(0, _), (1, _), (2, _), (3, _), (4, _), (5, _)]) r_L_law__2424 rfl ?_
    refine EV.l (lv' := [(0, _), (1, _), (2, _), (3, _), (4, _), (5, _)]) r_L_law__2425 rfl ?_
    refine EV.o r_L_law__2427 (bpN (6) 6) ?_
    refine EV.o r_L_law__2429 iaddN ?_
    refine EV.sld r_L_law__2430 (by omega) (by omega) ?_
    refine EV.inv r_L_law__2431.1 rfl (by decide) (aV6 mt_284 la_106) (Nat.le_of_ble_eq_true rfl) (h3) (hp_len _ _ _ _) ?_
    show EV (some (L, xs)) M_L_law_ 41 2434 [(0, .ref spc), (1, .ref 0), (2, .ref 106), (3, .ref 135), (4, .int (nI (7 * c))), (5, .int (nI 1))] [.int b] (hp I2 J) _
    refine EV.l (lv' := [(0, _), (1, _), (2, _), (3, _), (4, _), (5, _), (6, _)]) r_L_law__2434 rfl ?_
    refine EV.l (lv' := [(0, _), (1, _), (2, _), (3, _), (4, _), (5, _), (6, _)]) r_L_law__2436 rfl ?_
    refine EV.inv r_L_law__2437.1 rfl (by decide) (aV0 mt_168 la_106) (Nat.le_of_ble_eq_true rfl) (m_thrown (d := 41) (by omega)) (hp_len _ _ _ _) ?_
    show EV (some (L, xs)) M_L_law_ 41 2440 [(0, .ref spc), (1, .ref 0), (2, .ref 106), (3, .ref 135), (4, .int (nI (7 * c))), (5, .int (nI 1)), (6, .int b)] [.int (I2 106 0)] (hp I2 J) _
    rw [t2]
    refine EV.l (lv' := [(0, _), (1, _), (2, _), (3, _), (4, _), (5, _), (6, _)]) r_L_law__2440 rfl ?_
    refine EV.r2_eq r_L_law__2442 (fun _ => ?_) (fun z => absurd rfl z)
    refine EV.l (lv' := [(0, _), (1, _), (2, _), (3, _), (4, _), (5, _), (6, _)]) r_L_law__2447 rfl ?_
    refine EV.n0_ne r_L_law__2449 (fun _ => ?_) (fun z => absurd z (by decide))
    refine EV.g r_L_law__2464 ?_
    refine EV.l (lv' := [(0, _), (1, _), (2, _), (3, _), (4, _), (5, _), (6, _)]) r_L_law__2543 rfl ?_
    rw [inc_7]
    refine EV.g r_L_law__2546 ?_
    refine EV.fg (lv' := [(0, _), (1, _), (2, _), (3, _), (4, _)]) r_L_law__23 rfl rfl rfl ?_
    exact (cont I2 J _ inv2).mono (fun r G q h => QN.of h (by omega))
