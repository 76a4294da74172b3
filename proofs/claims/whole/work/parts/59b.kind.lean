/-! (goes on) -/
theorem m_least1 {d : Nat} {I : Nat → Nat → Int32} {J : Nat → Nat → Int64} {a b : Nat} (ha : a < 9223372036854775808) (hb_ : b < 9223372036854775808) (h0 : 0 < b) (hd : 1 ≤ d) : RLV d 256 [.long (nL (a)), .long (nL (b)), .int (nI 1)] I J (nL (b / Nat.gcd a b)) := by
  refine RLV.in (d0 := 0) hd mt_256 (Nat.le_of_ble_eq_true rfl) (fun d' hd' => ?_)
  show EV none M_X11_least d' 0 [(0, .long (nL (a))), (2, .long (nL (b))), (4, .int (nI 1))] [] (hp I J) _
  refine EV.l (lv' := [(0, _), (2, _), (4, _)]) r_X11_least_0 rfl ?_
  refine EV.l (lv' := [(0, _), (2, _), (4, _), (5, _)]) r_X11_least_1 rfl ?_
  refine EV.l (lv' := [(0, _), (2, _), (4, _), (5, _)]) r_X11_least_3 rfl ?_
  refine EV.l (lv' := [(0, _), (2, _), (4, _), (5, _), (7, _)]) r_X11_least_4 rfl ?_
  have L6 : ∀ y_ : Nat × Nat, (fun y => (Nat.gcd y.1 y.2 = Nat.gcd a b ∧ y.1 < 9223372036854775808 ∧ y.2 < 9223372036854775808) → EV none M_X11_least d' 6 [(0, .long (nL (a))), (2, .long (nL (b))), (4, .int (nI 1)), (5, .long (nL y.1)), (7, .long (nL y.2))] [] (hp I J) (QLV I J (nL (b / Nat.gcd a b)))) y_ := by
    refine ev_loop (fun y => y.2) ?_
    intro ⟨x, z⟩ ih6 hx6
    try dsimp only at ih6
    try dsimp only at hx6
    try dsimp only
    refine EV.l (lv' := [(0, _), (2, _), (4, _), (5, _), (7, _)]) r_X11_least_6 rfl ?_
    refine EV.o r_X11_least_8 lc0 ?_
    refine EV.o r_X11_least_9 (lcmpN (by omega) (by omega)) ?_
    refine EV.k0_eq r_X11_least_10 (fun h10 => ?_) (fun h10 => ?_)
    · -- 10 t
      have g0 : x = Nat.gcd a b := by rw [← hx6.1, h10, Nat.gcd_zero_right]
      have g1 : 0 < x := by rw [g0]; exact Nat.gcd_pos_of_pos_right _ h0
      refine EV.l (lv' := [(0, _), (2, _), (4, _), (5, _), (7, _)]) r_X11_least_31 rfl ?_
      refine EV.n0_ne r_X11_least_33 (fun h33 => ?_) (fun h33 => ?_)
      · -- 33 t
        refine EV.l (lv' := [(0, _), (2, _), (4, _), (5, _), (7, _)]) r_X11_least_40 rfl ?_
        refine EV.l (lv' := [(0, _), (2, _), (4, _), (5, _), (7, _)]) r_X11_least_41 rfl ?_
        refine EV.o r_X11_least_43 (ldivN (by omega) (by omega) (by omega)) ?_
        exact EV.rlv r_X11_least_44 (congrArg (fun w => nL (b / w)) g0)
      · omega
    · -- 10 f
      refine EV.l (lv' := [(0, _), (2, _), (4, _), (5, _), (7, _)]) r_X11_least_13 rfl ?_
      refine EV.l (lv' := [(0, _), (2, _), (4, _), (5, _), (7, _)]) r_X11_least_15 rfl ?_
      refine EV.o r_X11_least_17 (lremN (by omega) (by omega) (by omega)) ?_
      refine EV.l (lv' := [(0, _), (2, _), (4, _), (5, _), (7, _), (9, _)]) r_X11_least_18 rfl ?_
      refine EV.l (lv' := [(0, _), (2, _), (4, _), (5, _), (7, _), (9, _)]) r_X11_least_20 rfl ?_
      refine EV.l (lv' := [(0, _), (2, _), (4, _), (5, _), (7, _), (9, _)]) r_X11_least_22 rfl ?_
      refine EV.l (lv' := [(0, _), (2, _), (4, _), (5, _), (7, _), (9, _)]) r_X11_least_24 rfl ?_
      refine EV.l (lv' := [(0, _), (2, _), (4, _), (5, _), (7, _), (9, _)]) r_X11_least_26 rfl ?_
      refine EV.g r_X11_least_28 ?_
      refine EV.fg (lv' := [(0, _), (2, _), (4, _), (5, _), (7, _)]) r_X11_least_6 rfl rfl rfl ?_
      refine EV.sub ?_ rfl ?_ (ih6 (z, x % z) ?_ ?_)
      · (try dsimp only) <;> (rfl)
      · (try dsimp only) <;> (rfl)
      · (try dsimp only) <;> (exact Nat.mod_lt _ (by omega))
      · (try dsimp only) <;> (exact ⟨gcd_st hx6.1, hx6.2.2, Nat.lt_of_le_of_lt (Nat.mod_le _ _) hx6.2.1⟩)
  have h0 := L6 ((a, b))
  try dsimp only at h0
  refine EV.sub ?_ rfl ?_ (h0 ?_)
  · (try dsimp only) <;> (rfl)
  · (try dsimp only) <;> (rfl)
  · (try dsimp only) <;> (exact ⟨rfl, ha, hb_⟩)
theorem m_kind0 {d : Nat} {I : Nat → Nat → Int32} {J : Nat → Nat → Int64} {n k q : Nat} (hn : n ≤ 12) (hk : k ≤ 13) (hq : q ≤ 16) (hd : 3 ≤ d) : RLI d 257 [.ref 106, .int (nI n), .int (nI k), .int (nI q), .int (nI 0)] I J (fun v I' J' => v = nL (kdA n k q / kdG n k q) ∧ I' = wr I 106 0 (nI 0) ∧ ∀ o, o ≠ 133 → J' o = J o) := by
  refine RLI.in (d0 := 2) hd mt_257 (Nat.le_of_ble_eq_true rfl) (fun d' hd' => ?_)
  have b16 := p16 hn
  have p0 : 0 < 16 ^ n := Nat.pow_pos (by decide)
  show EV none M_X11_kind d' 0 [(0, .ref 106), (1, .int (nI n)), (2, .int (nI k)), (3, .int (nI q)), (4, .int (nI 0))] [] (hp I J) _
  refine EV.l (lv' := [(0, _), (1, _), (2, _), (3, _), (4, _)]) r_X11_kind_0 rfl ?_
  refine EV.o r_X11_kind_1 (icN (0) (v := 0)) ?_
  refine EV.pI r_X11_kind_2 la_106 ?_
  refine EV.l (lv' := [(0, _), (1, _), (2, _), (3, _), (4, _)]) r_X11_kind_5 rfl ?_
  refine EV.l (lv' := [(0, _), (1, _), (2, _), (3, _), (4, _)]) r_X11_kind_6 rfl ?_
  refine EV.o r_X11_kind_7 (icN (0) (v := 0)) ?_
  refine EV.o r_X11_kind_8 (bpN (12) 12) ?_
  refine EV.cv r_X11_kind_10 (aS3 mt_170) (m_wNNN (by omega) (by omega) (by omega) (by omega)) ?_
  refine EV.p0_eq r_X11_kind_13 (fun h13 => ?_) (fun h13 => ?_)
  · -- 13 t
    refine EV.o r_X11_kind_50 (icN (0) (v := 0)) ?_
    refine EV.o r_X11_kind_51 (icN (1) (v := 1)) ?_
    refine EV.o r_X11_kind_52 (icN (1) (v := 1)) ?_
    omega
  · -- 13 f
    refine EV.l (lv' := [(0, _), (1, _), (2, _), (3, _), (4, _)]) r_X11_kind_16 rfl ?_
    refine EV.o r_X11_kind_17 (icN (0) (v := 0)) ?_
    refine EV.o r_X11_kind_18 (bpN (13) 13) ?_
    refine EV.cv r_X11_kind_20 (aS3 mt_170) (m_wNNN (by omega) (by omega) (by omega) (by omega)) ?_
    refine EV.p0_eq r_X11_kind_23 (fun h23 => ?_) (fun h23 => ?_)
    · -- 23 t
      refine EV.o r_X11_kind_50 (icN (0) (v := 0)) ?_
      refine EV.o r_X11_kind_51 (icN (1) (v := 1)) ?_
      refine EV.o r_X11_kind_52 (icN (1) (v := 1)) ?_
      omega
    · -- 23 f
      refine EV.l (lv' := [(0, _), (1, _), (2, _), (3, _), (4, _)]) r_X11_kind_26 rfl ?_
      refine EV.o r_X11_kind_27 (icN (0) (v := 0)) ?_
      refine EV.o r_X11_kind_28 (bpN (16) 16) ?_
      refine EV.cv r_X11_kind_30 (aS3 mt_170) (m_wNNN (by omega) (by omega) (by omega) (by omega)) ?_
      refine EV.p0_eq r_X11_kind_33 (fun h33 => ?_) (fun h33 => ?_)
      · -- 33 t
        refine EV.o r_X11_kind_50 (icN (0) (v := 0)) ?_
        refine EV.o r_X11_kind_51 (icN (1) (v := 1)) ?_
        refine EV.o r_X11_kind_52 (icN (1) (v := 1)) ?_
        omega
      · -- 33 f
        refine EV.l (lv' := [(0, _), (1, _), (2, _), (3, _), (4, _)]) r_X11_kind_36 rfl ?_
        refine EV.o r_X11_kind_38 (icN (0) (v := 0)) ?_
        refine EV.o r_X11_kind_39 (icN (1) (v := 1)) ?_
        refine EV.cv r_X11_kind_40 (aS3 mt_170) (m_wNNN (by omega) (by omega) (by omega) (by omega)) ?_
        refine EV.p0_eq r_X11_kind_43 (fun h43 => ?_) (fun h43 => ?_)
        · -- 43 t
          refine EV.o r_X11_kind_50 (icN (0) (v := 0)) ?_
          refine EV.o r_X11_kind_51 (icN (1) (v := 1)) ?_
          refine EV.o r_X11_kind_52 (icN (1) (v := 1)) ?_
          omega
        · -- 43 f
          refine EV.o r_X11_kind_46 (icN (1) (v := 1)) ?_
          refine EV.g r_X11_kind_47 ?_
          refine EV.o r_X11_kind_51 (icN (1) (v := 1)) ?_
          refine EV.o r_X11_kind_52 (icN (1) (v := 1)) ?_
          refine EV.cv r_X11_kind_53 (aV3 mt_169 la_106) (m_mayN wr_same (by omega)) ?_
          refine EV.n0_ne r_X11_kind_56 (fun h56 => ?_) (fun h56 => ?_)
          · -- 56 t
            refine EV.o r_X11_kind_61 (icN (0) (v := 0)) ?_
            refine EV.l (lv' := [(0, _), (1, _), (2, _), (3, _), (4, _), (5, _)]) r_X11_kind_62 rfl ?_
            have L64 : ∀ y_ : Nat × (Nat → Nat → Int64), (fun y => (y.1 ≤ 14 ∧ (∀ o, o ≠ 133 → y.2 o = J o) ∧ ∀ j, j < y.1 → y.2 133 j = nL (kk q 0 j)) → EV none M_X11_kind d' 64 [(0, .ref 106), (1, .int (nI n)), (2, .int (nI k)), (3, .int (nI q)), (4, .int (nI 0)), (5, .int (nI y.1))] [] (hp (wr I 106 0 (nI 0)) y.2) (QLI (fun v I' J' => v = nL (kdA n k q / kdG n k q) ∧ I' = wr I 106 0 (nI 0) ∧ ∀ o, o ≠ 133 → J' o = J o))) y_ := by
              refine ev_loop (fun y => 14 - y.1) ?_
              intro ⟨i, J1⟩ ih64 hx64
              try dsimp only at ih64
              try dsimp only at hx64
              try dsimp only
              refine EV.l (lv' := [(0, _), (1, _), (2, _), (3, _), (4, _), (5, _)]) r_X11_kind_64 rfl ?_
              refine EV.o r_X11_kind_66 (bpN (14) 14) ?_
              refine EV.n2_ge r_X11_kind_68 (fun h68 => ?_) (fun h68 => ?_)
              · -- 68 t
                refine EV.o r_X11_kind_94 lc1 ?_
                refine EV.l (lv' := [(0, _), (1, _), (2, _), (3, _), (4, _), (5, _)]) r_X11_kind_95 rfl ?_
                refine EV.o r_X11_kind_97 (icN (0) (v := 0)) ?_
                refine EV.l (lv' := [(0, _), (1, _), (2, _), (3, _), (4, _), (5, _), (7, _)]) r_X11_kind_98 rfl ?_
                have L100 : ∀ y_ : Nat × (Nat → Nat → Int64), (fun y => (y.1 ≤ n ∧ (∀ o, o ≠ 133 → y.2 o = J o) ∧ ∀ j, j < 14 → y.2 133 j = nL (kk q y.1 j)) → EV none M_X11_kind d' 100 [(0, .ref 106), (1, .int (nI n)), (2, .int (nI k)), (3, .int (nI q)), (4, .int (nI 0)), (5, .long (nL (16 ^ y.1))), (7, .int (nI y.1))] [] (hp (wr I 106 0 (nI 0)) y.2) (QLI (fun v I' J' => v = nL (kdA n k q / kdG n k q) ∧ I' = wr I 106 0 (nI 0) ∧ ∀ o, o ≠ 133 → J' o = J o))) y_ := by
                  refine ev_loop (fun y => n - y.1) ?_
                  intro ⟨t, J3⟩ ih100 hx100
                  try dsimp only at ih100
                  try dsimp only at hx100
                  try dsimp only
                  refine EV.l (lv' := [(0, _), (1, _), (2, _), (3, _), (4, _), (5, _), (7, _)]) r_X11_kind_100 rfl ?_
                  refine EV.l (lv' := [(0, _), (1, _), (2, _), (3, _), (4, _), (5, _), (7, _)]) r_X11_kind_102 rfl ?_
                  refine EV.n2_ge r_X11_kind_103 (fun h103 => ?_) (fun h103 => ?_)
                  · -- 103 t
                    have tn : t = n := by omega
                    have kn : ∀ j, j < 14 → J3 133 j = nL (kk q n j) := by rw [← tn]; exact hx100.2.2
                    rw [show 16 ^ t = 16 ^ n from by rw [tn]]
                    refine EV.o r_X11_kind_177 lc0 ?_
                    refine EV.l (lv' := [(0, _), (1, _), (2, _), (3, _), (4, _), (5, _), (7, _)]) r_X11_kind_178 rfl ?_
                    refine EV.l (lv' := [(0, _), (1, _), (2, _), (3, _), (4, _), (5, _), (7, _)]) r_X11_kind_180 rfl ?_
                    refine EV.l (lv' := [(0, _), (1, _), (2, _), (3, _), (4, _), (5, _), (7, _), (9, _)]) r_X11_kind_181 rfl ?_
                    have L183 : ∀ y_ : Nat, (fun u => u ≤ 14 - k → EV none M_X11_kind d' 183 [(0, .ref 106), (1, .int (nI n)), (2, .int (nI k)), (3, .int (nI q)), (4, .int (nI 0)), (5, .long (nL (16 ^ n))), (7, .long (nL (kks q n k u))), (9, .int (nI (k + u)))] [] (hp (wr I 106 0 (nI 0)) J3) (QLI (fun v I' J' => v = nL (kdA n k q / kdG n k q) ∧ I' = wr I 106 0 (nI 0) ∧ ∀ o, o ≠ 133 → J' o = J o))) y_ := by
                      refine ev_loop (fun u => 14 - k - u) ?_
                      intro u ih183 hx183
                      try dsimp only at ih183
                      try dsimp only at hx183
                      try dsimp only
                      refine EV.l (lv' := [(0, _), (1, _), (2, _), (3, _), (4, _), (5, _), (7, _), (9, _)]) r_X11_kind_183 rfl ?_
                      refine EV.o r_X11_kind_185 (bpN (14) 14) ?_
                      refine EV.n2_ge r_X11_kind_187 (fun h187 => ?_) (fun h187 => ?_)
                      · -- 187 t
                        rw [show kks q n k u = kdA n k q from by rw [show u = 14 - k by omega]; exact kks_e hn]
                        refine EV.l (lv' := [(0, _), (1, _), (2, _), (3, _), (4, _), (5, _), (7, _), (9, _)]) r_X11_kind_208 rfl ?_
                        refine EV.l (lv' := [(0, _), (1, _), (2, _), (3, _), (4, _), (5, _), (7, _), (9, _)]) r_X11_kind_210 rfl ?_
                        refine EV.l (lv' := [(0, _), (1, _), (2, _), (3, _), (4, _), (5, _), (7, _), (9, _)]) r_X11_kind_212 rfl ?_
                        refine EV.clv r_X11_kind_214 (aS3 mt_256) (m_least0 (kdA_b hn hq) (by omega) p0 (by omega)) ?_
                        exact EV.rli r_X11_kind_217 (⟨rfl, rfl, hx100.2.1⟩)
                      · -- 187 f
                        refine EV.l (lv' := [(0, _), (1, _), (2, _), (3, _), (4, _), (5, _), (7, _), (9, _)]) r_X11_kind_190 rfl ?_
                        refine EV.l (lv' := [(0, _), (1, _), (2, _), (3, _), (4, _), (5, _), (7, _), (9, _)]) r_X11_kind_192 rfl ?_
                        refine EV.gR r_X11_kind_193 la_106 ?_
                        refine EV.l (lv' := [(0, _), (1, _), (2, _), (3, _), (4, _), (5, _), (7, _), (9, _)]) r_X11_kind_196 rfl ?_
                        refine EV.laN r_X11_kind_198 la_133 (kn _ (by omega)) ?_
                        refine EV.o r_X11_kind_199 laddN ?_
                        refine EV.l (lv' := [(0, _), (1, _), (2, _), (3, _), (4, _), (5, _), (7, _), (9, _)]) r_X11_kind_200 rfl ?_
                        refine EV.l (lv' := [(0, _), (1, _), (2, _), (3, _), (4, _), (5, _), (7, _), (9, _)]) r_X11_kind_202 rfl ?_
                        rw [inc_nI]
                        refine EV.g r_X11_kind_205 ?_
                        refine EV.sub ?_ rfl ?_ (ih183 (u + 1) ?_ ?_)
                        · rfl
                        · rfl
                        · omega
                        · omega
                    have h0 := L183 (0)
                    try dsimp only at h0
                    refine EV.sub ?_ rfl ?_ (h0 ?_)
                    · rfl
                    · rfl
                    · omega
                  · -- 103 f
                    refine EV.o r_X11_kind_106 (bpN (13) 13) ?_
                    refine EV.l (lv' := [(0, _), (1, _), (2, _), (3, _), (4, _), (5, _), (7, _), (8, _)]) r_X11_kind_108 rfl ?_
                    have L110 : ∀ y_ : Nat × (Nat → Nat → Int64), (fun y => (y.1 ≤ 14 ∧ (∀ o, o ≠ 133 → y.2 o = J o) ∧ (∀ j, j < y.1 → y.2 133 j = nL (kk q t j)) ∧ ∀ j, y.1 ≤ j → j < 14 → y.2 133 j = nL (kk q (t + 1) j)) → EV none M_X11_kind d' 110 [(0, .ref 106), (1, .int (nI n)), (2, .int (nI k)), (3, .int (nI q)), (4, .int (nI 0)), (5, .long (nL (16 ^ t))), (7, .int (nI t)), (8, .int (zI ((y.1 : Int) - 1)))] [] (hp (wr I 106 0 (nI 0)) y.2) (QLI (fun v I' J' => v = nL (kdA n k q / kdG n k q) ∧ I' = wr I 106 0 (nI 0) ∧ ∀ o, o ≠ 133 → J' o = J o))) y_ := by
                      refine ev_loop (fun y => y.1) ?_
                      intro ⟨m, J4⟩ ih110 hx110
                      try dsimp only at ih110
                      try dsimp only at hx110
                      try dsimp only
                      refine EV.l (lv' := [(0, _), (1, _), (2, _), (3, _), (4, _), (5, _), (7, _), (8, _)]) r_X11_kind_110 rfl ?_
                      refine EV.z0_lt r_X11_kind_112 (fun h112 => ?_) (fun h112 => ?_)
                      · -- 112 t
                        have m0 : m = 0 := by omega
                        refine EV.l (lv' := [(0, _), (1, _), (2, _), (3, _), (4, _), (5, _), (7, _), (8, _)]) r_X11_kind_163 rfl ?_
                        refine EV.lc2 r_X11_kind_165 ?_
                        refine EV.o r_X11_kind_168 lmulN ?_
                        refine EV.l (lv' := [(0, _), (1, _), (2, _), (3, _), (4, _), (5, _), (7, _), (8, _)]) r_X11_kind_169 rfl ?_
                        refine EV.l (lv' := [(0, _), (1, _), (2, _), (3, _), (4, _), (5, _), (7, _), (8, _)]) r_X11_kind_171 rfl ?_
                        rw [inc_nI]
                        refine EV.g r_X11_kind_174 ?_
                        refine EV.fg (lv' := [(0, _), (1, _), (2, _), (3, _), (4, _), (5, _), (7, _)]) r_X11_kind_100 rfl rfl rfl ?_
                        refine EV.sub ?_ rfl ?_ (ih100 (t + 1, J4) ?_ ?_)
                        · (try dsimp only) <;> (rfl)
                        · (try dsimp only) <;> (rfl)
                        · (try dsimp only) <;> (omega)
                        · (try dsimp only) <;> (exact ⟨by omega, hx110.2.1, fun j hj => hx110.2.2.2 j (by omega) hj⟩)
                      · -- 112 f
                        rw [show zI ((m : Int) - 1) = nI (m - 1) from by rw [← zI_nat]; congr 1; omega]
                        refine EV.l (lv' := [(0, _), (1, _), (2, _), (3, _), (4, _), (5, _), (7, _), (8, _)]) r_X11_kind_115 rfl ?_
                        refine EV.gR r_X11_kind_116 la_106 ?_
                        refine EV.l (lv' := [(0, _), (1, _), (2, _), (3, _), (4, _), (5, _), (7, _), (8, _)]) r_X11_kind_119 rfl ?_
                        refine EV.l (lv' := [(0, _), (1, _), (2, _), (3, _), (4, _), (5, _), (7, _), (8, _)]) r_X11_kind_121 rfl ?_
                        refine EV.gR r_X11_kind_122 la_106 ?_
                        refine EV.l (lv' := [(0, _), (1, _), (2, _), (3, _), (4, _), (5, _), (7, _), (8, _)]) r_X11_kind_125 rfl ?_
                        refine EV.laN r_X11_kind_127 la_133 (hx110.2.2.1 (m - 1) (by omega)) ?_
                        refine EV.o r_X11_kind_128 (bpN (16) 16) ?_
                        refine EV.l (lv' := [(0, _), (1, _), (2, _), (3, _), (4, _), (5, _), (7, _), (8, _)]) r_X11_kind_130 rfl ?_
                        refine EV.o r_X11_kind_131 (isubN) ?_
                        refine EV.o r_X11_kind_132 (i2lN) ?_
                        refine EV.o r_X11_kind_133 lmulN ?_
                        refine EV.l (lv' := [(0, _), (1, _), (2, _), (3, _), (4, _), (5, _), (7, _), (8, _)]) r_X11_kind_134 rfl ?_
                        refine EV.n0_le r_X11_kind_136 (fun h136 => ?_) (fun h136 => ?_)
                        · -- 136 t
                          refine EV.o r_X11_kind_154 lc0 ?_
                          refine EV.o r_X11_kind_155 laddN ?_
                          refine EV.laSn r_X11_kind_156 la_133 (fun J5 e5 => ?_)
                          refine EV.l (lv' := [(0, _), (1, _), (2, _), (3, _), (4, _), (5, _), (7, _), (8, _)]) r_X11_kind_157 rfl ?_
                          rw [dec_nZ]
                          refine EV.g r_X11_kind_160 ?_
                          refine EV.sub ?_ rfl ?_ (ih110 (m - 1, J5) ?_ ?_)
                          · (try dsimp only) <;> (rfl)
                          · (try dsimp only) <;> (rfl)
                          · (try dsimp only) <;> (omega)
                          · (try dsimp only) <;> (subst e5; exact ⟨by omega, fun o h1 => (wr_row h1).trans (hx110.2.1 o h1), kk_step (by omega) hx110.2.2.1 hx110.2.2.2 (by first | rw [if_pos (by omega)] | rw [if_neg (by omega)])⟩)
                        · -- 136 f
                          refine EV.l (lv' := [(0, _), (1, _), (2, _), (3, _), (4, _), (5, _), (7, _), (8, _)]) r_X11_kind_139 rfl ?_
                          refine EV.gR r_X11_kind_140 la_106 ?_
                          refine EV.l (lv' := [(0, _), (1, _), (2, _), (3, _), (4, _), (5, _), (7, _), (8, _)]) r_X11_kind_143 rfl ?_
                          refine EV.o r_X11_kind_145 (icN (1) (v := 1)) ?_
                          refine EV.o r_X11_kind_146 (isubN) ?_
                          refine EV.laN r_X11_kind_147 la_133 (hx110.2.2.1 (m - 1 - 1) (by omega)) ?_
                          refine EV.l (lv' := [(0, _), (1, _), (2, _), (3, _), (4, _), (5, _), (7, _), (8, _)]) r_X11_kind_148 rfl ?_
                          refine EV.o r_X11_kind_149 (i2lN) ?_
                          refine EV.o r_X11_kind_150 lmulN ?_
                          refine EV.g r_X11_kind_151 ?_
                          refine EV.o r_X11_kind_155 laddN ?_
                          refine EV.laSn r_X11_kind_156 la_133 (fun J5 e5 => ?_)
                          refine EV.l (lv' := [(0, _), (1, _), (2, _), (3, _), (4, _), (5, _), (7, _), (8, _)]) r_X11_kind_157 rfl ?_
                          rw [dec_nZ]
                          refine EV.g r_X11_kind_160 ?_
                          refine EV.sub ?_ rfl ?_ (ih110 (m - 1, J5) ?_ ?_)
                          · (try dsimp only) <;> (rfl)
                          · (try dsimp only) <;> (rfl)
                          · (try dsimp only) <;> (omega)
                          · (try dsimp only) <;> (subst e5; exact ⟨by omega, fun o h1 => (wr_row h1).trans (hx110.2.1 o h1), kk_step (by omega) hx110.2.2.1 hx110.2.2.2 (by first | rw [if_pos (by omega)] | rw [if_neg (by omega)])⟩)
                    have h0 := L110 ((14, J3))
                    try dsimp only at h0
                    refine EV.sub ?_ rfl ?_ (h0 ?_)
                    · (try dsimp only) <;> (rfl)
                    · (try dsimp only) <;> (rfl)
                    · (try dsimp only) <;> (exact ⟨by omega, hx100.2.1, hx100.2.2, fun j hj hj2 => absurd hj2 (by omega)⟩)
                have h0 := L100 ((0, J1))
                try dsimp only at h0
                refine EV.sub ?_ rfl ?_ (h0 ?_)
                · (try dsimp only) <;> (rfl)
                · (try dsimp only) <;> (rfl)
                · (try dsimp only) <;> (exact ⟨by omega, hx64.2.1, fun j hj => hx64.2.2 j (by omega)⟩)
              · -- 68 f
                refine EV.l (lv' := [(0, _), (1, _), (2, _), (3, _), (4, _), (5, _)]) r_X11_kind_71 rfl ?_
                refine EV.gR r_X11_kind_72 la_106 ?_
                refine EV.l (lv' := [(0, _), (1, _), (2, _), (3, _), (4, _), (5, _)]) r_X11_kind_75 rfl ?_
                refine EV.l (lv' := [(0, _), (1, _), (2, _), (3, _), (4, _), (5, _)]) r_X11_kind_77 rfl ?_
                refine EV.n0_ne r_X11_kind_79 (fun h79 => ?_) (fun h79 => ?_)
                · -- 79 t
                  refine EV.o r_X11_kind_86 lc0 ?_
                  refine EV.laSn r_X11_kind_87 la_133 (fun J2 e2 => ?_)
                  refine EV.l (lv' := [(0, _), (1, _), (2, _), (3, _), (4, _), (5, _)]) r_X11_kind_88 rfl ?_
                  rw [inc_nI]
                  refine EV.g r_X11_kind_91 ?_
                  refine EV.sub ?_ rfl ?_ (ih64 (i + 1, J2) ?_ ?_)
                  · (try dsimp only) <;> (rfl)
                  · (try dsimp only) <;> (rfl)
                  · (try dsimp only) <;> (omega)
                  · (try dsimp only) <;> (subst e2; exact ⟨by omega, fun o h1 => (wr_row h1).trans (hx64.2.1 o h1), kk_fill hx64.2.2 (by unfold kk; first | rw [if_pos (by omega)] | rw [if_neg (by omega)])⟩)
                · -- 79 f
                  refine EV.o r_X11_kind_82 lc1 ?_
                  refine EV.g r_X11_kind_83 ?_
                  refine EV.laSn r_X11_kind_87 la_133 (fun J2 e2 => ?_)
                  refine EV.l (lv' := [(0, _), (1, _), (2, _), (3, _), (4, _), (5, _)]) r_X11_kind_88 rfl ?_
                  rw [inc_nI]
                  refine EV.g r_X11_kind_91 ?_
                  refine EV.sub ?_ rfl ?_ (ih64 (i + 1, J2) ?_ ?_)
                  · (try dsimp only) <;> (rfl)
                  · (try dsimp only) <;> (rfl)
                  · (try dsimp only) <;> (omega)
                  · (try dsimp only) <;> (subst e2; exact ⟨by omega, fun o h1 => (wr_row h1).trans (hx64.2.1 o h1), kk_fill hx64.2.2 (by unfold kk; first | rw [if_pos (by omega)] | rw [if_neg (by omega)])⟩)
            have h0 := L64 ((0, J))
            try dsimp only at h0
            refine EV.sub ?_ rfl ?_ (h0 ?_)
            · (try dsimp only) <;> (rfl)
            · (try dsimp only) <;> (rfl)
            · (try dsimp only) <;> (exact ⟨by omega, fun _ _ => rfl, fun j hj => absurd hj (Nat.not_lt_zero j)⟩)
          · omega
theorem m_kind1 {d : Nat} {I : Nat → Nat → Int32} {J : Nat → Nat → Int64} {n k q : Nat} (hn : n ≤ 12) (hk : k ≤ 13) (hq : q ≤ 16) (hd : 3 ≤ d) : RLI d 257 [.ref 106, .int (nI n), .int (nI k), .int (nI q), .int (nI 1)] I J (fun v I' J' => v = nL (16 ^ n / kdG n k q) ∧ I' = wr I 106 0 (nI 0) ∧ ∀ o, o ≠ 133 → J' o = J o) := by
  refine RLI.in (d0 := 2) hd mt_257 (Nat.le_of_ble_eq_true rfl) (fun d' hd' => ?_)
  have b16 := p16 hn
  have p0 : 0 < 16 ^ n := Nat.pow_pos (by decide)
  show EV none M_X11_kind d' 0 [(0, .ref 106), (1, .int (nI n)), (2, .int (nI k)), (3, .int (nI q)), (4, .int (nI 1))] [] (hp I J) _
  refine EV.l (lv' := [(0, _), (1, _), (2, _), (3, _), (4, _)]) r_X11_kind_0 rfl ?_
  refine EV.o r_X11_kind_1 (icN (0) (v := 0)) ?_
  refine EV.pI r_X11_kind_2 la_106 ?_
  refine EV.l (lv' := [(0, _), (1, _), (2, _), (3, _), (4, _)]) r_X11_kind_5 rfl ?_
  refine EV.l (lv' := [(0, _), (1, _), (2, _), (3, _), (4, _)]) r_X11_kind_6 rfl ?_
  refine EV.o r_X11_kind_7 (icN (0) (v := 0)) ?_
  refine EV.o r_X11_kind_8 (bpN (12) 12) ?_
  refine EV.cv r_X11_kind_10 (aS3 mt_170) (m_wNNN (by omega) (by omega) (by omega) (by omega)) ?_
  refine EV.p0_eq r_X11_kind_13 (fun h13 => ?_) (fun h13 => ?_)
  · -- 13 t
    refine EV.o r_X11_kind_50 (icN (0) (v := 0)) ?_
    refine EV.o r_X11_kind_51 (icN (1) (v := 1)) ?_
    refine EV.o r_X11_kind_52 (icN (1) (v := 1)) ?_
    omega
  · -- 13 f
    refine EV.l (lv' := [(0, _), (1, _), (2, _), (3, _), (4, _)]) r_X11_kind_16 rfl ?_
    refine EV.o r_X11_kind_17 (icN (0) (v := 0)) ?_
    refine EV.o r_X11_kind_18 (bpN (13) 13) ?_
    refine EV.cv r_X11_kind_20 (aS3 mt_170) (m_wNNN (by omega) (by omega) (by omega) (by omega)) ?_
    refine EV.p0_eq r_X11_kind_23 (fun h23 => ?_) (fun h23 => ?_)
    · -- 23 t
      refine EV.o r_X11_kind_50 (icN (0) (v := 0)) ?_
      refine EV.o r_X11_kind_51 (icN (1) (v := 1)) ?_
      refine EV.o r_X11_kind_52 (icN (1) (v := 1)) ?_
      omega
    · -- 23 f
      refine EV.l (lv' := [(0, _), (1, _), (2, _), (3, _), (4, _)]) r_X11_kind_26 rfl ?_
      refine EV.o r_X11_kind_27 (icN (0) (v := 0)) ?_
      refine EV.o r_X11_kind_28 (bpN (16) 16) ?_
      refine EV.cv r_X11_kind_30 (aS3 mt_170) (m_wNNN (by omega) (by omega) (by omega) (by omega)) ?_
      refine EV.p0_eq r_X11_kind_33 (fun h33 => ?_) (fun h33 => ?_)
      · -- 33 t
        refine EV.o r_X11_kind_50 (icN (0) (v := 0)) ?_
        refine EV.o r_X11_kind_51 (icN (1) (v := 1)) ?_
        refine EV.o r_X11_kind_52 (icN (1) (v := 1)) ?_
        omega
      · -- 33 f
        refine EV.l (lv' := [(0, _), (1, _), (2, _), (3, _), (4, _)]) r_X11_kind_36 rfl ?_
        refine EV.o r_X11_kind_38 (icN (0) (v := 0)) ?_
        refine EV.o r_X11_kind_39 (icN (1) (v := 1)) ?_
        refine EV.cv r_X11_kind_40 (aS3 mt_170) (m_wNNN (by omega) (by omega) (by omega) (by omega)) ?_
        refine EV.p0_eq r_X11_kind_43 (fun h43 => ?_) (fun h43 => ?_)
        · -- 43 t
          refine EV.o r_X11_kind_50 (icN (0) (v := 0)) ?_
          refine EV.o r_X11_kind_51 (icN (1) (v := 1)) ?_
          refine EV.o r_X11_kind_52 (icN (1) (v := 1)) ?_
          omega
        · -- 43 f
          refine EV.o r_X11_kind_46 (icN (1) (v := 1)) ?_
          refine EV.g r_X11_kind_47 ?_
          refine EV.o r_X11_kind_51 (icN (1) (v := 1)) ?_
          refine EV.o r_X11_kind_52 (icN (1) (v := 1)) ?_
          refine EV.cv r_X11_kind_53 (aV3 mt_169 la_106) (m_mayN wr_same (by omega)) ?_
          refine EV.n0_ne r_X11_kind_56 (fun h56 => ?_) (fun h56 => ?_)
          · -- 56 t
            refine EV.o r_X11_kind_61 (icN (0) (v := 0)) ?_
            refine EV.l (lv' := [(0, _), (1, _), (2, _), (3, _), (4, _), (5, _)]) r_X11_kind_62 rfl ?_
            have L64 : ∀ y_ : Nat × (Nat → Nat → Int64), (fun y => (y.1 ≤ 14 ∧ (∀ o, o ≠ 133 → y.2 o = J o) ∧ ∀ j, j < y.1 → y.2 133 j = nL (kk q 0 j)) → EV none M_X11_kind d' 64 [(0, .ref 106), (1, .int (nI n)), (2, .int (nI k)), (3, .int (nI q)), (4, .int (nI 1)), (5, .int (nI y.1))] [] (hp (wr I 106 0 (nI 0)) y.2) (QLI (fun v I' J' => v = nL (16 ^ n / kdG n k q) ∧ I' = wr I 106 0 (nI 0) ∧ ∀ o, o ≠ 133 → J' o = J o))) y_ := by
              refine ev_loop (fun y => 14 - y.1) ?_
              intro ⟨i, J1⟩ ih64 hx64
              try dsimp only at ih64
              try dsimp only at hx64
              try dsimp only
              refine EV.l (lv' := [(0, _), (1, _), (2, _), (3, _), (4, _), (5, _)]) r_X11_kind_64 rfl ?_
              refine EV.o r_X11_kind_66 (bpN (14) 14) ?_
              refine EV.n2_ge r_X11_kind_68 (fun h68 => ?_) (fun h68 => ?_)
              · -- 68 t
                refine EV.o r_X11_kind_94 lc1 ?_
                refine EV.l (lv' := [(0, _), (1, _), (2, _), (3, _), (4, _), (5, _)]) r_X11_kind_95 rfl ?_
                refine EV.o r_X11_kind_97 (icN (0) (v := 0)) ?_
                refine EV.l (lv' := [(0, _), (1, _), (2, _), (3, _), (4, _), (5, _), (7, _)]) r_X11_kind_98 rfl ?_
                have L100 : ∀ y_ : Nat × (Nat → Nat → Int64), (fun y => (y.1 ≤ n ∧ (∀ o, o ≠ 133 → y.2 o = J o) ∧ ∀ j, j < 14 → y.2 133 j = nL (kk q y.1 j)) → EV none M_X11_kind d' 100 [(0, .ref 106), (1, .int (nI n)), (2, .int (nI k)), (3, .int (nI q)), (4, .int (nI 1)), (5, .long (nL (16 ^ y.1))), (7, .int (nI y.1))] [] (hp (wr I 106 0 (nI 0)) y.2) (QLI (fun v I' J' => v = nL (16 ^ n / kdG n k q) ∧ I' = wr I 106 0 (nI 0) ∧ ∀ o, o ≠ 133 → J' o = J o))) y_ := by
                  refine ev_loop (fun y => n - y.1) ?_
                  intro ⟨t, J3⟩ ih100 hx100
                  try dsimp only at ih100
                  try dsimp only at hx100
                  try dsimp only
                  refine EV.l (lv' := [(0, _), (1, _), (2, _), (3, _), (4, _), (5, _), (7, _)]) r_X11_kind_100 rfl ?_
                  refine EV.l (lv' := [(0, _), (1, _), (2, _), (3, _), (4, _), (5, _), (7, _)]) r_X11_kind_102 rfl ?_
                  refine EV.n2_ge r_X11_kind_103 (fun h103 => ?_) (fun h103 => ?_)
                  · -- 103 t
                    have tn : t = n := by omega
                    have kn : ∀ j, j < 14 → J3 133 j = nL (kk q n j) := by rw [← tn]; exact hx100.2.2
                    rw [show 16 ^ t = 16 ^ n from by rw [tn]]
                    refine EV.o r_X11_kind_177 lc0 ?_
                    refine EV.l (lv' := [(0, _), (1, _), (2, _), (3, _), (4, _), (5, _), (7, _)]) r_X11_kind_178 rfl ?_
                    refine EV.l (lv' := [(0, _), (1, _), (2, _), (3, _), (4, _), (5, _), (7, _)]) r_X11_kind_180 rfl ?_
                    refine EV.l (lv' := [(0, _), (1, _), (2, _), (3, _), (4, _), (5, _), (7, _), (9, _)]) r_X11_kind_181 rfl ?_
                    have L183 : ∀ y_ : Nat, (fun u => u ≤ 14 - k → EV none M_X11_kind d' 183 [(0, .ref 106), (1, .int (nI n)), (2, .int (nI k)), (3, .int (nI q)), (4, .int (nI 1)), (5, .long (nL (16 ^ n))), (7, .long (nL (kks q n k u))), (9, .int (nI (k + u)))] [] (hp (wr I 106 0 (nI 0)) J3) (QLI (fun v I' J' => v = nL (16 ^ n / kdG n k q) ∧ I' = wr I 106 0 (nI 0) ∧ ∀ o, o ≠ 133 → J' o = J o))) y_ := by
                      refine ev_loop (fun u => 14 - k - u) ?_
                      intro u ih183 hx183
                      try dsimp only at ih183
                      try dsimp only at hx183
                      try dsimp only
                      refine EV.l (lv' := [(0, _), (1, _), (2, _), (3, _), (4, _), (5, _), (7, _), (9, _)]) r_X11_kind_183 rfl ?_
                      refine EV.o r_X11_kind_185 (bpN (14) 14) ?_
                      refine EV.n2_ge r_X11_kind_187 (fun h187 => ?_) (fun h187 => ?_)
                      · -- 187 t
                        rw [show kks q n k u = kdA n k q from by rw [show u = 14 - k by omega]; exact kks_e hn]
                        refine EV.l (lv' := [(0, _), (1, _), (2, _), (3, _), (4, _), (5, _), (7, _), (9, _)]) r_X11_kind_208 rfl ?_
                        refine EV.l (lv' := [(0, _), (1, _), (2, _), (3, _), (4, _), (5, _), (7, _), (9, _)]) r_X11_kind_210 rfl ?_
                        refine EV.l (lv' := [(0, _), (1, _), (2, _), (3, _), (4, _), (5, _), (7, _), (9, _)]) r_X11_kind_212 rfl ?_
                        refine EV.clv r_X11_kind_214 (aS3 mt_256) (m_least1 (kdA_b hn hq) (by omega) p0 (by omega)) ?_
                        exact EV.rli r_X11_kind_217 (⟨rfl, rfl, hx100.2.1⟩)
                      · -- 187 f
                        refine EV.l (lv' := [(0, _), (1, _), (2, _), (3, _), (4, _), (5, _), (7, _), (9, _)]) r_X11_kind_190 rfl ?_
                        refine EV.l (lv' := [(0, _), (1, _), (2, _), (3, _), (4, _), (5, _), (7, _), (9, _)]) r_X11_kind_192 rfl ?_
                        refine EV.gR r_X11_kind_193 la_106 ?_
                        refine EV.l (lv' := [(0, _), (1, _), (2, _), (3, _), (4, _), (5, _), (7, _), (9, _)]) r_X11_kind_196 rfl ?_
                        refine EV.laN r_X11_kind_198 la_133 (kn _ (by omega)) ?_
                        refine EV.o r_X11_kind_199 laddN ?_
                        refine EV.l (lv' := [(0, _), (1, _), (2, _), (3, _), (4, _), (5, _), (7, _), (9, _)]) r_X11_kind_200 rfl ?_
                        refine EV.l (lv' := [(0, _), (1, _), (2, _), (3, _), (4, _), (5, _), (7, _), (9, _)]) r_X11_kind_202 rfl ?_
                        rw [inc_nI]
                        refine EV.g r_X11_kind_205 ?_
                        refine EV.sub ?_ rfl ?_ (ih183 (u + 1) ?_ ?_)
                        · rfl
                        · rfl
                        · omega
                        · omega
                    have h0 := L183 (0)
                    try dsimp only at h0
                    refine EV.sub ?_ rfl ?_ (h0 ?_)
                    · rfl
                    · rfl
                    · omega
                  · -- 103 f
                    refine EV.o r_X11_kind_106 (bpN (13) 13) ?_
                    refine EV.l (lv' := [(0, _), (1, _), (2, _), (3, _), (4, _), (5, _), (7, _), (8, _)]) r_X11_kind_108 rfl ?_
                    have L110 : ∀ y_ : Nat × (Nat → Nat → Int64), (fun y => (y.1 ≤ 14 ∧ (∀ o, o ≠ 133 → y.2 o = J o) ∧ (∀ j, j < y.1 → y.2 133 j = nL (kk q t j)) ∧ ∀ j, y.1 ≤ j → j < 14 → y.2 133 j = nL (kk q (t + 1) j)) → EV none M_X11_kind d' 110 [(0, .ref 106), (1, .int (nI n)), (2, .int (nI k)), (3, .int (nI q)), (4, .int (nI 1)), (5, .long (nL (16 ^ t))), (7, .int (nI t)), (8, .int (zI ((y.1 : Int) - 1)))] [] (hp (wr I 106 0 (nI 0)) y.2) (QLI (fun v I' J' => v = nL (16 ^ n / kdG n k q) ∧ I' = wr I 106 0 (nI 0) ∧ ∀ o, o ≠ 133 → J' o = J o))) y_ := by
                      refine ev_loop (fun y => y.1) ?_
                      intro ⟨m, J4⟩ ih110 hx110
                      try dsimp only at ih110
                      try dsimp only at hx110
                      try dsimp only
                      refine EV.l (lv' := [(0, _), (1, _), (2, _), (3, _), (4, _), (5, _), (7, _), (8, _)]) r_X11_kind_110 rfl ?_
                      refine EV.z0_lt r_X11_kind_112 (fun h112 => ?_) (fun h112 => ?_)
                      · -- 112 t
                        have m0 : m = 0 := by omega
                        refine EV.l (lv' := [(0, _), (1, _), (2, _), (3, _), (4, _), (5, _), (7, _), (8, _)]) r_X11_kind_163 rfl ?_
                        refine EV.lc2 r_X11_kind_165 ?_
                        refine EV.o r_X11_kind_168 lmulN ?_
                        refine EV.l (lv' := [(0, _), (1, _), (2, _), (3, _), (4, _), (5, _), (7, _), (8, _)]) r_X11_kind_169 rfl ?_
                        refine EV.l (lv' := [(0, _), (1, _), (2, _), (3, _), (4, _), (5, _), (7, _), (8, _)]) r_X11_kind_171 rfl ?_
                        rw [inc_nI]
                        refine EV.g r_X11_kind_174 ?_
                        refine EV.fg (lv' := [(0, _), (1, _), (2, _), (3, _), (4, _), (5, _), (7, _)]) r_X11_kind_100 rfl rfl rfl ?_
                        refine EV.sub ?_ rfl ?_ (ih100 (t + 1, J4) ?_ ?_)
                        · (try dsimp only) <;> (rfl)
                        · (try dsimp only) <;> (rfl)
                        · (try dsimp only) <;> (omega)
                        · (try dsimp only) <;> (exact ⟨by omega, hx110.2.1, fun j hj => hx110.2.2.2 j (by omega) hj⟩)
                      · -- 112 f
                        rw [show zI ((m : Int) - 1) = nI (m - 1) from by rw [← zI_nat]; congr 1; omega]
                        refine EV.l (lv' := [(0, _), (1, _), (2, _), (3, _), (4, _), (5, _), (7, _), (8, _)]) r_X11_kind_115 rfl ?_
                        refine EV.gR r_X11_kind_116 la_106 ?_
                        refine EV.l (lv' := [(0, _), (1, _), (2, _), (3, _), (4, _), (5, _), (7, _), (8, _)]) r_X11_kind_119 rfl ?_
                        refine EV.l (lv' := [(0, _), (1, _), (2, _), (3, _), (4, _), (5, _), (7, _), (8, _)]) r_X11_kind_121 rfl ?_
                        refine EV.gR r_X11_kind_122 la_106 ?_
                        refine EV.l (lv' := [(0, _), (1, _), (2, _), (3, _), (4, _), (5, _), (7, _), (8, _)]) r_X11_kind_125 rfl ?_
                        refine EV.laN r_X11_kind_127 la_133 (hx110.2.2.1 (m - 1) (by omega)) ?_
                        refine EV.o r_X11_kind_128 (bpN (16) 16) ?_
                        refine EV.l (lv' := [(0, _), (1, _), (2, _), (3, _), (4, _), (5, _), (7, _), (8, _)]) r_X11_kind_130 rfl ?_
                        refine EV.o r_X11_kind_131 (isubN) ?_
                        refine EV.o r_X11_kind_132 (i2lN) ?_
                        refine EV.o r_X11_kind_133 lmulN ?_
                        refine EV.l (lv' := [(0, _), (1, _), (2, _), (3, _), (4, _), (5, _), (7, _), (8, _)]) r_X11_kind_134 rfl ?_
                        refine EV.n0_le r_X11_kind_136 (fun h136 => ?_) (fun h136 => ?_)
                        · -- 136 t
                          refine EV.o r_X11_kind_154 lc0 ?_
                          refine EV.o r_X11_kind_155 laddN ?_
                          refine EV.laSn r_X11_kind_156 la_133 (fun J5 e5 => ?_)
                          refine EV.l (lv' := [(0, _), (1, _), (2, _), (3, _), (4, _), (5, _), (7, _), (8, _)]) r_X11_kind_157 rfl ?_
                          rw [dec_nZ]
                          refine EV.g r_X11_kind_160 ?_
                          refine EV.sub ?_ rfl ?_ (ih110 (m - 1, J5) ?_ ?_)
                          · (try dsimp only) <;> (rfl)
                          · (try dsimp only) <;> (rfl)
                          · (try dsimp only) <;> (omega)
                          · (try dsimp only) <;> (subst e5; exact ⟨by omega, fun o h1 => (wr_row h1).trans (hx110.2.1 o h1), kk_step (by omega) hx110.2.2.1 hx110.2.2.2 (by first | rw [if_pos (by omega)] | rw [if_neg (by omega)])⟩)
                        · -- 136 f
                          refine EV.l (lv' := [(0, _), (1, _), (2, _), (3, _), (4, _), (5, _), (7, _), (8, _)]) r_X11_kind_139 rfl ?_
                          refine EV.gR r_X11_kind_140 la_106 ?_
                          refine EV.l (lv' := [(0, _), (1, _), (2, _), (3, _), (4, _), (5, _), (7, _), (8, _)]) r_X11_kind_143 rfl ?_
                          refine EV.o r_X11_kind_145 (icN (1) (v := 1)) ?_
                          refine EV.o r_X11_kind_146 (isubN) ?_
                          refine EV.laN r_X11_kind_147 la_133 (hx110.2.2.1 (m - 1 - 1) (by omega)) ?_
                          refine EV.l (lv' := [(0, _), (1, _), (2, _), (3, _), (4, _), (5, _), (7, _), (8, _)]) r_X11_kind_148 rfl ?_
                          refine EV.o r_X11_kind_149 (i2lN) ?_
                          refine EV.o r_X11_kind_150 lmulN ?_
                          refine EV.g r_X11_kind_151 ?_
                          refine EV.o r_X11_kind_155 laddN ?_
                          refine EV.laSn r_X11_kind_156 la_133 (fun J5 e5 => ?_)
                          refine EV.l (lv' := [(0, _), (1, _), (2, _), (3, _), (4, _), (5, _), (7, _), (8, _)]) r_X11_kind_157 rfl ?_
                          rw [dec_nZ]
                          refine EV.g r_X11_kind_160 ?_
                          refine EV.sub ?_ rfl ?_ (ih110 (m - 1, J5) ?_ ?_)
                          · (try dsimp only) <;> (rfl)
                          · (try dsimp only) <;> (rfl)
                          · (try dsimp only) <;> (omega)
                          · (try dsimp only) <;> (subst e5; exact ⟨by omega, fun o h1 => (wr_row h1).trans (hx110.2.1 o h1), kk_step (by omega) hx110.2.2.1 hx110.2.2.2 (by first | rw [if_pos (by omega)] | rw [if_neg (by omega)])⟩)
                    have h0 := L110 ((14, J3))
                    try dsimp only at h0
                    refine EV.sub ?_ rfl ?_ (h0 ?_)
                    · (try dsimp only) <;> (rfl)
                    · (try dsimp only) <;> (rfl)
                    · (try dsimp only) <;> (exact ⟨by omega, hx100.2.1, hx100.2.2, fun j hj hj2 => absurd hj2 (by omega)⟩)
                have h0 := L100 ((0, J1))
                try dsimp only at h0
                refine EV.sub ?_ rfl ?_ (h0 ?_)
                · (try dsimp only) <;> (rfl)
                · (try dsimp only) <;> (rfl)
                · (try dsimp only) <;> (exact ⟨by omega, hx64.2.1, fun j hj => hx64.2.2 j (by omega)⟩)
              · -- 68 f
                refine EV.l (lv' := [(0, _), (1, _), (2, _), (3, _), (4, _), (5, _)]) r_X11_kind_71 rfl ?_
                refine EV.gR r_X11_kind_72 la_106 ?_
                refine EV.l (lv' := [(0, _), (1, _), (2, _), (3, _), (4, _), (5, _)]) r_X11_kind_75 rfl ?_
                refine EV.l (lv' := [(0, _), (1, _), (2, _), (3, _), (4, _), (5, _)]) r_X11_kind_77 rfl ?_
                refine EV.n0_ne r_X11_kind_79 (fun h79 => ?_) (fun h79 => ?_)
                · -- 79 t
                  refine EV.o r_X11_kind_86 lc0 ?_
                  refine EV.laSn r_X11_kind_87 la_133 (fun J2 e2 => ?_)
                  refine EV.l (lv' := [(0, _), (1, _), (2, _), (3, _), (4, _), (5, _)]) r_X11_kind_88 rfl ?_
                  rw [inc_nI]
                  refine EV.g r_X11_kind_91 ?_
                  refine EV.sub ?_ rfl ?_ (ih64 (i + 1, J2) ?_ ?_)
                  · (try dsimp only) <;> (rfl)
                  · (try dsimp only) <;> (rfl)
                  · (try dsimp only) <;> (omega)
                  · (try dsimp only) <;> (subst e2; exact ⟨by omega, fun o h1 => (wr_row h1).trans (hx64.2.1 o h1), kk_fill hx64.2.2 (by unfold kk; first | rw [if_pos (by omega)] | rw [if_neg (by omega)])⟩)
                · -- 79 f
                  refine EV.o r_X11_kind_82 lc1 ?_
                  refine EV.g r_X11_kind_83 ?_
                  refine EV.laSn r_X11_kind_87 la_133 (fun J2 e2 => ?_)
                  refine EV.l (lv' := [(0, _), (1, _), (2, _), (3, _), (4, _), (5, _)]) r_X11_kind_88 rfl ?_
                  rw [inc_nI]
                  refine EV.g r_X11_kind_91 ?_
                  refine EV.sub ?_ rfl ?_ (ih64 (i + 1, J2) ?_ ?_)
                  · (try dsimp only) <;> (rfl)
                  · (try dsimp only) <;> (rfl)
                  · (try dsimp only) <;> (omega)
                  · (try dsimp only) <;> (subst e2; exact ⟨by omega, fun o h1 => (wr_row h1).trans (hx64.2.1 o h1), kk_fill hx64.2.2 (by unfold kk; first | rw [if_pos (by omega)] | rw [if_neg (by omega)])⟩)
            have h0 := L64 ((0, J))
            try dsimp only at h0
            refine EV.sub ?_ rfl ?_ (h0 ?_)
            · (try dsimp only) <;> (rfl)
            · (try dsimp only) <;> (rfl)
            · (try dsimp only) <;> (exact ⟨by omega, fun _ _ => rfl, fun j hj => absurd hj (Nat.not_lt_zero j)⟩)
          · omega
