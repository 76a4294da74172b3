/-! (goes on) -/
theorem c_span1 {d : Nat} {I : Nat → Nat → Int32} {J : Nat → Nat → Int64} {κ : CT} {l : LW} {η : HS} (hc_ : HC 4 κ I) (cb : CB κ) (hh : HH 71 η I) (ho : hOk κ l η η.mi) (h4 : η.mi ≤ 400) (hl : HL 46 l I) (lb : LB l) {s : Int32} {q n : Nat} (hq : q ≤ 16) (h1 : 1 ≤ n) (h2 : n ≤ 48) {m x : Nat} (hm : 1 ≤ m) (hm2 : m ≤ 10) (hx : x < κ.ns)  (hd : 13 ≤ d) : RI d 151 [.ref 0, .int s, .int (nI m), .int (nI q), .int (nI n), .int (nI 1), .int (nI x)] I J (fun v I' => v = zI (spM κ l q n s η m) ∧ FR I I') := by
  refine RI.in (d0 := 12) hd mt_151 (Nat.le_of_ble_eq_true rfl) (fun d' hd' => ?_)
  have bns := cb.ns; have bnb := cb.nb; have bnc := cb.nc; have bnr := cb.nr
  show EV none M_X10_span d' 0 [(0, .ref 0), (1, .int s), (2, .int (nI m)), (3, .int (nI q)), (4, .int (nI n)), (5, .int (nI 1)), (6, .int (nI x))] [] (hp I J) _
  refine EV.l (lv' := [(0, _), (1, _), (2, _), (3, _), (4, _), (5, _), (6, _)]) r_X10_span_0 rfl ?_
  refine EV.l (lv' := [(0, _), (1, _), (2, _), (3, _), (4, _), (5, _), (6, _)]) r_X10_span_1 rfl ?_
  refine EV.l (lv' := [(0, _), (1, _), (2, _), (3, _), (4, _), (5, _), (6, _)]) r_X10_span_2 rfl ?_
  refine EV.cu r_X10_span_4 (aV2 mt_157 la_0) (c_chkT1 hq h1 h2 (by omega)) (fun I2 e2 => ?_)
  have e2 := e2.symm; subst e2
  refine EV.l (lv' := [(0, _), (1, _), (2, _), (3, _), (4, _), (5, _), (6, _)]) r_X10_span_7 rfl ?_
  refine EV.l (lv' := [(0, _), (1, _), (2, _), (3, _), (4, _), (5, _), (6, _)]) r_X10_span_8 rfl ?_
  refine EV.o r_X10_span_9 (icN (1) (v := 1)) ?_
  refine EV.n2_lt r_X10_span_10 (fun h10 => ?_) (fun h10 => ?_)
  · -- 10 t
    refine EV.o r_X10_span_34 (icN (0) (v := 0)) ?_
    omega
  · -- 10 f
    refine EV.l (lv' := [(0, _), (1, _), (2, _), (3, _), (4, _), (5, _), (6, _)]) r_X10_span_13 rfl ?_
    refine EV.o r_X10_span_14 (bpN (10) 10) ?_
    refine EV.n2_gt r_X10_span_16 (fun h16 => ?_) (fun h16 => ?_)
    · -- 16 t
      refine EV.o r_X10_span_34 (icN (0) (v := 0)) ?_
      omega
    · -- 16 f
      refine EV.l (lv' := [(0, _), (1, _), (2, _), (3, _), (4, _), (5, _), (6, _)]) r_X10_span_19 rfl ?_
      refine EV.n0_lt r_X10_span_21 (fun h21 => ?_) (fun h21 => ?_)
      · omega
      · -- 21 f
        refine EV.l (lv' := [(0, _), (1, _), (2, _), (3, _), (4, _), (5, _), (6, _)]) r_X10_span_24 rfl ?_
        refine EV.o r_X10_span_26 (icN (2) (v := 2)) ?_
        refine EV.n2_gt r_X10_span_27 (fun h27 => ?_) (fun h27 => ?_)
        · omega
        · -- 27 f
          refine EV.o r_X10_span_30 (icN (1) (v := 1)) ?_
          refine EV.g r_X10_span_31 ?_
          refine EV.cu r_X10_span_35 (aV1 mt_159 la_0) (c_arg1 (by omega)) (fun I2 e2 => ?_)
          have e2 := e2.symm; subst e2
          refine EV.l (lv' := [(0, _), (1, _), (2, _), (3, _), (4, _), (5, _), (6, _)]) r_X10_span_38 rfl ?_
          refine EV.l (lv' := [(0, _), (1, _), (2, _), (3, _), (4, _), (5, _), (6, _)]) r_X10_span_39 rfl ?_
          refine EV.n0_lt r_X10_span_41 (fun h41 => ?_) (fun h41 => ?_)
          · -- 41 t
            refine EV.o r_X10_span_60 (icN (0) (v := 0)) ?_
            omega
          · -- 41 f
            refine EV.l (lv' := [(0, _), (1, _), (2, _), (3, _), (4, _), (5, _), (6, _)]) r_X10_span_44 rfl ?_
            refine EV.l (lv' := [(0, _), (1, _), (2, _), (3, _), (4, _), (5, _), (6, _)]) r_X10_span_46 rfl ?_
            refine EV.gR r_X10_span_47 la_0 ?_
            refine EV.getV r_X10_span_50 la_4 (hc_.ns) ?_
            refine EV.n2_ge r_X10_span_53 (fun h53 => ?_) (fun h53 => ?_)
            · -- 53 t
              refine EV.o r_X10_span_60 (icN (0) (v := 0)) ?_
              omega
            · -- 53 f
              refine EV.o r_X10_span_56 (icN (1) (v := 1)) ?_
              refine EV.g r_X10_span_57 ?_
              refine EV.cu r_X10_span_61 (aV1 mt_159 la_0) (c_arg1 (by omega)) (fun I2 e2 => ?_)
              have e2 := e2.symm; subst e2
              refine EV.o r_X10_span_64 (icN (0) (v := 0)) ?_
              refine EV.l (lv' := [(0, _), (1, _), (2, _), (3, _), (4, _), (5, _), (6, _), (7, _)]) r_X10_span_65 rfl ?_
              refine EV.o r_X10_span_67 (icN (0) (v := 0)) ?_
              refine EV.l (lv' := [(0, _), (1, _), (2, _), (3, _), (4, _), (5, _), (6, _), (7, _), (8, _)]) r_X10_span_68 rfl ?_
              refine EV.o r_X10_span_70 (icN (0) (v := 0)) ?_
              refine EV.l (lv' := [(0, _), (1, _), (2, _), (3, _), (4, _), (5, _), (6, _), (7, _), (8, _), (9, _)]) r_X10_span_71 rfl ?_
              refine EV.o r_X10_span_73 (icN (0) (v := 0)) ?_
              refine EV.l (lv' := [(0, _), (1, _), (2, _), (3, _), (4, _), (5, _), (6, _), (7, _), (8, _), (9, _), (10, _)]) r_X10_span_74 rfl ?_
              have L76 : ∀ y_ : Nat × (Nat → Nat → Int32), (fun y => (y.1 ≤ m ∧ ∀ x, x ≠ 50 → x ≠ 52 → (x < 94 ∨ 105 < x) → y.2 x = I x) → EV none M_X10_span d' 76 [(0, .ref 0), (1, .int s), (2, .int (nI m)), (3, .int (nI q)), (4, .int (nI n)), (5, .int (nI 1)), (6, .int (nI x)), (7, .int (zI (spL κ l q n s η y.1))), (8, .int (zI (spM κ l q n s η y.1))), (9, .int (nI (spC κ l q n s η x y.1))), (10, .int (nI y.1))] [] (hp y.2 J) (QI J (fun v I' => v = zI (spM κ l q n s η m) ∧ FR I I'))) y_ := by
                refine ev_loop (fun y => m - y.1) ?_
                intro ⟨i, I1⟩ ih76 hx76
                try dsimp only at ih76
                try dsimp only at hx76
                try dsimp only
                obtain ⟨il, fx⟩ := hx76
                have hcx : HC 4 κ I1 := hc_.fr (fun x a1 a2 => fx x (by omega) (by omega) (by omega))
                have hhx : HH 71 η I1 := hh.fr (fun x a1 a2 => fx x (by omega) (by omega) (by omega))
                have hlx : HL 46 l I1 := hl.fr (fx 46 (by decide) (by decide) (by omega)) (fx 48 (by decide) (by decide) (by omega))
                have bl := spL_b (l := l) (q := q) (n := n) (s := s) (η := η) cb i; have bM := spM_b (l := l) (q := q) (n := n) (s := s) (η := η) cb i
                refine EV.l (lv' := [(0, _), (1, _), (2, _), (3, _), (4, _), (5, _), (6, _), (7, _), (8, _), (9, _), (10, _)]) r_X10_span_76 rfl ?_
                refine EV.l (lv' := [(0, _), (1, _), (2, _), (3, _), (4, _), (5, _), (6, _), (7, _), (8, _), (9, _), (10, _)]) r_X10_span_78 rfl ?_
                refine EV.n2_ge r_X10_span_79 (fun h79 => ?_) (fun h79 => ?_)
                · -- 79 t
                  obtain rfl : i = m := by omega
                  refine EV.l (lv' := [(0, _), (1, _), (2, _), (3, _), (4, _), (5, _), (6, _), (7, _), (8, _), (9, _), (10, _)]) r_X10_span_192 rfl ?_
                  refine EV.n0_ne r_X10_span_194 (fun h194 => ?_) (fun h194 => ?_)
                  · -- 194 t
                    refine EV.l (lv' := [(0, _), (1, _), (2, _), (3, _), (4, _), (5, _), (6, _), (7, _), (8, _), (9, _), (10, _)]) r_X10_span_202 rfl ?_
                    refine EV.o r_X10_span_204 (icN (1) (v := 1)) ?_
                    refine EV.n2_ne r_X10_span_205 (fun h205 => ?_) (fun h205 => ?_)
                    · omega
                    · -- 205 f
                      refine EV.l (lv' := [(0, _), (1, _), (2, _), (3, _), (4, _), (5, _), (6, _), (7, _), (8, _), (9, _), (10, _)]) r_X10_span_208 rfl ?_
                      refine EV.g r_X10_span_210 ?_
                      exact EV.ri r_X10_span_215 (⟨rfl, FR.tm fx⟩)
                  · omega
                · -- 79 f
                  refine EV.l (lv' := [(0, _), (1, _), (2, _), (3, _), (4, _), (5, _), (6, _), (7, _), (8, _), (9, _), (10, _)]) r_X10_span_82 rfl ?_
                  refine EV.gR r_X10_span_83 la_0 ?_
                  refine EV.l (lv' := [(0, _), (1, _), (2, _), (3, _), (4, _), (5, _), (6, _), (7, _), (8, _), (9, _), (10, _)]) r_X10_span_86 rfl ?_
                  refine EV.gR r_X10_span_87 la_0 ?_
                  refine EV.l (lv' := [(0, _), (1, _), (2, _), (3, _), (4, _), (5, _), (6, _), (7, _), (8, _), (9, _), (10, _)]) r_X10_span_90 rfl ?_
                  refine EV.l (lv' := [(0, _), (1, _), (2, _), (3, _), (4, _), (5, _), (6, _), (7, _), (8, _), (9, _), (10, _)]) r_X10_span_91 rfl ?_
                  refine EV.o r_X10_span_93 rfl ?_
                  refine EV.l (lv' := [(0, _), (1, _), (2, _), (3, _), (4, _), (5, _), (6, _), (7, _), (8, _), (9, _), (10, _)]) r_X10_span_94 rfl ?_
                  refine EV.l (lv' := [(0, _), (1, _), (2, _), (3, _), (4, _), (5, _), (6, _), (7, _), (8, _), (9, _), (10, _)]) r_X10_span_95 rfl ?_
                  refine EV.cu r_X10_span_97 (aV4 mt_109 la_94) (c_play hcx cb hhx ho h4 hlx lb (s := (s + nI i)) hq h2 (by omega)) (fun I3 h3 => ?_)
                  obtain ⟨hh3, fr3⟩ := h3
                  have hc3 : HC 4 κ I3 := hcx.fr (fun x a1 a2 => fr3 x (by omega) (by omega) (by omega))
                  have hw3 : HW κ (trm κ l q ((s + nI i), η) n).2 := (trm_ok (q := q) (p := ((s + nI i), η)) ho h4 n h2).2.1.hw; have hb3 : HB κ (trm κ l q ((s + nI i), η) n).2 := (trm_ok (q := q) (p := ((s + nI i), η)) ho h4 n h2).1; have bm3 := hb3.mi
                  have lbv := lean_b cb (heard κ (trm κ l q (s + nI i, η) n).2 (trm κ l q (s + nI i, η) n).2.mi)
                  refine EV.l (lv' := [(0, _), (1, _), (2, _), (3, _), (4, _), (5, _), (6, _), (7, _), (8, _), (9, _), (10, _)]) r_X10_span_100 rfl ?_
                  refine EV.gR r_X10_span_101 la_0 ?_
                  refine EV.gR r_X10_span_104 la_94 ?_
                  refine EV.l (lv' := [(0, _), (1, _), (2, _), (3, _), (4, _), (5, _), (6, _), (7, _), (8, _), (9, _), (10, _), (11, _)]) r_X10_span_107 rfl ?_
                  refine EV.l (lv' := [(0, _), (1, _), (2, _), (3, _), (4, _), (5, _), (6, _), (7, _), (8, _), (9, _), (10, _), (11, _)]) r_X10_span_109 rfl ?_
                  refine EV.gR r_X10_span_110 la_0 ?_
                  refine EV.l (lv' := [(0, _), (1, _), (2, _), (3, _), (4, _), (5, _), (6, _), (7, _), (8, _), (9, _), (10, _), (11, _)]) r_X10_span_113 rfl ?_
                  refine EV.l (lv' := [(0, _), (1, _), (2, _), (3, _), (4, _), (5, _), (6, _), (7, _), (8, _), (9, _), (10, _), (11, _)]) r_X10_span_115 rfl ?_
                  refine EV.getV r_X10_span_117 la_95 (hh3.mi) ?_
                  refine EV.cv r_X10_span_120 (aV1 mt_38 la_95) (c95_heard hc3 cb hh3 hb3 hw3 (by omega) (by omega)) ?_
                  refine EV.cv r_X10_span_123 (aV1 mt_22 la_4) (b_lean hc3 cb (heard_lt _) (by omega)) ?_
                  change EV _ _ _ _ _ (.int (zI (spV κ l q n s η i)) :: _) _ _
                  have lv_ : -540 ≤ spV κ l q n s η i ∧ spV κ l q n s η i ≤ 540 := lbv
                  refine EV.l (lv' := [(0, _), (1, _), (2, _), (3, _), (4, _), (5, _), (6, _), (7, _), (8, _), (9, _), (10, _), (11, _), (12, _)]) r_X10_span_126 rfl ?_
                  refine EV.l (lv' := [(0, _), (1, _), (2, _), (3, _), (4, _), (5, _), (6, _), (7, _), (8, _), (9, _), (10, _), (11, _), (12, _)]) r_X10_span_128 rfl ?_
                  refine EV.n0_ne r_X10_span_130 (fun h130 => ?_) (fun h130 => ?_)
                  · -- 130 t
                    refine EV.l (lv' := [(0, _), (1, _), (2, _), (3, _), (4, _), (5, _), (6, _), (7, _), (8, _), (9, _), (10, _), (11, _), (12, _)]) r_X10_span_138 rfl ?_
                    refine EV.l (lv' := [(0, _), (1, _), (2, _), (3, _), (4, _), (5, _), (6, _), (7, _), (8, _), (9, _), (10, _), (11, _), (12, _)]) r_X10_span_140 rfl ?_
                    refine EV.pminZ r_X10_span_142 ?_
                    refine EV.l (lv' := [(0, _), (1, _), (2, _), (3, _), (4, _), (5, _), (6, _), (7, _), (8, _), (9, _), (10, _), (11, _), (12, _)]) r_X10_span_145 rfl ?_
                    refine EV.l (lv' := [(0, _), (1, _), (2, _), (3, _), (4, _), (5, _), (6, _), (7, _), (8, _), (9, _), (10, _), (11, _), (12, _)]) r_X10_span_147 rfl ?_
                    refine EV.n0_ne r_X10_span_149 (fun h149 => ?_) (fun h149 => ?_)
                    · -- 149 t
                      refine EV.l (lv' := [(0, _), (1, _), (2, _), (3, _), (4, _), (5, _), (6, _), (7, _), (8, _), (9, _), (10, _), (11, _), (12, _)]) r_X10_span_157 rfl ?_
                      refine EV.l (lv' := [(0, _), (1, _), (2, _), (3, _), (4, _), (5, _), (6, _), (7, _), (8, _), (9, _), (10, _), (11, _), (12, _)]) r_X10_span_159 rfl ?_
                      refine EV.pmaxZ r_X10_span_161 ?_
                      refine EV.l (lv' := [(0, _), (1, _), (2, _), (3, _), (4, _), (5, _), (6, _), (7, _), (8, _), (9, _), (10, _), (11, _), (12, _)]) r_X10_span_164 rfl ?_
                      refine EV.l (lv' := [(0, _), (1, _), (2, _), (3, _), (4, _), (5, _), (6, _), (7, _), (8, _), (9, _), (10, _), (11, _), (12, _)]) r_X10_span_166 rfl ?_
                      refine EV.l (lv' := [(0, _), (1, _), (2, _), (3, _), (4, _), (5, _), (6, _), (7, _), (8, _), (9, _), (10, _), (11, _), (12, _)]) r_X10_span_168 rfl ?_
                      refine EV.l (lv' := [(0, _), (1, _), (2, _), (3, _), (4, _), (5, _), (6, _), (7, _), (8, _), (9, _), (10, _), (11, _), (12, _)]) r_X10_span_170 rfl ?_
                      refine EV.cv r_X10_span_172 (aV1 mt_35 la_95) (c95_does hc3 cb hh3 hb3 hw3 (by omega) (by omega)) ?_
                      refine EV.b0_eq r_X10_span_175 (fun h175 => ?_) (fun h175 => ?_)
                      · -- 175 t
                        refine EV.o r_X10_span_182 (icN (0) (v := 0)) ?_
                        refine EV.o r_X10_span_183 iaddN ?_
                        refine EV.l (lv' := [(0, _), (1, _), (2, _), (3, _), (4, _), (5, _), (6, _), (7, _), (8, _), (9, _), (10, _), (11, _), (12, _)]) r_X10_span_184 rfl ?_
                        refine EV.l (lv' := [(0, _), (1, _), (2, _), (3, _), (4, _), (5, _), (6, _), (7, _), (8, _), (9, _), (10, _), (11, _), (12, _)]) r_X10_span_186 rfl ?_
                        rw [inc_nI]
                        refine EV.g r_X10_span_189 ?_
                        refine EV.fg (lv' := [(0, _), (1, _), (2, _), (3, _), (4, _), (5, _), (6, _), (7, _), (8, _), (9, _), (10, _)]) r_X10_span_76 rfl rfl rfl ?_
                        refine EV.sub ?_ rfl ?_ (ih76 (i + 1, I3) ?_ ?_)
                        · (try dsimp only) <;> (first | (exfalso; omega) | rw [spL_0 (by omega), spM_0 (by omega), spC_t (by assumption)] | rw [Nat.add_zero, spL_0 (by omega), spM_0 (by omega), spC_f (by assumption)] | rw [spL_s (by omega), spM_s (by omega), spC_t (by assumption)] | rw [Nat.add_zero, spL_s (by omega), spM_s (by omega), spC_f (by assumption)])
                        · (try dsimp only) <;> (rfl)
                        · (try dsimp only) <;> (omega)
                        · (try dsimp only) <;> (exact ⟨by omega, fun x a1 a2 a3 => (fr3 x a1 a2 a3).trans (fx x a1 a2 a3)⟩)
                      · -- 175 f
                        refine EV.o r_X10_span_178 (icN (1) (v := 1)) ?_
                        refine EV.g r_X10_span_179 ?_
                        refine EV.o r_X10_span_183 iaddN ?_
                        refine EV.l (lv' := [(0, _), (1, _), (2, _), (3, _), (4, _), (5, _), (6, _), (7, _), (8, _), (9, _), (10, _), (11, _), (12, _)]) r_X10_span_184 rfl ?_
                        refine EV.l (lv' := [(0, _), (1, _), (2, _), (3, _), (4, _), (5, _), (6, _), (7, _), (8, _), (9, _), (10, _), (11, _), (12, _)]) r_X10_span_186 rfl ?_
                        rw [inc_nI]
                        refine EV.g r_X10_span_189 ?_
                        refine EV.fg (lv' := [(0, _), (1, _), (2, _), (3, _), (4, _), (5, _), (6, _), (7, _), (8, _), (9, _), (10, _)]) r_X10_span_76 rfl rfl rfl ?_
                        refine EV.sub ?_ rfl ?_ (ih76 (i + 1, I3) ?_ ?_)
                        · (try dsimp only) <;> (first | (exfalso; omega) | rw [spL_0 (by omega), spM_0 (by omega), spC_t (by assumption)] | rw [Nat.add_zero, spL_0 (by omega), spM_0 (by omega), spC_f (by assumption)] | rw [spL_s (by omega), spM_s (by omega), spC_t (by assumption)] | rw [Nat.add_zero, spL_s (by omega), spM_s (by omega), spC_f (by assumption)])
                        · (try dsimp only) <;> (rfl)
                        · (try dsimp only) <;> (omega)
                        · (try dsimp only) <;> (exact ⟨by omega, fun x a1 a2 a3 => (fr3 x a1 a2 a3).trans (fx x a1 a2 a3)⟩)
                    · -- 149 f
                      refine EV.l (lv' := [(0, _), (1, _), (2, _), (3, _), (4, _), (5, _), (6, _), (7, _), (8, _), (9, _), (10, _), (11, _), (12, _)]) r_X10_span_152 rfl ?_
                      refine EV.g r_X10_span_154 ?_
                      refine EV.l (lv' := [(0, _), (1, _), (2, _), (3, _), (4, _), (5, _), (6, _), (7, _), (8, _), (9, _), (10, _), (11, _), (12, _)]) r_X10_span_164 rfl ?_
                      refine EV.l (lv' := [(0, _), (1, _), (2, _), (3, _), (4, _), (5, _), (6, _), (7, _), (8, _), (9, _), (10, _), (11, _), (12, _)]) r_X10_span_166 rfl ?_
                      refine EV.l (lv' := [(0, _), (1, _), (2, _), (3, _), (4, _), (5, _), (6, _), (7, _), (8, _), (9, _), (10, _), (11, _), (12, _)]) r_X10_span_168 rfl ?_
                      refine EV.l (lv' := [(0, _), (1, _), (2, _), (3, _), (4, _), (5, _), (6, _), (7, _), (8, _), (9, _), (10, _), (11, _), (12, _)]) r_X10_span_170 rfl ?_
                      refine EV.cv r_X10_span_172 (aV1 mt_35 la_95) (c95_does hc3 cb hh3 hb3 hw3 (by omega) (by omega)) ?_
                      refine EV.b0_eq r_X10_span_175 (fun h175 => ?_) (fun h175 => ?_)
                      · -- 175 t
                        refine EV.o r_X10_span_182 (icN (0) (v := 0)) ?_
                        refine EV.o r_X10_span_183 iaddN ?_
                        refine EV.l (lv' := [(0, _), (1, _), (2, _), (3, _), (4, _), (5, _), (6, _), (7, _), (8, _), (9, _), (10, _), (11, _), (12, _)]) r_X10_span_184 rfl ?_
                        refine EV.l (lv' := [(0, _), (1, _), (2, _), (3, _), (4, _), (5, _), (6, _), (7, _), (8, _), (9, _), (10, _), (11, _), (12, _)]) r_X10_span_186 rfl ?_
                        rw [inc_nI]
                        refine EV.g r_X10_span_189 ?_
                        refine EV.fg (lv' := [(0, _), (1, _), (2, _), (3, _), (4, _), (5, _), (6, _), (7, _), (8, _), (9, _), (10, _)]) r_X10_span_76 rfl rfl rfl ?_
                        refine EV.sub ?_ rfl ?_ (ih76 (i + 1, I3) ?_ ?_)
                        · (try dsimp only) <;> (first | (exfalso; omega) | rw [spL_0 (by omega), spM_0 (by omega), spC_t (by assumption)] | rw [Nat.add_zero, spL_0 (by omega), spM_0 (by omega), spC_f (by assumption)] | rw [spL_s (by omega), spM_s (by omega), spC_t (by assumption)] | rw [Nat.add_zero, spL_s (by omega), spM_s (by omega), spC_f (by assumption)])
                        · (try dsimp only) <;> (rfl)
                        · (try dsimp only) <;> (omega)
                        · (try dsimp only) <;> (exact ⟨by omega, fun x a1 a2 a3 => (fr3 x a1 a2 a3).trans (fx x a1 a2 a3)⟩)
                      · -- 175 f
                        refine EV.o r_X10_span_178 (icN (1) (v := 1)) ?_
                        refine EV.g r_X10_span_179 ?_
                        refine EV.o r_X10_span_183 iaddN ?_
                        refine EV.l (lv' := [(0, _), (1, _), (2, _), (3, _), (4, _), (5, _), (6, _), (7, _), (8, _), (9, _), (10, _), (11, _), (12, _)]) r_X10_span_184 rfl ?_
                        refine EV.l (lv' := [(0, _), (1, _), (2, _), (3, _), (4, _), (5, _), (6, _), (7, _), (8, _), (9, _), (10, _), (11, _), (12, _)]) r_X10_span_186 rfl ?_
                        rw [inc_nI]
                        refine EV.g r_X10_span_189 ?_
                        refine EV.fg (lv' := [(0, _), (1, _), (2, _), (3, _), (4, _), (5, _), (6, _), (7, _), (8, _), (9, _), (10, _)]) r_X10_span_76 rfl rfl rfl ?_
                        refine EV.sub ?_ rfl ?_ (ih76 (i + 1, I3) ?_ ?_)
                        · (try dsimp only) <;> (first | (exfalso; omega) | rw [spL_0 (by omega), spM_0 (by omega), spC_t (by assumption)] | rw [Nat.add_zero, spL_0 (by omega), spM_0 (by omega), spC_f (by assumption)] | rw [spL_s (by omega), spM_s (by omega), spC_t (by assumption)] | rw [Nat.add_zero, spL_s (by omega), spM_s (by omega), spC_f (by assumption)])
                        · (try dsimp only) <;> (rfl)
                        · (try dsimp only) <;> (omega)
                        · (try dsimp only) <;> (exact ⟨by omega, fun x a1 a2 a3 => (fr3 x a1 a2 a3).trans (fx x a1 a2 a3)⟩)
                  · -- 130 f
                    refine EV.l (lv' := [(0, _), (1, _), (2, _), (3, _), (4, _), (5, _), (6, _), (7, _), (8, _), (9, _), (10, _), (11, _), (12, _)]) r_X10_span_133 rfl ?_
                    refine EV.g r_X10_span_135 ?_
                    refine EV.l (lv' := [(0, _), (1, _), (2, _), (3, _), (4, _), (5, _), (6, _), (7, _), (8, _), (9, _), (10, _), (11, _), (12, _)]) r_X10_span_145 rfl ?_
                    refine EV.l (lv' := [(0, _), (1, _), (2, _), (3, _), (4, _), (5, _), (6, _), (7, _), (8, _), (9, _), (10, _), (11, _), (12, _)]) r_X10_span_147 rfl ?_
                    refine EV.n0_ne r_X10_span_149 (fun h149 => ?_) (fun h149 => ?_)
                    · -- 149 t
                      refine EV.l (lv' := [(0, _), (1, _), (2, _), (3, _), (4, _), (5, _), (6, _), (7, _), (8, _), (9, _), (10, _), (11, _), (12, _)]) r_X10_span_157 rfl ?_
                      refine EV.l (lv' := [(0, _), (1, _), (2, _), (3, _), (4, _), (5, _), (6, _), (7, _), (8, _), (9, _), (10, _), (11, _), (12, _)]) r_X10_span_159 rfl ?_
                      refine EV.pmaxZ r_X10_span_161 ?_
                      refine EV.l (lv' := [(0, _), (1, _), (2, _), (3, _), (4, _), (5, _), (6, _), (7, _), (8, _), (9, _), (10, _), (11, _), (12, _)]) r_X10_span_164 rfl ?_
                      refine EV.l (lv' := [(0, _), (1, _), (2, _), (3, _), (4, _), (5, _), (6, _), (7, _), (8, _), (9, _), (10, _), (11, _), (12, _)]) r_X10_span_166 rfl ?_
                      refine EV.l (lv' := [(0, _), (1, _), (2, _), (3, _), (4, _), (5, _), (6, _), (7, _), (8, _), (9, _), (10, _), (11, _), (12, _)]) r_X10_span_168 rfl ?_
                      refine EV.l (lv' := [(0, _), (1, _), (2, _), (3, _), (4, _), (5, _), (6, _), (7, _), (8, _), (9, _), (10, _), (11, _), (12, _)]) r_X10_span_170 rfl ?_
                      refine EV.cv r_X10_span_172 (aV1 mt_35 la_95) (c95_does hc3 cb hh3 hb3 hw3 (by omega) (by omega)) ?_
                      refine EV.b0_eq r_X10_span_175 (fun h175 => ?_) (fun h175 => ?_)
                      · -- 175 t
                        refine EV.o r_X10_span_182 (icN (0) (v := 0)) ?_
                        refine EV.o r_X10_span_183 iaddN ?_
                        refine EV.l (lv' := [(0, _), (1, _), (2, _), (3, _), (4, _), (5, _), (6, _), (7, _), (8, _), (9, _), (10, _), (11, _), (12, _)]) r_X10_span_184 rfl ?_
                        refine EV.l (lv' := [(0, _), (1, _), (2, _), (3, _), (4, _), (5, _), (6, _), (7, _), (8, _), (9, _), (10, _), (11, _), (12, _)]) r_X10_span_186 rfl ?_
                        rw [inc_nI]
                        refine EV.g r_X10_span_189 ?_
                        refine EV.fg (lv' := [(0, _), (1, _), (2, _), (3, _), (4, _), (5, _), (6, _), (7, _), (8, _), (9, _), (10, _)]) r_X10_span_76 rfl rfl rfl ?_
                        refine EV.sub ?_ rfl ?_ (ih76 (i + 1, I3) ?_ ?_)
                        · (try dsimp only) <;> (first | (exfalso; omega) | rw [spL_0 (by omega), spM_0 (by omega), spC_t (by assumption)] | rw [Nat.add_zero, spL_0 (by omega), spM_0 (by omega), spC_f (by assumption)] | rw [spL_s (by omega), spM_s (by omega), spC_t (by assumption)] | rw [Nat.add_zero, spL_s (by omega), spM_s (by omega), spC_f (by assumption)])
                        · (try dsimp only) <;> (rfl)
                        · (try dsimp only) <;> (omega)
                        · (try dsimp only) <;> (exact ⟨by omega, fun x a1 a2 a3 => (fr3 x a1 a2 a3).trans (fx x a1 a2 a3)⟩)
                      · -- 175 f
                        refine EV.o r_X10_span_178 (icN (1) (v := 1)) ?_
                        refine EV.g r_X10_span_179 ?_
                        refine EV.o r_X10_span_183 iaddN ?_
                        refine EV.l (lv' := [(0, _), (1, _), (2, _), (3, _), (4, _), (5, _), (6, _), (7, _), (8, _), (9, _), (10, _), (11, _), (12, _)]) r_X10_span_184 rfl ?_
                        refine EV.l (lv' := [(0, _), (1, _), (2, _), (3, _), (4, _), (5, _), (6, _), (7, _), (8, _), (9, _), (10, _), (11, _), (12, _)]) r_X10_span_186 rfl ?_
                        rw [inc_nI]
                        refine EV.g r_X10_span_189 ?_
                        refine EV.fg (lv' := [(0, _), (1, _), (2, _), (3, _), (4, _), (5, _), (6, _), (7, _), (8, _), (9, _), (10, _)]) r_X10_span_76 rfl rfl rfl ?_
                        refine EV.sub ?_ rfl ?_ (ih76 (i + 1, I3) ?_ ?_)
                        · (try dsimp only) <;> (first | (exfalso; omega) | rw [spL_0 (by omega), spM_0 (by omega), spC_t (by assumption)] | rw [Nat.add_zero, spL_0 (by omega), spM_0 (by omega), spC_f (by assumption)] | rw [spL_s (by omega), spM_s (by omega), spC_t (by assumption)] | rw [Nat.add_zero, spL_s (by omega), spM_s (by omega), spC_f (by assumption)])
                        · (try dsimp only) <;> (rfl)
                        · (try dsimp only) <;> (omega)
                        · (try dsimp only) <;> (exact ⟨by omega, fun x a1 a2 a3 => (fr3 x a1 a2 a3).trans (fx x a1 a2 a3)⟩)
                    · -- 149 f
                      refine EV.l (lv' := [(0, _), (1, _), (2, _), (3, _), (4, _), (5, _), (6, _), (7, _), (8, _), (9, _), (10, _), (11, _), (12, _)]) r_X10_span_152 rfl ?_
                      refine EV.g r_X10_span_154 ?_
                      refine EV.l (lv' := [(0, _), (1, _), (2, _), (3, _), (4, _), (5, _), (6, _), (7, _), (8, _), (9, _), (10, _), (11, _), (12, _)]) r_X10_span_164 rfl ?_
                      refine EV.l (lv' := [(0, _), (1, _), (2, _), (3, _), (4, _), (5, _), (6, _), (7, _), (8, _), (9, _), (10, _), (11, _), (12, _)]) r_X10_span_166 rfl ?_
                      refine EV.l (lv' := [(0, _), (1, _), (2, _), (3, _), (4, _), (5, _), (6, _), (7, _), (8, _), (9, _), (10, _), (11, _), (12, _)]) r_X10_span_168 rfl ?_
                      refine EV.l (lv' := [(0, _), (1, _), (2, _), (3, _), (4, _), (5, _), (6, _), (7, _), (8, _), (9, _), (10, _), (11, _), (12, _)]) r_X10_span_170 rfl ?_
                      refine EV.cv r_X10_span_172 (aV1 mt_35 la_95) (c95_does hc3 cb hh3 hb3 hw3 (by omega) (by omega)) ?_
                      refine EV.b0_eq r_X10_span_175 (fun h175 => ?_) (fun h175 => ?_)
                      · -- 175 t
                        refine EV.o r_X10_span_182 (icN (0) (v := 0)) ?_
                        refine EV.o r_X10_span_183 iaddN ?_
                        refine EV.l (lv' := [(0, _), (1, _), (2, _), (3, _), (4, _), (5, _), (6, _), (7, _), (8, _), (9, _), (10, _), (11, _), (12, _)]) r_X10_span_184 rfl ?_
                        refine EV.l (lv' := [(0, _), (1, _), (2, _), (3, _), (4, _), (5, _), (6, _), (7, _), (8, _), (9, _), (10, _), (11, _), (12, _)]) r_X10_span_186 rfl ?_
                        rw [inc_nI]
                        refine EV.g r_X10_span_189 ?_
                        refine EV.fg (lv' := [(0, _), (1, _), (2, _), (3, _), (4, _), (5, _), (6, _), (7, _), (8, _), (9, _), (10, _)]) r_X10_span_76 rfl rfl rfl ?_
                        refine EV.sub ?_ rfl ?_ (ih76 (i + 1, I3) ?_ ?_)
                        · (try dsimp only) <;> (first | (exfalso; omega) | rw [spL_0 (by omega), spM_0 (by omega), spC_t (by assumption)] | rw [Nat.add_zero, spL_0 (by omega), spM_0 (by omega), spC_f (by assumption)] | rw [spL_s (by omega), spM_s (by omega), spC_t (by assumption)] | rw [Nat.add_zero, spL_s (by omega), spM_s (by omega), spC_f (by assumption)])
                        · (try dsimp only) <;> (rfl)
                        · (try dsimp only) <;> (omega)
                        · (try dsimp only) <;> (exact ⟨by omega, fun x a1 a2 a3 => (fr3 x a1 a2 a3).trans (fx x a1 a2 a3)⟩)
                      · -- 175 f
                        refine EV.o r_X10_span_178 (icN (1) (v := 1)) ?_
                        refine EV.g r_X10_span_179 ?_
                        refine EV.o r_X10_span_183 iaddN ?_
                        refine EV.l (lv' := [(0, _), (1, _), (2, _), (3, _), (4, _), (5, _), (6, _), (7, _), (8, _), (9, _), (10, _), (11, _), (12, _)]) r_X10_span_184 rfl ?_
                        refine EV.l (lv' := [(0, _), (1, _), (2, _), (3, _), (4, _), (5, _), (6, _), (7, _), (8, _), (9, _), (10, _), (11, _), (12, _)]) r_X10_span_186 rfl ?_
                        rw [inc_nI]
                        refine EV.g r_X10_span_189 ?_
                        refine EV.fg (lv' := [(0, _), (1, _), (2, _), (3, _), (4, _), (5, _), (6, _), (7, _), (8, _), (9, _), (10, _)]) r_X10_span_76 rfl rfl rfl ?_
                        refine EV.sub ?_ rfl ?_ (ih76 (i + 1, I3) ?_ ?_)
                        · (try dsimp only) <;> (first | (exfalso; omega) | rw [spL_0 (by omega), spM_0 (by omega), spC_t (by assumption)] | rw [Nat.add_zero, spL_0 (by omega), spM_0 (by omega), spC_f (by assumption)] | rw [spL_s (by omega), spM_s (by omega), spC_t (by assumption)] | rw [Nat.add_zero, spL_s (by omega), spM_s (by omega), spC_f (by assumption)])
                        · (try dsimp only) <;> (rfl)
                        · (try dsimp only) <;> (omega)
                        · (try dsimp only) <;> (exact ⟨by omega, fun x a1 a2 a3 => (fr3 x a1 a2 a3).trans (fx x a1 a2 a3)⟩)
              have h0 := L76 ((0, I))
              try dsimp only at h0
              refine EV.sub ?_ rfl ?_ (h0 ?_)
              · (try dsimp only) <;> (rfl)
              · (try dsimp only) <;> (rfl)
              · (try dsimp only) <;> (exact ⟨Nat.zero_le _, fun _ _ _ _ => rfl⟩)
theorem c_span2 {d : Nat} {I : Nat → Nat → Int32} {J : Nat → Nat → Int64} {κ : CT} {l : LW} {η : HS} (hc_ : HC 4 κ I) (cb : CB κ) (hh : HH 71 η I) (ho : hOk κ l η η.mi) (h4 : η.mi ≤ 400) (hl : HL 46 l I) (lb : LB l) {s : Int32} {q n : Nat} (hq : q ≤ 16) (h1 : 1 ≤ n) (h2 : n ≤ 48) {m x : Nat} (hm : 1 ≤ m) (hm2 : m ≤ 10) (hx : x < κ.ns)  (hd : 13 ≤ d) : RI d 151 [.ref 0, .int s, .int (nI m), .int (nI q), .int (nI n), .int (nI 2), .int (nI x)] I J (fun v I' => v = nI (spC κ l q n s η x m) ∧ FR I I') := by
  refine RI.in (d0 := 12) hd mt_151 (Nat.le_of_ble_eq_true rfl) (fun d' hd' => ?_)
  have bns := cb.ns; have bnb := cb.nb; have bnc := cb.nc; have bnr := cb.nr
  show EV none M_X10_span d' 0 [(0, .ref 0), (1, .int s), (2, .int (nI m)), (3, .int (nI q)), (4, .int (nI n)), (5, .int (nI 2)), (6, .int (nI x))] [] (hp I J) _
  refine EV.l (lv' := [(0, _), (1, _), (2, _), (3, _), (4, _), (5, _), (6, _)]) r_X10_span_0 rfl ?_
  refine EV.l (lv' := [(0, _), (1, _), (2, _), (3, _), (4, _), (5, _), (6, _)]) r_X10_span_1 rfl ?_
  refine EV.l (lv' := [(0, _), (1, _), (2, _), (3, _), (4, _), (5, _), (6, _)]) r_X10_span_2 rfl ?_
  refine EV.cu r_X10_span_4 (aV2 mt_157 la_0) (c_chkT1 hq h1 h2 (by omega)) (fun I2 e2 => ?_)
  have e2 := e2.symm; subst e2
  refine EV.l (lv' := [(0, _), (1, _), (2, _), (3, _), (4, _), (5, _), (6, _)]) r_X10_span_7 rfl ?_
  refine EV.l (lv' := [(0, _), (1, _), (2, _), (3, _), (4, _), (5, _), (6, _)]) r_X10_span_8 rfl ?_
  refine EV.o r_X10_span_9 (icN (1) (v := 1)) ?_
  refine EV.n2_lt r_X10_span_10 (fun h10 => ?_) (fun h10 => ?_)
  · -- 10 t
    refine EV.o r_X10_span_34 (icN (0) (v := 0)) ?_
    omega
  · -- 10 f
    refine EV.l (lv' := [(0, _), (1, _), (2, _), (3, _), (4, _), (5, _), (6, _)]) r_X10_span_13 rfl ?_
    refine EV.o r_X10_span_14 (bpN (10) 10) ?_
    refine EV.n2_gt r_X10_span_16 (fun h16 => ?_) (fun h16 => ?_)
    · -- 16 t
      refine EV.o r_X10_span_34 (icN (0) (v := 0)) ?_
      omega
    · -- 16 f
      refine EV.l (lv' := [(0, _), (1, _), (2, _), (3, _), (4, _), (5, _), (6, _)]) r_X10_span_19 rfl ?_
      refine EV.n0_lt r_X10_span_21 (fun h21 => ?_) (fun h21 => ?_)
      · omega
      · -- 21 f
        refine EV.l (lv' := [(0, _), (1, _), (2, _), (3, _), (4, _), (5, _), (6, _)]) r_X10_span_24 rfl ?_
        refine EV.o r_X10_span_26 (icN (2) (v := 2)) ?_
        refine EV.n2_gt r_X10_span_27 (fun h27 => ?_) (fun h27 => ?_)
        · omega
        · -- 27 f
          refine EV.o r_X10_span_30 (icN (1) (v := 1)) ?_
          refine EV.g r_X10_span_31 ?_
          refine EV.cu r_X10_span_35 (aV1 mt_159 la_0) (c_arg1 (by omega)) (fun I2 e2 => ?_)
          have e2 := e2.symm; subst e2
          refine EV.l (lv' := [(0, _), (1, _), (2, _), (3, _), (4, _), (5, _), (6, _)]) r_X10_span_38 rfl ?_
          refine EV.l (lv' := [(0, _), (1, _), (2, _), (3, _), (4, _), (5, _), (6, _)]) r_X10_span_39 rfl ?_
          refine EV.n0_lt r_X10_span_41 (fun h41 => ?_) (fun h41 => ?_)
          · -- 41 t
            refine EV.o r_X10_span_60 (icN (0) (v := 0)) ?_
            omega
          · -- 41 f
            refine EV.l (lv' := [(0, _), (1, _), (2, _), (3, _), (4, _), (5, _), (6, _)]) r_X10_span_44 rfl ?_
            refine EV.l (lv' := [(0, _), (1, _), (2, _), (3, _), (4, _), (5, _), (6, _)]) r_X10_span_46 rfl ?_
            refine EV.gR r_X10_span_47 la_0 ?_
            refine EV.getV r_X10_span_50 la_4 (hc_.ns) ?_
            refine EV.n2_ge r_X10_span_53 (fun h53 => ?_) (fun h53 => ?_)
            · -- 53 t
              refine EV.o r_X10_span_60 (icN (0) (v := 0)) ?_
              omega
            · -- 53 f
              refine EV.o r_X10_span_56 (icN (1) (v := 1)) ?_
              refine EV.g r_X10_span_57 ?_
              refine EV.cu r_X10_span_61 (aV1 mt_159 la_0) (c_arg1 (by omega)) (fun I2 e2 => ?_)
              have e2 := e2.symm; subst e2
              refine EV.o r_X10_span_64 (icN (0) (v := 0)) ?_
              refine EV.l (lv' := [(0, _), (1, _), (2, _), (3, _), (4, _), (5, _), (6, _), (7, _)]) r_X10_span_65 rfl ?_
              refine EV.o r_X10_span_67 (icN (0) (v := 0)) ?_
              refine EV.l (lv' := [(0, _), (1, _), (2, _), (3, _), (4, _), (5, _), (6, _), (7, _), (8, _)]) r_X10_span_68 rfl ?_
              refine EV.o r_X10_span_70 (icN (0) (v := 0)) ?_
              refine EV.l (lv' := [(0, _), (1, _), (2, _), (3, _), (4, _), (5, _), (6, _), (7, _), (8, _), (9, _)]) r_X10_span_71 rfl ?_
              refine EV.o r_X10_span_73 (icN (0) (v := 0)) ?_
              refine EV.l (lv' := [(0, _), (1, _), (2, _), (3, _), (4, _), (5, _), (6, _), (7, _), (8, _), (9, _), (10, _)]) r_X10_span_74 rfl ?_
              have L76 : ∀ y_ : Nat × (Nat → Nat → Int32), (fun y => (y.1 ≤ m ∧ ∀ x, x ≠ 50 → x ≠ 52 → (x < 94 ∨ 105 < x) → y.2 x = I x) → EV none M_X10_span d' 76 [(0, .ref 0), (1, .int s), (2, .int (nI m)), (3, .int (nI q)), (4, .int (nI n)), (5, .int (nI 2)), (6, .int (nI x)), (7, .int (zI (spL κ l q n s η y.1))), (8, .int (zI (spM κ l q n s η y.1))), (9, .int (nI (spC κ l q n s η x y.1))), (10, .int (nI y.1))] [] (hp y.2 J) (QI J (fun v I' => v = nI (spC κ l q n s η x m) ∧ FR I I'))) y_ := by
                refine ev_loop (fun y => m - y.1) ?_
                intro ⟨i, I1⟩ ih76 hx76
                try dsimp only at ih76
                try dsimp only at hx76
                try dsimp only
                obtain ⟨il, fx⟩ := hx76
                have hcx : HC 4 κ I1 := hc_.fr (fun x a1 a2 => fx x (by omega) (by omega) (by omega))
                have hhx : HH 71 η I1 := hh.fr (fun x a1 a2 => fx x (by omega) (by omega) (by omega))
                have hlx : HL 46 l I1 := hl.fr (fx 46 (by decide) (by decide) (by omega)) (fx 48 (by decide) (by decide) (by omega))
                have bl := spL_b (l := l) (q := q) (n := n) (s := s) (η := η) cb i; have bM := spM_b (l := l) (q := q) (n := n) (s := s) (η := η) cb i
                refine EV.l (lv' := [(0, _), (1, _), (2, _), (3, _), (4, _), (5, _), (6, _), (7, _), (8, _), (9, _), (10, _)]) r_X10_span_76 rfl ?_
                refine EV.l (lv' := [(0, _), (1, _), (2, _), (3, _), (4, _), (5, _), (6, _), (7, _), (8, _), (9, _), (10, _)]) r_X10_span_78 rfl ?_
                refine EV.n2_ge r_X10_span_79 (fun h79 => ?_) (fun h79 => ?_)
                · -- 79 t
                  obtain rfl : i = m := by omega
                  refine EV.l (lv' := [(0, _), (1, _), (2, _), (3, _), (4, _), (5, _), (6, _), (7, _), (8, _), (9, _), (10, _)]) r_X10_span_192 rfl ?_
                  refine EV.n0_ne r_X10_span_194 (fun h194 => ?_) (fun h194 => ?_)
                  · -- 194 t
                    refine EV.l (lv' := [(0, _), (1, _), (2, _), (3, _), (4, _), (5, _), (6, _), (7, _), (8, _), (9, _), (10, _)]) r_X10_span_202 rfl ?_
                    refine EV.o r_X10_span_204 (icN (1) (v := 1)) ?_
                    refine EV.n2_ne r_X10_span_205 (fun h205 => ?_) (fun h205 => ?_)
                    · -- 205 t
                      refine EV.l (lv' := [(0, _), (1, _), (2, _), (3, _), (4, _), (5, _), (6, _), (7, _), (8, _), (9, _), (10, _)]) r_X10_span_213 rfl ?_
                      exact EV.ri r_X10_span_215 (⟨rfl, FR.tm fx⟩)
                    · omega
                  · omega
                · -- 79 f
                  refine EV.l (lv' := [(0, _), (1, _), (2, _), (3, _), (4, _), (5, _), (6, _), (7, _), (8, _), (9, _), (10, _)]) r_X10_span_82 rfl ?_
                  refine EV.gR r_X10_span_83 la_0 ?_
                  refine EV.l (lv' := [(0, _), (1, _), (2, _), (3, _), (4, _), (5, _), (6, _), (7, _), (8, _), (9, _), (10, _)]) r_X10_span_86 rfl ?_
                  refine EV.gR r_X10_span_87 la_0 ?_
                  refine EV.l (lv' := [(0, _), (1, _), (2, _), (3, _), (4, _), (5, _), (6, _), (7, _), (8, _), (9, _), (10, _)]) r_X10_span_90 rfl ?_
                  refine EV.l (lv' := [(0, _), (1, _), (2, _), (3, _), (4, _), (5, _), (6, _), (7, _), (8, _), (9, _), (10, _)]) r_X10_span_91 rfl ?_
                  refine EV.o r_X10_span_93 rfl ?_
                  refine EV.l (lv' := [(0, _), (1, _), (2, _), (3, _), (4, _), (5, _), (6, _), (7, _), (8, _), (9, _), (10, _)]) r_X10_span_94 rfl ?_
                  refine EV.l (lv' := [(0, _), (1, _), (2, _), (3, _), (4, _), (5, _), (6, _), (7, _), (8, _), (9, _), (10, _)]) r_X10_span_95 rfl ?_
                  refine EV.cu r_X10_span_97 (aV4 mt_109 la_94) (c_play hcx cb hhx ho h4 hlx lb (s := (s + nI i)) hq h2 (by omega)) (fun I3 h3 => ?_)
                  obtain ⟨hh3, fr3⟩ := h3
                  have hc3 : HC 4 κ I3 := hcx.fr (fun x a1 a2 => fr3 x (by omega) (by omega) (by omega))
                  have hw3 : HW κ (trm κ l q ((s + nI i), η) n).2 := (trm_ok (q := q) (p := ((s + nI i), η)) ho h4 n h2).2.1.hw; have hb3 : HB κ (trm κ l q ((s + nI i), η) n).2 := (trm_ok (q := q) (p := ((s + nI i), η)) ho h4 n h2).1; have bm3 := hb3.mi
                  have lbv := lean_b cb (heard κ (trm κ l q (s + nI i, η) n).2 (trm κ l q (s + nI i, η) n).2.mi)
                  refine EV.l (lv' := [(0, _), (1, _), (2, _), (3, _), (4, _), (5, _), (6, _), (7, _), (8, _), (9, _), (10, _)]) r_X10_span_100 rfl ?_
                  refine EV.gR r_X10_span_101 la_0 ?_
                  refine EV.gR r_X10_span_104 la_94 ?_
                  refine EV.l (lv' := [(0, _), (1, _), (2, _), (3, _), (4, _), (5, _), (6, _), (7, _), (8, _), (9, _), (10, _), (11, _)]) r_X10_span_107 rfl ?_
                  refine EV.l (lv' := [(0, _), (1, _), (2, _), (3, _), (4, _), (5, _), (6, _), (7, _), (8, _), (9, _), (10, _), (11, _)]) r_X10_span_109 rfl ?_
                  refine EV.gR r_X10_span_110 la_0 ?_
                  refine EV.l (lv' := [(0, _), (1, _), (2, _), (3, _), (4, _), (5, _), (6, _), (7, _), (8, _), (9, _), (10, _), (11, _)]) r_X10_span_113 rfl ?_
                  refine EV.l (lv' := [(0, _), (1, _), (2, _), (3, _), (4, _), (5, _), (6, _), (7, _), (8, _), (9, _), (10, _), (11, _)]) r_X10_span_115 rfl ?_
                  refine EV.getV r_X10_span_117 la_95 (hh3.mi) ?_
                  refine EV.cv r_X10_span_120 (aV1 mt_38 la_95) (c95_heard hc3 cb hh3 hb3 hw3 (by omega) (by omega)) ?_
                  refine EV.cv r_X10_span_123 (aV1 mt_22 la_4) (b_lean hc3 cb (heard_lt _) (by omega)) ?_
                  change EV _ _ _ _ _ (.int (zI (spV κ l q n s η i)) :: _) _ _
                  have lv_ : -540 ≤ spV κ l q n s η i ∧ spV κ l q n s η i ≤ 540 := lbv
                  refine EV.l (lv' := [(0, _), (1, _), (2, _), (3, _), (4, _), (5, _), (6, _), (7, _), (8, _), (9, _), (10, _), (11, _), (12, _)]) r_X10_span_126 rfl ?_
                  refine EV.l (lv' := [(0, _), (1, _), (2, _), (3, _), (4, _), (5, _), (6, _), (7, _), (8, _), (9, _), (10, _), (11, _), (12, _)]) r_X10_span_128 rfl ?_
                  refine EV.n0_ne r_X10_span_130 (fun h130 => ?_) (fun h130 => ?_)
                  · -- 130 t
                    refine EV.l (lv' := [(0, _), (1, _), (2, _), (3, _), (4, _), (5, _), (6, _), (7, _), (8, _), (9, _), (10, _), (11, _), (12, _)]) r_X10_span_138 rfl ?_
                    refine EV.l (lv' := [(0, _), (1, _), (2, _), (3, _), (4, _), (5, _), (6, _), (7, _), (8, _), (9, _), (10, _), (11, _), (12, _)]) r_X10_span_140 rfl ?_
                    refine EV.pminZ r_X10_span_142 ?_
                    refine EV.l (lv' := [(0, _), (1, _), (2, _), (3, _), (4, _), (5, _), (6, _), (7, _), (8, _), (9, _), (10, _), (11, _), (12, _)]) r_X10_span_145 rfl ?_
                    refine EV.l (lv' := [(0, _), (1, _), (2, _), (3, _), (4, _), (5, _), (6, _), (7, _), (8, _), (9, _), (10, _), (11, _), (12, _)]) r_X10_span_147 rfl ?_
                    refine EV.n0_ne r_X10_span_149 (fun h149 => ?_) (fun h149 => ?_)
                    · -- 149 t
                      refine EV.l (lv' := [(0, _), (1, _), (2, _), (3, _), (4, _), (5, _), (6, _), (7, _), (8, _), (9, _), (10, _), (11, _), (12, _)]) r_X10_span_157 rfl ?_
                      refine EV.l (lv' := [(0, _), (1, _), (2, _), (3, _), (4, _), (5, _), (6, _), (7, _), (8, _), (9, _), (10, _), (11, _), (12, _)]) r_X10_span_159 rfl ?_
                      refine EV.pmaxZ r_X10_span_161 ?_
                      refine EV.l (lv' := [(0, _), (1, _), (2, _), (3, _), (4, _), (5, _), (6, _), (7, _), (8, _), (9, _), (10, _), (11, _), (12, _)]) r_X10_span_164 rfl ?_
                      refine EV.l (lv' := [(0, _), (1, _), (2, _), (3, _), (4, _), (5, _), (6, _), (7, _), (8, _), (9, _), (10, _), (11, _), (12, _)]) r_X10_span_166 rfl ?_
                      refine EV.l (lv' := [(0, _), (1, _), (2, _), (3, _), (4, _), (5, _), (6, _), (7, _), (8, _), (9, _), (10, _), (11, _), (12, _)]) r_X10_span_168 rfl ?_
                      refine EV.l (lv' := [(0, _), (1, _), (2, _), (3, _), (4, _), (5, _), (6, _), (7, _), (8, _), (9, _), (10, _), (11, _), (12, _)]) r_X10_span_170 rfl ?_
                      refine EV.cv r_X10_span_172 (aV1 mt_35 la_95) (c95_does hc3 cb hh3 hb3 hw3 (by omega) (by omega)) ?_
                      refine EV.b0_eq r_X10_span_175 (fun h175 => ?_) (fun h175 => ?_)
                      · -- 175 t
                        refine EV.o r_X10_span_182 (icN (0) (v := 0)) ?_
                        refine EV.o r_X10_span_183 iaddN ?_
                        refine EV.l (lv' := [(0, _), (1, _), (2, _), (3, _), (4, _), (5, _), (6, _), (7, _), (8, _), (9, _), (10, _), (11, _), (12, _)]) r_X10_span_184 rfl ?_
                        refine EV.l (lv' := [(0, _), (1, _), (2, _), (3, _), (4, _), (5, _), (6, _), (7, _), (8, _), (9, _), (10, _), (11, _), (12, _)]) r_X10_span_186 rfl ?_
                        rw [inc_nI]
                        refine EV.g r_X10_span_189 ?_
                        refine EV.fg (lv' := [(0, _), (1, _), (2, _), (3, _), (4, _), (5, _), (6, _), (7, _), (8, _), (9, _), (10, _)]) r_X10_span_76 rfl rfl rfl ?_
                        refine EV.sub ?_ rfl ?_ (ih76 (i + 1, I3) ?_ ?_)
                        · (try dsimp only) <;> (first | (exfalso; omega) | rw [spL_0 (by omega), spM_0 (by omega), spC_t (by assumption)] | rw [Nat.add_zero, spL_0 (by omega), spM_0 (by omega), spC_f (by assumption)] | rw [spL_s (by omega), spM_s (by omega), spC_t (by assumption)] | rw [Nat.add_zero, spL_s (by omega), spM_s (by omega), spC_f (by assumption)])
                        · (try dsimp only) <;> (rfl)
                        · (try dsimp only) <;> (omega)
                        · (try dsimp only) <;> (exact ⟨by omega, fun x a1 a2 a3 => (fr3 x a1 a2 a3).trans (fx x a1 a2 a3)⟩)
                      · -- 175 f
                        refine EV.o r_X10_span_178 (icN (1) (v := 1)) ?_
                        refine EV.g r_X10_span_179 ?_
                        refine EV.o r_X10_span_183 iaddN ?_
                        refine EV.l (lv' := [(0, _), (1, _), (2, _), (3, _), (4, _), (5, _), (6, _), (7, _), (8, _), (9, _), (10, _), (11, _), (12, _)]) r_X10_span_184 rfl ?_
                        refine EV.l (lv' := [(0, _), (1, _), (2, _), (3, _), (4, _), (5, _), (6, _), (7, _), (8, _), (9, _), (10, _), (11, _), (12, _)]) r_X10_span_186 rfl ?_
                        rw [inc_nI]
                        refine EV.g r_X10_span_189 ?_
                        refine EV.fg (lv' := [(0, _), (1, _), (2, _), (3, _), (4, _), (5, _), (6, _), (7, _), (8, _), (9, _), (10, _)]) r_X10_span_76 rfl rfl rfl ?_
                        refine EV.sub ?_ rfl ?_ (ih76 (i + 1, I3) ?_ ?_)
                        · (try dsimp only) <;> (first | (exfalso; omega) | rw [spL_0 (by omega), spM_0 (by omega), spC_t (by assumption)] | rw [Nat.add_zero, spL_0 (by omega), spM_0 (by omega), spC_f (by assumption)] | rw [spL_s (by omega), spM_s (by omega), spC_t (by assumption)] | rw [Nat.add_zero, spL_s (by omega), spM_s (by omega), spC_f (by assumption)])
                        · (try dsimp only) <;> (rfl)
                        · (try dsimp only) <;> (omega)
                        · (try dsimp only) <;> (exact ⟨by omega, fun x a1 a2 a3 => (fr3 x a1 a2 a3).trans (fx x a1 a2 a3)⟩)
                    · -- 149 f
                      refine EV.l (lv' := [(0, _), (1, _), (2, _), (3, _), (4, _), (5, _), (6, _), (7, _), (8, _), (9, _), (10, _), (11, _), (12, _)]) r_X10_span_152 rfl ?_
                      refine EV.g r_X10_span_154 ?_
                      refine EV.l (lv' := [(0, _), (1, _), (2, _), (3, _), (4, _), (5, _), (6, _), (7, _), (8, _), (9, _), (10, _), (11, _), (12, _)]) r_X10_span_164 rfl ?_
                      refine EV.l (lv' := [(0, _), (1, _), (2, _), (3, _), (4, _), (5, _), (6, _), (7, _), (8, _), (9, _), (10, _), (11, _), (12, _)]) r_X10_span_166 rfl ?_
                      refine EV.l (lv' := [(0, _), (1, _), (2, _), (3, _), (4, _), (5, _), (6, _), (7, _), (8, _), (9, _), (10, _), (11, _), (12, _)]) r_X10_span_168 rfl ?_
                      refine EV.l (lv' := [(0, _), (1, _), (2, _), (3, _), (4, _), (5, _), (6, _), (7, _), (8, _), (9, _), (10, _), (11, _), (12, _)]) r_X10_span_170 rfl ?_
                      refine EV.cv r_X10_span_172 (aV1 mt_35 la_95) (c95_does hc3 cb hh3 hb3 hw3 (by omega) (by omega)) ?_
                      refine EV.b0_eq r_X10_span_175 (fun h175 => ?_) (fun h175 => ?_)
                      · -- 175 t
                        refine EV.o r_X10_span_182 (icN (0) (v := 0)) ?_
                        refine EV.o r_X10_span_183 iaddN ?_
                        refine EV.l (lv' := [(0, _), (1, _), (2, _), (3, _), (4, _), (5, _), (6, _), (7, _), (8, _), (9, _), (10, _), (11, _), (12, _)]) r_X10_span_184 rfl ?_
                        refine EV.l (lv' := [(0, _), (1, _), (2, _), (3, _), (4, _), (5, _), (6, _), (7, _), (8, _), (9, _), (10, _), (11, _), (12, _)]) r_X10_span_186 rfl ?_
                        rw [inc_nI]
                        refine EV.g r_X10_span_189 ?_
                        refine EV.fg (lv' := [(0, _), (1, _), (2, _), (3, _), (4, _), (5, _), (6, _), (7, _), (8, _), (9, _), (10, _)]) r_X10_span_76 rfl rfl rfl ?_
                        refine EV.sub ?_ rfl ?_ (ih76 (i + 1, I3) ?_ ?_)
                        · (try dsimp only) <;> (first | (exfalso; omega) | rw [spL_0 (by omega), spM_0 (by omega), spC_t (by assumption)] | rw [Nat.add_zero, spL_0 (by omega), spM_0 (by omega), spC_f (by assumption)] | rw [spL_s (by omega), spM_s (by omega), spC_t (by assumption)] | rw [Nat.add_zero, spL_s (by omega), spM_s (by omega), spC_f (by assumption)])
                        · (try dsimp only) <;> (rfl)
                        · (try dsimp only) <;> (omega)
                        · (try dsimp only) <;> (exact ⟨by omega, fun x a1 a2 a3 => (fr3 x a1 a2 a3).trans (fx x a1 a2 a3)⟩)
                      · -- 175 f
                        refine EV.o r_X10_span_178 (icN (1) (v := 1)) ?_
                        refine EV.g r_X10_span_179 ?_
                        refine EV.o r_X10_span_183 iaddN ?_
                        refine EV.l (lv' := [(0, _), (1, _), (2, _), (3, _), (4, _), (5, _), (6, _), (7, _), (8, _), (9, _), (10, _), (11, _), (12, _)]) r_X10_span_184 rfl ?_
                        refine EV.l (lv' := [(0, _), (1, _), (2, _), (3, _), (4, _), (5, _), (6, _), (7, _), (8, _), (9, _), (10, _), (11, _), (12, _)]) r_X10_span_186 rfl ?_
                        rw [inc_nI]
                        refine EV.g r_X10_span_189 ?_
                        refine EV.fg (lv' := [(0, _), (1, _), (2, _), (3, _), (4, _), (5, _), (6, _), (7, _), (8, _), (9, _), (10, _)]) r_X10_span_76 rfl rfl rfl ?_
                        refine EV.sub ?_ rfl ?_ (ih76 (i + 1, I3) ?_ ?_)
                        · (try dsimp only) <;> (first | (exfalso; omega) | rw [spL_0 (by omega), spM_0 (by omega), spC_t (by assumption)] | rw [Nat.add_zero, spL_0 (by omega), spM_0 (by omega), spC_f (by assumption)] | rw [spL_s (by omega), spM_s (by omega), spC_t (by assumption)] | rw [Nat.add_zero, spL_s (by omega), spM_s (by omega), spC_f (by assumption)])
                        · (try dsimp only) <;> (rfl)
                        · (try dsimp only) <;> (omega)
                        · (try dsimp only) <;> (exact ⟨by omega, fun x a1 a2 a3 => (fr3 x a1 a2 a3).trans (fx x a1 a2 a3)⟩)
                  · -- 130 f
                    refine EV.l (lv' := [(0, _), (1, _), (2, _), (3, _), (4, _), (5, _), (6, _), (7, _), (8, _), (9, _), (10, _), (11, _), (12, _)]) r_X10_span_133 rfl ?_
                    refine EV.g r_X10_span_135 ?_
                    refine EV.l (lv' := [(0, _), (1, _), (2, _), (3, _), (4, _), (5, _), (6, _), (7, _), (8, _), (9, _), (10, _), (11, _), (12, _)]) r_X10_span_145 rfl ?_
                    refine EV.l (lv' := [(0, _), (1, _), (2, _), (3, _), (4, _), (5, _), (6, _), (7, _), (8, _), (9, _), (10, _), (11, _), (12, _)]) r_X10_span_147 rfl ?_
                    refine EV.n0_ne r_X10_span_149 (fun h149 => ?_) (fun h149 => ?_)
                    · -- 149 t
                      refine EV.l (lv' := [(0, _), (1, _), (2, _), (3, _), (4, _), (5, _), (6, _), (7, _), (8, _), (9, _), (10, _), (11, _), (12, _)]) r_X10_span_157 rfl ?_
                      refine EV.l (lv' := [(0, _), (1, _), (2, _), (3, _), (4, _), (5, _), (6, _), (7, _), (8, _), (9, _), (10, _), (11, _), (12, _)]) r_X10_span_159 rfl ?_
                      refine EV.pmaxZ r_X10_span_161 ?_
                      refine EV.l (lv' := [(0, _), (1, _), (2, _), (3, _), (4, _), (5, _), (6, _), (7, _), (8, _), (9, _), (10, _), (11, _), (12, _)]) r_X10_span_164 rfl ?_
                      refine EV.l (lv' := [(0, _), (1, _), (2, _), (3, _), (4, _), (5, _), (6, _), (7, _), (8, _), (9, _), (10, _), (11, _), (12, _)]) r_X10_span_166 rfl ?_
                      refine EV.l (lv' := [(0, _), (1, _), (2, _), (3, _), (4, _), (5, _), (6, _), (7, _), (8, _), (9, _), (10, _), (11, _), (12, _)]) r_X10_span_168 rfl ?_
                      refine EV.l (lv' := [(0, _), (1, _), (2, _), (3, _), (4, _), (5, _), (6, _), (7, _), (8, _), (9, _), (10, _), (11, _), (12, _)]) r_X10_span_170 rfl ?_
                      refine EV.cv r_X10_span_172 (aV1 mt_35 la_95) (c95_does hc3 cb hh3 hb3 hw3 (by omega) (by omega)) ?_
                      refine EV.b0_eq r_X10_span_175 (fun h175 => ?_) (fun h175 => ?_)
                      · -- 175 t
                        refine EV.o r_X10_span_182 (icN (0) (v := 0)) ?_
                        refine EV.o r_X10_span_183 iaddN ?_
                        refine EV.l (lv' := [(0, _), (1, _), (2, _), (3, _), (4, _), (5, _), (6, _), (7, _), (8, _), (9, _), (10, _), (11, _), (12, _)]) r_X10_span_184 rfl ?_
                        refine EV.l (lv' := [(0, _), (1, _), (2, _), (3, _), (4, _), (5, _), (6, _), (7, _), (8, _), (9, _), (10, _), (11, _), (12, _)]) r_X10_span_186 rfl ?_
                        rw [inc_nI]
                        refine EV.g r_X10_span_189 ?_
                        refine EV.fg (lv' := [(0, _), (1, _), (2, _), (3, _), (4, _), (5, _), (6, _), (7, _), (8, _), (9, _), (10, _)]) r_X10_span_76 rfl rfl rfl ?_
                        refine EV.sub ?_ rfl ?_ (ih76 (i + 1, I3) ?_ ?_)
                        · (try dsimp only) <;> (first | (exfalso; omega) | rw [spL_0 (by omega), spM_0 (by omega), spC_t (by assumption)] | rw [Nat.add_zero, spL_0 (by omega), spM_0 (by omega), spC_f (by assumption)] | rw [spL_s (by omega), spM_s (by omega), spC_t (by assumption)] | rw [Nat.add_zero, spL_s (by omega), spM_s (by omega), spC_f (by assumption)])
                        · (try dsimp only) <;> (rfl)
                        · (try dsimp only) <;> (omega)
                        · (try dsimp only) <;> (exact ⟨by omega, fun x a1 a2 a3 => (fr3 x a1 a2 a3).trans (fx x a1 a2 a3)⟩)
                      · -- 175 f
                        refine EV.o r_X10_span_178 (icN (1) (v := 1)) ?_
                        refine EV.g r_X10_span_179 ?_
                        refine EV.o r_X10_span_183 iaddN ?_
                        refine EV.l (lv' := [(0, _), (1, _), (2, _), (3, _), (4, _), (5, _), (6, _), (7, _), (8, _), (9, _), (10, _), (11, _), (12, _)]) r_X10_span_184 rfl ?_
                        refine EV.l (lv' := [(0, _), (1, _), (2, _), (3, _), (4, _), (5, _), (6, _), (7, _), (8, _), (9, _), (10, _), (11, _), (12, _)]) r_X10_span_186 rfl ?_
                        rw [inc_nI]
                        refine EV.g r_X10_span_189 ?_
                        refine EV.fg (lv' := [(0, _), (1, _), (2, _), (3, _), (4, _), (5, _), (6, _), (7, _), (8, _), (9, _), (10, _)]) r_X10_span_76 rfl rfl rfl ?_
                        refine EV.sub ?_ rfl ?_ (ih76 (i + 1, I3) ?_ ?_)
                        · (try dsimp only) <;> (first | (exfalso; omega) | rw [spL_0 (by omega), spM_0 (by omega), spC_t (by assumption)] | rw [Nat.add_zero, spL_0 (by omega), spM_0 (by omega), spC_f (by assumption)] | rw [spL_s (by omega), spM_s (by omega), spC_t (by assumption)] | rw [Nat.add_zero, spL_s (by omega), spM_s (by omega), spC_f (by assumption)])
                        · (try dsimp only) <;> (rfl)
                        · (try dsimp only) <;> (omega)
                        · (try dsimp only) <;> (exact ⟨by omega, fun x a1 a2 a3 => (fr3 x a1 a2 a3).trans (fx x a1 a2 a3)⟩)
                    · -- 149 f
                      refine EV.l (lv' := [(0, _), (1, _), (2, _), (3, _), (4, _), (5, _), (6, _), (7, _), (8, _), (9, _), (10, _), (11, _), (12, _)]) r_X10_span_152 rfl ?_
                      refine EV.g r_X10_span_154 ?_
                      refine EV.l (lv' := [(0, _), (1, _), (2, _), (3, _), (4, _), (5, _), (6, _), (7, _), (8, _), (9, _), (10, _), (11, _), (12, _)]) r_X10_span_164 rfl ?_
                      refine EV.l (lv' := [(0, _), (1, _), (2, _), (3, _), (4, _), (5, _), (6, _), (7, _), (8, _), (9, _), (10, _), (11, _), (12, _)]) r_X10_span_166 rfl ?_
                      refine EV.l (lv' := [(0, _), (1, _), (2, _), (3, _), (4, _), (5, _), (6, _), (7, _), (8, _), (9, _), (10, _), (11, _), (12, _)]) r_X10_span_168 rfl ?_
                      refine EV.l (lv' := [(0, _), (1, _), (2, _), (3, _), (4, _), (5, _), (6, _), (7, _), (8, _), (9, _), (10, _), (11, _), (12, _)]) r_X10_span_170 rfl ?_
                      refine EV.cv r_X10_span_172 (aV1 mt_35 la_95) (c95_does hc3 cb hh3 hb3 hw3 (by omega) (by omega)) ?_
                      refine EV.b0_eq r_X10_span_175 (fun h175 => ?_) (fun h175 => ?_)
                      · -- 175 t
                        refine EV.o r_X10_span_182 (icN (0) (v := 0)) ?_
                        refine EV.o r_X10_span_183 iaddN ?_
                        refine EV.l (lv' := [(0, _), (1, _), (2, _), (3, _), (4, _), (5, _), (6, _), (7, _), (8, _), (9, _), (10, _), (11, _), (12, _)]) r_X10_span_184 rfl ?_
                        refine EV.l (lv' := [(0, _), (1, _), (2, _), (3, _), (4, _), (5, _), (6, _), (7, _), (8, _), (9, _), (10, _), (11, _), (12, _)]) r_X10_span_186 rfl ?_
                        rw [inc_nI]
                        refine EV.g r_X10_span_189 ?_
                        refine EV.fg (lv' := [(0, _), (1, _), (2, _), (3, _), (4, _), (5, _), (6, _), (7, _), (8, _), (9, _), (10, _)]) r_X10_span_76 rfl rfl rfl ?_
                        refine EV.sub ?_ rfl ?_ (ih76 (i + 1, I3) ?_ ?_)
                        · (try dsimp only) <;> (first | (exfalso; omega) | rw [spL_0 (by omega), spM_0 (by omega), spC_t (by assumption)] | rw [Nat.add_zero, spL_0 (by omega), spM_0 (by omega), spC_f (by assumption)] | rw [spL_s (by omega), spM_s (by omega), spC_t (by assumption)] | rw [Nat.add_zero, spL_s (by omega), spM_s (by omega), spC_f (by assumption)])
                        · (try dsimp only) <;> (rfl)
                        · (try dsimp only) <;> (omega)
                        · (try dsimp only) <;> (exact ⟨by omega, fun x a1 a2 a3 => (fr3 x a1 a2 a3).trans (fx x a1 a2 a3)⟩)
                      · -- 175 f
                        refine EV.o r_X10_span_178 (icN (1) (v := 1)) ?_
                        refine EV.g r_X10_span_179 ?_
                        refine EV.o r_X10_span_183 iaddN ?_
                        refine EV.l (lv' := [(0, _), (1, _), (2, _), (3, _), (4, _), (5, _), (6, _), (7, _), (8, _), (9, _), (10, _), (11, _), (12, _)]) r_X10_span_184 rfl ?_
                        refine EV.l (lv' := [(0, _), (1, _), (2, _), (3, _), (4, _), (5, _), (6, _), (7, _), (8, _), (9, _), (10, _), (11, _), (12, _)]) r_X10_span_186 rfl ?_
                        rw [inc_nI]
                        refine EV.g r_X10_span_189 ?_
                        refine EV.fg (lv' := [(0, _), (1, _), (2, _), (3, _), (4, _), (5, _), (6, _), (7, _), (8, _), (9, _), (10, _)]) r_X10_span_76 rfl rfl rfl ?_
                        refine EV.sub ?_ rfl ?_ (ih76 (i + 1, I3) ?_ ?_)
                        · (try dsimp only) <;> (first | (exfalso; omega) | rw [spL_0 (by omega), spM_0 (by omega), spC_t (by assumption)] | rw [Nat.add_zero, spL_0 (by omega), spM_0 (by omega), spC_f (by assumption)] | rw [spL_s (by omega), spM_s (by omega), spC_t (by assumption)] | rw [Nat.add_zero, spL_s (by omega), spM_s (by omega), spC_f (by assumption)])
                        · (try dsimp only) <;> (rfl)
                        · (try dsimp only) <;> (omega)
                        · (try dsimp only) <;> (exact ⟨by omega, fun x a1 a2 a3 => (fr3 x a1 a2 a3).trans (fx x a1 a2 a3)⟩)
              have h0 := L76 ((0, I))
              try dsimp only at h0
              refine EV.sub ?_ rfl ?_ (h0 ?_)
              · (try dsimp only) <;> (rfl)
              · (try dsimp only) <;> (rfl)
              · (try dsimp only) <;> (exact ⟨Nat.zero_le _, fun _ _ _ _ => rfl⟩)
theorem c_spanX1 {d : Nat} {I : Nat → Nat → Int32} {J : Nat → Nat → Int64} {κ : CT} (hc_ : HC 4 κ I) (cb : CB κ) {s : Int32} {w x m : Int32} {q : Int} (q1 : -2147483648 ≤ q) (q2 : q < 2147483648) {n : Int} (n1 : -2147483648 ≤ n) (n2 : n < 2147483648) (h : ¬ (0 ≤ q ∧ q ≤ 16 ∧ 1 ≤ n ∧ n ≤ 48))  (hd : 9 ≤ d) : RX d 151 [.ref 0, .int s, .int m, .int (zI q), .int (zI n), .int w, .int x] I J 1 (fun I' => I' = ref1 I 14) := by
  refine RX.in (d0 := 8) hd mt_151 (Nat.le_of_ble_eq_true rfl) (fun d' hd' => ?_)
  have bns := cb.ns; have bnb := cb.nb; have bnc := cb.nc; have bnr := cb.nr
  show EV none M_X10_span d' 0 [(0, .ref 0), (1, .int s), (2, .int m), (3, .int (zI q)), (4, .int (zI n)), (5, .int w), (6, .int x)] [] (hp I J) _
  refine EV.l (lv' := [(0, _), (1, _), (2, _), (3, _), (4, _), (5, _), (6, _)]) r_X10_span_0 rfl ?_
  refine EV.l (lv' := [(0, _), (1, _), (2, _), (3, _), (4, _), (5, _), (6, _)]) r_X10_span_1 rfl ?_
  refine EV.l (lv' := [(0, _), (1, _), (2, _), (3, _), (4, _), (5, _), (6, _)]) r_X10_span_2 rfl ?_
  exact EV.cx r_X10_span_4 (aV2 mt_157 la_0) (c_chkT0 (by omega) (by omega) (by omega) (by omega) (by omega) (by omega)) (fun _ h => h)
