/-! Questions of the class: FOLLOWS, SAYING, CLEAR. -/
def clrN (κ : CT) (η : HS) (a : Nat) : Nat → Nat
  | 0 => 0
  | k + 1 => clrN κ η a k + (decide (birds κ η (a + k) = 0)).toNat
theorem clrN_le (κ : CT) (η : HS) (a : Nat) : ∀ k, clrN κ η a k ≤ k
  | 0 => Nat.le_refl _
  | k + 1 => by
    have := clrN_le κ η a k
    have h2 : (decide (birds κ η (a + k) = 0)).toNat ≤ 1 := Bool.toNat_le _
    unfold clrN
    omega
theorem clrN_t {κ : CT} {η : HS} {a k : Nat} (h : birds κ η (a + k) = 0) : clrN κ η a k + 1 = clrN κ η a (k + 1) := by show _ = _ + _; rw [decide_eq_true h]; rfl
theorem clrN_f {κ : CT} {η : HS} {a k : Nat} (h : ¬ birds κ η (a + k) = 0) : clrN κ η a k = clrN κ η a (k + 1) := by show _ = _ + _; rw [decide_eq_false h]; rfl
theorem r_X10_checkBits_0 : RW M_X10_checkBits 0 (.aload_n 0) 1 0 0 1 := ⟨rfl, rfl⟩
theorem r_X10_checkBits_1 : RW M_X10_checkBits 1 (.iload_n 1) 1 0 0 2 := ⟨rfl, rfl⟩
theorem r_X10_checkBits_2 : RW M_X10_checkBits 2 (.ifCond .lt 15) 3 17 0 5 := ⟨rfl, rfl⟩
theorem r_X10_checkBits_5 : RW M_X10_checkBits 5 (.iload_n 1) 1 0 0 6 := ⟨rfl, rfl⟩
theorem r_X10_checkBits_6 : RW M_X10_checkBits 6 (.iload_n 2) 1 0 0 7 := ⟨rfl, rfl⟩
theorem r_X10_checkBits_7 : RW M_X10_checkBits 7 (.invokestatic 346) 3 162 0 10 := ⟨rfl, rfl⟩
theorem r_X10_checkBits_10 : RW M_X10_checkBits 10 (.if_icmp .ge 7) 3 17 0 13 := ⟨rfl, rfl⟩
theorem r_X10_checkBits_13 : RW M_X10_checkBits 13 (.iconst 1) 1 0 0 14 := ⟨rfl, rfl⟩
theorem r_X10_checkBits_14 : RW M_X10_checkBits 14 (.goto 4) 3 18 0 17 := ⟨rfl, rfl⟩
theorem r_X10_checkBits_17 : RW M_X10_checkBits 17 (.iconst 0) 1 0 0 18 := ⟨rfl, rfl⟩
theorem r_X10_checkBits_18 : RW M_X10_checkBits 18 (.invokevirtual 175) 3 159 0 21 := ⟨rfl, rfl⟩
theorem r_X10_checkBits_21 : RW M_X10_checkBits 21 (.return_) 1 0 0 22 := ⟨rfl, rfl⟩
theorem r_X10_clear_0 : RW M_X10_clear 0 (.iconst 0) 1 0 0 1 := ⟨rfl, rfl⟩
theorem r_X10_clear_1 : RW M_X10_clear 1 (.istore_n 1) 1 0 0 2 := ⟨rfl, rfl⟩
theorem r_X10_clear_2 : RW M_X10_clear 2 (.aload_n 0) 1 0 0 3 := ⟨rfl, rfl⟩
theorem r_X10_clear_3 : RW M_X10_clear 3 (.getfield 58) 3 10 8 6 := ⟨rfl, rfl⟩
theorem r_X10_clear_6 : RW M_X10_clear 6 (.getfield 188) 3 2 7 9 := ⟨rfl, rfl⟩
theorem r_X10_clear_9 : RW M_X10_clear 9 (.istore_n 2) 1 0 0 10 := ⟨rfl, rfl⟩
theorem r_X10_clear_10 : RW M_X10_clear 10 (.iload_n 2) 1 0 0 11 := ⟨rfl, rfl⟩
theorem r_X10_clear_11 : RW M_X10_clear 11 (.sipush 499) 3 0 0 14 := ⟨rfl, rfl⟩
theorem r_X10_clear_14 : RW M_X10_clear 14 (.if_icmp .gt 23) 3 37 0 17 := ⟨rfl, rfl⟩
theorem r_X10_clear_17 : RW M_X10_clear 17 (.aload_n 0) 1 0 0 18 := ⟨rfl, rfl⟩
theorem r_X10_clear_18 : RW M_X10_clear 18 (.getfield 58) 3 10 8 21 := ⟨rfl, rfl⟩
theorem r_X10_clear_21 : RW M_X10_clear 21 (.iload_n 2) 1 0 0 22 := ⟨rfl, rfl⟩
theorem r_X10_clear_22 : RW M_X10_clear 22 (.invokevirtual 204) 3 34 0 25 := ⟨rfl, rfl⟩
theorem r_X10_clear_25 : RW M_X10_clear 25 (.ifCond .ne 6) 3 31 0 28 := ⟨rfl, rfl⟩
theorem r_X10_clear_28 : RW M_X10_clear 28 (.iinc 1 1) 3 0 0 31 := ⟨rfl, rfl⟩
theorem r_X10_clear_31 : RW M_X10_clear 31 (.iinc 2 1) 3 0 0 34 := ⟨rfl, rfl⟩
theorem r_X10_clear_34 : RW M_X10_clear 34 (.goto (-24)) 3 10 0 37 := ⟨rfl, rfl⟩
theorem r_X10_clear_37 : RW M_X10_clear 37 (.iload_n 1) 1 0 0 38 := ⟨rfl, rfl⟩
theorem r_X10_clear_38 : RW M_X10_clear 38 (.ireturn) 1 0 0 39 := ⟨rfl, rfl⟩
theorem r_X10_follows_0 : RW M_X10_follows 0 (.aload_n 0) 1 0 0 1 := ⟨rfl, rfl⟩
theorem r_X10_follows_1 : RW M_X10_follows 1 (.iload_n 1) 1 0 0 2 := ⟨rfl, rfl⟩
theorem r_X10_follows_2 : RW M_X10_follows 2 (.aload_n 0) 1 0 0 3 := ⟨rfl, rfl⟩
theorem r_X10_follows_3 : RW M_X10_follows 3 (.getfield 19) 3 10 1 6 := ⟨rfl, rfl⟩
theorem r_X10_follows_6 : RW M_X10_follows 6 (.getfield 121) 3 1 10 9 := ⟨rfl, rfl⟩
theorem r_X10_follows_9 : RW M_X10_follows 9 (.invokevirtual 264) 3 158 0 12 := ⟨rfl, rfl⟩
theorem r_X10_follows_12 : RW M_X10_follows 12 (.aload_n 0) 1 0 0 13 := ⟨rfl, rfl⟩
theorem r_X10_follows_13 : RW M_X10_follows 13 (.getfield 19) 3 10 1 16 := ⟨rfl, rfl⟩
theorem r_X10_follows_16 : RW M_X10_follows 16 (.iload_n 1) 1 0 0 17 := ⟨rfl, rfl⟩
theorem r_X10_follows_17 : RW M_X10_follows 17 (.invokevirtual 198) 3 19 0 20 := ⟨rfl, rfl⟩
theorem r_X10_follows_20 : RW M_X10_follows 20 (.ireturn) 1 0 0 21 := ⟨rfl, rfl⟩
theorem r_X10_saying_0 : RW M_X10_saying 0 (.aload_n 0) 1 0 0 1 := ⟨rfl, rfl⟩
theorem r_X10_saying_1 : RW M_X10_saying 1 (.iload_n 1) 1 0 0 2 := ⟨rfl, rfl⟩
theorem r_X10_saying_2 : RW M_X10_saying 2 (.aload_n 0) 1 0 0 3 := ⟨rfl, rfl⟩
theorem r_X10_saying_3 : RW M_X10_saying 3 (.getfield 19) 3 10 1 6 := ⟨rfl, rfl⟩
theorem r_X10_saying_6 : RW M_X10_saying 6 (.getfield 121) 3 1 10 9 := ⟨rfl, rfl⟩
theorem r_X10_saying_9 : RW M_X10_saying 9 (.invokevirtual 210) 3 160 0 12 := ⟨rfl, rfl⟩
theorem r_X10_saying_12 : RW M_X10_saying 12 (.aload_n 0) 1 0 0 13 := ⟨rfl, rfl⟩
theorem r_X10_saying_13 : RW M_X10_saying 13 (.iload_n 2) 1 0 0 14 := ⟨rfl, rfl⟩
theorem r_X10_saying_14 : RW M_X10_saying 14 (.ifCond .lt 12) 3 26 0 17 := ⟨rfl, rfl⟩
theorem r_X10_saying_17 : RW M_X10_saying 17 (.iload_n 2) 1 0 0 18 := ⟨rfl, rfl⟩
theorem r_X10_saying_18 : RW M_X10_saying 18 (.iconst 5) 1 0 0 19 := ⟨rfl, rfl⟩
theorem r_X10_saying_19 : RW M_X10_saying 19 (.if_icmp .gt 7) 3 26 0 22 := ⟨rfl, rfl⟩
theorem r_X10_saying_22 : RW M_X10_saying 22 (.iconst 1) 1 0 0 23 := ⟨rfl, rfl⟩
theorem r_X10_saying_23 : RW M_X10_saying 23 (.goto 4) 3 27 0 26 := ⟨rfl, rfl⟩
theorem r_X10_saying_26 : RW M_X10_saying 26 (.iconst 0) 1 0 0 27 := ⟨rfl, rfl⟩
theorem r_X10_saying_27 : RW M_X10_saying 27 (.invokevirtual 175) 3 159 0 30 := ⟨rfl, rfl⟩
theorem r_X10_saying_30 : RW M_X10_saying 30 (.iload_n 2) 1 0 0 31 := ⟨rfl, rfl⟩
theorem r_X10_saying_31 : RW M_X10_saying 31 (.tableswitch 103 0 4 #[33, 45, 57, 69, 86]) 33 0 0 64 := ⟨rfl, rfl⟩
theorem r_X10_saying_64 : RW M_X10_saying 64 (.aload_n 0) 1 0 0 65 := ⟨rfl, rfl⟩
theorem r_X10_saying_65 : RW M_X10_saying 65 (.getfield 58) 3 10 8 68 := ⟨rfl, rfl⟩
theorem r_X10_saying_68 : RW M_X10_saying 68 (.getfield 213) 3 2 2 71 := ⟨rfl, rfl⟩
theorem r_X10_saying_71 : RW M_X10_saying 71 (.iload_n 1) 1 0 0 72 := ⟨rfl, rfl⟩
theorem r_X10_saying_72 : RW M_X10_saying 72 (.invokevirtual 217) 3 92 0 75 := ⟨rfl, rfl⟩
theorem r_X10_saying_75 : RW M_X10_saying 75 (.ireturn) 1 0 0 76 := ⟨rfl, rfl⟩
theorem r_X10_saying_76 : RW M_X10_saying 76 (.aload_n 0) 1 0 0 77 := ⟨rfl, rfl⟩
theorem r_X10_saying_77 : RW M_X10_saying 77 (.getfield 19) 3 10 1 80 := ⟨rfl, rfl⟩
theorem r_X10_saying_80 : RW M_X10_saying 80 (.getfield 222) 3 1 1 83 := ⟨rfl, rfl⟩
theorem r_X10_saying_83 : RW M_X10_saying 83 (.iload_n 1) 1 0 0 84 := ⟨rfl, rfl⟩
theorem r_X10_saying_84 : RW M_X10_saying 84 (.invokevirtual 217) 3 92 0 87 := ⟨rfl, rfl⟩
theorem r_X10_saying_87 : RW M_X10_saying 87 (.ireturn) 1 0 0 88 := ⟨rfl, rfl⟩
theorem r_X10_saying_88 : RW M_X10_saying 88 (.aload_n 0) 1 0 0 89 := ⟨rfl, rfl⟩
theorem r_X10_saying_89 : RW M_X10_saying 89 (.getfield 19) 3 10 1 92 := ⟨rfl, rfl⟩
theorem r_X10_saying_92 : RW M_X10_saying 92 (.getfield 225) 3 1 2 95 := ⟨rfl, rfl⟩
theorem r_X10_saying_95 : RW M_X10_saying 95 (.iload_n 1) 1 0 0 96 := ⟨rfl, rfl⟩
theorem r_X10_saying_96 : RW M_X10_saying 96 (.invokevirtual 217) 3 92 0 99 := ⟨rfl, rfl⟩
theorem r_X10_saying_99 : RW M_X10_saying 99 (.ireturn) 1 0 0 100 := ⟨rfl, rfl⟩
theorem r_X10_saying_100 : RW M_X10_saying 100 (.aload_n 0) 1 0 0 101 := ⟨rfl, rfl⟩
theorem r_X10_saying_101 : RW M_X10_saying 101 (.getfield 58) 3 10 8 104 := ⟨rfl, rfl⟩
theorem r_X10_saying_104 : RW M_X10_saying 104 (.iload_n 1) 1 0 0 105 := ⟨rfl, rfl⟩
theorem r_X10_saying_105 : RW M_X10_saying 105 (.invokevirtual 228) 3 35 0 108 := ⟨rfl, rfl⟩
theorem r_X10_saying_108 : RW M_X10_saying 108 (.ifCond .eq 7) 3 115 0 111 := ⟨rfl, rfl⟩
theorem r_X10_saying_111 : RW M_X10_saying 111 (.iconst 1) 1 0 0 112 := ⟨rfl, rfl⟩
theorem r_X10_saying_112 : RW M_X10_saying 112 (.goto 4) 3 116 0 115 := ⟨rfl, rfl⟩
theorem r_X10_saying_115 : RW M_X10_saying 115 (.iconst 0) 1 0 0 116 := ⟨rfl, rfl⟩
theorem r_X10_saying_116 : RW M_X10_saying 116 (.ireturn) 1 0 0 117 := ⟨rfl, rfl⟩
theorem r_X10_saying_117 : RW M_X10_saying 117 (.aload_n 0) 1 0 0 118 := ⟨rfl, rfl⟩
theorem r_X10_saying_118 : RW M_X10_saying 118 (.getfield 58) 3 10 8 121 := ⟨rfl, rfl⟩
theorem r_X10_saying_121 : RW M_X10_saying 121 (.iload_n 1) 1 0 0 122 := ⟨rfl, rfl⟩
theorem r_X10_saying_122 : RW M_X10_saying 122 (.invokevirtual 232) 3 40 0 125 := ⟨rfl, rfl⟩
theorem r_X10_saying_125 : RW M_X10_saying 125 (.ifCond .eq 7) 3 132 0 128 := ⟨rfl, rfl⟩
theorem r_X10_saying_128 : RW M_X10_saying 128 (.iconst 1) 1 0 0 129 := ⟨rfl, rfl⟩
theorem r_X10_saying_129 : RW M_X10_saying 129 (.goto 4) 3 133 0 132 := ⟨rfl, rfl⟩
theorem r_X10_saying_132 : RW M_X10_saying 132 (.iconst 0) 1 0 0 133 := ⟨rfl, rfl⟩
theorem r_X10_saying_133 : RW M_X10_saying 133 (.ireturn) 1 0 0 134 := ⟨rfl, rfl⟩
theorem r_X10_saying_134 : RW M_X10_saying 134 (.aload_n 0) 1 0 0 135 := ⟨rfl, rfl⟩
theorem r_X10_saying_135 : RW M_X10_saying 135 (.getfield 58) 3 10 8 138 := ⟨rfl, rfl⟩
theorem r_X10_saying_138 : RW M_X10_saying 138 (.aload_n 0) 1 0 0 139 := ⟨rfl, rfl⟩
theorem r_X10_saying_139 : RW M_X10_saying 139 (.getfield 58) 3 10 8 142 := ⟨rfl, rfl⟩
theorem r_X10_saying_142 : RW M_X10_saying 142 (.getfield 213) 3 2 2 145 := ⟨rfl, rfl⟩
theorem r_X10_saying_145 : RW M_X10_saying 145 (.iload_n 1) 1 0 0 146 := ⟨rfl, rfl⟩
theorem r_X10_saying_146 : RW M_X10_saying 146 (.invokevirtual 217) 3 92 0 149 := ⟨rfl, rfl⟩
theorem r_X10_saying_149 : RW M_X10_saying 149 (.invokevirtual 204) 3 34 0 152 := ⟨rfl, rfl⟩
theorem r_X10_saying_152 : RW M_X10_saying 152 (.ireturn) 1 0 0 153 := ⟨rfl, rfl⟩
theorem c_bits1 {d : Nat} {I : Nat → Nat → Int32} {J : Nat → Nat → Int64} {x n : Nat} (h : x < 2 ^ n) (hn : n < 20) (hd : 2 ≤ d) : RU d 158 [.ref 0, .int (nI x), .int (nI n)] I J (fun I' => I' = I) := by
  refine RU.in (d0 := 1) hd mt_158 (Nat.le_of_ble_eq_true rfl) (fun d' hd' => ?_)
  have b1 : 2 ^ n < 2 ^ 20 := Nat.pow_lt_pow_right (by decide) hn
  show EV none M_X10_checkBits d' 0 [(0, .ref 0), (1, .int (nI x)), (2, .int (nI n))] [] (hp I J) _
  refine EV.l (lv' := [(0, _), (1, _), (2, _)]) r_X10_checkBits_0 rfl ?_
  refine EV.l (lv' := [(0, _), (1, _), (2, _)]) r_X10_checkBits_1 rfl ?_
  refine EV.n0_lt r_X10_checkBits_2 (fun h2 => ?_) (fun h2 => ?_)
  · omega
  · -- 2 f
    refine EV.l (lv' := [(0, _), (1, _), (2, _)]) r_X10_checkBits_5 rfl ?_
    refine EV.l (lv' := [(0, _), (1, _), (2, _)]) r_X10_checkBits_6 rfl ?_
    refine EV.cv r_X10_checkBits_7 (aS1 mt_162) (c_bit (by omega) (by omega)) ?_
    refine EV.n2_ge r_X10_checkBits_10 (fun h10 => ?_) (fun h10 => ?_)
    · omega
    · -- 10 f
      refine EV.o r_X10_checkBits_13 (icN (1) (v := 1)) ?_
      refine EV.g r_X10_checkBits_14 ?_
      refine EV.cu r_X10_checkBits_18 (aV1 mt_159 la_0) (c_arg1 (by omega)) (fun I2 e2 => ?_)
      subst e2
      exact EV.ru r_X10_checkBits_21 (rfl)
theorem c_bits0 {d : Nat} {I : Nat → Nat → Int32} {J : Nat → Nat → Int64} {x : Int32} {n : Nat} (h : x < 0 ∨ nI (2 ^ n) ≤ x) (hn : n < 20) (hd : 2 ≤ d) : RX d 158 [.ref 0, .int x, .int (nI n)] I J 1 (fun I' => I' = ref1 I 14) := by
  refine RX.in (d0 := 1) hd mt_158 (Nat.le_of_ble_eq_true rfl) (fun d' hd' => ?_)
  show EV none M_X10_checkBits d' 0 [(0, .ref 0), (1, .int x), (2, .int (nI n))] [] (hp I J) _
  refine EV.l (lv' := [(0, _), (1, _), (2, _)]) r_X10_checkBits_0 rfl ?_
  refine EV.l (lv' := [(0, _), (1, _), (2, _)]) r_X10_checkBits_1 rfl ?_
  refine EV.r0_lt r_X10_checkBits_2 (fun h2 => ?_) (fun h2 => ?_)
  · -- 2 t
    refine EV.o r_X10_checkBits_17 (icN (0) (v := 0)) ?_
    exact EV.cx r_X10_checkBits_18 (aV1 mt_159 la_0) (c_arg0 (by omega)) (fun _ h => h)
  · -- 2 f
    refine EV.l (lv' := [(0, _), (1, _), (2, _)]) r_X10_checkBits_5 rfl ?_
    refine EV.l (lv' := [(0, _), (1, _), (2, _)]) r_X10_checkBits_6 rfl ?_
    refine EV.cv r_X10_checkBits_7 (aS1 mt_162) (c_bit (by omega) (by omega)) ?_
    refine EV.r2_ge r_X10_checkBits_10 (fun h10 => ?_) (fun h10 => ?_)
    · -- 10 t
      refine EV.o r_X10_checkBits_17 (icN (0) (v := 0)) ?_
      exact EV.cx r_X10_checkBits_18 (aV1 mt_159 la_0) (c_arg0 (by omega)) (fun _ h => h)
    · exact absurd h (fun z => z.elim h2 h10)
theorem c_follows {d : Nat} {I : Nat → Nat → Int32} {J : Nat → Nat → Int64} {κ : CT} {η : HS} (hc : HC 4 κ I) (cb : CB κ) (hh : HH 71 η I) (hb : HB κ η) (hw : HW κ η) {x : Nat} (hx : x < 2 ^ κ.ns)  (hd : 7 ≤ d) : RV d 129 [.ref 0, .int (nI x)] I J (nI (clo κ x)) := by
  refine RV.in (d0 := 6) hd mt_129 (Nat.le_of_ble_eq_true rfl) (fun d' hd' => ?_)
  have bns := cb.ns; have bnb := cb.nb; have bnc := cb.nc; have bnr := cb.nr
  show EV none M_X10_follows d' 0 [(0, .ref 0), (1, .int (nI x))] [] (hp I J) _
  refine EV.l (lv' := [(0, _), (1, _)]) r_X10_follows_0 rfl ?_
  refine EV.l (lv' := [(0, _), (1, _)]) r_X10_follows_1 rfl ?_
  refine EV.l (lv' := [(0, _), (1, _)]) r_X10_follows_2 rfl ?_
  refine EV.gR r_X10_follows_3 la_0 ?_
  refine EV.getV r_X10_follows_6 la_4 (hc.ns) ?_
  refine EV.cu r_X10_follows_9 (aV2 mt_158 la_0) (c_bits1 (by assumption) (by omega) (by omega)) (fun I2 e2 => ?_)
  subst e2
  refine EV.l (lv' := [(0, _), (1, _)]) r_X10_follows_12 rfl ?_
  refine EV.gR r_X10_follows_13 la_0 ?_
  refine EV.l (lv' := [(0, _), (1, _)]) r_X10_follows_16 rfl ?_
  refine EV.cv r_X10_follows_17 (aV1 mt_19 la_4) (b_closure hc cb hx (by omega)) ?_
  exact EV.rv r_X10_follows_20 (rfl)
theorem c_followsX {d : Nat} {I : Nat → Nat → Int32} {J : Nat → Nat → Int64} {κ : CT} {η : HS} (hc : HC 4 κ I) (cb : CB κ) (hh : HH 71 η I) (hb : HB κ η) (hw : HW κ η) {x : Int32} (hx : x < 0 ∨ nI (2 ^ κ.ns) ≤ x)  (hd : 7 ≤ d) : RX d 129 [.ref 0, .int x] I J 1 (fun I' => I' = ref1 I 14) := by
  refine RX.in (d0 := 6) hd mt_129 (Nat.le_of_ble_eq_true rfl) (fun d' hd' => ?_)
  have bns := cb.ns; have bnb := cb.nb; have bnc := cb.nc; have bnr := cb.nr
  show EV none M_X10_follows d' 0 [(0, .ref 0), (1, .int x)] [] (hp I J) _
  refine EV.l (lv' := [(0, _), (1, _)]) r_X10_follows_0 rfl ?_
  refine EV.l (lv' := [(0, _), (1, _)]) r_X10_follows_1 rfl ?_
  refine EV.l (lv' := [(0, _), (1, _)]) r_X10_follows_2 rfl ?_
  refine EV.gR r_X10_follows_3 la_0 ?_
  refine EV.getV r_X10_follows_6 la_4 (hc.ns) ?_
  exact EV.cx r_X10_follows_9 (aV2 mt_158 la_0) (c_bits0 hx (by omega) (by omega)) (fun _ h => h)
theorem c_saying0 {d : Nat} {I : Nat → Nat → Int32} {J : Nat → Nat → Int64} {κ : CT} {η : HS} (hc : HC 4 κ I) (cb : CB κ) (hh : HH 71 η I) (hb : HB κ η) (hw : HW κ η) {i : Nat} (hi : i < κ.ns)  (hd : 7 ≤ d) : RV d 122 [.ref 0, .int (nI i), .int (nI 0)] I J (nI (η.sa i)) := by
  refine RV.in (d0 := 6) hd mt_122 (Nat.le_of_ble_eq_true rfl) (fun d' hd' => ?_)
  have bns := cb.ns; have bnb := cb.nb; have bnc := cb.nc; have bnr := cb.nr
  have bs := hb.sa i
  show EV none M_X10_saying d' 0 [(0, .ref 0), (1, .int (nI i)), (2, .int (nI 0))] [] (hp I J) _
  refine EV.l (lv' := [(0, _), (1, _), (2, _)]) r_X10_saying_0 rfl ?_
  refine EV.l (lv' := [(0, _), (1, _), (2, _)]) r_X10_saying_1 rfl ?_
  refine EV.l (lv' := [(0, _), (1, _), (2, _)]) r_X10_saying_2 rfl ?_
  refine EV.gR r_X10_saying_3 la_0 ?_
  refine EV.getV r_X10_saying_6 la_4 (hc.ns) ?_
  refine EV.cu r_X10_saying_9 (aV2 mt_160 la_0) (c_there1 (by assumption) (by omega) (by omega)) (fun I2 e2 => ?_)
  subst e2
  refine EV.l (lv' := [(0, _), (1, _), (2, _)]) r_X10_saying_12 rfl ?_
  refine EV.l (lv' := [(0, _), (1, _), (2, _)]) r_X10_saying_13 rfl ?_
  refine EV.n0_lt r_X10_saying_14 (fun h14 => ?_) (fun h14 => ?_)
  · omega
  · -- 14 f
    refine EV.l (lv' := [(0, _), (1, _), (2, _)]) r_X10_saying_17 rfl ?_
    refine EV.o r_X10_saying_18 (icN (5) (v := 5)) ?_
    refine EV.n2_gt r_X10_saying_19 (fun h19 => ?_) (fun h19 => ?_)
    · omega
    · -- 19 f
      refine EV.o r_X10_saying_22 (icN (1) (v := 1)) ?_
      refine EV.g r_X10_saying_23 ?_
      refine EV.cu r_X10_saying_27 (aV1 mt_159 la_0) (c_arg1 (by omega)) (fun I2 e2 => ?_)
      subst e2
      refine EV.l (lv' := [(0, _), (1, _), (2, _)]) r_X10_saying_30 rfl ?_
      refine EV.ts (q := 64) r_X10_saying_31 (by decide +kernel) ?_
      refine EV.l (lv' := [(0, _), (1, _), (2, _)]) r_X10_saying_64 rfl ?_
      refine EV.gR r_X10_saying_65 la_0 ?_
      refine EV.gR r_X10_saying_68 la_71 ?_
      refine EV.l (lv' := [(0, _), (1, _), (2, _)]) r_X10_saying_71 rfl ?_
      refine EV.cv r_X10_saying_72 (aV1 mt_92 la_72) (c_getN (by omega) la_72 la_73 (hh.sa _ (by omega))) ?_
      exact EV.rv r_X10_saying_75 (rfl)
theorem c_saying1 {d : Nat} {I : Nat → Nat → Int32} {J : Nat → Nat → Int64} {κ : CT} {η : HS} (hc : HC 4 κ I) (cb : CB κ) (hh : HH 71 η I) (hb : HB κ η) (hw : HW κ η) {i : Nat} (hi : i < κ.ns)  (hd : 7 ≤ d) : RV d 122 [.ref 0, .int (nI i), .int (nI 1)] I J (nI (κ.ss i)) := by
  refine RV.in (d0 := 6) hd mt_122 (Nat.le_of_ble_eq_true rfl) (fun d' hd' => ?_)
  have bns := cb.ns; have bnb := cb.nb; have bnc := cb.nc; have bnr := cb.nr
  have bs := hb.sa i
  show EV none M_X10_saying d' 0 [(0, .ref 0), (1, .int (nI i)), (2, .int (nI 1))] [] (hp I J) _
  refine EV.l (lv' := [(0, _), (1, _), (2, _)]) r_X10_saying_0 rfl ?_
  refine EV.l (lv' := [(0, _), (1, _), (2, _)]) r_X10_saying_1 rfl ?_
  refine EV.l (lv' := [(0, _), (1, _), (2, _)]) r_X10_saying_2 rfl ?_
  refine EV.gR r_X10_saying_3 la_0 ?_
  refine EV.getV r_X10_saying_6 la_4 (hc.ns) ?_
  refine EV.cu r_X10_saying_9 (aV2 mt_160 la_0) (c_there1 (by assumption) (by omega) (by omega)) (fun I2 e2 => ?_)
  subst e2
  refine EV.l (lv' := [(0, _), (1, _), (2, _)]) r_X10_saying_12 rfl ?_
  refine EV.l (lv' := [(0, _), (1, _), (2, _)]) r_X10_saying_13 rfl ?_
  refine EV.n0_lt r_X10_saying_14 (fun h14 => ?_) (fun h14 => ?_)
  · omega
  · -- 14 f
    refine EV.l (lv' := [(0, _), (1, _), (2, _)]) r_X10_saying_17 rfl ?_
    refine EV.o r_X10_saying_18 (icN (5) (v := 5)) ?_
    refine EV.n2_gt r_X10_saying_19 (fun h19 => ?_) (fun h19 => ?_)
    · omega
    · -- 19 f
      refine EV.o r_X10_saying_22 (icN (1) (v := 1)) ?_
      refine EV.g r_X10_saying_23 ?_
      refine EV.cu r_X10_saying_27 (aV1 mt_159 la_0) (c_arg1 (by omega)) (fun I2 e2 => ?_)
      subst e2
      refine EV.l (lv' := [(0, _), (1, _), (2, _)]) r_X10_saying_30 rfl ?_
      refine EV.ts (q := 76) r_X10_saying_31 (by decide +kernel) ?_
      refine EV.l (lv' := [(0, _), (1, _), (2, _)]) r_X10_saying_76 rfl ?_
      refine EV.gR r_X10_saying_77 la_0 ?_
      refine EV.gR r_X10_saying_80 la_4 ?_
      refine EV.l (lv' := [(0, _), (1, _), (2, _)]) r_X10_saying_83 rfl ?_
      refine EV.cv r_X10_saying_84 (aV1 mt_92 la_7) (c_getN (by omega) la_7 la_8 (hc.ss _ (by omega))) ?_
      exact EV.rv r_X10_saying_87 (rfl)
theorem c_saying2 {d : Nat} {I : Nat → Nat → Int32} {J : Nat → Nat → Int64} {κ : CT} {η : HS} (hc : HC 4 κ I) (cb : CB κ) (hh : HH 71 η I) (hb : HB κ η) (hw : HW κ η) {i : Nat} (hi : i < κ.ns)  (hd : 7 ≤ d) : RV d 122 [.ref 0, .int (nI i), .int (nI 2)] I J (nI (κ.sw i)) := by
  refine RV.in (d0 := 6) hd mt_122 (Nat.le_of_ble_eq_true rfl) (fun d' hd' => ?_)
  have bns := cb.ns; have bnb := cb.nb; have bnc := cb.nc; have bnr := cb.nr
  have bs := hb.sa i
  show EV none M_X10_saying d' 0 [(0, .ref 0), (1, .int (nI i)), (2, .int (nI 2))] [] (hp I J) _
  refine EV.l (lv' := [(0, _), (1, _), (2, _)]) r_X10_saying_0 rfl ?_
  refine EV.l (lv' := [(0, _), (1, _), (2, _)]) r_X10_saying_1 rfl ?_
  refine EV.l (lv' := [(0, _), (1, _), (2, _)]) r_X10_saying_2 rfl ?_
  refine EV.gR r_X10_saying_3 la_0 ?_
  refine EV.getV r_X10_saying_6 la_4 (hc.ns) ?_
  refine EV.cu r_X10_saying_9 (aV2 mt_160 la_0) (c_there1 (by assumption) (by omega) (by omega)) (fun I2 e2 => ?_)
  subst e2
  refine EV.l (lv' := [(0, _), (1, _), (2, _)]) r_X10_saying_12 rfl ?_
  refine EV.l (lv' := [(0, _), (1, _), (2, _)]) r_X10_saying_13 rfl ?_
  refine EV.n0_lt r_X10_saying_14 (fun h14 => ?_) (fun h14 => ?_)
  · omega
  · -- 14 f
    refine EV.l (lv' := [(0, _), (1, _), (2, _)]) r_X10_saying_17 rfl ?_
    refine EV.o r_X10_saying_18 (icN (5) (v := 5)) ?_
    refine EV.n2_gt r_X10_saying_19 (fun h19 => ?_) (fun h19 => ?_)
    · omega
    · -- 19 f
      refine EV.o r_X10_saying_22 (icN (1) (v := 1)) ?_
      refine EV.g r_X10_saying_23 ?_
      refine EV.cu r_X10_saying_27 (aV1 mt_159 la_0) (c_arg1 (by omega)) (fun I2 e2 => ?_)
      subst e2
      refine EV.l (lv' := [(0, _), (1, _), (2, _)]) r_X10_saying_30 rfl ?_
      refine EV.ts (q := 88) r_X10_saying_31 (by decide +kernel) ?_
      refine EV.l (lv' := [(0, _), (1, _), (2, _)]) r_X10_saying_88 rfl ?_
      refine EV.gR r_X10_saying_89 la_0 ?_
      refine EV.gR r_X10_saying_92 la_4 ?_
      refine EV.l (lv' := [(0, _), (1, _), (2, _)]) r_X10_saying_95 rfl ?_
      refine EV.cv r_X10_saying_96 (aV1 mt_92 la_9) (c_getN (by omega) la_9 la_10 (hc.sw _ (by omega))) ?_
      exact EV.rv r_X10_saying_99 (rfl)
theorem c_saying3 {d : Nat} {I : Nat → Nat → Int32} {J : Nat → Nat → Int64} {κ : CT} {η : HS} (hc : HC 4 κ I) (cb : CB κ) (hh : HH 71 η I) (hb : HB κ η) (hw : HW κ η) {i : Nat} (hi : i < κ.ns)  (hd : 7 ≤ d) : RV d 122 [.ref 0, .int (nI i), .int (nI 3)] I J (nI ((doesC κ η i).toNat)) := by
  refine RV.in (d0 := 6) hd mt_122 (Nat.le_of_ble_eq_true rfl) (fun d' hd' => ?_)
  have bns := cb.ns; have bnb := cb.nb; have bnc := cb.nc; have bnr := cb.nr
  have bs := hb.sa i
  show EV none M_X10_saying d' 0 [(0, .ref 0), (1, .int (nI i)), (2, .int (nI 3))] [] (hp I J) _
  refine EV.l (lv' := [(0, _), (1, _), (2, _)]) r_X10_saying_0 rfl ?_
  refine EV.l (lv' := [(0, _), (1, _), (2, _)]) r_X10_saying_1 rfl ?_
  refine EV.l (lv' := [(0, _), (1, _), (2, _)]) r_X10_saying_2 rfl ?_
  refine EV.gR r_X10_saying_3 la_0 ?_
  refine EV.getV r_X10_saying_6 la_4 (hc.ns) ?_
  refine EV.cu r_X10_saying_9 (aV2 mt_160 la_0) (c_there1 (by assumption) (by omega) (by omega)) (fun I2 e2 => ?_)
  subst e2
  refine EV.l (lv' := [(0, _), (1, _), (2, _)]) r_X10_saying_12 rfl ?_
  refine EV.l (lv' := [(0, _), (1, _), (2, _)]) r_X10_saying_13 rfl ?_
  refine EV.n0_lt r_X10_saying_14 (fun h14 => ?_) (fun h14 => ?_)
  · omega
  · -- 14 f
    refine EV.l (lv' := [(0, _), (1, _), (2, _)]) r_X10_saying_17 rfl ?_
    refine EV.o r_X10_saying_18 (icN (5) (v := 5)) ?_
    refine EV.n2_gt r_X10_saying_19 (fun h19 => ?_) (fun h19 => ?_)
    · omega
    · -- 19 f
      refine EV.o r_X10_saying_22 (icN (1) (v := 1)) ?_
      refine EV.g r_X10_saying_23 ?_
      refine EV.cu r_X10_saying_27 (aV1 mt_159 la_0) (c_arg1 (by omega)) (fun I2 e2 => ?_)
      subst e2
      refine EV.l (lv' := [(0, _), (1, _), (2, _)]) r_X10_saying_30 rfl ?_
      refine EV.ts (q := 100) r_X10_saying_31 (by decide +kernel) ?_
      refine EV.l (lv' := [(0, _), (1, _), (2, _)]) r_X10_saying_100 rfl ?_
      refine EV.gR r_X10_saying_101 la_0 ?_
      refine EV.l (lv' := [(0, _), (1, _), (2, _)]) r_X10_saying_104 rfl ?_
      refine EV.cv r_X10_saying_105 (aV1 mt_35 la_71) (c71_does hc cb hh hb hw (by omega) (by omega)) ?_
      refine EV.b0_eq r_X10_saying_108 (fun h108 => ?_) (fun h108 => ?_)
      · -- 108 t
        refine EV.o r_X10_saying_115 (icN (0) (v := 0)) ?_
        exact EV.rv r_X10_saying_116 (by rw [h108]; rfl)
      · -- 108 f
        refine EV.o r_X10_saying_111 (icN (1) (v := 1)) ?_
        refine EV.g r_X10_saying_112 ?_
        exact EV.rv r_X10_saying_116 (by rw [h108]; rfl)
theorem c_saying4 {d : Nat} {I : Nat → Nat → Int32} {J : Nat → Nat → Int64} {κ : CT} {η : HS} (hc : HC 4 κ I) (cb : CB κ) (hh : HH 71 η I) (hb : HB κ η) (hw : HW κ η) {i : Nat} (hi : i < κ.ns)  (hd : 7 ≤ d) : RV d 122 [.ref 0, .int (nI i), .int (nI 4)] I J (nI ((η.nt.testBit i).toNat)) := by
  refine RV.in (d0 := 6) hd mt_122 (Nat.le_of_ble_eq_true rfl) (fun d' hd' => ?_)
  have bns := cb.ns; have bnb := cb.nb; have bnc := cb.nc; have bnr := cb.nr
  have bs := hb.sa i
  show EV none M_X10_saying d' 0 [(0, .ref 0), (1, .int (nI i)), (2, .int (nI 4))] [] (hp I J) _
  refine EV.l (lv' := [(0, _), (1, _), (2, _)]) r_X10_saying_0 rfl ?_
  refine EV.l (lv' := [(0, _), (1, _), (2, _)]) r_X10_saying_1 rfl ?_
  refine EV.l (lv' := [(0, _), (1, _), (2, _)]) r_X10_saying_2 rfl ?_
  refine EV.gR r_X10_saying_3 la_0 ?_
  refine EV.getV r_X10_saying_6 la_4 (hc.ns) ?_
  refine EV.cu r_X10_saying_9 (aV2 mt_160 la_0) (c_there1 (by assumption) (by omega) (by omega)) (fun I2 e2 => ?_)
  subst e2
  refine EV.l (lv' := [(0, _), (1, _), (2, _)]) r_X10_saying_12 rfl ?_
  refine EV.l (lv' := [(0, _), (1, _), (2, _)]) r_X10_saying_13 rfl ?_
  refine EV.n0_lt r_X10_saying_14 (fun h14 => ?_) (fun h14 => ?_)
  · omega
  · -- 14 f
    refine EV.l (lv' := [(0, _), (1, _), (2, _)]) r_X10_saying_17 rfl ?_
    refine EV.o r_X10_saying_18 (icN (5) (v := 5)) ?_
    refine EV.n2_gt r_X10_saying_19 (fun h19 => ?_) (fun h19 => ?_)
    · omega
    · -- 19 f
      refine EV.o r_X10_saying_22 (icN (1) (v := 1)) ?_
      refine EV.g r_X10_saying_23 ?_
      refine EV.cu r_X10_saying_27 (aV1 mt_159 la_0) (c_arg1 (by omega)) (fun I2 e2 => ?_)
      subst e2
      refine EV.l (lv' := [(0, _), (1, _), (2, _)]) r_X10_saying_30 rfl ?_
      refine EV.ts (q := 117) r_X10_saying_31 (by decide +kernel) ?_
      refine EV.l (lv' := [(0, _), (1, _), (2, _)]) r_X10_saying_117 rfl ?_
      refine EV.gR r_X10_saying_118 la_0 ?_
      refine EV.l (lv' := [(0, _), (1, _), (2, _)]) r_X10_saying_121 rfl ?_
      refine EV.cv r_X10_saying_122 (aV1 mt_40 la_71) (c71_isNoted hc cb hh hb (by omega) (by omega)) ?_
      refine EV.b0_eq r_X10_saying_125 (fun h125 => ?_) (fun h125 => ?_)
      · -- 125 t
        refine EV.o r_X10_saying_132 (icN (0) (v := 0)) ?_
        exact EV.rv r_X10_saying_133 (by rw [h125]; rfl)
      · -- 125 f
        refine EV.o r_X10_saying_128 (icN (1) (v := 1)) ?_
        refine EV.g r_X10_saying_129 ?_
        exact EV.rv r_X10_saying_133 (by rw [h125]; rfl)
theorem c_saying5 {d : Nat} {I : Nat → Nat → Int32} {J : Nat → Nat → Int64} {κ : CT} {η : HS} (hc : HC 4 κ I) (cb : CB κ) (hh : HH 71 η I) (hb : HB κ η) (hw : HW κ η) {i : Nat} (hi : i < κ.ns)  (hd : 7 ≤ d) : RV d 122 [.ref 0, .int (nI i), .int (nI 5)] I J (nI (birds κ η (η.sa i))) := by
  refine RV.in (d0 := 6) hd mt_122 (Nat.le_of_ble_eq_true rfl) (fun d' hd' => ?_)
  have bns := cb.ns; have bnb := cb.nb; have bnc := cb.nc; have bnr := cb.nr
  have bs := hb.sa i
  show EV none M_X10_saying d' 0 [(0, .ref 0), (1, .int (nI i)), (2, .int (nI 5))] [] (hp I J) _
  refine EV.l (lv' := [(0, _), (1, _), (2, _)]) r_X10_saying_0 rfl ?_
  refine EV.l (lv' := [(0, _), (1, _), (2, _)]) r_X10_saying_1 rfl ?_
  refine EV.l (lv' := [(0, _), (1, _), (2, _)]) r_X10_saying_2 rfl ?_
  refine EV.gR r_X10_saying_3 la_0 ?_
  refine EV.getV r_X10_saying_6 la_4 (hc.ns) ?_
  refine EV.cu r_X10_saying_9 (aV2 mt_160 la_0) (c_there1 (by assumption) (by omega) (by omega)) (fun I2 e2 => ?_)
  subst e2
  refine EV.l (lv' := [(0, _), (1, _), (2, _)]) r_X10_saying_12 rfl ?_
  refine EV.l (lv' := [(0, _), (1, _), (2, _)]) r_X10_saying_13 rfl ?_
  refine EV.n0_lt r_X10_saying_14 (fun h14 => ?_) (fun h14 => ?_)
  · omega
  · -- 14 f
    refine EV.l (lv' := [(0, _), (1, _), (2, _)]) r_X10_saying_17 rfl ?_
    refine EV.o r_X10_saying_18 (icN (5) (v := 5)) ?_
    refine EV.n2_gt r_X10_saying_19 (fun h19 => ?_) (fun h19 => ?_)
    · omega
    · -- 19 f
      refine EV.o r_X10_saying_22 (icN (1) (v := 1)) ?_
      refine EV.g r_X10_saying_23 ?_
      refine EV.cu r_X10_saying_27 (aV1 mt_159 la_0) (c_arg1 (by omega)) (fun I2 e2 => ?_)
      subst e2
      refine EV.l (lv' := [(0, _), (1, _), (2, _)]) r_X10_saying_30 rfl ?_
      refine EV.ts (q := 134) r_X10_saying_31 (by decide +kernel) ?_
      refine EV.l (lv' := [(0, _), (1, _), (2, _)]) r_X10_saying_134 rfl ?_
      refine EV.gR r_X10_saying_135 la_0 ?_
      refine EV.l (lv' := [(0, _), (1, _), (2, _)]) r_X10_saying_138 rfl ?_
      refine EV.gR r_X10_saying_139 la_0 ?_
      refine EV.gR r_X10_saying_142 la_71 ?_
      refine EV.l (lv' := [(0, _), (1, _), (2, _)]) r_X10_saying_145 rfl ?_
      refine EV.cv r_X10_saying_146 (aV1 mt_92 la_72) (c_getN (by omega) la_72 la_73 (hh.sa _ (by omega))) ?_
      refine EV.cv r_X10_saying_149 (aV1 mt_34 la_71) (c71_birdsOn hc cb hh hb hw (by omega) (by omega)) ?_
      exact EV.rv r_X10_saying_152 (rfl)
theorem c_sayingT {d : Nat} {I : Nat → Nat → Int32} {J : Nat → Nat → Int64} {κ : CT} {η : HS} (hc : HC 4 κ I) (cb : CB κ) (hh : HH 71 η I) (hb : HB κ η) (hw : HW κ η) {x y : Int32} (hx : x < 0 ∨ nI κ.ns ≤ x)  (hd : 7 ≤ d) : RX d 122 [.ref 0, .int x, .int y] I J 0 (fun I' => I' = ref1 I 13) := by
  refine RX.in (d0 := 6) hd mt_122 (Nat.le_of_ble_eq_true rfl) (fun d' hd' => ?_)
  show EV none M_X10_saying d' 0 [(0, .ref 0), (1, .int x), (2, .int y)] [] (hp I J) _
  refine EV.l (lv' := [(0, _), (1, _), (2, _)]) r_X10_saying_0 rfl ?_
  refine EV.l (lv' := [(0, _), (1, _), (2, _)]) r_X10_saying_1 rfl ?_
  refine EV.l (lv' := [(0, _), (1, _), (2, _)]) r_X10_saying_2 rfl ?_
  refine EV.gR r_X10_saying_3 la_0 ?_
  refine EV.getV r_X10_saying_6 la_4 (hc.ns) ?_
  exact EV.cx r_X10_saying_9 (aV2 mt_160 la_0) (c_there0 hx (by omega)) (fun _ h => h)
theorem c_sayingX {d : Nat} {I : Nat → Nat → Int32} {J : Nat → Nat → Int64} {κ : CT} {η : HS} (hc : HC 4 κ I) (cb : CB κ) (hh : HH 71 η I) (hb : HB κ η) (hw : HW κ η) {i : Nat} (hi : i < κ.ns) {y : Int32} (hy : y < 0 ∨ nI 5 < y)  (hd : 7 ≤ d) : RX d 122 [.ref 0, .int (nI i), .int y] I J 1 (fun I' => I' = ref1 I 14) := by
  refine RX.in (d0 := 6) hd mt_122 (Nat.le_of_ble_eq_true rfl) (fun d' hd' => ?_)
  have bns := cb.ns; have bnb := cb.nb; have bnc := cb.nc; have bnr := cb.nr
  show EV none M_X10_saying d' 0 [(0, .ref 0), (1, .int (nI i)), (2, .int y)] [] (hp I J) _
  refine EV.l (lv' := [(0, _), (1, _), (2, _)]) r_X10_saying_0 rfl ?_
  refine EV.l (lv' := [(0, _), (1, _), (2, _)]) r_X10_saying_1 rfl ?_
  refine EV.l (lv' := [(0, _), (1, _), (2, _)]) r_X10_saying_2 rfl ?_
  refine EV.gR r_X10_saying_3 la_0 ?_
  refine EV.getV r_X10_saying_6 la_4 (hc.ns) ?_
  refine EV.cu r_X10_saying_9 (aV2 mt_160 la_0) (c_there1 (by assumption) (by omega) (by omega)) (fun I2 e2 => ?_)
  subst e2
  refine EV.l (lv' := [(0, _), (1, _), (2, _)]) r_X10_saying_12 rfl ?_
  refine EV.l (lv' := [(0, _), (1, _), (2, _)]) r_X10_saying_13 rfl ?_
  refine EV.r0_lt r_X10_saying_14 (fun h14 => ?_) (fun h14 => ?_)
  · -- 14 t
    refine EV.o r_X10_saying_26 (icN (0) (v := 0)) ?_
    exact EV.cx r_X10_saying_27 (aV1 mt_159 la_0) (c_arg0 (by omega)) (fun _ h => h)
  · -- 14 f
    refine EV.l (lv' := [(0, _), (1, _), (2, _)]) r_X10_saying_17 rfl ?_
    refine EV.o r_X10_saying_18 (icN (5) (v := 5)) ?_
    refine EV.r2_gt r_X10_saying_19 (fun h19 => ?_) (fun h19 => ?_)
    · -- 19 t
      refine EV.o r_X10_saying_26 (icN (0) (v := 0)) ?_
      exact EV.cx r_X10_saying_27 (aV1 mt_159 la_0) (c_arg0 (by omega)) (fun _ h => h)
    · exact absurd hy (fun z => z.elim h14 h19)
theorem c_clear {d : Nat} {I : Nat → Nat → Int32} {J : Nat → Nat → Int64} {κ : CT} {η : HS} (hc : HC 4 κ I) (cb : CB κ) (hh : HH 71 η I) (hb : HB κ η) (hw : HW κ η)  (hd : 7 ≤ d) : RV d 127 [.ref 0] I J (nI (clrN κ η η.mi (500 - η.mi))) := by
  refine RV.in (d0 := 6) hd mt_127 (Nat.le_of_ble_eq_true rfl) (fun d' hd' => ?_)
  have bns := cb.ns; have bnb := cb.nb; have bnc := cb.nc; have bnr := cb.nr
  have bm := hb.mi
  show EV none M_X10_clear d' 0 [(0, .ref 0)] [] (hp I J) _
  refine EV.o r_X10_clear_0 (icN (0) (v := 0)) ?_
  refine EV.l (lv' := [(0, _), (1, _)]) r_X10_clear_1 rfl ?_
  refine EV.l (lv' := [(0, _), (1, _)]) r_X10_clear_2 rfl ?_
  refine EV.gR r_X10_clear_3 la_0 ?_
  refine EV.getV r_X10_clear_6 la_71 (hh.mi) ?_
  refine EV.l (lv' := [(0, _), (1, _), (2, _)]) r_X10_clear_9 rfl ?_
  have L10 : ∀ y_ : Nat, (fun k => k ≤ 500 - η.mi → EV none M_X10_clear d' 10 [(0, .ref 0), (1, .int (nI (clrN κ η η.mi k))), (2, .int (nI (η.mi + k)))] [] (hp I J) (QV I J (nI (clrN κ η η.mi (500 - η.mi))))) y_ := by
    refine ev_loop (fun k => 500 - η.mi - k) ?_
    intro k ih10 hx10
    try dsimp only at ih10
    try dsimp only at hx10
    try dsimp only
    have cl := clrN_le κ η η.mi k; have cb2 : birds κ η (η.mi + k) < 16 := mk_nb cb _
    refine EV.l (lv' := [(0, _), (1, _), (2, _)]) r_X10_clear_10 rfl ?_
    refine EV.o r_X10_clear_11 (spN (499) 499) ?_
    refine EV.n2_gt r_X10_clear_14 (fun h14 => ?_) (fun h14 => ?_)
    · -- 14 t
      refine EV.l (lv' := [(0, _), (1, _), (2, _)]) r_X10_clear_37 rfl ?_
      exact EV.rv r_X10_clear_38 (by rw [show k = 500 - η.mi by omega])
    · -- 14 f
      refine EV.l (lv' := [(0, _), (1, _), (2, _)]) r_X10_clear_17 rfl ?_
      refine EV.gR r_X10_clear_18 la_0 ?_
      refine EV.l (lv' := [(0, _), (1, _), (2, _)]) r_X10_clear_21 rfl ?_
      refine EV.cv r_X10_clear_22 (aV1 mt_34 la_71) (c71_birdsOn hc cb hh hb hw (by omega) (by omega)) ?_
      refine EV.n0_ne r_X10_clear_25 (fun h25 => ?_) (fun h25 => ?_)
      · -- 25 t
        refine EV.l (lv' := [(0, _), (1, _), (2, _)]) r_X10_clear_31 rfl ?_
        rw [inc_nI]
        refine EV.g r_X10_clear_34 ?_
        refine EV.sub ?_ rfl ?_ (ih10 (k + 1) ?_ ?_)
        · first | rw [clrN_t (by assumption)]; rfl | rw [clrN_f (by assumption)]; rfl | (rw [← clrN_t (by assumption)]; rfl) | (rw [← clrN_f (by assumption)]; rfl)
        · rfl
        · omega
        · omega
      · -- 25 f
        refine EV.l (lv' := [(0, _), (1, _), (2, _)]) r_X10_clear_28 rfl ?_
        rw [inc_nI]
        refine EV.l (lv' := [(0, _), (1, _), (2, _)]) r_X10_clear_31 rfl ?_
        rw [inc_nI]
        refine EV.g r_X10_clear_34 ?_
        refine EV.sub ?_ rfl ?_ (ih10 (k + 1) ?_ ?_)
        · first | rw [clrN_t (by assumption)]; rfl | rw [clrN_f (by assumption)]; rfl | (rw [← clrN_t (by assumption)]; rfl) | (rw [← clrN_f (by assumption)]; rfl)
        · rfl
        · omega
        · omega
  have h0 := L10 (0)
  try dsimp only at h0
  refine EV.sub ?_ rfl ?_ (h0 ?_)
  · rfl
  · rfl
  · omega
