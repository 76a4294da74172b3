/-! Refusals. -/
/-- a call that throws; the ints behind it -/
def RX (d j : Nat) (as : List Value) (I : Nat → Nat → Int32) (J : Nat → Nat → Int64) (ex : Nat) (P : (Nat → Nat → Int32) → Prop) : Prop := ∃ I', P I' ∧ Cl d j as (hp I J) (.inr ex) (hp I' J) 1
def QX (J : Nat → Nat → Int64) (ex : Nat) (P : (Nat → Nat → Int32) → Prop) (r : Option Value ⊕ Nat) (G : AH) (k : Nat) : Prop := ∃ I', P I' ∧ r = .inr ex ∧ G = hp I' J ∧ k = 1
section RX
variable {sc : Option (Nat × (Nat → Int32))} {M : MI} {d pc j : Nat} {lv : LV} {st as : List Value} {I : Nat → Nat → Int32} {J : Nat → Nat → Int64}
theorem RX.in {P : (Nat → Nat → Int32) → Prop} {ex d0 : Nat} (hd : d0 + 1 ≤ d) (hM : MT[j]? = some M) (hs : (lg_sl as).length ≤ M.ml) (h : ∀ d', d0 ≤ d' → EV none M d' 0 (lv_args 0 as) [] (hp I J) (QX J ex P)) : RX d j as I J ex P := by
  obtain ⟨d', rfl⟩ : ∃ d', d = d' + 1 := ⟨d - 1, by omega⟩
  obtain ⟨r, G, k, h1, h3⟩ := CL.intro hM hs (h d' (by omega))
  unfold QX at h3
  obtain ⟨I', h2, e1, e2, e3⟩ := h3
  rw [e1, e2, e3] at h1
  exact ⟨I', h2, h1⟩
theorem EV.nx {idx len a b pq ex : Nat} {P : (Nat → Nat → Int32) → Prop} (hr : RW M pc (.new idx) len a b pq) (hx : P I) (ha : 1000 ≤ a := by decide) (he : a - 1000 = ex := by rfl) (hh : M.hd = [] := by rfl) (hw : Nat.ble (wcs st) 8 = true := by rfl) : EV sc M d pc lv st (hp I J) (QX J ex P) := EV.new_thr hr.1 ha hh (Nat.le_of_ble_eq_true hw) ⟨I, hx, by rw [he], rfl, rfl⟩
theorem EV.cx {i : Instr} {a b pq ex : Nat} {rest : List Value} {P P2 : (Nat → Nat → Int32) → Prop} (hr : RW M pc i 3 a b pq) (hA : invA MT i a st (hp I J) = some (as, rest)) (hc : RX d a as I J ex P) (k : ∀ I', P I' → P2 I') (hi : isInv i = true := by rfl) (ha : a < 900 := by decide) (hw : Nat.ble (wcs rest) 8 = true := by rfl) (hx : ex < 2 := by decide) (hh : M.hd = [] := by rfl) : EV sc M d pc lv st (hp I J) (QX J ex P2) := by
  obtain ⟨I', h1, h2⟩ := hc
  exact EV.thr hr.1 hi ha hA (Nat.le_of_ble_eq_true hw) h2 (hp_len _ _ _ _) hx hh ⟨I', k I' h1, rfl, rfl, rfl⟩
end RX
/-- one more refused -/
def ref1 (I : Nat → Nat → Int32) (j : Nat) : Nat → Nat → Int32 := wr I 0 j (I 0 j + 1)
theorem r_X10_checkArgument_0 : RW M_X10_checkArgument 0 (.iload_n 1) 1 0 0 1 := ⟨rfl, rfl⟩
theorem r_X10_checkArgument_1 : RW M_X10_checkArgument 1 (.ifCond .ne 24) 3 25 0 4 := ⟨rfl, rfl⟩
theorem r_X10_checkArgument_4 : RW M_X10_checkArgument 4 (.aload_n 0) 1 0 0 5 := ⟨rfl, rfl⟩
theorem r_X10_checkArgument_5 : RW M_X10_checkArgument 5 (.dup) 1 0 0 6 := ⟨rfl, rfl⟩
theorem r_X10_checkArgument_6 : RW M_X10_checkArgument 6 (.getfield 379) 3 10 14 9 := ⟨rfl, rfl⟩
theorem r_X10_checkArgument_9 : RW M_X10_checkArgument 9 (.iconst 1) 1 0 0 10 := ⟨rfl, rfl⟩
theorem r_X10_checkArgument_10 : RW M_X10_checkArgument 10 (.iadd) 1 0 0 11 := ⟨rfl, rfl⟩
theorem r_X10_checkArgument_11 : RW M_X10_checkArgument 11 (.putfield 379) 3 10 14 14 := ⟨rfl, rfl⟩
theorem r_X10_checkArgument_14 : RW M_X10_checkArgument 14 (.new 385) 3 1001 0 17 := ⟨rfl, rfl⟩
theorem r_X10_checkArgument_25 : RW M_X10_checkArgument 25 (.return_) 1 0 0 26 := ⟨rfl, rfl⟩
theorem r_X10_checkThere_0 : RW M_X10_checkThere 0 (.iload_n 1) 1 0 0 1 := ⟨rfl, rfl⟩
theorem r_X10_checkThere_1 : RW M_X10_checkThere 1 (.ifCond .lt 8) 3 9 0 4 := ⟨rfl, rfl⟩
theorem r_X10_checkThere_4 : RW M_X10_checkThere 4 (.iload_n 1) 1 0 0 5 := ⟨rfl, rfl⟩
theorem r_X10_checkThere_5 : RW M_X10_checkThere 5 (.iload_n 2) 1 0 0 6 := ⟨rfl, rfl⟩
theorem r_X10_checkThere_6 : RW M_X10_checkThere 6 (.if_icmp .lt 24) 3 30 0 9 := ⟨rfl, rfl⟩
theorem r_X10_checkThere_9 : RW M_X10_checkThere 9 (.aload_n 0) 1 0 0 10 := ⟨rfl, rfl⟩
theorem r_X10_checkThere_10 : RW M_X10_checkThere 10 (.dup) 1 0 0 11 := ⟨rfl, rfl⟩
theorem r_X10_checkThere_11 : RW M_X10_checkThere 11 (.getfield 376) 3 10 13 14 := ⟨rfl, rfl⟩
theorem r_X10_checkThere_14 : RW M_X10_checkThere 14 (.iconst 1) 1 0 0 15 := ⟨rfl, rfl⟩
theorem r_X10_checkThere_15 : RW M_X10_checkThere 15 (.iadd) 1 0 0 16 := ⟨rfl, rfl⟩
theorem r_X10_checkThere_16 : RW M_X10_checkThere 16 (.putfield 376) 3 10 13 19 := ⟨rfl, rfl⟩
theorem r_X10_checkThere_19 : RW M_X10_checkThere 19 (.new 392) 3 1000 0 22 := ⟨rfl, rfl⟩
theorem r_X10_checkThere_30 : RW M_X10_checkThere 30 (.return_) 1 0 0 31 := ⟨rfl, rfl⟩
theorem r_X10_lean_0 : RW M_X10_lean 0 (.aload_n 0) 1 0 0 1 := ⟨rfl, rfl⟩
theorem r_X10_lean_1 : RW M_X10_lean 1 (.getfield 19) 3 10 1 4 := ⟨rfl, rfl⟩
theorem r_X10_lean_4 : RW M_X10_lean 4 (.aload_n 0) 1 0 0 5 := ⟨rfl, rfl⟩
theorem r_X10_lean_5 : RW M_X10_lean 5 (.getfield 58) 3 10 8 8 := ⟨rfl, rfl⟩
theorem r_X10_lean_8 : RW M_X10_lean 8 (.aload_n 0) 1 0 0 9 := ⟨rfl, rfl⟩
theorem r_X10_lean_9 : RW M_X10_lean 9 (.getfield 58) 3 10 8 12 := ⟨rfl, rfl⟩
theorem r_X10_lean_12 : RW M_X10_lean 12 (.getfield 188) 3 2 7 15 := ⟨rfl, rfl⟩
theorem r_X10_lean_15 : RW M_X10_lean 15 (.invokevirtual 195) 3 38 0 18 := ⟨rfl, rfl⟩
theorem r_X10_lean_18 : RW M_X10_lean 18 (.invokevirtual 207) 3 22 0 21 := ⟨rfl, rfl⟩
theorem r_X10_lean_21 : RW M_X10_lean 21 (.ireturn) 1 0 0 22 := ⟨rfl, rfl⟩
theorem r_X10_told_0 : RW M_X10_told 0 (.aload_n 0) 1 0 0 1 := ⟨rfl, rfl⟩
theorem r_X10_told_1 : RW M_X10_told 1 (.iload_n 1) 1 0 0 2 := ⟨rfl, rfl⟩
theorem r_X10_told_2 : RW M_X10_told 2 (.ifCond .lt 13) 3 15 0 5 := ⟨rfl, rfl⟩
theorem r_X10_told_5 : RW M_X10_told 5 (.iload_n 1) 1 0 0 6 := ⟨rfl, rfl⟩
theorem r_X10_told_6 : RW M_X10_told 6 (.bipush 11) 2 0 0 8 := ⟨rfl, rfl⟩
theorem r_X10_told_8 : RW M_X10_told 8 (.if_icmp .gt 7) 3 15 0 11 := ⟨rfl, rfl⟩
theorem r_X10_told_11 : RW M_X10_told 11 (.iconst 1) 1 0 0 12 := ⟨rfl, rfl⟩
theorem r_X10_told_12 : RW M_X10_told 12 (.goto 4) 3 16 0 15 := ⟨rfl, rfl⟩
theorem r_X10_told_15 : RW M_X10_told 15 (.iconst 0) 1 0 0 16 := ⟨rfl, rfl⟩
theorem r_X10_told_16 : RW M_X10_told 16 (.invokevirtual 175) 3 159 0 19 := ⟨rfl, rfl⟩
theorem r_X10_told_19 : RW M_X10_told 19 (.iload_n 1) 1 0 0 20 := ⟨rfl, rfl⟩
theorem r_X10_told_20 : RW M_X10_told 20 (.tableswitch 169 0 10 #[60, 68, 76, 84, 92, 100, 108, 123, 145, 153, 164]) 60 0 0 80 := ⟨rfl, rfl⟩
theorem r_X10_told_80 : RW M_X10_told 80 (.aload_n 0) 1 0 0 81 := ⟨rfl, rfl⟩
theorem r_X10_told_81 : RW M_X10_told 81 (.getfield 19) 3 10 1 84 := ⟨rfl, rfl⟩
theorem r_X10_told_84 : RW M_X10_told 84 (.getfield 121) 3 1 10 87 := ⟨rfl, rfl⟩
theorem r_X10_told_87 : RW M_X10_told 87 (.ireturn) 1 0 0 88 := ⟨rfl, rfl⟩
theorem r_X10_told_88 : RW M_X10_told 88 (.aload_n 0) 1 0 0 89 := ⟨rfl, rfl⟩
theorem r_X10_told_89 : RW M_X10_told 89 (.getfield 19) 3 10 1 92 := ⟨rfl, rfl⟩
theorem r_X10_told_92 : RW M_X10_told 92 (.getfield 179) 3 1 11 95 := ⟨rfl, rfl⟩
theorem r_X10_told_95 : RW M_X10_told 95 (.ireturn) 1 0 0 96 := ⟨rfl, rfl⟩
theorem r_X10_told_96 : RW M_X10_told 96 (.aload_n 0) 1 0 0 97 := ⟨rfl, rfl⟩
theorem r_X10_told_97 : RW M_X10_told 97 (.getfield 19) 3 10 1 100 := ⟨rfl, rfl⟩
theorem r_X10_told_100 : RW M_X10_told 100 (.getfield 182) 3 1 12 103 := ⟨rfl, rfl⟩
theorem r_X10_told_103 : RW M_X10_told 103 (.ireturn) 1 0 0 104 := ⟨rfl, rfl⟩
theorem r_X10_told_104 : RW M_X10_told 104 (.aload_n 0) 1 0 0 105 := ⟨rfl, rfl⟩
theorem r_X10_told_105 : RW M_X10_told 105 (.getfield 19) 3 10 1 108 := ⟨rfl, rfl⟩
theorem r_X10_told_108 : RW M_X10_told 108 (.getfield 185) 3 1 13 111 := ⟨rfl, rfl⟩
theorem r_X10_told_111 : RW M_X10_told 111 (.ireturn) 1 0 0 112 := ⟨rfl, rfl⟩
theorem r_X10_told_112 : RW M_X10_told 112 (.aload_n 0) 1 0 0 113 := ⟨rfl, rfl⟩
theorem r_X10_told_113 : RW M_X10_told 113 (.getfield 58) 3 10 8 116 := ⟨rfl, rfl⟩
theorem r_X10_told_116 : RW M_X10_told 116 (.getfield 188) 3 2 7 119 := ⟨rfl, rfl⟩
theorem r_X10_told_119 : RW M_X10_told 119 (.ireturn) 1 0 0 120 := ⟨rfl, rfl⟩
theorem r_X10_told_120 : RW M_X10_told 120 (.aload_n 0) 1 0 0 121 := ⟨rfl, rfl⟩
theorem r_X10_told_121 : RW M_X10_told 121 (.getfield 58) 3 10 8 124 := ⟨rfl, rfl⟩
theorem r_X10_told_124 : RW M_X10_told 124 (.invokevirtual 191) 3 36 0 127 := ⟨rfl, rfl⟩
theorem r_X10_told_127 : RW M_X10_told 127 (.ireturn) 1 0 0 128 := ⟨rfl, rfl⟩
theorem r_X10_told_128 : RW M_X10_told 128 (.aload_n 0) 1 0 0 129 := ⟨rfl, rfl⟩
theorem r_X10_told_129 : RW M_X10_told 129 (.getfield 58) 3 10 8 132 := ⟨rfl, rfl⟩
theorem r_X10_told_132 : RW M_X10_told 132 (.aload_n 0) 1 0 0 133 := ⟨rfl, rfl⟩
theorem r_X10_told_133 : RW M_X10_told 133 (.getfield 58) 3 10 8 136 := ⟨rfl, rfl⟩
theorem r_X10_told_136 : RW M_X10_told 136 (.getfield 188) 3 2 7 139 := ⟨rfl, rfl⟩
theorem r_X10_told_139 : RW M_X10_told 139 (.invokevirtual 195) 3 38 0 142 := ⟨rfl, rfl⟩
theorem r_X10_told_142 : RW M_X10_told 142 (.ireturn) 1 0 0 143 := ⟨rfl, rfl⟩
theorem r_X10_told_143 : RW M_X10_told 143 (.aload_n 0) 1 0 0 144 := ⟨rfl, rfl⟩
theorem r_X10_told_144 : RW M_X10_told 144 (.getfield 19) 3 10 1 147 := ⟨rfl, rfl⟩
theorem r_X10_told_147 : RW M_X10_told 147 (.aload_n 0) 1 0 0 148 := ⟨rfl, rfl⟩
theorem r_X10_told_148 : RW M_X10_told 148 (.getfield 58) 3 10 8 151 := ⟨rfl, rfl⟩
theorem r_X10_told_151 : RW M_X10_told 151 (.aload_n 0) 1 0 0 152 := ⟨rfl, rfl⟩
theorem r_X10_told_152 : RW M_X10_told 152 (.getfield 58) 3 10 8 155 := ⟨rfl, rfl⟩
theorem r_X10_told_155 : RW M_X10_told 155 (.getfield 188) 3 2 7 158 := ⟨rfl, rfl⟩
theorem r_X10_told_158 : RW M_X10_told 158 (.invokevirtual 195) 3 38 0 161 := ⟨rfl, rfl⟩
theorem r_X10_told_161 : RW M_X10_told 161 (.invokevirtual 198) 3 19 0 164 := ⟨rfl, rfl⟩
theorem r_X10_told_164 : RW M_X10_told 164 (.ireturn) 1 0 0 165 := ⟨rfl, rfl⟩
theorem r_X10_told_165 : RW M_X10_told 165 (.aload_n 0) 1 0 0 166 := ⟨rfl, rfl⟩
theorem r_X10_told_166 : RW M_X10_told 166 (.getfield 58) 3 10 8 169 := ⟨rfl, rfl⟩
theorem r_X10_told_169 : RW M_X10_told 169 (.getfield 201) 3 2 8 172 := ⟨rfl, rfl⟩
theorem r_X10_told_172 : RW M_X10_told 172 (.ireturn) 1 0 0 173 := ⟨rfl, rfl⟩
theorem r_X10_told_173 : RW M_X10_told 173 (.aload_n 0) 1 0 0 174 := ⟨rfl, rfl⟩
theorem r_X10_told_174 : RW M_X10_told 174 (.getfield 39) 3 10 5 177 := ⟨rfl, rfl⟩
theorem r_X10_told_177 : RW M_X10_told 177 (.getfield 160) 3 0 0 180 := ⟨rfl, rfl⟩
theorem r_X10_told_180 : RW M_X10_told 180 (.invokestatic 163) 3 322 0 183 := ⟨rfl, rfl⟩
theorem r_X10_told_183 : RW M_X10_told 183 (.ireturn) 1 0 0 184 := ⟨rfl, rfl⟩
theorem r_X10_told_184 : RW M_X10_told 184 (.aload_n 0) 1 0 0 185 := ⟨rfl, rfl⟩
theorem r_X10_told_185 : RW M_X10_told 185 (.getfield 115) 3 10 12 188 := ⟨rfl, rfl⟩
theorem r_X10_told_188 : RW M_X10_told 188 (.ireturn) 1 0 0 189 := ⟨rfl, rfl⟩
theorem r_X10_told_189 : RW M_X10_told 189 (.aload_n 0) 1 0 0 190 := ⟨rfl, rfl⟩
theorem r_X10_told_190 : RW M_X10_told 190 (.getfield 58) 3 10 8 193 := ⟨rfl, rfl⟩
theorem r_X10_told_193 : RW M_X10_told 193 (.aload_n 0) 1 0 0 194 := ⟨rfl, rfl⟩
theorem r_X10_told_194 : RW M_X10_told 194 (.getfield 58) 3 10 8 197 := ⟨rfl, rfl⟩
theorem r_X10_told_197 : RW M_X10_told 197 (.getfield 188) 3 2 7 200 := ⟨rfl, rfl⟩
theorem r_X10_told_200 : RW M_X10_told 200 (.invokevirtual 204) 3 34 0 203 := ⟨rfl, rfl⟩
theorem r_X10_told_203 : RW M_X10_told 203 (.ireturn) 1 0 0 204 := ⟨rfl, rfl⟩
theorem c_arg1 {d : Nat} {I : Nat → Nat → Int32} {J : Nat → Nat → Int64}  (hd : 1 ≤ d) : RU d 159 [.ref 0, .int (nI 1)] I J (fun I' => I' = I) := by
  refine RU.in (d0 := 0) hd mt_159 (Nat.le_of_ble_eq_true rfl) (fun d' hd' => ?_)
  show EV none M_X10_checkArgument d' 0 [(0, .ref 0), (1, .int (nI 1))] [] (hp I J) _
  refine EV.l (lv' := [(0, _), (1, _)]) r_X10_checkArgument_0 rfl ?_
  refine EV.n0_ne r_X10_checkArgument_1 (fun h1 => ?_) (fun h1 => ?_)
  · -- 1 t
    exact EV.ru r_X10_checkArgument_25 (rfl)
  · omega
theorem c_arg0 {d : Nat} {I : Nat → Nat → Int32} {J : Nat → Nat → Int64}  (hd : 1 ≤ d) : RX d 159 [.ref 0, .int (nI 0)] I J 1 (fun I' => I' = ref1 I 14) := by
  refine RX.in (d0 := 0) hd mt_159 (Nat.le_of_ble_eq_true rfl) (fun d' hd' => ?_)
  show EV none M_X10_checkArgument d' 0 [(0, .ref 0), (1, .int (nI 0))] [] (hp I J) _
  refine EV.l (lv' := [(0, _), (1, _)]) r_X10_checkArgument_0 rfl ?_
  refine EV.n0_ne r_X10_checkArgument_1 (fun h1 => ?_) (fun h1 => ?_)
  · omega
  · -- 1 f
    refine EV.l (lv' := [(0, _), (1, _)]) r_X10_checkArgument_4 rfl ?_
    refine EV.o r_X10_checkArgument_5 rfl ?_
    refine EV.gI r_X10_checkArgument_6 la_0 ?_
    refine EV.o r_X10_checkArgument_9 (icN (1) (v := 1)) ?_
    refine EV.o r_X10_checkArgument_10 rfl ?_
    refine EV.pI r_X10_checkArgument_11 la_0 ?_
    exact EV.nx r_X10_checkArgument_14 (rfl)
theorem c_there1 {d : Nat} {I : Nat → Nat → Int32} {J : Nat → Nat → Int64} {i n : Nat} (h : i < n) (hn : n < 1000)  (hd : 1 ≤ d) : RU d 160 [.ref 0, .int (nI i), .int (nI n)] I J (fun I' => I' = I) := by
  refine RU.in (d0 := 0) hd mt_160 (Nat.le_of_ble_eq_true rfl) (fun d' hd' => ?_)
  show EV none M_X10_checkThere d' 0 [(0, .ref 0), (1, .int (nI i)), (2, .int (nI n))] [] (hp I J) _
  refine EV.l (lv' := [(0, _), (1, _), (2, _)]) r_X10_checkThere_0 rfl ?_
  refine EV.n0_lt r_X10_checkThere_1 (fun h1 => ?_) (fun h1 => ?_)
  · omega
  · -- 1 f
    refine EV.l (lv' := [(0, _), (1, _), (2, _)]) r_X10_checkThere_4 rfl ?_
    refine EV.l (lv' := [(0, _), (1, _), (2, _)]) r_X10_checkThere_5 rfl ?_
    refine EV.n2_lt r_X10_checkThere_6 (fun h6 => ?_) (fun h6 => ?_)
    · -- 6 t
      exact EV.ru r_X10_checkThere_30 (rfl)
    · omega
theorem c_there0 {d : Nat} {I : Nat → Nat → Int32} {J : Nat → Nat → Int64} {x : Int32} {n : Nat} (h : x < 0 ∨ nI n ≤ x)  (hd : 1 ≤ d) : RX d 160 [.ref 0, .int x, .int (nI n)] I J 0 (fun I' => I' = ref1 I 13) := by
  refine RX.in (d0 := 0) hd mt_160 (Nat.le_of_ble_eq_true rfl) (fun d' hd' => ?_)
  show EV none M_X10_checkThere d' 0 [(0, .ref 0), (1, .int x), (2, .int (nI n))] [] (hp I J) _
  refine EV.l (lv' := [(0, _), (1, _), (2, _)]) r_X10_checkThere_0 rfl ?_
  refine EV.r0_lt r_X10_checkThere_1 (fun h1 => ?_) (fun h1 => ?_)
  · -- 1 t
    refine EV.l (lv' := [(0, _), (1, _), (2, _)]) r_X10_checkThere_9 rfl ?_
    refine EV.o r_X10_checkThere_10 rfl ?_
    refine EV.gI r_X10_checkThere_11 la_0 ?_
    refine EV.o r_X10_checkThere_14 (icN (1) (v := 1)) ?_
    refine EV.o r_X10_checkThere_15 rfl ?_
    refine EV.pI r_X10_checkThere_16 la_0 ?_
    exact EV.nx r_X10_checkThere_19 (rfl)
  · -- 1 f
    refine EV.l (lv' := [(0, _), (1, _), (2, _)]) r_X10_checkThere_4 rfl ?_
    refine EV.l (lv' := [(0, _), (1, _), (2, _)]) r_X10_checkThere_5 rfl ?_
    refine EV.r2_lt r_X10_checkThere_6 (fun h6 => ?_) (fun h6 => ?_)
    · exact absurd h (fun z => z.elim h1 (fun z => i_nlt z h6))
    · -- 6 f
      refine EV.l (lv' := [(0, _), (1, _), (2, _)]) r_X10_checkThere_9 rfl ?_
      refine EV.o r_X10_checkThere_10 rfl ?_
      refine EV.gI r_X10_checkThere_11 la_0 ?_
      refine EV.o r_X10_checkThere_14 (icN (1) (v := 1)) ?_
      refine EV.o r_X10_checkThere_15 rfl ?_
      refine EV.pI r_X10_checkThere_16 la_0 ?_
      exact EV.nx r_X10_checkThere_19 (rfl)
theorem c_told0 {d : Nat} {I : Nat → Nat → Int32} {J : Nat → Nat → Int64} {κ : CT} {η : HS} (hc : HC 4 κ I) (cb : CB κ) (hh : HH 71 η I) (hb : HB κ η) (hw : HW κ η)  (hd : 7 ≤ d) : RV d 120 [.ref 0, .int (nI 0)] I J (nI (κ.ns)) := by
  refine RV.in (d0 := 6) hd mt_120 (Nat.le_of_ble_eq_true rfl) (fun d' hd' => ?_)
  have bns := cb.ns; have bnb := cb.nb; have bnc := cb.nc; have bnr := cb.nr
  have bm := hb.mi
  show EV none M_X10_told d' 0 [(0, .ref 0), (1, .int (nI 0))] [] (hp I J) _
  refine EV.l (lv' := [(0, _), (1, _)]) r_X10_told_0 rfl ?_
  refine EV.l (lv' := [(0, _), (1, _)]) r_X10_told_1 rfl ?_
  refine EV.n0_lt r_X10_told_2 (fun h2 => ?_) (fun h2 => ?_)
  · omega
  · -- 2 f
    refine EV.l (lv' := [(0, _), (1, _)]) r_X10_told_5 rfl ?_
    refine EV.o r_X10_told_6 (bpN (11) 11) ?_
    refine EV.n2_gt r_X10_told_8 (fun h8 => ?_) (fun h8 => ?_)
    · omega
    · -- 8 f
      refine EV.o r_X10_told_11 (icN (1) (v := 1)) ?_
      refine EV.g r_X10_told_12 ?_
      refine EV.cu r_X10_told_16 (aV1 mt_159 la_0) (c_arg1 (by omega)) (fun I2 e2 => ?_)
      subst e2
      refine EV.l (lv' := [(0, _), (1, _)]) r_X10_told_19 rfl ?_
      refine EV.ts (q := 80) r_X10_told_20 (by decide +kernel) ?_
      refine EV.l (lv' := [(0, _), (1, _)]) r_X10_told_80 rfl ?_
      refine EV.gR r_X10_told_81 la_0 ?_
      refine EV.getV r_X10_told_84 la_4 (hc.ns) ?_
      exact EV.rv r_X10_told_87 (rfl)
theorem c_told1 {d : Nat} {I : Nat → Nat → Int32} {J : Nat → Nat → Int64} {κ : CT} {η : HS} (hc : HC 4 κ I) (cb : CB κ) (hh : HH 71 η I) (hb : HB κ η) (hw : HW κ η)  (hd : 7 ≤ d) : RV d 120 [.ref 0, .int (nI 1)] I J (nI (κ.nr)) := by
  refine RV.in (d0 := 6) hd mt_120 (Nat.le_of_ble_eq_true rfl) (fun d' hd' => ?_)
  have bns := cb.ns; have bnb := cb.nb; have bnc := cb.nc; have bnr := cb.nr
  have bm := hb.mi
  show EV none M_X10_told d' 0 [(0, .ref 0), (1, .int (nI 1))] [] (hp I J) _
  refine EV.l (lv' := [(0, _), (1, _)]) r_X10_told_0 rfl ?_
  refine EV.l (lv' := [(0, _), (1, _)]) r_X10_told_1 rfl ?_
  refine EV.n0_lt r_X10_told_2 (fun h2 => ?_) (fun h2 => ?_)
  · omega
  · -- 2 f
    refine EV.l (lv' := [(0, _), (1, _)]) r_X10_told_5 rfl ?_
    refine EV.o r_X10_told_6 (bpN (11) 11) ?_
    refine EV.n2_gt r_X10_told_8 (fun h8 => ?_) (fun h8 => ?_)
    · omega
    · -- 8 f
      refine EV.o r_X10_told_11 (icN (1) (v := 1)) ?_
      refine EV.g r_X10_told_12 ?_
      refine EV.cu r_X10_told_16 (aV1 mt_159 la_0) (c_arg1 (by omega)) (fun I2 e2 => ?_)
      subst e2
      refine EV.l (lv' := [(0, _), (1, _)]) r_X10_told_19 rfl ?_
      refine EV.ts (q := 88) r_X10_told_20 (by decide +kernel) ?_
      refine EV.l (lv' := [(0, _), (1, _)]) r_X10_told_88 rfl ?_
      refine EV.gR r_X10_told_89 la_0 ?_
      refine EV.getV r_X10_told_92 la_4 (hc.nr) ?_
      exact EV.rv r_X10_told_95 (rfl)
theorem c_told2 {d : Nat} {I : Nat → Nat → Int32} {J : Nat → Nat → Int64} {κ : CT} {η : HS} (hc : HC 4 κ I) (cb : CB κ) (hh : HH 71 η I) (hb : HB κ η) (hw : HW κ η)  (hd : 7 ≤ d) : RV d 120 [.ref 0, .int (nI 2)] I J (nI (κ.nb)) := by
  refine RV.in (d0 := 6) hd mt_120 (Nat.le_of_ble_eq_true rfl) (fun d' hd' => ?_)
  have bns := cb.ns; have bnb := cb.nb; have bnc := cb.nc; have bnr := cb.nr
  have bm := hb.mi
  show EV none M_X10_told d' 0 [(0, .ref 0), (1, .int (nI 2))] [] (hp I J) _
  refine EV.l (lv' := [(0, _), (1, _)]) r_X10_told_0 rfl ?_
  refine EV.l (lv' := [(0, _), (1, _)]) r_X10_told_1 rfl ?_
  refine EV.n0_lt r_X10_told_2 (fun h2 => ?_) (fun h2 => ?_)
  · omega
  · -- 2 f
    refine EV.l (lv' := [(0, _), (1, _)]) r_X10_told_5 rfl ?_
    refine EV.o r_X10_told_6 (bpN (11) 11) ?_
    refine EV.n2_gt r_X10_told_8 (fun h8 => ?_) (fun h8 => ?_)
    · omega
    · -- 8 f
      refine EV.o r_X10_told_11 (icN (1) (v := 1)) ?_
      refine EV.g r_X10_told_12 ?_
      refine EV.cu r_X10_told_16 (aV1 mt_159 la_0) (c_arg1 (by omega)) (fun I2 e2 => ?_)
      subst e2
      refine EV.l (lv' := [(0, _), (1, _)]) r_X10_told_19 rfl ?_
      refine EV.ts (q := 96) r_X10_told_20 (by decide +kernel) ?_
      refine EV.l (lv' := [(0, _), (1, _)]) r_X10_told_96 rfl ?_
      refine EV.gR r_X10_told_97 la_0 ?_
      refine EV.getV r_X10_told_100 la_4 (hc.nb) ?_
      exact EV.rv r_X10_told_103 (rfl)
theorem c_told3 {d : Nat} {I : Nat → Nat → Int32} {J : Nat → Nat → Int64} {κ : CT} {η : HS} (hc : HC 4 κ I) (cb : CB κ) (hh : HH 71 η I) (hb : HB κ η) (hw : HW κ η)  (hd : 7 ≤ d) : RV d 120 [.ref 0, .int (nI 3)] I J (nI (κ.nc)) := by
  refine RV.in (d0 := 6) hd mt_120 (Nat.le_of_ble_eq_true rfl) (fun d' hd' => ?_)
  have bns := cb.ns; have bnb := cb.nb; have bnc := cb.nc; have bnr := cb.nr
  have bm := hb.mi
  show EV none M_X10_told d' 0 [(0, .ref 0), (1, .int (nI 3))] [] (hp I J) _
  refine EV.l (lv' := [(0, _), (1, _)]) r_X10_told_0 rfl ?_
  refine EV.l (lv' := [(0, _), (1, _)]) r_X10_told_1 rfl ?_
  refine EV.n0_lt r_X10_told_2 (fun h2 => ?_) (fun h2 => ?_)
  · omega
  · -- 2 f
    refine EV.l (lv' := [(0, _), (1, _)]) r_X10_told_5 rfl ?_
    refine EV.o r_X10_told_6 (bpN (11) 11) ?_
    refine EV.n2_gt r_X10_told_8 (fun h8 => ?_) (fun h8 => ?_)
    · omega
    · -- 8 f
      refine EV.o r_X10_told_11 (icN (1) (v := 1)) ?_
      refine EV.g r_X10_told_12 ?_
      refine EV.cu r_X10_told_16 (aV1 mt_159 la_0) (c_arg1 (by omega)) (fun I2 e2 => ?_)
      subst e2
      refine EV.l (lv' := [(0, _), (1, _)]) r_X10_told_19 rfl ?_
      refine EV.ts (q := 104) r_X10_told_20 (by decide +kernel) ?_
      refine EV.l (lv' := [(0, _), (1, _)]) r_X10_told_104 rfl ?_
      refine EV.gR r_X10_told_105 la_0 ?_
      refine EV.getV r_X10_told_108 la_4 (hc.nc) ?_
      exact EV.rv r_X10_told_111 (rfl)
theorem c_told4 {d : Nat} {I : Nat → Nat → Int32} {J : Nat → Nat → Int64} {κ : CT} {η : HS} (hc : HC 4 κ I) (cb : CB κ) (hh : HH 71 η I) (hb : HB κ η) (hw : HW κ η)  (hd : 7 ≤ d) : RV d 120 [.ref 0, .int (nI 4)] I J (nI (η.mi)) := by
  refine RV.in (d0 := 6) hd mt_120 (Nat.le_of_ble_eq_true rfl) (fun d' hd' => ?_)
  have bns := cb.ns; have bnb := cb.nb; have bnc := cb.nc; have bnr := cb.nr
  have bm := hb.mi
  show EV none M_X10_told d' 0 [(0, .ref 0), (1, .int (nI 4))] [] (hp I J) _
  refine EV.l (lv' := [(0, _), (1, _)]) r_X10_told_0 rfl ?_
  refine EV.l (lv' := [(0, _), (1, _)]) r_X10_told_1 rfl ?_
  refine EV.n0_lt r_X10_told_2 (fun h2 => ?_) (fun h2 => ?_)
  · omega
  · -- 2 f
    refine EV.l (lv' := [(0, _), (1, _)]) r_X10_told_5 rfl ?_
    refine EV.o r_X10_told_6 (bpN (11) 11) ?_
    refine EV.n2_gt r_X10_told_8 (fun h8 => ?_) (fun h8 => ?_)
    · omega
    · -- 8 f
      refine EV.o r_X10_told_11 (icN (1) (v := 1)) ?_
      refine EV.g r_X10_told_12 ?_
      refine EV.cu r_X10_told_16 (aV1 mt_159 la_0) (c_arg1 (by omega)) (fun I2 e2 => ?_)
      subst e2
      refine EV.l (lv' := [(0, _), (1, _)]) r_X10_told_19 rfl ?_
      refine EV.ts (q := 112) r_X10_told_20 (by decide +kernel) ?_
      refine EV.l (lv' := [(0, _), (1, _)]) r_X10_told_112 rfl ?_
      refine EV.gR r_X10_told_113 la_0 ?_
      refine EV.getV r_X10_told_116 la_71 (hh.mi) ?_
      exact EV.rv r_X10_told_119 (rfl)
theorem c_told5 {d : Nat} {I : Nat → Nat → Int32} {J : Nat → Nat → Int64} {κ : CT} {η : HS} (hc : HC 4 κ I) (cb : CB κ) (hh : HH 71 η I) (hb : HB κ η) (hw : HW κ η)  (hd : 7 ≤ d) : RV d 120 [.ref 0, .int (nI 5)] I J (nI (cnt κ η)) := by
  refine RV.in (d0 := 6) hd mt_120 (Nat.le_of_ble_eq_true rfl) (fun d' hd' => ?_)
  have bns := cb.ns; have bnb := cb.nb; have bnc := cb.nc; have bnr := cb.nr
  have bm := hb.mi
  show EV none M_X10_told d' 0 [(0, .ref 0), (1, .int (nI 5))] [] (hp I J) _
  refine EV.l (lv' := [(0, _), (1, _)]) r_X10_told_0 rfl ?_
  refine EV.l (lv' := [(0, _), (1, _)]) r_X10_told_1 rfl ?_
  refine EV.n0_lt r_X10_told_2 (fun h2 => ?_) (fun h2 => ?_)
  · omega
  · -- 2 f
    refine EV.l (lv' := [(0, _), (1, _)]) r_X10_told_5 rfl ?_
    refine EV.o r_X10_told_6 (bpN (11) 11) ?_
    refine EV.n2_gt r_X10_told_8 (fun h8 => ?_) (fun h8 => ?_)
    · omega
    · -- 8 f
      refine EV.o r_X10_told_11 (icN (1) (v := 1)) ?_
      refine EV.g r_X10_told_12 ?_
      refine EV.cu r_X10_told_16 (aV1 mt_159 la_0) (c_arg1 (by omega)) (fun I2 e2 => ?_)
      subst e2
      refine EV.l (lv' := [(0, _), (1, _)]) r_X10_told_19 rfl ?_
      refine EV.ts (q := 120) r_X10_told_20 (by decide +kernel) ?_
      refine EV.l (lv' := [(0, _), (1, _)]) r_X10_told_120 rfl ?_
      refine EV.gR r_X10_told_121 la_0 ?_
      refine EV.cv r_X10_told_124 (aV0 mt_36 la_71) (c71_counting hc cb hh hb hw (by omega)) ?_
      exact EV.rv r_X10_told_127 (rfl)
theorem c_told6 {d : Nat} {I : Nat → Nat → Int32} {J : Nat → Nat → Int64} {κ : CT} {η : HS} (hc : HC 4 κ I) (cb : CB κ) (hh : HH 71 η I) (hb : HB κ η) (hw : HW κ η)  (hd : 7 ≤ d) : RV d 120 [.ref 0, .int (nI 6)] I J (nI (heard κ η η.mi)) := by
  refine RV.in (d0 := 6) hd mt_120 (Nat.le_of_ble_eq_true rfl) (fun d' hd' => ?_)
  have bns := cb.ns; have bnb := cb.nb; have bnc := cb.nc; have bnr := cb.nr
  have bm := hb.mi
  show EV none M_X10_told d' 0 [(0, .ref 0), (1, .int (nI 6))] [] (hp I J) _
  refine EV.l (lv' := [(0, _), (1, _)]) r_X10_told_0 rfl ?_
  refine EV.l (lv' := [(0, _), (1, _)]) r_X10_told_1 rfl ?_
  refine EV.n0_lt r_X10_told_2 (fun h2 => ?_) (fun h2 => ?_)
  · omega
  · -- 2 f
    refine EV.l (lv' := [(0, _), (1, _)]) r_X10_told_5 rfl ?_
    refine EV.o r_X10_told_6 (bpN (11) 11) ?_
    refine EV.n2_gt r_X10_told_8 (fun h8 => ?_) (fun h8 => ?_)
    · omega
    · -- 8 f
      refine EV.o r_X10_told_11 (icN (1) (v := 1)) ?_
      refine EV.g r_X10_told_12 ?_
      refine EV.cu r_X10_told_16 (aV1 mt_159 la_0) (c_arg1 (by omega)) (fun I2 e2 => ?_)
      subst e2
      refine EV.l (lv' := [(0, _), (1, _)]) r_X10_told_19 rfl ?_
      refine EV.ts (q := 128) r_X10_told_20 (by decide +kernel) ?_
      refine EV.l (lv' := [(0, _), (1, _)]) r_X10_told_128 rfl ?_
      refine EV.gR r_X10_told_129 la_0 ?_
      refine EV.l (lv' := [(0, _), (1, _)]) r_X10_told_132 rfl ?_
      refine EV.gR r_X10_told_133 la_0 ?_
      refine EV.getV r_X10_told_136 la_71 (hh.mi) ?_
      refine EV.cv r_X10_told_139 (aV1 mt_38 la_71) (c71_heard hc cb hh hb hw (by omega) (by omega)) ?_
      exact EV.rv r_X10_told_142 (rfl)
theorem c_told7 {d : Nat} {I : Nat → Nat → Int32} {J : Nat → Nat → Int64} {κ : CT} {η : HS} (hc : HC 4 κ I) (cb : CB κ) (hh : HH 71 η I) (hb : HB κ η) (hw : HW κ η)  (hd : 7 ≤ d) : RV d 120 [.ref 0, .int (nI 7)] I J (nI (clo κ (heard κ η η.mi))) := by
  refine RV.in (d0 := 6) hd mt_120 (Nat.le_of_ble_eq_true rfl) (fun d' hd' => ?_)
  have bns := cb.ns; have bnb := cb.nb; have bnc := cb.nc; have bnr := cb.nr
  have bm := hb.mi
  show EV none M_X10_told d' 0 [(0, .ref 0), (1, .int (nI 7))] [] (hp I J) _
  refine EV.l (lv' := [(0, _), (1, _)]) r_X10_told_0 rfl ?_
  refine EV.l (lv' := [(0, _), (1, _)]) r_X10_told_1 rfl ?_
  refine EV.n0_lt r_X10_told_2 (fun h2 => ?_) (fun h2 => ?_)
  · omega
  · -- 2 f
    refine EV.l (lv' := [(0, _), (1, _)]) r_X10_told_5 rfl ?_
    refine EV.o r_X10_told_6 (bpN (11) 11) ?_
    refine EV.n2_gt r_X10_told_8 (fun h8 => ?_) (fun h8 => ?_)
    · omega
    · -- 8 f
      refine EV.o r_X10_told_11 (icN (1) (v := 1)) ?_
      refine EV.g r_X10_told_12 ?_
      refine EV.cu r_X10_told_16 (aV1 mt_159 la_0) (c_arg1 (by omega)) (fun I2 e2 => ?_)
      subst e2
      refine EV.l (lv' := [(0, _), (1, _)]) r_X10_told_19 rfl ?_
      refine EV.ts (q := 143) r_X10_told_20 (by decide +kernel) ?_
      refine EV.l (lv' := [(0, _), (1, _)]) r_X10_told_143 rfl ?_
      refine EV.gR r_X10_told_144 la_0 ?_
      refine EV.l (lv' := [(0, _), (1, _)]) r_X10_told_147 rfl ?_
      refine EV.gR r_X10_told_148 la_0 ?_
      refine EV.l (lv' := [(0, _), (1, _)]) r_X10_told_151 rfl ?_
      refine EV.gR r_X10_told_152 la_0 ?_
      refine EV.getV r_X10_told_155 la_71 (hh.mi) ?_
      refine EV.cv r_X10_told_158 (aV1 mt_38 la_71) (c71_heard hc cb hh hb hw (by omega) (by omega)) ?_
      refine EV.cv r_X10_told_161 (aV1 mt_19 la_4) (b_closure hc cb (heard_lt _) (by omega)) ?_
      exact EV.rv r_X10_told_164 (rfl)
theorem c_told8 {d : Nat} {I : Nat → Nat → Int32} {J : Nat → Nat → Int64} {κ : CT} {η : HS} (hc : HC 4 κ I) (cb : CB κ) (hh : HH 71 η I) (hb : HB κ η) (hw : HW κ η)  (hd : 7 ≤ d) : RV d 120 [.ref 0, .int (nI 8)] I J (nI (η.nt)) := by
  refine RV.in (d0 := 6) hd mt_120 (Nat.le_of_ble_eq_true rfl) (fun d' hd' => ?_)
  have bns := cb.ns; have bnb := cb.nb; have bnc := cb.nc; have bnr := cb.nr
  have bm := hb.mi
  show EV none M_X10_told d' 0 [(0, .ref 0), (1, .int (nI 8))] [] (hp I J) _
  refine EV.l (lv' := [(0, _), (1, _)]) r_X10_told_0 rfl ?_
  refine EV.l (lv' := [(0, _), (1, _)]) r_X10_told_1 rfl ?_
  refine EV.n0_lt r_X10_told_2 (fun h2 => ?_) (fun h2 => ?_)
  · omega
  · -- 2 f
    refine EV.l (lv' := [(0, _), (1, _)]) r_X10_told_5 rfl ?_
    refine EV.o r_X10_told_6 (bpN (11) 11) ?_
    refine EV.n2_gt r_X10_told_8 (fun h8 => ?_) (fun h8 => ?_)
    · omega
    · -- 8 f
      refine EV.o r_X10_told_11 (icN (1) (v := 1)) ?_
      refine EV.g r_X10_told_12 ?_
      refine EV.cu r_X10_told_16 (aV1 mt_159 la_0) (c_arg1 (by omega)) (fun I2 e2 => ?_)
      subst e2
      refine EV.l (lv' := [(0, _), (1, _)]) r_X10_told_19 rfl ?_
      refine EV.ts (q := 165) r_X10_told_20 (by decide +kernel) ?_
      refine EV.l (lv' := [(0, _), (1, _)]) r_X10_told_165 rfl ?_
      refine EV.gR r_X10_told_166 la_0 ?_
      refine EV.getV r_X10_told_169 la_71 (hh.nt) ?_
      exact EV.rv r_X10_told_172 (rfl)
theorem c_told9 {d : Nat} {I : Nat → Nat → Int32} {J : Nat → Nat → Int64} {κ : CT} {η : HS} (hc : HC 4 κ I) (cb : CB κ) (hh : HH 71 η I) (hb : HB κ η) (hw : HW κ η) {t : Nat} (bt : I 60 0 = nI t) (ht : t < 512)  (hd : 7 ≤ d) : RV d 120 [.ref 0, .int (nI 9)] I J (nI (pc9 t)) := by
  refine RV.in (d0 := 6) hd mt_120 (Nat.le_of_ble_eq_true rfl) (fun d' hd' => ?_)
  have bns := cb.ns; have bnb := cb.nb; have bnc := cb.nc; have bnr := cb.nr
  have bm := hb.mi
  show EV none M_X10_told d' 0 [(0, .ref 0), (1, .int (nI 9))] [] (hp I J) _
  refine EV.l (lv' := [(0, _), (1, _)]) r_X10_told_0 rfl ?_
  refine EV.l (lv' := [(0, _), (1, _)]) r_X10_told_1 rfl ?_
  refine EV.n0_lt r_X10_told_2 (fun h2 => ?_) (fun h2 => ?_)
  · omega
  · -- 2 f
    refine EV.l (lv' := [(0, _), (1, _)]) r_X10_told_5 rfl ?_
    refine EV.o r_X10_told_6 (bpN (11) 11) ?_
    refine EV.n2_gt r_X10_told_8 (fun h8 => ?_) (fun h8 => ?_)
    · omega
    · -- 8 f
      refine EV.o r_X10_told_11 (icN (1) (v := 1)) ?_
      refine EV.g r_X10_told_12 ?_
      refine EV.cu r_X10_told_16 (aV1 mt_159 la_0) (c_arg1 (by omega)) (fun I2 e2 => ?_)
      subst e2
      refine EV.l (lv' := [(0, _), (1, _)]) r_X10_told_19 rfl ?_
      refine EV.ts (q := 173) r_X10_told_20 (by decide +kernel) ?_
      refine EV.l (lv' := [(0, _), (1, _)]) r_X10_told_173 rfl ?_
      refine EV.gR r_X10_told_174 la_0 ?_
      refine EV.getV r_X10_told_177 la_60 (bt) ?_
      refine EV.cv r_X10_told_180 (aS1 mt_322) (c_bc (by omega) (by omega)) ?_
      exact EV.rv r_X10_told_183 (rfl)
theorem c_told10 {d : Nat} {I : Nat → Nat → Int32} {J : Nat → Nat → Int64} {κ : CT} {η : HS} (hc : HC 4 κ I) (cb : CB κ) (hh : HH 71 η I) (hb : HB κ η) (hw : HW κ η) {rs : Nat} (br : I 0 12 = nI rs)  (hd : 7 ≤ d) : RV d 120 [.ref 0, .int (nI 10)] I J (nI (rs)) := by
  refine RV.in (d0 := 6) hd mt_120 (Nat.le_of_ble_eq_true rfl) (fun d' hd' => ?_)
  have bns := cb.ns; have bnb := cb.nb; have bnc := cb.nc; have bnr := cb.nr
  have bm := hb.mi
  show EV none M_X10_told d' 0 [(0, .ref 0), (1, .int (nI 10))] [] (hp I J) _
  refine EV.l (lv' := [(0, _), (1, _)]) r_X10_told_0 rfl ?_
  refine EV.l (lv' := [(0, _), (1, _)]) r_X10_told_1 rfl ?_
  refine EV.n0_lt r_X10_told_2 (fun h2 => ?_) (fun h2 => ?_)
  · omega
  · -- 2 f
    refine EV.l (lv' := [(0, _), (1, _)]) r_X10_told_5 rfl ?_
    refine EV.o r_X10_told_6 (bpN (11) 11) ?_
    refine EV.n2_gt r_X10_told_8 (fun h8 => ?_) (fun h8 => ?_)
    · omega
    · -- 8 f
      refine EV.o r_X10_told_11 (icN (1) (v := 1)) ?_
      refine EV.g r_X10_told_12 ?_
      refine EV.cu r_X10_told_16 (aV1 mt_159 la_0) (c_arg1 (by omega)) (fun I2 e2 => ?_)
      subst e2
      refine EV.l (lv' := [(0, _), (1, _)]) r_X10_told_19 rfl ?_
      refine EV.ts (q := 184) r_X10_told_20 (by decide +kernel) ?_
      refine EV.l (lv' := [(0, _), (1, _)]) r_X10_told_184 rfl ?_
      refine EV.getV r_X10_told_185 la_0 (br) ?_
      exact EV.rv r_X10_told_188 (rfl)
theorem c_told11 {d : Nat} {I : Nat → Nat → Int32} {J : Nat → Nat → Int64} {κ : CT} {η : HS} (hc : HC 4 κ I) (cb : CB κ) (hh : HH 71 η I) (hb : HB κ η) (hw : HW κ η)  (hd : 7 ≤ d) : RV d 120 [.ref 0, .int (nI 11)] I J (nI (birds κ η η.mi)) := by
  refine RV.in (d0 := 6) hd mt_120 (Nat.le_of_ble_eq_true rfl) (fun d' hd' => ?_)
  have bns := cb.ns; have bnb := cb.nb; have bnc := cb.nc; have bnr := cb.nr
  have bm := hb.mi
  show EV none M_X10_told d' 0 [(0, .ref 0), (1, .int (nI 11))] [] (hp I J) _
  refine EV.l (lv' := [(0, _), (1, _)]) r_X10_told_0 rfl ?_
  refine EV.l (lv' := [(0, _), (1, _)]) r_X10_told_1 rfl ?_
  refine EV.n0_lt r_X10_told_2 (fun h2 => ?_) (fun h2 => ?_)
  · omega
  · -- 2 f
    refine EV.l (lv' := [(0, _), (1, _)]) r_X10_told_5 rfl ?_
    refine EV.o r_X10_told_6 (bpN (11) 11) ?_
    refine EV.n2_gt r_X10_told_8 (fun h8 => ?_) (fun h8 => ?_)
    · omega
    · -- 8 f
      refine EV.o r_X10_told_11 (icN (1) (v := 1)) ?_
      refine EV.g r_X10_told_12 ?_
      refine EV.cu r_X10_told_16 (aV1 mt_159 la_0) (c_arg1 (by omega)) (fun I2 e2 => ?_)
      subst e2
      refine EV.l (lv' := [(0, _), (1, _)]) r_X10_told_19 rfl ?_
      refine EV.ts (q := 189) r_X10_told_20 (by decide +kernel) ?_
      refine EV.l (lv' := [(0, _), (1, _)]) r_X10_told_189 rfl ?_
      refine EV.gR r_X10_told_190 la_0 ?_
      refine EV.l (lv' := [(0, _), (1, _)]) r_X10_told_193 rfl ?_
      refine EV.gR r_X10_told_194 la_0 ?_
      refine EV.getV r_X10_told_197 la_71 (hh.mi) ?_
      refine EV.cv r_X10_told_200 (aV1 mt_34 la_71) (c71_birdsOn hc cb hh hb hw (by omega) (by omega)) ?_
      exact EV.rv r_X10_told_203 (rfl)
theorem c_toldX {d : Nat} {I : Nat → Nat → Int32} {J : Nat → Nat → Int64} {x : Int32} (h : x < 0 ∨ nI 11 < x)  (hd : 7 ≤ d) : RX d 120 [.ref 0, .int x] I J 1 (fun I' => I' = ref1 I 14) := by
  refine RX.in (d0 := 6) hd mt_120 (Nat.le_of_ble_eq_true rfl) (fun d' hd' => ?_)
  show EV none M_X10_told d' 0 [(0, .ref 0), (1, .int x)] [] (hp I J) _
  refine EV.l (lv' := [(0, _), (1, _)]) r_X10_told_0 rfl ?_
  refine EV.l (lv' := [(0, _), (1, _)]) r_X10_told_1 rfl ?_
  refine EV.r0_lt r_X10_told_2 (fun h2 => ?_) (fun h2 => ?_)
  · -- 2 t
    refine EV.o r_X10_told_15 (icN (0) (v := 0)) ?_
    exact EV.cx r_X10_told_16 (aV1 mt_159 la_0) (c_arg0 (by omega)) (fun _ h => h)
  · -- 2 f
    refine EV.l (lv' := [(0, _), (1, _)]) r_X10_told_5 rfl ?_
    refine EV.o r_X10_told_6 (bpN (11) 11) ?_
    refine EV.r2_gt r_X10_told_8 (fun h8 => ?_) (fun h8 => ?_)
    · -- 8 t
      refine EV.o r_X10_told_15 (icN (0) (v := 0)) ?_
      exact EV.cx r_X10_told_16 (aV1 mt_159 la_0) (c_arg0 (by omega)) (fun _ h => h)
    · exact absurd h (fun z => z.elim h2 h8)
theorem c_lean {d : Nat} {I : Nat → Nat → Int32} {J : Nat → Nat → Int64} {κ : CT} {η : HS} (hc : HC 4 κ I) (cb : CB κ) (hh : HH 71 η I) (hb : HB κ η) (hw : HW κ η)  (hd : 7 ≤ d) : RV d 121 [.ref 0] I J (zI (lean κ (heard κ η η.mi))) := by
  refine RV.in (d0 := 6) hd mt_121 (Nat.le_of_ble_eq_true rfl) (fun d' hd' => ?_)
  have bns := cb.ns; have bnb := cb.nb; have bnc := cb.nc; have bnr := cb.nr
  have bm := hb.mi
  show EV none M_X10_lean d' 0 [(0, .ref 0)] [] (hp I J) _
  refine EV.l (lv' := [(0, _)]) r_X10_lean_0 rfl ?_
  refine EV.gR r_X10_lean_1 la_0 ?_
  refine EV.l (lv' := [(0, _)]) r_X10_lean_4 rfl ?_
  refine EV.gR r_X10_lean_5 la_0 ?_
  refine EV.l (lv' := [(0, _)]) r_X10_lean_8 rfl ?_
  refine EV.gR r_X10_lean_9 la_0 ?_
  refine EV.getV r_X10_lean_12 la_71 (hh.mi) ?_
  refine EV.cv r_X10_lean_15 (aV1 mt_38 la_71) (c71_heard hc cb hh hb hw (by omega) (by omega)) ?_
  refine EV.cv r_X10_lean_18 (aV1 mt_22 la_4) (b_lean hc cb (heard_lt _) (by omega)) ?_
  exact EV.rv r_X10_lean_21 (rfl)
