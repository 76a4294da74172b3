/-! The walk by the LAW. -/
section PR
variable {sc : Option (Nat × (Nat → Int32))} {M : MI} {d pc : Nat} {lv : LV} {st : List Value} {G : AH} {Q : (Option Value ⊕ Nat) → AH → Nat → Prop}
theorem EV.pminR {idx b pq : Nat} {x y : Int32} (hr : RW M pc (.invokestatic idx) 3 900 b pq) (k : EV sc M d pq lv (.int (if y < x then y else x) :: st) G Q) (hw : Nat.ble (wcs st) 8 = true := by rfl) : EV sc M d pc lv (.int y :: .int x :: st) G Q :=
  EV.prim (as := [.int x, .int y]) (rest := st) (v := some (.int (if y < x then y else x))) hr.1 rfl (by decide) (by unfold invA npar; simp) (Nat.le_of_ble_eq_true hw) rfl (hr.2.symm ▸ k)
theorem EV.pmaxR {idx b pq : Nat} {x y : Int32} (hr : RW M pc (.invokestatic idx) 3 901 b pq) (k : EV sc M d pq lv (.int (if x < y then y else x) :: st) G Q) (hw : Nat.ble (wcs st) 8 = true := by rfl) : EV sc M d pc lv (.int y :: .int x :: st) G Q :=
  EV.prim (as := [.int x, .int y]) (rest := st) (v := some (.int (if x < y then y else x))) hr.1 rfl (by decide) (by unfold invA npar; simp) (Nat.le_of_ble_eq_true hw) rfl (hr.2.symm ▸ k)
end PR
def enc (l : LW) (k : Nat) : Int := if l.what k = 0 then (l.of k : Int) else if l.what k = 1 then -1 - (l.of k : Int) else opc (l.what k)
def fa (a0 a1 a2 a3 a4 a5 : Int32) (k : Nat) : Int32 := if k = 0 then a0 else if k = 1 then a1 else if k = 2 then a2 else if k = 3 then a3 else if k = 4 then a4 else a5
theorem fa_in {I : Nat → Nat → Int32} {a0 a1 a2 a3 a4 a5 : Int32} : ∀ j, j < 6 → wr (wr (wr (wr (wr (wr I 52 0 a0) 52 1 a1) 52 2 a2) 52 3 a3) 52 4 a4) 52 5 a5 52 j = fa a0 a1 a2 a3 a4 a5 j := by
  intro j hj
  obtain rfl | rfl | rfl | rfl | rfl | rfl : j = 0 ∨ j = 1 ∨ j = 2 ∨ j = 3 ∨ j = 4 ∨ j = 5 := by omega
  all_goals rfl
def HL (o : Nat) (l : LW) (I : Nat → Nat → Int32) : Prop := (I o 3 = nI l.n) ∧ (∀ k, k < l.n → I (o + 2) k = zI (enc l k))
theorem HL.n {o : Nat} {l : LW} {I : Nat → Nat → Int32} (h_ : HL o l I) : I o 3 = nI l.n := h_.1
theorem HL.pa {o : Nat} {l : LW} {I : Nat → Nat → Int32} (h_ : HL o l I) : ∀ k, k < l.n → I (o + 2) k = zI (enc l k) := h_.2
theorem dep_p {l : LW} {k : Nat} (h : l.what k ≤ 1) : dep l (k + 1) = dep l k + 1 := if_pos h
theorem dep_m {l : LW} {k : Nat} (h : ¬ l.what k ≤ 1) : dep l (k + 1) = dep l k - 1 := if_neg h
section EVL
variable {a : Nat} {l : LW} {f : Nat → Int32} {k : Nat} {I : Nat → Nat → Int32} {v : Int32}
theorem ev_put (j0 : Nat) (h : ∀ j, j < dep l k → I a j = evl l f k j) {n : Nat} (hn : n ≤ j0 + 1) (hj : j0 ≤ dep l k) {g : Nat → Int32} (hg : g = upd1 (evl l f k) j0 v) : ∀ j, j < n → wr I a j0 v a j = g j := by
  intro j hj2
  rw [hg]
  unfold wr upd1
  by_cases e : j = j0
  · rw [if_pos ⟨rfl, e⟩, if_pos e]
  · rw [if_neg (fun z => e z.2), if_neg e]
    exact h j (by omega)
theorem ev_0 (h : ∀ j, j < dep l k → I a j = evl l f k j) (w : l.what k = 0) (hv : v = nI (l.of k)) : ∀ j, j < dep l (k + 1) → wr I a (dep l k) v a j = evl l f (k + 1) j := by
  rw [dep_p (by omega)]
  exact ev_put _ h (Nat.le_refl _) (Nat.le_refl _) (by rw [hv]; exact if_pos w)
theorem ev_1 (h : ∀ j, j < dep l k → I a j = evl l f k j) (w : l.what k = 1) (hv : v = f (l.of k)) : ∀ j, j < dep l (k + 1) → wr I a (dep l k) v a j = evl l f (k + 1) j := by
  rw [dep_p (by omega)]
  exact ev_put _ h (Nat.le_refl _) (Nat.le_refl _) (by rw [hv]; exact (if_neg (by omega)).trans (if_pos w))
theorem ev_2 (h : ∀ j, j < dep l k → I a j = evl l f k j) (w : 2 ≤ l.what k) (hd : 2 ≤ dep l k) (hv : v = apI (l.what k) (evl l f k (dep l k - 2)) (evl l f k (dep l k - 1))) : ∀ j, j < dep l (k + 1) → wr I a (dep l k - 1 - 1) v a j = evl l f (k + 1) j := by
  rw [dep_m (by omega)]
  refine ev_put _ h (by omega) (by omega) ?_
  rw [hv]
  exact (if_neg (by omega)).trans (if_neg (by omega))
end EVL
theorem enc_op {l : LW} {k : Nat} (h : 2 ≤ l.what k) : enc l k = opc (l.what k) := (if_neg (by omega)).trans (if_neg (by omega))
theorem opc_le {w : Nat} (h : 2 ≤ w) (h8 : w ≤ 8) : -17 ≤ opc w ∧ opc w ≤ -11 := by
  unfold opc
  split
  · omega
  · split
    · omega
    · split <;> omega
theorem enc_c {l : LW} (b : LB l) {k : Nat} (hk : k < l.n) : (l.what k = 0 ∧ enc l k = (l.of k : Int) ∧ l.of k ≤ 999) ∨ (l.what k = 1 ∧ enc l k = -1 - (l.of k : Int) ∧ l.of k < 6) ∨ (2 ≤ l.what k ∧ l.what k ≤ 8 ∧ enc l k = opc (l.what k) ∧ enc l k ≤ -11 ∧ -17 ≤ enc l k ∧ 2 ≤ dep l k) := by
  have h8 := b.w k hk
  by_cases h0 : l.what k = 0
  · exact Or.inl ⟨h0, if_pos h0, b.o0 k hk h0⟩
  · by_cases h1 : l.what k = 1
    · exact Or.inr (Or.inl ⟨h1, (if_neg h0).trans (if_pos h1), b.o1 k hk h1⟩)
    · have h2 : 2 ≤ l.what k := by omega
      have e := enc_op h2
      have r := opc_le h2 h8
      exact Or.inr (Or.inr ⟨h2, h8, e, by omega, by omega, b.d2 k hk h2⟩)
theorem ck_eq (v : Int32) : (if nI 1 < (if v < nI 40 then v else nI 40) then (if v < nI 40 then v else nI 40) else nI 1) = nI (ck v) := by
  have h1 : (nI 1).toInt = 1 := by decide
  have h40 : (nI 40).toInt = 40 := by decide
  unfold ck
  by_cases a : v < nI 40
  · rw [if_pos a]
    rw [Int32.lt_iff_toInt_lt, h40] at a
    by_cases b : nI 1 < v
    · rw [if_pos b]
      rw [Int32.lt_iff_toInt_lt, h1] at b
      rw [if_neg (by omega), if_neg (by omega)]
      apply Int32.toInt_inj.mp
      rw [nI_toInt (by omega)]
      omega
    · rw [if_neg b]
      rw [Int32.lt_iff_toInt_lt, h1] at b
      by_cases c : v.toInt < 1
      · rw [if_pos c]
      · rw [if_neg c, if_neg (by omega), show v.toInt = 1 by omega]; rfl
  · rw [if_neg a]
    rw [Int32.lt_iff_toInt_lt, h40] at a
    rw [if_pos (by decide)]
    by_cases c : 40 < v.toInt
    · rw [if_neg (by omega), if_pos c]
    · rw [if_neg (by omega), if_neg c, show v.toInt = 40 by omega]; rfl
theorem r_X3_walk_0 : RW M_X3_walk 0 (.aload_n 0) 1 0 0 1 := ⟨rfl, rfl⟩
theorem r_X3_walk_1 : RW M_X3_walk 1 (.getfield 23) 3 3 2 4 := ⟨rfl, rfl⟩
theorem r_X3_walk_4 : RW M_X3_walk 4 (.iconst 0) 1 0 0 5 := ⟨rfl, rfl⟩
theorem r_X3_walk_5 : RW M_X3_walk 5 (.iload_n 1) 1 0 0 6 := ⟨rfl, rfl⟩
theorem r_X3_walk_6 : RW M_X3_walk 6 (.invokevirtual 26) 3 93 0 9 := ⟨rfl, rfl⟩
theorem r_X3_walk_9 : RW M_X3_walk 9 (.aload_n 0) 1 0 0 10 := ⟨rfl, rfl⟩
theorem r_X3_walk_10 : RW M_X3_walk 10 (.getfield 23) 3 3 2 13 := ⟨rfl, rfl⟩
theorem r_X3_walk_13 : RW M_X3_walk 13 (.iconst 1) 1 0 0 14 := ⟨rfl, rfl⟩
theorem r_X3_walk_14 : RW M_X3_walk 14 (.iload_n 2) 1 0 0 15 := ⟨rfl, rfl⟩
theorem r_X3_walk_15 : RW M_X3_walk 15 (.invokevirtual 26) 3 93 0 18 := ⟨rfl, rfl⟩
theorem r_X3_walk_18 : RW M_X3_walk 18 (.aload_n 0) 1 0 0 19 := ⟨rfl, rfl⟩
theorem r_X3_walk_19 : RW M_X3_walk 19 (.getfield 23) 3 3 2 22 := ⟨rfl, rfl⟩
theorem r_X3_walk_22 : RW M_X3_walk 22 (.iconst 2) 1 0 0 23 := ⟨rfl, rfl⟩
theorem r_X3_walk_23 : RW M_X3_walk 23 (.iload_n 3) 1 0 0 24 := ⟨rfl, rfl⟩
theorem r_X3_walk_24 : RW M_X3_walk 24 (.invokevirtual 26) 3 93 0 27 := ⟨rfl, rfl⟩
theorem r_X3_walk_27 : RW M_X3_walk 27 (.aload_n 0) 1 0 0 28 := ⟨rfl, rfl⟩
theorem r_X3_walk_28 : RW M_X3_walk 28 (.getfield 23) 3 3 2 31 := ⟨rfl, rfl⟩
theorem r_X3_walk_31 : RW M_X3_walk 31 (.iconst 3) 1 0 0 32 := ⟨rfl, rfl⟩
theorem r_X3_walk_32 : RW M_X3_walk 32 (.iload 4) 2 0 0 34 := ⟨rfl, rfl⟩
theorem r_X3_walk_34 : RW M_X3_walk 34 (.invokevirtual 26) 3 93 0 37 := ⟨rfl, rfl⟩
theorem r_X3_walk_37 : RW M_X3_walk 37 (.aload_n 0) 1 0 0 38 := ⟨rfl, rfl⟩
theorem r_X3_walk_38 : RW M_X3_walk 38 (.getfield 23) 3 3 2 41 := ⟨rfl, rfl⟩
theorem r_X3_walk_41 : RW M_X3_walk 41 (.iconst 4) 1 0 0 42 := ⟨rfl, rfl⟩
theorem r_X3_walk_42 : RW M_X3_walk 42 (.iload 5) 2 0 0 44 := ⟨rfl, rfl⟩
theorem r_X3_walk_44 : RW M_X3_walk 44 (.invokevirtual 26) 3 93 0 47 := ⟨rfl, rfl⟩
theorem r_X3_walk_47 : RW M_X3_walk 47 (.aload_n 0) 1 0 0 48 := ⟨rfl, rfl⟩
theorem r_X3_walk_48 : RW M_X3_walk 48 (.getfield 23) 3 3 2 51 := ⟨rfl, rfl⟩
theorem r_X3_walk_51 : RW M_X3_walk 51 (.iconst 5) 1 0 0 52 := ⟨rfl, rfl⟩
theorem r_X3_walk_52 : RW M_X3_walk 52 (.iload 6) 2 0 0 54 := ⟨rfl, rfl⟩
theorem r_X3_walk_54 : RW M_X3_walk 54 (.invokevirtual 26) 3 93 0 57 := ⟨rfl, rfl⟩
theorem r_X3_walk_57 : RW M_X3_walk 57 (.iconst 0) 1 0 0 58 := ⟨rfl, rfl⟩
theorem r_X3_walk_58 : RW M_X3_walk 58 (.istore 7) 2 0 0 60 := ⟨rfl, rfl⟩
theorem r_X3_walk_60 : RW M_X3_walk 60 (.iconst 0) 1 0 0 61 := ⟨rfl, rfl⟩
theorem r_X3_walk_61 : RW M_X3_walk 61 (.istore 8) 2 0 0 63 := ⟨rfl, rfl⟩
theorem r_X3_walk_63 : RW M_X3_walk 63 (.iload 8) 2 0 9 65 := ⟨rfl, rfl⟩
theorem r_X3_walk_65 : RW M_X3_walk 65 (.aload_n 0) 1 0 0 66 := ⟨rfl, rfl⟩
theorem r_X3_walk_66 : RW M_X3_walk 66 (.getfield 30) 3 3 3 69 := ⟨rfl, rfl⟩
theorem r_X3_walk_69 : RW M_X3_walk 69 (.if_icmp .ge 102) 3 171 0 72 := ⟨rfl, rfl⟩
theorem r_X3_walk_72 : RW M_X3_walk 72 (.aload_n 0) 1 0 0 73 := ⟨rfl, rfl⟩
theorem r_X3_walk_73 : RW M_X3_walk 73 (.getfield 14) 3 3 0 76 := ⟨rfl, rfl⟩
theorem r_X3_walk_76 : RW M_X3_walk 76 (.iload 8) 2 0 0 78 := ⟨rfl, rfl⟩
theorem r_X3_walk_78 : RW M_X3_walk 78 (.invokevirtual 110) 3 92 0 81 := ⟨rfl, rfl⟩
theorem r_X3_walk_81 : RW M_X3_walk 81 (.istore 9) 2 0 0 83 := ⟨rfl, rfl⟩
theorem r_X3_walk_83 : RW M_X3_walk 83 (.iload 9) 2 0 0 85 := ⟨rfl, rfl⟩
theorem r_X3_walk_85 : RW M_X3_walk 85 (.bipush (-11)) 2 0 0 87 := ⟨rfl, rfl⟩
theorem r_X3_walk_87 : RW M_X3_walk 87 (.if_icmp .le 39) 3 126 0 90 := ⟨rfl, rfl⟩
theorem r_X3_walk_90 : RW M_X3_walk 90 (.aload_n 0) 1 0 0 91 := ⟨rfl, rfl⟩
theorem r_X3_walk_91 : RW M_X3_walk 91 (.getfield 20) 3 3 1 94 := ⟨rfl, rfl⟩
theorem r_X3_walk_94 : RW M_X3_walk 94 (.iload 7) 2 0 0 96 := ⟨rfl, rfl⟩
theorem r_X3_walk_96 : RW M_X3_walk 96 (.iload 9) 2 0 0 98 := ⟨rfl, rfl⟩
theorem r_X3_walk_98 : RW M_X3_walk 98 (.ifCond .lt 8) 3 106 0 101 := ⟨rfl, rfl⟩
theorem r_X3_walk_101 : RW M_X3_walk 101 (.iload 9) 2 0 0 103 := ⟨rfl, rfl⟩
theorem r_X3_walk_103 : RW M_X3_walk 103 (.goto 14) 3 117 0 106 := ⟨rfl, rfl⟩
theorem r_X3_walk_106 : RW M_X3_walk 106 (.aload_n 0) 1 0 0 107 := ⟨rfl, rfl⟩
theorem r_X3_walk_107 : RW M_X3_walk 107 (.getfield 23) 3 3 2 110 := ⟨rfl, rfl⟩
theorem r_X3_walk_110 : RW M_X3_walk 110 (.iconst (-1)) 1 0 0 111 := ⟨rfl, rfl⟩
theorem r_X3_walk_111 : RW M_X3_walk 111 (.iload 9) 2 0 0 113 := ⟨rfl, rfl⟩
theorem r_X3_walk_113 : RW M_X3_walk 113 (.isub) 1 0 0 114 := ⟨rfl, rfl⟩
theorem r_X3_walk_114 : RW M_X3_walk 114 (.invokevirtual 110) 3 92 0 117 := ⟨rfl, rfl⟩
theorem r_X3_walk_117 : RW M_X3_walk 117 (.invokevirtual 26) 3 93 0 120 := ⟨rfl, rfl⟩
theorem r_X3_walk_120 : RW M_X3_walk 120 (.iinc 7 1) 3 0 0 123 := ⟨rfl, rfl⟩
theorem r_X3_walk_123 : RW M_X3_walk 123 (.goto 42) 3 165 0 126 := ⟨rfl, rfl⟩
theorem r_X3_walk_126 : RW M_X3_walk 126 (.iinc 7 (-1)) 3 0 0 129 := ⟨rfl, rfl⟩
theorem r_X3_walk_129 : RW M_X3_walk 129 (.aload_n 0) 1 0 0 130 := ⟨rfl, rfl⟩
theorem r_X3_walk_130 : RW M_X3_walk 130 (.getfield 20) 3 3 1 133 := ⟨rfl, rfl⟩
theorem r_X3_walk_133 : RW M_X3_walk 133 (.iload 7) 2 0 0 135 := ⟨rfl, rfl⟩
theorem r_X3_walk_135 : RW M_X3_walk 135 (.iconst 1) 1 0 0 136 := ⟨rfl, rfl⟩
theorem r_X3_walk_136 : RW M_X3_walk 136 (.isub) 1 0 0 137 := ⟨rfl, rfl⟩
theorem r_X3_walk_137 : RW M_X3_walk 137 (.iload 9) 2 0 0 139 := ⟨rfl, rfl⟩
theorem r_X3_walk_139 : RW M_X3_walk 139 (.aload_n 0) 1 0 0 140 := ⟨rfl, rfl⟩
theorem r_X3_walk_140 : RW M_X3_walk 140 (.getfield 20) 3 3 1 143 := ⟨rfl, rfl⟩
theorem r_X3_walk_143 : RW M_X3_walk 143 (.iload 7) 2 0 0 145 := ⟨rfl, rfl⟩
theorem r_X3_walk_145 : RW M_X3_walk 145 (.iconst 1) 1 0 0 146 := ⟨rfl, rfl⟩
theorem r_X3_walk_146 : RW M_X3_walk 146 (.isub) 1 0 0 147 := ⟨rfl, rfl⟩
theorem r_X3_walk_147 : RW M_X3_walk 147 (.invokevirtual 110) 3 92 0 150 := ⟨rfl, rfl⟩
theorem r_X3_walk_150 : RW M_X3_walk 150 (.aload_n 0) 1 0 0 151 := ⟨rfl, rfl⟩
theorem r_X3_walk_151 : RW M_X3_walk 151 (.getfield 20) 3 3 1 154 := ⟨rfl, rfl⟩
theorem r_X3_walk_154 : RW M_X3_walk 154 (.iload 7) 2 0 0 156 := ⟨rfl, rfl⟩
theorem r_X3_walk_156 : RW M_X3_walk 156 (.invokevirtual 110) 3 92 0 159 := ⟨rfl, rfl⟩
theorem r_X3_walk_159 : RW M_X3_walk 159 (.invokestatic 114) 3 58 0 162 := ⟨rfl, rfl⟩
theorem r_X3_walk_162 : RW M_X3_walk 162 (.invokevirtual 26) 3 93 0 165 := ⟨rfl, rfl⟩
theorem r_X3_walk_165 : RW M_X3_walk 165 (.iinc 8 1) 3 0 0 168 := ⟨rfl, rfl⟩
theorem r_X3_walk_168 : RW M_X3_walk 168 (.goto (-105)) 3 63 0 171 := ⟨rfl, rfl⟩
theorem r_X3_walk_171 : RW M_X3_walk 171 (.iconst 1) 1 0 0 172 := ⟨rfl, rfl⟩
theorem r_X3_walk_172 : RW M_X3_walk 172 (.bipush 40) 2 0 0 174 := ⟨rfl, rfl⟩
theorem r_X3_walk_174 : RW M_X3_walk 174 (.aload_n 0) 1 0 0 175 := ⟨rfl, rfl⟩
theorem r_X3_walk_175 : RW M_X3_walk 175 (.getfield 20) 3 3 1 178 := ⟨rfl, rfl⟩
theorem r_X3_walk_178 : RW M_X3_walk 178 (.iconst 0) 1 0 0 179 := ⟨rfl, rfl⟩
theorem r_X3_walk_179 : RW M_X3_walk 179 (.invokevirtual 110) 3 92 0 182 := ⟨rfl, rfl⟩
theorem r_X3_walk_182 : RW M_X3_walk 182 (.invokestatic 118) 3 900 0 185 := ⟨rfl, rfl⟩
theorem r_X3_walk_185 : RW M_X3_walk 185 (.invokestatic 123) 3 901 0 188 := ⟨rfl, rfl⟩
theorem r_X3_walk_188 : RW M_X3_walk 188 (.ireturn) 1 0 0 189 := ⟨rfl, rfl⟩
theorem c_walk {d : Nat} {I : Nat → Nat → Int32} {J : Nat → Nat → Int64} {l : LW} {a0 a1 a2 a3 a4 a5 : Int32} (hl : HL 46 l I) (lb : LB l) (hd : 2 ≤ d) : RI d 57 [.ref 46, .int a0, .int a1, .int a2, .int a3, .int a4, .int a5] I J (fun v I' => v = nI (wkf l (fa a0 a1 a2 a3 a4 a5)) ∧ ∀ o, o ≠ 50 → o ≠ 52 → I' o = I o) := by
  refine RI.in (d0 := 1) hd mt_57 (Nat.le_of_ble_eq_true rfl) (fun d' hd' => ?_)
  have ln := lb.n
  show EV none M_X3_walk d' 0 [(0, .ref 46), (1, .int a0), (2, .int a1), (3, .int a2), (4, .int a3), (5, .int a4), (6, .int a5)] [] (hp I J) _
  refine EV.l (lv' := [(0, _), (1, _), (2, _), (3, _), (4, _), (5, _), (6, _)]) r_X3_walk_0 rfl ?_
  refine EV.gR r_X3_walk_1 la_46 ?_
  refine EV.o r_X3_walk_4 (icN (0) (v := 0)) ?_
  refine EV.l (lv' := [(0, _), (1, _), (2, _), (3, _), (4, _), (5, _), (6, _)]) r_X3_walk_5 rfl ?_
  refine EV.cu r_X3_walk_6 (aV2 mt_93 la_51) (c_set la_51 la_52 (by decide) (by decide) (by omega) (by omega)) (fun J1 e1 => ?_)
  subst e1
  refine EV.l (lv' := [(0, _), (1, _), (2, _), (3, _), (4, _), (5, _), (6, _)]) r_X3_walk_9 rfl ?_
  refine EV.gR r_X3_walk_10 la_46 ?_
  refine EV.o r_X3_walk_13 (icN (1) (v := 1)) ?_
  refine EV.l (lv' := [(0, _), (1, _), (2, _), (3, _), (4, _), (5, _), (6, _)]) r_X3_walk_14 rfl ?_
  refine EV.cu r_X3_walk_15 (aV2 mt_93 la_51) (c_set la_51 la_52 (by decide) (by decide) (by omega) (by omega)) (fun J2 e2 => ?_)
  subst e2
  refine EV.l (lv' := [(0, _), (1, _), (2, _), (3, _), (4, _), (5, _), (6, _)]) r_X3_walk_18 rfl ?_
  refine EV.gR r_X3_walk_19 la_46 ?_
  refine EV.o r_X3_walk_22 (icN (2) (v := 2)) ?_
  refine EV.l (lv' := [(0, _), (1, _), (2, _), (3, _), (4, _), (5, _), (6, _)]) r_X3_walk_23 rfl ?_
  refine EV.cu r_X3_walk_24 (aV2 mt_93 la_51) (c_set la_51 la_52 (by decide) (by decide) (by omega) (by omega)) (fun J3 e3 => ?_)
  subst e3
  refine EV.l (lv' := [(0, _), (1, _), (2, _), (3, _), (4, _), (5, _), (6, _)]) r_X3_walk_27 rfl ?_
  refine EV.gR r_X3_walk_28 la_46 ?_
  refine EV.o r_X3_walk_31 (icN (3) (v := 3)) ?_
  refine EV.l (lv' := [(0, _), (1, _), (2, _), (3, _), (4, _), (5, _), (6, _)]) r_X3_walk_32 rfl ?_
  refine EV.cu r_X3_walk_34 (aV2 mt_93 la_51) (c_set la_51 la_52 (by decide) (by decide) (by omega) (by omega)) (fun J4 e4 => ?_)
  subst e4
  refine EV.l (lv' := [(0, _), (1, _), (2, _), (3, _), (4, _), (5, _), (6, _)]) r_X3_walk_37 rfl ?_
  refine EV.gR r_X3_walk_38 la_46 ?_
  refine EV.o r_X3_walk_41 (icN (4) (v := 4)) ?_
  refine EV.l (lv' := [(0, _), (1, _), (2, _), (3, _), (4, _), (5, _), (6, _)]) r_X3_walk_42 rfl ?_
  refine EV.cu r_X3_walk_44 (aV2 mt_93 la_51) (c_set la_51 la_52 (by decide) (by decide) (by omega) (by omega)) (fun J5 e5 => ?_)
  subst e5
  refine EV.l (lv' := [(0, _), (1, _), (2, _), (3, _), (4, _), (5, _), (6, _)]) r_X3_walk_47 rfl ?_
  refine EV.gR r_X3_walk_48 la_46 ?_
  refine EV.o r_X3_walk_51 (icN (5) (v := 5)) ?_
  refine EV.l (lv' := [(0, _), (1, _), (2, _), (3, _), (4, _), (5, _), (6, _)]) r_X3_walk_52 rfl ?_
  refine EV.cu r_X3_walk_54 (aV2 mt_93 la_51) (c_set la_51 la_52 (by decide) (by decide) (by omega) (by omega)) (fun J6 e6 => ?_)
  subst e6
  refine EV.o r_X3_walk_57 (icN (0) (v := 0)) ?_
  refine EV.l (lv' := [(0, _), (1, _), (2, _), (3, _), (4, _), (5, _), (6, _), (7, _)]) r_X3_walk_58 rfl ?_
  refine EV.o r_X3_walk_60 (icN (0) (v := 0)) ?_
  refine EV.l (lv' := [(0, _), (1, _), (2, _), (3, _), (4, _), (5, _), (6, _), (7, _), (8, _)]) r_X3_walk_61 rfl ?_
  have L63 : ∀ y_ : Nat × (Nat → Nat → Int32), (fun y => (y.1 ≤ l.n ∧ (∀ j, j < 6 → y.2 52 j = (fa a0 a1 a2 a3 a4 a5) j) ∧ (∀ o, o ≠ 50 → o ≠ 52 → y.2 o = I o) ∧ ∀ j, j < dep l y.1 → y.2 50 j = evl l (fa a0 a1 a2 a3 a4 a5) y.1 j) → EV none M_X3_walk d' 63 [(0, .ref 46), (1, .int a0), (2, .int a1), (3, .int a2), (4, .int a3), (5, .int a4), (6, .int a5), (7, .int (nI (dep l y.1))), (8, .int (nI y.1))] [] (hp y.2 J) (QI J (fun v I' => v = nI (wkf l (fa a0 a1 a2 a3 a4 a5)) ∧ ∀ o, o ≠ 50 → o ≠ 52 → I' o = I o))) y_ := by
    refine ev_loop (fun y => l.n - y.1) ?_
    intro ⟨k, I1⟩ ih63 hx63
    try dsimp only at ih63
    try dsimp only at hx63
    try dsimp only
    have n1 : I1 46 3 = nI l.n := by rw [hx63.2.2.1 46 (by decide) (by decide)]; exact hl.n
    have dl := dep_le l k
    have kl := hx63.1
    refine EV.l (lv' := [(0, _), (1, _), (2, _), (3, _), (4, _), (5, _), (6, _), (7, _), (8, _)]) r_X3_walk_63 rfl ?_
    refine EV.l (lv' := [(0, _), (1, _), (2, _), (3, _), (4, _), (5, _), (6, _), (7, _), (8, _)]) r_X3_walk_65 rfl ?_
    refine EV.getV r_X3_walk_66 la_46 (n1) ?_
    refine EV.n2_ge r_X3_walk_69 (fun h69 => ?_) (fun h69 => ?_)
    · -- 69 t
      obtain rfl : k = l.n := by omega
      have d1 := lb.de
      refine EV.o r_X3_walk_171 (icN (1) (v := 1)) ?_
      refine EV.o r_X3_walk_172 (bpN (40) 40) ?_
      refine EV.l (lv' := [(0, _), (1, _), (2, _), (3, _), (4, _), (5, _), (6, _), (7, _), (8, _)]) r_X3_walk_174 rfl ?_
      refine EV.gR r_X3_walk_175 la_46 ?_
      refine EV.o r_X3_walk_178 (icN (0) (v := 0)) ?_
      refine EV.cv r_X3_walk_179 (aV1 mt_92 la_49) (c_getN (by omega) la_49 la_50 (hx63.2.2.2 _ (by omega)) (by decide) (by decide) (by omega)) ?_
      refine EV.pminR r_X3_walk_182 ?_
      refine EV.pmaxR r_X3_walk_185 ?_
      exact EV.ri r_X3_walk_188 (⟨ck_eq _, hx63.2.2.1⟩)
    · -- 69 f
      have pa1 : I1 48 k = zI (enc l k) := by rw [hx63.2.2.1 48 (by decide) (by decide)]; exact hl.pa k (by omega)
      have eb : -17 ≤ enc l k ∧ enc l k ≤ 999 := by rcases enc_c lb (k := k) (by omega) with h | h | h <;> omega
      refine EV.l (lv' := [(0, _), (1, _), (2, _), (3, _), (4, _), (5, _), (6, _), (7, _), (8, _)]) r_X3_walk_72 rfl ?_
      refine EV.gR r_X3_walk_73 la_46 ?_
      refine EV.l (lv' := [(0, _), (1, _), (2, _), (3, _), (4, _), (5, _), (6, _), (7, _), (8, _)]) r_X3_walk_76 rfl ?_
      refine EV.cv r_X3_walk_78 (aV1 mt_92 la_47) (c_getN (by omega) la_47 la_48 pa1 (by decide) (by decide) (by omega)) ?_
      refine EV.l (lv' := [(0, _), (1, _), (2, _), (3, _), (4, _), (5, _), (6, _), (7, _), (8, _), (9, _)]) r_X3_walk_81 rfl ?_
      refine EV.l (lv' := [(0, _), (1, _), (2, _), (3, _), (4, _), (5, _), (6, _), (7, _), (8, _), (9, _)]) r_X3_walk_83 rfl ?_
      refine EV.o r_X3_walk_85 (bpZ (-11)) ?_
      refine EV.z2_le r_X3_walk_87 (fun h87 => ?_) (fun h87 => ?_)
      · -- 87 t
        obtain ⟨w2, w8, ec, _, _, d2⟩ : 2 ≤ l.what k ∧ l.what k ≤ 8 ∧ enc l k = opc (l.what k) ∧ enc l k ≤ -11 ∧ -17 ≤ enc l k ∧ 2 ≤ dep l k := by rcases enc_c lb (k := k) (by omega) with h | h | h <;> first | exact h | omega
        rw [ec]
        refine EV.l (lv' := [(0, _), (1, _), (2, _), (3, _), (4, _), (5, _), (6, _), (7, _), (8, _), (9, _)]) r_X3_walk_126 rfl ?_
        rw [dec_nI (by omega)]
        refine EV.l (lv' := [(0, _), (1, _), (2, _), (3, _), (4, _), (5, _), (6, _), (7, _), (8, _), (9, _)]) r_X3_walk_129 rfl ?_
        refine EV.gR r_X3_walk_130 la_46 ?_
        refine EV.l (lv' := [(0, _), (1, _), (2, _), (3, _), (4, _), (5, _), (6, _), (7, _), (8, _), (9, _)]) r_X3_walk_133 rfl ?_
        refine EV.o r_X3_walk_135 (icN (1) (v := 1)) ?_
        refine EV.o r_X3_walk_136 (isubN) ?_
        refine EV.l (lv' := [(0, _), (1, _), (2, _), (3, _), (4, _), (5, _), (6, _), (7, _), (8, _), (9, _)]) r_X3_walk_137 rfl ?_
        refine EV.l (lv' := [(0, _), (1, _), (2, _), (3, _), (4, _), (5, _), (6, _), (7, _), (8, _), (9, _)]) r_X3_walk_139 rfl ?_
        refine EV.gR r_X3_walk_140 la_46 ?_
        refine EV.l (lv' := [(0, _), (1, _), (2, _), (3, _), (4, _), (5, _), (6, _), (7, _), (8, _), (9, _)]) r_X3_walk_143 rfl ?_
        refine EV.o r_X3_walk_145 (icN (1) (v := 1)) ?_
        refine EV.o r_X3_walk_146 (isubN) ?_
        refine EV.cv r_X3_walk_147 (aV1 mt_92 la_49) (c_getN (by omega) la_49 la_50 (hx63.2.2.2 _ (by omega)) (by decide) (by decide) (by omega)) ?_
        refine EV.l (lv' := [(0, _), (1, _), (2, _), (3, _), (4, _), (5, _), (6, _), (7, _), (8, _), (9, _)]) r_X3_walk_150 rfl ?_
        refine EV.gR r_X3_walk_151 la_46 ?_
        refine EV.l (lv' := [(0, _), (1, _), (2, _), (3, _), (4, _), (5, _), (6, _), (7, _), (8, _), (9, _)]) r_X3_walk_154 rfl ?_
        refine EV.cv r_X3_walk_156 (aV1 mt_92 la_49) (c_getN (by omega) la_49 la_50 (hx63.2.2.2 _ (by omega)) (by decide) (by decide) (by omega)) ?_
        refine EV.cv r_X3_walk_159 (aS3 mt_58) (c_ap (by omega) (by omega) (by omega)) ?_
        refine EV.cu r_X3_walk_162 (aV2 mt_93 la_49) (c_set la_49 la_50 (by decide) (by decide) (by omega) (by omega)) (fun I2 e2 => ?_)
        refine EV.l (lv' := [(0, _), (1, _), (2, _), (3, _), (4, _), (5, _), (6, _), (7, _), (8, _), (9, _)]) r_X3_walk_165 rfl ?_
        rw [inc_nI]
        refine EV.g r_X3_walk_168 ?_
        refine EV.fg (lv' := [(0, _), (1, _), (2, _), (3, _), (4, _), (5, _), (6, _), (7, _), (8, _)]) r_X3_walk_63 rfl rfl rfl ?_
        refine EV.sub ?_ rfl ?_ (ih63 (k + 1, I2) ?_ ?_)
        · (try dsimp only) <;> (first | rw [dep_p (by omega)] | rw [dep_m (by omega)])
        · (try dsimp only) <;> (rfl)
        · (try dsimp only) <;> (omega)
        · (try dsimp only) <;> (subst e2; exact ⟨by omega, fun j hj => by rw [wr_row (by decide)]; exact hx63.2.1 j hj, fun o h1 h2 => (wr_row h1).trans (hx63.2.2.1 o h1 h2), by first | exact ev_0 hx63.2.2.2 (by omega) (by rw [ec, zI_nat]) | exact ev_1 hx63.2.2.2 (by omega) rfl | exact ev_2 hx63.2.2.2 (by omega) (by omega) (by rw [show dep l k - 1 - 1 = dep l k - 2 by omega])⟩)
      · -- 87 f
        refine EV.l (lv' := [(0, _), (1, _), (2, _), (3, _), (4, _), (5, _), (6, _), (7, _), (8, _), (9, _)]) r_X3_walk_90 rfl ?_
        refine EV.gR r_X3_walk_91 la_46 ?_
        refine EV.l (lv' := [(0, _), (1, _), (2, _), (3, _), (4, _), (5, _), (6, _), (7, _), (8, _), (9, _)]) r_X3_walk_94 rfl ?_
        refine EV.l (lv' := [(0, _), (1, _), (2, _), (3, _), (4, _), (5, _), (6, _), (7, _), (8, _), (9, _)]) r_X3_walk_96 rfl ?_
        refine EV.z0_lt r_X3_walk_98 (fun h98 => ?_) (fun h98 => ?_)
        · -- 98 t
          obtain ⟨w1, ec, ob⟩ : l.what k = 1 ∧ enc l k = -1 - (l.of k : Int) ∧ l.of k < 6 := by rcases enc_c lb (k := k) (by omega) with h | h | h <;> first | exact h | omega
          refine EV.l (lv' := [(0, _), (1, _), (2, _), (3, _), (4, _), (5, _), (6, _), (7, _), (8, _), (9, _)]) r_X3_walk_106 rfl ?_
          refine EV.gR r_X3_walk_107 la_46 ?_
          refine EV.o r_X3_walk_110 (icZ (-1)) ?_
          refine EV.l (lv' := [(0, _), (1, _), (2, _), (3, _), (4, _), (5, _), (6, _), (7, _), (8, _), (9, _)]) r_X3_walk_111 rfl ?_
          refine EV.o r_X3_walk_113 (by rw [isubZ, show -1 - enc l k = ((l.of k : Nat) : Int) by omega, zI_nat]) ?_
          refine EV.cv r_X3_walk_114 (aV1 mt_92 la_51) (c_getN (by omega) la_51 la_52 (hx63.2.1 _ (by omega)) (by decide) (by decide) (by omega)) ?_
          refine EV.cu r_X3_walk_117 (aV2 mt_93 la_49) (c_set la_49 la_50 (by decide) (by decide) (by omega) (by omega)) (fun I2 e2 => ?_)
          refine EV.l (lv' := [(0, _), (1, _), (2, _), (3, _), (4, _), (5, _), (6, _), (7, _), (8, _), (9, _)]) r_X3_walk_120 rfl ?_
          rw [inc_nI]
          refine EV.g r_X3_walk_123 ?_
          refine EV.l (lv' := [(0, _), (1, _), (2, _), (3, _), (4, _), (5, _), (6, _), (7, _), (8, _), (9, _)]) r_X3_walk_165 rfl ?_
          rw [inc_nI]
          refine EV.g r_X3_walk_168 ?_
          refine EV.fg (lv' := [(0, _), (1, _), (2, _), (3, _), (4, _), (5, _), (6, _), (7, _), (8, _)]) r_X3_walk_63 rfl rfl rfl ?_
          refine EV.sub ?_ rfl ?_ (ih63 (k + 1, I2) ?_ ?_)
          · (try dsimp only) <;> (first | rw [dep_p (by omega)] | rw [dep_m (by omega)])
          · (try dsimp only) <;> (rfl)
          · (try dsimp only) <;> (omega)
          · (try dsimp only) <;> (subst e2; exact ⟨by omega, fun j hj => by rw [wr_row (by decide)]; exact hx63.2.1 j hj, fun o h1 h2 => (wr_row h1).trans (hx63.2.2.1 o h1 h2), by first | exact ev_0 hx63.2.2.2 (by omega) (by rw [ec, zI_nat]) | exact ev_1 hx63.2.2.2 (by omega) rfl | exact ev_2 hx63.2.2.2 (by omega) (by omega) (by rw [show dep l k - 1 - 1 = dep l k - 2 by omega])⟩)
        · -- 98 f
          obtain ⟨w0, ec, ob⟩ : l.what k = 0 ∧ enc l k = (l.of k : Int) ∧ l.of k ≤ 999 := by rcases enc_c lb (k := k) (by omega) with h | h | h <;> first | exact h | omega
          refine EV.l (lv' := [(0, _), (1, _), (2, _), (3, _), (4, _), (5, _), (6, _), (7, _), (8, _), (9, _)]) r_X3_walk_101 rfl ?_
          refine EV.g r_X3_walk_103 ?_
          refine EV.cu r_X3_walk_117 (aV2 mt_93 la_49) (c_set la_49 la_50 (by decide) (by decide) (by omega) (by omega)) (fun I2 e2 => ?_)
          refine EV.l (lv' := [(0, _), (1, _), (2, _), (3, _), (4, _), (5, _), (6, _), (7, _), (8, _), (9, _)]) r_X3_walk_120 rfl ?_
          rw [inc_nI]
          refine EV.g r_X3_walk_123 ?_
          refine EV.l (lv' := [(0, _), (1, _), (2, _), (3, _), (4, _), (5, _), (6, _), (7, _), (8, _), (9, _)]) r_X3_walk_165 rfl ?_
          rw [inc_nI]
          refine EV.g r_X3_walk_168 ?_
          refine EV.fg (lv' := [(0, _), (1, _), (2, _), (3, _), (4, _), (5, _), (6, _), (7, _), (8, _)]) r_X3_walk_63 rfl rfl rfl ?_
          refine EV.sub ?_ rfl ?_ (ih63 (k + 1, I2) ?_ ?_)
          · (try dsimp only) <;> (first | rw [dep_p (by omega)] | rw [dep_m (by omega)])
          · (try dsimp only) <;> (rfl)
          · (try dsimp only) <;> (omega)
          · (try dsimp only) <;> (subst e2; exact ⟨by omega, fun j hj => by rw [wr_row (by decide)]; exact hx63.2.1 j hj, fun o h1 h2 => (wr_row h1).trans (hx63.2.2.1 o h1 h2), by first | exact ev_0 hx63.2.2.2 (by omega) (by rw [ec, zI_nat]) | exact ev_1 hx63.2.2.2 (by omega) rfl | exact ev_2 hx63.2.2.2 (by omega) (by omega) (by rw [show dep l k - 1 - 1 = dep l k - 2 by omega])⟩)
  have h0 := L63 ((0, (wr (wr (wr (wr (wr (wr I 52 0 a0) 52 1 a1) 52 2 a2) 52 3 a3) 52 4 a4) 52 5 a5)))
  try dsimp only at h0
  refine EV.sub ?_ rfl ?_ (h0 ?_)
  · (try dsimp only) <;> (rfl)
  · (try dsimp only) <;> (rfl)
  · (try dsimp only) <;> (exact ⟨Nat.zero_le _, fa_in, fun o _ h2 => by simp only [wr_row h2], fun j hj => absurd hj (Nat.not_lt_zero j)⟩)
