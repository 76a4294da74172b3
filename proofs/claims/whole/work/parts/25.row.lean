/-! Row -/
theorem r_X7_copy_0 : RW M_X7_copy 0 (.iconst 0) 1 0 0 1 := ⟨rfl, rfl⟩
theorem r_X7_copy_1 : RW M_X7_copy 1 (.istore 5) 2 0 0 3 := ⟨rfl, rfl⟩
theorem r_X7_copy_3 : RW M_X7_copy 3 (.iload 5) 2 0 0 5 := ⟨rfl, rfl⟩
theorem r_X7_copy_5 : RW M_X7_copy 5 (.iload 4) 2 0 0 7 := ⟨rfl, rfl⟩
theorem r_X7_copy_7 : RW M_X7_copy 7 (.if_icmp .ge 25) 3 32 0 10 := ⟨rfl, rfl⟩
theorem r_X7_copy_10 : RW M_X7_copy 10 (.aload_n 0) 1 0 0 11 := ⟨rfl, rfl⟩
theorem r_X7_copy_11 : RW M_X7_copy 11 (.iload_n 1) 1 0 0 12 := ⟨rfl, rfl⟩
theorem r_X7_copy_12 : RW M_X7_copy 12 (.iload 5) 2 0 0 14 := ⟨rfl, rfl⟩
theorem r_X7_copy_14 : RW M_X7_copy 14 (.iadd) 1 0 0 15 := ⟨rfl, rfl⟩
theorem r_X7_copy_15 : RW M_X7_copy 15 (.aload_n 2) 1 0 0 16 := ⟨rfl, rfl⟩
theorem r_X7_copy_16 : RW M_X7_copy 16 (.iload_n 3) 1 0 0 17 := ⟨rfl, rfl⟩
theorem r_X7_copy_17 : RW M_X7_copy 17 (.iload 5) 2 0 0 19 := ⟨rfl, rfl⟩
theorem r_X7_copy_19 : RW M_X7_copy 19 (.iadd) 1 0 0 20 := ⟨rfl, rfl⟩
theorem r_X7_copy_20 : RW M_X7_copy 20 (.invokevirtual 13) 3 92 0 23 := ⟨rfl, rfl⟩
theorem r_X7_copy_23 : RW M_X7_copy 23 (.invokevirtual 17) 3 93 0 26 := ⟨rfl, rfl⟩
theorem r_X7_copy_26 : RW M_X7_copy 26 (.iinc 5 1) 3 0 0 29 := ⟨rfl, rfl⟩
theorem r_X7_copy_29 : RW M_X7_copy 29 (.goto (-26)) 3 3 0 32 := ⟨rfl, rfl⟩
theorem r_X7_copy_32 : RW M_X7_copy 32 (.return_) 1 0 0 33 := ⟨rfl, rfl⟩
theorem r_X7_get_0 : RW M_X7_get 0 (.iload_n 1) 1 0 0 1 := ⟨rfl, rfl⟩
theorem r_X7_get_1 : RW M_X7_get 1 (.ifCond .lt 21) 3 22 0 4 := ⟨rfl, rfl⟩
theorem r_X7_get_4 : RW M_X7_get 4 (.iload_n 1) 1 0 0 5 := ⟨rfl, rfl⟩
theorem r_X7_get_5 : RW M_X7_get 5 (.aload_n 0) 1 0 0 6 := ⟨rfl, rfl⟩
theorem r_X7_get_6 : RW M_X7_get 6 (.getfield 7) 3 7 0 9 := ⟨rfl, rfl⟩
theorem r_X7_get_9 : RW M_X7_get 9 (.arraylength) 1 0 0 10 := ⟨rfl, rfl⟩
theorem r_X7_get_10 : RW M_X7_get 10 (.if_icmp .ge 12) 3 22 0 13 := ⟨rfl, rfl⟩
theorem r_X7_get_13 : RW M_X7_get 13 (.aload_n 0) 1 0 0 14 := ⟨rfl, rfl⟩
theorem r_X7_get_14 : RW M_X7_get 14 (.getfield 7) 3 7 0 17 := ⟨rfl, rfl⟩
theorem r_X7_get_17 : RW M_X7_get 17 (.iload_n 1) 1 0 0 18 := ⟨rfl, rfl⟩
theorem r_X7_get_18 : RW M_X7_get 18 (.iaload) 1 0 0 19 := ⟨rfl, rfl⟩
theorem r_X7_get_19 : RW M_X7_get 19 (.goto 4) 3 23 0 22 := ⟨rfl, rfl⟩
theorem r_X7_get_23 : RW M_X7_get 23 (.ireturn) 1 0 0 24 := ⟨rfl, rfl⟩
theorem r_X7_set_0 : RW M_X7_set 0 (.iload_n 1) 1 0 0 1 := ⟨rfl, rfl⟩
theorem r_X7_set_1 : RW M_X7_set 1 (.ifCond .lt 19) 3 20 0 4 := ⟨rfl, rfl⟩
theorem r_X7_set_4 : RW M_X7_set 4 (.iload_n 1) 1 0 0 5 := ⟨rfl, rfl⟩
theorem r_X7_set_5 : RW M_X7_set 5 (.aload_n 0) 1 0 0 6 := ⟨rfl, rfl⟩
theorem r_X7_set_6 : RW M_X7_set 6 (.getfield 7) 3 7 0 9 := ⟨rfl, rfl⟩
theorem r_X7_set_9 : RW M_X7_set 9 (.arraylength) 1 0 0 10 := ⟨rfl, rfl⟩
theorem r_X7_set_10 : RW M_X7_set 10 (.if_icmp .ge 10) 3 20 0 13 := ⟨rfl, rfl⟩
theorem r_X7_set_13 : RW M_X7_set 13 (.aload_n 0) 1 0 0 14 := ⟨rfl, rfl⟩
theorem r_X7_set_14 : RW M_X7_set 14 (.getfield 7) 3 7 0 17 := ⟨rfl, rfl⟩
theorem r_X7_set_17 : RW M_X7_set 17 (.iload_n 1) 1 0 0 18 := ⟨rfl, rfl⟩
theorem r_X7_set_18 : RW M_X7_set 18 (.iload_n 2) 1 0 0 19 := ⟨rfl, rfl⟩
theorem r_X7_set_19 : RW M_X7_set 19 (.iastore) 1 0 0 20 := ⟨rfl, rfl⟩
theorem r_X7_set_20 : RW M_X7_set 20 (.return_) 1 0 0 21 := ⟨rfl, rfl⟩
theorem inc_nI (n : Nat) : nI n + Int32.ofInt 1 = nI (n + 1) := (nI_succ n).symm
theorem dec_nI {n : Nat} (h : 0 < n) : nI n + Int32.ofInt (-1) = nI (n - 1) := sb_m1 h
theorem c_get {d : Nat} {I : Nat → Nat → Int32} {J : Nat → Nat → Int64} {r n j : Nat} (hr : LAYO[r]? = some (.inr (.inr (7, [some (r + 1)])))) (hc : LAYO[r + 1]? = some (.inl n)) (hn : n < 100000) (hs : r < 1000) (hj : j < n) (hd : 1 ≤ d) : RV d 92 [.ref r, .int (nI j)] I J (I (r + 1) j) := by
  refine RV.in (d0 := 0) hd mt_92 (Nat.le_of_ble_eq_true rfl) (fun d' hd' => ?_)
  show EV none M_X7_get d' 0 [(0, .ref r), (1, .int (nI j))] [] (hp I J) _
  refine EV.l (lv' := [(0, _), (1, _)]) r_X7_get_0 rfl ?_
  refine EV.n0_lt r_X7_get_1 (fun h1 => ?_) (fun h1 => ?_)
  · omega
  · -- 1 f
    refine EV.l (lv' := [(0, _), (1, _)]) r_X7_get_4 rfl ?_
    refine EV.l (lv' := [(0, _), (1, _)]) r_X7_get_5 rfl ?_
    refine EV.gR r_X7_get_6 hr ?_
    refine EV.al r_X7_get_9 hc ?_ (Nat.lt_of_lt_of_le (by omega : r + 1 < 1001) (by decide))
    refine EV.n2_ge r_X7_get_10 (fun h10 => ?_) (fun h10 => ?_)
    · omega
    · -- 10 f
      refine EV.l (lv' := [(0, _), (1, _)]) r_X7_get_13 rfl ?_
      refine EV.gR r_X7_get_14 hr ?_
      refine EV.l (lv' := [(0, _), (1, _)]) r_X7_get_17 rfl ?_
      refine EV.iaN r_X7_get_18 hc rfl ?_ (by omega) (by omega) (Nat.lt_of_lt_of_le (by omega : r + 1 < 1001) (by decide))
      refine EV.g r_X7_get_19 ?_
      exact EV.rv r_X7_get_23 (rfl)
theorem c_set {d : Nat} {I : Nat → Nat → Int32} {J : Nat → Nat → Int64} {r n j : Nat} {v : Int32} (hr : LAYO[r]? = some (.inr (.inr (7, [some (r + 1)])))) (hc : LAYO[r + 1]? = some (.inl n)) (hn : n < 100000) (hs : r < 1000) (hj : j < n) (hd : 1 ≤ d) : RU d 93 [.ref r, .int (nI j), .int v] I J (fun I' => I' = wr I (r + 1) j v) := by
  refine RU.in (d0 := 0) hd mt_93 (Nat.le_of_ble_eq_true rfl) (fun d' hd' => ?_)
  show EV none M_X7_set d' 0 [(0, .ref r), (1, .int (nI j)), (2, .int v)] [] (hp I J) _
  refine EV.l (lv' := [(0, _), (1, _), (2, _)]) r_X7_set_0 rfl ?_
  refine EV.n0_lt r_X7_set_1 (fun h1 => ?_) (fun h1 => ?_)
  · omega
  · -- 1 f
    refine EV.l (lv' := [(0, _), (1, _), (2, _)]) r_X7_set_4 rfl ?_
    refine EV.l (lv' := [(0, _), (1, _), (2, _)]) r_X7_set_5 rfl ?_
    refine EV.gR r_X7_set_6 hr ?_
    refine EV.al r_X7_set_9 hc ?_ (Nat.lt_of_lt_of_le (by omega : r + 1 < 1001) (by decide))
    refine EV.n2_ge r_X7_set_10 (fun h10 => ?_) (fun h10 => ?_)
    · omega
    · -- 10 f
      refine EV.l (lv' := [(0, _), (1, _), (2, _)]) r_X7_set_13 rfl ?_
      refine EV.gR r_X7_set_14 hr ?_
      refine EV.l (lv' := [(0, _), (1, _), (2, _)]) r_X7_set_17 rfl ?_
      refine EV.l (lv' := [(0, _), (1, _), (2, _)]) r_X7_set_18 rfl ?_
      refine EV.iaS r_X7_set_19 hc ?_
      exact EV.ru r_X7_set_20 (rfl)
def cpy (I : Nat → Nat → Int32) (q p o f : Nat) (n : Nat) : Nat → Nat → Int32 := fun x k => if x = q ∧ p ≤ k ∧ k < p + n then I o (f + (k - p)) else I x k
theorem cpy_succ {I : Nat → Nat → Int32} {q p o f n : Nat} (h : o ≠ q) : wr (cpy I q p o f n) q (p + n) (cpy I q p o f n o (f + n)) = cpy I q p o f (n + 1) := by
  funext x k
  unfold wr cpy
  by_cases hx : x = q
  · subst hx
    by_cases hk : k = p + n
    · subst hk
      rw [if_pos ⟨rfl, rfl⟩, if_neg (fun z => h z.1), if_pos ⟨rfl, by omega, by omega⟩]
      congr 1; omega
    · rw [if_neg (fun z => hk z.2)]
      by_cases h2 : p ≤ k ∧ k < p + n
      · rw [if_pos ⟨rfl, h2.1, h2.2⟩, if_pos ⟨rfl, h2.1, by omega⟩]
      · rw [if_neg (fun z => h2 z.2), if_neg (fun z => h2 ⟨z.2.1, by omega⟩)]
  · rw [if_neg (fun z => hx z.1), if_neg (fun z => hx z.1), if_neg (fun z => hx z.1)]
theorem cpy_zero {I : Nat → Nat → Int32} {q p o f : Nat} : cpy I q p o f 0 = I := by
  funext x k
  unfold cpy
  rw [if_neg (fun z => by omega)]
theorem c_copy {d : Nat} {I : Nat → Nat → Int32} {J : Nat → Nat → Int64} {r n o n2 p f m : Nat} (hr : LAYO[r]? = some (.inr (.inr (7, [some (r + 1)])))) (hc : LAYO[r + 1]? = some (.inl n)) (hn : n < 100000) (hs : r < 1000) (hr2 : LAYO[o]? = some (.inr (.inr (7, [some (o + 1)])))) (hc2 : LAYO[o + 1]? = some (.inl n2)) (hn2 : n2 < 100000) (hs2 : o < 1000) (ho : o ≠ r) (h1 : p + m ≤ n) (h2 : f + m ≤ n2) (hd : 2 ≤ d) : RU d 94 [.ref r, .int (nI p), .ref o, .int (nI f), .int (nI m)] I J (fun I' => I' = cpy I (r + 1) p (o + 1) f m) := by
  refine RU.in (d0 := 1) hd mt_94 (Nat.le_of_ble_eq_true rfl) (fun d' hd' => ?_)
  show EV none M_X7_copy d' 0 [(0, .ref r), (1, .int (nI p)), (2, .ref o), (3, .int (nI f)), (4, .int (nI m))] [] (hp I J) _
  refine EV.o r_X7_copy_0 (icN (0) (v := 0)) ?_
  refine EV.l (lv' := [(0, _), (1, _), (2, _), (3, _), (4, _), (5, _)]) r_X7_copy_1 rfl ?_
  have L3 : ∀ y_ : Nat, (fun i => i ≤ m → EV none M_X7_copy d' 3 [(0, .ref r), (1, .int (nI p)), (2, .ref o), (3, .int (nI f)), (4, .int (nI m)), (5, .int (nI i))] [] (hp (cpy I (r + 1) p (o + 1) f i) J) (QU J (fun I' => I' = cpy I (r + 1) p (o + 1) f m))) y_ := by
    refine ev_loop (fun i => m - i) ?_
    intro i ih3 hx3
    try dsimp only at ih3
    try dsimp only at hx3
    try dsimp only
    refine EV.l (lv' := [(0, _), (1, _), (2, _), (3, _), (4, _), (5, _)]) r_X7_copy_3 rfl ?_
    refine EV.l (lv' := [(0, _), (1, _), (2, _), (3, _), (4, _), (5, _)]) r_X7_copy_5 rfl ?_
    refine EV.n2_ge r_X7_copy_7 (fun h7 => ?_) (fun h7 => ?_)
    · -- 7 t
      exact EV.ru r_X7_copy_32 ((by rw [show m = i by omega]))
    · -- 7 f
      refine EV.l (lv' := [(0, _), (1, _), (2, _), (3, _), (4, _), (5, _)]) r_X7_copy_10 rfl ?_
      refine EV.l (lv' := [(0, _), (1, _), (2, _), (3, _), (4, _), (5, _)]) r_X7_copy_11 rfl ?_
      refine EV.l (lv' := [(0, _), (1, _), (2, _), (3, _), (4, _), (5, _)]) r_X7_copy_12 rfl ?_
      refine EV.o r_X7_copy_14 iaddN ?_
      refine EV.l (lv' := [(0, _), (1, _), (2, _), (3, _), (4, _), (5, _)]) r_X7_copy_15 rfl ?_
      refine EV.l (lv' := [(0, _), (1, _), (2, _), (3, _), (4, _), (5, _)]) r_X7_copy_16 rfl ?_
      refine EV.l (lv' := [(0, _), (1, _), (2, _), (3, _), (4, _), (5, _)]) r_X7_copy_17 rfl ?_
      refine EV.o r_X7_copy_19 iaddN ?_
      refine EV.cv r_X7_copy_20 (aV1 mt_92 hr2) (c_get hr2 hc2 hn2 hs2 (by omega) (by omega)) ?_
      refine EV.cu r_X7_copy_23 (aV2 mt_93 hr) (c_set hr hc hn hs (by omega) (by omega)) (fun I' e23 => ?_)
      refine EV.l (lv' := [(0, _), (1, _), (2, _), (3, _), (4, _), (5, _)]) r_X7_copy_26 rfl ?_
      rw [inc_nI]
      refine EV.g r_X7_copy_29 ?_
      refine EV.sub ?_ rfl ?_ (ih3 (i + 1) ?_ ?_)
      · rfl
      · rw [e23, cpy_succ (by omega)]
      · omega
      · omega
  have h0 := L3 (0)
  try dsimp only at h0
  refine EV.sub ?_ rfl ?_ (h0 ?_)
  · rfl
  · rw [cpy_zero]
  · omega
