/-! Questions of the model. -/
theorem wtS_of {κ : CT} {x s : Nat} : ∀ k, k ≤ κ.ns → wtS κ x s k = wtOf κ (ofSd κ s &&& x) k
  | 0, _ => rfl
  | k + 1, h => by
    have ih := wtS_of (κ := κ) (x := x) (s := s) k (by omega)
    unfold wtS wtOf
    rw [ih, Nat.testBit_and]
    unfold ofSd
    rw [mk_bit, decide_eq_true (by omega : k < κ.ns), Bool.true_and]
    by_cases hs : κ.ss k = s
    · by_cases hx : x.testBit k = true
      · rw [if_pos ⟨hx, hs⟩, if_pos (by rw [hx, decide_eq_true hs]; rfl)]
      · rw [if_neg (fun z => hx z.1), if_neg (by rw [Bool.and_eq_true]; exact fun z => hx z.2)]
    · rw [if_neg (fun z => hs z.2), if_neg (by rw [decide_eq_false hs, Bool.false_and]; decide)]
theorem of_all {κ : CT} {s : Nat} : ofSd κ s &&& (2 ^ κ.ns - 1) = ofSd κ s := by
  rw [Nat.and_two_pow_sub_one_eq_mod]
  exact Nat.mod_eq_of_lt (mk_lt _ _)
/-- the model's row of those of one side -/
def ptM (κ : CT) (x s : Nat) : Nat → Nat
  | 0 => x
  | k + 1 => if κ.ss k = s then ptM κ x s k else andc (ptM κ x s k) (2 ^ k)
theorem ptM_lt {κ : CT} {x s n : Nat} (h : x < 2 ^ n) : ∀ k, ptM κ x s k < 2 ^ n
  | 0 => h
  | k + 1 => by
    unfold ptM
    split
    · exact ptM_lt h k
    · exact andc_lt (ptM_lt h k)
theorem ptM_t {κ : CT} {x s k : Nat} (h : κ.ss k = s) : ptM κ x s k = ptM κ x s (k + 1) := (if_pos h).symm
theorem ptM_f {κ : CT} {x s k : Nat} (h : ¬ κ.ss k = s) : andc (ptM κ x s k) (2 ^ k) = ptM κ x s (k + 1) := (if_neg h).symm
theorem ptM_bit {κ : CT} {x s : Nat} : ∀ k i, (ptM κ x s k).testBit i = (x.testBit i && (decide (k ≤ i) || decide (κ.ss i = s)))
  | 0, i => by unfold ptM; simp
  | k + 1, i => by
    have ih := ptM_bit (κ := κ) (x := x) (s := s) k i
    unfold ptM
    by_cases h : κ.ss k = s
    · rw [if_pos h, ih]
      by_cases e : i = k
      · subst e; simp [h]
      · rw [show decide (k + 1 ≤ i) = decide (k ≤ i) from decide_eq_decide.mpr (by omega)]
    · rw [if_neg h, andc_bit, ih, Nat.testBit_two_pow]
      by_cases e : k = i
      · subst e; simp [h]
      · rw [show decide (k + 1 ≤ i) = decide (k ≤ i) from decide_eq_decide.mpr (by omega), decide_eq_false e]; simp
theorem ptM_eq {κ : CT} {x s : Nat} (hx : x < 2 ^ κ.ns) : ptM κ x s κ.ns = ofSd κ s &&& x := by
  refine Nat.eq_of_testBit_eq fun i => ?_
  rw [ptM_bit, Nat.testBit_and]
  unfold ofSd
  rw [mk_bit]
  by_cases hi : i < κ.ns
  · rw [decide_eq_true hi, decide_eq_false (by omega : ¬ κ.ns ≤ i), Bool.and_comm]; simp
  · rw [Nat.testBit_lt_two_pow (Nat.lt_of_lt_of_le hx (Nat.pow_le_pow_right (by decide) (by omega)))]; simp
theorem iandM1 {x : Nat} {st : List Value} : stk .iand (.int (zI (-1)) :: .int (nI x) :: st) = some (.int (nI x) :: st) := by
  have h : nI x &&& zI (-1) = nI x := congrArg Int32.ofBitVec (BitVec.and_allOnes (w := 32) (x := BitVec.ofNat 32 x))
  show some (Value.int (nI x &&& zI (-1)) :: st) = _
  rw [h]
theorem used_b {x a b : Nat} : ((x / 2 ^ a) &&& (x / 2 ^ b)) &&& 1 = (x.testBit a && x.testBit b).toNat := by
  have h : ∀ y, y &&& 1 = (y.testBit 0).toNat := fun y => by have := bit_eq y 0; rwa [Nat.pow_zero, Nat.div_one] at this
  rw [h, Nat.testBit_and, ← Nat.shiftRight_eq_div_pow, ← Nat.shiftRight_eq_div_pow, Nat.testBit_shiftRight, Nat.testBit_shiftRight]
  rfl
theorem iusedN {x a b : Nat} {st : List Value} : stk .iand (.int (nI 1) :: .int (nI ((x / 2 ^ a) &&& (x / 2 ^ b))) :: st) = some (.int (nI (x.testBit a && x.testBit b).toNat) :: st) := by rw [iandN, used_b]
def whB (η : HS) (w i : Nat) : Bool := decide ((if η.mi < η.sa i then 0 else if η.sa i = η.mi then 1 else 2) = w)
theorem wh0 {κ : CT} {η : HS} (hb_ : HB κ η) : mk (whB η 0) κ.ns = sdB κ η (η.mi + 1) 400 := mk_congr fun i _ => by
  have := hb_.sa i
  unfold whB
  refine decide_eq_decide.mpr ?_
  split
  · exact ⟨fun _ => by omega, fun _ => rfl⟩
  · split <;> exact ⟨fun h => absurd h (by decide), fun _ => by omega⟩
theorem wh1 {κ : CT} {η : HS} : mk (whB η 1) κ.ns = sdB κ η η.mi η.mi := mk_congr fun i _ => by
  unfold whB
  refine decide_eq_decide.mpr ?_
  split
  · exact ⟨fun h => absurd h (by decide), fun _ => by omega⟩
  · split
    · exact ⟨fun _ => by omega, fun _ => rfl⟩
    · exact ⟨fun h => absurd h (by decide), fun _ => by omega⟩
theorem wh2 {κ : CT} {η : HS} : mk (whB η 2) κ.ns = mk (fun i => decide (0 ≤ η.sa i ∧ (η.sa i : Int) ≤ (η.mi : Int) - 1)) κ.ns := mk_congr fun i _ => by
  unfold whB
  refine decide_eq_decide.mpr ?_
  split
  · exact ⟨fun h => absurd h (by decide), fun _ => by omega⟩
  · split
    · exact ⟨fun h => absurd h (by decide), fun _ => by omega⟩
    · exact ⟨fun _ => by omega, fun _ => rfl⟩
theorem whB_d {η : HS} {w i : Nat} : whB η w i = decide ((if η.mi < η.sa i then 0 else if η.sa i = η.mi then 1 else 2) = w) := rfl
theorem wh_a {η : HS} {i : Nat} (h : η.mi < η.sa i) (w : Nat) : whB η w i = decide (0 = w) := by unfold whB; rw [if_pos h]
theorem wh_b {η : HS} {i : Nat} (h : η.sa i = η.mi) (w : Nat) : whB η w i = decide (1 = w) := by unfold whB; rw [if_neg (by omega), if_pos h]
theorem wh_c {η : HS} {i : Nat} (h : η.sa i < η.mi) (w : Nat) : whB η w i = decide (2 = w) := by unfold whB; rw [if_neg (by omega), if_neg (by omega)]
theorem crumb_b {κ : CT} {η : HS} {all bound k : Nat} : crumb κ η all bound k + (all.testBit k).toNat * min bound (η.cr k) = crumb κ η all bound (k + 1) := by
  cases h : all.testBit k
  · rw [Bool.toNat_false, Nat.zero_mul]; exact crumb_f h
  · rw [Bool.toNat_true, Nat.one_mul]; exact crumb_t h
theorem wk_eq {κ : CT} {l : LW} {η : HS} (hb_ : HB κ η) (wm : WM κ l η) {b : Nat} (h : b < κ.nb) : wlk κ l η b (η.be b) (η.le b) = η.wk b := by
  rw [wm.e b h, fm_0 hb_]; rfl
theorem r_X11_at_0 : RW M_X11_at 0 (.aload_n 0) 1 0 0 1 := ⟨rfl, rfl⟩
theorem r_X11_at_1 : RW M_X11_at 1 (.iconst 0) 1 0 0 2 := ⟨rfl, rfl⟩
theorem r_X11_at_2 : RW M_X11_at 2 (.putfield 3) 3 11 0 5 := ⟨rfl, rfl⟩
theorem r_X11_at_5 : RW M_X11_at 5 (.aload_n 0) 1 0 0 6 := ⟨rfl, rfl⟩
theorem r_X11_at_6 : RW M_X11_at 6 (.iload_n 1) 1 0 0 7 := ⟨rfl, rfl⟩
theorem r_X11_at_7 : RW M_X11_at 7 (.iconst 0) 1 0 0 8 := ⟨rfl, rfl⟩
theorem r_X11_at_8 : RW M_X11_at 8 (.sipush 499) 3 0 0 11 := ⟨rfl, rfl⟩
theorem r_X11_at_11 : RW M_X11_at 11 (.invokestatic 392) 3 170 0 14 := ⟨rfl, rfl⟩
theorem r_X11_at_14 : RW M_X11_at 14 (.ifCond .eq 16) 3 30 0 17 := ⟨rfl, rfl⟩
theorem r_X11_at_17 : RW M_X11_at 17 (.iload_n 2) 1 0 0 18 := ⟨rfl, rfl⟩
theorem r_X11_at_18 : RW M_X11_at 18 (.iconst 0) 1 0 0 19 := ⟨rfl, rfl⟩
theorem r_X11_at_19 : RW M_X11_at 19 (.iconst 2) 1 0 0 20 := ⟨rfl, rfl⟩
theorem r_X11_at_20 : RW M_X11_at 20 (.invokestatic 392) 3 170 0 23 := ⟨rfl, rfl⟩
theorem r_X11_at_23 : RW M_X11_at 23 (.ifCond .eq 7) 3 30 0 26 := ⟨rfl, rfl⟩
theorem r_X11_at_26 : RW M_X11_at 26 (.iconst 1) 1 0 0 27 := ⟨rfl, rfl⟩
theorem r_X11_at_27 : RW M_X11_at 27 (.goto 4) 3 31 0 30 := ⟨rfl, rfl⟩
theorem r_X11_at_30 : RW M_X11_at 30 (.iconst 0) 1 0 0 31 := ⟨rfl, rfl⟩
theorem r_X11_at_31 : RW M_X11_at 31 (.iconst 1) 1 0 0 32 := ⟨rfl, rfl⟩
theorem r_X11_at_32 : RW M_X11_at 32 (.iconst 1) 1 0 0 33 := ⟨rfl, rfl⟩
theorem r_X11_at_33 : RW M_X11_at 33 (.invokevirtual 210) 3 169 0 36 := ⟨rfl, rfl⟩
theorem r_X11_at_36 : RW M_X11_at 36 (.ifCond .ne 5) 3 41 0 39 := ⟨rfl, rfl⟩
theorem r_X11_at_39 : RW M_X11_at 39 (.iconst 0) 1 0 0 40 := ⟨rfl, rfl⟩
theorem r_X11_at_40 : RW M_X11_at 40 (.ireturn) 1 0 0 41 := ⟨rfl, rfl⟩
theorem r_X11_at_41 : RW M_X11_at 41 (.aload_n 0) 1 0 0 42 := ⟨rfl, rfl⟩
theorem r_X11_at_42 : RW M_X11_at 42 (.invokevirtual 322) 3 212 0 45 := ⟨rfl, rfl⟩
theorem r_X11_at_45 : RW M_X11_at 45 (.iload_n 2) 1 0 0 46 := ⟨rfl, rfl⟩
theorem r_X11_at_46 : RW M_X11_at 46 (.iconst 1) 1 0 0 47 := ⟨rfl, rfl⟩
theorem r_X11_at_47 : RW M_X11_at 47 (.if_icmp .eq 25) 3 72 0 50 := ⟨rfl, rfl⟩
theorem r_X11_at_50 : RW M_X11_at 50 (.iload_n 2) 1 0 0 51 := ⟨rfl, rfl⟩
theorem r_X11_at_51 : RW M_X11_at 51 (.ifCond .ne 11) 3 62 0 54 := ⟨rfl, rfl⟩
theorem r_X11_at_54 : RW M_X11_at 54 (.aload_n 0) 1 0 0 55 := ⟨rfl, rfl⟩
theorem r_X11_at_55 : RW M_X11_at 55 (.iload_n 1) 1 0 0 56 := ⟨rfl, rfl⟩
theorem r_X11_at_56 : RW M_X11_at 56 (.invokevirtual 401) 3 220 0 59 := ⟨rfl, rfl⟩
theorem r_X11_at_59 : RW M_X11_at 59 (.goto 12) 3 71 0 62 := ⟨rfl, rfl⟩
theorem r_X11_at_62 : RW M_X11_at 62 (.aload_n 0) 1 0 0 63 := ⟨rfl, rfl⟩
theorem r_X11_at_63 : RW M_X11_at 63 (.aload_n 0) 1 0 0 64 := ⟨rfl, rfl⟩
theorem r_X11_at_64 : RW M_X11_at 64 (.iload_n 1) 1 0 0 65 := ⟨rfl, rfl⟩
theorem r_X11_at_65 : RW M_X11_at 65 (.invokevirtual 395) 3 226 0 68 := ⟨rfl, rfl⟩
theorem r_X11_at_68 : RW M_X11_at 68 (.invokevirtual 404) 3 225 0 71 := ⟨rfl, rfl⟩
theorem r_X11_at_71 : RW M_X11_at 71 (.ireturn) 1 0 0 72 := ⟨rfl, rfl⟩
theorem r_X11_at_72 : RW M_X11_at 72 (.iconst 0) 1 0 0 73 := ⟨rfl, rfl⟩
theorem r_X11_at_73 : RW M_X11_at 73 (.istore_n 3) 1 0 0 74 := ⟨rfl, rfl⟩
theorem r_X11_at_74 : RW M_X11_at 74 (.iconst 0) 1 0 0 75 := ⟨rfl, rfl⟩
theorem r_X11_at_75 : RW M_X11_at 75 (.istore 4) 2 0 0 77 := ⟨rfl, rfl⟩
theorem r_X11_at_77 : RW M_X11_at 77 (.iload 4) 2 0 0 79 := ⟨rfl, rfl⟩
theorem r_X11_at_79 : RW M_X11_at 79 (.aload_n 0) 1 0 0 80 := ⟨rfl, rfl⟩
theorem r_X11_at_80 : RW M_X11_at 80 (.getfield 166) 3 11 22 83 := ⟨rfl, rfl⟩
theorem r_X11_at_83 : RW M_X11_at 83 (.if_icmp .ge 33) 3 116 0 86 := ⟨rfl, rfl⟩
theorem r_X11_at_86 : RW M_X11_at 86 (.iload_n 3) 1 0 0 87 := ⟨rfl, rfl⟩
theorem r_X11_at_87 : RW M_X11_at 87 (.aload_n 0) 1 0 0 88 := ⟨rfl, rfl⟩
theorem r_X11_at_88 : RW M_X11_at 88 (.getfield 74) 3 11 43 91 := ⟨rfl, rfl⟩
theorem r_X11_at_91 : RW M_X11_at 91 (.iconst 0) 1 0 0 92 := ⟨rfl, rfl⟩
theorem r_X11_at_92 : RW M_X11_at 92 (.iload 4) 2 0 0 94 := ⟨rfl, rfl⟩
theorem r_X11_at_94 : RW M_X11_at 94 (.iadd) 1 0 0 95 := ⟨rfl, rfl⟩
theorem r_X11_at_95 : RW M_X11_at 95 (.iaload) 1 0 0 96 := ⟨rfl, rfl⟩
theorem r_X11_at_96 : RW M_X11_at 96 (.iload_n 1) 1 0 0 97 := ⟨rfl, rfl⟩
theorem r_X11_at_97 : RW M_X11_at 97 (.if_icmp .ne 10) 3 107 0 100 := ⟨rfl, rfl⟩
theorem r_X11_at_100 : RW M_X11_at 100 (.iconst 1) 1 0 0 101 := ⟨rfl, rfl⟩
theorem r_X11_at_101 : RW M_X11_at 101 (.iload 4) 2 0 0 103 := ⟨rfl, rfl⟩
theorem r_X11_at_103 : RW M_X11_at 103 (.ishl) 1 0 0 104 := ⟨rfl, rfl⟩
theorem r_X11_at_104 : RW M_X11_at 104 (.goto 4) 3 108 0 107 := ⟨rfl, rfl⟩
theorem r_X11_at_107 : RW M_X11_at 107 (.iconst 0) 1 0 0 108 := ⟨rfl, rfl⟩
theorem r_X11_at_108 : RW M_X11_at 108 (.ior) 1 0 0 109 := ⟨rfl, rfl⟩
theorem r_X11_at_109 : RW M_X11_at 109 (.istore_n 3) 1 0 0 110 := ⟨rfl, rfl⟩
theorem r_X11_at_110 : RW M_X11_at 110 (.iinc 4 1) 3 0 0 113 := ⟨rfl, rfl⟩
theorem r_X11_at_113 : RW M_X11_at 113 (.goto (-36)) 3 77 0 116 := ⟨rfl, rfl⟩
theorem r_X11_at_116 : RW M_X11_at 116 (.iload_n 3) 1 0 0 117 := ⟨rfl, rfl⟩
theorem r_X11_at_117 : RW M_X11_at 117 (.ireturn) 1 0 0 118 := ⟨rfl, rfl⟩
theorem r_X11_bird_0 : RW M_X11_bird 0 (.aload_n 0) 1 0 0 1 := ⟨rfl, rfl⟩
theorem r_X11_bird_1 : RW M_X11_bird 1 (.iconst 0) 1 0 0 2 := ⟨rfl, rfl⟩
theorem r_X11_bird_2 : RW M_X11_bird 2 (.putfield 3) 3 11 0 5 := ⟨rfl, rfl⟩
theorem r_X11_bird_5 : RW M_X11_bird 5 (.aload_n 0) 1 0 0 6 := ⟨rfl, rfl⟩
theorem r_X11_bird_6 : RW M_X11_bird 6 (.iload_n 1) 1 0 0 7 := ⟨rfl, rfl⟩
theorem r_X11_bird_7 : RW M_X11_bird 7 (.iconst 1) 1 0 0 8 := ⟨rfl, rfl⟩
theorem r_X11_bird_8 : RW M_X11_bird 8 (.invokevirtual 410) 3 239 0 11 := ⟨rfl, rfl⟩
theorem r_X11_bird_11 : RW M_X11_bird 11 (.ifCond .eq 18) 3 29 0 14 := ⟨rfl, rfl⟩
theorem r_X11_bird_14 : RW M_X11_bird 14 (.aload_n 0) 1 0 0 15 := ⟨rfl, rfl⟩
theorem r_X11_bird_15 : RW M_X11_bird 15 (.iload_n 2) 1 0 0 16 := ⟨rfl, rfl⟩
theorem r_X11_bird_16 : RW M_X11_bird 16 (.iconst 0) 1 0 0 17 := ⟨rfl, rfl⟩
theorem r_X11_bird_17 : RW M_X11_bird 17 (.iconst 4) 1 0 0 18 := ⟨rfl, rfl⟩
theorem r_X11_bird_18 : RW M_X11_bird 18 (.invokestatic 392) 3 170 0 21 := ⟨rfl, rfl⟩
theorem r_X11_bird_21 : RW M_X11_bird 21 (.iconst 2) 1 0 0 22 := ⟨rfl, rfl⟩
theorem r_X11_bird_22 : RW M_X11_bird 22 (.iconst 1) 1 0 0 23 := ⟨rfl, rfl⟩
theorem r_X11_bird_23 : RW M_X11_bird 23 (.invokevirtual 210) 3 169 0 26 := ⟨rfl, rfl⟩
theorem r_X11_bird_26 : RW M_X11_bird 26 (.ifCond .ne 5) 3 31 0 29 := ⟨rfl, rfl⟩
theorem r_X11_bird_29 : RW M_X11_bird 29 (.iconst 0) 1 0 0 30 := ⟨rfl, rfl⟩
theorem r_X11_bird_30 : RW M_X11_bird 30 (.ireturn) 1 0 0 31 := ⟨rfl, rfl⟩
theorem r_X11_bird_31 : RW M_X11_bird 31 (.aload_n 0) 1 0 0 32 := ⟨rfl, rfl⟩
theorem r_X11_bird_32 : RW M_X11_bird 32 (.invokevirtual 322) 3 212 0 35 := ⟨rfl, rfl⟩
theorem r_X11_bird_35 : RW M_X11_bird 35 (.iload_n 2) 1 0 0 36 := ⟨rfl, rfl⟩
theorem r_X11_bird_36 : RW M_X11_bird 36 (.iconst 2) 1 0 0 37 := ⟨rfl, rfl⟩
theorem r_X11_bird_37 : RW M_X11_bird 37 (.if_icmp .ge 30) 3 67 0 40 := ⟨rfl, rfl⟩
theorem r_X11_bird_40 : RW M_X11_bird 40 (.iload_n 2) 1 0 0 41 := ⟨rfl, rfl⟩
theorem r_X11_bird_41 : RW M_X11_bird 41 (.ifCond .ne 15) 3 56 0 44 := ⟨rfl, rfl⟩
theorem r_X11_bird_44 : RW M_X11_bird 44 (.aload_n 0) 1 0 0 45 := ⟨rfl, rfl⟩
theorem r_X11_bird_45 : RW M_X11_bird 45 (.getfield 74) 3 11 43 48 := ⟨rfl, rfl⟩
theorem r_X11_bird_48 : RW M_X11_bird 48 (.bipush 18) 2 0 0 50 := ⟨rfl, rfl⟩
theorem r_X11_bird_50 : RW M_X11_bird 50 (.iload_n 1) 1 0 0 51 := ⟨rfl, rfl⟩
theorem r_X11_bird_51 : RW M_X11_bird 51 (.iadd) 1 0 0 52 := ⟨rfl, rfl⟩
theorem r_X11_bird_52 : RW M_X11_bird 52 (.iaload) 1 0 0 53 := ⟨rfl, rfl⟩
theorem r_X11_bird_53 : RW M_X11_bird 53 (.goto 13) 3 66 0 56 := ⟨rfl, rfl⟩
theorem r_X11_bird_56 : RW M_X11_bird 56 (.aload_n 0) 1 0 0 57 := ⟨rfl, rfl⟩
theorem r_X11_bird_57 : RW M_X11_bird 57 (.getfield 41) 3 11 16 60 := ⟨rfl, rfl⟩
theorem r_X11_bird_60 : RW M_X11_bird 60 (.iconst 2) 1 0 0 61 := ⟨rfl, rfl⟩
theorem r_X11_bird_61 : RW M_X11_bird 61 (.iload_n 1) 1 0 0 62 := ⟨rfl, rfl⟩
theorem r_X11_bird_62 : RW M_X11_bird 62 (.imul) 1 0 0 63 := ⟨rfl, rfl⟩
theorem r_X11_bird_63 : RW M_X11_bird 63 (.iconst 1) 1 0 0 64 := ⟨rfl, rfl⟩
theorem r_X11_bird_64 : RW M_X11_bird 64 (.iadd) 1 0 0 65 := ⟨rfl, rfl⟩
theorem r_X11_bird_65 : RW M_X11_bird 65 (.iaload) 1 0 0 66 := ⟨rfl, rfl⟩
theorem r_X11_bird_66 : RW M_X11_bird 66 (.ireturn) 1 0 0 67 := ⟨rfl, rfl⟩
theorem r_X11_bird_67 : RW M_X11_bird 67 (.aload_n 0) 1 0 0 68 := ⟨rfl, rfl⟩
theorem r_X11_bird_68 : RW M_X11_bird 68 (.iload_n 1) 1 0 0 69 := ⟨rfl, rfl⟩
theorem r_X11_bird_69 : RW M_X11_bird 69 (.aload_n 0) 1 0 0 70 := ⟨rfl, rfl⟩
theorem r_X11_bird_70 : RW M_X11_bird 70 (.getfield 74) 3 11 43 73 := ⟨rfl, rfl⟩
theorem r_X11_bird_73 : RW M_X11_bird 73 (.bipush 18) 2 0 0 75 := ⟨rfl, rfl⟩
theorem r_X11_bird_75 : RW M_X11_bird 75 (.iload_n 1) 1 0 0 76 := ⟨rfl, rfl⟩
theorem r_X11_bird_76 : RW M_X11_bird 76 (.iadd) 1 0 0 77 := ⟨rfl, rfl⟩
theorem r_X11_bird_77 : RW M_X11_bird 77 (.iaload) 1 0 0 78 := ⟨rfl, rfl⟩
theorem r_X11_bird_78 : RW M_X11_bird 78 (.aload_n 0) 1 0 0 79 := ⟨rfl, rfl⟩
theorem r_X11_bird_79 : RW M_X11_bird 79 (.getfield 74) 3 11 43 82 := ⟨rfl, rfl⟩
theorem r_X11_bird_82 : RW M_X11_bird 82 (.bipush 22) 2 0 0 84 := ⟨rfl, rfl⟩
theorem r_X11_bird_84 : RW M_X11_bird 84 (.iload_n 1) 1 0 0 85 := ⟨rfl, rfl⟩
theorem r_X11_bird_85 : RW M_X11_bird 85 (.iadd) 1 0 0 86 := ⟨rfl, rfl⟩
theorem r_X11_bird_86 : RW M_X11_bird 86 (.iaload) 1 0 0 87 := ⟨rfl, rfl⟩
theorem r_X11_bird_87 : RW M_X11_bird 87 (.invokevirtual 354) 3 217 0 90 := ⟨rfl, rfl⟩
theorem r_X11_bird_90 : RW M_X11_bird 90 (.istore_n 3) 1 0 0 91 := ⟨rfl, rfl⟩
theorem r_X11_bird_91 : RW M_X11_bird 91 (.iload_n 2) 1 0 0 92 := ⟨rfl, rfl⟩
theorem r_X11_bird_92 : RW M_X11_bird 92 (.iconst 2) 1 0 0 93 := ⟨rfl, rfl⟩
theorem r_X11_bird_93 : RW M_X11_bird 93 (.if_icmp .ne 7) 3 100 0 96 := ⟨rfl, rfl⟩
theorem r_X11_bird_96 : RW M_X11_bird 96 (.iload_n 3) 1 0 0 97 := ⟨rfl, rfl⟩
theorem r_X11_bird_97 : RW M_X11_bird 97 (.goto 33) 3 130 0 100 := ⟨rfl, rfl⟩
theorem r_X11_bird_100 : RW M_X11_bird 100 (.iload_n 2) 1 0 0 101 := ⟨rfl, rfl⟩
theorem r_X11_bird_101 : RW M_X11_bird 101 (.iconst 3) 1 0 0 102 := ⟨rfl, rfl⟩
theorem r_X11_bird_102 : RW M_X11_bird 102 (.if_icmp .ne 15) 3 117 0 105 := ⟨rfl, rfl⟩
theorem r_X11_bird_105 : RW M_X11_bird 105 (.aload_n 0) 1 0 0 106 := ⟨rfl, rfl⟩
theorem r_X11_bird_106 : RW M_X11_bird 106 (.getfield 74) 3 11 43 109 := ⟨rfl, rfl⟩
theorem r_X11_bird_109 : RW M_X11_bird 109 (.bipush 22) 2 0 0 111 := ⟨rfl, rfl⟩
theorem r_X11_bird_111 : RW M_X11_bird 111 (.iload_n 1) 1 0 0 112 := ⟨rfl, rfl⟩
theorem r_X11_bird_112 : RW M_X11_bird 112 (.iadd) 1 0 0 113 := ⟨rfl, rfl⟩
theorem r_X11_bird_113 : RW M_X11_bird 113 (.iaload) 1 0 0 114 := ⟨rfl, rfl⟩
theorem r_X11_bird_114 : RW M_X11_bird 114 (.goto 16) 3 130 0 117 := ⟨rfl, rfl⟩
theorem r_X11_bird_117 : RW M_X11_bird 117 (.aload_n 0) 1 0 0 118 := ⟨rfl, rfl⟩
theorem r_X11_bird_118 : RW M_X11_bird 118 (.getfield 74) 3 11 43 121 := ⟨rfl, rfl⟩
theorem r_X11_bird_121 : RW M_X11_bird 121 (.bipush 18) 2 0 0 123 := ⟨rfl, rfl⟩
theorem r_X11_bird_123 : RW M_X11_bird 123 (.iload_n 1) 1 0 0 124 := ⟨rfl, rfl⟩
theorem r_X11_bird_124 : RW M_X11_bird 124 (.iadd) 1 0 0 125 := ⟨rfl, rfl⟩
theorem r_X11_bird_125 : RW M_X11_bird 125 (.iaload) 1 0 0 126 := ⟨rfl, rfl⟩
theorem r_X11_bird_126 : RW M_X11_bird 126 (.iload_n 3) 1 0 0 127 := ⟨rfl, rfl⟩
theorem r_X11_bird_127 : RW M_X11_bird 127 (.iadd) 1 0 0 128 := ⟨rfl, rfl⟩
theorem r_X11_bird_128 : RW M_X11_bird 128 (.iconst 1) 1 0 0 129 := ⟨rfl, rfl⟩
theorem r_X11_bird_129 : RW M_X11_bird 129 (.isub) 1 0 0 130 := ⟨rfl, rfl⟩
theorem r_X11_bird_130 : RW M_X11_bird 130 (.ireturn) 1 0 0 131 := ⟨rfl, rfl⟩
theorem r_X11_bounded_0 : RW M_X11_bounded 0 (.aload_n 0) 1 0 0 1 := ⟨rfl, rfl⟩
theorem r_X11_bounded_1 : RW M_X11_bounded 1 (.getfield 71) 3 11 42 4 := ⟨rfl, rfl⟩
theorem r_X11_bounded_4 : RW M_X11_bounded 4 (.bipush 26) 2 0 0 6 := ⟨rfl, rfl⟩
theorem r_X11_bounded_6 : RW M_X11_bounded 6 (.iload_n 1) 1 0 0 7 := ⟨rfl, rfl⟩
theorem r_X11_bounded_7 : RW M_X11_bounded 7 (.iadd) 1 0 0 8 := ⟨rfl, rfl⟩
theorem r_X11_bounded_8 : RW M_X11_bounded 8 (.iaload) 1 0 0 9 := ⟨rfl, rfl⟩
theorem r_X11_bounded_9 : RW M_X11_bounded 9 (.iload_n 2) 1 0 0 10 := ⟨rfl, rfl⟩
theorem r_X11_bounded_10 : RW M_X11_bounded 10 (.if_icmp .ge 15) 3 25 0 13 := ⟨rfl, rfl⟩
theorem r_X11_bounded_13 : RW M_X11_bounded 13 (.aload_n 0) 1 0 0 14 := ⟨rfl, rfl⟩
theorem r_X11_bounded_14 : RW M_X11_bounded 14 (.getfield 71) 3 11 42 17 := ⟨rfl, rfl⟩
theorem r_X11_bounded_17 : RW M_X11_bounded 17 (.bipush 26) 2 0 0 19 := ⟨rfl, rfl⟩
theorem r_X11_bounded_19 : RW M_X11_bounded 19 (.iload_n 1) 1 0 0 20 := ⟨rfl, rfl⟩
theorem r_X11_bounded_20 : RW M_X11_bounded 20 (.iadd) 1 0 0 21 := ⟨rfl, rfl⟩
theorem r_X11_bounded_21 : RW M_X11_bounded 21 (.iaload) 1 0 0 22 := ⟨rfl, rfl⟩
theorem r_X11_bounded_22 : RW M_X11_bounded 22 (.goto 4) 3 26 0 25 := ⟨rfl, rfl⟩
theorem r_X11_bounded_25 : RW M_X11_bounded 25 (.iload_n 2) 1 0 0 26 := ⟨rfl, rfl⟩
theorem r_X11_bounded_26 : RW M_X11_bounded 26 (.ireturn) 1 0 0 27 := ⟨rfl, rfl⟩
theorem r_X11_counsel_0 : RW M_X11_counsel 0 (.aload_n 0) 1 0 0 1 := ⟨rfl, rfl⟩
theorem r_X11_counsel_1 : RW M_X11_counsel 1 (.iconst 0) 1 0 0 2 := ⟨rfl, rfl⟩
theorem r_X11_counsel_2 : RW M_X11_counsel 2 (.putfield 3) 3 11 0 5 := ⟨rfl, rfl⟩
theorem r_X11_counsel_5 : RW M_X11_counsel 5 (.aload_n 0) 1 0 0 6 := ⟨rfl, rfl⟩
theorem r_X11_counsel_6 : RW M_X11_counsel 6 (.iload_n 1) 1 0 0 7 := ⟨rfl, rfl⟩
theorem r_X11_counsel_7 : RW M_X11_counsel 7 (.iconst 1) 1 0 0 8 := ⟨rfl, rfl⟩
theorem r_X11_counsel_8 : RW M_X11_counsel 8 (.invokevirtual 413) 3 240 0 11 := ⟨rfl, rfl⟩
theorem r_X11_counsel_11 : RW M_X11_counsel 11 (.ifCond .eq 18) 3 29 0 14 := ⟨rfl, rfl⟩
theorem r_X11_counsel_14 : RW M_X11_counsel 14 (.aload_n 0) 1 0 0 15 := ⟨rfl, rfl⟩
theorem r_X11_counsel_15 : RW M_X11_counsel 15 (.iload_n 2) 1 0 0 16 := ⟨rfl, rfl⟩
theorem r_X11_counsel_16 : RW M_X11_counsel 16 (.iconst 0) 1 0 0 17 := ⟨rfl, rfl⟩
theorem r_X11_counsel_17 : RW M_X11_counsel 17 (.iconst 1) 1 0 0 18 := ⟨rfl, rfl⟩
theorem r_X11_counsel_18 : RW M_X11_counsel 18 (.invokestatic 392) 3 170 0 21 := ⟨rfl, rfl⟩
theorem r_X11_counsel_21 : RW M_X11_counsel 21 (.iconst 2) 1 0 0 22 := ⟨rfl, rfl⟩
theorem r_X11_counsel_22 : RW M_X11_counsel 22 (.iconst 1) 1 0 0 23 := ⟨rfl, rfl⟩
theorem r_X11_counsel_23 : RW M_X11_counsel 23 (.invokevirtual 210) 3 169 0 26 := ⟨rfl, rfl⟩
theorem r_X11_counsel_26 : RW M_X11_counsel 26 (.ifCond .ne 5) 3 31 0 29 := ⟨rfl, rfl⟩
theorem r_X11_counsel_29 : RW M_X11_counsel 29 (.iconst 0) 1 0 0 30 := ⟨rfl, rfl⟩
theorem r_X11_counsel_30 : RW M_X11_counsel 30 (.ireturn) 1 0 0 31 := ⟨rfl, rfl⟩
theorem r_X11_counsel_31 : RW M_X11_counsel 31 (.iload_n 2) 1 0 0 32 := ⟨rfl, rfl⟩
theorem r_X11_counsel_32 : RW M_X11_counsel 32 (.ifCond .ne 15) 3 47 0 35 := ⟨rfl, rfl⟩
theorem r_X11_counsel_35 : RW M_X11_counsel 35 (.aload_n 0) 1 0 0 36 := ⟨rfl, rfl⟩
theorem r_X11_counsel_36 : RW M_X11_counsel 36 (.getfield 71) 3 11 42 39 := ⟨rfl, rfl⟩
theorem r_X11_counsel_39 : RW M_X11_counsel 39 (.bipush 26) 2 0 0 41 := ⟨rfl, rfl⟩
theorem r_X11_counsel_41 : RW M_X11_counsel 41 (.iload_n 1) 1 0 0 42 := ⟨rfl, rfl⟩
theorem r_X11_counsel_42 : RW M_X11_counsel 42 (.iadd) 1 0 0 43 := ⟨rfl, rfl⟩
theorem r_X11_counsel_43 : RW M_X11_counsel 43 (.iaload) 1 0 0 44 := ⟨rfl, rfl⟩
theorem r_X11_counsel_44 : RW M_X11_counsel 44 (.goto 13) 3 57 0 47 := ⟨rfl, rfl⟩
theorem r_X11_counsel_47 : RW M_X11_counsel 47 (.aload_n 0) 1 0 0 48 := ⟨rfl, rfl⟩
theorem r_X11_counsel_48 : RW M_X11_counsel 48 (.getfield 44) 3 11 17 51 := ⟨rfl, rfl⟩
theorem r_X11_counsel_51 : RW M_X11_counsel 51 (.iconst 2) 1 0 0 52 := ⟨rfl, rfl⟩
theorem r_X11_counsel_52 : RW M_X11_counsel 52 (.iload_n 1) 1 0 0 53 := ⟨rfl, rfl⟩
theorem r_X11_counsel_53 : RW M_X11_counsel 53 (.imul) 1 0 0 54 := ⟨rfl, rfl⟩
theorem r_X11_counsel_54 : RW M_X11_counsel 54 (.iconst 1) 1 0 0 55 := ⟨rfl, rfl⟩
theorem r_X11_counsel_55 : RW M_X11_counsel 55 (.iadd) 1 0 0 56 := ⟨rfl, rfl⟩
theorem r_X11_counsel_56 : RW M_X11_counsel 56 (.iaload) 1 0 0 57 := ⟨rfl, rfl⟩
theorem r_X11_counsel_57 : RW M_X11_counsel 57 (.ireturn) 1 0 0 58 := ⟨rfl, rfl⟩
theorem r_X11_count_0 : RW M_X11_count 0 (.aload_n 0) 1 0 0 1 := ⟨rfl, rfl⟩
theorem r_X11_count_1 : RW M_X11_count 1 (.iconst 0) 1 0 0 2 := ⟨rfl, rfl⟩
theorem r_X11_count_2 : RW M_X11_count 2 (.putfield 3) 3 11 0 5 := ⟨rfl, rfl⟩
theorem r_X11_count_5 : RW M_X11_count 5 (.iload_n 1) 1 0 0 6 := ⟨rfl, rfl⟩
theorem r_X11_count_6 : RW M_X11_count 6 (.ifCond .ne 10) 3 16 0 9 := ⟨rfl, rfl⟩
theorem r_X11_count_9 : RW M_X11_count 9 (.aload_n 0) 1 0 0 10 := ⟨rfl, rfl⟩
theorem r_X11_count_10 : RW M_X11_count 10 (.getfield 191) 3 11 55 13 := ⟨rfl, rfl⟩
theorem r_X11_count_13 : RW M_X11_count 13 (.goto 28) 3 41 0 16 := ⟨rfl, rfl⟩
theorem r_X11_count_16 : RW M_X11_count 16 (.iload_n 1) 1 0 0 17 := ⟨rfl, rfl⟩
theorem r_X11_count_17 : RW M_X11_count 17 (.iconst 1) 1 0 0 18 := ⟨rfl, rfl⟩
theorem r_X11_count_18 : RW M_X11_count 18 (.if_icmp .ne 10) 3 28 0 21 := ⟨rfl, rfl⟩
theorem r_X11_count_21 : RW M_X11_count 21 (.aload_n 0) 1 0 0 22 := ⟨rfl, rfl⟩
theorem r_X11_count_22 : RW M_X11_count 22 (.getfield 108) 3 11 2 25 := ⟨rfl, rfl⟩
theorem r_X11_count_25 : RW M_X11_count 25 (.goto 16) 3 41 0 28 := ⟨rfl, rfl⟩
theorem r_X11_count_28 : RW M_X11_count 28 (.iload_n 1) 1 0 0 29 := ⟨rfl, rfl⟩
theorem r_X11_count_29 : RW M_X11_count 29 (.iconst 2) 1 0 0 30 := ⟨rfl, rfl⟩
theorem r_X11_count_30 : RW M_X11_count 30 (.if_icmp .ne 10) 3 40 0 33 := ⟨rfl, rfl⟩
theorem r_X11_count_33 : RW M_X11_count 33 (.aload_n 0) 1 0 0 34 := ⟨rfl, rfl⟩
theorem r_X11_count_34 : RW M_X11_count 34 (.getfield 188) 3 11 37 37 := ⟨rfl, rfl⟩
theorem r_X11_count_37 : RW M_X11_count 37 (.goto 4) 3 41 0 40 := ⟨rfl, rfl⟩
theorem r_X11_count_41 : RW M_X11_count 41 (.ireturn) 1 0 0 42 := ⟨rfl, rfl⟩
theorem r_X11_crowd_0 : RW M_X11_crowd 0 (.aload_n 0) 1 0 0 1 := ⟨rfl, rfl⟩
theorem r_X11_crowd_1 : RW M_X11_crowd 1 (.iconst 0) 1 0 0 2 := ⟨rfl, rfl⟩
theorem r_X11_crowd_2 : RW M_X11_crowd 2 (.putfield 3) 3 11 0 5 := ⟨rfl, rfl⟩
theorem r_X11_crowd_5 : RW M_X11_crowd 5 (.aload_n 0) 1 0 0 6 := ⟨rfl, rfl⟩
theorem r_X11_crowd_6 : RW M_X11_crowd 6 (.iload_n 1) 1 0 0 7 := ⟨rfl, rfl⟩
theorem r_X11_crowd_7 : RW M_X11_crowd 7 (.iconst 0) 1 0 0 8 := ⟨rfl, rfl⟩
theorem r_X11_crowd_8 : RW M_X11_crowd 8 (.iconst 1) 1 0 0 9 := ⟨rfl, rfl⟩
theorem r_X11_crowd_9 : RW M_X11_crowd 9 (.invokestatic 392) 3 170 0 12 := ⟨rfl, rfl⟩
theorem r_X11_crowd_12 : RW M_X11_crowd 12 (.iconst 1) 1 0 0 13 := ⟨rfl, rfl⟩
theorem r_X11_crowd_13 : RW M_X11_crowd 13 (.iconst 1) 1 0 0 14 := ⟨rfl, rfl⟩
theorem r_X11_crowd_14 : RW M_X11_crowd 14 (.invokevirtual 210) 3 169 0 17 := ⟨rfl, rfl⟩
theorem r_X11_crowd_17 : RW M_X11_crowd 17 (.ifCond .ne 5) 3 22 0 20 := ⟨rfl, rfl⟩
theorem r_X11_crowd_20 : RW M_X11_crowd 20 (.iconst 0) 1 0 0 21 := ⟨rfl, rfl⟩
theorem r_X11_crowd_21 : RW M_X11_crowd 21 (.ireturn) 1 0 0 22 := ⟨rfl, rfl⟩
theorem r_X11_delay_0 : RW M_X11_delay 0 (.aload_n 0) 1 0 0 1 := ⟨rfl, rfl⟩
theorem r_X11_delay_1 : RW M_X11_delay 1 (.iconst 0) 1 0 0 2 := ⟨rfl, rfl⟩
theorem r_X11_delay_2 : RW M_X11_delay 2 (.putfield 3) 3 11 0 5 := ⟨rfl, rfl⟩
theorem r_X11_delay_5 : RW M_X11_delay 5 (.aload_n 0) 1 0 0 6 := ⟨rfl, rfl⟩
theorem r_X11_delay_6 : RW M_X11_delay 6 (.iload_n 1) 1 0 0 7 := ⟨rfl, rfl⟩
theorem r_X11_delay_7 : RW M_X11_delay 7 (.iconst 1) 1 0 0 8 := ⟨rfl, rfl⟩
theorem r_X11_delay_8 : RW M_X11_delay 8 (.invokevirtual 407) 3 238 0 11 := ⟨rfl, rfl⟩
theorem r_X11_delay_11 : RW M_X11_delay 11 (.ifCond .ne 5) 3 16 0 14 := ⟨rfl, rfl⟩
theorem r_X11_delay_14 : RW M_X11_delay 14 (.iconst 0) 1 0 0 15 := ⟨rfl, rfl⟩
theorem r_X11_delay_15 : RW M_X11_delay 15 (.ireturn) 1 0 0 16 := ⟨rfl, rfl⟩
theorem r_X11_delay_16 : RW M_X11_delay 16 (.aload_n 0) 1 0 0 17 := ⟨rfl, rfl⟩
theorem r_X11_delay_17 : RW M_X11_delay 17 (.invokevirtual 322) 3 212 0 20 := ⟨rfl, rfl⟩
theorem r_X11_delay_20 : RW M_X11_delay 20 (.iconst 0) 1 0 0 21 := ⟨rfl, rfl⟩
theorem r_X11_delay_21 : RW M_X11_delay 21 (.istore_n 2) 1 0 0 22 := ⟨rfl, rfl⟩
theorem r_X11_delay_22 : RW M_X11_delay 22 (.iload_n 2) 1 0 0 23 := ⟨rfl, rfl⟩
theorem r_X11_delay_23 : RW M_X11_delay 23 (.bipush 10) 2 0 0 25 := ⟨rfl, rfl⟩
theorem r_X11_delay_25 : RW M_X11_delay 25 (.if_icmp .ge 31) 3 56 0 28 := ⟨rfl, rfl⟩
theorem r_X11_delay_28 : RW M_X11_delay 28 (.aload_n 0) 1 0 0 29 := ⟨rfl, rfl⟩
theorem r_X11_delay_29 : RW M_X11_delay 29 (.aload_n 0) 1 0 0 30 := ⟨rfl, rfl⟩
theorem r_X11_delay_30 : RW M_X11_delay 30 (.getfield 74) 3 11 43 33 := ⟨rfl, rfl⟩
theorem r_X11_delay_33 : RW M_X11_delay 33 (.iconst 0) 1 0 0 34 := ⟨rfl, rfl⟩
theorem r_X11_delay_34 : RW M_X11_delay 34 (.iload_n 1) 1 0 0 35 := ⟨rfl, rfl⟩
theorem r_X11_delay_35 : RW M_X11_delay 35 (.iadd) 1 0 0 36 := ⟨rfl, rfl⟩
theorem r_X11_delay_36 : RW M_X11_delay 36 (.iaload) 1 0 0 37 := ⟨rfl, rfl⟩
theorem r_X11_delay_37 : RW M_X11_delay 37 (.iload_n 2) 1 0 0 38 := ⟨rfl, rfl⟩
theorem r_X11_delay_38 : RW M_X11_delay 38 (.iadd) 1 0 0 39 := ⟨rfl, rfl⟩
theorem r_X11_delay_39 : RW M_X11_delay 39 (.invokestatic 351) 3 215 0 42 := ⟨rfl, rfl⟩
theorem r_X11_delay_42 : RW M_X11_delay 42 (.invokevirtual 401) 3 220 0 45 := ⟨rfl, rfl⟩
theorem r_X11_delay_45 : RW M_X11_delay 45 (.ifCond .ne 5) 3 50 0 48 := ⟨rfl, rfl⟩
theorem r_X11_delay_48 : RW M_X11_delay 48 (.iload_n 2) 1 0 0 49 := ⟨rfl, rfl⟩
theorem r_X11_delay_49 : RW M_X11_delay 49 (.ireturn) 1 0 0 50 := ⟨rfl, rfl⟩
theorem r_X11_delay_50 : RW M_X11_delay 50 (.iinc 2 1) 3 0 0 53 := ⟨rfl, rfl⟩
theorem r_X11_delay_53 : RW M_X11_delay 53 (.goto (-31)) 3 22 0 56 := ⟨rfl, rfl⟩
theorem r_X11_delay_56 : RW M_X11_delay 56 (.iconst (-1)) 1 0 0 57 := ⟨rfl, rfl⟩
theorem r_X11_delay_57 : RW M_X11_delay 57 (.ireturn) 1 0 0 58 := ⟨rfl, rfl⟩
theorem r_X11_fault_0 : RW M_X11_fault 0 (.aload_n 0) 1 0 0 1 := ⟨rfl, rfl⟩
theorem r_X11_fault_1 : RW M_X11_fault 1 (.iconst 0) 1 0 0 2 := ⟨rfl, rfl⟩
theorem r_X11_fault_2 : RW M_X11_fault 2 (.putfield 3) 3 11 0 5 := ⟨rfl, rfl⟩
theorem r_X11_fault_5 : RW M_X11_fault 5 (.aload_n 0) 1 0 0 6 := ⟨rfl, rfl⟩
theorem r_X11_fault_6 : RW M_X11_fault 6 (.getfield 17) 3 11 8 9 := ⟨rfl, rfl⟩
theorem r_X11_fault_9 : RW M_X11_fault 9 (.ireturn) 1 0 0 10 := ⟨rfl, rfl⟩
theorem r_X11_fits_0 : RW M_X11_fits 0 (.aload_n 0) 1 0 0 1 := ⟨rfl, rfl⟩
theorem r_X11_fits_1 : RW M_X11_fits 1 (.iconst 0) 1 0 0 2 := ⟨rfl, rfl⟩
theorem r_X11_fits_2 : RW M_X11_fits 2 (.putfield 3) 3 11 0 5 := ⟨rfl, rfl⟩
theorem r_X11_fits_5 : RW M_X11_fits 5 (.aload_n 0) 1 0 0 6 := ⟨rfl, rfl⟩
theorem r_X11_fits_6 : RW M_X11_fits 6 (.iload_n 1) 1 0 0 7 := ⟨rfl, rfl⟩
theorem r_X11_fits_7 : RW M_X11_fits 7 (.iconst 0) 1 0 0 8 := ⟨rfl, rfl⟩
theorem r_X11_fits_8 : RW M_X11_fits 8 (.iconst 1) 1 0 0 9 := ⟨rfl, rfl⟩
theorem r_X11_fits_9 : RW M_X11_fits 9 (.invokestatic 392) 3 170 0 12 := ⟨rfl, rfl⟩
theorem r_X11_fits_12 : RW M_X11_fits 12 (.iconst 1) 1 0 0 13 := ⟨rfl, rfl⟩
theorem r_X11_fits_13 : RW M_X11_fits 13 (.iconst 1) 1 0 0 14 := ⟨rfl, rfl⟩
theorem r_X11_fits_14 : RW M_X11_fits 14 (.invokevirtual 210) 3 169 0 17 := ⟨rfl, rfl⟩
theorem r_X11_fits_17 : RW M_X11_fits 17 (.ifCond .ne 5) 3 22 0 20 := ⟨rfl, rfl⟩
theorem r_X11_fits_20 : RW M_X11_fits 20 (.iconst 0) 1 0 0 21 := ⟨rfl, rfl⟩
theorem r_X11_fits_21 : RW M_X11_fits 21 (.ireturn) 1 0 0 22 := ⟨rfl, rfl⟩
theorem r_X11_follows_0 : RW M_X11_follows 0 (.aload_n 0) 1 0 0 1 := ⟨rfl, rfl⟩
theorem r_X11_follows_1 : RW M_X11_follows 1 (.iconst 0) 1 0 0 2 := ⟨rfl, rfl⟩
theorem r_X11_follows_2 : RW M_X11_follows 2 (.putfield 3) 3 11 0 5 := ⟨rfl, rfl⟩
theorem r_X11_follows_5 : RW M_X11_follows 5 (.aload_n 0) 1 0 0 6 := ⟨rfl, rfl⟩
theorem r_X11_follows_6 : RW M_X11_follows 6 (.iload_n 1) 1 0 0 7 := ⟨rfl, rfl⟩
theorem r_X11_follows_7 : RW M_X11_follows 7 (.ifCond .lt 17) 3 24 0 10 := ⟨rfl, rfl⟩
theorem r_X11_follows_10 : RW M_X11_follows 10 (.iload_n 1) 1 0 0 11 := ⟨rfl, rfl⟩
theorem r_X11_follows_11 : RW M_X11_follows 11 (.iconst 1) 1 0 0 12 := ⟨rfl, rfl⟩
theorem r_X11_follows_12 : RW M_X11_follows 12 (.aload_n 0) 1 0 0 13 := ⟨rfl, rfl⟩
theorem r_X11_follows_13 : RW M_X11_follows 13 (.getfield 166) 3 11 22 16 := ⟨rfl, rfl⟩
theorem r_X11_follows_16 : RW M_X11_follows 16 (.ishl) 1 0 0 17 := ⟨rfl, rfl⟩
theorem r_X11_follows_17 : RW M_X11_follows 17 (.if_icmp .ge 7) 3 24 0 20 := ⟨rfl, rfl⟩
theorem r_X11_follows_20 : RW M_X11_follows 20 (.iconst 1) 1 0 0 21 := ⟨rfl, rfl⟩
theorem r_X11_follows_21 : RW M_X11_follows 21 (.goto 4) 3 25 0 24 := ⟨rfl, rfl⟩
theorem r_X11_follows_24 : RW M_X11_follows 24 (.iconst 0) 1 0 0 25 := ⟨rfl, rfl⟩
theorem r_X11_follows_25 : RW M_X11_follows 25 (.iconst 1) 1 0 0 26 := ⟨rfl, rfl⟩
theorem r_X11_follows_26 : RW M_X11_follows 26 (.iconst 1) 1 0 0 27 := ⟨rfl, rfl⟩
theorem r_X11_follows_27 : RW M_X11_follows 27 (.invokevirtual 210) 3 169 0 30 := ⟨rfl, rfl⟩
theorem r_X11_follows_30 : RW M_X11_follows 30 (.ifCond .ne 5) 3 35 0 33 := ⟨rfl, rfl⟩
theorem r_X11_follows_33 : RW M_X11_follows 33 (.iconst 0) 1 0 0 34 := ⟨rfl, rfl⟩
theorem r_X11_follows_34 : RW M_X11_follows 34 (.ireturn) 1 0 0 35 := ⟨rfl, rfl⟩
theorem r_X11_follows_35 : RW M_X11_follows 35 (.aload_n 0) 1 0 0 36 := ⟨rfl, rfl⟩
theorem r_X11_follows_36 : RW M_X11_follows 36 (.iload_n 1) 1 0 0 37 := ⟨rfl, rfl⟩
theorem r_X11_follows_37 : RW M_X11_follows 37 (.invokevirtual 364) 3 223 0 40 := ⟨rfl, rfl⟩
theorem r_X11_follows_40 : RW M_X11_follows 40 (.ireturn) 1 0 0 41 := ⟨rfl, rfl⟩
theorem r_X11_heaviest_0 : RW M_X11_heaviest 0 (.aload_n 0) 1 0 0 1 := ⟨rfl, rfl⟩
theorem r_X11_heaviest_1 : RW M_X11_heaviest 1 (.iload_n 1) 1 0 0 2 := ⟨rfl, rfl⟩
theorem r_X11_heaviest_2 : RW M_X11_heaviest 2 (.invokevirtual 449) 3 264 0 5 := ⟨rfl, rfl⟩
theorem r_X11_heaviest_5 : RW M_X11_heaviest 5 (.istore_n 3) 1 0 0 6 := ⟨rfl, rfl⟩
theorem r_X11_heaviest_6 : RW M_X11_heaviest 6 (.iload_n 2) 1 0 0 7 := ⟨rfl, rfl⟩
theorem r_X11_heaviest_7 : RW M_X11_heaviest 7 (.ifCond .eq 8) 3 15 0 10 := ⟨rfl, rfl⟩
theorem r_X11_heaviest_10 : RW M_X11_heaviest 10 (.iload_n 3) 1 0 0 11 := ⟨rfl, rfl⟩
theorem r_X11_heaviest_11 : RW M_X11_heaviest 11 (.iconst (-1)) 1 0 0 12 := ⟨rfl, rfl⟩
theorem r_X11_heaviest_12 : RW M_X11_heaviest 12 (.if_icmp .ne 7) 3 19 0 15 := ⟨rfl, rfl⟩
theorem r_X11_heaviest_15 : RW M_X11_heaviest 15 (.iload_n 3) 1 0 0 16 := ⟨rfl, rfl⟩
theorem r_X11_heaviest_16 : RW M_X11_heaviest 16 (.goto 13) 3 29 0 19 := ⟨rfl, rfl⟩
theorem r_X11_heaviest_19 : RW M_X11_heaviest 19 (.aload_n 0) 1 0 0 20 := ⟨rfl, rfl⟩
theorem r_X11_heaviest_20 : RW M_X11_heaviest 20 (.getfield 35) 3 11 14 23 := ⟨rfl, rfl⟩
theorem r_X11_heaviest_23 : RW M_X11_heaviest 23 (.iconst 3) 1 0 0 24 := ⟨rfl, rfl⟩
theorem r_X11_heaviest_24 : RW M_X11_heaviest 24 (.iload_n 3) 1 0 0 25 := ⟨rfl, rfl⟩
theorem r_X11_heaviest_25 : RW M_X11_heaviest 25 (.imul) 1 0 0 26 := ⟨rfl, rfl⟩
theorem r_X11_heaviest_26 : RW M_X11_heaviest 26 (.iconst 2) 1 0 0 27 := ⟨rfl, rfl⟩
theorem r_X11_heaviest_27 : RW M_X11_heaviest 27 (.iadd) 1 0 0 28 := ⟨rfl, rfl⟩
theorem r_X11_heaviest_28 : RW M_X11_heaviest 28 (.iaload) 1 0 0 29 := ⟨rfl, rfl⟩
theorem r_X11_heaviest_29 : RW M_X11_heaviest 29 (.ireturn) 1 0 0 30 := ⟨rfl, rfl⟩
theorem r_X11_isBird_0 : RW M_X11_isBird 0 (.aload_n 0) 1 0 0 1 := ⟨rfl, rfl⟩
theorem r_X11_isBird_1 : RW M_X11_isBird 1 (.iload_n 1) 1 0 0 2 := ⟨rfl, rfl⟩
theorem r_X11_isBird_2 : RW M_X11_isBird 2 (.iconst 0) 1 0 0 3 := ⟨rfl, rfl⟩
theorem r_X11_isBird_3 : RW M_X11_isBird 3 (.aload_n 0) 1 0 0 4 := ⟨rfl, rfl⟩
theorem r_X11_isBird_4 : RW M_X11_isBird 4 (.getfield 172) 3 11 24 7 := ⟨rfl, rfl⟩
theorem r_X11_isBird_7 : RW M_X11_isBird 7 (.iconst 1) 1 0 0 8 := ⟨rfl, rfl⟩
theorem r_X11_isBird_8 : RW M_X11_isBird 8 (.isub) 1 0 0 9 := ⟨rfl, rfl⟩
theorem r_X11_isBird_9 : RW M_X11_isBird 9 (.invokestatic 392) 3 170 0 12 := ⟨rfl, rfl⟩
theorem r_X11_isBird_12 : RW M_X11_isBird 12 (.iload_n 2) 1 0 0 13 := ⟨rfl, rfl⟩
theorem r_X11_isBird_13 : RW M_X11_isBird 13 (.iconst 0) 1 0 0 14 := ⟨rfl, rfl⟩
theorem r_X11_isBird_14 : RW M_X11_isBird 14 (.invokevirtual 210) 3 169 0 17 := ⟨rfl, rfl⟩
theorem r_X11_isBird_17 : RW M_X11_isBird 17 (.ireturn) 1 0 0 18 := ⟨rfl, rfl⟩
theorem r_X11_isCounsel_0 : RW M_X11_isCounsel 0 (.aload_n 0) 1 0 0 1 := ⟨rfl, rfl⟩
theorem r_X11_isCounsel_1 : RW M_X11_isCounsel 1 (.iload_n 1) 1 0 0 2 := ⟨rfl, rfl⟩
theorem r_X11_isCounsel_2 : RW M_X11_isCounsel 2 (.iconst 0) 1 0 0 3 := ⟨rfl, rfl⟩
theorem r_X11_isCounsel_3 : RW M_X11_isCounsel 3 (.aload_n 0) 1 0 0 4 := ⟨rfl, rfl⟩
theorem r_X11_isCounsel_4 : RW M_X11_isCounsel 4 (.getfield 175) 3 11 25 7 := ⟨rfl, rfl⟩
theorem r_X11_isCounsel_7 : RW M_X11_isCounsel 7 (.iconst 1) 1 0 0 8 := ⟨rfl, rfl⟩
theorem r_X11_isCounsel_8 : RW M_X11_isCounsel 8 (.isub) 1 0 0 9 := ⟨rfl, rfl⟩
theorem r_X11_isCounsel_9 : RW M_X11_isCounsel 9 (.invokestatic 392) 3 170 0 12 := ⟨rfl, rfl⟩
theorem r_X11_isCounsel_12 : RW M_X11_isCounsel 12 (.iload_n 2) 1 0 0 13 := ⟨rfl, rfl⟩
theorem r_X11_isCounsel_13 : RW M_X11_isCounsel 13 (.iconst 0) 1 0 0 14 := ⟨rfl, rfl⟩
theorem r_X11_isCounsel_14 : RW M_X11_isCounsel 14 (.invokevirtual 210) 3 169 0 17 := ⟨rfl, rfl⟩
theorem r_X11_isCounsel_17 : RW M_X11_isCounsel 17 (.ireturn) 1 0 0 18 := ⟨rfl, rfl⟩
theorem r_X11_isSome_0 : RW M_X11_isSome 0 (.iload_n 1) 1 0 0 1 := ⟨rfl, rfl⟩
theorem r_X11_isSome_1 : RW M_X11_isSome 1 (.ifCond .lt 17) 3 18 0 4 := ⟨rfl, rfl⟩
theorem r_X11_isSome_4 : RW M_X11_isSome 4 (.iload_n 1) 1 0 0 5 := ⟨rfl, rfl⟩
theorem r_X11_isSome_5 : RW M_X11_isSome 5 (.iconst 1) 1 0 0 6 := ⟨rfl, rfl⟩
theorem r_X11_isSome_6 : RW M_X11_isSome 6 (.aload_n 0) 1 0 0 7 := ⟨rfl, rfl⟩
theorem r_X11_isSome_7 : RW M_X11_isSome 7 (.getfield 175) 3 11 25 10 := ⟨rfl, rfl⟩
theorem r_X11_isSome_10 : RW M_X11_isSome 10 (.ishl) 1 0 0 11 := ⟨rfl, rfl⟩
theorem r_X11_isSome_11 : RW M_X11_isSome 11 (.if_icmp .ge 7) 3 18 0 14 := ⟨rfl, rfl⟩
theorem r_X11_isSome_14 : RW M_X11_isSome 14 (.iconst 1) 1 0 0 15 := ⟨rfl, rfl⟩
theorem r_X11_isSome_15 : RW M_X11_isSome 15 (.goto 4) 3 19 0 18 := ⟨rfl, rfl⟩
theorem r_X11_isSome_18 : RW M_X11_isSome 18 (.iconst 0) 1 0 0 19 := ⟨rfl, rfl⟩
theorem r_X11_isSome_19 : RW M_X11_isSome 19 (.ireturn) 1 0 0 20 := ⟨rfl, rfl⟩
theorem r_X11_lastOf_0 : RW M_X11_lastOf 0 (.aload_n 0) 1 0 0 1 := ⟨rfl, rfl⟩
theorem r_X11_lastOf_1 : RW M_X11_lastOf 1 (.getfield 74) 3 11 43 4 := ⟨rfl, rfl⟩
theorem r_X11_lastOf_4 : RW M_X11_lastOf 4 (.bipush 18) 2 0 0 6 := ⟨rfl, rfl⟩
theorem r_X11_lastOf_6 : RW M_X11_lastOf 6 (.iload_n 1) 1 0 0 7 := ⟨rfl, rfl⟩
theorem r_X11_lastOf_7 : RW M_X11_lastOf 7 (.iadd) 1 0 0 8 := ⟨rfl, rfl⟩
theorem r_X11_lastOf_8 : RW M_X11_lastOf 8 (.iaload) 1 0 0 9 := ⟨rfl, rfl⟩
theorem r_X11_lastOf_9 : RW M_X11_lastOf 9 (.aload_n 0) 1 0 0 10 := ⟨rfl, rfl⟩
theorem r_X11_lastOf_10 : RW M_X11_lastOf 10 (.iload_n 1) 1 0 0 11 := ⟨rfl, rfl⟩
theorem r_X11_lastOf_11 : RW M_X11_lastOf 11 (.aload_n 0) 1 0 0 12 := ⟨rfl, rfl⟩
theorem r_X11_lastOf_12 : RW M_X11_lastOf 12 (.getfield 74) 3 11 43 15 := ⟨rfl, rfl⟩
theorem r_X11_lastOf_15 : RW M_X11_lastOf 15 (.bipush 18) 2 0 0 17 := ⟨rfl, rfl⟩
theorem r_X11_lastOf_17 : RW M_X11_lastOf 17 (.iload_n 1) 1 0 0 18 := ⟨rfl, rfl⟩
theorem r_X11_lastOf_18 : RW M_X11_lastOf 18 (.iadd) 1 0 0 19 := ⟨rfl, rfl⟩
theorem r_X11_lastOf_19 : RW M_X11_lastOf 19 (.iaload) 1 0 0 20 := ⟨rfl, rfl⟩
theorem r_X11_lastOf_20 : RW M_X11_lastOf 20 (.aload_n 0) 1 0 0 21 := ⟨rfl, rfl⟩
theorem r_X11_lastOf_21 : RW M_X11_lastOf 21 (.getfield 74) 3 11 43 24 := ⟨rfl, rfl⟩
theorem r_X11_lastOf_24 : RW M_X11_lastOf 24 (.bipush 22) 2 0 0 26 := ⟨rfl, rfl⟩
theorem r_X11_lastOf_26 : RW M_X11_lastOf 26 (.iload_n 1) 1 0 0 27 := ⟨rfl, rfl⟩
theorem r_X11_lastOf_27 : RW M_X11_lastOf 27 (.iadd) 1 0 0 28 := ⟨rfl, rfl⟩
theorem r_X11_lastOf_28 : RW M_X11_lastOf 28 (.iaload) 1 0 0 29 := ⟨rfl, rfl⟩
theorem r_X11_lastOf_29 : RW M_X11_lastOf 29 (.invokevirtual 354) 3 217 0 32 := ⟨rfl, rfl⟩
theorem r_X11_lastOf_32 : RW M_X11_lastOf 32 (.iadd) 1 0 0 33 := ⟨rfl, rfl⟩
theorem r_X11_lastOf_33 : RW M_X11_lastOf 33 (.iconst 1) 1 0 0 34 := ⟨rfl, rfl⟩
theorem r_X11_lastOf_34 : RW M_X11_lastOf 34 (.isub) 1 0 0 35 := ⟨rfl, rfl⟩
theorem r_X11_lastOf_35 : RW M_X11_lastOf 35 (.ireturn) 1 0 0 36 := ⟨rfl, rfl⟩
theorem r_X11_leaders_0 : RW M_X11_leaders 0 (.aload_n 0) 1 0 0 1 := ⟨rfl, rfl⟩
theorem r_X11_leaders_1 : RW M_X11_leaders 1 (.iconst 0) 1 0 0 2 := ⟨rfl, rfl⟩
theorem r_X11_leaders_2 : RW M_X11_leaders 2 (.putfield 3) 3 11 0 5 := ⟨rfl, rfl⟩
theorem r_X11_leaders_5 : RW M_X11_leaders 5 (.aload_n 0) 1 0 0 6 := ⟨rfl, rfl⟩
theorem r_X11_leaders_6 : RW M_X11_leaders 6 (.iload_n 1) 1 0 0 7 := ⟨rfl, rfl⟩
theorem r_X11_leaders_7 : RW M_X11_leaders 7 (.iconst 1) 1 0 0 8 := ⟨rfl, rfl⟩
theorem r_X11_leaders_8 : RW M_X11_leaders 8 (.invokevirtual 410) 3 239 0 11 := ⟨rfl, rfl⟩
theorem r_X11_leaders_11 : RW M_X11_leaders 11 (.ifCond .eq 19) 3 30 0 14 := ⟨rfl, rfl⟩
theorem r_X11_leaders_14 : RW M_X11_leaders 14 (.aload_n 0) 1 0 0 15 := ⟨rfl, rfl⟩
theorem r_X11_leaders_15 : RW M_X11_leaders 15 (.iload_n 2) 1 0 0 16 := ⟨rfl, rfl⟩
theorem r_X11_leaders_16 : RW M_X11_leaders 16 (.iconst 1) 1 0 0 17 := ⟨rfl, rfl⟩
theorem r_X11_leaders_17 : RW M_X11_leaders 17 (.bipush 9) 2 0 0 19 := ⟨rfl, rfl⟩
theorem r_X11_leaders_19 : RW M_X11_leaders 19 (.invokestatic 392) 3 170 0 22 := ⟨rfl, rfl⟩
theorem r_X11_leaders_22 : RW M_X11_leaders 22 (.iconst 2) 1 0 0 23 := ⟨rfl, rfl⟩
theorem r_X11_leaders_23 : RW M_X11_leaders 23 (.iconst 1) 1 0 0 24 := ⟨rfl, rfl⟩
theorem r_X11_leaders_24 : RW M_X11_leaders 24 (.invokevirtual 210) 3 169 0 27 := ⟨rfl, rfl⟩
theorem r_X11_leaders_27 : RW M_X11_leaders 27 (.ifCond .ne 5) 3 32 0 30 := ⟨rfl, rfl⟩
theorem r_X11_leaders_30 : RW M_X11_leaders 30 (.iconst 0) 1 0 0 31 := ⟨rfl, rfl⟩
theorem r_X11_leaders_31 : RW M_X11_leaders 31 (.ireturn) 1 0 0 32 := ⟨rfl, rfl⟩
theorem r_X11_leaders_32 : RW M_X11_leaders 32 (.aload_n 0) 1 0 0 33 := ⟨rfl, rfl⟩
theorem r_X11_leaders_33 : RW M_X11_leaders 33 (.invokevirtual 322) 3 212 0 36 := ⟨rfl, rfl⟩
theorem r_X11_leaders_36 : RW M_X11_leaders 36 (.iconst 0) 1 0 0 37 := ⟨rfl, rfl⟩
theorem r_X11_leaders_37 : RW M_X11_leaders 37 (.istore_n 3) 1 0 0 38 := ⟨rfl, rfl⟩
theorem r_X11_leaders_38 : RW M_X11_leaders 38 (.iconst 0) 1 0 0 39 := ⟨rfl, rfl⟩
theorem r_X11_leaders_39 : RW M_X11_leaders 39 (.istore 4) 2 0 0 41 := ⟨rfl, rfl⟩
theorem r_X11_leaders_41 : RW M_X11_leaders 41 (.iload 4) 2 0 0 43 := ⟨rfl, rfl⟩
theorem r_X11_leaders_43 : RW M_X11_leaders 43 (.aload_n 0) 1 0 0 44 := ⟨rfl, rfl⟩
theorem r_X11_leaders_44 : RW M_X11_leaders 44 (.getfield 175) 3 11 25 47 := ⟨rfl, rfl⟩
theorem r_X11_leaders_47 : RW M_X11_leaders 47 (.if_icmp .ge 31) 3 78 0 50 := ⟨rfl, rfl⟩
theorem r_X11_leaders_50 : RW M_X11_leaders 50 (.iload_n 3) 1 0 0 51 := ⟨rfl, rfl⟩
theorem r_X11_leaders_51 : RW M_X11_leaders 51 (.aload_n 0) 1 0 0 52 := ⟨rfl, rfl⟩
theorem r_X11_leaders_52 : RW M_X11_leaders 52 (.iload 4) 2 0 0 54 := ⟨rfl, rfl⟩
theorem r_X11_leaders_54 : RW M_X11_leaders 54 (.iload_n 1) 1 0 0 55 := ⟨rfl, rfl⟩
theorem r_X11_leaders_55 : RW M_X11_leaders 55 (.iload_n 2) 1 0 0 56 := ⟨rfl, rfl⟩
theorem r_X11_leaders_56 : RW M_X11_leaders 56 (.invokevirtual 376) 3 228 0 59 := ⟨rfl, rfl⟩
theorem r_X11_leaders_59 : RW M_X11_leaders 59 (.ifCond .eq 10) 3 69 0 62 := ⟨rfl, rfl⟩
theorem r_X11_leaders_62 : RW M_X11_leaders 62 (.iconst 1) 1 0 0 63 := ⟨rfl, rfl⟩
theorem r_X11_leaders_63 : RW M_X11_leaders 63 (.iload 4) 2 0 0 65 := ⟨rfl, rfl⟩
theorem r_X11_leaders_65 : RW M_X11_leaders 65 (.ishl) 1 0 0 66 := ⟨rfl, rfl⟩
theorem r_X11_leaders_66 : RW M_X11_leaders 66 (.goto 4) 3 70 0 69 := ⟨rfl, rfl⟩
theorem r_X11_leaders_69 : RW M_X11_leaders 69 (.iconst 0) 1 0 0 70 := ⟨rfl, rfl⟩
theorem r_X11_leaders_70 : RW M_X11_leaders 70 (.ior) 1 0 0 71 := ⟨rfl, rfl⟩
theorem r_X11_leaders_71 : RW M_X11_leaders 71 (.istore_n 3) 1 0 0 72 := ⟨rfl, rfl⟩
theorem r_X11_leaders_72 : RW M_X11_leaders 72 (.iinc 4 1) 3 0 0 75 := ⟨rfl, rfl⟩
theorem r_X11_leaders_75 : RW M_X11_leaders 75 (.goto (-34)) 3 41 0 78 := ⟨rfl, rfl⟩
theorem r_X11_leaders_78 : RW M_X11_leaders 78 (.iload_n 3) 1 0 0 79 := ⟨rfl, rfl⟩
theorem r_X11_leaders_79 : RW M_X11_leaders 79 (.ireturn) 1 0 0 80 := ⟨rfl, rfl⟩
theorem r_X11_loafBy_0 : RW M_X11_loafBy 0 (.iconst 0) 1 0 0 1 := ⟨rfl, rfl⟩
theorem r_X11_loafBy_1 : RW M_X11_loafBy 1 (.istore_n 3) 1 0 0 2 := ⟨rfl, rfl⟩
theorem r_X11_loafBy_2 : RW M_X11_loafBy 2 (.iconst 0) 1 0 0 3 := ⟨rfl, rfl⟩
theorem r_X11_loafBy_3 : RW M_X11_loafBy 3 (.istore 4) 2 0 0 5 := ⟨rfl, rfl⟩
theorem r_X11_loafBy_5 : RW M_X11_loafBy 5 (.iload 4) 2 0 0 7 := ⟨rfl, rfl⟩
theorem r_X11_loafBy_7 : RW M_X11_loafBy 7 (.aload_n 0) 1 0 0 8 := ⟨rfl, rfl⟩
theorem r_X11_loafBy_8 : RW M_X11_loafBy 8 (.getfield 175) 3 11 25 11 := ⟨rfl, rfl⟩
theorem r_X11_loafBy_11 : RW M_X11_loafBy 11 (.if_icmp .ge 26) 3 37 0 14 := ⟨rfl, rfl⟩
theorem r_X11_loafBy_14 : RW M_X11_loafBy 14 (.iload_n 3) 1 0 0 15 := ⟨rfl, rfl⟩
theorem r_X11_loafBy_15 : RW M_X11_loafBy 15 (.iload_n 1) 1 0 0 16 := ⟨rfl, rfl⟩
theorem r_X11_loafBy_16 : RW M_X11_loafBy 16 (.iload 4) 2 0 0 18 := ⟨rfl, rfl⟩
theorem r_X11_loafBy_18 : RW M_X11_loafBy 18 (.ishr) 1 0 0 19 := ⟨rfl, rfl⟩
theorem r_X11_loafBy_19 : RW M_X11_loafBy 19 (.iconst 1) 1 0 0 20 := ⟨rfl, rfl⟩
theorem r_X11_loafBy_20 : RW M_X11_loafBy 20 (.iand) 1 0 0 21 := ⟨rfl, rfl⟩
theorem r_X11_loafBy_21 : RW M_X11_loafBy 21 (.aload_n 0) 1 0 0 22 := ⟨rfl, rfl⟩
theorem r_X11_loafBy_22 : RW M_X11_loafBy 22 (.iload 4) 2 0 0 24 := ⟨rfl, rfl⟩
theorem r_X11_loafBy_24 : RW M_X11_loafBy 24 (.iload_n 2) 1 0 0 25 := ⟨rfl, rfl⟩
theorem r_X11_loafBy_25 : RW M_X11_loafBy 25 (.invokevirtual 440) 3 260 0 28 := ⟨rfl, rfl⟩
theorem r_X11_loafBy_28 : RW M_X11_loafBy 28 (.imul) 1 0 0 29 := ⟨rfl, rfl⟩
theorem r_X11_loafBy_29 : RW M_X11_loafBy 29 (.iadd) 1 0 0 30 := ⟨rfl, rfl⟩
theorem r_X11_loafBy_30 : RW M_X11_loafBy 30 (.istore_n 3) 1 0 0 31 := ⟨rfl, rfl⟩
theorem r_X11_loafBy_31 : RW M_X11_loafBy 31 (.iinc 4 1) 3 0 0 34 := ⟨rfl, rfl⟩
theorem r_X11_loafBy_34 : RW M_X11_loafBy 34 (.goto (-29)) 3 5 0 37 := ⟨rfl, rfl⟩
theorem r_X11_loafBy_37 : RW M_X11_loafBy 37 (.iload_n 3) 1 0 0 38 := ⟨rfl, rfl⟩
theorem r_X11_loafBy_38 : RW M_X11_loafBy 38 (.ireturn) 1 0 0 39 := ⟨rfl, rfl⟩
theorem r_X11_look_0 : RW M_X11_look 0 (.aload_n 0) 1 0 0 1 := ⟨rfl, rfl⟩
theorem r_X11_look_1 : RW M_X11_look 1 (.iconst 0) 1 0 0 2 := ⟨rfl, rfl⟩
theorem r_X11_look_2 : RW M_X11_look 2 (.putfield 3) 3 11 0 5 := ⟨rfl, rfl⟩
theorem r_X11_look_5 : RW M_X11_look 5 (.aload_n 0) 1 0 0 6 := ⟨rfl, rfl⟩
theorem r_X11_look_6 : RW M_X11_look 6 (.iload_n 1) 1 0 0 7 := ⟨rfl, rfl⟩
theorem r_X11_look_7 : RW M_X11_look 7 (.iconst 0) 1 0 0 8 := ⟨rfl, rfl⟩
theorem r_X11_look_8 : RW M_X11_look 8 (.iconst 1) 1 0 0 9 := ⟨rfl, rfl⟩
theorem r_X11_look_9 : RW M_X11_look 9 (.invokestatic 392) 3 170 0 12 := ⟨rfl, rfl⟩
theorem r_X11_look_12 : RW M_X11_look 12 (.iconst 1) 1 0 0 13 := ⟨rfl, rfl⟩
theorem r_X11_look_13 : RW M_X11_look 13 (.iconst 1) 1 0 0 14 := ⟨rfl, rfl⟩
theorem r_X11_look_14 : RW M_X11_look 14 (.invokevirtual 210) 3 169 0 17 := ⟨rfl, rfl⟩
theorem r_X11_look_17 : RW M_X11_look 17 (.ifCond .ne 5) 3 22 0 20 := ⟨rfl, rfl⟩
theorem r_X11_look_20 : RW M_X11_look 20 (.iconst 0) 1 0 0 21 := ⟨rfl, rfl⟩
theorem r_X11_look_21 : RW M_X11_look 21 (.ireturn) 1 0 0 22 := ⟨rfl, rfl⟩
theorem r_X11_loss_0 : RW M_X11_loss 0 (.aload_n 0) 1 0 0 1 := ⟨rfl, rfl⟩
theorem r_X11_loss_1 : RW M_X11_loss 1 (.iconst 0) 1 0 0 2 := ⟨rfl, rfl⟩
theorem r_X11_loss_2 : RW M_X11_loss 2 (.putfield 3) 3 11 0 5 := ⟨rfl, rfl⟩
theorem r_X11_loss_5 : RW M_X11_loss 5 (.aload_n 0) 1 0 0 6 := ⟨rfl, rfl⟩
theorem r_X11_loss_6 : RW M_X11_loss 6 (.iload_n 1) 1 0 0 7 := ⟨rfl, rfl⟩
theorem r_X11_loss_7 : RW M_X11_loss 7 (.iconst 0) 1 0 0 8 := ⟨rfl, rfl⟩
theorem r_X11_loss_8 : RW M_X11_loss 8 (.iconst 1) 1 0 0 9 := ⟨rfl, rfl⟩
theorem r_X11_loss_9 : RW M_X11_loss 9 (.invokestatic 392) 3 170 0 12 := ⟨rfl, rfl⟩
theorem r_X11_loss_12 : RW M_X11_loss 12 (.iconst 1) 1 0 0 13 := ⟨rfl, rfl⟩
theorem r_X11_loss_13 : RW M_X11_loss 13 (.iconst 1) 1 0 0 14 := ⟨rfl, rfl⟩
theorem r_X11_loss_14 : RW M_X11_loss 14 (.invokevirtual 210) 3 169 0 17 := ⟨rfl, rfl⟩
theorem r_X11_loss_17 : RW M_X11_loss 17 (.ifCond .ne 5) 3 22 0 20 := ⟨rfl, rfl⟩
theorem r_X11_loss_20 : RW M_X11_loss 20 (.iconst 0) 1 0 0 21 := ⟨rfl, rfl⟩
theorem r_X11_loss_21 : RW M_X11_loss 21 (.ireturn) 1 0 0 22 := ⟨rfl, rfl⟩
theorem r_X11_loss_22 : RW M_X11_loss 22 (.aload_n 0) 1 0 0 23 := ⟨rfl, rfl⟩
theorem r_X11_loss_23 : RW M_X11_loss 23 (.invokevirtual 322) 3 212 0 26 := ⟨rfl, rfl⟩
theorem r_X11_loss_26 : RW M_X11_loss 26 (.aload_n 0) 1 0 0 27 := ⟨rfl, rfl⟩
theorem r_X11_loss_27 : RW M_X11_loss 27 (.iconst 1) 1 0 0 28 := ⟨rfl, rfl⟩
theorem r_X11_loss_28 : RW M_X11_loss 28 (.aload_n 0) 1 0 0 29 := ⟨rfl, rfl⟩
theorem r_X11_loss_29 : RW M_X11_loss 29 (.getfield 166) 3 11 22 32 := ⟨rfl, rfl⟩
theorem r_X11_loss_32 : RW M_X11_loss 32 (.ishl) 1 0 0 33 := ⟨rfl, rfl⟩
theorem r_X11_loss_33 : RW M_X11_loss 33 (.iconst 1) 1 0 0 34 := ⟨rfl, rfl⟩
theorem r_X11_loss_34 : RW M_X11_loss 34 (.isub) 1 0 0 35 := ⟨rfl, rfl⟩
theorem r_X11_loss_35 : RW M_X11_loss 35 (.aload_n 0) 1 0 0 36 := ⟨rfl, rfl⟩
theorem r_X11_loss_36 : RW M_X11_loss 36 (.invokevirtual 370) 3 221 0 39 := ⟨rfl, rfl⟩
theorem r_X11_loss_39 : RW M_X11_loss 39 (.iconst (-1)) 1 0 0 40 := ⟨rfl, rfl⟩
theorem r_X11_loss_40 : RW M_X11_loss 40 (.ixor) 1 0 0 41 := ⟨rfl, rfl⟩
theorem r_X11_loss_41 : RW M_X11_loss 41 (.iand) 1 0 0 42 := ⟨rfl, rfl⟩
theorem r_X11_loss_42 : RW M_X11_loss 42 (.iload_n 1) 1 0 0 43 := ⟨rfl, rfl⟩
theorem r_X11_loss_43 : RW M_X11_loss 43 (.invokevirtual 452) 3 265 0 46 := ⟨rfl, rfl⟩
theorem r_X11_loss_46 : RW M_X11_loss 46 (.ireturn) 1 0 0 47 := ⟨rfl, rfl⟩
theorem r_X11_mayLead_0 : RW M_X11_mayLead 0 (.aload_n 0) 1 0 0 1 := ⟨rfl, rfl⟩
theorem r_X11_mayLead_1 : RW M_X11_mayLead 1 (.getfield 74) 3 11 43 4 := ⟨rfl, rfl⟩
theorem r_X11_mayLead_4 : RW M_X11_mayLead 4 (.bipush 26) 2 0 0 6 := ⟨rfl, rfl⟩
theorem r_X11_mayLead_6 : RW M_X11_mayLead 6 (.iload_n 1) 1 0 0 7 := ⟨rfl, rfl⟩
theorem r_X11_mayLead_7 : RW M_X11_mayLead 7 (.iadd) 1 0 0 8 := ⟨rfl, rfl⟩
theorem r_X11_mayLead_8 : RW M_X11_mayLead 8 (.iaload) 1 0 0 9 := ⟨rfl, rfl⟩
theorem r_X11_mayLead_9 : RW M_X11_mayLead 9 (.iload_n 3) 1 0 0 10 := ⟨rfl, rfl⟩
theorem r_X11_mayLead_10 : RW M_X11_mayLead 10 (.if_icmp .lt 26) 3 36 0 13 := ⟨rfl, rfl⟩
theorem r_X11_mayLead_13 : RW M_X11_mayLead 13 (.aload_n 0) 1 0 0 14 := ⟨rfl, rfl⟩
theorem r_X11_mayLead_14 : RW M_X11_mayLead 14 (.getfield 74) 3 11 43 17 := ⟨rfl, rfl⟩
theorem r_X11_mayLead_17 : RW M_X11_mayLead 17 (.bipush 18) 2 0 0 19 := ⟨rfl, rfl⟩
theorem r_X11_mayLead_19 : RW M_X11_mayLead 19 (.iload_n 2) 1 0 0 20 := ⟨rfl, rfl⟩
theorem r_X11_mayLead_20 : RW M_X11_mayLead 20 (.iadd) 1 0 0 21 := ⟨rfl, rfl⟩
theorem r_X11_mayLead_21 : RW M_X11_mayLead 21 (.iaload) 1 0 0 22 := ⟨rfl, rfl⟩
theorem r_X11_mayLead_22 : RW M_X11_mayLead 22 (.aload_n 0) 1 0 0 23 := ⟨rfl, rfl⟩
theorem r_X11_mayLead_23 : RW M_X11_mayLead 23 (.getfield 74) 3 11 43 26 := ⟨rfl, rfl⟩
theorem r_X11_mayLead_26 : RW M_X11_mayLead 26 (.bipush 30) 2 0 0 28 := ⟨rfl, rfl⟩
theorem r_X11_mayLead_28 : RW M_X11_mayLead 28 (.iaload) 1 0 0 29 := ⟨rfl, rfl⟩
theorem r_X11_mayLead_29 : RW M_X11_mayLead 29 (.if_icmp .lt 7) 3 36 0 32 := ⟨rfl, rfl⟩
theorem r_X11_mayLead_32 : RW M_X11_mayLead 32 (.iconst 1) 1 0 0 33 := ⟨rfl, rfl⟩
theorem r_X11_mayLead_33 : RW M_X11_mayLead 33 (.goto 4) 3 37 0 36 := ⟨rfl, rfl⟩
theorem r_X11_mayLead_36 : RW M_X11_mayLead 36 (.iconst 0) 1 0 0 37 := ⟨rfl, rfl⟩
theorem r_X11_mayLead_37 : RW M_X11_mayLead 37 (.ireturn) 1 0 0 38 := ⟨rfl, rfl⟩
theorem r_X11_next_0 : RW M_X11_next 0 (.aload_n 0) 1 0 0 1 := ⟨rfl, rfl⟩
theorem r_X11_next_1 : RW M_X11_next 1 (.iconst 0) 1 0 0 2 := ⟨rfl, rfl⟩
theorem r_X11_next_2 : RW M_X11_next 2 (.putfield 3) 3 11 0 5 := ⟨rfl, rfl⟩
theorem r_X11_next_5 : RW M_X11_next 5 (.aload_n 0) 1 0 0 6 := ⟨rfl, rfl⟩
theorem r_X11_next_6 : RW M_X11_next 6 (.iload_n 1) 1 0 0 7 := ⟨rfl, rfl⟩
theorem r_X11_next_7 : RW M_X11_next 7 (.iconst 0) 1 0 0 8 := ⟨rfl, rfl⟩
theorem r_X11_next_8 : RW M_X11_next 8 (.iconst 1) 1 0 0 9 := ⟨rfl, rfl⟩
theorem r_X11_next_9 : RW M_X11_next 9 (.invokestatic 392) 3 170 0 12 := ⟨rfl, rfl⟩
theorem r_X11_next_12 : RW M_X11_next 12 (.iconst 1) 1 0 0 13 := ⟨rfl, rfl⟩
theorem r_X11_next_13 : RW M_X11_next 13 (.iconst 1) 1 0 0 14 := ⟨rfl, rfl⟩
theorem r_X11_next_14 : RW M_X11_next 14 (.invokevirtual 210) 3 169 0 17 := ⟨rfl, rfl⟩
theorem r_X11_next_17 : RW M_X11_next 17 (.ifCond .ne 5) 3 22 0 20 := ⟨rfl, rfl⟩
theorem r_X11_next_20 : RW M_X11_next 20 (.iconst 0) 1 0 0 21 := ⟨rfl, rfl⟩
theorem r_X11_next_21 : RW M_X11_next 21 (.ireturn) 1 0 0 22 := ⟨rfl, rfl⟩
theorem r_X11_next_22 : RW M_X11_next 22 (.iconst (-1)) 1 0 0 23 := ⟨rfl, rfl⟩
theorem r_X11_next_23 : RW M_X11_next 23 (.istore_n 2) 1 0 0 24 := ⟨rfl, rfl⟩
theorem r_X11_next_24 : RW M_X11_next 24 (.iconst 0) 1 0 0 25 := ⟨rfl, rfl⟩
theorem r_X11_next_25 : RW M_X11_next 25 (.istore_n 3) 1 0 0 26 := ⟨rfl, rfl⟩
theorem r_X11_next_26 : RW M_X11_next 26 (.iload_n 3) 1 0 0 27 := ⟨rfl, rfl⟩
theorem r_X11_next_27 : RW M_X11_next 27 (.aload_n 0) 1 0 0 28 := ⟨rfl, rfl⟩
theorem r_X11_next_28 : RW M_X11_next 28 (.getfield 166) 3 11 22 31 := ⟨rfl, rfl⟩
theorem r_X11_next_31 : RW M_X11_next 31 (.if_icmp .ge 53) 3 84 0 34 := ⟨rfl, rfl⟩
theorem r_X11_next_34 : RW M_X11_next 34 (.aload_n 0) 1 0 0 35 := ⟨rfl, rfl⟩
theorem r_X11_next_35 : RW M_X11_next 35 (.getfield 71) 3 11 42 38 := ⟨rfl, rfl⟩
theorem r_X11_next_38 : RW M_X11_next 38 (.iconst 0) 1 0 0 39 := ⟨rfl, rfl⟩
theorem r_X11_next_39 : RW M_X11_next 39 (.iload_n 3) 1 0 0 40 := ⟨rfl, rfl⟩
theorem r_X11_next_40 : RW M_X11_next 40 (.iadd) 1 0 0 41 := ⟨rfl, rfl⟩
theorem r_X11_next_41 : RW M_X11_next 41 (.iaload) 1 0 0 42 := ⟨rfl, rfl⟩
theorem r_X11_next_42 : RW M_X11_next 42 (.aload_n 0) 1 0 0 43 := ⟨rfl, rfl⟩
theorem r_X11_next_43 : RW M_X11_next 43 (.getfield 71) 3 11 42 46 := ⟨rfl, rfl⟩
theorem r_X11_next_46 : RW M_X11_next 46 (.bipush 30) 2 0 0 48 := ⟨rfl, rfl⟩
theorem r_X11_next_48 : RW M_X11_next 48 (.iaload) 1 0 0 49 := ⟨rfl, rfl⟩
theorem r_X11_next_49 : RW M_X11_next 49 (.if_icmp .lt 29) 3 78 0 52 := ⟨rfl, rfl⟩
theorem r_X11_next_52 : RW M_X11_next 52 (.iload_n 2) 1 0 0 53 := ⟨rfl, rfl⟩
theorem r_X11_next_53 : RW M_X11_next 53 (.iconst (-1)) 1 0 0 54 := ⟨rfl, rfl⟩
theorem r_X11_next_54 : RW M_X11_next 54 (.if_icmp .eq 22) 3 76 0 57 := ⟨rfl, rfl⟩
theorem r_X11_next_57 : RW M_X11_next 57 (.aload_n 0) 1 0 0 58 := ⟨rfl, rfl⟩
theorem r_X11_next_58 : RW M_X11_next 58 (.getfield 71) 3 11 42 61 := ⟨rfl, rfl⟩
theorem r_X11_next_61 : RW M_X11_next 61 (.iconst 0) 1 0 0 62 := ⟨rfl, rfl⟩
theorem r_X11_next_62 : RW M_X11_next 62 (.iload_n 3) 1 0 0 63 := ⟨rfl, rfl⟩
theorem r_X11_next_63 : RW M_X11_next 63 (.iadd) 1 0 0 64 := ⟨rfl, rfl⟩
theorem r_X11_next_64 : RW M_X11_next 64 (.iaload) 1 0 0 65 := ⟨rfl, rfl⟩
theorem r_X11_next_65 : RW M_X11_next 65 (.aload_n 0) 1 0 0 66 := ⟨rfl, rfl⟩
theorem r_X11_next_66 : RW M_X11_next 66 (.getfield 71) 3 11 42 69 := ⟨rfl, rfl⟩
theorem r_X11_next_69 : RW M_X11_next 69 (.iconst 0) 1 0 0 70 := ⟨rfl, rfl⟩
theorem r_X11_next_70 : RW M_X11_next 70 (.iload_n 2) 1 0 0 71 := ⟨rfl, rfl⟩
theorem r_X11_next_71 : RW M_X11_next 71 (.iadd) 1 0 0 72 := ⟨rfl, rfl⟩
theorem r_X11_next_72 : RW M_X11_next 72 (.iaload) 1 0 0 73 := ⟨rfl, rfl⟩
theorem r_X11_next_73 : RW M_X11_next 73 (.if_icmp .ge 5) 3 78 0 76 := ⟨rfl, rfl⟩
theorem r_X11_next_76 : RW M_X11_next 76 (.iload_n 3) 1 0 0 77 := ⟨rfl, rfl⟩
theorem r_X11_next_77 : RW M_X11_next 77 (.istore_n 2) 1 0 0 78 := ⟨rfl, rfl⟩
theorem r_X11_next_78 : RW M_X11_next 78 (.iinc 3 1) 3 0 0 81 := ⟨rfl, rfl⟩
theorem r_X11_next_81 : RW M_X11_next 81 (.goto (-55)) 3 26 0 84 := ⟨rfl, rfl⟩
theorem r_X11_next_84 : RW M_X11_next 84 (.iload_n 1) 1 0 0 85 := ⟨rfl, rfl⟩
theorem r_X11_next_85 : RW M_X11_next 85 (.ifCond .eq 8) 3 93 0 88 := ⟨rfl, rfl⟩
theorem r_X11_next_88 : RW M_X11_next 88 (.iload_n 2) 1 0 0 89 := ⟨rfl, rfl⟩
theorem r_X11_next_89 : RW M_X11_next 89 (.iconst (-1)) 1 0 0 90 := ⟨rfl, rfl⟩
theorem r_X11_next_90 : RW M_X11_next 90 (.if_icmp .ne 7) 3 97 0 93 := ⟨rfl, rfl⟩
theorem r_X11_next_93 : RW M_X11_next 93 (.iload_n 2) 1 0 0 94 := ⟨rfl, rfl⟩
theorem r_X11_next_94 : RW M_X11_next 94 (.goto 11) 3 105 0 97 := ⟨rfl, rfl⟩
theorem r_X11_next_97 : RW M_X11_next 97 (.aload_n 0) 1 0 0 98 := ⟨rfl, rfl⟩
theorem r_X11_next_98 : RW M_X11_next 98 (.getfield 71) 3 11 42 101 := ⟨rfl, rfl⟩
theorem r_X11_next_101 : RW M_X11_next 101 (.iconst 0) 1 0 0 102 := ⟨rfl, rfl⟩
theorem r_X11_next_102 : RW M_X11_next 102 (.iload_n 2) 1 0 0 103 := ⟨rfl, rfl⟩
theorem r_X11_next_103 : RW M_X11_next 103 (.iadd) 1 0 0 104 := ⟨rfl, rfl⟩
theorem r_X11_next_104 : RW M_X11_next 104 (.iaload) 1 0 0 105 := ⟨rfl, rfl⟩
theorem r_X11_next_105 : RW M_X11_next 105 (.ireturn) 1 0 0 106 := ⟨rfl, rfl⟩
theorem r_X11_over_0 : RW M_X11_over 0 (.aload_n 0) 1 0 0 1 := ⟨rfl, rfl⟩
theorem r_X11_over_1 : RW M_X11_over 1 (.iconst 0) 1 0 0 2 := ⟨rfl, rfl⟩
theorem r_X11_over_2 : RW M_X11_over 2 (.putfield 3) 3 11 0 5 := ⟨rfl, rfl⟩
theorem r_X11_over_5 : RW M_X11_over 5 (.aload_n 0) 1 0 0 6 := ⟨rfl, rfl⟩
theorem r_X11_over_6 : RW M_X11_over 6 (.iload_n 1) 1 0 0 7 := ⟨rfl, rfl⟩
theorem r_X11_over_7 : RW M_X11_over 7 (.iconst 1) 1 0 0 8 := ⟨rfl, rfl⟩
theorem r_X11_over_8 : RW M_X11_over 8 (.invokevirtual 410) 3 239 0 11 := ⟨rfl, rfl⟩
theorem r_X11_over_11 : RW M_X11_over 11 (.ifCond .ne 5) 3 16 0 14 := ⟨rfl, rfl⟩
theorem r_X11_over_14 : RW M_X11_over 14 (.iconst 0) 1 0 0 15 := ⟨rfl, rfl⟩
theorem r_X11_over_15 : RW M_X11_over 15 (.ireturn) 1 0 0 16 := ⟨rfl, rfl⟩
theorem r_X11_over_16 : RW M_X11_over 16 (.aload_n 0) 1 0 0 17 := ⟨rfl, rfl⟩
theorem r_X11_over_17 : RW M_X11_over 17 (.invokevirtual 322) 3 212 0 20 := ⟨rfl, rfl⟩
theorem r_X11_over_20 : RW M_X11_over 20 (.aload_n 0) 1 0 0 21 := ⟨rfl, rfl⟩
theorem r_X11_over_21 : RW M_X11_over 21 (.iload_n 1) 1 0 0 22 := ⟨rfl, rfl⟩
theorem r_X11_over_22 : RW M_X11_over 22 (.iconst 0) 1 0 0 23 := ⟨rfl, rfl⟩
theorem r_X11_over_23 : RW M_X11_over 23 (.invokevirtual 361) 3 219 0 26 := ⟨rfl, rfl⟩
theorem r_X11_over_26 : RW M_X11_over 26 (.ireturn) 1 0 0 27 := ⟨rfl, rfl⟩
theorem r_X11_point_0 : RW M_X11_point 0 (.aload_n 0) 1 0 0 1 := ⟨rfl, rfl⟩
theorem r_X11_point_1 : RW M_X11_point 1 (.iconst 0) 1 0 0 2 := ⟨rfl, rfl⟩
theorem r_X11_point_2 : RW M_X11_point 2 (.putfield 3) 3 11 0 5 := ⟨rfl, rfl⟩
theorem r_X11_point_5 : RW M_X11_point 5 (.aload_n 0) 1 0 0 6 := ⟨rfl, rfl⟩
theorem r_X11_point_6 : RW M_X11_point 6 (.iload_n 1) 1 0 0 7 := ⟨rfl, rfl⟩
theorem r_X11_point_7 : RW M_X11_point 7 (.iconst 0) 1 0 0 8 := ⟨rfl, rfl⟩
theorem r_X11_point_8 : RW M_X11_point 8 (.iconst 1) 1 0 0 9 := ⟨rfl, rfl⟩
theorem r_X11_point_9 : RW M_X11_point 9 (.invokestatic 392) 3 170 0 12 := ⟨rfl, rfl⟩
theorem r_X11_point_12 : RW M_X11_point 12 (.ifCond .eq 16) 3 28 0 15 := ⟨rfl, rfl⟩
theorem r_X11_point_15 : RW M_X11_point 15 (.iload_n 2) 1 0 0 16 := ⟨rfl, rfl⟩
theorem r_X11_point_16 : RW M_X11_point 16 (.iconst 0) 1 0 0 17 := ⟨rfl, rfl⟩
theorem r_X11_point_17 : RW M_X11_point 17 (.iconst 1) 1 0 0 18 := ⟨rfl, rfl⟩
theorem r_X11_point_18 : RW M_X11_point 18 (.invokestatic 392) 3 170 0 21 := ⟨rfl, rfl⟩
theorem r_X11_point_21 : RW M_X11_point 21 (.ifCond .eq 7) 3 28 0 24 := ⟨rfl, rfl⟩
theorem r_X11_point_24 : RW M_X11_point 24 (.iconst 1) 1 0 0 25 := ⟨rfl, rfl⟩
theorem r_X11_point_25 : RW M_X11_point 25 (.goto 4) 3 29 0 28 := ⟨rfl, rfl⟩
theorem r_X11_point_28 : RW M_X11_point 28 (.iconst 0) 1 0 0 29 := ⟨rfl, rfl⟩
theorem r_X11_point_29 : RW M_X11_point 29 (.iconst 1) 1 0 0 30 := ⟨rfl, rfl⟩
theorem r_X11_point_30 : RW M_X11_point 30 (.iconst 1) 1 0 0 31 := ⟨rfl, rfl⟩
theorem r_X11_point_31 : RW M_X11_point 31 (.invokevirtual 210) 3 169 0 34 := ⟨rfl, rfl⟩
theorem r_X11_point_34 : RW M_X11_point 34 (.ifCond .ne 5) 3 39 0 37 := ⟨rfl, rfl⟩
theorem r_X11_point_37 : RW M_X11_point 37 (.iconst 0) 1 0 0 38 := ⟨rfl, rfl⟩
theorem r_X11_point_38 : RW M_X11_point 38 (.ireturn) 1 0 0 39 := ⟨rfl, rfl⟩
theorem r_X11_point_39 : RW M_X11_point 39 (.aload_n 0) 1 0 0 40 := ⟨rfl, rfl⟩
theorem r_X11_point_40 : RW M_X11_point 40 (.invokevirtual 322) 3 212 0 43 := ⟨rfl, rfl⟩
theorem r_X11_point_43 : RW M_X11_point 43 (.aload_n 0) 1 0 0 44 := ⟨rfl, rfl⟩
theorem r_X11_point_44 : RW M_X11_point 44 (.aload_n 0) 1 0 0 45 := ⟨rfl, rfl⟩
theorem r_X11_point_45 : RW M_X11_point 45 (.getfield 74) 3 11 43 48 := ⟨rfl, rfl⟩
theorem r_X11_point_48 : RW M_X11_point 48 (.bipush 30) 2 0 0 50 := ⟨rfl, rfl⟩
theorem r_X11_point_50 : RW M_X11_point 50 (.iaload) 1 0 0 51 := ⟨rfl, rfl⟩
theorem r_X11_point_51 : RW M_X11_point 51 (.invokevirtual 395) 3 226 0 54 := ⟨rfl, rfl⟩
theorem r_X11_point_54 : RW M_X11_point 54 (.istore_n 3) 1 0 0 55 := ⟨rfl, rfl⟩
theorem r_X11_point_55 : RW M_X11_point 55 (.iconst 0) 1 0 0 56 := ⟨rfl, rfl⟩
theorem r_X11_point_56 : RW M_X11_point 56 (.istore 4) 2 0 0 58 := ⟨rfl, rfl⟩
theorem r_X11_point_58 : RW M_X11_point 58 (.iload 4) 2 0 0 60 := ⟨rfl, rfl⟩
theorem r_X11_point_60 : RW M_X11_point 60 (.aload_n 0) 1 0 0 61 := ⟨rfl, rfl⟩
theorem r_X11_point_61 : RW M_X11_point 61 (.getfield 166) 3 11 22 64 := ⟨rfl, rfl⟩
theorem r_X11_point_64 : RW M_X11_point 64 (.if_icmp .ge 37) 3 101 0 67 := ⟨rfl, rfl⟩
theorem r_X11_point_67 : RW M_X11_point 67 (.iload_n 3) 1 0 0 68 := ⟨rfl, rfl⟩
theorem r_X11_point_68 : RW M_X11_point 68 (.aload_n 0) 1 0 0 69 := ⟨rfl, rfl⟩
theorem r_X11_point_69 : RW M_X11_point 69 (.getfield 35) 3 11 14 72 := ⟨rfl, rfl⟩
theorem r_X11_point_72 : RW M_X11_point 72 (.iconst 3) 1 0 0 73 := ⟨rfl, rfl⟩
theorem r_X11_point_73 : RW M_X11_point 73 (.iload 4) 2 0 0 75 := ⟨rfl, rfl⟩
theorem r_X11_point_75 : RW M_X11_point 75 (.imul) 1 0 0 76 := ⟨rfl, rfl⟩
theorem r_X11_point_76 : RW M_X11_point 76 (.iconst 1) 1 0 0 77 := ⟨rfl, rfl⟩
theorem r_X11_point_77 : RW M_X11_point 77 (.iadd) 1 0 0 78 := ⟨rfl, rfl⟩
theorem r_X11_point_78 : RW M_X11_point 78 (.iaload) 1 0 0 79 := ⟨rfl, rfl⟩
theorem r_X11_point_79 : RW M_X11_point 79 (.iload_n 1) 1 0 0 80 := ⟨rfl, rfl⟩
theorem r_X11_point_80 : RW M_X11_point 80 (.if_icmp .ne 7) 3 87 0 83 := ⟨rfl, rfl⟩
theorem r_X11_point_83 : RW M_X11_point 83 (.iconst (-1)) 1 0 0 84 := ⟨rfl, rfl⟩
theorem r_X11_point_84 : RW M_X11_point 84 (.goto 9) 3 93 0 87 := ⟨rfl, rfl⟩
theorem r_X11_point_87 : RW M_X11_point 87 (.iconst 1) 1 0 0 88 := ⟨rfl, rfl⟩
theorem r_X11_point_88 : RW M_X11_point 88 (.iload 4) 2 0 0 90 := ⟨rfl, rfl⟩
theorem r_X11_point_90 : RW M_X11_point 90 (.ishl) 1 0 0 91 := ⟨rfl, rfl⟩
theorem r_X11_point_91 : RW M_X11_point 91 (.iconst (-1)) 1 0 0 92 := ⟨rfl, rfl⟩
theorem r_X11_point_92 : RW M_X11_point 92 (.ixor) 1 0 0 93 := ⟨rfl, rfl⟩
theorem r_X11_point_93 : RW M_X11_point 93 (.iand) 1 0 0 94 := ⟨rfl, rfl⟩
theorem r_X11_point_94 : RW M_X11_point 94 (.istore_n 3) 1 0 0 95 := ⟨rfl, rfl⟩
theorem r_X11_point_95 : RW M_X11_point 95 (.iinc 4 1) 3 0 0 98 := ⟨rfl, rfl⟩
theorem r_X11_point_98 : RW M_X11_point 98 (.goto (-40)) 3 58 0 101 := ⟨rfl, rfl⟩
theorem r_X11_point_101 : RW M_X11_point 101 (.aload_n 0) 1 0 0 102 := ⟨rfl, rfl⟩
theorem r_X11_point_102 : RW M_X11_point 102 (.iload_n 3) 1 0 0 103 := ⟨rfl, rfl⟩
theorem r_X11_point_103 : RW M_X11_point 103 (.iload_n 2) 1 0 0 104 := ⟨rfl, rfl⟩
theorem r_X11_point_104 : RW M_X11_point 104 (.invokevirtual 452) 3 265 0 107 := ⟨rfl, rfl⟩
theorem r_X11_point_107 : RW M_X11_point 107 (.ireturn) 1 0 0 108 := ⟨rfl, rfl⟩
theorem r_X11_proof_0 : RW M_X11_proof 0 (.aload_n 0) 1 0 0 1 := ⟨rfl, rfl⟩
theorem r_X11_proof_1 : RW M_X11_proof 1 (.iconst 0) 1 0 0 2 := ⟨rfl, rfl⟩
theorem r_X11_proof_2 : RW M_X11_proof 2 (.putfield 3) 3 11 0 5 := ⟨rfl, rfl⟩
theorem r_X11_proof_5 : RW M_X11_proof 5 (.aload_n 0) 1 0 0 6 := ⟨rfl, rfl⟩
theorem r_X11_proof_6 : RW M_X11_proof 6 (.iload_n 1) 1 0 0 7 := ⟨rfl, rfl⟩
theorem r_X11_proof_7 : RW M_X11_proof 7 (.iconst 1) 1 0 0 8 := ⟨rfl, rfl⟩
theorem r_X11_proof_8 : RW M_X11_proof 8 (.invokevirtual 407) 3 238 0 11 := ⟨rfl, rfl⟩
theorem r_X11_proof_11 : RW M_X11_proof 11 (.ifCond .ne 5) 3 16 0 14 := ⟨rfl, rfl⟩
theorem r_X11_proof_14 : RW M_X11_proof 14 (.iconst 0) 1 0 0 15 := ⟨rfl, rfl⟩
theorem r_X11_proof_15 : RW M_X11_proof 15 (.ireturn) 1 0 0 16 := ⟨rfl, rfl⟩
theorem r_X11_purse_0 : RW M_X11_purse 0 (.aload_n 0) 1 0 0 1 := ⟨rfl, rfl⟩
theorem r_X11_purse_1 : RW M_X11_purse 1 (.iconst 0) 1 0 0 2 := ⟨rfl, rfl⟩
theorem r_X11_purse_2 : RW M_X11_purse 2 (.putfield 3) 3 11 0 5 := ⟨rfl, rfl⟩
theorem r_X11_purse_5 : RW M_X11_purse 5 (.aload_n 0) 1 0 0 6 := ⟨rfl, rfl⟩
theorem r_X11_purse_6 : RW M_X11_purse 6 (.aload_n 0) 1 0 0 7 := ⟨rfl, rfl⟩
theorem r_X11_purse_7 : RW M_X11_purse 7 (.iload_n 1) 1 0 0 8 := ⟨rfl, rfl⟩
theorem r_X11_purse_8 : RW M_X11_purse 8 (.invokevirtual 443) 3 262 0 11 := ⟨rfl, rfl⟩
theorem r_X11_purse_11 : RW M_X11_purse 11 (.iconst 1) 1 0 0 12 := ⟨rfl, rfl⟩
theorem r_X11_purse_12 : RW M_X11_purse 12 (.iconst 1) 1 0 0 13 := ⟨rfl, rfl⟩
theorem r_X11_purse_13 : RW M_X11_purse 13 (.invokevirtual 210) 3 169 0 16 := ⟨rfl, rfl⟩
theorem r_X11_purse_16 : RW M_X11_purse 16 (.ifCond .ne 5) 3 21 0 19 := ⟨rfl, rfl⟩
theorem r_X11_purse_19 : RW M_X11_purse 19 (.iconst 0) 1 0 0 20 := ⟨rfl, rfl⟩
theorem r_X11_purse_20 : RW M_X11_purse 20 (.ireturn) 1 0 0 21 := ⟨rfl, rfl⟩
theorem r_X11_purse_21 : RW M_X11_purse 21 (.aload_n 0) 1 0 0 22 := ⟨rfl, rfl⟩
theorem r_X11_purse_22 : RW M_X11_purse 22 (.iload_n 1) 1 0 0 23 := ⟨rfl, rfl⟩
theorem r_X11_purse_23 : RW M_X11_purse 23 (.bipush 40) 2 0 0 25 := ⟨rfl, rfl⟩
theorem r_X11_purse_25 : RW M_X11_purse 25 (.invokevirtual 446) 3 261 0 28 := ⟨rfl, rfl⟩
theorem r_X11_purse_28 : RW M_X11_purse 28 (.ireturn) 1 0 0 29 := ⟨rfl, rfl⟩
theorem r_X11_saying_29 : RW M_X11_saying 29 (.iconst 0) 1 0 0 30 := ⟨rfl, rfl⟩
theorem r_X11_saying_30 : RW M_X11_saying 30 (.ireturn) 1 0 0 31 := ⟨rfl, rfl⟩
theorem r_X11_side_0 : RW M_X11_side 0 (.aload_n 0) 1 0 0 1 := ⟨rfl, rfl⟩
theorem r_X11_side_1 : RW M_X11_side 1 (.iconst 0) 1 0 0 2 := ⟨rfl, rfl⟩
theorem r_X11_side_2 : RW M_X11_side 2 (.putfield 3) 3 11 0 5 := ⟨rfl, rfl⟩
theorem r_X11_side_5 : RW M_X11_side 5 (.aload_n 0) 1 0 0 6 := ⟨rfl, rfl⟩
theorem r_X11_side_6 : RW M_X11_side 6 (.iload_n 1) 1 0 0 7 := ⟨rfl, rfl⟩
theorem r_X11_side_7 : RW M_X11_side 7 (.iconst 0) 1 0 0 8 := ⟨rfl, rfl⟩
theorem r_X11_side_8 : RW M_X11_side 8 (.iconst 1) 1 0 0 9 := ⟨rfl, rfl⟩
theorem r_X11_side_9 : RW M_X11_side 9 (.invokestatic 392) 3 170 0 12 := ⟨rfl, rfl⟩
theorem r_X11_side_12 : RW M_X11_side 12 (.ifCond .eq 16) 3 28 0 15 := ⟨rfl, rfl⟩
theorem r_X11_side_15 : RW M_X11_side 15 (.iload_n 2) 1 0 0 16 := ⟨rfl, rfl⟩
theorem r_X11_side_16 : RW M_X11_side 16 (.iconst 0) 1 0 0 17 := ⟨rfl, rfl⟩
theorem r_X11_side_17 : RW M_X11_side 17 (.iconst 2) 1 0 0 18 := ⟨rfl, rfl⟩
theorem r_X11_side_18 : RW M_X11_side 18 (.invokestatic 392) 3 170 0 21 := ⟨rfl, rfl⟩
theorem r_X11_side_21 : RW M_X11_side 21 (.ifCond .eq 7) 3 28 0 24 := ⟨rfl, rfl⟩
theorem r_X11_side_24 : RW M_X11_side 24 (.iconst 1) 1 0 0 25 := ⟨rfl, rfl⟩
theorem r_X11_side_25 : RW M_X11_side 25 (.goto 4) 3 29 0 28 := ⟨rfl, rfl⟩
theorem r_X11_side_28 : RW M_X11_side 28 (.iconst 0) 1 0 0 29 := ⟨rfl, rfl⟩
theorem r_X11_side_29 : RW M_X11_side 29 (.iconst 1) 1 0 0 30 := ⟨rfl, rfl⟩
theorem r_X11_side_30 : RW M_X11_side 30 (.iconst 1) 1 0 0 31 := ⟨rfl, rfl⟩
theorem r_X11_side_31 : RW M_X11_side 31 (.invokevirtual 210) 3 169 0 34 := ⟨rfl, rfl⟩
theorem r_X11_side_34 : RW M_X11_side 34 (.ifCond .ne 5) 3 39 0 37 := ⟨rfl, rfl⟩
theorem r_X11_side_37 : RW M_X11_side 37 (.iconst 0) 1 0 0 38 := ⟨rfl, rfl⟩
theorem r_X11_side_38 : RW M_X11_side 38 (.ireturn) 1 0 0 39 := ⟨rfl, rfl⟩
theorem r_X11_side_39 : RW M_X11_side 39 (.aload_n 0) 1 0 0 40 := ⟨rfl, rfl⟩
theorem r_X11_side_40 : RW M_X11_side 40 (.invokevirtual 322) 3 212 0 43 := ⟨rfl, rfl⟩
theorem r_X11_side_43 : RW M_X11_side 43 (.aload_n 0) 1 0 0 44 := ⟨rfl, rfl⟩
theorem r_X11_side_44 : RW M_X11_side 44 (.iload_n 2) 1 0 0 45 := ⟨rfl, rfl⟩
theorem r_X11_side_45 : RW M_X11_side 45 (.ifCond .ne 17) 3 62 0 48 := ⟨rfl, rfl⟩
theorem r_X11_side_48 : RW M_X11_side 48 (.aload_n 0) 1 0 0 49 := ⟨rfl, rfl⟩
theorem r_X11_side_49 : RW M_X11_side 49 (.aload_n 0) 1 0 0 50 := ⟨rfl, rfl⟩
theorem r_X11_side_50 : RW M_X11_side 50 (.getfield 74) 3 11 43 53 := ⟨rfl, rfl⟩
theorem r_X11_side_53 : RW M_X11_side 53 (.bipush 30) 2 0 0 55 := ⟨rfl, rfl⟩
theorem r_X11_side_55 : RW M_X11_side 55 (.iaload) 1 0 0 56 := ⟨rfl, rfl⟩
theorem r_X11_side_56 : RW M_X11_side 56 (.invokevirtual 395) 3 226 0 59 := ⟨rfl, rfl⟩
theorem r_X11_side_59 : RW M_X11_side 59 (.goto 23) 3 82 0 62 := ⟨rfl, rfl⟩
theorem r_X11_side_62 : RW M_X11_side 62 (.iload_n 2) 1 0 0 63 := ⟨rfl, rfl⟩
theorem r_X11_side_63 : RW M_X11_side 63 (.iconst 1) 1 0 0 64 := ⟨rfl, rfl⟩
theorem r_X11_side_64 : RW M_X11_side 64 (.if_icmp .ne 10) 3 74 0 67 := ⟨rfl, rfl⟩
theorem r_X11_side_67 : RW M_X11_side 67 (.aload_n 0) 1 0 0 68 := ⟨rfl, rfl⟩
theorem r_X11_side_68 : RW M_X11_side 68 (.invokevirtual 398) 3 235 0 71 := ⟨rfl, rfl⟩
theorem r_X11_side_71 : RW M_X11_side 71 (.goto 11) 3 82 0 74 := ⟨rfl, rfl⟩
theorem r_X11_side_74 : RW M_X11_side 74 (.iconst 1) 1 0 0 75 := ⟨rfl, rfl⟩
theorem r_X11_side_75 : RW M_X11_side 75 (.aload_n 0) 1 0 0 76 := ⟨rfl, rfl⟩
theorem r_X11_side_76 : RW M_X11_side 76 (.getfield 166) 3 11 22 79 := ⟨rfl, rfl⟩
theorem r_X11_side_79 : RW M_X11_side 79 (.ishl) 1 0 0 80 := ⟨rfl, rfl⟩
theorem r_X11_side_80 : RW M_X11_side 80 (.iconst 1) 1 0 0 81 := ⟨rfl, rfl⟩
theorem r_X11_side_81 : RW M_X11_side 81 (.isub) 1 0 0 82 := ⟨rfl, rfl⟩
theorem r_X11_side_82 : RW M_X11_side 82 (.iload_n 1) 1 0 0 83 := ⟨rfl, rfl⟩
theorem r_X11_side_83 : RW M_X11_side 83 (.invokevirtual 367) 3 224 0 86 := ⟨rfl, rfl⟩
theorem r_X11_side_86 : RW M_X11_side 86 (.ireturn) 1 0 0 87 := ⟨rfl, rfl⟩
theorem r_X11_status_0 : RW M_X11_status 0 (.aload_n 0) 1 0 0 1 := ⟨rfl, rfl⟩
theorem r_X11_status_1 : RW M_X11_status 1 (.iconst 0) 1 0 0 2 := ⟨rfl, rfl⟩
theorem r_X11_status_2 : RW M_X11_status 2 (.putfield 3) 3 11 0 5 := ⟨rfl, rfl⟩
theorem r_X11_status_5 : RW M_X11_status 5 (.iload_n 1) 1 0 0 6 := ⟨rfl, rfl⟩
theorem r_X11_status_6 : RW M_X11_status 6 (.iconst 0) 1 0 0 7 := ⟨rfl, rfl⟩
theorem r_X11_status_7 : RW M_X11_status 7 (.iconst 1) 1 0 0 8 := ⟨rfl, rfl⟩
theorem r_X11_status_8 : RW M_X11_status 8 (.invokestatic 392) 3 170 0 11 := ⟨rfl, rfl⟩
theorem r_X11_status_11 : RW M_X11_status 11 (.ifCond .eq 12) 3 23 0 14 := ⟨rfl, rfl⟩
theorem r_X11_status_14 : RW M_X11_status 14 (.aload_n 0) 1 0 0 15 := ⟨rfl, rfl⟩
theorem r_X11_status_15 : RW M_X11_status 15 (.getfield 7) 3 11 1 18 := ⟨rfl, rfl⟩
theorem r_X11_status_18 : RW M_X11_status 18 (.iload_n 1) 1 0 0 19 := ⟨rfl, rfl⟩
theorem r_X11_status_19 : RW M_X11_status 19 (.iaload) 1 0 0 20 := ⟨rfl, rfl⟩
theorem r_X11_status_20 : RW M_X11_status 20 (.goto 4) 3 24 0 23 := ⟨rfl, rfl⟩
theorem r_X11_status_23 : RW M_X11_status 23 (.iconst (-1)) 1 0 0 24 := ⟨rfl, rfl⟩
theorem r_X11_status_24 : RW M_X11_status 24 (.ireturn) 1 0 0 25 := ⟨rfl, rfl⟩
theorem r_X11_swing_0 : RW M_X11_swing 0 (.aload_n 0) 1 0 0 1 := ⟨rfl, rfl⟩
theorem r_X11_swing_1 : RW M_X11_swing 1 (.iconst 0) 1 0 0 2 := ⟨rfl, rfl⟩
theorem r_X11_swing_2 : RW M_X11_swing 2 (.putfield 3) 3 11 0 5 := ⟨rfl, rfl⟩
theorem r_X11_swing_5 : RW M_X11_swing 5 (.aload_n 0) 1 0 0 6 := ⟨rfl, rfl⟩
theorem r_X11_swing_6 : RW M_X11_swing 6 (.iload_n 1) 1 0 0 7 := ⟨rfl, rfl⟩
theorem r_X11_swing_7 : RW M_X11_swing 7 (.iconst 1) 1 0 0 8 := ⟨rfl, rfl⟩
theorem r_X11_swing_8 : RW M_X11_swing 8 (.invokevirtual 407) 3 238 0 11 := ⟨rfl, rfl⟩
theorem r_X11_swing_11 : RW M_X11_swing 11 (.ifCond .ne 5) 3 16 0 14 := ⟨rfl, rfl⟩
theorem r_X11_swing_14 : RW M_X11_swing 14 (.iconst 0) 1 0 0 15 := ⟨rfl, rfl⟩
theorem r_X11_swing_15 : RW M_X11_swing 15 (.ireturn) 1 0 0 16 := ⟨rfl, rfl⟩
theorem r_X11_swing_16 : RW M_X11_swing 16 (.aload_n 0) 1 0 0 17 := ⟨rfl, rfl⟩
theorem r_X11_swing_17 : RW M_X11_swing 17 (.invokevirtual 322) 3 212 0 20 := ⟨rfl, rfl⟩
theorem r_X11_swing_20 : RW M_X11_swing 20 (.aload_n 0) 1 0 0 21 := ⟨rfl, rfl⟩
theorem r_X11_swing_21 : RW M_X11_swing 21 (.aload_n 0) 1 0 0 22 := ⟨rfl, rfl⟩
theorem r_X11_swing_22 : RW M_X11_swing 22 (.aload_n 0) 1 0 0 23 := ⟨rfl, rfl⟩
theorem r_X11_swing_23 : RW M_X11_swing 23 (.getfield 74) 3 11 43 26 := ⟨rfl, rfl⟩
theorem r_X11_swing_26 : RW M_X11_swing 26 (.bipush 30) 2 0 0 28 := ⟨rfl, rfl⟩
theorem r_X11_swing_28 : RW M_X11_swing 28 (.iaload) 1 0 0 29 := ⟨rfl, rfl⟩
theorem r_X11_swing_29 : RW M_X11_swing 29 (.invokevirtual 395) 3 226 0 32 := ⟨rfl, rfl⟩
theorem r_X11_swing_32 : RW M_X11_swing 32 (.iconst 1) 1 0 0 33 := ⟨rfl, rfl⟩
theorem r_X11_swing_33 : RW M_X11_swing 33 (.iload_n 1) 1 0 0 34 := ⟨rfl, rfl⟩
theorem r_X11_swing_34 : RW M_X11_swing 34 (.ishl) 1 0 0 35 := ⟨rfl, rfl⟩
theorem r_X11_swing_35 : RW M_X11_swing 35 (.ixor) 1 0 0 36 := ⟨rfl, rfl⟩
theorem r_X11_swing_36 : RW M_X11_swing 36 (.invokevirtual 404) 3 225 0 39 := ⟨rfl, rfl⟩
theorem r_X11_swing_39 : RW M_X11_swing 39 (.ireturn) 1 0 0 40 := ⟨rfl, rfl⟩
theorem r_X11_used_0 : RW M_X11_used 0 (.aload_n 0) 1 0 0 1 := ⟨rfl, rfl⟩
theorem r_X11_used_1 : RW M_X11_used 1 (.iconst 0) 1 0 0 2 := ⟨rfl, rfl⟩
theorem r_X11_used_2 : RW M_X11_used 2 (.putfield 3) 3 11 0 5 := ⟨rfl, rfl⟩
theorem r_X11_used_5 : RW M_X11_used 5 (.aload_n 0) 1 0 0 6 := ⟨rfl, rfl⟩
theorem r_X11_used_6 : RW M_X11_used 6 (.invokevirtual 322) 3 212 0 9 := ⟨rfl, rfl⟩
theorem r_X11_used_9 : RW M_X11_used 9 (.aload_n 0) 1 0 0 10 := ⟨rfl, rfl⟩
theorem r_X11_used_10 : RW M_X11_used 10 (.aload_n 0) 1 0 0 11 := ⟨rfl, rfl⟩
theorem r_X11_used_11 : RW M_X11_used 11 (.aload_n 0) 1 0 0 12 := ⟨rfl, rfl⟩
theorem r_X11_used_12 : RW M_X11_used 12 (.getfield 74) 3 11 43 15 := ⟨rfl, rfl⟩
theorem r_X11_used_15 : RW M_X11_used 15 (.bipush 30) 2 0 0 17 := ⟨rfl, rfl⟩
theorem r_X11_used_17 : RW M_X11_used 17 (.iaload) 1 0 0 18 := ⟨rfl, rfl⟩
theorem r_X11_used_18 : RW M_X11_used 18 (.invokevirtual 395) 3 226 0 21 := ⟨rfl, rfl⟩
theorem r_X11_used_21 : RW M_X11_used 21 (.invokevirtual 364) 3 223 0 24 := ⟨rfl, rfl⟩
theorem r_X11_used_24 : RW M_X11_used 24 (.istore_n 1) 1 0 0 25 := ⟨rfl, rfl⟩
theorem r_X11_used_25 : RW M_X11_used 25 (.iconst 0) 1 0 0 26 := ⟨rfl, rfl⟩
theorem r_X11_used_26 : RW M_X11_used 26 (.istore_n 2) 1 0 0 27 := ⟨rfl, rfl⟩
theorem r_X11_used_27 : RW M_X11_used 27 (.iconst 0) 1 0 0 28 := ⟨rfl, rfl⟩
theorem r_X11_used_28 : RW M_X11_used 28 (.istore_n 3) 1 0 0 29 := ⟨rfl, rfl⟩
theorem r_X11_used_29 : RW M_X11_used 29 (.iload_n 3) 1 0 0 30 := ⟨rfl, rfl⟩
theorem r_X11_used_30 : RW M_X11_used 30 (.aload_n 0) 1 0 0 31 := ⟨rfl, rfl⟩
theorem r_X11_used_31 : RW M_X11_used 31 (.getfield 169) 3 11 23 34 := ⟨rfl, rfl⟩
theorem r_X11_used_34 : RW M_X11_used 34 (.if_icmp .ge 39) 3 73 0 37 := ⟨rfl, rfl⟩
theorem r_X11_used_37 : RW M_X11_used 37 (.iload_n 2) 1 0 0 38 := ⟨rfl, rfl⟩
theorem r_X11_used_38 : RW M_X11_used 38 (.iload_n 1) 1 0 0 39 := ⟨rfl, rfl⟩
theorem r_X11_used_39 : RW M_X11_used 39 (.aload_n 0) 1 0 0 40 := ⟨rfl, rfl⟩
theorem r_X11_used_40 : RW M_X11_used 40 (.getfield 38) 3 11 15 43 := ⟨rfl, rfl⟩
theorem r_X11_used_43 : RW M_X11_used 43 (.iconst 3) 1 0 0 44 := ⟨rfl, rfl⟩
theorem r_X11_used_44 : RW M_X11_used 44 (.iload_n 3) 1 0 0 45 := ⟨rfl, rfl⟩
theorem r_X11_used_45 : RW M_X11_used 45 (.imul) 1 0 0 46 := ⟨rfl, rfl⟩
theorem r_X11_used_46 : RW M_X11_used 46 (.iaload) 1 0 0 47 := ⟨rfl, rfl⟩
theorem r_X11_used_47 : RW M_X11_used 47 (.ishr) 1 0 0 48 := ⟨rfl, rfl⟩
theorem r_X11_used_48 : RW M_X11_used 48 (.iload_n 1) 1 0 0 49 := ⟨rfl, rfl⟩
theorem r_X11_used_49 : RW M_X11_used 49 (.aload_n 0) 1 0 0 50 := ⟨rfl, rfl⟩
theorem r_X11_used_50 : RW M_X11_used 50 (.getfield 38) 3 11 15 53 := ⟨rfl, rfl⟩
theorem r_X11_used_53 : RW M_X11_used 53 (.iconst 3) 1 0 0 54 := ⟨rfl, rfl⟩
theorem r_X11_used_54 : RW M_X11_used 54 (.iload_n 3) 1 0 0 55 := ⟨rfl, rfl⟩
theorem r_X11_used_55 : RW M_X11_used 55 (.imul) 1 0 0 56 := ⟨rfl, rfl⟩
theorem r_X11_used_56 : RW M_X11_used 56 (.iconst 1) 1 0 0 57 := ⟨rfl, rfl⟩
theorem r_X11_used_57 : RW M_X11_used 57 (.iadd) 1 0 0 58 := ⟨rfl, rfl⟩
theorem r_X11_used_58 : RW M_X11_used 58 (.iaload) 1 0 0 59 := ⟨rfl, rfl⟩
theorem r_X11_used_59 : RW M_X11_used 59 (.ishr) 1 0 0 60 := ⟨rfl, rfl⟩
theorem r_X11_used_60 : RW M_X11_used 60 (.iand) 1 0 0 61 := ⟨rfl, rfl⟩
theorem r_X11_used_61 : RW M_X11_used 61 (.iconst 1) 1 0 0 62 := ⟨rfl, rfl⟩
theorem r_X11_used_62 : RW M_X11_used 62 (.iand) 1 0 0 63 := ⟨rfl, rfl⟩
theorem r_X11_used_63 : RW M_X11_used 63 (.iload_n 3) 1 0 0 64 := ⟨rfl, rfl⟩
theorem r_X11_used_64 : RW M_X11_used 64 (.ishl) 1 0 0 65 := ⟨rfl, rfl⟩
theorem r_X11_used_65 : RW M_X11_used 65 (.ior) 1 0 0 66 := ⟨rfl, rfl⟩
theorem r_X11_used_66 : RW M_X11_used 66 (.istore_n 2) 1 0 0 67 := ⟨rfl, rfl⟩
theorem r_X11_used_67 : RW M_X11_used 67 (.iinc 3 1) 3 0 0 70 := ⟨rfl, rfl⟩
theorem r_X11_used_70 : RW M_X11_used 70 (.goto (-41)) 3 29 0 73 := ⟨rfl, rfl⟩
theorem r_X11_used_73 : RW M_X11_used 73 (.iload_n 2) 1 0 0 74 := ⟨rfl, rfl⟩
theorem r_X11_used_74 : RW M_X11_used 74 (.ireturn) 1 0 0 75 := ⟨rfl, rfl⟩
theorem r_X11_when_0 : RW M_X11_when 0 (.aload_n 0) 1 0 0 1 := ⟨rfl, rfl⟩
theorem r_X11_when_1 : RW M_X11_when 1 (.iconst 0) 1 0 0 2 := ⟨rfl, rfl⟩
theorem r_X11_when_2 : RW M_X11_when 2 (.putfield 3) 3 11 0 5 := ⟨rfl, rfl⟩
theorem r_X11_when_5 : RW M_X11_when 5 (.aload_n 0) 1 0 0 6 := ⟨rfl, rfl⟩
theorem r_X11_when_6 : RW M_X11_when 6 (.iload_n 1) 1 0 0 7 := ⟨rfl, rfl⟩
theorem r_X11_when_7 : RW M_X11_when 7 (.iconst 0) 1 0 0 8 := ⟨rfl, rfl⟩
theorem r_X11_when_8 : RW M_X11_when 8 (.iconst 2) 1 0 0 9 := ⟨rfl, rfl⟩
theorem r_X11_when_9 : RW M_X11_when 9 (.invokestatic 392) 3 170 0 12 := ⟨rfl, rfl⟩
theorem r_X11_when_12 : RW M_X11_when 12 (.iconst 1) 1 0 0 13 := ⟨rfl, rfl⟩
theorem r_X11_when_13 : RW M_X11_when 13 (.iconst 1) 1 0 0 14 := ⟨rfl, rfl⟩
theorem r_X11_when_14 : RW M_X11_when 14 (.invokevirtual 210) 3 169 0 17 := ⟨rfl, rfl⟩
theorem r_X11_when_17 : RW M_X11_when 17 (.ifCond .ne 5) 3 22 0 20 := ⟨rfl, rfl⟩
theorem r_X11_when_20 : RW M_X11_when 20 (.iconst 0) 1 0 0 21 := ⟨rfl, rfl⟩
theorem r_X11_when_21 : RW M_X11_when 21 (.ireturn) 1 0 0 22 := ⟨rfl, rfl⟩
theorem r_X11_when_22 : RW M_X11_when 22 (.aload_n 0) 1 0 0 23 := ⟨rfl, rfl⟩
theorem r_X11_when_23 : RW M_X11_when 23 (.invokevirtual 322) 3 212 0 26 := ⟨rfl, rfl⟩
theorem r_X11_when_26 : RW M_X11_when 26 (.iconst 0) 1 0 0 27 := ⟨rfl, rfl⟩
theorem r_X11_when_27 : RW M_X11_when 27 (.istore_n 2) 1 0 0 28 := ⟨rfl, rfl⟩
theorem r_X11_when_28 : RW M_X11_when 28 (.iconst 0) 1 0 0 29 := ⟨rfl, rfl⟩
theorem r_X11_when_29 : RW M_X11_when 29 (.istore_n 3) 1 0 0 30 := ⟨rfl, rfl⟩
theorem r_X11_when_30 : RW M_X11_when 30 (.iload_n 3) 1 0 0 31 := ⟨rfl, rfl⟩
theorem r_X11_when_31 : RW M_X11_when 31 (.aload_n 0) 1 0 0 32 := ⟨rfl, rfl⟩
theorem r_X11_when_32 : RW M_X11_when 32 (.getfield 166) 3 11 22 35 := ⟨rfl, rfl⟩
theorem r_X11_when_35 : RW M_X11_when 35 (.if_icmp .ge 68) 3 103 0 38 := ⟨rfl, rfl⟩
theorem r_X11_when_38 : RW M_X11_when 38 (.iload_n 2) 1 0 0 39 := ⟨rfl, rfl⟩
theorem r_X11_when_39 : RW M_X11_when 39 (.aload_n 0) 1 0 0 40 := ⟨rfl, rfl⟩
theorem r_X11_when_40 : RW M_X11_when 40 (.getfield 74) 3 11 43 43 := ⟨rfl, rfl⟩
theorem r_X11_when_43 : RW M_X11_when 43 (.iconst 0) 1 0 0 44 := ⟨rfl, rfl⟩
theorem r_X11_when_44 : RW M_X11_when 44 (.iload_n 3) 1 0 0 45 := ⟨rfl, rfl⟩
theorem r_X11_when_45 : RW M_X11_when 45 (.iadd) 1 0 0 46 := ⟨rfl, rfl⟩
theorem r_X11_when_46 : RW M_X11_when 46 (.iaload) 1 0 0 47 := ⟨rfl, rfl⟩
theorem r_X11_when_47 : RW M_X11_when 47 (.aload_n 0) 1 0 0 48 := ⟨rfl, rfl⟩
theorem r_X11_when_48 : RW M_X11_when 48 (.getfield 74) 3 11 43 51 := ⟨rfl, rfl⟩
theorem r_X11_when_51 : RW M_X11_when 51 (.bipush 30) 2 0 0 53 := ⟨rfl, rfl⟩
theorem r_X11_when_53 : RW M_X11_when 53 (.iaload) 1 0 0 54 := ⟨rfl, rfl⟩
theorem r_X11_when_54 : RW M_X11_when 54 (.if_icmp .le 7) 3 61 0 57 := ⟨rfl, rfl⟩
theorem r_X11_when_57 : RW M_X11_when 57 (.iconst 0) 1 0 0 58 := ⟨rfl, rfl⟩
theorem r_X11_when_58 : RW M_X11_when 58 (.goto 26) 3 84 0 61 := ⟨rfl, rfl⟩
theorem r_X11_when_61 : RW M_X11_when 61 (.aload_n 0) 1 0 0 62 := ⟨rfl, rfl⟩
theorem r_X11_when_62 : RW M_X11_when 62 (.getfield 74) 3 11 43 65 := ⟨rfl, rfl⟩
theorem r_X11_when_65 : RW M_X11_when 65 (.iconst 0) 1 0 0 66 := ⟨rfl, rfl⟩
theorem r_X11_when_66 : RW M_X11_when 66 (.iload_n 3) 1 0 0 67 := ⟨rfl, rfl⟩
theorem r_X11_when_67 : RW M_X11_when 67 (.iadd) 1 0 0 68 := ⟨rfl, rfl⟩
theorem r_X11_when_68 : RW M_X11_when 68 (.iaload) 1 0 0 69 := ⟨rfl, rfl⟩
theorem r_X11_when_69 : RW M_X11_when 69 (.aload_n 0) 1 0 0 70 := ⟨rfl, rfl⟩
theorem r_X11_when_70 : RW M_X11_when 70 (.getfield 74) 3 11 43 73 := ⟨rfl, rfl⟩
theorem r_X11_when_73 : RW M_X11_when 73 (.bipush 30) 2 0 0 75 := ⟨rfl, rfl⟩
theorem r_X11_when_75 : RW M_X11_when 75 (.iaload) 1 0 0 76 := ⟨rfl, rfl⟩
theorem r_X11_when_76 : RW M_X11_when 76 (.if_icmp .ne 7) 3 83 0 79 := ⟨rfl, rfl⟩
theorem r_X11_when_79 : RW M_X11_when 79 (.iconst 1) 1 0 0 80 := ⟨rfl, rfl⟩
theorem r_X11_when_80 : RW M_X11_when 80 (.goto 4) 3 84 0 83 := ⟨rfl, rfl⟩
theorem r_X11_when_83 : RW M_X11_when 83 (.iconst 2) 1 0 0 84 := ⟨rfl, rfl⟩
theorem r_X11_when_84 : RW M_X11_when 84 (.iload_n 1) 1 0 0 85 := ⟨rfl, rfl⟩
theorem r_X11_when_85 : RW M_X11_when 85 (.if_icmp .ne 9) 3 94 0 88 := ⟨rfl, rfl⟩
theorem r_X11_when_88 : RW M_X11_when 88 (.iconst 1) 1 0 0 89 := ⟨rfl, rfl⟩
theorem r_X11_when_89 : RW M_X11_when 89 (.iload_n 3) 1 0 0 90 := ⟨rfl, rfl⟩
theorem r_X11_when_90 : RW M_X11_when 90 (.ishl) 1 0 0 91 := ⟨rfl, rfl⟩
theorem r_X11_when_91 : RW M_X11_when 91 (.goto 4) 3 95 0 94 := ⟨rfl, rfl⟩
theorem r_X11_when_94 : RW M_X11_when 94 (.iconst 0) 1 0 0 95 := ⟨rfl, rfl⟩
theorem r_X11_when_95 : RW M_X11_when 95 (.ior) 1 0 0 96 := ⟨rfl, rfl⟩
theorem r_X11_when_96 : RW M_X11_when 96 (.istore_n 2) 1 0 0 97 := ⟨rfl, rfl⟩
theorem r_X11_when_97 : RW M_X11_when 97 (.iinc 3 1) 3 0 0 100 := ⟨rfl, rfl⟩
theorem r_X11_when_100 : RW M_X11_when 100 (.goto (-70)) 3 30 0 103 := ⟨rfl, rfl⟩
theorem r_X11_when_103 : RW M_X11_when 103 (.iload_n 2) 1 0 0 104 := ⟨rfl, rfl⟩
theorem r_X11_when_104 : RW M_X11_when 104 (.ireturn) 1 0 0 105 := ⟨rfl, rfl⟩
theorem r_X11_would_0 : RW M_X11_would 0 (.aload_n 0) 1 0 0 1 := ⟨rfl, rfl⟩
theorem r_X11_would_1 : RW M_X11_would 1 (.iconst 0) 1 0 0 2 := ⟨rfl, rfl⟩
theorem r_X11_would_2 : RW M_X11_would 2 (.putfield 3) 3 11 0 5 := ⟨rfl, rfl⟩
theorem r_X11_would_5 : RW M_X11_would 5 (.aload_n 0) 1 0 0 6 := ⟨rfl, rfl⟩
theorem r_X11_would_6 : RW M_X11_would 6 (.iload_n 1) 1 0 0 7 := ⟨rfl, rfl⟩
theorem r_X11_would_7 : RW M_X11_would 7 (.iconst 1) 1 0 0 8 := ⟨rfl, rfl⟩
theorem r_X11_would_8 : RW M_X11_would 8 (.bipush 20) 2 0 0 10 := ⟨rfl, rfl⟩
theorem r_X11_would_10 : RW M_X11_would 10 (.invokestatic 392) 3 170 0 13 := ⟨rfl, rfl⟩
theorem r_X11_would_13 : RW M_X11_would 13 (.ifCond .eq 62) 3 75 0 16 := ⟨rfl, rfl⟩
theorem r_X11_would_16 : RW M_X11_would 16 (.iload_n 2) 1 0 0 17 := ⟨rfl, rfl⟩
theorem r_X11_would_17 : RW M_X11_would 17 (.iconst 0) 1 0 0 18 := ⟨rfl, rfl⟩
theorem r_X11_would_18 : RW M_X11_would 18 (.sipush 400) 3 0 0 21 := ⟨rfl, rfl⟩
theorem r_X11_would_21 : RW M_X11_would 21 (.invokestatic 392) 3 170 0 24 := ⟨rfl, rfl⟩
theorem r_X11_would_24 : RW M_X11_would 24 (.ifCond .eq 51) 3 75 0 27 := ⟨rfl, rfl⟩
theorem r_X11_would_27 : RW M_X11_would 27 (.iload_n 3) 1 0 0 28 := ⟨rfl, rfl⟩
theorem r_X11_would_28 : RW M_X11_would 28 (.iconst 0) 1 0 0 29 := ⟨rfl, rfl⟩
theorem r_X11_would_29 : RW M_X11_would 29 (.sipush 160) 3 0 0 32 := ⟨rfl, rfl⟩
theorem r_X11_would_32 : RW M_X11_would 32 (.invokestatic 392) 3 170 0 35 := ⟨rfl, rfl⟩
theorem r_X11_would_35 : RW M_X11_would 35 (.ifCond .eq 40) 3 75 0 38 := ⟨rfl, rfl⟩
theorem r_X11_would_38 : RW M_X11_would 38 (.iload 4) 2 0 0 40 := ⟨rfl, rfl⟩
theorem r_X11_would_40 : RW M_X11_would 40 (.iconst 0) 1 0 0 41 := ⟨rfl, rfl⟩
theorem r_X11_would_41 : RW M_X11_would 41 (.sipush 999) 3 0 0 44 := ⟨rfl, rfl⟩
theorem r_X11_would_44 : RW M_X11_would 44 (.invokestatic 392) 3 170 0 47 := ⟨rfl, rfl⟩
theorem r_X11_would_47 : RW M_X11_would 47 (.ifCond .eq 28) 3 75 0 50 := ⟨rfl, rfl⟩
theorem r_X11_would_50 : RW M_X11_would 50 (.iload 5) 2 0 0 52 := ⟨rfl, rfl⟩
theorem r_X11_would_52 : RW M_X11_would 52 (.iconst 0) 1 0 0 53 := ⟨rfl, rfl⟩
theorem r_X11_would_53 : RW M_X11_would 53 (.bipush 9) 2 0 0 55 := ⟨rfl, rfl⟩
theorem r_X11_would_55 : RW M_X11_would 55 (.invokestatic 392) 3 170 0 58 := ⟨rfl, rfl⟩
theorem r_X11_would_58 : RW M_X11_would 58 (.ifCond .eq 17) 3 75 0 61 := ⟨rfl, rfl⟩
theorem r_X11_would_61 : RW M_X11_would 61 (.iload 6) 2 0 0 63 := ⟨rfl, rfl⟩
theorem r_X11_would_63 : RW M_X11_would 63 (.iconst 0) 1 0 0 64 := ⟨rfl, rfl⟩
theorem r_X11_would_64 : RW M_X11_would 64 (.iconst 3) 1 0 0 65 := ⟨rfl, rfl⟩
theorem r_X11_would_65 : RW M_X11_would 65 (.invokestatic 392) 3 170 0 68 := ⟨rfl, rfl⟩
theorem r_X11_would_68 : RW M_X11_would 68 (.ifCond .eq 7) 3 75 0 71 := ⟨rfl, rfl⟩
theorem r_X11_would_71 : RW M_X11_would 71 (.iconst 1) 1 0 0 72 := ⟨rfl, rfl⟩
theorem r_X11_would_72 : RW M_X11_would 72 (.goto 4) 3 76 0 75 := ⟨rfl, rfl⟩
theorem r_X11_would_75 : RW M_X11_would 75 (.iconst 0) 1 0 0 76 := ⟨rfl, rfl⟩
theorem r_X11_would_76 : RW M_X11_would 76 (.iconst 1) 1 0 0 77 := ⟨rfl, rfl⟩
theorem r_X11_would_77 : RW M_X11_would 77 (.iconst 1) 1 0 0 78 := ⟨rfl, rfl⟩
theorem r_X11_would_78 : RW M_X11_would 78 (.invokevirtual 210) 3 169 0 81 := ⟨rfl, rfl⟩
theorem r_X11_would_81 : RW M_X11_would 81 (.ifCond .ne 5) 3 86 0 84 := ⟨rfl, rfl⟩
theorem r_X11_would_84 : RW M_X11_would 84 (.iconst 0) 1 0 0 85 := ⟨rfl, rfl⟩
theorem r_X11_would_85 : RW M_X11_would 85 (.ireturn) 1 0 0 86 := ⟨rfl, rfl⟩
theorem r_X11_would_86 : RW M_X11_would 86 (.aload_n 0) 1 0 0 87 := ⟨rfl, rfl⟩
theorem r_X11_would_87 : RW M_X11_would 87 (.iload_n 1) 1 0 0 88 := ⟨rfl, rfl⟩
theorem r_X11_would_88 : RW M_X11_would 88 (.iload_n 2) 1 0 0 89 := ⟨rfl, rfl⟩
theorem r_X11_would_89 : RW M_X11_would 89 (.iload_n 3) 1 0 0 90 := ⟨rfl, rfl⟩
theorem r_X11_would_90 : RW M_X11_would 90 (.iload 4) 2 0 0 92 := ⟨rfl, rfl⟩
theorem r_X11_would_92 : RW M_X11_would 92 (.iload 5) 2 0 0 94 := ⟨rfl, rfl⟩
theorem r_X11_would_94 : RW M_X11_would 94 (.iload 6) 2 0 0 96 := ⟨rfl, rfl⟩
theorem r_X11_would_96 : RW M_X11_would 96 (.invokevirtual 347) 3 216 0 99 := ⟨rfl, rfl⟩
theorem r_X11_would_99 : RW M_X11_would 99 (.ireturn) 1 0 0 100 := ⟨rfl, rfl⟩
theorem FR_mw {I I' : Nat → Nat → Int32} (fr_ : ∀ o, o ≠ 121 → o ≠ 122 → I' o = wr I 106 0 (nI 0) o) : FR I I' := ⟨fun j hj => by rw [fr_ 106 (by decide) (by decide)]; exact wr_ne (Or.inr (fun e => by subst e; exact absurd hj (by decide))), fun o ho hs => (fr_ o (fun e => by subst e; exact absurd hs (by decide)) (fun e => by subst e; exact absurd hs (by decide))).trans (wr_row ho)⟩
theorem FM_0 {I : Nat → Nat → Int32} : FM I (wr I 106 0 (nI 0)) := ⟨fun j hj => wr_ne (Or.inr hj), wr_same, fun o h1 _ _ _ => wr_row h1⟩
theorem m_isSayN1 {d : Nat} {I : Nat → Nat → Int32} {J : Nat → Nat → Int64} {κ : CT} (mc_ : MC κ I) (cb : CB κ) (h0 : I 106 0 = nI 0) {i : Nat} {c : Int32} (hi : i < κ.ns)  (hd : 2 ≤ d) : RV d 238 [.ref 106, .int (nI i), .int c] I J (nI 1) := by
  refine RV.in (d0 := 1) hd mt_238 (Nat.le_of_ble_eq_true rfl) (fun d' hd' => ?_)
  have bns := cb.ns; have bnb := cb.nb; have bnc := cb.nc; have bnr := cb.nr
  show EV none M_X11_isSaying d' 0 [(0, .ref 106), (1, .int (nI i)), (2, .int c)] [] (hp I J) _
  refine EV.l (lv' := [(0, _), (1, _), (2, _)]) r_X11_isSaying_0 rfl ?_
  refine EV.l (lv' := [(0, _), (1, _), (2, _)]) r_X11_isSaying_1 rfl ?_
  refine EV.o r_X11_isSaying_2 (icN (0) (v := 0)) ?_
  refine EV.l (lv' := [(0, _), (1, _), (2, _)]) r_X11_isSaying_3 rfl ?_
  refine EV.getV r_X11_isSaying_4 la_106 (mc_.ns) ?_
  refine EV.o r_X11_isSaying_7 (icN (1) (v := 1)) ?_
  refine EV.o r_X11_isSaying_8 (isubN) ?_
  refine EV.cv r_X11_isSaying_9 (aS3 mt_170) (m_wNNN (by omega) (by omega) (by omega) (by omega)) ?_
  refine EV.l (lv' := [(0, _), (1, _), (2, _)]) r_X11_isSaying_12 rfl ?_
  refine EV.o r_X11_isSaying_13 (icN (0) (v := 0)) ?_
  refine EV.cv r_X11_isSaying_14 (aV3 mt_169 la_106) (m_mayP (by omega) h0 (by omega)) ?_
  exact EV.rv r_X11_isSaying_17 (rfl)
theorem m_isSay0 {d : Nat} {I : Nat → Nat → Int32} {J : Nat → Nat → Int64} {κ : CT} (mc_ : MC κ I) (cb : CB κ) (h0 : I 106 0 = nI 0) {x : Int} (x1 : -2147483648 ≤ x) (x2 : x < 2147483648) {c : Nat} (hx : x < 0 ∨ (κ.ns : Int) ≤ x) (hc1 : 1 ≤ c) (hc2 : c < 3)  (hd : 2 ≤ d) : RI d 238 [.ref 106, .int (zI x), .int (nI c)] I J (fun v I' => v = nI 0 ∧ I' = wr (wr I 106 0 (nI c)) 107 0 (I 107 0 + nI 1)) := by
  refine RI.in (d0 := 1) hd mt_238 (Nat.le_of_ble_eq_true rfl) (fun d' hd' => ?_)
  have bns := cb.ns; have bnb := cb.nb; have bnc := cb.nc; have bnr := cb.nr
  show EV none M_X11_isSaying d' 0 [(0, .ref 106), (1, .int (zI x)), (2, .int (nI c))] [] (hp I J) _
  refine EV.l (lv' := [(0, _), (1, _), (2, _)]) r_X11_isSaying_0 rfl ?_
  refine EV.l (lv' := [(0, _), (1, _), (2, _)]) r_X11_isSaying_1 rfl ?_
  refine EV.o r_X11_isSaying_2 (icN (0) (v := 0)) ?_
  refine EV.l (lv' := [(0, _), (1, _), (2, _)]) r_X11_isSaying_3 rfl ?_
  refine EV.getV r_X11_isSaying_4 la_106 (mc_.ns) ?_
  refine EV.o r_X11_isSaying_7 (icN (1) (v := 1)) ?_
  refine EV.o r_X11_isSaying_8 (isubNZ) ?_
  refine EV.cv r_X11_isSaying_9 (aS3 mt_170) (m_wZNZ (by omega) (by omega) (by omega) (by omega) (by omega) (by omega)) ?_
  refine EV.l (lv' := [(0, _), (1, _), (2, _)]) r_X11_isSaying_12 rfl ?_
  refine EV.o r_X11_isSaying_13 (icN (0) (v := 0)) ?_
  refine EV.ci r_X11_isSaying_14 (aV3 mt_169 la_106) (m_may0P (by omega) h0 hc1 hc2 (by decide) (by omega)) (fun v I2 h2 => ?_)
  obtain ⟨e, fr_⟩ := h2
  subst e
  exact EV.ri r_X11_isSaying_17 (⟨rfl, fr_⟩)
theorem m_isBird1 {d : Nat} {I : Nat → Nat → Int32} {J : Nat → Nat → Int64} {κ : CT} (mc_ : MC κ I) (cb : CB κ) (h0 : I 106 0 = nI 0) {i : Nat} {c : Int32} (hi : i < κ.nb)  (hd : 2 ≤ d) : RV d 239 [.ref 106, .int (nI i), .int c] I J (nI 1) := by
  refine RV.in (d0 := 1) hd mt_239 (Nat.le_of_ble_eq_true rfl) (fun d' hd' => ?_)
  have bns := cb.ns; have bnb := cb.nb; have bnc := cb.nc; have bnr := cb.nr
  show EV none M_X11_isBird d' 0 [(0, .ref 106), (1, .int (nI i)), (2, .int c)] [] (hp I J) _
  refine EV.l (lv' := [(0, _), (1, _), (2, _)]) r_X11_isBird_0 rfl ?_
  refine EV.l (lv' := [(0, _), (1, _), (2, _)]) r_X11_isBird_1 rfl ?_
  refine EV.o r_X11_isBird_2 (icN (0) (v := 0)) ?_
  refine EV.l (lv' := [(0, _), (1, _), (2, _)]) r_X11_isBird_3 rfl ?_
  refine EV.getV r_X11_isBird_4 la_106 (mc_.nb) ?_
  refine EV.o r_X11_isBird_7 (icN (1) (v := 1)) ?_
  refine EV.o r_X11_isBird_8 (isubN) ?_
  refine EV.cv r_X11_isBird_9 (aS3 mt_170) (m_wNNN (by omega) (by omega) (by omega) (by omega)) ?_
  refine EV.l (lv' := [(0, _), (1, _), (2, _)]) r_X11_isBird_12 rfl ?_
  refine EV.o r_X11_isBird_13 (icN (0) (v := 0)) ?_
  refine EV.cv r_X11_isBird_14 (aV3 mt_169 la_106) (m_mayP (by omega) h0 (by omega)) ?_
  exact EV.rv r_X11_isBird_17 (rfl)
theorem m_isBird0 {d : Nat} {I : Nat → Nat → Int32} {J : Nat → Nat → Int64} {κ : CT} (mc_ : MC κ I) (cb : CB κ) (h0 : I 106 0 = nI 0) {x : Int} (x1 : -2147483648 ≤ x) (x2 : x < 2147483648) {c : Nat} (hx : x < 0 ∨ (κ.nb : Int) ≤ x) (hc1 : 1 ≤ c) (hc2 : c < 3)  (hd : 2 ≤ d) : RI d 239 [.ref 106, .int (zI x), .int (nI c)] I J (fun v I' => v = nI 0 ∧ I' = wr (wr I 106 0 (nI c)) 107 0 (I 107 0 + nI 1)) := by
  refine RI.in (d0 := 1) hd mt_239 (Nat.le_of_ble_eq_true rfl) (fun d' hd' => ?_)
  have bns := cb.ns; have bnb := cb.nb; have bnc := cb.nc; have bnr := cb.nr
  show EV none M_X11_isBird d' 0 [(0, .ref 106), (1, .int (zI x)), (2, .int (nI c))] [] (hp I J) _
  refine EV.l (lv' := [(0, _), (1, _), (2, _)]) r_X11_isBird_0 rfl ?_
  refine EV.l (lv' := [(0, _), (1, _), (2, _)]) r_X11_isBird_1 rfl ?_
  refine EV.o r_X11_isBird_2 (icN (0) (v := 0)) ?_
  refine EV.l (lv' := [(0, _), (1, _), (2, _)]) r_X11_isBird_3 rfl ?_
  refine EV.getV r_X11_isBird_4 la_106 (mc_.nb) ?_
  refine EV.o r_X11_isBird_7 (icN (1) (v := 1)) ?_
  refine EV.o r_X11_isBird_8 (isubNZ) ?_
  refine EV.cv r_X11_isBird_9 (aS3 mt_170) (m_wZNZ (by omega) (by omega) (by omega) (by omega) (by omega) (by omega)) ?_
  refine EV.l (lv' := [(0, _), (1, _), (2, _)]) r_X11_isBird_12 rfl ?_
  refine EV.o r_X11_isBird_13 (icN (0) (v := 0)) ?_
  refine EV.ci r_X11_isBird_14 (aV3 mt_169 la_106) (m_may0P (by omega) h0 hc1 hc2 (by decide) (by omega)) (fun v I2 h2 => ?_)
  obtain ⟨e, fr_⟩ := h2
  subst e
  exact EV.ri r_X11_isBird_17 (⟨rfl, fr_⟩)
theorem m_isCouns1 {d : Nat} {I : Nat → Nat → Int32} {J : Nat → Nat → Int64} {κ : CT} (mc_ : MC κ I) (cb : CB κ) (h0 : I 106 0 = nI 0) {i : Nat} {c : Int32} (hi : i < κ.nc)  (hd : 2 ≤ d) : RV d 240 [.ref 106, .int (nI i), .int c] I J (nI 1) := by
  refine RV.in (d0 := 1) hd mt_240 (Nat.le_of_ble_eq_true rfl) (fun d' hd' => ?_)
  have bns := cb.ns; have bnb := cb.nb; have bnc := cb.nc; have bnr := cb.nr
  show EV none M_X11_isCounsel d' 0 [(0, .ref 106), (1, .int (nI i)), (2, .int c)] [] (hp I J) _
  refine EV.l (lv' := [(0, _), (1, _), (2, _)]) r_X11_isCounsel_0 rfl ?_
  refine EV.l (lv' := [(0, _), (1, _), (2, _)]) r_X11_isCounsel_1 rfl ?_
  refine EV.o r_X11_isCounsel_2 (icN (0) (v := 0)) ?_
  refine EV.l (lv' := [(0, _), (1, _), (2, _)]) r_X11_isCounsel_3 rfl ?_
  refine EV.getV r_X11_isCounsel_4 la_106 (mc_.nc) ?_
  refine EV.o r_X11_isCounsel_7 (icN (1) (v := 1)) ?_
  refine EV.o r_X11_isCounsel_8 (isubN) ?_
  refine EV.cv r_X11_isCounsel_9 (aS3 mt_170) (m_wNNN (by omega) (by omega) (by omega) (by omega)) ?_
  refine EV.l (lv' := [(0, _), (1, _), (2, _)]) r_X11_isCounsel_12 rfl ?_
  refine EV.o r_X11_isCounsel_13 (icN (0) (v := 0)) ?_
  refine EV.cv r_X11_isCounsel_14 (aV3 mt_169 la_106) (m_mayP (by omega) h0 (by omega)) ?_
  exact EV.rv r_X11_isCounsel_17 (rfl)
theorem m_isCouns0 {d : Nat} {I : Nat → Nat → Int32} {J : Nat → Nat → Int64} {κ : CT} (mc_ : MC κ I) (cb : CB κ) (h0 : I 106 0 = nI 0) {x : Int} (x1 : -2147483648 ≤ x) (x2 : x < 2147483648) {c : Nat} (hx : x < 0 ∨ (κ.nc : Int) ≤ x) (hc1 : 1 ≤ c) (hc2 : c < 3)  (hd : 2 ≤ d) : RI d 240 [.ref 106, .int (zI x), .int (nI c)] I J (fun v I' => v = nI 0 ∧ I' = wr (wr I 106 0 (nI c)) 107 0 (I 107 0 + nI 1)) := by
  refine RI.in (d0 := 1) hd mt_240 (Nat.le_of_ble_eq_true rfl) (fun d' hd' => ?_)
  have bns := cb.ns; have bnb := cb.nb; have bnc := cb.nc; have bnr := cb.nr
  show EV none M_X11_isCounsel d' 0 [(0, .ref 106), (1, .int (zI x)), (2, .int (nI c))] [] (hp I J) _
  refine EV.l (lv' := [(0, _), (1, _), (2, _)]) r_X11_isCounsel_0 rfl ?_
  refine EV.l (lv' := [(0, _), (1, _), (2, _)]) r_X11_isCounsel_1 rfl ?_
  refine EV.o r_X11_isCounsel_2 (icN (0) (v := 0)) ?_
  refine EV.l (lv' := [(0, _), (1, _), (2, _)]) r_X11_isCounsel_3 rfl ?_
  refine EV.getV r_X11_isCounsel_4 la_106 (mc_.nc) ?_
  refine EV.o r_X11_isCounsel_7 (icN (1) (v := 1)) ?_
  refine EV.o r_X11_isCounsel_8 (isubNZ) ?_
  refine EV.cv r_X11_isCounsel_9 (aS3 mt_170) (m_wZNZ (by omega) (by omega) (by omega) (by omega) (by omega) (by omega)) ?_
  refine EV.l (lv' := [(0, _), (1, _), (2, _)]) r_X11_isCounsel_12 rfl ?_
  refine EV.o r_X11_isCounsel_13 (icN (0) (v := 0)) ?_
  refine EV.ci r_X11_isCounsel_14 (aV3 mt_169 la_106) (m_may0P (by omega) h0 hc1 hc2 (by decide) (by omega)) (fun v I2 h2 => ?_)
  obtain ⟨e, fr_⟩ := h2
  subst e
  exact EV.ri r_X11_isCounsel_17 (⟨rfl, fr_⟩)
theorem m_sayT {d : Nat} {I : Nat → Nat → Int32} {J : Nat → Nat → Int64} {κ : CT} (mc_ : MC κ I) (cb : CB κ) {x : Int} (x1 : -2147483648 ≤ x) (x2 : x < 2147483648) (hx : x < 0 ∨ (κ.ns : Int) ≤ x) {y : Int32}  (hd : 9 ≤ d) : RI d 241 [.ref 106, .int (zI x), .int y] I J (fun v I' => I' = refM I 1 0) := by
  refine RI.in (d0 := 8) hd mt_241 (Nat.le_of_ble_eq_true rfl) (fun d' hd' => ?_)
  have bns := cb.ns; have bnb := cb.nb; have bnc := cb.nc; have bnr := cb.nr
  have pn := Nat.two_pow_pos κ.ns; have qn := pow_ns cb; have pc := Nat.two_pow_pos κ.nc; have qc := pow_nc cb
  show EV none M_X11_saying d' 0 [(0, .ref 106), (1, .int (zI x)), (2, .int y)] [] (hp I J) _
  refine EV.l (lv' := [(0, _), (1, _), (2, _)]) r_X11_saying_0 rfl ?_
  refine EV.o r_X11_saying_1 (icN (0) (v := 0)) ?_
  refine EV.pI r_X11_saying_2 la_106 ?_
  refine EV.l (lv' := [(0, _), (1, _), (2, _)]) r_X11_saying_5 rfl ?_
  refine EV.l (lv' := [(0, _), (1, _), (2, _)]) r_X11_saying_6 rfl ?_
  refine EV.o r_X11_saying_7 (icN (1) (v := 1)) ?_
  refine EV.ci r_X11_saying_8 (aV2 mt_238 la_106) (m_isSay0 (wr0_mc mc_) cb wr_same (by omega) (by omega) (by omega) (by decide) (by decide) (by omega)) (fun v I2 h2 => ?_)
  obtain ⟨e, fr_⟩ := h2
  subst e
  refine EV.n0_eq r_X11_saying_11 (fun h11 => ?_) (fun h11 => ?_)
  · -- 11 t
    refine EV.o r_X11_saying_29 (icN (0) (v := 0)) ?_
    exact EV.ri r_X11_saying_30 (fr_)
  · omega
theorem m_birdT {d : Nat} {I : Nat → Nat → Int32} {J : Nat → Nat → Int64} {κ : CT} (mc_ : MC κ I) (cb : CB κ) {x : Int} (x1 : -2147483648 ≤ x) (x2 : x < 2147483648) (hx : x < 0 ∨ (κ.nb : Int) ≤ x) {y : Int32}  (hd : 9 ≤ d) : RI d 242 [.ref 106, .int (zI x), .int y] I J (fun v I' => I' = refM I 1 0) := by
  refine RI.in (d0 := 8) hd mt_242 (Nat.le_of_ble_eq_true rfl) (fun d' hd' => ?_)
  have bns := cb.ns; have bnb := cb.nb; have bnc := cb.nc; have bnr := cb.nr
  have pn := Nat.two_pow_pos κ.ns; have qn := pow_ns cb; have pc := Nat.two_pow_pos κ.nc; have qc := pow_nc cb
  show EV none M_X11_bird d' 0 [(0, .ref 106), (1, .int (zI x)), (2, .int y)] [] (hp I J) _
  refine EV.l (lv' := [(0, _), (1, _), (2, _)]) r_X11_bird_0 rfl ?_
  refine EV.o r_X11_bird_1 (icN (0) (v := 0)) ?_
  refine EV.pI r_X11_bird_2 la_106 ?_
  refine EV.l (lv' := [(0, _), (1, _), (2, _)]) r_X11_bird_5 rfl ?_
  refine EV.l (lv' := [(0, _), (1, _), (2, _)]) r_X11_bird_6 rfl ?_
  refine EV.o r_X11_bird_7 (icN (1) (v := 1)) ?_
  refine EV.ci r_X11_bird_8 (aV2 mt_239 la_106) (m_isBird0 (wr0_mc mc_) cb wr_same (by omega) (by omega) (by omega) (by decide) (by decide) (by omega)) (fun v I2 h2 => ?_)
  obtain ⟨e, fr_⟩ := h2
  subst e
  refine EV.n0_eq r_X11_bird_11 (fun h11 => ?_) (fun h11 => ?_)
  · -- 11 t
    refine EV.o r_X11_bird_29 (icN (0) (v := 0)) ?_
    exact EV.ri r_X11_bird_30 (fr_)
  · omega
theorem m_counselT {d : Nat} {I : Nat → Nat → Int32} {J : Nat → Nat → Int64} {κ : CT} (mc_ : MC κ I) (cb : CB κ) {x : Int} (x1 : -2147483648 ≤ x) (x2 : x < 2147483648) (hx : x < 0 ∨ (κ.nc : Int) ≤ x) {y : Int32}  (hd : 9 ≤ d) : RI d 243 [.ref 106, .int (zI x), .int y] I J (fun v I' => I' = refM I 1 0) := by
  refine RI.in (d0 := 8) hd mt_243 (Nat.le_of_ble_eq_true rfl) (fun d' hd' => ?_)
  have bns := cb.ns; have bnb := cb.nb; have bnc := cb.nc; have bnr := cb.nr
  have pn := Nat.two_pow_pos κ.ns; have qn := pow_ns cb; have pc := Nat.two_pow_pos κ.nc; have qc := pow_nc cb
  show EV none M_X11_counsel d' 0 [(0, .ref 106), (1, .int (zI x)), (2, .int y)] [] (hp I J) _
  refine EV.l (lv' := [(0, _), (1, _), (2, _)]) r_X11_counsel_0 rfl ?_
  refine EV.o r_X11_counsel_1 (icN (0) (v := 0)) ?_
  refine EV.pI r_X11_counsel_2 la_106 ?_
  refine EV.l (lv' := [(0, _), (1, _), (2, _)]) r_X11_counsel_5 rfl ?_
  refine EV.l (lv' := [(0, _), (1, _), (2, _)]) r_X11_counsel_6 rfl ?_
  refine EV.o r_X11_counsel_7 (icN (1) (v := 1)) ?_
  refine EV.ci r_X11_counsel_8 (aV2 mt_240 la_106) (m_isCouns0 (wr0_mc mc_) cb wr_same (by omega) (by omega) (by omega) (by decide) (by decide) (by omega)) (fun v I2 h2 => ?_)
  obtain ⟨e, fr_⟩ := h2
  subst e
  refine EV.n0_eq r_X11_counsel_11 (fun h11 => ?_) (fun h11 => ?_)
  · -- 11 t
    refine EV.o r_X11_counsel_29 (icN (0) (v := 0)) ?_
    exact EV.ri r_X11_counsel_30 (fr_)
  · omega
theorem m_leadersT {d : Nat} {I : Nat → Nat → Int32} {J : Nat → Nat → Int64} {κ : CT} (mc_ : MC κ I) (cb : CB κ) {x : Int} (x1 : -2147483648 ≤ x) (x2 : x < 2147483648) (hx : x < 0 ∨ (κ.nb : Int) ≤ x) {y : Int32}  (hd : 9 ≤ d) : RI d 269 [.ref 106, .int (zI x), .int y] I J (fun v I' => I' = refM I 1 0) := by
  refine RI.in (d0 := 8) hd mt_269 (Nat.le_of_ble_eq_true rfl) (fun d' hd' => ?_)
  have bns := cb.ns; have bnb := cb.nb; have bnc := cb.nc; have bnr := cb.nr
  have pn := Nat.two_pow_pos κ.ns; have qn := pow_ns cb; have pc := Nat.two_pow_pos κ.nc; have qc := pow_nc cb
  show EV none M_X11_leaders d' 0 [(0, .ref 106), (1, .int (zI x)), (2, .int y)] [] (hp I J) _
  refine EV.l (lv' := [(0, _), (1, _), (2, _)]) r_X11_leaders_0 rfl ?_
  refine EV.o r_X11_leaders_1 (icN (0) (v := 0)) ?_
  refine EV.pI r_X11_leaders_2 la_106 ?_
  refine EV.l (lv' := [(0, _), (1, _), (2, _)]) r_X11_leaders_5 rfl ?_
  refine EV.l (lv' := [(0, _), (1, _), (2, _)]) r_X11_leaders_6 rfl ?_
  refine EV.o r_X11_leaders_7 (icN (1) (v := 1)) ?_
  refine EV.ci r_X11_leaders_8 (aV2 mt_239 la_106) (m_isBird0 (wr0_mc mc_) cb wr_same (by omega) (by omega) (by omega) (by decide) (by decide) (by omega)) (fun v I2 h2 => ?_)
  obtain ⟨e, fr_⟩ := h2
  subst e
  refine EV.n0_eq r_X11_leaders_11 (fun h11 => ?_) (fun h11 => ?_)
  · -- 11 t
    refine EV.o r_X11_leaders_30 (icN (0) (v := 0)) ?_
    exact EV.ri r_X11_leaders_31 (fr_)
  · omega
theorem m_overT {d : Nat} {I : Nat → Nat → Int32} {J : Nat → Nat → Int64} {κ : CT} (mc_ : MC κ I) (cb : CB κ) {x : Int} (x1 : -2147483648 ≤ x) (x2 : x < 2147483648) (hx : x < 0 ∨ (κ.nb : Int) ≤ x)  (hd : 9 ≤ d) : RI d 271 [.ref 106, .int (zI x)] I J (fun v I' => I' = refM I 1 0) := by
  refine RI.in (d0 := 8) hd mt_271 (Nat.le_of_ble_eq_true rfl) (fun d' hd' => ?_)
  have bns := cb.ns; have bnb := cb.nb; have bnc := cb.nc; have bnr := cb.nr
  have pn := Nat.two_pow_pos κ.ns; have qn := pow_ns cb; have pc := Nat.two_pow_pos κ.nc; have qc := pow_nc cb
  show EV none M_X11_over d' 0 [(0, .ref 106), (1, .int (zI x))] [] (hp I J) _
  refine EV.l (lv' := [(0, _), (1, _)]) r_X11_over_0 rfl ?_
  refine EV.o r_X11_over_1 (icN (0) (v := 0)) ?_
  refine EV.pI r_X11_over_2 la_106 ?_
  refine EV.l (lv' := [(0, _), (1, _)]) r_X11_over_5 rfl ?_
  refine EV.l (lv' := [(0, _), (1, _)]) r_X11_over_6 rfl ?_
  refine EV.o r_X11_over_7 (icN (1) (v := 1)) ?_
  refine EV.ci r_X11_over_8 (aV2 mt_239 la_106) (m_isBird0 (wr0_mc mc_) cb wr_same (by omega) (by omega) (by omega) (by decide) (by decide) (by omega)) (fun v I2 h2 => ?_)
  obtain ⟨e, fr_⟩ := h2
  subst e
  refine EV.n0_ne r_X11_over_11 (fun h11 => ?_) (fun h11 => ?_)
  · omega
  · -- 11 f
    refine EV.o r_X11_over_14 (icN (0) (v := 0)) ?_
    exact EV.ri r_X11_over_15 (fr_)
theorem m_delayT {d : Nat} {I : Nat → Nat → Int32} {J : Nat → Nat → Int64} {κ : CT} (mc_ : MC κ I) (cb : CB κ) {x : Int} (x1 : -2147483648 ≤ x) (x2 : x < 2147483648) (hx : x < 0 ∨ (κ.ns : Int) ≤ x)  (hd : 9 ≤ d) : RI d 272 [.ref 106, .int (zI x)] I J (fun v I' => I' = refM I 1 0) := by
  refine RI.in (d0 := 8) hd mt_272 (Nat.le_of_ble_eq_true rfl) (fun d' hd' => ?_)
  have bns := cb.ns; have bnb := cb.nb; have bnc := cb.nc; have bnr := cb.nr
  have pn := Nat.two_pow_pos κ.ns; have qn := pow_ns cb; have pc := Nat.two_pow_pos κ.nc; have qc := pow_nc cb
  show EV none M_X11_delay d' 0 [(0, .ref 106), (1, .int (zI x))] [] (hp I J) _
  refine EV.l (lv' := [(0, _), (1, _)]) r_X11_delay_0 rfl ?_
  refine EV.o r_X11_delay_1 (icN (0) (v := 0)) ?_
  refine EV.pI r_X11_delay_2 la_106 ?_
  refine EV.l (lv' := [(0, _), (1, _)]) r_X11_delay_5 rfl ?_
  refine EV.l (lv' := [(0, _), (1, _)]) r_X11_delay_6 rfl ?_
  refine EV.o r_X11_delay_7 (icN (1) (v := 1)) ?_
  refine EV.ci r_X11_delay_8 (aV2 mt_238 la_106) (m_isSay0 (wr0_mc mc_) cb wr_same (by omega) (by omega) (by omega) (by decide) (by decide) (by omega)) (fun v I2 h2 => ?_)
  obtain ⟨e, fr_⟩ := h2
  subst e
  refine EV.n0_ne r_X11_delay_11 (fun h11 => ?_) (fun h11 => ?_)
  · omega
  · -- 11 f
    refine EV.o r_X11_delay_14 (icN (0) (v := 0)) ?_
    exact EV.ri r_X11_delay_15 (fr_)
theorem m_swingT {d : Nat} {I : Nat → Nat → Int32} {J : Nat → Nat → Int64} {κ : CT} (mc_ : MC κ I) (cb : CB κ) {x : Int} (x1 : -2147483648 ≤ x) (x2 : x < 2147483648) (hx : x < 0 ∨ (κ.ns : Int) ≤ x)  (hd : 9 ≤ d) : RI d 278 [.ref 106, .int (zI x)] I J (fun v I' => I' = refM I 1 0) := by
  refine RI.in (d0 := 8) hd mt_278 (Nat.le_of_ble_eq_true rfl) (fun d' hd' => ?_)
  have bns := cb.ns; have bnb := cb.nb; have bnc := cb.nc; have bnr := cb.nr
  have pn := Nat.two_pow_pos κ.ns; have qn := pow_ns cb; have pc := Nat.two_pow_pos κ.nc; have qc := pow_nc cb
  show EV none M_X11_swing d' 0 [(0, .ref 106), (1, .int (zI x))] [] (hp I J) _
  refine EV.l (lv' := [(0, _), (1, _)]) r_X11_swing_0 rfl ?_
  refine EV.o r_X11_swing_1 (icN (0) (v := 0)) ?_
  refine EV.pI r_X11_swing_2 la_106 ?_
  refine EV.l (lv' := [(0, _), (1, _)]) r_X11_swing_5 rfl ?_
  refine EV.l (lv' := [(0, _), (1, _)]) r_X11_swing_6 rfl ?_
  refine EV.o r_X11_swing_7 (icN (1) (v := 1)) ?_
  refine EV.ci r_X11_swing_8 (aV2 mt_238 la_106) (m_isSay0 (wr0_mc mc_) cb wr_same (by omega) (by omega) (by omega) (by decide) (by decide) (by omega)) (fun v I2 h2 => ?_)
  obtain ⟨e, fr_⟩ := h2
  subst e
  refine EV.n0_ne r_X11_swing_11 (fun h11 => ?_) (fun h11 => ?_)
  · omega
  · -- 11 f
    refine EV.o r_X11_swing_14 (icN (0) (v := 0)) ?_
    exact EV.ri r_X11_swing_15 (fr_)
theorem m_proofT {d : Nat} {I : Nat → Nat → Int32} {J : Nat → Nat → Int64} {κ : CT} (mc_ : MC κ I) (cb : CB κ) {x : Int} (x1 : -2147483648 ≤ x) (x2 : x < 2147483648) (hx : x < 0 ∨ (κ.ns : Int) ≤ x)  (hd : 9 ≤ d) : RI d 250 [.ref 106, .int (zI x)] I J (fun v I' => I' = refM I 1 0) := by
  refine RI.in (d0 := 8) hd mt_250 (Nat.le_of_ble_eq_true rfl) (fun d' hd' => ?_)
  have bns := cb.ns; have bnb := cb.nb; have bnc := cb.nc; have bnr := cb.nr
  have pn := Nat.two_pow_pos κ.ns; have qn := pow_ns cb; have pc := Nat.two_pow_pos κ.nc; have qc := pow_nc cb
  show EV none M_X11_proof d' 0 [(0, .ref 106), (1, .int (zI x))] [] (hp I J) _
  refine EV.l (lv' := [(0, _), (1, _)]) r_X11_proof_0 rfl ?_
  refine EV.o r_X11_proof_1 (icN (0) (v := 0)) ?_
  refine EV.pI r_X11_proof_2 la_106 ?_
  refine EV.l (lv' := [(0, _), (1, _)]) r_X11_proof_5 rfl ?_
  refine EV.l (lv' := [(0, _), (1, _)]) r_X11_proof_6 rfl ?_
  refine EV.o r_X11_proof_7 (icN (1) (v := 1)) ?_
  refine EV.ci r_X11_proof_8 (aV2 mt_238 la_106) (m_isSay0 (wr0_mc mc_) cb wr_same (by omega) (by omega) (by omega) (by decide) (by decide) (by omega)) (fun v I2 h2 => ?_)
  obtain ⟨e, fr_⟩ := h2
  subst e
  refine EV.n0_ne r_X11_proof_11 (fun h11 => ?_) (fun h11 => ?_)
  · omega
  · -- 11 f
    refine EV.o r_X11_proof_14 (icN (0) (v := 0)) ?_
    exact EV.ri r_X11_proof_15 (fr_)
theorem m_sayX {d : Nat} {I : Nat → Nat → Int32} {J : Nat → Nat → Int64} {κ : CT} (mc_ : MC κ I) (cb : CB κ) {i : Nat} (h : i < κ.ns) {y : Int} (y1 : -2147483648 ≤ y) (y2 : y < 2147483648) (hy : ¬ (0 ≤ y ∧ y ≤ 5))  (hd : 9 ≤ d) : RI d 241 [.ref 106, .int (nI i), .int (zI y)] I J (fun v I' => I' = refM I 2 1) := by
  refine RI.in (d0 := 8) hd mt_241 (Nat.le_of_ble_eq_true rfl) (fun d' hd' => ?_)
  have bns := cb.ns; have bnb := cb.nb; have bnc := cb.nc; have bnr := cb.nr
  have pn := Nat.two_pow_pos κ.ns; have qn := pow_ns cb; have pc := Nat.two_pow_pos κ.nc; have qc := pow_nc cb
  show EV none M_X11_saying d' 0 [(0, .ref 106), (1, .int (nI i)), (2, .int (zI y))] [] (hp I J) _
  refine EV.l (lv' := [(0, _), (1, _), (2, _)]) r_X11_saying_0 rfl ?_
  refine EV.o r_X11_saying_1 (icN (0) (v := 0)) ?_
  refine EV.pI r_X11_saying_2 la_106 ?_
  refine EV.l (lv' := [(0, _), (1, _), (2, _)]) r_X11_saying_5 rfl ?_
  refine EV.l (lv' := [(0, _), (1, _), (2, _)]) r_X11_saying_6 rfl ?_
  refine EV.o r_X11_saying_7 (icN (1) (v := 1)) ?_
  refine EV.cv r_X11_saying_8 (aV2 mt_238 la_106) (m_isSayN1 (wr0_mc mc_) cb wr_same (by omega) (by omega)) ?_
  refine EV.n0_eq r_X11_saying_11 (fun h11 => ?_) (fun h11 => ?_)
  · omega
  · -- 11 f
    refine EV.l (lv' := [(0, _), (1, _), (2, _)]) r_X11_saying_14 rfl ?_
    refine EV.l (lv' := [(0, _), (1, _), (2, _)]) r_X11_saying_15 rfl ?_
    refine EV.o r_X11_saying_16 (icN (0) (v := 0)) ?_
    refine EV.o r_X11_saying_17 (icN (5) (v := 5)) ?_
    refine EV.cv r_X11_saying_18 (aS3 mt_170) (m_wZNN (by omega) (by omega) (by omega) (by omega) (by omega)) ?_
    refine EV.o r_X11_saying_21 (icN (2) (v := 2)) ?_
    refine EV.o r_X11_saying_22 (icN (1) (v := 1)) ?_
    refine EV.ci r_X11_saying_23 (aV3 mt_169 la_106) (m_may0P (by omega) wr_same (by decide) (by decide) (by decide) (by omega)) (fun v I2 h2 => ?_)
    obtain ⟨e, fr_⟩ := h2
    subst e
    refine EV.n0_ne r_X11_saying_26 (fun h26 => ?_) (fun h26 => ?_)
    · omega
    · -- 26 f
      refine EV.o r_X11_saying_29 (icN (0) (v := 0)) ?_
      exact EV.ri r_X11_saying_30 (fr_)
theorem m_birdX {d : Nat} {I : Nat → Nat → Int32} {J : Nat → Nat → Int64} {κ : CT} (mc_ : MC κ I) (cb : CB κ) {i : Nat} (h : i < κ.nb) {y : Int} (y1 : -2147483648 ≤ y) (y2 : y < 2147483648) (hy : ¬ (0 ≤ y ∧ y ≤ 4))  (hd : 9 ≤ d) : RI d 242 [.ref 106, .int (nI i), .int (zI y)] I J (fun v I' => I' = refM I 2 1) := by
  refine RI.in (d0 := 8) hd mt_242 (Nat.le_of_ble_eq_true rfl) (fun d' hd' => ?_)
  have bns := cb.ns; have bnb := cb.nb; have bnc := cb.nc; have bnr := cb.nr
  have pn := Nat.two_pow_pos κ.ns; have qn := pow_ns cb; have pc := Nat.two_pow_pos κ.nc; have qc := pow_nc cb
  show EV none M_X11_bird d' 0 [(0, .ref 106), (1, .int (nI i)), (2, .int (zI y))] [] (hp I J) _
  refine EV.l (lv' := [(0, _), (1, _), (2, _)]) r_X11_bird_0 rfl ?_
  refine EV.o r_X11_bird_1 (icN (0) (v := 0)) ?_
  refine EV.pI r_X11_bird_2 la_106 ?_
  refine EV.l (lv' := [(0, _), (1, _), (2, _)]) r_X11_bird_5 rfl ?_
  refine EV.l (lv' := [(0, _), (1, _), (2, _)]) r_X11_bird_6 rfl ?_
  refine EV.o r_X11_bird_7 (icN (1) (v := 1)) ?_
  refine EV.cv r_X11_bird_8 (aV2 mt_239 la_106) (m_isBird1 (wr0_mc mc_) cb wr_same (by omega) (by omega)) ?_
  refine EV.n0_eq r_X11_bird_11 (fun h11 => ?_) (fun h11 => ?_)
  · omega
  · -- 11 f
    refine EV.l (lv' := [(0, _), (1, _), (2, _)]) r_X11_bird_14 rfl ?_
    refine EV.l (lv' := [(0, _), (1, _), (2, _)]) r_X11_bird_15 rfl ?_
    refine EV.o r_X11_bird_16 (icN (0) (v := 0)) ?_
    refine EV.o r_X11_bird_17 (icN (4) (v := 4)) ?_
    refine EV.cv r_X11_bird_18 (aS3 mt_170) (m_wZNN (by omega) (by omega) (by omega) (by omega) (by omega)) ?_
    refine EV.o r_X11_bird_21 (icN (2) (v := 2)) ?_
    refine EV.o r_X11_bird_22 (icN (1) (v := 1)) ?_
    refine EV.ci r_X11_bird_23 (aV3 mt_169 la_106) (m_may0P (by omega) wr_same (by decide) (by decide) (by decide) (by omega)) (fun v I2 h2 => ?_)
    obtain ⟨e, fr_⟩ := h2
    subst e
    refine EV.n0_ne r_X11_bird_26 (fun h26 => ?_) (fun h26 => ?_)
    · omega
    · -- 26 f
      refine EV.o r_X11_bird_29 (icN (0) (v := 0)) ?_
      exact EV.ri r_X11_bird_30 (fr_)
theorem m_counselX {d : Nat} {I : Nat → Nat → Int32} {J : Nat → Nat → Int64} {κ : CT} (mc_ : MC κ I) (cb : CB κ) {i : Nat} (h : i < κ.nc) {y : Int} (y1 : -2147483648 ≤ y) (y2 : y < 2147483648) (hy : ¬ (0 ≤ y ∧ y ≤ 1))  (hd : 9 ≤ d) : RI d 243 [.ref 106, .int (nI i), .int (zI y)] I J (fun v I' => I' = refM I 2 1) := by
  refine RI.in (d0 := 8) hd mt_243 (Nat.le_of_ble_eq_true rfl) (fun d' hd' => ?_)
  have bns := cb.ns; have bnb := cb.nb; have bnc := cb.nc; have bnr := cb.nr
  have pn := Nat.two_pow_pos κ.ns; have qn := pow_ns cb; have pc := Nat.two_pow_pos κ.nc; have qc := pow_nc cb
  show EV none M_X11_counsel d' 0 [(0, .ref 106), (1, .int (nI i)), (2, .int (zI y))] [] (hp I J) _
  refine EV.l (lv' := [(0, _), (1, _), (2, _)]) r_X11_counsel_0 rfl ?_
  refine EV.o r_X11_counsel_1 (icN (0) (v := 0)) ?_
  refine EV.pI r_X11_counsel_2 la_106 ?_
  refine EV.l (lv' := [(0, _), (1, _), (2, _)]) r_X11_counsel_5 rfl ?_
  refine EV.l (lv' := [(0, _), (1, _), (2, _)]) r_X11_counsel_6 rfl ?_
  refine EV.o r_X11_counsel_7 (icN (1) (v := 1)) ?_
  refine EV.cv r_X11_counsel_8 (aV2 mt_240 la_106) (m_isCouns1 (wr0_mc mc_) cb wr_same (by omega) (by omega)) ?_
  refine EV.n0_eq r_X11_counsel_11 (fun h11 => ?_) (fun h11 => ?_)
  · omega
  · -- 11 f
    refine EV.l (lv' := [(0, _), (1, _), (2, _)]) r_X11_counsel_14 rfl ?_
    refine EV.l (lv' := [(0, _), (1, _), (2, _)]) r_X11_counsel_15 rfl ?_
    refine EV.o r_X11_counsel_16 (icN (0) (v := 0)) ?_
    refine EV.o r_X11_counsel_17 (icN (1) (v := 1)) ?_
    refine EV.cv r_X11_counsel_18 (aS3 mt_170) (m_wZNN (by omega) (by omega) (by omega) (by omega) (by omega)) ?_
    refine EV.o r_X11_counsel_21 (icN (2) (v := 2)) ?_
    refine EV.o r_X11_counsel_22 (icN (1) (v := 1)) ?_
    refine EV.ci r_X11_counsel_23 (aV3 mt_169 la_106) (m_may0P (by omega) wr_same (by decide) (by decide) (by decide) (by omega)) (fun v I2 h2 => ?_)
    obtain ⟨e, fr_⟩ := h2
    subst e
    refine EV.n0_ne r_X11_counsel_26 (fun h26 => ?_) (fun h26 => ?_)
    · omega
    · -- 26 f
      refine EV.o r_X11_counsel_29 (icN (0) (v := 0)) ?_
      exact EV.ri r_X11_counsel_30 (fr_)
theorem m_leadersX {d : Nat} {I : Nat → Nat → Int32} {J : Nat → Nat → Int64} {κ : CT} (mc_ : MC κ I) (cb : CB κ) {i : Nat} (h : i < κ.nb) {y : Int} (y1 : -2147483648 ≤ y) (y2 : y < 2147483648) (hy : ¬ (1 ≤ y ∧ y ≤ 9))  (hd : 9 ≤ d) : RI d 269 [.ref 106, .int (nI i), .int (zI y)] I J (fun v I' => I' = refM I 2 1) := by
  refine RI.in (d0 := 8) hd mt_269 (Nat.le_of_ble_eq_true rfl) (fun d' hd' => ?_)
  have bns := cb.ns; have bnb := cb.nb; have bnc := cb.nc; have bnr := cb.nr
  have pn := Nat.two_pow_pos κ.ns; have qn := pow_ns cb; have pc := Nat.two_pow_pos κ.nc; have qc := pow_nc cb
  show EV none M_X11_leaders d' 0 [(0, .ref 106), (1, .int (nI i)), (2, .int (zI y))] [] (hp I J) _
  refine EV.l (lv' := [(0, _), (1, _), (2, _)]) r_X11_leaders_0 rfl ?_
  refine EV.o r_X11_leaders_1 (icN (0) (v := 0)) ?_
  refine EV.pI r_X11_leaders_2 la_106 ?_
  refine EV.l (lv' := [(0, _), (1, _), (2, _)]) r_X11_leaders_5 rfl ?_
  refine EV.l (lv' := [(0, _), (1, _), (2, _)]) r_X11_leaders_6 rfl ?_
  refine EV.o r_X11_leaders_7 (icN (1) (v := 1)) ?_
  refine EV.cv r_X11_leaders_8 (aV2 mt_239 la_106) (m_isBird1 (wr0_mc mc_) cb wr_same (by omega) (by omega)) ?_
  refine EV.n0_eq r_X11_leaders_11 (fun h11 => ?_) (fun h11 => ?_)
  · omega
  · -- 11 f
    refine EV.l (lv' := [(0, _), (1, _), (2, _)]) r_X11_leaders_14 rfl ?_
    refine EV.l (lv' := [(0, _), (1, _), (2, _)]) r_X11_leaders_15 rfl ?_
    refine EV.o r_X11_leaders_16 (icN (1) (v := 1)) ?_
    refine EV.o r_X11_leaders_17 (bpN (9) 9) ?_
    refine EV.cv r_X11_leaders_19 (aS3 mt_170) (m_wZNN (by omega) (by omega) (by omega) (by omega) (by omega)) ?_
    refine EV.o r_X11_leaders_22 (icN (2) (v := 2)) ?_
    refine EV.o r_X11_leaders_23 (icN (1) (v := 1)) ?_
    refine EV.ci r_X11_leaders_24 (aV3 mt_169 la_106) (m_may0P (by omega) wr_same (by decide) (by decide) (by decide) (by omega)) (fun v I2 h2 => ?_)
    obtain ⟨e, fr_⟩ := h2
    subst e
    refine EV.n0_ne r_X11_leaders_27 (fun h27 => ?_) (fun h27 => ?_)
    · omega
    · -- 27 f
      refine EV.o r_X11_leaders_30 (icN (0) (v := 0)) ?_
      exact EV.ri r_X11_leaders_31 (fr_)
theorem m_tellX {d : Nat} {I : Nat → Nat → Int32} {J : Nat → Nat → Int64} {κ : CT} (mc_ : MC κ I) (cb : CB κ) {y : Int} (y1 : -2147483648 ≤ y) (y2 : y < 2147483648) (hy : ¬ (0 ≤ y ∧ y ≤ 11))  (hd : 9 ≤ d) : RI d 236 [.ref 106, .int (zI y)] I J (fun v I' => I' = refM I 1 1) := by
  refine RI.in (d0 := 8) hd mt_236 (Nat.le_of_ble_eq_true rfl) (fun d' hd' => ?_)
  have bns := cb.ns; have bnb := cb.nb; have bnc := cb.nc; have bnr := cb.nr
  have pn := Nat.two_pow_pos κ.ns; have qn := pow_ns cb; have pc := Nat.two_pow_pos κ.nc; have qc := pow_nc cb
  show EV none M_X11_told d' 0 [(0, .ref 106), (1, .int (zI y))] [] (hp I J) _
  refine EV.l (lv' := [(0, _), (1, _)]) r_X11_told_0 rfl ?_
  refine EV.o r_X11_told_1 (icN (0) (v := 0)) ?_
  refine EV.pI r_X11_told_2 la_106 ?_
  refine EV.l (lv' := [(0, _), (1, _)]) r_X11_told_5 rfl ?_
  refine EV.l (lv' := [(0, _), (1, _)]) r_X11_told_6 rfl ?_
  refine EV.o r_X11_told_7 (icN (0) (v := 0)) ?_
  refine EV.o r_X11_told_8 (bpN (11) 11) ?_
  refine EV.cv r_X11_told_10 (aS3 mt_170) (m_wZNN (by omega) (by omega) (by omega) (by omega) (by omega)) ?_
  refine EV.o r_X11_told_13 (icN (1) (v := 1)) ?_
  refine EV.o r_X11_told_14 (icN (1) (v := 1)) ?_
  refine EV.ci r_X11_told_15 (aV3 mt_169 la_106) (m_may0P (by omega) wr_same (by decide) (by decide) (by decide) (by omega)) (fun v I2 h2 => ?_)
  obtain ⟨e, fr_⟩ := h2
  subst e
  refine EV.n0_ne r_X11_told_18 (fun h18 => ?_) (fun h18 => ?_)
  · omega
  · -- 18 f
    refine EV.o r_X11_told_21 (icN (0) (v := 0)) ?_
    exact EV.ri r_X11_told_22 (fr_)
theorem m_lossX {d : Nat} {I : Nat → Nat → Int32} {J : Nat → Nat → Int64} {κ : CT} (mc_ : MC κ I) (cb : CB κ) {y : Int} (y1 : -2147483648 ≤ y) (y2 : y < 2147483648) (hy : ¬ (0 ≤ y ∧ y ≤ 1))  (hd : 9 ≤ d) : RI d 266 [.ref 106, .int (zI y)] I J (fun v I' => I' = refM I 1 1) := by
  refine RI.in (d0 := 8) hd mt_266 (Nat.le_of_ble_eq_true rfl) (fun d' hd' => ?_)
  have bns := cb.ns; have bnb := cb.nb; have bnc := cb.nc; have bnr := cb.nr
  have pn := Nat.two_pow_pos κ.ns; have qn := pow_ns cb; have pc := Nat.two_pow_pos κ.nc; have qc := pow_nc cb
  show EV none M_X11_loss d' 0 [(0, .ref 106), (1, .int (zI y))] [] (hp I J) _
  refine EV.l (lv' := [(0, _), (1, _)]) r_X11_loss_0 rfl ?_
  refine EV.o r_X11_loss_1 (icN (0) (v := 0)) ?_
  refine EV.pI r_X11_loss_2 la_106 ?_
  refine EV.l (lv' := [(0, _), (1, _)]) r_X11_loss_5 rfl ?_
  refine EV.l (lv' := [(0, _), (1, _)]) r_X11_loss_6 rfl ?_
  refine EV.o r_X11_loss_7 (icN (0) (v := 0)) ?_
  refine EV.o r_X11_loss_8 (icN (1) (v := 1)) ?_
  refine EV.cv r_X11_loss_9 (aS3 mt_170) (m_wZNN (by omega) (by omega) (by omega) (by omega) (by omega)) ?_
  refine EV.o r_X11_loss_12 (icN (1) (v := 1)) ?_
  refine EV.o r_X11_loss_13 (icN (1) (v := 1)) ?_
  refine EV.ci r_X11_loss_14 (aV3 mt_169 la_106) (m_may0P (by omega) wr_same (by decide) (by decide) (by decide) (by omega)) (fun v I2 h2 => ?_)
  obtain ⟨e, fr_⟩ := h2
  subst e
  refine EV.n0_ne r_X11_loss_17 (fun h17 => ?_) (fun h17 => ?_)
  · omega
  · -- 17 f
    refine EV.o r_X11_loss_20 (icN (0) (v := 0)) ?_
    exact EV.ri r_X11_loss_21 (fr_)
theorem m_nextX {d : Nat} {I : Nat → Nat → Int32} {J : Nat → Nat → Int64} {κ : CT} (mc_ : MC κ I) (cb : CB κ) {y : Int} (y1 : -2147483648 ≤ y) (y2 : y < 2147483648) (hy : ¬ (0 ≤ y ∧ y ≤ 1))  (hd : 9 ≤ d) : RI d 267 [.ref 106, .int (zI y)] I J (fun v I' => I' = refM I 1 1) := by
  refine RI.in (d0 := 8) hd mt_267 (Nat.le_of_ble_eq_true rfl) (fun d' hd' => ?_)
  have bns := cb.ns; have bnb := cb.nb; have bnc := cb.nc; have bnr := cb.nr
  have pn := Nat.two_pow_pos κ.ns; have qn := pow_ns cb; have pc := Nat.two_pow_pos κ.nc; have qc := pow_nc cb
  show EV none M_X11_next d' 0 [(0, .ref 106), (1, .int (zI y))] [] (hp I J) _
  refine EV.l (lv' := [(0, _), (1, _)]) r_X11_next_0 rfl ?_
  refine EV.o r_X11_next_1 (icN (0) (v := 0)) ?_
  refine EV.pI r_X11_next_2 la_106 ?_
  refine EV.l (lv' := [(0, _), (1, _)]) r_X11_next_5 rfl ?_
  refine EV.l (lv' := [(0, _), (1, _)]) r_X11_next_6 rfl ?_
  refine EV.o r_X11_next_7 (icN (0) (v := 0)) ?_
  refine EV.o r_X11_next_8 (icN (1) (v := 1)) ?_
  refine EV.cv r_X11_next_9 (aS3 mt_170) (m_wZNN (by omega) (by omega) (by omega) (by omega) (by omega)) ?_
  refine EV.o r_X11_next_12 (icN (1) (v := 1)) ?_
  refine EV.o r_X11_next_13 (icN (1) (v := 1)) ?_
  refine EV.ci r_X11_next_14 (aV3 mt_169 la_106) (m_may0P (by omega) wr_same (by decide) (by decide) (by decide) (by omega)) (fun v I2 h2 => ?_)
  obtain ⟨e, fr_⟩ := h2
  subst e
  refine EV.n0_ne r_X11_next_17 (fun h17 => ?_) (fun h17 => ?_)
  · omega
  · -- 17 f
    refine EV.o r_X11_next_20 (icN (0) (v := 0)) ?_
    exact EV.ri r_X11_next_21 (fr_)
theorem m_whenX {d : Nat} {I : Nat → Nat → Int32} {J : Nat → Nat → Int64} {κ : CT} (mc_ : MC κ I) (cb : CB κ) {y : Int} (y1 : -2147483648 ≤ y) (y2 : y < 2147483648) (hy : ¬ (0 ≤ y ∧ y ≤ 2))  (hd : 9 ≤ d) : RI d 279 [.ref 106, .int (zI y)] I J (fun v I' => I' = refM I 1 1) := by
  refine RI.in (d0 := 8) hd mt_279 (Nat.le_of_ble_eq_true rfl) (fun d' hd' => ?_)
  have bns := cb.ns; have bnb := cb.nb; have bnc := cb.nc; have bnr := cb.nr
  have pn := Nat.two_pow_pos κ.ns; have qn := pow_ns cb; have pc := Nat.two_pow_pos κ.nc; have qc := pow_nc cb
  show EV none M_X11_when d' 0 [(0, .ref 106), (1, .int (zI y))] [] (hp I J) _
  refine EV.l (lv' := [(0, _), (1, _)]) r_X11_when_0 rfl ?_
  refine EV.o r_X11_when_1 (icN (0) (v := 0)) ?_
  refine EV.pI r_X11_when_2 la_106 ?_
  refine EV.l (lv' := [(0, _), (1, _)]) r_X11_when_5 rfl ?_
  refine EV.l (lv' := [(0, _), (1, _)]) r_X11_when_6 rfl ?_
  refine EV.o r_X11_when_7 (icN (0) (v := 0)) ?_
  refine EV.o r_X11_when_8 (icN (2) (v := 2)) ?_
  refine EV.cv r_X11_when_9 (aS3 mt_170) (m_wZNN (by omega) (by omega) (by omega) (by omega) (by omega)) ?_
  refine EV.o r_X11_when_12 (icN (1) (v := 1)) ?_
  refine EV.o r_X11_when_13 (icN (1) (v := 1)) ?_
  refine EV.ci r_X11_when_14 (aV3 mt_169 la_106) (m_may0P (by omega) wr_same (by decide) (by decide) (by decide) (by omega)) (fun v I2 h2 => ?_)
  obtain ⟨e, fr_⟩ := h2
  subst e
  refine EV.n0_ne r_X11_when_17 (fun h17 => ?_) (fun h17 => ?_)
  · omega
  · -- 17 f
    refine EV.o r_X11_when_20 (icN (0) (v := 0)) ?_
    exact EV.ri r_X11_when_21 (fr_)
theorem m_fitsX {d : Nat} {I : Nat → Nat → Int32} {J : Nat → Nat → Int64} {κ : CT} (mc_ : MC κ I) (cb : CB κ) {y : Int} (y1 : -2147483648 ≤ y) (y2 : y < 2147483648) (hy : ¬ (0 ≤ y ∧ y ≤ 1))  (hd : 9 ≤ d) : RI d 254 [.ref 106, .int (zI y)] I J (fun v I' => I' = refM I 1 1) := by
  refine RI.in (d0 := 8) hd mt_254 (Nat.le_of_ble_eq_true rfl) (fun d' hd' => ?_)
  have bns := cb.ns; have bnb := cb.nb; have bnc := cb.nc; have bnr := cb.nr
  have pn := Nat.two_pow_pos κ.ns; have qn := pow_ns cb; have pc := Nat.two_pow_pos κ.nc; have qc := pow_nc cb
  show EV none M_X11_fits d' 0 [(0, .ref 106), (1, .int (zI y))] [] (hp I J) _
  refine EV.l (lv' := [(0, _), (1, _)]) r_X11_fits_0 rfl ?_
  refine EV.o r_X11_fits_1 (icN (0) (v := 0)) ?_
  refine EV.pI r_X11_fits_2 la_106 ?_
  refine EV.l (lv' := [(0, _), (1, _)]) r_X11_fits_5 rfl ?_
  refine EV.l (lv' := [(0, _), (1, _)]) r_X11_fits_6 rfl ?_
  refine EV.o r_X11_fits_7 (icN (0) (v := 0)) ?_
  refine EV.o r_X11_fits_8 (icN (1) (v := 1)) ?_
  refine EV.cv r_X11_fits_9 (aS3 mt_170) (m_wZNN (by omega) (by omega) (by omega) (by omega) (by omega)) ?_
  refine EV.o r_X11_fits_12 (icN (1) (v := 1)) ?_
  refine EV.o r_X11_fits_13 (icN (1) (v := 1)) ?_
  refine EV.ci r_X11_fits_14 (aV3 mt_169 la_106) (m_may0P (by omega) wr_same (by decide) (by decide) (by decide) (by omega)) (fun v I2 h2 => ?_)
  obtain ⟨e, fr_⟩ := h2
  subst e
  refine EV.n0_ne r_X11_fits_17 (fun h17 => ?_) (fun h17 => ?_)
  · omega
  · -- 17 f
    refine EV.o r_X11_fits_20 (icN (0) (v := 0)) ?_
    exact EV.ri r_X11_fits_21 (fr_)
theorem m_lookX {d : Nat} {I : Nat → Nat → Int32} {J : Nat → Nat → Int64} {κ : CT} (mc_ : MC κ I) (cb : CB κ) {y : Int} (y1 : -2147483648 ≤ y) (y2 : y < 2147483648) (hy : ¬ (0 ≤ y ∧ y ≤ 1))  (hd : 9 ≤ d) : RI d 255 [.ref 106, .int (zI y)] I J (fun v I' => I' = refM I 1 1) := by
  refine RI.in (d0 := 8) hd mt_255 (Nat.le_of_ble_eq_true rfl) (fun d' hd' => ?_)
  have bns := cb.ns; have bnb := cb.nb; have bnc := cb.nc; have bnr := cb.nr
  have pn := Nat.two_pow_pos κ.ns; have qn := pow_ns cb; have pc := Nat.two_pow_pos κ.nc; have qc := pow_nc cb
  show EV none M_X11_look d' 0 [(0, .ref 106), (1, .int (zI y))] [] (hp I J) _
  refine EV.l (lv' := [(0, _), (1, _)]) r_X11_look_0 rfl ?_
  refine EV.o r_X11_look_1 (icN (0) (v := 0)) ?_
  refine EV.pI r_X11_look_2 la_106 ?_
  refine EV.l (lv' := [(0, _), (1, _)]) r_X11_look_5 rfl ?_
  refine EV.l (lv' := [(0, _), (1, _)]) r_X11_look_6 rfl ?_
  refine EV.o r_X11_look_7 (icN (0) (v := 0)) ?_
  refine EV.o r_X11_look_8 (icN (1) (v := 1)) ?_
  refine EV.cv r_X11_look_9 (aS3 mt_170) (m_wZNN (by omega) (by omega) (by omega) (by omega) (by omega)) ?_
  refine EV.o r_X11_look_12 (icN (1) (v := 1)) ?_
  refine EV.o r_X11_look_13 (icN (1) (v := 1)) ?_
  refine EV.ci r_X11_look_14 (aV3 mt_169 la_106) (m_may0P (by omega) wr_same (by decide) (by decide) (by decide) (by omega)) (fun v I2 h2 => ?_)
  obtain ⟨e, fr_⟩ := h2
  subst e
  refine EV.n0_ne r_X11_look_17 (fun h17 => ?_) (fun h17 => ?_)
  · omega
  · -- 17 f
    refine EV.o r_X11_look_20 (icN (0) (v := 0)) ?_
    exact EV.ri r_X11_look_21 (fr_)
theorem m_crowdX {d : Nat} {I : Nat → Nat → Int32} {J : Nat → Nat → Int64} {κ : CT} (mc_ : MC κ I) (cb : CB κ) {y : Int} (y1 : -2147483648 ≤ y) (y2 : y < 2147483648) (hy : ¬ (0 ≤ y ∧ y ≤ 1))  (hd : 9 ≤ d) : RI d 277 [.ref 106, .int (zI y)] I J (fun v I' => I' = refM I 1 1) := by
  refine RI.in (d0 := 8) hd mt_277 (Nat.le_of_ble_eq_true rfl) (fun d' hd' => ?_)
  have bns := cb.ns; have bnb := cb.nb; have bnc := cb.nc; have bnr := cb.nr
  have pn := Nat.two_pow_pos κ.ns; have qn := pow_ns cb; have pc := Nat.two_pow_pos κ.nc; have qc := pow_nc cb
  show EV none M_X11_crowd d' 0 [(0, .ref 106), (1, .int (zI y))] [] (hp I J) _
  refine EV.l (lv' := [(0, _), (1, _)]) r_X11_crowd_0 rfl ?_
  refine EV.o r_X11_crowd_1 (icN (0) (v := 0)) ?_
  refine EV.pI r_X11_crowd_2 la_106 ?_
  refine EV.l (lv' := [(0, _), (1, _)]) r_X11_crowd_5 rfl ?_
  refine EV.l (lv' := [(0, _), (1, _)]) r_X11_crowd_6 rfl ?_
  refine EV.o r_X11_crowd_7 (icN (0) (v := 0)) ?_
  refine EV.o r_X11_crowd_8 (icN (1) (v := 1)) ?_
  refine EV.cv r_X11_crowd_9 (aS3 mt_170) (m_wZNN (by omega) (by omega) (by omega) (by omega) (by omega)) ?_
  refine EV.o r_X11_crowd_12 (icN (1) (v := 1)) ?_
  refine EV.o r_X11_crowd_13 (icN (1) (v := 1)) ?_
  refine EV.ci r_X11_crowd_14 (aV3 mt_169 la_106) (m_may0P (by omega) wr_same (by decide) (by decide) (by decide) (by omega)) (fun v I2 h2 => ?_)
  obtain ⟨e, fr_⟩ := h2
  subst e
  refine EV.n0_ne r_X11_crowd_17 (fun h17 => ?_) (fun h17 => ?_)
  · omega
  · -- 17 f
    refine EV.o r_X11_crowd_20 (icN (0) (v := 0)) ?_
    exact EV.ri r_X11_crowd_21 (fr_)
theorem m_atX {d : Nat} {I : Nat → Nat → Int32} {J : Nat → Nat → Int64} {κ : CT} (mc_ : MC κ I) (cb : CB κ) {x : Int} (x1 : -2147483648 ≤ x) (x2 : x < 2147483648) {y : Int} (y1 : -2147483648 ≤ y) (y2 : y < 2147483648) (hy : ¬ (0 ≤ x ∧ x ≤ 499 ∧ 0 ≤ y ∧ y ≤ 2))  (hd : 9 ≤ d) : RI d 245 [.ref 106, .int (zI x), .int (zI y)] I J (fun v I' => I' = refM I 1 1) := by
  refine RI.in (d0 := 8) hd mt_245 (Nat.le_of_ble_eq_true rfl) (fun d' hd' => ?_)
  have bns := cb.ns; have bnb := cb.nb; have bnc := cb.nc; have bnr := cb.nr
  have pn := Nat.two_pow_pos κ.ns; have qn := pow_ns cb; have pc := Nat.two_pow_pos κ.nc; have qc := pow_nc cb
  show EV none M_X11_at d' 0 [(0, .ref 106), (1, .int (zI x)), (2, .int (zI y))] [] (hp I J) _
  refine EV.l (lv' := [(0, _), (1, _), (2, _)]) r_X11_at_0 rfl ?_
  refine EV.o r_X11_at_1 (icN (0) (v := 0)) ?_
  refine EV.pI r_X11_at_2 la_106 ?_
  refine EV.l (lv' := [(0, _), (1, _), (2, _)]) r_X11_at_5 rfl ?_
  refine EV.l (lv' := [(0, _), (1, _), (2, _)]) r_X11_at_6 rfl ?_
  refine EV.o r_X11_at_7 (icN (0) (v := 0)) ?_
  refine EV.o r_X11_at_8 (spN (499) 499) ?_
  refine EV.cv r_X11_at_11 (aS3 mt_170) (m_wZNN (by omega) (by omega) (by omega) (by omega) (by omega)) ?_
  refine EV.p0_eq r_X11_at_14 (fun h14 => ?_) (fun h14 => ?_)
  · -- 14 t
    refine EV.o r_X11_at_30 (icN (0) (v := 0)) ?_
    refine EV.o r_X11_at_31 (icN (1) (v := 1)) ?_
    refine EV.o r_X11_at_32 (icN (1) (v := 1)) ?_
    refine EV.ci r_X11_at_33 (aV3 mt_169 la_106) (m_may0 wr_same (by decide) (by decide) (by decide) (by omega)) (fun v I2 h2 => ?_)
    obtain ⟨e, fr_⟩ := h2
    subst e
    refine EV.n0_ne r_X11_at_36 (fun h36 => ?_) (fun h36 => ?_)
    · omega
    · -- 36 f
      refine EV.o r_X11_at_39 (icN (0) (v := 0)) ?_
      exact EV.ri r_X11_at_40 (fr_)
  · -- 14 f
    refine EV.l (lv' := [(0, _), (1, _), (2, _)]) r_X11_at_17 rfl ?_
    refine EV.o r_X11_at_18 (icN (0) (v := 0)) ?_
    refine EV.o r_X11_at_19 (icN (2) (v := 2)) ?_
    refine EV.cv r_X11_at_20 (aS3 mt_170) (m_wZNN (by omega) (by omega) (by omega) (by omega) (by omega)) ?_
    refine EV.p0_eq r_X11_at_23 (fun h23 => ?_) (fun h23 => ?_)
    · -- 23 t
      refine EV.o r_X11_at_30 (icN (0) (v := 0)) ?_
      refine EV.o r_X11_at_31 (icN (1) (v := 1)) ?_
      refine EV.o r_X11_at_32 (icN (1) (v := 1)) ?_
      refine EV.ci r_X11_at_33 (aV3 mt_169 la_106) (m_may0 wr_same (by decide) (by decide) (by decide) (by omega)) (fun v I2 h2 => ?_)
      obtain ⟨e, fr_⟩ := h2
      subst e
      refine EV.n0_ne r_X11_at_36 (fun h36 => ?_) (fun h36 => ?_)
      · omega
      · -- 36 f
        refine EV.o r_X11_at_39 (icN (0) (v := 0)) ?_
        exact EV.ri r_X11_at_40 (fr_)
    · -- 23 f
      refine EV.o r_X11_at_26 (icN (1) (v := 1)) ?_
      refine EV.g r_X11_at_27 ?_
      refine EV.o r_X11_at_31 (icN (1) (v := 1)) ?_
      refine EV.o r_X11_at_32 (icN (1) (v := 1)) ?_
      omega
