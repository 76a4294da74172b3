/-! What the class reads of the Court. -/
def usedB (κ : CT) (x r : Nat) : Bool := x.testBit (κ.r1 r) && x.testBit (κ.r2 r)
def rnd (κ : CT) (x : Nat) : Nat → Nat
  | 0 => x
  | r + 1 => if usedB κ (rnd κ x r) r = true then rnd κ x r ||| 2 ^ κ.r3 r else rnd κ x r
theorem rnd_t {κ : CT} {x r : Nat} (h : usedB κ (rnd κ x r) r = true) : rnd κ x r ||| 2 ^ κ.r3 r = rnd κ x (r + 1) := (if_pos h).symm
theorem rnd_f {κ : CT} {x r : Nat} (h : usedB κ (rnd κ x r) r = false) : rnd κ x r = rnd κ x (r + 1) := (if_neg (by rw [h]; decide)).symm
def it (κ : CT) (x : Nat) : Nat → Nat
  | 0 => x
  | p + 1 => rnd κ (it κ x p) κ.nr
def clo (κ : CT) (x : Nat) : Nat := it κ x 9
theorem rnd_lt {κ : CT} (c : CB κ) {x : Nat} (hx : x < 2 ^ κ.ns) : ∀ r, r ≤ κ.nr → rnd κ x r < 2 ^ κ.ns
  | 0, _ => hx
  | r + 1, h => by
    have ih := rnd_lt c hx r (by omega)
    unfold rnd
    split
    · exact Nat.or_lt_two_pow ih (Nat.pow_lt_pow_right (by decide) (c.r3 r (by omega)))
    · exact ih
theorem it_lt {κ : CT} (c : CB κ) {x : Nat} (hx : x < 2 ^ κ.ns) : ∀ p, it κ x p < 2 ^ κ.ns
  | 0 => hx
  | p + 1 => rnd_lt c (it_lt c hx p) κ.nr (Nat.le_refl _)
theorem clo_lt {κ : CT} (c : CB κ) {x : Nat} (hx : x < 2 ^ κ.ns) : clo κ x < 2 ^ κ.ns := it_lt c hx 9
theorem rnd_sub {κ : CT} {x i : Nat} (h : x.testBit i = true) : ∀ r, (rnd κ x r).testBit i = true
  | 0 => h
  | r + 1 => by
    have ih := rnd_sub (κ := κ) h r
    unfold rnd
    split
    · rw [Nat.testBit_or, ih]; rfl
    · exact ih
theorem pcn_sub {x y : Nat} (h : ∀ i, x.testBit i = true → y.testBit i = true) : ∀ k, pcn x k ≤ pcn y k ∧ (pcn x k = pcn y k → ∀ i, i < k → x.testBit i = y.testBit i)
  | 0 => ⟨Nat.le_refl _, fun _ i hi => absurd hi (Nat.not_lt_zero i)⟩
  | k + 1 => by
    obtain ⟨h1, h2⟩ := pcn_sub h k
    have h3 := h k
    show pcn x k + _ ≤ pcn y k + _ ∧ (pcn x k + _ = pcn y k + _ → _)
    cases ha : x.testBit k <;> cases hb : y.testBit k <;> rw [ha, hb] at h3 <;> simp only [Bool.toNat_true, Bool.toNat_false]
    · refine ⟨by omega, fun e i hi => ?_⟩
      by_cases hk : i = k
      · subst hk; rw [ha, hb]
      · exact h2 (by omega) i (by omega)
    · exact ⟨by omega, fun e => by omega⟩
    · exact absurd (h3 rfl) (by decide)
    · refine ⟨by omega, fun e i hi => ?_⟩
      by_cases hk : i = k
      · subst hk; rw [ha, hb]
      · exact h2 (by omega) i (by omega)
theorem eq_of_bits {x y k : Nat} (hx : x < 2 ^ k) (hy : y < 2 ^ k) (h : ∀ i, i < k → x.testBit i = y.testBit i) : x = y := by
  refine Nat.eq_of_testBit_eq fun i => ?_
  by_cases hi : i < k
  · exact h i hi
  · rw [Nat.testBit_lt_two_pow (Nat.lt_of_lt_of_le hx (Nat.pow_le_pow_right (by decide) (by omega))), Nat.testBit_lt_two_pow (Nat.lt_of_lt_of_le hy (Nat.pow_le_pow_right (by decide) (by omega)))]
theorem it_fix {κ : CT} {x p : Nat} (h : it κ x (p + 1) = it κ x p) : ∀ q, it κ x (p + q) = it κ x p
  | 0 => rfl
  | q + 1 => by
    show rnd κ (it κ x (p + q)) κ.nr = _
    rw [it_fix h q]
    exact h
theorem it_grow {κ : CT} (c : CB κ) {x : Nat} (hx : x < 2 ^ κ.ns) : ∀ p, (∀ q, q < p → ¬ it κ x (q + 1) = it κ x q) → p ≤ pc9 (it κ x p)
  | 0, _ => Nat.zero_le _
  | p + 1, h => by
    have ih := it_grow c hx p (fun q hq => h q (by omega))
    have hne := h p (by omega)
    obtain ⟨h1, h2⟩ := pcn_sub (x := it κ x p) (y := it κ x (p + 1)) (fun i hi => rnd_sub hi κ.nr) 9
    have h9 : ∀ q, it κ x q < 2 ^ 9 := fun q => Nat.lt_of_lt_of_le (it_lt c hx q) (pow_ns c)
    have h3 : ¬ pcn (it κ x p) 9 = pcn (it κ x (p + 1)) 9 := fun e => hne (eq_of_bits (h9 _) (h9 _) (h2 e)).symm
    have h4 : p ≤ pcn (it κ x p) 9 := ih
    show p + 1 ≤ pcn (it κ x (p + 1)) 9
    omega
theorem it_stop {κ : CT} (c : CB κ) {x : Nat} (hx : x < 2 ^ κ.ns) : ∃ p, p ≤ 9 ∧ it κ x (p + 1) = it κ x p := by
  refine Classical.byContradiction fun hn => ?_
  have h := it_grow c hx 10 (fun q hq e => hn ⟨q, by omega, e⟩)
  have := pc9_le (it κ x 10)
  omega
theorem it_10 {κ : CT} (c : CB κ) {x : Nat} (hx : x < 2 ^ κ.ns) : it κ x 10 = clo κ x := by
  obtain ⟨p, hp, h⟩ := it_stop c hx
  have h1 := it_fix h (10 - p)
  have h2 := it_fix h (9 - p)
  rw [show p + (10 - p) = 10 by omega] at h1
  rw [show p + (9 - p) = 9 by omega] at h2
  rw [h1]; exact h2.symm
theorem it_end {κ : CT} {x p : Nat} (hp : p ≤ 9) (h : it κ x (p + 1) = it κ x p) : it κ x (p + 1) = clo κ x := by
  have h2 := it_fix h (9 - p)
  rw [show p + (9 - p) = 9 by omega] at h2
  rw [h]; exact h2.symm
/-- what leans: as a whole number -/
def leanN (κ : CT) (x : Nat) : Nat → Int
  | 0 => 0
  | k + 1 => leanN κ x k + if x.testBit k = true then (if κ.ss k = 1 then (κ.sw k : Int) else -(κ.sw k : Int)) else 0
def lean (κ : CT) (x : Nat) : Int := leanN κ (clo κ x) κ.ns
theorem leanN_b {κ : CT} {x : Nat} (hb : ∀ j, κ.sw j ≤ 60) : ∀ k : Nat, -(60 * (k : Int)) ≤ leanN κ x k ∧ leanN κ x k ≤ 60 * (k : Int)
  | 0 => by unfold leanN; omega
  | k + 1 => by
    have ih := leanN_b (κ := κ) (x := x) hb k
    have := hb k
    unfold leanN
    split
    · split <;> omega
    · omega
theorem leanN_f {κ : CT} {x k : Nat} (h : x.testBit k = false) : leanN κ x k = leanN κ x (k + 1) := by show _ = _ + ite _ _ _; rw [if_neg (by rw [h]; decide)]; omega
theorem leanN_1 {κ : CT} {x k : Nat} (h : x.testBit k = true) (h1 : κ.ss k = 1) : leanN κ x k + (κ.sw k : Int) = leanN κ x (k + 1) := by show _ = _ + ite _ _ _; rw [if_pos h, if_pos h1]
theorem leanN_0 {κ : CT} {x k : Nat} (h : x.testBit k = true) (h1 : ¬ κ.ss k = 1) : leanN κ x k + -(κ.sw k : Int) = leanN κ x (k + 1) := by show _ = _ + ite _ _ _; rw [if_pos h, if_neg h1]
theorem wtOf_t {κ : CT} {x k : Nat} (h : x.testBit k = true) : wtOf κ x k + κ.sw k = wtOf κ x (k + 1) := by show _ = _ + ite _ _ _; rw [if_pos h]
theorem wtOf_f {κ : CT} {x k : Nat} (h : x.testBit k = false) : wtOf κ x k = wtOf κ x (k + 1) := by show _ = _ + ite _ _ _; rw [if_neg (by rw [h]; decide)]; rfl
/-- a best one, -1 for none -/
def opI (o : Option Nat) : Int32 := match o with
  | none => zI (-1)
  | some i => nI i
def bst (p : Nat → Bool) (lt : Nat → Nat → Bool) : Nat → Option Nat
  | 0 => none
  | k + 1 => match bst p lt k with
    | none => if p k = true then some k else none
    | some b => if p k = true ∧ lt k b = true then some k else some b
theorem r_X1_allCounsel_0 : RW M_X1_allCounsel 0 (.aload_n 0) 1 0 0 1 := ⟨rfl, rfl⟩
theorem r_X1_allCounsel_1 : RW M_X1_allCounsel 1 (.getfield 57) 3 1 13 4 := ⟨rfl, rfl⟩
theorem r_X1_allCounsel_4 : RW M_X1_allCounsel 4 (.invokestatic 116) 3 162 0 7 := ⟨rfl, rfl⟩
theorem r_X1_allCounsel_7 : RW M_X1_allCounsel 7 (.iconst 1) 1 0 0 8 := ⟨rfl, rfl⟩
theorem r_X1_allCounsel_8 : RW M_X1_allCounsel 8 (.isub) 1 0 0 9 := ⟨rfl, rfl⟩
theorem r_X1_allCounsel_9 : RW M_X1_allCounsel 9 (.ireturn) 1 0 0 10 := ⟨rfl, rfl⟩
theorem r_X1_allSayings_0 : RW M_X1_allSayings 0 (.aload_n 0) 1 0 0 1 := ⟨rfl, rfl⟩
theorem r_X1_allSayings_1 : RW M_X1_allSayings 1 (.getfield 47) 3 1 10 4 := ⟨rfl, rfl⟩
theorem r_X1_allSayings_4 : RW M_X1_allSayings 4 (.invokestatic 116) 3 162 0 7 := ⟨rfl, rfl⟩
theorem r_X1_allSayings_7 : RW M_X1_allSayings 7 (.iconst 1) 1 0 0 8 := ⟨rfl, rfl⟩
theorem r_X1_allSayings_8 : RW M_X1_allSayings 8 (.isub) 1 0 0 9 := ⟨rfl, rfl⟩
theorem r_X1_allSayings_9 : RW M_X1_allSayings 9 (.ireturn) 1 0 0 10 := ⟨rfl, rfl⟩
theorem r_X1_closure_0 : RW M_X1_closure 0 (.iload_n 1) 1 0 0 1 := ⟨rfl, rfl⟩
theorem r_X1_closure_1 : RW M_X1_closure 1 (.istore_n 2) 1 0 0 2 := ⟨rfl, rfl⟩
theorem r_X1_closure_2 : RW M_X1_closure 2 (.iconst 0) 1 0 0 3 := ⟨rfl, rfl⟩
theorem r_X1_closure_3 : RW M_X1_closure 3 (.istore_n 3) 1 0 0 4 := ⟨rfl, rfl⟩
theorem r_X1_closure_4 : RW M_X1_closure 4 (.iload_n 3) 1 0 4 5 := ⟨rfl, rfl⟩
theorem r_X1_closure_5 : RW M_X1_closure 5 (.bipush 9) 2 0 0 7 := ⟨rfl, rfl⟩
theorem r_X1_closure_7 : RW M_X1_closure 7 (.if_icmp .gt 63) 3 70 0 10 := ⟨rfl, rfl⟩
theorem r_X1_closure_10 : RW M_X1_closure 10 (.iload_n 2) 1 0 0 11 := ⟨rfl, rfl⟩
theorem r_X1_closure_11 : RW M_X1_closure 11 (.istore 4) 2 0 0 13 := ⟨rfl, rfl⟩
theorem r_X1_closure_13 : RW M_X1_closure 13 (.iconst 0) 1 0 0 14 := ⟨rfl, rfl⟩
theorem r_X1_closure_14 : RW M_X1_closure 14 (.istore 5) 2 0 0 16 := ⟨rfl, rfl⟩
theorem r_X1_closure_16 : RW M_X1_closure 16 (.iload 5) 2 0 0 18 := ⟨rfl, rfl⟩
theorem r_X1_closure_18 : RW M_X1_closure 18 (.aload_n 0) 1 0 0 19 := ⟨rfl, rfl⟩
theorem r_X1_closure_19 : RW M_X1_closure 19 (.getfield 51) 3 1 11 22 := ⟨rfl, rfl⟩
theorem r_X1_closure_22 : RW M_X1_closure 22 (.if_icmp .ge 34) 3 56 0 25 := ⟨rfl, rfl⟩
theorem r_X1_closure_25 : RW M_X1_closure 25 (.aload_n 0) 1 0 0 26 := ⟨rfl, rfl⟩
theorem r_X1_closure_26 : RW M_X1_closure 26 (.iload 5) 2 0 0 28 := ⟨rfl, rfl⟩
theorem r_X1_closure_28 : RW M_X1_closure 28 (.iload_n 2) 1 0 0 29 := ⟨rfl, rfl⟩
theorem r_X1_closure_29 : RW M_X1_closure 29 (.invokevirtual 127) 3 20 0 32 := ⟨rfl, rfl⟩
theorem r_X1_closure_32 : RW M_X1_closure 32 (.ifCond .eq 18) 3 50 0 35 := ⟨rfl, rfl⟩
theorem r_X1_closure_35 : RW M_X1_closure 35 (.iload_n 2) 1 0 0 36 := ⟨rfl, rfl⟩
theorem r_X1_closure_36 : RW M_X1_closure 36 (.aload_n 0) 1 0 0 37 := ⟨rfl, rfl⟩
theorem r_X1_closure_37 : RW M_X1_closure 37 (.getfield 32) 3 1 5 40 := ⟨rfl, rfl⟩
theorem r_X1_closure_40 : RW M_X1_closure 40 (.iload 5) 2 0 0 42 := ⟨rfl, rfl⟩
theorem r_X1_closure_42 : RW M_X1_closure 42 (.invokevirtual 120) 3 92 0 45 := ⟨rfl, rfl⟩
theorem r_X1_closure_45 : RW M_X1_closure 45 (.invokestatic 116) 3 162 0 48 := ⟨rfl, rfl⟩
theorem r_X1_closure_48 : RW M_X1_closure 48 (.ior) 1 0 0 49 := ⟨rfl, rfl⟩
theorem r_X1_closure_49 : RW M_X1_closure 49 (.istore_n 2) 1 0 0 50 := ⟨rfl, rfl⟩
theorem r_X1_closure_50 : RW M_X1_closure 50 (.iinc 5 1) 3 0 0 53 := ⟨rfl, rfl⟩
theorem r_X1_closure_53 : RW M_X1_closure 53 (.goto (-37)) 3 16 0 56 := ⟨rfl, rfl⟩
theorem r_X1_closure_56 : RW M_X1_closure 56 (.iload_n 2) 1 0 0 57 := ⟨rfl, rfl⟩
theorem r_X1_closure_57 : RW M_X1_closure 57 (.iload 4) 2 0 0 59 := ⟨rfl, rfl⟩
theorem r_X1_closure_59 : RW M_X1_closure 59 (.if_icmp .ne 5) 3 64 0 62 := ⟨rfl, rfl⟩
theorem r_X1_closure_62 : RW M_X1_closure 62 (.iload_n 2) 1 0 0 63 := ⟨rfl, rfl⟩
theorem r_X1_closure_63 : RW M_X1_closure 63 (.ireturn) 1 0 0 64 := ⟨rfl, rfl⟩
theorem r_X1_closure_64 : RW M_X1_closure 64 (.iinc 3 1) 3 0 0 67 := ⟨rfl, rfl⟩
theorem r_X1_closure_67 : RW M_X1_closure 67 (.goto (-63)) 3 4 0 70 := ⟨rfl, rfl⟩
theorem r_X1_closure_70 : RW M_X1_closure 70 (.iload_n 2) 1 0 0 71 := ⟨rfl, rfl⟩
theorem r_X1_closure_71 : RW M_X1_closure 71 (.ireturn) 1 0 0 72 := ⟨rfl, rfl⟩
theorem r_X1_isUsed_0 : RW M_X1_isUsed 0 (.iload_n 2) 1 0 0 1 := ⟨rfl, rfl⟩
theorem r_X1_isUsed_1 : RW M_X1_isUsed 1 (.aload_n 0) 1 0 0 2 := ⟨rfl, rfl⟩
theorem r_X1_isUsed_2 : RW M_X1_isUsed 2 (.getfield 26) 3 1 3 5 := ⟨rfl, rfl⟩
theorem r_X1_isUsed_5 : RW M_X1_isUsed 5 (.iload_n 1) 1 0 0 6 := ⟨rfl, rfl⟩
theorem r_X1_isUsed_6 : RW M_X1_isUsed 6 (.invokevirtual 120) 3 92 0 9 := ⟨rfl, rfl⟩
theorem r_X1_isUsed_9 : RW M_X1_isUsed 9 (.invokestatic 123) 3 163 0 12 := ⟨rfl, rfl⟩
theorem r_X1_isUsed_12 : RW M_X1_isUsed 12 (.ifCond .eq 22) 3 34 0 15 := ⟨rfl, rfl⟩
theorem r_X1_isUsed_15 : RW M_X1_isUsed 15 (.iload_n 2) 1 0 0 16 := ⟨rfl, rfl⟩
theorem r_X1_isUsed_16 : RW M_X1_isUsed 16 (.aload_n 0) 1 0 0 17 := ⟨rfl, rfl⟩
theorem r_X1_isUsed_17 : RW M_X1_isUsed 17 (.getfield 29) 3 1 4 20 := ⟨rfl, rfl⟩
theorem r_X1_isUsed_20 : RW M_X1_isUsed 20 (.iload_n 1) 1 0 0 21 := ⟨rfl, rfl⟩
theorem r_X1_isUsed_21 : RW M_X1_isUsed 21 (.invokevirtual 120) 3 92 0 24 := ⟨rfl, rfl⟩
theorem r_X1_isUsed_24 : RW M_X1_isUsed 24 (.invokestatic 123) 3 163 0 27 := ⟨rfl, rfl⟩
theorem r_X1_isUsed_27 : RW M_X1_isUsed 27 (.ifCond .eq 7) 3 34 0 30 := ⟨rfl, rfl⟩
theorem r_X1_isUsed_30 : RW M_X1_isUsed 30 (.iconst 1) 1 0 0 31 := ⟨rfl, rfl⟩
theorem r_X1_isUsed_31 : RW M_X1_isUsed 31 (.goto 4) 3 35 0 34 := ⟨rfl, rfl⟩
theorem r_X1_isUsed_34 : RW M_X1_isUsed 34 (.iconst 0) 1 0 0 35 := ⟨rfl, rfl⟩
theorem r_X1_isUsed_35 : RW M_X1_isUsed 35 (.ireturn) 1 0 0 36 := ⟨rfl, rfl⟩
theorem r_X1_leanFrom_0 : RW M_X1_leanFrom 0 (.aload_n 0) 1 0 0 1 := ⟨rfl, rfl⟩
theorem r_X1_leanFrom_1 : RW M_X1_leanFrom 1 (.iload_n 1) 1 0 0 2 := ⟨rfl, rfl⟩
theorem r_X1_leanFrom_2 : RW M_X1_leanFrom 2 (.invokevirtual 130) 3 19 0 5 := ⟨rfl, rfl⟩
theorem r_X1_leanFrom_5 : RW M_X1_leanFrom 5 (.istore_n 2) 1 0 0 6 := ⟨rfl, rfl⟩
theorem r_X1_leanFrom_6 : RW M_X1_leanFrom 6 (.iconst 0) 1 0 0 7 := ⟨rfl, rfl⟩
theorem r_X1_leanFrom_7 : RW M_X1_leanFrom 7 (.istore_n 3) 1 0 0 8 := ⟨rfl, rfl⟩
theorem r_X1_leanFrom_8 : RW M_X1_leanFrom 8 (.iconst 0) 1 0 0 9 := ⟨rfl, rfl⟩
theorem r_X1_leanFrom_9 : RW M_X1_leanFrom 9 (.istore 4) 2 0 0 11 := ⟨rfl, rfl⟩
theorem r_X1_leanFrom_11 : RW M_X1_leanFrom 11 (.iload 4) 2 0 0 13 := ⟨rfl, rfl⟩
theorem r_X1_leanFrom_13 : RW M_X1_leanFrom 13 (.aload_n 0) 1 0 0 14 := ⟨rfl, rfl⟩
theorem r_X1_leanFrom_14 : RW M_X1_leanFrom 14 (.getfield 47) 3 1 10 17 := ⟨rfl, rfl⟩
theorem r_X1_leanFrom_17 : RW M_X1_leanFrom 17 (.if_icmp .ge 56) 3 73 0 20 := ⟨rfl, rfl⟩
theorem r_X1_leanFrom_20 : RW M_X1_leanFrom 20 (.iload_n 2) 1 0 0 21 := ⟨rfl, rfl⟩
theorem r_X1_leanFrom_21 : RW M_X1_leanFrom 21 (.iload 4) 2 0 0 23 := ⟨rfl, rfl⟩
theorem r_X1_leanFrom_23 : RW M_X1_leanFrom 23 (.invokestatic 123) 3 163 0 26 := ⟨rfl, rfl⟩
theorem r_X1_leanFrom_26 : RW M_X1_leanFrom 26 (.ifCond .eq 41) 3 67 0 29 := ⟨rfl, rfl⟩
theorem r_X1_leanFrom_29 : RW M_X1_leanFrom 29 (.iload_n 3) 1 0 0 30 := ⟨rfl, rfl⟩
theorem r_X1_leanFrom_30 : RW M_X1_leanFrom 30 (.aload_n 0) 1 0 0 31 := ⟨rfl, rfl⟩
theorem r_X1_leanFrom_31 : RW M_X1_leanFrom 31 (.getfield 20) 3 1 1 34 := ⟨rfl, rfl⟩
theorem r_X1_leanFrom_34 : RW M_X1_leanFrom 34 (.iload 4) 2 0 0 36 := ⟨rfl, rfl⟩
theorem r_X1_leanFrom_36 : RW M_X1_leanFrom 36 (.invokevirtual 120) 3 92 0 39 := ⟨rfl, rfl⟩
theorem r_X1_leanFrom_39 : RW M_X1_leanFrom 39 (.iconst 1) 1 0 0 40 := ⟨rfl, rfl⟩
theorem r_X1_leanFrom_40 : RW M_X1_leanFrom 40 (.if_icmp .ne 15) 3 55 0 43 := ⟨rfl, rfl⟩
theorem r_X1_leanFrom_43 : RW M_X1_leanFrom 43 (.aload_n 0) 1 0 0 44 := ⟨rfl, rfl⟩
theorem r_X1_leanFrom_44 : RW M_X1_leanFrom 44 (.getfield 23) 3 1 2 47 := ⟨rfl, rfl⟩
theorem r_X1_leanFrom_47 : RW M_X1_leanFrom 47 (.iload 4) 2 0 0 49 := ⟨rfl, rfl⟩
theorem r_X1_leanFrom_49 : RW M_X1_leanFrom 49 (.invokevirtual 120) 3 92 0 52 := ⟨rfl, rfl⟩
theorem r_X1_leanFrom_52 : RW M_X1_leanFrom 52 (.goto 13) 3 65 0 55 := ⟨rfl, rfl⟩
theorem r_X1_leanFrom_55 : RW M_X1_leanFrom 55 (.aload_n 0) 1 0 0 56 := ⟨rfl, rfl⟩
theorem r_X1_leanFrom_56 : RW M_X1_leanFrom 56 (.getfield 23) 3 1 2 59 := ⟨rfl, rfl⟩
theorem r_X1_leanFrom_59 : RW M_X1_leanFrom 59 (.iload 4) 2 0 0 61 := ⟨rfl, rfl⟩
theorem r_X1_leanFrom_61 : RW M_X1_leanFrom 61 (.invokevirtual 120) 3 92 0 64 := ⟨rfl, rfl⟩
theorem r_X1_leanFrom_64 : RW M_X1_leanFrom 64 (.ineg) 1 0 0 65 := ⟨rfl, rfl⟩
theorem r_X1_leanFrom_65 : RW M_X1_leanFrom 65 (.iadd) 1 0 0 66 := ⟨rfl, rfl⟩
theorem r_X1_leanFrom_66 : RW M_X1_leanFrom 66 (.istore_n 3) 1 0 0 67 := ⟨rfl, rfl⟩
theorem r_X1_leanFrom_67 : RW M_X1_leanFrom 67 (.iinc 4 1) 3 0 0 70 := ⟨rfl, rfl⟩
theorem r_X1_leanFrom_70 : RW M_X1_leanFrom 70 (.goto (-59)) 3 11 0 73 := ⟨rfl, rfl⟩
theorem r_X1_leanFrom_73 : RW M_X1_leanFrom 73 (.iload_n 3) 1 0 0 74 := ⟨rfl, rfl⟩
theorem r_X1_leanFrom_74 : RW M_X1_leanFrom 74 (.ireturn) 1 0 0 75 := ⟨rfl, rfl⟩
theorem r_X1_ofSide_0 : RW M_X1_ofSide 0 (.iconst 0) 1 0 0 1 := ⟨rfl, rfl⟩
theorem r_X1_ofSide_1 : RW M_X1_ofSide 1 (.istore_n 2) 1 0 0 2 := ⟨rfl, rfl⟩
theorem r_X1_ofSide_2 : RW M_X1_ofSide 2 (.iconst 0) 1 0 0 3 := ⟨rfl, rfl⟩
theorem r_X1_ofSide_3 : RW M_X1_ofSide 3 (.istore_n 3) 1 0 0 4 := ⟨rfl, rfl⟩
theorem r_X1_ofSide_4 : RW M_X1_ofSide 4 (.iload_n 3) 1 0 0 5 := ⟨rfl, rfl⟩
theorem r_X1_ofSide_5 : RW M_X1_ofSide 5 (.aload_n 0) 1 0 0 6 := ⟨rfl, rfl⟩
theorem r_X1_ofSide_6 : RW M_X1_ofSide 6 (.getfield 47) 3 1 10 9 := ⟨rfl, rfl⟩
theorem r_X1_ofSide_9 : RW M_X1_ofSide 9 (.if_icmp .ge 28) 3 37 0 12 := ⟨rfl, rfl⟩
theorem r_X1_ofSide_12 : RW M_X1_ofSide 12 (.aload_n 0) 1 0 0 13 := ⟨rfl, rfl⟩
theorem r_X1_ofSide_13 : RW M_X1_ofSide 13 (.getfield 20) 3 1 1 16 := ⟨rfl, rfl⟩
theorem r_X1_ofSide_16 : RW M_X1_ofSide 16 (.iload_n 3) 1 0 0 17 := ⟨rfl, rfl⟩
theorem r_X1_ofSide_17 : RW M_X1_ofSide 17 (.invokevirtual 120) 3 92 0 20 := ⟨rfl, rfl⟩
theorem r_X1_ofSide_20 : RW M_X1_ofSide 20 (.iload_n 1) 1 0 0 21 := ⟨rfl, rfl⟩
theorem r_X1_ofSide_21 : RW M_X1_ofSide 21 (.if_icmp .ne 10) 3 31 0 24 := ⟨rfl, rfl⟩
theorem r_X1_ofSide_24 : RW M_X1_ofSide 24 (.iload_n 2) 1 0 0 25 := ⟨rfl, rfl⟩
theorem r_X1_ofSide_25 : RW M_X1_ofSide 25 (.iload_n 3) 1 0 0 26 := ⟨rfl, rfl⟩
theorem r_X1_ofSide_26 : RW M_X1_ofSide 26 (.invokestatic 116) 3 162 0 29 := ⟨rfl, rfl⟩
theorem r_X1_ofSide_29 : RW M_X1_ofSide 29 (.ior) 1 0 0 30 := ⟨rfl, rfl⟩
theorem r_X1_ofSide_30 : RW M_X1_ofSide 30 (.istore_n 2) 1 0 0 31 := ⟨rfl, rfl⟩
theorem r_X1_ofSide_31 : RW M_X1_ofSide 31 (.iinc 3 1) 3 0 0 34 := ⟨rfl, rfl⟩
theorem r_X1_ofSide_34 : RW M_X1_ofSide 34 (.goto (-30)) 3 4 0 37 := ⟨rfl, rfl⟩
theorem r_X1_ofSide_37 : RW M_X1_ofSide 37 (.iload_n 2) 1 0 0 38 := ⟨rfl, rfl⟩
theorem r_X1_ofSide_38 : RW M_X1_ofSide 38 (.ireturn) 1 0 0 39 := ⟨rfl, rfl⟩
theorem r_X1_rulesUsed_0 : RW M_X1_rulesUsed 0 (.iconst 0) 1 0 0 1 := ⟨rfl, rfl⟩
theorem r_X1_rulesUsed_1 : RW M_X1_rulesUsed 1 (.istore_n 2) 1 0 0 2 := ⟨rfl, rfl⟩
theorem r_X1_rulesUsed_2 : RW M_X1_rulesUsed 2 (.iconst 0) 1 0 0 3 := ⟨rfl, rfl⟩
theorem r_X1_rulesUsed_3 : RW M_X1_rulesUsed 3 (.istore_n 3) 1 0 0 4 := ⟨rfl, rfl⟩
theorem r_X1_rulesUsed_4 : RW M_X1_rulesUsed 4 (.iload_n 3) 1 0 0 5 := ⟨rfl, rfl⟩
theorem r_X1_rulesUsed_5 : RW M_X1_rulesUsed 5 (.aload_n 0) 1 0 0 6 := ⟨rfl, rfl⟩
theorem r_X1_rulesUsed_6 : RW M_X1_rulesUsed 6 (.getfield 51) 3 1 11 9 := ⟨rfl, rfl⟩
theorem r_X1_rulesUsed_9 : RW M_X1_rulesUsed 9 (.if_icmp .ge 25) 3 34 0 12 := ⟨rfl, rfl⟩
theorem r_X1_rulesUsed_12 : RW M_X1_rulesUsed 12 (.aload_n 0) 1 0 0 13 := ⟨rfl, rfl⟩
theorem r_X1_rulesUsed_13 : RW M_X1_rulesUsed 13 (.iload_n 3) 1 0 0 14 := ⟨rfl, rfl⟩
theorem r_X1_rulesUsed_14 : RW M_X1_rulesUsed 14 (.iload_n 1) 1 0 0 15 := ⟨rfl, rfl⟩
theorem r_X1_rulesUsed_15 : RW M_X1_rulesUsed 15 (.invokevirtual 127) 3 20 0 18 := ⟨rfl, rfl⟩
theorem r_X1_rulesUsed_18 : RW M_X1_rulesUsed 18 (.ifCond .eq 10) 3 28 0 21 := ⟨rfl, rfl⟩
theorem r_X1_rulesUsed_21 : RW M_X1_rulesUsed 21 (.iload_n 2) 1 0 0 22 := ⟨rfl, rfl⟩
theorem r_X1_rulesUsed_22 : RW M_X1_rulesUsed 22 (.iload_n 3) 1 0 0 23 := ⟨rfl, rfl⟩
theorem r_X1_rulesUsed_23 : RW M_X1_rulesUsed 23 (.invokestatic 116) 3 162 0 26 := ⟨rfl, rfl⟩
theorem r_X1_rulesUsed_26 : RW M_X1_rulesUsed 26 (.ior) 1 0 0 27 := ⟨rfl, rfl⟩
theorem r_X1_rulesUsed_27 : RW M_X1_rulesUsed 27 (.istore_n 2) 1 0 0 28 := ⟨rfl, rfl⟩
theorem r_X1_rulesUsed_28 : RW M_X1_rulesUsed 28 (.iinc 3 1) 3 0 0 31 := ⟨rfl, rfl⟩
theorem r_X1_rulesUsed_31 : RW M_X1_rulesUsed 31 (.goto (-27)) 3 4 0 34 := ⟨rfl, rfl⟩
theorem r_X1_rulesUsed_34 : RW M_X1_rulesUsed 34 (.iload_n 2) 1 0 0 35 := ⟨rfl, rfl⟩
theorem r_X1_rulesUsed_35 : RW M_X1_rulesUsed 35 (.ireturn) 1 0 0 36 := ⟨rfl, rfl⟩
theorem r_X1_weightOf_0 : RW M_X1_weightOf 0 (.iconst 0) 1 0 0 1 := ⟨rfl, rfl⟩
theorem r_X1_weightOf_1 : RW M_X1_weightOf 1 (.istore_n 2) 1 0 0 2 := ⟨rfl, rfl⟩
theorem r_X1_weightOf_2 : RW M_X1_weightOf 2 (.iconst 0) 1 0 0 3 := ⟨rfl, rfl⟩
theorem r_X1_weightOf_3 : RW M_X1_weightOf 3 (.istore_n 3) 1 0 0 4 := ⟨rfl, rfl⟩
theorem r_X1_weightOf_4 : RW M_X1_weightOf 4 (.iload_n 3) 1 0 0 5 := ⟨rfl, rfl⟩
theorem r_X1_weightOf_5 : RW M_X1_weightOf 5 (.aload_n 0) 1 0 0 6 := ⟨rfl, rfl⟩
theorem r_X1_weightOf_6 : RW M_X1_weightOf 6 (.getfield 47) 3 1 10 9 := ⟨rfl, rfl⟩
theorem r_X1_weightOf_9 : RW M_X1_weightOf 9 (.if_icmp .ge 28) 3 37 0 12 := ⟨rfl, rfl⟩
theorem r_X1_weightOf_12 : RW M_X1_weightOf 12 (.iload_n 1) 1 0 0 13 := ⟨rfl, rfl⟩
theorem r_X1_weightOf_13 : RW M_X1_weightOf 13 (.iload_n 3) 1 0 0 14 := ⟨rfl, rfl⟩
theorem r_X1_weightOf_14 : RW M_X1_weightOf 14 (.invokestatic 123) 3 163 0 17 := ⟨rfl, rfl⟩
theorem r_X1_weightOf_17 : RW M_X1_weightOf 17 (.ifCond .eq 14) 3 31 0 20 := ⟨rfl, rfl⟩
theorem r_X1_weightOf_20 : RW M_X1_weightOf 20 (.iload_n 2) 1 0 0 21 := ⟨rfl, rfl⟩
theorem r_X1_weightOf_21 : RW M_X1_weightOf 21 (.aload_n 0) 1 0 0 22 := ⟨rfl, rfl⟩
theorem r_X1_weightOf_22 : RW M_X1_weightOf 22 (.getfield 23) 3 1 2 25 := ⟨rfl, rfl⟩
theorem r_X1_weightOf_25 : RW M_X1_weightOf 25 (.iload_n 3) 1 0 0 26 := ⟨rfl, rfl⟩
theorem r_X1_weightOf_26 : RW M_X1_weightOf 26 (.invokevirtual 120) 3 92 0 29 := ⟨rfl, rfl⟩
theorem r_X1_weightOf_29 : RW M_X1_weightOf 29 (.iadd) 1 0 0 30 := ⟨rfl, rfl⟩
theorem r_X1_weightOf_30 : RW M_X1_weightOf 30 (.istore_n 2) 1 0 0 31 := ⟨rfl, rfl⟩
theorem r_X1_weightOf_31 : RW M_X1_weightOf 31 (.iinc 3 1) 3 0 0 34 := ⟨rfl, rfl⟩
theorem r_X1_weightOf_34 : RW M_X1_weightOf 34 (.goto (-30)) 3 4 0 37 := ⟨rfl, rfl⟩
theorem r_X1_weightOf_37 : RW M_X1_weightOf 37 (.iload_n 2) 1 0 0 38 := ⟨rfl, rfl⟩
theorem r_X1_weightOf_38 : RW M_X1_weightOf 38 (.ireturn) 1 0 0 39 := ⟨rfl, rfl⟩
theorem b_all {d : Nat} {I : Nat → Nat → Int32} {J : Nat → Nat → Int64} {κ : CT} (hc : HC 4 κ I) (cb : CB κ)  (hd : 2 ≤ d) : RV d 14 [.ref 4] I J (nI (2 ^ κ.ns - 1)) := by
  refine RV.in (d0 := 1) hd mt_14 (Nat.le_of_ble_eq_true rfl) (fun d' hd' => ?_)
  have bns := cb.ns; have bnb := cb.nb; have bnc := cb.nc; have bnr := cb.nr
  have b1 := Nat.two_pow_pos κ.ns
  show EV none M_X1_allSayings d' 0 [(0, .ref 4)] [] (hp I J) _
  refine EV.l (lv' := [(0, _)]) r_X1_allSayings_0 rfl ?_
  refine EV.getV r_X1_allSayings_1 la_4 (hc.ns) ?_
  refine EV.cv r_X1_allSayings_4 (aS1 mt_162) (c_bit (by omega) (by omega)) ?_
  refine EV.o r_X1_allSayings_7 (icN (1) (v := 1)) ?_
  refine EV.o r_X1_allSayings_8 (isubN) ?_
  exact EV.rv r_X1_allSayings_9 (rfl)
theorem b_allC {d : Nat} {I : Nat → Nat → Int32} {J : Nat → Nat → Int64} {κ : CT} (hc : HC 4 κ I) (cb : CB κ)  (hd : 2 ≤ d) : RV d 15 [.ref 4] I J (nI (2 ^ κ.nc - 1)) := by
  refine RV.in (d0 := 1) hd mt_15 (Nat.le_of_ble_eq_true rfl) (fun d' hd' => ?_)
  have bns := cb.ns; have bnb := cb.nb; have bnc := cb.nc; have bnr := cb.nr
  have b1 := Nat.two_pow_pos κ.nc
  show EV none M_X1_allCounsel d' 0 [(0, .ref 4)] [] (hp I J) _
  refine EV.l (lv' := [(0, _)]) r_X1_allCounsel_0 rfl ?_
  refine EV.getV r_X1_allCounsel_1 la_4 (hc.nc) ?_
  refine EV.cv r_X1_allCounsel_4 (aS1 mt_162) (c_bit (by omega) (by omega)) ?_
  refine EV.o r_X1_allCounsel_7 (icN (1) (v := 1)) ?_
  refine EV.o r_X1_allCounsel_8 (isubN) ?_
  exact EV.rv r_X1_allCounsel_9 (rfl)
theorem b_ofSide {d : Nat} {I : Nat → Nat → Int32} {J : Nat → Nat → Int64} {κ : CT} (hc : HC 4 κ I) (cb : CB κ) {s : Nat} (hs : s < 2)  (hd : 2 ≤ d) : RV d 16 [.ref 4, .int (nI s)] I J (nI (ofSd κ s)) := by
  refine RV.in (d0 := 1) hd mt_16 (Nat.le_of_ble_eq_true rfl) (fun d' hd' => ?_)
  have bns := cb.ns; have bnb := cb.nb; have bnc := cb.nc; have bnr := cb.nr
  show EV none M_X1_ofSide d' 0 [(0, .ref 4), (1, .int (nI s))] [] (hp I J) _
  refine EV.o r_X1_ofSide_0 (icN (0) (v := 0)) ?_
  refine EV.l (lv' := [(0, _), (1, _), (2, _)]) r_X1_ofSide_1 rfl ?_
  refine EV.o r_X1_ofSide_2 (icN (0) (v := 0)) ?_
  refine EV.l (lv' := [(0, _), (1, _), (2, _), (3, _)]) r_X1_ofSide_3 rfl ?_
  have L4 : ∀ y_ : Nat, (fun i => i ≤ κ.ns → EV none M_X1_ofSide d' 4 [(0, .ref 4), (1, .int (nI s)), (2, .int (nI (mk (fun i => decide (κ.ss i = s)) i))), (3, .int (nI i))] [] (hp I J) (QV I J (nI (ofSd κ s)))) y_ := by
    refine ev_loop (fun i => κ.ns - i) ?_
    intro i ih4 hx4
    try dsimp only at ih4
    try dsimp only at hx4
    try dsimp only
    refine EV.l (lv' := [(0, _), (1, _), (2, _), (3, _)]) r_X1_ofSide_4 rfl ?_
    refine EV.l (lv' := [(0, _), (1, _), (2, _), (3, _)]) r_X1_ofSide_5 rfl ?_
    refine EV.getV r_X1_ofSide_6 la_4 (hc.ns) ?_
    refine EV.n2_ge r_X1_ofSide_9 (fun h9 => ?_) (fun h9 => ?_)
    · -- 9 t
      refine EV.l (lv' := [(0, _), (1, _), (2, _), (3, _)]) r_X1_ofSide_37 rfl ?_
      exact EV.rv r_X1_ofSide_38 (by rw [show i = κ.ns by omega]; rfl)
    · -- 9 f
      have b1 := cb.ss i
      refine EV.l (lv' := [(0, _), (1, _), (2, _), (3, _)]) r_X1_ofSide_12 rfl ?_
      refine EV.gR r_X1_ofSide_13 la_4 ?_
      refine EV.l (lv' := [(0, _), (1, _), (2, _), (3, _)]) r_X1_ofSide_16 rfl ?_
      refine EV.cv r_X1_ofSide_17 (aV1 mt_92 la_7) (c_getN (by omega) la_7 la_8 (hc.ss _ (by omega))) ?_
      refine EV.l (lv' := [(0, _), (1, _), (2, _), (3, _)]) r_X1_ofSide_20 rfl ?_
      refine EV.n2_ne r_X1_ofSide_21 (fun h21 => ?_) (fun h21 => ?_)
      · -- 21 t
        refine EV.l (lv' := [(0, _), (1, _), (2, _), (3, _)]) r_X1_ofSide_31 rfl ?_
        rw [inc_nI]
        refine EV.g r_X1_ofSide_34 ?_
        refine EV.sub ?_ rfl ?_ (ih4 (i + 1) ?_ ?_)
        · first | rw [mk_t (p := fun i => decide (κ.ss i = s)) (decide_eq_true (by omega))] | rw [mk_f (p := fun i => decide (κ.ss i = s)) (decide_eq_false (by omega))] | rw [mk_t (p := fun i => decide (κ.ss i = s)) (by assumption)] | rw [mk_f (p := fun i => decide (κ.ss i = s)) (by assumption)]
        · rfl
        · omega
        · omega
      · -- 21 f
        refine EV.l (lv' := [(0, _), (1, _), (2, _), (3, _)]) r_X1_ofSide_24 rfl ?_
        refine EV.l (lv' := [(0, _), (1, _), (2, _), (3, _)]) r_X1_ofSide_25 rfl ?_
        refine EV.cv r_X1_ofSide_26 (aS1 mt_162) (c_bit (by omega) (by omega)) ?_
        refine EV.o r_X1_ofSide_29 iorN ?_
        refine EV.l (lv' := [(0, _), (1, _), (2, _), (3, _)]) r_X1_ofSide_30 rfl ?_
        refine EV.l (lv' := [(0, _), (1, _), (2, _), (3, _)]) r_X1_ofSide_31 rfl ?_
        rw [inc_nI]
        refine EV.g r_X1_ofSide_34 ?_
        refine EV.sub ?_ rfl ?_ (ih4 (i + 1) ?_ ?_)
        · first | rw [mk_t (p := fun i => decide (κ.ss i = s)) (decide_eq_true (by omega))] | rw [mk_f (p := fun i => decide (κ.ss i = s)) (decide_eq_false (by omega))] | rw [mk_t (p := fun i => decide (κ.ss i = s)) (by assumption)] | rw [mk_f (p := fun i => decide (κ.ss i = s)) (by assumption)]
        · rfl
        · omega
        · omega
  have h0 := L4 (0)
  try dsimp only at h0
  refine EV.sub ?_ rfl ?_ (h0 ?_)
  · rfl
  · rfl
  · omega
theorem b_weight {d : Nat} {I : Nat → Nat → Int32} {J : Nat → Nat → Int64} {κ : CT} (hc : HC 4 κ I) (cb : CB κ) {x : Nat} (hx : x < 512)  (hd : 2 ≤ d) : RV d 17 [.ref 4, .int (nI x)] I J (nI (wtOf κ x κ.ns)) := by
  refine RV.in (d0 := 1) hd mt_17 (Nat.le_of_ble_eq_true rfl) (fun d' hd' => ?_)
  have bns := cb.ns; have bnb := cb.nb; have bnc := cb.nc; have bnr := cb.nr
  show EV none M_X1_weightOf d' 0 [(0, .ref 4), (1, .int (nI x))] [] (hp I J) _
  refine EV.o r_X1_weightOf_0 (icN (0) (v := 0)) ?_
  refine EV.l (lv' := [(0, _), (1, _), (2, _)]) r_X1_weightOf_1 rfl ?_
  refine EV.o r_X1_weightOf_2 (icN (0) (v := 0)) ?_
  refine EV.l (lv' := [(0, _), (1, _), (2, _), (3, _)]) r_X1_weightOf_3 rfl ?_
  have L4 : ∀ y_ : Nat, (fun i => i ≤ κ.ns → EV none M_X1_weightOf d' 4 [(0, .ref 4), (1, .int (nI x)), (2, .int (nI (wtOf κ x i))), (3, .int (nI i))] [] (hp I J) (QV I J (nI (wtOf κ x κ.ns)))) y_ := by
    refine ev_loop (fun i => κ.ns - i) ?_
    intro i ih4 hx4
    try dsimp only at ih4
    try dsimp only at hx4
    try dsimp only
    refine EV.l (lv' := [(0, _), (1, _), (2, _), (3, _)]) r_X1_weightOf_4 rfl ?_
    refine EV.l (lv' := [(0, _), (1, _), (2, _), (3, _)]) r_X1_weightOf_5 rfl ?_
    refine EV.getV r_X1_weightOf_6 la_4 (hc.ns) ?_
    refine EV.n2_ge r_X1_weightOf_9 (fun h9 => ?_) (fun h9 => ?_)
    · -- 9 t
      refine EV.l (lv' := [(0, _), (1, _), (2, _), (3, _)]) r_X1_weightOf_37 rfl ?_
      exact EV.rv r_X1_weightOf_38 (by rw [show i = κ.ns by omega])
    · -- 9 f
      refine EV.l (lv' := [(0, _), (1, _), (2, _), (3, _)]) r_X1_weightOf_12 rfl ?_
      refine EV.l (lv' := [(0, _), (1, _), (2, _), (3, _)]) r_X1_weightOf_13 rfl ?_
      refine EV.cv r_X1_weightOf_14 (aS2 mt_163) (c_has (by omega) (by omega) (by omega)) ?_
      refine EV.b0_eq r_X1_weightOf_17 (fun h17 => ?_) (fun h17 => ?_)
      · -- 17 t
        refine EV.l (lv' := [(0, _), (1, _), (2, _), (3, _)]) r_X1_weightOf_31 rfl ?_
        rw [inc_nI]
        refine EV.g r_X1_weightOf_34 ?_
        refine EV.sub ?_ rfl ?_ (ih4 (i + 1) ?_ ?_)
        · first | rw [wtOf_t (by assumption)] | rw [wtOf_f (by assumption)]
        · rfl
        · omega
        · omega
      · -- 17 f
        refine EV.l (lv' := [(0, _), (1, _), (2, _), (3, _)]) r_X1_weightOf_20 rfl ?_
        refine EV.l (lv' := [(0, _), (1, _), (2, _), (3, _)]) r_X1_weightOf_21 rfl ?_
        refine EV.gR r_X1_weightOf_22 la_4 ?_
        refine EV.l (lv' := [(0, _), (1, _), (2, _), (3, _)]) r_X1_weightOf_25 rfl ?_
        refine EV.cv r_X1_weightOf_26 (aV1 mt_92 la_9) (c_getN (by omega) la_9 la_10 (hc.sw _ (by omega))) ?_
        refine EV.o r_X1_weightOf_29 iaddN ?_
        refine EV.l (lv' := [(0, _), (1, _), (2, _), (3, _)]) r_X1_weightOf_30 rfl ?_
        refine EV.l (lv' := [(0, _), (1, _), (2, _), (3, _)]) r_X1_weightOf_31 rfl ?_
        rw [inc_nI]
        refine EV.g r_X1_weightOf_34 ?_
        refine EV.sub ?_ rfl ?_ (ih4 (i + 1) ?_ ?_)
        · first | rw [wtOf_t (by assumption)] | rw [wtOf_f (by assumption)]
        · rfl
        · omega
        · omega
  have h0 := L4 (0)
  try dsimp only at h0
  refine EV.sub ?_ rfl ?_ (h0 ?_)
  · rfl
  · rfl
  · omega
theorem b_isUsed {d : Nat} {I : Nat → Nat → Int32} {J : Nat → Nat → Int64} {κ : CT} (hc : HC 4 κ I) (cb : CB κ) {r x : Nat} (hr : r < κ.nr) (hx : x < 512)  (hd : 2 ≤ d) : RV d 20 [.ref 4, .int (nI r), .int (nI x)] I J (bI (usedB κ x r)) := by
  refine RV.in (d0 := 1) hd mt_20 (Nat.le_of_ble_eq_true rfl) (fun d' hd' => ?_)
  have bns := cb.ns; have bnb := cb.nb; have bnc := cb.nc; have bnr := cb.nr
  have b1 := cb.r1 r hr; have b2 := cb.r2 r hr
  show EV none M_X1_isUsed d' 0 [(0, .ref 4), (1, .int (nI r)), (2, .int (nI x))] [] (hp I J) _
  refine EV.l (lv' := [(0, _), (1, _), (2, _)]) r_X1_isUsed_0 rfl ?_
  refine EV.l (lv' := [(0, _), (1, _), (2, _)]) r_X1_isUsed_1 rfl ?_
  refine EV.gR r_X1_isUsed_2 la_4 ?_
  refine EV.l (lv' := [(0, _), (1, _), (2, _)]) r_X1_isUsed_5 rfl ?_
  refine EV.cv r_X1_isUsed_6 (aV1 mt_92 la_11) (c_getN (by omega) la_11 la_12 (hc.r1 _ (by omega))) ?_
  refine EV.cv r_X1_isUsed_9 (aS2 mt_163) (c_has (by omega) (by omega) (by omega)) ?_
  refine EV.b0_eq r_X1_isUsed_12 (fun h12 => ?_) (fun h12 => ?_)
  · -- 12 t
    refine EV.o r_X1_isUsed_34 (icN (0) (v := 0)) ?_
    exact EV.rv r_X1_isUsed_35 (by unfold usedB; simp only [*] <;> rfl)
  · -- 12 f
    refine EV.l (lv' := [(0, _), (1, _), (2, _)]) r_X1_isUsed_15 rfl ?_
    refine EV.l (lv' := [(0, _), (1, _), (2, _)]) r_X1_isUsed_16 rfl ?_
    refine EV.gR r_X1_isUsed_17 la_4 ?_
    refine EV.l (lv' := [(0, _), (1, _), (2, _)]) r_X1_isUsed_20 rfl ?_
    refine EV.cv r_X1_isUsed_21 (aV1 mt_92 la_13) (c_getN (by omega) la_13 la_14 (hc.r2 _ (by omega))) ?_
    refine EV.cv r_X1_isUsed_24 (aS2 mt_163) (c_has (by omega) (by omega) (by omega)) ?_
    refine EV.b0_eq r_X1_isUsed_27 (fun h27 => ?_) (fun h27 => ?_)
    · -- 27 t
      refine EV.o r_X1_isUsed_34 (icN (0) (v := 0)) ?_
      exact EV.rv r_X1_isUsed_35 (by unfold usedB; simp only [*] <;> rfl)
    · -- 27 f
      refine EV.o r_X1_isUsed_30 (icN (1) (v := 1)) ?_
      refine EV.g r_X1_isUsed_31 ?_
      exact EV.rv r_X1_isUsed_35 (by unfold usedB; simp only [*] <;> rfl)
theorem b_rulesUsed {d : Nat} {I : Nat → Nat → Int32} {J : Nat → Nat → Int64} {κ : CT} (hc : HC 4 κ I) (cb : CB κ) {x : Nat} (hx : x < 512)  (hd : 3 ≤ d) : RV d 21 [.ref 4, .int (nI x)] I J (nI (mk (usedB κ x) κ.nr)) := by
  refine RV.in (d0 := 2) hd mt_21 (Nat.le_of_ble_eq_true rfl) (fun d' hd' => ?_)
  have bns := cb.ns; have bnb := cb.nb; have bnc := cb.nc; have bnr := cb.nr
  show EV none M_X1_rulesUsed d' 0 [(0, .ref 4), (1, .int (nI x))] [] (hp I J) _
  refine EV.o r_X1_rulesUsed_0 (icN (0) (v := 0)) ?_
  refine EV.l (lv' := [(0, _), (1, _), (2, _)]) r_X1_rulesUsed_1 rfl ?_
  refine EV.o r_X1_rulesUsed_2 (icN (0) (v := 0)) ?_
  refine EV.l (lv' := [(0, _), (1, _), (2, _), (3, _)]) r_X1_rulesUsed_3 rfl ?_
  have L4 : ∀ y_ : Nat, (fun i => i ≤ κ.nr → EV none M_X1_rulesUsed d' 4 [(0, .ref 4), (1, .int (nI x)), (2, .int (nI (mk (usedB κ x) i))), (3, .int (nI i))] [] (hp I J) (QV I J (nI (mk (usedB κ x) κ.nr)))) y_ := by
    refine ev_loop (fun i => κ.nr - i) ?_
    intro i ih4 hx4
    try dsimp only at ih4
    try dsimp only at hx4
    try dsimp only
    refine EV.l (lv' := [(0, _), (1, _), (2, _), (3, _)]) r_X1_rulesUsed_4 rfl ?_
    refine EV.l (lv' := [(0, _), (1, _), (2, _), (3, _)]) r_X1_rulesUsed_5 rfl ?_
    refine EV.getV r_X1_rulesUsed_6 la_4 (hc.nr) ?_
    refine EV.n2_ge r_X1_rulesUsed_9 (fun h9 => ?_) (fun h9 => ?_)
    · -- 9 t
      refine EV.l (lv' := [(0, _), (1, _), (2, _), (3, _)]) r_X1_rulesUsed_34 rfl ?_
      exact EV.rv r_X1_rulesUsed_35 (by rw [show i = κ.nr by omega])
    · -- 9 f
      refine EV.l (lv' := [(0, _), (1, _), (2, _), (3, _)]) r_X1_rulesUsed_12 rfl ?_
      refine EV.l (lv' := [(0, _), (1, _), (2, _), (3, _)]) r_X1_rulesUsed_13 rfl ?_
      refine EV.l (lv' := [(0, _), (1, _), (2, _), (3, _)]) r_X1_rulesUsed_14 rfl ?_
      refine EV.cv r_X1_rulesUsed_15 (aV2 mt_20 la_4) (b_isUsed hc cb (by omega) (by omega) (by omega)) ?_
      refine EV.b0_eq r_X1_rulesUsed_18 (fun h18 => ?_) (fun h18 => ?_)
      · -- 18 t
        refine EV.l (lv' := [(0, _), (1, _), (2, _), (3, _)]) r_X1_rulesUsed_28 rfl ?_
        rw [inc_nI]
        refine EV.g r_X1_rulesUsed_31 ?_
        refine EV.sub ?_ rfl ?_ (ih4 (i + 1) ?_ ?_)
        · first | rw [mk_t (p := usedB κ x) (decide_eq_true (by omega))] | rw [mk_f (p := usedB κ x) (decide_eq_false (by omega))] | rw [mk_t (p := usedB κ x) (by assumption)] | rw [mk_f (p := usedB κ x) (by assumption)]
        · rfl
        · omega
        · omega
      · -- 18 f
        refine EV.l (lv' := [(0, _), (1, _), (2, _), (3, _)]) r_X1_rulesUsed_21 rfl ?_
        refine EV.l (lv' := [(0, _), (1, _), (2, _), (3, _)]) r_X1_rulesUsed_22 rfl ?_
        refine EV.cv r_X1_rulesUsed_23 (aS1 mt_162) (c_bit (by omega) (by omega)) ?_
        refine EV.o r_X1_rulesUsed_26 iorN ?_
        refine EV.l (lv' := [(0, _), (1, _), (2, _), (3, _)]) r_X1_rulesUsed_27 rfl ?_
        refine EV.l (lv' := [(0, _), (1, _), (2, _), (3, _)]) r_X1_rulesUsed_28 rfl ?_
        rw [inc_nI]
        refine EV.g r_X1_rulesUsed_31 ?_
        refine EV.sub ?_ rfl ?_ (ih4 (i + 1) ?_ ?_)
        · first | rw [mk_t (p := usedB κ x) (decide_eq_true (by omega))] | rw [mk_f (p := usedB κ x) (decide_eq_false (by omega))] | rw [mk_t (p := usedB κ x) (by assumption)] | rw [mk_f (p := usedB κ x) (by assumption)]
        · rfl
        · omega
        · omega
  have h0 := L4 (0)
  try dsimp only at h0
  refine EV.sub ?_ rfl ?_ (h0 ?_)
  · rfl
  · rfl
  · omega
theorem b_closure {d : Nat} {I : Nat → Nat → Int32} {J : Nat → Nat → Int64} {κ : CT} (hc : HC 4 κ I) (cb : CB κ) {x : Nat} (hx : x < 2 ^ κ.ns)  (hd : 3 ≤ d) : RV d 19 [.ref 4, .int (nI x)] I J (nI (clo κ x)) := by
  refine RV.in (d0 := 2) hd mt_19 (Nat.le_of_ble_eq_true rfl) (fun d' hd' => ?_)
  have bns := cb.ns; have bnb := cb.nb; have bnc := cb.nc; have bnr := cb.nr
  have pn := pow_ns cb
  show EV none M_X1_closure d' 0 [(0, .ref 4), (1, .int (nI x))] [] (hp I J) _
  refine EV.l (lv' := [(0, _), (1, _)]) r_X1_closure_0 rfl ?_
  refine EV.l (lv' := [(0, _), (1, _), (2, _)]) r_X1_closure_1 rfl ?_
  refine EV.o r_X1_closure_2 (icN (0) (v := 0)) ?_
  refine EV.l (lv' := [(0, _), (1, _), (2, _), (3, _)]) r_X1_closure_3 rfl ?_
  have L4 : ∀ y_ : Nat, (fun p => p ≤ 10 → EV none M_X1_closure d' 4 [(0, .ref 4), (1, .int (nI x)), (2, .int (nI (it κ x p))), (3, .int (nI p))] [] (hp I J) (QV I J (nI (clo κ x)))) y_ := by
    refine ev_loop (fun p => 10 - p) ?_
    intro p ih4 hx4
    try dsimp only at ih4
    try dsimp only at hx4
    try dsimp only
    have b3 := it_lt cb hx p
    refine EV.l (lv' := [(0, _), (1, _), (2, _), (3, _)]) r_X1_closure_4 rfl ?_
    refine EV.o r_X1_closure_5 (bpN (9) 9) ?_
    refine EV.n2_gt r_X1_closure_7 (fun h7 => ?_) (fun h7 => ?_)
    · -- 7 t
      refine EV.l (lv' := [(0, _), (1, _), (2, _), (3, _)]) r_X1_closure_70 rfl ?_
      exact EV.rv r_X1_closure_71 (by rw [show p = 10 by omega, it_10 cb hx])
    · -- 7 f
      refine EV.l (lv' := [(0, _), (1, _), (2, _), (3, _)]) r_X1_closure_10 rfl ?_
      refine EV.l (lv' := [(0, _), (1, _), (2, _), (3, _), (4, _)]) r_X1_closure_11 rfl ?_
      refine EV.o r_X1_closure_13 (icN (0) (v := 0)) ?_
      refine EV.l (lv' := [(0, _), (1, _), (2, _), (3, _), (4, _), (5, _)]) r_X1_closure_14 rfl ?_
      have L16 : ∀ y_ : Nat, (fun r => r ≤ κ.nr → EV none M_X1_closure d' 16 [(0, .ref 4), (1, .int (nI x)), (2, .int (nI (rnd κ (it κ x p) r))), (3, .int (nI p)), (4, .int (nI (it κ x p))), (5, .int (nI r))] [] (hp I J) (QV I J (nI (clo κ x)))) y_ := by
        refine ev_loop (fun r => κ.nr - r) ?_
        intro r ih16 hx16
        try dsimp only at ih16
        try dsimp only at hx16
        try dsimp only
        have b4 := rnd_lt cb b3 r hx16
        refine EV.l (lv' := [(0, _), (1, _), (2, _), (3, _), (4, _), (5, _)]) r_X1_closure_16 rfl ?_
        refine EV.l (lv' := [(0, _), (1, _), (2, _), (3, _), (4, _), (5, _)]) r_X1_closure_18 rfl ?_
        refine EV.getV r_X1_closure_19 la_4 (hc.nr) ?_
        refine EV.n2_ge r_X1_closure_22 (fun h22 => ?_) (fun h22 => ?_)
        · -- 22 t
          obtain rfl : r = κ.nr := by omega
          refine EV.l (lv' := [(0, _), (1, _), (2, _), (3, _), (4, _), (5, _)]) r_X1_closure_56 rfl ?_
          refine EV.l (lv' := [(0, _), (1, _), (2, _), (3, _), (4, _), (5, _)]) r_X1_closure_57 rfl ?_
          refine EV.n2_ne r_X1_closure_59 (fun h59 => ?_) (fun h59 => ?_)
          · -- 59 t
            refine EV.l (lv' := [(0, _), (1, _), (2, _), (3, _), (4, _), (5, _)]) r_X1_closure_64 rfl ?_
            rw [inc_nI]
            refine EV.g r_X1_closure_67 ?_
            refine EV.fg (lv' := [(0, _), (1, _), (2, _), (3, _)]) r_X1_closure_4 rfl rfl rfl ?_
            refine EV.sub ?_ rfl ?_ (ih4 (p + 1) ?_ ?_)
            · rfl
            · rfl
            · omega
            · omega
          · -- 59 f
            refine EV.l (lv' := [(0, _), (1, _), (2, _), (3, _), (4, _), (5, _)]) r_X1_closure_62 rfl ?_
            exact EV.rv r_X1_closure_63 (congrArg nI (it_end (by omega) (by assumption)))
        · -- 22 f
          have b5 := cb.r3 r (by omega)
          refine EV.l (lv' := [(0, _), (1, _), (2, _), (3, _), (4, _), (5, _)]) r_X1_closure_25 rfl ?_
          refine EV.l (lv' := [(0, _), (1, _), (2, _), (3, _), (4, _), (5, _)]) r_X1_closure_26 rfl ?_
          refine EV.l (lv' := [(0, _), (1, _), (2, _), (3, _), (4, _), (5, _)]) r_X1_closure_28 rfl ?_
          refine EV.cv r_X1_closure_29 (aV2 mt_20 la_4) (b_isUsed hc cb (by omega) (by omega) (by omega)) ?_
          refine EV.b0_eq r_X1_closure_32 (fun h32 => ?_) (fun h32 => ?_)
          · -- 32 t
            refine EV.l (lv' := [(0, _), (1, _), (2, _), (3, _), (4, _), (5, _)]) r_X1_closure_50 rfl ?_
            rw [inc_nI]
            refine EV.g r_X1_closure_53 ?_
            refine EV.sub ?_ rfl ?_ (ih16 (r + 1) ?_ ?_)
            · first | rw [rnd_t (by assumption)] | rw [rnd_f (by assumption)]
            · rfl
            · omega
            · omega
          · -- 32 f
            refine EV.l (lv' := [(0, _), (1, _), (2, _), (3, _), (4, _), (5, _)]) r_X1_closure_35 rfl ?_
            refine EV.l (lv' := [(0, _), (1, _), (2, _), (3, _), (4, _), (5, _)]) r_X1_closure_36 rfl ?_
            refine EV.gR r_X1_closure_37 la_4 ?_
            refine EV.l (lv' := [(0, _), (1, _), (2, _), (3, _), (4, _), (5, _)]) r_X1_closure_40 rfl ?_
            refine EV.cv r_X1_closure_42 (aV1 mt_92 la_15) (c_getN (by omega) la_15 la_16 (hc.r3 _ (by omega))) ?_
            refine EV.cv r_X1_closure_45 (aS1 mt_162) (c_bit (by omega) (by omega)) ?_
            refine EV.o r_X1_closure_48 iorN ?_
            refine EV.l (lv' := [(0, _), (1, _), (2, _), (3, _), (4, _), (5, _)]) r_X1_closure_49 rfl ?_
            refine EV.l (lv' := [(0, _), (1, _), (2, _), (3, _), (4, _), (5, _)]) r_X1_closure_50 rfl ?_
            rw [inc_nI]
            refine EV.g r_X1_closure_53 ?_
            refine EV.sub ?_ rfl ?_ (ih16 (r + 1) ?_ ?_)
            · first | rw [rnd_t (by assumption)] | rw [rnd_f (by assumption)]
            · rfl
            · omega
            · omega
      have h0 := L16 (0)
      try dsimp only at h0
      refine EV.sub ?_ rfl ?_ (h0 ?_)
      · rfl
      · rfl
      · omega
  have h0 := L4 (0)
  try dsimp only at h0
  refine EV.sub ?_ rfl ?_ (h0 ?_)
  · rfl
  · rfl
  · omega
theorem b_lean {d : Nat} {I : Nat → Nat → Int32} {J : Nat → Nat → Int64} {κ : CT} (hc : HC 4 κ I) (cb : CB κ) {x : Nat} (hx : x < 2 ^ κ.ns)  (hd : 4 ≤ d) : RV d 22 [.ref 4, .int (nI x)] I J (zI (lean κ x)) := by
  refine RV.in (d0 := 3) hd mt_22 (Nat.le_of_ble_eq_true rfl) (fun d' hd' => ?_)
  have bns := cb.ns; have bnb := cb.nb; have bnc := cb.nc; have bnr := cb.nr
  have pn := pow_ns cb; have px := clo_lt cb hx
  show EV none M_X1_leanFrom d' 0 [(0, .ref 4), (1, .int (nI x))] [] (hp I J) _
  refine EV.l (lv' := [(0, _), (1, _)]) r_X1_leanFrom_0 rfl ?_
  refine EV.l (lv' := [(0, _), (1, _)]) r_X1_leanFrom_1 rfl ?_
  refine EV.cv r_X1_leanFrom_2 (aV1 mt_19 la_4) (b_closure hc cb hx (by omega)) ?_
  refine EV.l (lv' := [(0, _), (1, _), (2, _)]) r_X1_leanFrom_5 rfl ?_
  refine EV.o r_X1_leanFrom_6 (icN (0) (v := 0)) ?_
  refine EV.l (lv' := [(0, _), (1, _), (2, _), (3, _)]) r_X1_leanFrom_7 rfl ?_
  refine EV.o r_X1_leanFrom_8 (icN (0) (v := 0)) ?_
  refine EV.l (lv' := [(0, _), (1, _), (2, _), (3, _), (4, _)]) r_X1_leanFrom_9 rfl ?_
  have L11 : ∀ y_ : Nat, (fun i => i ≤ κ.ns → EV none M_X1_leanFrom d' 11 [(0, .ref 4), (1, .int (nI x)), (2, .int (nI (clo κ x))), (3, .int (zI (leanN κ (clo κ x) i))), (4, .int (nI i))] [] (hp I J) (QV I J (zI (lean κ x)))) y_ := by
    refine ev_loop (fun i => κ.ns - i) ?_
    intro i ih11 hx11
    try dsimp only at ih11
    try dsimp only at hx11
    try dsimp only
    have b1 := cb.ss i; have b2 := cb.sw i
    refine EV.l (lv' := [(0, _), (1, _), (2, _), (3, _), (4, _)]) r_X1_leanFrom_11 rfl ?_
    refine EV.l (lv' := [(0, _), (1, _), (2, _), (3, _), (4, _)]) r_X1_leanFrom_13 rfl ?_
    refine EV.getV r_X1_leanFrom_14 la_4 (hc.ns) ?_
    refine EV.n2_ge r_X1_leanFrom_17 (fun h17 => ?_) (fun h17 => ?_)
    · -- 17 t
      refine EV.l (lv' := [(0, _), (1, _), (2, _), (3, _), (4, _)]) r_X1_leanFrom_73 rfl ?_
      exact EV.rv r_X1_leanFrom_74 (by rw [show i = κ.ns by omega]; rfl)
    · -- 17 f
      refine EV.l (lv' := [(0, _), (1, _), (2, _), (3, _), (4, _)]) r_X1_leanFrom_20 rfl ?_
      refine EV.l (lv' := [(0, _), (1, _), (2, _), (3, _), (4, _)]) r_X1_leanFrom_21 rfl ?_
      refine EV.cv r_X1_leanFrom_23 (aS2 mt_163) (c_has (by omega) (by omega) (by omega)) ?_
      refine EV.b0_eq r_X1_leanFrom_26 (fun h26 => ?_) (fun h26 => ?_)
      · -- 26 t
        refine EV.l (lv' := [(0, _), (1, _), (2, _), (3, _), (4, _)]) r_X1_leanFrom_67 rfl ?_
        rw [inc_nI]
        refine EV.g r_X1_leanFrom_70 ?_
        refine EV.sub ?_ rfl ?_ (ih11 (i + 1) ?_ ?_)
        · first | rw [leanN_1 (by assumption) (by assumption)] | rw [leanN_0 (by assumption) (by assumption)] | rw [leanN_f (by assumption)]
        · rfl
        · omega
        · omega
      · -- 26 f
        refine EV.l (lv' := [(0, _), (1, _), (2, _), (3, _), (4, _)]) r_X1_leanFrom_29 rfl ?_
        refine EV.l (lv' := [(0, _), (1, _), (2, _), (3, _), (4, _)]) r_X1_leanFrom_30 rfl ?_
        refine EV.gR r_X1_leanFrom_31 la_4 ?_
        refine EV.l (lv' := [(0, _), (1, _), (2, _), (3, _), (4, _)]) r_X1_leanFrom_34 rfl ?_
        refine EV.cv r_X1_leanFrom_36 (aV1 mt_92 la_7) (c_getN (by omega) la_7 la_8 (hc.ss _ (by omega))) ?_
        refine EV.o r_X1_leanFrom_39 (icN (1) (v := 1)) ?_
        refine EV.n2_ne r_X1_leanFrom_40 (fun h40 => ?_) (fun h40 => ?_)
        · -- 40 t
          refine EV.l (lv' := [(0, _), (1, _), (2, _), (3, _), (4, _)]) r_X1_leanFrom_55 rfl ?_
          refine EV.gR r_X1_leanFrom_56 la_4 ?_
          refine EV.l (lv' := [(0, _), (1, _), (2, _), (3, _), (4, _)]) r_X1_leanFrom_59 rfl ?_
          refine EV.cv r_X1_leanFrom_61 (aV1 mt_92 la_9) (c_getN (by omega) la_9 la_10 (hc.sw _ (by omega))) ?_
          refine EV.o r_X1_leanFrom_64 (inegN) ?_
          refine EV.o r_X1_leanFrom_65 iaddZ ?_
          refine EV.l (lv' := [(0, _), (1, _), (2, _), (3, _), (4, _)]) r_X1_leanFrom_66 rfl ?_
          refine EV.l (lv' := [(0, _), (1, _), (2, _), (3, _), (4, _)]) r_X1_leanFrom_67 rfl ?_
          rw [inc_nI]
          refine EV.g r_X1_leanFrom_70 ?_
          refine EV.sub ?_ rfl ?_ (ih11 (i + 1) ?_ ?_)
          · first | rw [leanN_1 (by assumption) (by assumption)] | rw [leanN_0 (by assumption) (by assumption)] | rw [leanN_f (by assumption)]
          · rfl
          · omega
          · omega
        · -- 40 f
          refine EV.l (lv' := [(0, _), (1, _), (2, _), (3, _), (4, _)]) r_X1_leanFrom_43 rfl ?_
          refine EV.gR r_X1_leanFrom_44 la_4 ?_
          refine EV.l (lv' := [(0, _), (1, _), (2, _), (3, _), (4, _)]) r_X1_leanFrom_47 rfl ?_
          refine EV.cv r_X1_leanFrom_49 (aV1 mt_92 la_9) (c_getN (by omega) la_9 la_10 (hc.sw _ (by omega))) ?_
          refine EV.g r_X1_leanFrom_52 ?_
          refine EV.o r_X1_leanFrom_65 iaddZN ?_
          refine EV.l (lv' := [(0, _), (1, _), (2, _), (3, _), (4, _)]) r_X1_leanFrom_66 rfl ?_
          refine EV.l (lv' := [(0, _), (1, _), (2, _), (3, _), (4, _)]) r_X1_leanFrom_67 rfl ?_
          rw [inc_nI]
          refine EV.g r_X1_leanFrom_70 ?_
          refine EV.sub ?_ rfl ?_ (ih11 (i + 1) ?_ ?_)
          · first | rw [leanN_1 (by assumption) (by assumption)] | rw [leanN_0 (by assumption) (by assumption)] | rw [leanN_f (by assumption)]
          · rfl
          · omega
          · omega
  have h0 := L11 (0)
  try dsimp only at h0
  refine EV.sub ?_ rfl ?_ (h0 ?_)
  · rfl
  · rfl
  · omega
