/-! A BOOK as one value, and read by the class. -/
abbrev BX : Type := (Nat × Nat) × RST
def lnA (g : Nat → Nat) (n m s : Nat) : Nat × RST := tkN g n 0 ((m : Int) - ((1 : Nat) : Int)) (.inl s)
def lnB (g : Nat → Nat) (n m s : Nat) : Nat × RST := tkN g n 0 ((1 : Nat) : Int) (lnA g n m s).2
def linT (g : Nat → Nat) (n m : Nat) (b : Nat × Nat) (s : Nat) : BX := if kdp g n s = 1 ∧ nvl g n s < m ∧ b.1.testBit (nvl g n s) = true then (b, .inr (2, s)) else ((b.1 ||| 2 ^ (lnA g n m s).1, b.2 ||| (lnB g n m s).1 * 2 ^ (lnA g n m s).1), (lnB g n m s).2)
def linB (g : Nat → Nat) (n m : Nat) (b : Nat × Nat) (s : Nat) : BX := ((linT g n m b s).1, tkS g n 59 (linT g n m b s).2)
def linsB (g : Nat → Nat) (n m : Nat) : Nat → BX → BX
  | 0, x => x
  | k + 1, x => match x.2 with
    | .inl s => if s < n then linsB g n m k (linB g n m x.1 s) else x
    | .inr _ => x
theorem linsB_go {g : Nat → Nat} {n m k s : Nat} {b : Nat × Nat} (h : s < n) : linsB g n m (k + 1) (b, .inl s) = linsB g n m k (linB g n m b s) := if_pos h
theorem linsB_bad {g : Nat → Nat} {n m k : Nat} {b : Nat × Nat} {q : Nat × Nat} : linsB g n m k (b, .inr q) = (b, .inr q) := by cases k <;> rfl
theorem linsB_end {g : Nat → Nat} {n m k s : Nat} {b : Nat × Nat} (h : n ≤ s) : linsB g n m k (b, .inl s) = (b, .inl s) := by
  cases k with
  | zero => rfl
  | succ k => exact if_neg (by omega)
/-- what a line without a fault says -/
theorem linT_ok {g : Nat → Nat} {n m s s2 : Nat} {b : Nat × Nat} (h : (linT g n m b s).2 = .inl s2) : (lnA g n m s).1 < m ∧ (lnB g n m s).1 ≤ 1 ∧ b.1.testBit (lnA g n m s).1 = false ∧ s < s2 ∧ (s ≤ n → s2 ≤ n) ∧ (linT g n m b s).1 = (b.1 ||| 2 ^ (lnA g n m s).1, b.2 ||| (lnB g n m s).1 * 2 ^ (lnA g n m s).1) := by
  by_cases z : kdp g n s = 1 ∧ nvl g n s < m ∧ b.1.testBit (nvl g n s) = true
  · have e : linT g n m b s = (b, .inr (2, s)) := if_pos z
    rw [e] at h
    exact inr_ne h
  · have e : linT g n m b s = ((b.1 ||| 2 ^ (lnA g n m s).1, b.2 ||| (lnB g n m s).1 * 2 ^ (lnA g n m s).1), (lnB g n m s).2) := if_neg z
    rw [e] at h ⊢
    have h : (lnB g n m s).2 = .inl s2 := h
    have b2 := tkN_b (show (tkN g n 0 ((1 : Nat) : Int) (lnA g n m s).2).2 = .inl s2 from h)
    obtain ⟨s1, e1⟩ := tkN_ok (show (tkN g n 0 ((1 : Nat) : Int) (lnA g n m s).2).2 = .inl s2 from h)
    have b1 := tkN_b (show (tkN g n 0 ((m : Int) - ((1 : Nat) : Int)) (.inl s)).2 = .inl s1 from e1)
    have p1 := tkN_q (show (tkN g n 0 ((m : Int) - ((1 : Nat) : Int)) (.inl s)).2 = .inl s1 from e1)
    have p2 : s1 < s2 ∧ (s1 ≤ n → s2 ≤ n) := by
      have h := h
      unfold lnB at h
      rw [e1] at h
      exact tkN_q h
    have c1 : (lnA g n m s).1 < m := lt_of_m1 b1.2
    refine ⟨c1, Int.ofNat_le.mp b2.2, ?_, by omega, fun hs => p2.2 (p1.2 hs), rfl⟩
    by_cases k : kdp g n s = 1
    · by_cases o : nvl g n s < 0 ∨ ((m : Int) - ((1 : Nat) : Int)) < (nvl g n s : Int)
      · have e2 : lnA g n m s = (0, .inr (2, s)) := (if_pos k).trans (if_pos o)
        rw [e2] at e1
        exact inr_ne e1
      · have e2 : lnA g n m s = (nvl g n s, .inl (nxp g n s)) := (if_pos k).trans (if_neg o)
        rw [e2] at c1 ⊢
        exact Bool.eq_false_iff.mpr fun z2 => z ⟨k, c1, z2⟩
    · have e2 : lnA g n m s = (0, .inr (1, s)) := if_neg k
      rw [e2] at e1
      exact inr_ne e1
theorem or_pow_lt {a i m : Nat} (h : a < 2 ^ m) (hi : i < m) : a ||| 2 ^ i < 2 ^ m := Nat.or_lt_two_pow h (Nat.pow_lt_pow_right (by decide) hi)
theorem or_bit {a i j : Nat} : (a ||| 2 ^ i).testBit j = (a.testBit j || decide (i = j)) := by rw [Nat.testBit_or, Nat.testBit_two_pow]
theorem or_mul {y i j : Nat} (hy : y ≤ 1) : (y * 2 ^ i).testBit j = (decide (i = j) && decide (y = 1)) := by
  obtain rfl | rfl : y = 0 ∨ y = 1 := by omega
  · rw [Nat.zero_mul, Nat.zero_testBit]
    exact (Bool.and_false _).symm
  · rw [Nat.one_mul, Nat.testBit_two_pow]
    exact (Bool.and_true _).symm
theorem pcn_or {a i : Nat} (h : a.testBit i = false) : ∀ k, pcn (a ||| 2 ^ i) k = pcn a k + if i < k then 1 else 0
  | 0 => rfl
  | k + 1 => by
    have ih := pcn_or (a := a) (i := i) h k
    show pcn (a ||| 2 ^ i) k + ((a ||| 2 ^ i).testBit k).toNat = pcn a k + (a.testBit k).toNat + _
    rw [ih, or_bit]
    by_cases e : i = k
    · subst e
      rw [h, if_neg (Nat.lt_irrefl _), if_pos (Nat.lt_succ_self _), decide_eq_true rfl]
      rfl
    · rw [decide_eq_false e, Bool.or_false]
      by_cases e2 : i < k
      · rw [if_pos e2, if_pos (by omega)]; omega
      · rw [if_neg e2, if_neg (by omega)]; omega
/-- lines as they are kept -/
def BB (m : Nat) (b : Nat × Nat) : Prop := (b.1 < 2 ^ m) ∧ (b.2 &&& b.1 = b.2)
theorem BB.t {m : Nat} {b : Nat × Nat} (h_ : BB m b) : b.1 < 2 ^ m := h_.1
theorem BB.r {m : Nat} {b : Nat × Nat} (h_ : BB m b) : b.2 &&& b.1 = b.2 := h_.2
theorem BB.lin {g : Nat → Nat} {n m s s2 : Nat} {b : Nat × Nat} (h : BB m b) (e : (linT g n m b s).2 = .inl s2) : BB m (linT g n m b s).1 := by
  have k := linT_ok e
  rw [k.2.2.2.2.2]
  refine ⟨or_pow_lt h.t k.1, Nat.eq_of_testBit_eq fun j => ?_⟩
  have hj : (b.2 &&& b.1).testBit j = b.2.testBit j := by rw [h.r]
  rw [Nat.testBit_and] at hj
  show ((b.2 ||| _) &&& (b.1 ||| _)).testBit j = (b.2 ||| _).testBit j
  rw [Nat.testBit_and, Nat.testBit_or, or_bit, or_mul k.2.1]
  by_cases e : (lnA g n m s).1 = j
  · rw [decide_eq_true e]
    simp
  · rw [decide_eq_false e]
    simpa using hj
theorem BB.lins {g : Nat → Nat} {n m s2 : Nat} : ∀ k (x : BX), BB m x.1 → (linsB g n m k x).2 = .inl s2 → BB m (linsB g n m k x).1
  | 0, x, h, _ => h
  | k + 1, x, h, e => by
    obtain ⟨b, r⟩ := x
    cases r with
    | inr q =>
      rw [linsB_bad] at e
      exact inr_ne e
    | inl s =>
      by_cases hs : s < n
      · rw [linsB_go hs] at e ⊢
        cases e1 : (linT g n m b s).2 with
        | inl s3 => exact BB.lins k _ (h.lin e1) e
        | inr q =>
          have e3 : linB g n m b s = ((linT g n m b s).1, .inr q) := by unfold linB; rw [e1]; rfl
          rw [e3, linsB_bad] at e
          exact inr_ne e
      · rw [linsB_end (Nat.le_of_not_lt hs)]
        exact h
def bookT (g : Nat → Nat) (n m : Nat) : BX := linsB g n m 60 ((0, 0), .inl (scp isB g n 0))
theorem BB.z {m : Nat} : BB m (0, 0) := ⟨Nat.two_pow_pos _, rfl⟩
theorem bookT_ok {g : Nat → Nat} {n m s2 : Nat} (h : (bookT g n m).2 = .inl s2) : BB m (bookT g n m).1 := BB.lins 60 _ BB.z h
/-- the Reader and the scratch book alone were at work -/
def BF (I I' : Nat → Nat → Int32) : Prop := ∀ o, o ≠ 1 → o ≠ 61 → I' o = I o
theorem BF.rf {I : Nat → Nat → Int32} : BF I I := fun _ _ _ => rfl
theorem BF.tr {I I1 I2 : Nat → Nat → Int32} (h : BF I I1) (h2 : BF I1 I2) : BF I I2 := fun o a b => (h2 o a b).trans (h o a b)
theorem RO.bf {I I' : Nat → Nat → Int32} (h : RO I I') : BF I I' := fun o a _ => h o a
theorem BF.ts {I I' : Nat → Nat → Int32} (h : BF I I') {o : Nat} (ho : tsc o = false) : I' o = I o := h o (tsc_1 ho).1 (by have := (tsc_1 ho).2.2.2; omega)
def LSb (g : Nat → Nat) (n m : Nat) (x : BX) (I : Nat → Nat → Int32) : Prop := (∀ j, j < 600 → I 3 j = nI (g j)) ∧ RD g n x.2 I ∧ ∀ s, x.2 = .inl s → I 61 0 = nI x.1.1 ∧ I 61 1 = nI x.1.2 ∧ BB m x.1
theorem LSb.rg {g : Nat → Nat} {n m s : Nat} {b : Nat × Nat} {I : Nat → Nat → Int32} (h : LSb g n m (b, .inl s) I) : RG g n s I := h.2.1
theorem LSb.sgn {g : Nat → Nat} {n m c : Nat} {x : BX} {I I' : Nat → Nat → Int32} (h : LSb g n m x I) (rd : RD g n (tkS g n c x.2) I') (f : RO I I') : LSb g n m (x.1, tkS g n c x.2) I' := ⟨tp_fr h.1 (f 3 (by decide)), rd, fun s2 e => by
  obtain ⟨s, e1⟩ := tkS_ok e
  have z := h.2.2 s e1
  rw [f 61 (by decide)]
  exact z⟩
theorem c_numM {d : Nat} {I : Nat → Nat → Int32} {J : Nat → Nat → Int64} {g : Nat → Nat} {n m : Nat} {r : RST} (tp : ∀ j, j < 600 → I 3 j = nI (g j)) (gb : ∀ j, g j < 256) (hn : n ≤ 600) (rd : RD g n r I) (hm : m ≤ 9) (hd : 4 ≤ d) : RI d 85 [.ref 1, .int (nI 0), .int (zI ((m : Int) - ((1 : Nat) : Int)))] I J (fun v I' => ∃ x, v = nI x ∧ x < 9 ∧ RD g n (tkN g n 0 ((m : Int) - ((1 : Nat) : Int)) r).2 I' ∧ (∀ s2, (tkN g n 0 ((m : Int) - ((1 : Nat) : Int)) r).2 = .inl s2 → x = (tkN g n 0 ((m : Int) - ((1 : Nat) : Int)) r).1) ∧ RO I I') := by
  refine (c_num (J := J) (lo := 0) (hi := (m : Int) - ((1 : Nat) : Int)) tp gb hn rd (by omega) (by omega) (by omega) hd).mono (fun v I' p => ?_)
  obtain ⟨p1, p2, p3, p4⟩ := p
  cases e : (tkN g n 0 ((m : Int) - ((1 : Nat) : Int)) r).2 with
  | inl s2 =>
    rw [e] at p1
    have b := lt_of_m1 (tkN_b e).2
    exact ⟨_, p2 s2 e, by omega, p1, fun _ _ => rfl, p4⟩
  | inr q =>
    rw [e] at p1
    exact ⟨0, p3 q e, by decide, p1, fun s2 z => absurd z (by simp), p4⟩
theorem p1_le {x : Nat} (h : x < 9) : 2 ^ x ≤ 256 := Nat.le_trans (Nat.pow_le_pow_right (by decide) (show x ≤ 8 by omega)) (by decide)
theorem yp_le {x y : Nat} (h : x < 9) (hy : y ≤ 1) : y * 2 ^ x ≤ 256 := Nat.le_trans (Nat.mul_le_mul hy (p1_le h)) (by decide)
theorem BB.b {m : Nat} {b : Nat × Nat} (h : BB m b) (hm : m ≤ 9) : b.1 < 512 := Nat.lt_of_lt_of_le h.t (Nat.pow_le_pow_right (by decide) hm)
/-- where the reading of a book stands -/
def BLI (g : Nat → Nat) (n m s0 : Nat) (I : Nat → Nat → Int32) (i : Nat) (x : BX) (M : Nat → Nat → Int32) : Prop := LSb g n m x M ∧ BF I M ∧ i ≤ 60 ∧ (∀ s, x.2 = .inl s → i ≤ s) ∧ linsB g n m (60 - i) x = linsB g n m 60 ((0, 0), .inl s0)
theorem BLI.fin {g : Nat → Nat} {n m s0 i : Nat} {x : BX} {I M : Nat → Nat → Int32} (h : BLI g n m s0 I i x M) (hn : n ≤ 60) (e : 60 ≤ i ∨ mor n x.2 = false) : LSb g n m (linsB g n m 60 ((0, 0), .inl s0)) M ∧ BF I M := by
  obtain ⟨h1, h2, h3, h4, h5⟩ := h
  rw [← h5]
  obtain ⟨b, r⟩ := x
  cases r with
  | inr q => rw [linsB_bad]; exact ⟨h1, h2⟩
  | inl s =>
    have hs : n ≤ s := by
      rcases e with e | e
      · have := h4 s rfl
        omega
      · exact mor_f e rfl
    rw [linsB_end hs]
    exact ⟨h1, h2⟩
theorem BLI.next {g : Nat → Nat} {n m s0 i s : Nat} {b : Nat × Nat} {I M M2 : Nat → Nat → Int32} (h : BLI g n m s0 I i (b, .inl s) M) (hs : s < n) (hi : i < 60) (ls : LSb g n m (linB g n m b s) M2) (bf : BF M M2) : BLI g n m s0 I (i + 1) (linB g n m b s) M2 := by
  obtain ⟨h1, h2, h3, h4, h5⟩ := h
  refine ⟨ls, h2.tr bf, hi, fun s2 e => ?_, ?_⟩
  · obtain ⟨s3, e3, h3, -⟩ := tkS_q (show tkS g n 59 (linT g n m b s).2 = .inl s2 from e)
    have k := linT_ok e3
    have := h4 s rfl
    omega
  · rw [← h5, show 60 - i = 60 - (i + 1) + 1 by omega, linsB_go hs]
/-- a BOOK is taken -/
def STT.bok (S : STT) (b : Nat × Nat) : STT := STT.mk S.κ S.l S.η 0 S.tp S.rf b.1 b.2 (zI (-1)) S.w S.ps S.im S.iw S.ip S.r0 S.r1
theorem SB.bok {S : STT} {b : Nat × Nat} (h : SB S) (c : BB S.κ.ns b) : SB (S.bok b) := ⟨h.cb, h.hb, h.wm, h.lb, Nat.zero_le _, h.tp, h.rf, c.t, c.r, h.w, h.ps, h.im, h.iw, h.ip, h.m4, h.pm, h.qm⟩
theorem r_X0_become_0 : RW M_X0_become 0 (.aload_n 0) 1 0 0 1 := ⟨rfl, rfl⟩
theorem r_X0_become_1 : RW M_X0_become 1 (.aload_n 1) 1 0 0 2 := ⟨rfl, rfl⟩
theorem r_X0_become_2 : RW M_X0_become 2 (.getfield 9) 3 0 0 5 := ⟨rfl, rfl⟩
theorem r_X0_become_5 : RW M_X0_become 5 (.putfield 9) 3 0 0 8 := ⟨rfl, rfl⟩
theorem r_X0_become_8 : RW M_X0_become 8 (.aload_n 0) 1 0 0 9 := ⟨rfl, rfl⟩
theorem r_X0_become_9 : RW M_X0_become 9 (.aload_n 1) 1 0 0 10 := ⟨rfl, rfl⟩
theorem r_X0_become_10 : RW M_X0_become 10 (.getfield 15) 3 0 1 13 := ⟨rfl, rfl⟩
theorem r_X0_become_13 : RW M_X0_become 13 (.putfield 15) 3 0 1 16 := ⟨rfl, rfl⟩
theorem r_X0_become_16 : RW M_X0_become 16 (.return_) 1 0 0 17 := ⟨rfl, rfl⟩
theorem r_X0_readFrom_0 : RW M_X0_readFrom 0 (.aload_n 0) 1 0 0 1 := ⟨rfl, rfl⟩
theorem r_X0_readFrom_1 : RW M_X0_readFrom 1 (.invokevirtual 18) 3 1 0 4 := ⟨rfl, rfl⟩
theorem r_X0_readFrom_4 : RW M_X0_readFrom 4 (.iconst 0) 1 0 0 5 := ⟨rfl, rfl⟩
theorem r_X0_readFrom_5 : RW M_X0_readFrom 5 (.istore_n 3) 1 0 0 6 := ⟨rfl, rfl⟩
theorem r_X0_readFrom_6 : RW M_X0_readFrom 6 (.iload_n 3) 1 0 0 7 := ⟨rfl, rfl⟩
theorem r_X0_readFrom_7 : RW M_X0_readFrom 7 (.bipush 60) 2 0 0 9 := ⟨rfl, rfl⟩
theorem r_X0_readFrom_9 : RW M_X0_readFrom 9 (.if_icmp .ge 28) 3 37 0 12 := ⟨rfl, rfl⟩
theorem r_X0_readFrom_12 : RW M_X0_readFrom 12 (.aload_n 1) 1 0 0 13 := ⟨rfl, rfl⟩
theorem r_X0_readFrom_13 : RW M_X0_readFrom 13 (.invokevirtual 21) 3 81 0 16 := ⟨rfl, rfl⟩
theorem r_X0_readFrom_16 : RW M_X0_readFrom 16 (.ifCond .eq 21) 3 37 0 19 := ⟨rfl, rfl⟩
theorem r_X0_readFrom_19 : RW M_X0_readFrom 19 (.aload_n 0) 1 0 0 20 := ⟨rfl, rfl⟩
theorem r_X0_readFrom_20 : RW M_X0_readFrom 20 (.aload_n 1) 1 0 0 21 := ⟨rfl, rfl⟩
theorem r_X0_readFrom_21 : RW M_X0_readFrom 21 (.iload_n 2) 1 0 0 22 := ⟨rfl, rfl⟩
theorem r_X0_readFrom_22 : RW M_X0_readFrom 22 (.invokevirtual 27) 3 4 0 25 := ⟨rfl, rfl⟩
theorem r_X0_readFrom_25 : RW M_X0_readFrom 25 (.aload_n 1) 1 0 0 26 := ⟨rfl, rfl⟩
theorem r_X0_readFrom_26 : RW M_X0_readFrom 26 (.bipush 59) 2 0 0 28 := ⟨rfl, rfl⟩
theorem r_X0_readFrom_28 : RW M_X0_readFrom 28 (.invokevirtual 31) 3 86 0 31 := ⟨rfl, rfl⟩
theorem r_X0_readFrom_31 : RW M_X0_readFrom 31 (.iinc 3 1) 3 0 0 34 := ⟨rfl, rfl⟩
theorem r_X0_readFrom_34 : RW M_X0_readFrom 34 (.goto (-28)) 3 6 0 37 := ⟨rfl, rfl⟩
theorem r_X0_readFrom_37 : RW M_X0_readFrom 37 (.return_) 1 0 0 38 := ⟨rfl, rfl⟩
theorem r_X0_readLine_0 : RW M_X0_readLine 0 (.aload_n 1) 1 0 0 1 := ⟨rfl, rfl⟩
theorem r_X0_readLine_1 : RW M_X0_readLine 1 (.invokevirtual 35) 3 82 0 4 := ⟨rfl, rfl⟩
theorem r_X0_readLine_4 : RW M_X0_readLine 4 (.ifCond .eq 31) 3 35 0 7 := ⟨rfl, rfl⟩
theorem r_X0_readLine_7 : RW M_X0_readLine 7 (.aload_n 1) 1 0 0 8 := ⟨rfl, rfl⟩
theorem r_X0_readLine_8 : RW M_X0_readLine 8 (.getfield 38) 3 6 6 11 := ⟨rfl, rfl⟩
theorem r_X0_readLine_11 : RW M_X0_readLine 11 (.iload_n 2) 1 0 0 12 := ⟨rfl, rfl⟩
theorem r_X0_readLine_12 : RW M_X0_readLine 12 (.if_icmp .ge 23) 3 35 0 15 := ⟨rfl, rfl⟩
theorem r_X0_readLine_15 : RW M_X0_readLine 15 (.aload_n 0) 1 0 0 16 := ⟨rfl, rfl⟩
theorem r_X0_readLine_16 : RW M_X0_readLine 16 (.getfield 9) 3 0 0 19 := ⟨rfl, rfl⟩
theorem r_X0_readLine_19 : RW M_X0_readLine 19 (.aload_n 1) 1 0 0 20 := ⟨rfl, rfl⟩
theorem r_X0_readLine_20 : RW M_X0_readLine 20 (.getfield 38) 3 6 6 23 := ⟨rfl, rfl⟩
theorem r_X0_readLine_23 : RW M_X0_readLine 23 (.invokestatic 41) 3 163 0 26 := ⟨rfl, rfl⟩
theorem r_X0_readLine_26 : RW M_X0_readLine 26 (.ifCond .eq 9) 3 35 0 29 := ⟨rfl, rfl⟩
theorem r_X0_readLine_29 : RW M_X0_readLine 29 (.aload_n 1) 1 0 0 30 := ⟨rfl, rfl⟩
theorem r_X0_readLine_30 : RW M_X0_readLine 30 (.iconst 2) 1 0 0 31 := ⟨rfl, rfl⟩
theorem r_X0_readLine_31 : RW M_X0_readLine 31 (.invokevirtual 45) 3 88 0 34 := ⟨rfl, rfl⟩
theorem r_X0_readLine_34 : RW M_X0_readLine 34 (.return_) 1 0 0 35 := ⟨rfl, rfl⟩
theorem r_X0_readLine_35 : RW M_X0_readLine 35 (.aload_n 1) 1 0 0 36 := ⟨rfl, rfl⟩
theorem r_X0_readLine_36 : RW M_X0_readLine 36 (.iconst 0) 1 0 0 37 := ⟨rfl, rfl⟩
theorem r_X0_readLine_37 : RW M_X0_readLine 37 (.iload_n 2) 1 0 0 38 := ⟨rfl, rfl⟩
theorem r_X0_readLine_38 : RW M_X0_readLine 38 (.iconst 1) 1 0 0 39 := ⟨rfl, rfl⟩
theorem r_X0_readLine_39 : RW M_X0_readLine 39 (.isub) 1 0 0 40 := ⟨rfl, rfl⟩
theorem r_X0_readLine_40 : RW M_X0_readLine 40 (.invokevirtual 49) 3 85 0 43 := ⟨rfl, rfl⟩
theorem r_X0_readLine_43 : RW M_X0_readLine 43 (.istore_n 3) 1 0 0 44 := ⟨rfl, rfl⟩
theorem r_X0_readLine_44 : RW M_X0_readLine 44 (.aload_n 1) 1 0 0 45 := ⟨rfl, rfl⟩
theorem r_X0_readLine_45 : RW M_X0_readLine 45 (.iconst 0) 1 0 0 46 := ⟨rfl, rfl⟩
theorem r_X0_readLine_46 : RW M_X0_readLine 46 (.iconst 1) 1 0 0 47 := ⟨rfl, rfl⟩
theorem r_X0_readLine_47 : RW M_X0_readLine 47 (.invokevirtual 49) 3 85 0 50 := ⟨rfl, rfl⟩
theorem r_X0_readLine_50 : RW M_X0_readLine 50 (.istore 4) 2 0 0 52 := ⟨rfl, rfl⟩
theorem r_X0_readLine_52 : RW M_X0_readLine 52 (.aload_n 0) 1 0 0 53 := ⟨rfl, rfl⟩
theorem r_X0_readLine_53 : RW M_X0_readLine 53 (.dup) 1 0 0 54 := ⟨rfl, rfl⟩
theorem r_X0_readLine_54 : RW M_X0_readLine 54 (.getfield 9) 3 0 0 57 := ⟨rfl, rfl⟩
theorem r_X0_readLine_57 : RW M_X0_readLine 57 (.iload_n 3) 1 0 0 58 := ⟨rfl, rfl⟩
theorem r_X0_readLine_58 : RW M_X0_readLine 58 (.invokestatic 53) 3 162 0 61 := ⟨rfl, rfl⟩
theorem r_X0_readLine_61 : RW M_X0_readLine 61 (.ior) 1 0 0 62 := ⟨rfl, rfl⟩
theorem r_X0_readLine_62 : RW M_X0_readLine 62 (.putfield 9) 3 0 0 65 := ⟨rfl, rfl⟩
theorem r_X0_readLine_65 : RW M_X0_readLine 65 (.aload_n 0) 1 0 0 66 := ⟨rfl, rfl⟩
theorem r_X0_readLine_66 : RW M_X0_readLine 66 (.dup) 1 0 0 67 := ⟨rfl, rfl⟩
theorem r_X0_readLine_67 : RW M_X0_readLine 67 (.getfield 15) 3 0 1 70 := ⟨rfl, rfl⟩
theorem r_X0_readLine_70 : RW M_X0_readLine 70 (.iload 4) 2 0 0 72 := ⟨rfl, rfl⟩
theorem r_X0_readLine_72 : RW M_X0_readLine 72 (.iload_n 3) 1 0 0 73 := ⟨rfl, rfl⟩
theorem r_X0_readLine_73 : RW M_X0_readLine 73 (.ishl) 1 0 0 74 := ⟨rfl, rfl⟩
theorem r_X0_readLine_74 : RW M_X0_readLine 74 (.ior) 1 0 0 75 := ⟨rfl, rfl⟩
theorem r_X0_readLine_75 : RW M_X0_readLine 75 (.putfield 15) 3 0 1 78 := ⟨rfl, rfl⟩
theorem r_X0_readLine_78 : RW M_X0_readLine 78 (.return_) 1 0 0 79 := ⟨rfl, rfl⟩
theorem r_X10_book_0 : RW M_X10_book 0 (.aload_n 0) 1 0 0 1 := ⟨rfl, rfl⟩
theorem r_X10_book_1 : RW M_X10_book 1 (.iload_n 1) 1 0 0 2 := ⟨rfl, rfl⟩
theorem r_X10_book_2 : RW M_X10_book 2 (.bipush 60) 2 0 0 4 := ⟨rfl, rfl⟩
theorem r_X10_book_4 : RW M_X10_book 4 (.invokevirtual 95) 3 156 0 7 := ⟨rfl, rfl⟩
theorem r_X10_book_7 : RW M_X10_book 7 (.aload_n 0) 1 0 0 8 := ⟨rfl, rfl⟩
theorem r_X10_book_8 : RW M_X10_book 8 (.getfield 43) 3 10 6 11 := ⟨rfl, rfl⟩
theorem r_X10_book_11 : RW M_X10_book 11 (.aload_n 0) 1 0 0 12 := ⟨rfl, rfl⟩
theorem r_X10_book_12 : RW M_X10_book 12 (.getfield 10) 3 10 0 15 := ⟨rfl, rfl⟩
theorem r_X10_book_15 : RW M_X10_book 15 (.aload_n 0) 1 0 0 16 := ⟨rfl, rfl⟩
theorem r_X10_book_16 : RW M_X10_book 16 (.getfield 19) 3 10 1 19 := ⟨rfl, rfl⟩
theorem r_X10_book_19 : RW M_X10_book 19 (.getfield 121) 3 1 10 22 := ⟨rfl, rfl⟩
theorem r_X10_book_22 : RW M_X10_book 22 (.invokevirtual 154) 3 3 0 25 := ⟨rfl, rfl⟩
theorem r_X10_book_25 : RW M_X10_book 25 (.aload_n 0) 1 0 0 26 := ⟨rfl, rfl⟩
theorem r_X10_book_26 : RW M_X10_book 26 (.getfield 10) 3 10 0 29 := ⟨rfl, rfl⟩
theorem r_X10_book_29 : RW M_X10_book 29 (.getfield 103) 3 6 7 32 := ⟨rfl, rfl⟩
theorem r_X10_book_32 : RW M_X10_book 32 (.ifCond .eq 14) 3 46 0 35 := ⟨rfl, rfl⟩
theorem r_X10_book_35 : RW M_X10_book 35 (.aload_n 0) 1 0 0 36 := ⟨rfl, rfl⟩
theorem r_X10_book_36 : RW M_X10_book 36 (.getfield 10) 3 10 0 39 := ⟨rfl, rfl⟩
theorem r_X10_book_39 : RW M_X10_book 39 (.getfield 103) 3 6 7 42 := ⟨rfl, rfl⟩
theorem r_X10_book_42 : RW M_X10_book 42 (.bipush 10) 2 0 0 44 := ⟨rfl, rfl⟩
theorem r_X10_book_44 : RW M_X10_book 44 (.isub) 1 0 0 45 := ⟨rfl, rfl⟩
theorem r_X10_book_45 : RW M_X10_book 45 (.ireturn) 1 0 0 46 := ⟨rfl, rfl⟩
theorem r_X10_book_46 : RW M_X10_book 46 (.aload_n 0) 1 0 0 47 := ⟨rfl, rfl⟩
theorem r_X10_book_47 : RW M_X10_book 47 (.getfield 39) 3 10 5 50 := ⟨rfl, rfl⟩
theorem r_X10_book_50 : RW M_X10_book 50 (.aload_n 0) 1 0 0 51 := ⟨rfl, rfl⟩
theorem r_X10_book_51 : RW M_X10_book 51 (.getfield 43) 3 10 6 54 := ⟨rfl, rfl⟩
theorem r_X10_book_54 : RW M_X10_book 54 (.invokevirtual 157) 3 2 0 57 := ⟨rfl, rfl⟩
theorem r_X10_book_57 : RW M_X10_book 57 (.aload_n 0) 1 0 0 58 := ⟨rfl, rfl⟩
theorem r_X10_book_58 : RW M_X10_book 58 (.getfield 39) 3 10 5 61 := ⟨rfl, rfl⟩
theorem r_X10_book_61 : RW M_X10_book 61 (.getfield 160) 3 0 0 64 := ⟨rfl, rfl⟩
theorem r_X10_book_64 : RW M_X10_book 64 (.invokestatic 163) 3 322 0 67 := ⟨rfl, rfl⟩
theorem r_X10_book_67 : RW M_X10_book 67 (.ireturn) 1 0 0 68 := ⟨rfl, rfl⟩
theorem c_linT {d : Nat} {I : Nat → Nat → Int32} {J : Nat → Nat → Int64} {g : Nat → Nat} {n m s : Nat} {b : Nat × Nat} (gb : ∀ j, g j < 256) (hn : n ≤ 600) (hm : m ≤ 9) (ls : LSb g n m (b, .inl s) I)  (hd : 6 ≤ d) : RU d 4 [.ref 61, .ref 1, .int (nI m)] I J (fun I' => LSb g n m (linT g n m b s) I' ∧ BF I I') := by
  refine RU.in (d0 := 5) hd mt_4 (Nat.le_of_ble_eq_true rfl) (fun d' hd' => ?_)
  have z0 := ls.2.2 s rfl
  have e0 : I 61 0 = nI b.1 := z0.1
  have e1 : I 61 1 = nI b.2 := z0.2.1
  have bb0 : BB m b := z0.2.2
  have b9 := bb0.b hm
  show EV none M_X0_readLine d' 0 [(0, .ref 61), (1, .ref 1), (2, .int (nI m))] [] (hp I J) _
  refine EV.l (lv' := [(0, _), (1, _), (2, _)]) r_X0_readLine_0 rfl ?_
  refine EV.cv r_X0_readLine_1 (aV0 mt_82 la_1) (c_seesNG ls.rg (by omega)) ?_
  refine EV.p0_eq r_X0_readLine_4 (fun h4 => ?_) (fun h4 => ?_)
  · -- 4 t
    have hno : ¬ (kdp g n s = 1 ∧ nvl g n s < m ∧ b.1.testBit (nvl g n s) = true) := fun z => h4 z.1
    refine EV.l (lv' := [(0, _), (1, _), (2, _)]) r_X0_readLine_35 rfl ?_
    refine EV.o r_X0_readLine_36 (icN (0) (v := 0)) ?_
    refine EV.l (lv' := [(0, _), (1, _), (2, _)]) r_X0_readLine_37 rfl ?_
    refine EV.o r_X0_readLine_38 (icN (1) (v := 1)) ?_
    refine EV.o r_X0_readLine_39 (isubNZ) ?_
    refine EV.ci r_X0_readLine_40 (aV2 mt_85 la_1) (c_numM ls.1 gb hn (show RD g n (.inl s) I from ls.rg) hm (by omega)) (fun v I2 h2 => ?_)
    obtain ⟨x, e, x9, rd2, xe, ro2⟩ := h2
    subst e
    refine EV.l (lv' := [(0, _), (1, _), (2, _), (3, _)]) r_X0_readLine_43 rfl ?_
    refine EV.l (lv' := [(0, _), (1, _), (2, _), (3, _)]) r_X0_readLine_44 rfl ?_
    refine EV.o r_X0_readLine_45 (icN (0) (v := 0)) ?_
    refine EV.o r_X0_readLine_46 (icN (1) (v := 1)) ?_
    refine EV.ci r_X0_readLine_47 (aV2 mt_85 la_1) (c_numN (tp_fr ls.1 (ro2 3 (by decide))) gb hn rd2 (by omega) (by omega) (by omega)) (fun v I3 h3 => ?_)
    obtain ⟨y, e, y0, y1, rd3, ye, ro3⟩ := h3
    subst e
    have xp := p1_le x9
    have yp := yp_le x9 y1
    refine EV.l (lv' := [(0, _), (1, _), (2, _), (3, _), (4, _)]) r_X0_readLine_50 rfl ?_
    refine EV.l (lv' := [(0, _), (1, _), (2, _), (3, _), (4, _)]) r_X0_readLine_52 rfl ?_
    refine EV.o r_X0_readLine_53 rfl ?_
    refine EV.getV r_X0_readLine_54 la_61 (((congrFun ((ro3 61 (by decide)).trans (ro2 61 (by decide))) 0).trans e0)) ?_
    refine EV.l (lv' := [(0, _), (1, _), (2, _), (3, _), (4, _)]) r_X0_readLine_57 rfl ?_
    refine EV.cv r_X0_readLine_58 (aS1 mt_162) (c_bit (by omega) (by omega)) ?_
    refine EV.o r_X0_readLine_61 iorN ?_
    refine EV.pIn r_X0_readLine_62 la_61 (fun I4 e4 => ?_)
    refine EV.l (lv' := [(0, _), (1, _), (2, _), (3, _), (4, _)]) r_X0_readLine_65 rfl ?_
    refine EV.o r_X0_readLine_66 rfl ?_
    refine EV.getV r_X0_readLine_67 la_61 (((congrFun (congrFun e4 61) 1).trans ((wr_ne (Or.inr (by decide))).trans ((congrFun ((ro3 61 (by decide)).trans (ro2 61 (by decide))) 1).trans e1)))) ?_
    refine EV.l (lv' := [(0, _), (1, _), (2, _), (3, _), (4, _)]) r_X0_readLine_70 rfl ?_
    refine EV.l (lv' := [(0, _), (1, _), (2, _), (3, _), (4, _)]) r_X0_readLine_72 rfl ?_
    refine EV.o r_X0_readLine_73 (ishlN (by omega) (by omega)) ?_
    refine EV.o r_X0_readLine_74 iorN ?_
    refine EV.pIn r_X0_readLine_75 la_61 (fun I5 e5 => ?_)
    exact EV.ru r_X0_readLine_78 (by
      have t : linT g n m b s = ((b.1 ||| 2 ^ (lnA g n m s).1, b.2 ||| (lnB g n m s).1 * 2 ^ (lnA g n m s).1), (lnB g n m s).2) := if_neg hno
      rw [t]
      refine ⟨⟨tp_fr ls.1 (by rw [e5, wr_row (by decide), e4, wr_row (by decide), ro3 3 (by decide)]; exact ro2 3 (by decide)), RD.fr (r := (lnB g n m s).2) rd3 (by rw [e5, wr_row (by decide), e4, wr_row (by decide)]), fun s2 e => ?_⟩, fun o p1 p2 => by rw [e5, wr_row p2, e4, wr_row p2, ro3 o p1]; exact ro2 o p1⟩
      have ee : (linT g n m b s).2 = .inl s2 := by rw [t]; exact e
      have bb := bb0.lin ee
      rw [t] at bb
      have e : (lnB g n m s).2 = .inl s2 := e
      obtain ⟨s1, es⟩ := tkN_ok (show (tkN g n 0 ((1 : Nat) : Int) (lnA g n m s).2).2 = .inl s2 from e)
      have x1 : x = (lnA g n m s).1 := xe s1 es
      have x2 : y = (lnB g n m s).1 := ye s2 e
      refine ⟨?_, ?_, bb⟩
      · show I5 61 0 = nI (b.1 ||| 2 ^ (lnA g n m s).1)
        rw [← x1, e5, wr_ne (Or.inr (by decide)), e4]
        exact wr_same
      · show I5 61 1 = nI (b.2 ||| (lnB g n m s).1 * 2 ^ (lnA g n m s).1)
        rw [← x1, ← x2, e5]
        exact wr_same)
  · -- 4 f
    obtain ⟨c, cv, ec_⟩ := ls.rg.rc.vl h4
    have c2 := cv.1
    refine EV.l (lv' := [(0, _), (1, _), (2, _)]) r_X0_readLine_7 rfl ?_
    refine EV.getV r_X0_readLine_8 la_1 (ec_) ?_
    refine EV.l (lv' := [(0, _), (1, _), (2, _)]) r_X0_readLine_11 rfl ?_
    refine EV.n2_ge r_X0_readLine_12 (fun h12 => ?_) (fun h12 => ?_)
    · -- 12 t
      have hno : ¬ (kdp g n s = 1 ∧ nvl g n s < m ∧ b.1.testBit (nvl g n s) = true) := fun z => by have := cv.2; have := z.2.1; omega
      refine EV.l (lv' := [(0, _), (1, _), (2, _)]) r_X0_readLine_35 rfl ?_
      refine EV.o r_X0_readLine_36 (icN (0) (v := 0)) ?_
      refine EV.l (lv' := [(0, _), (1, _), (2, _)]) r_X0_readLine_37 rfl ?_
      refine EV.o r_X0_readLine_38 (icN (1) (v := 1)) ?_
      refine EV.o r_X0_readLine_39 (isubNZ) ?_
      refine EV.ci r_X0_readLine_40 (aV2 mt_85 la_1) (c_numM ls.1 gb hn (show RD g n (.inl s) I from ls.rg) hm (by omega)) (fun v I2 h2 => ?_)
      obtain ⟨x, e, x9, rd2, xe, ro2⟩ := h2
      subst e
      refine EV.l (lv' := [(0, _), (1, _), (2, _), (3, _)]) r_X0_readLine_43 rfl ?_
      refine EV.l (lv' := [(0, _), (1, _), (2, _), (3, _)]) r_X0_readLine_44 rfl ?_
      refine EV.o r_X0_readLine_45 (icN (0) (v := 0)) ?_
      refine EV.o r_X0_readLine_46 (icN (1) (v := 1)) ?_
      refine EV.ci r_X0_readLine_47 (aV2 mt_85 la_1) (c_numN (tp_fr ls.1 (ro2 3 (by decide))) gb hn rd2 (by omega) (by omega) (by omega)) (fun v I3 h3 => ?_)
      obtain ⟨y, e, y0, y1, rd3, ye, ro3⟩ := h3
      subst e
      have xp := p1_le x9
      have yp := yp_le x9 y1
      refine EV.l (lv' := [(0, _), (1, _), (2, _), (3, _), (4, _)]) r_X0_readLine_50 rfl ?_
      refine EV.l (lv' := [(0, _), (1, _), (2, _), (3, _), (4, _)]) r_X0_readLine_52 rfl ?_
      refine EV.o r_X0_readLine_53 rfl ?_
      refine EV.getV r_X0_readLine_54 la_61 (((congrFun ((ro3 61 (by decide)).trans (ro2 61 (by decide))) 0).trans e0)) ?_
      refine EV.l (lv' := [(0, _), (1, _), (2, _), (3, _), (4, _)]) r_X0_readLine_57 rfl ?_
      refine EV.cv r_X0_readLine_58 (aS1 mt_162) (c_bit (by omega) (by omega)) ?_
      refine EV.o r_X0_readLine_61 iorN ?_
      refine EV.pIn r_X0_readLine_62 la_61 (fun I4 e4 => ?_)
      refine EV.l (lv' := [(0, _), (1, _), (2, _), (3, _), (4, _)]) r_X0_readLine_65 rfl ?_
      refine EV.o r_X0_readLine_66 rfl ?_
      refine EV.getV r_X0_readLine_67 la_61 (((congrFun (congrFun e4 61) 1).trans ((wr_ne (Or.inr (by decide))).trans ((congrFun ((ro3 61 (by decide)).trans (ro2 61 (by decide))) 1).trans e1)))) ?_
      refine EV.l (lv' := [(0, _), (1, _), (2, _), (3, _), (4, _)]) r_X0_readLine_70 rfl ?_
      refine EV.l (lv' := [(0, _), (1, _), (2, _), (3, _), (4, _)]) r_X0_readLine_72 rfl ?_
      refine EV.o r_X0_readLine_73 (ishlN (by omega) (by omega)) ?_
      refine EV.o r_X0_readLine_74 iorN ?_
      refine EV.pIn r_X0_readLine_75 la_61 (fun I5 e5 => ?_)
      exact EV.ru r_X0_readLine_78 (by
      have t : linT g n m b s = ((b.1 ||| 2 ^ (lnA g n m s).1, b.2 ||| (lnB g n m s).1 * 2 ^ (lnA g n m s).1), (lnB g n m s).2) := if_neg hno
      rw [t]
      refine ⟨⟨tp_fr ls.1 (by rw [e5, wr_row (by decide), e4, wr_row (by decide), ro3 3 (by decide)]; exact ro2 3 (by decide)), RD.fr (r := (lnB g n m s).2) rd3 (by rw [e5, wr_row (by decide), e4, wr_row (by decide)]), fun s2 e => ?_⟩, fun o p1 p2 => by rw [e5, wr_row p2, e4, wr_row p2, ro3 o p1]; exact ro2 o p1⟩
      have ee : (linT g n m b s).2 = .inl s2 := by rw [t]; exact e
      have bb := bb0.lin ee
      rw [t] at bb
      have e : (lnB g n m s).2 = .inl s2 := e
      obtain ⟨s1, es⟩ := tkN_ok (show (tkN g n 0 ((1 : Nat) : Int) (lnA g n m s).2).2 = .inl s2 from e)
      have x1 : x = (lnA g n m s).1 := xe s1 es
      have x2 : y = (lnB g n m s).1 := ye s2 e
      refine ⟨?_, ?_, bb⟩
      · show I5 61 0 = nI (b.1 ||| 2 ^ (lnA g n m s).1)
        rw [← x1, e5, wr_ne (Or.inr (by decide)), e4]
        exact wr_same
      · show I5 61 1 = nI (b.2 ||| (lnB g n m s).1 * 2 ^ (lnA g n m s).1)
        rw [← x1, ← x2, e5]
        exact wr_same)
    · -- 12 f
      have cn : c = nvl g n s := by have := cv.2; omega
      refine EV.l (lv' := [(0, _), (1, _), (2, _)]) r_X0_readLine_15 rfl ?_
      refine EV.getV r_X0_readLine_16 la_61 (e0) ?_
      refine EV.l (lv' := [(0, _), (1, _), (2, _)]) r_X0_readLine_19 rfl ?_
      refine EV.getV r_X0_readLine_20 la_1 (ec_) ?_
      refine EV.cv r_X0_readLine_23 (aS2 mt_163) (c_has (by omega) (by omega) (by omega)) ?_
      refine EV.b0_eq r_X0_readLine_26 (fun h26 => ?_) (fun h26 => ?_)
      · -- 26 t
        have hno : ¬ (kdp g n s = 1 ∧ nvl g n s < m ∧ b.1.testBit (nvl g n s) = true) := fun z => by rw [← cn] at z; exact absurd (h26.symm.trans z.2.2) (by decide)
        refine EV.l (lv' := [(0, _), (1, _), (2, _)]) r_X0_readLine_35 rfl ?_
        refine EV.o r_X0_readLine_36 (icN (0) (v := 0)) ?_
        refine EV.l (lv' := [(0, _), (1, _), (2, _)]) r_X0_readLine_37 rfl ?_
        refine EV.o r_X0_readLine_38 (icN (1) (v := 1)) ?_
        refine EV.o r_X0_readLine_39 (isubNZ) ?_
        refine EV.ci r_X0_readLine_40 (aV2 mt_85 la_1) (c_numM ls.1 gb hn (show RD g n (.inl s) I from ls.rg) hm (by omega)) (fun v I2 h2 => ?_)
        obtain ⟨x, e, x9, rd2, xe, ro2⟩ := h2
        subst e
        refine EV.l (lv' := [(0, _), (1, _), (2, _), (3, _)]) r_X0_readLine_43 rfl ?_
        refine EV.l (lv' := [(0, _), (1, _), (2, _), (3, _)]) r_X0_readLine_44 rfl ?_
        refine EV.o r_X0_readLine_45 (icN (0) (v := 0)) ?_
        refine EV.o r_X0_readLine_46 (icN (1) (v := 1)) ?_
        refine EV.ci r_X0_readLine_47 (aV2 mt_85 la_1) (c_numN (tp_fr ls.1 (ro2 3 (by decide))) gb hn rd2 (by omega) (by omega) (by omega)) (fun v I3 h3 => ?_)
        obtain ⟨y, e, y0, y1, rd3, ye, ro3⟩ := h3
        subst e
        have xp := p1_le x9
        have yp := yp_le x9 y1
        refine EV.l (lv' := [(0, _), (1, _), (2, _), (3, _), (4, _)]) r_X0_readLine_50 rfl ?_
        refine EV.l (lv' := [(0, _), (1, _), (2, _), (3, _), (4, _)]) r_X0_readLine_52 rfl ?_
        refine EV.o r_X0_readLine_53 rfl ?_
        refine EV.getV r_X0_readLine_54 la_61 (((congrFun ((ro3 61 (by decide)).trans (ro2 61 (by decide))) 0).trans e0)) ?_
        refine EV.l (lv' := [(0, _), (1, _), (2, _), (3, _), (4, _)]) r_X0_readLine_57 rfl ?_
        refine EV.cv r_X0_readLine_58 (aS1 mt_162) (c_bit (by omega) (by omega)) ?_
        refine EV.o r_X0_readLine_61 iorN ?_
        refine EV.pIn r_X0_readLine_62 la_61 (fun I4 e4 => ?_)
        refine EV.l (lv' := [(0, _), (1, _), (2, _), (3, _), (4, _)]) r_X0_readLine_65 rfl ?_
        refine EV.o r_X0_readLine_66 rfl ?_
        refine EV.getV r_X0_readLine_67 la_61 (((congrFun (congrFun e4 61) 1).trans ((wr_ne (Or.inr (by decide))).trans ((congrFun ((ro3 61 (by decide)).trans (ro2 61 (by decide))) 1).trans e1)))) ?_
        refine EV.l (lv' := [(0, _), (1, _), (2, _), (3, _), (4, _)]) r_X0_readLine_70 rfl ?_
        refine EV.l (lv' := [(0, _), (1, _), (2, _), (3, _), (4, _)]) r_X0_readLine_72 rfl ?_
        refine EV.o r_X0_readLine_73 (ishlN (by omega) (by omega)) ?_
        refine EV.o r_X0_readLine_74 iorN ?_
        refine EV.pIn r_X0_readLine_75 la_61 (fun I5 e5 => ?_)
        exact EV.ru r_X0_readLine_78 (by
      have t : linT g n m b s = ((b.1 ||| 2 ^ (lnA g n m s).1, b.2 ||| (lnB g n m s).1 * 2 ^ (lnA g n m s).1), (lnB g n m s).2) := if_neg hno
      rw [t]
      refine ⟨⟨tp_fr ls.1 (by rw [e5, wr_row (by decide), e4, wr_row (by decide), ro3 3 (by decide)]; exact ro2 3 (by decide)), RD.fr (r := (lnB g n m s).2) rd3 (by rw [e5, wr_row (by decide), e4, wr_row (by decide)]), fun s2 e => ?_⟩, fun o p1 p2 => by rw [e5, wr_row p2, e4, wr_row p2, ro3 o p1]; exact ro2 o p1⟩
      have ee : (linT g n m b s).2 = .inl s2 := by rw [t]; exact e
      have bb := bb0.lin ee
      rw [t] at bb
      have e : (lnB g n m s).2 = .inl s2 := e
      obtain ⟨s1, es⟩ := tkN_ok (show (tkN g n 0 ((1 : Nat) : Int) (lnA g n m s).2).2 = .inl s2 from e)
      have x1 : x = (lnA g n m s).1 := xe s1 es
      have x2 : y = (lnB g n m s).1 := ye s2 e
      refine ⟨?_, ?_, bb⟩
      · show I5 61 0 = nI (b.1 ||| 2 ^ (lnA g n m s).1)
        rw [← x1, e5, wr_ne (Or.inr (by decide)), e4]
        exact wr_same
      · show I5 61 1 = nI (b.2 ||| (lnB g n m s).1 * 2 ^ (lnA g n m s).1)
        rw [← x1, ← x2, e5]
        exact wr_same)
      · -- 26 f
        refine EV.l (lv' := [(0, _), (1, _), (2, _)]) r_X0_readLine_29 rfl ?_
        refine EV.o r_X0_readLine_30 (icN (2) (v := 2)) ?_
        refine EV.cu r_X0_readLine_31 (aV1 mt_88 la_1) (c_fail (r := .inl s) ls.rg (by decide) (by decide) (by omega)) (fun I2 h2 => ?_)
        exact EV.ru r_X0_readLine_34 (by have t : linT g n m b s = (b, .inr (2, s)) := if_pos ⟨h4, by omega, by rw [← cn]; exact h26⟩; rw [t]; exact ⟨⟨tp_fr ls.1 (h2.2 3 (by decide)), h2.1, fun s2 e => inr_ne e⟩, h2.2.bf⟩)
theorem c_bread {d : Nat} {I : Nat → Nat → Int32} {J : Nat → Nat → Int64} {g : Nat → Nat} {n m s : Nat} (gb : ∀ j, g j < 256) (hn : n ≤ 60) (hm : m ≤ 9) (tp : ∀ j, j < 600 → I 3 j = nI (g j)) (rg : RG g n s I)  (hd : 7 ≤ d) : RU d 3 [.ref 61, .ref 1, .int (nI m)] I J (fun I' => LSb g n m (linsB g n m 60 ((0, 0), .inl s)) I' ∧ BF I I') := by
  refine RU.in (d0 := 6) hd mt_3 (Nat.le_of_ble_eq_true rfl) (fun d' hd' => ?_)
  show EV none M_X0_readFrom d' 0 [(0, .ref 61), (1, .ref 1), (2, .int (nI m))] [] (hp I J) _
  refine EV.l (lv' := [(0, _), (1, _), (2, _)]) r_X0_readFrom_0 rfl ?_
  refine EV.cu r_X0_readFrom_1 (aV0 mt_1 la_61) (c_breset la_61 (by omega)) (fun I1 h1 => ?_)
  obtain ⟨z0, z1, f1⟩ := h1
  have ls1 : LSb g n m ((0, 0), .inl s) I1 := ⟨tp_fr tp (f1 3 (by decide)), RD.fr (r := .inl s) rg (f1 1 (by decide)), fun _ _ => ⟨z0, z1, BB.z⟩⟩
  refine EV.o r_X0_readFrom_4 (icN (0) (v := 0)) ?_
  refine EV.l (lv' := [(0, _), (1, _), (2, _), (3, _)]) r_X0_readFrom_5 rfl ?_
  have L6 : ∀ y_ : Nat × BX × (Nat → Nat → Int32), (fun y => BLI g n m s I1 y.1 y.2.1 y.2.2 → EV none M_X0_readFrom d' 6 [(0, .ref 61), (1, .ref 1), (2, .int (nI m)), (3, .int (nI y.1))] [] (hp y.2.2 J) (QU J (fun I' => LSb g n m (linsB g n m 60 ((0, 0), .inl s)) I' ∧ BF I I'))) y_ := by
    refine ev_loop (fun y => 60 - y.1) ?_
    intro ⟨i, x, M⟩ ih6 hx6
    try dsimp only at ih6
    try dsimp only at hx6
    try dsimp only
    have i60 := hx6.2.2.1
    refine EV.l (lv' := [(0, _), (1, _), (2, _), (3, _)]) r_X0_readFrom_6 rfl ?_
    refine EV.o r_X0_readFrom_7 (bpN (60) 60) ?_
    refine EV.n2_ge r_X0_readFrom_9 (fun h9 => ?_) (fun h9 => ?_)
    · -- 9 t
      have fz := hx6.fin hn (Or.inl (by omega))
      exact EV.ru r_X0_readFrom_37 (⟨fz.1, (show BF I I1 from fun o _ p => f1 o p).tr fz.2⟩)
    · -- 9 f
      refine EV.l (lv' := [(0, _), (1, _), (2, _), (3, _)]) r_X0_readFrom_12 rfl ?_
      refine EV.cv r_X0_readFrom_13 (aV0 mt_81 la_1) (c_more hx6.1.2.1 (by omega)) ?_
      refine EV.b0_eq r_X0_readFrom_16 (fun h16 => ?_) (fun h16 => ?_)
      · -- 16 t
        have fz := hx6.fin hn (Or.inr h16)
        exact EV.ru r_X0_readFrom_37 (⟨fz.1, (show BF I I1 from fun o _ p => f1 o p).tr fz.2⟩)
      · -- 16 f
        obtain ⟨s1, er, hs1⟩ := mor_t h16
        obtain ⟨b, r⟩ := x
        have er : r = .inl s1 := er
        subst er
        refine EV.l (lv' := [(0, _), (1, _), (2, _), (3, _)]) r_X0_readFrom_19 rfl ?_
        refine EV.l (lv' := [(0, _), (1, _), (2, _), (3, _)]) r_X0_readFrom_20 rfl ?_
        refine EV.l (lv' := [(0, _), (1, _), (2, _), (3, _)]) r_X0_readFrom_21 rfl ?_
        refine EV.cu r_X0_readFrom_22 (aV2 mt_4 la_61) (c_linT gb (by omega) hm hx6.1 (by omega)) (fun I2 h2 => ?_)
        refine EV.l (lv' := [(0, _), (1, _), (2, _), (3, _)]) r_X0_readFrom_25 rfl ?_
        refine EV.o r_X0_readFrom_26 (bpN (59) 59) ?_
        refine EV.cu r_X0_readFrom_28 (aV1 mt_86 la_1) (c_sign h2.1.1 gb (by omega) h2.1.2.1 (by decide) (by omega)) (fun I3 h3 => ?_)
        have ls3 : LSb g n m (linB g n m b s1) I3 := h2.1.sgn h3.1 h3.2
        have hx9 := hx6.next hs1 (by omega) ls3 (h2.2.tr h3.2.bf)
        refine EV.l (lv' := [(0, _), (1, _), (2, _), (3, _)]) r_X0_readFrom_31 rfl ?_
        rw [inc_nI]
        refine EV.g r_X0_readFrom_34 ?_
        refine EV.sub ?_ rfl ?_ (ih6 (i + 1, linB g n m b s1, I3) ?_ ?_)
        · (try dsimp only) <;> (rfl)
        · (try dsimp only) <;> (rfl)
        · (try dsimp only) <;> (omega)
        · (try dsimp only) <;> (exact hx9)
  have h0 := L6 (0, ((0, 0), .inl s), I1)
  try dsimp only at h0
  refine EV.sub ?_ rfl ?_ (h0 ?_)
  · (try dsimp only) <;> (rfl)
  · (try dsimp only) <;> (rfl)
  · (try dsimp only) <;> (exact ⟨ls1, BF.rf, Nat.zero_le _, fun _ _ => Nat.zero_le _, rfl⟩)
theorem c_bbecome {d : Nat} {I : Nat → Nat → Int32} {J : Nat → Nat → Int64} {t r : Nat} (h0 : I 61 0 = nI t) (h1 : I 61 1 = nI r)  (hd : 1 ≤ d) : RU d 2 [.ref 60, .ref 61] I J (fun I' => I' 60 0 = nI t ∧ I' 60 1 = nI r ∧ ∀ o, o ≠ 60 → I' o = I o) := by
  refine RU.in (d0 := 0) hd mt_2 (Nat.le_of_ble_eq_true rfl) (fun d' hd' => ?_)
  show EV none M_X0_become d' 0 [(0, .ref 60), (1, .ref 61)] [] (hp I J) _
  refine EV.l (lv' := [(0, _), (1, _)]) r_X0_become_0 rfl ?_
  refine EV.l (lv' := [(0, _), (1, _)]) r_X0_become_1 rfl ?_
  refine EV.getV r_X0_become_2 la_61 (h0) ?_
  refine EV.pIn r_X0_become_5 la_60 (fun I2 e2 => ?_)
  refine EV.l (lv' := [(0, _), (1, _)]) r_X0_become_8 rfl ?_
  refine EV.l (lv' := [(0, _), (1, _)]) r_X0_become_9 rfl ?_
  refine EV.getV r_X0_become_10 la_61 (((congrFun (congrFun e2 61) 1).trans ((wr_ne (by decide)).trans h1))) ?_
  refine EV.pIn r_X0_become_13 la_60 (fun I3 e3 => ?_)
  exact EV.ru r_X0_become_16 (⟨by rw [e3, wr_ne (Or.inr (by decide)), e2]; exact wr_same, by rw [e3]; exact wr_same, fun o a => by rw [e3, wr_row a, e2, wr_row a]⟩)
theorem c_bookB {d : Nat} {I : Nat → Nat → Int32} {J : Nat → Nat → Int64} {S : STT} {n : Nat} (sb : SB S) (h : CIn S I) (ht : n ≤ S.tl) (hn : n ≤ 60) {k f : Nat} (hz : (bookT S.tp n S.κ.ns).2 = .inr (k, f))  (hd : 11 ≤ d) : RI d 117 [.ref 0, .int (nI n)] I J (fun v I' => v = zI ((k : Int) - ((10 : Nat) : Int)) ∧ CIn (S.txt (nI f)) I' ∧ LOf I I') := by
  refine RI.in (d0 := 10) hd mt_117 (Nat.le_of_ble_eq_true rfl) (fun d' hd' => ?_)
  have tl6 := sb.tl
  have ns9 := sb.cb.ns
  show EV none M_X10_book d' 0 [(0, .ref 0), (1, .int (nI n))] [] (hp I J) _
  refine EV.l (lv' := [(0, _), (1, _)]) r_X10_book_0 rfl ?_
  refine EV.l (lv' := [(0, _), (1, _)]) r_X10_book_1 rfl ?_
  refine EV.o r_X10_book_2 (bpN (60) 60) ?_
  refine EV.cu r_X10_book_4 (aV2 mt_156 la_0) (c_startText h.tp sb.tp h.tl sb.tl ht (by omega) (by omega) (by omega)) (fun I2 h2 => ?_)
  obtain ⟨rg2, ro2⟩ := h2
  refine EV.l (lv' := [(0, _), (1, _)]) r_X10_book_7 rfl ?_
  refine EV.gR r_X10_book_8 la_0 ?_
  refine EV.l (lv' := [(0, _), (1, _)]) r_X10_book_11 rfl ?_
  refine EV.gR r_X10_book_12 la_0 ?_
  refine EV.l (lv' := [(0, _), (1, _)]) r_X10_book_15 rfl ?_
  refine EV.gR r_X10_book_16 la_0 ?_
  refine EV.getV r_X10_book_19 la_4 (((congrFun (ro2 4 (by decide)) 10).trans h.hc.ns)) ?_
  refine EV.cu r_X10_book_22 (aV2 mt_3 la_61) (c_bread sb.tp hn ns9 (tp_fr h.tp (ro2 3 (by decide))) rg2 (by omega)) (fun I3 h3 => ?_)
  obtain ⟨ls3, lf3⟩ := h3
  have rd3 := ls3.2.1
  have hz2 : (linsB S.tp n S.κ.ns 60 ((0, 0), .inl (scp isB S.tp n 0))).2 = _ := hz
  rw [hz2] at rd3
  have rb3 : RB n k f I3 := rd3
  have k1 := rb3.k1
  have k3 := rb3.k3
  refine EV.l (lv' := [(0, _), (1, _)]) r_X10_book_25 rfl ?_
  refine EV.gR r_X10_book_26 la_0 ?_
  refine EV.getV r_X10_book_29 la_1 ((show RB n k f I3 from rd3).fk) ?_
  refine EV.n0_eq r_X10_book_32 (fun h32 => ?_) (fun h32 => ?_)
  · omega
  · -- 32 f
    refine EV.l (lv' := [(0, _), (1, _)]) r_X10_book_35 rfl ?_
    refine EV.gR r_X10_book_36 la_0 ?_
    refine EV.getV r_X10_book_39 la_1 ((show RB n k f I3 from rd3).fk) ?_
    refine EV.o r_X10_book_42 (bpN (10) 10) ?_
    refine EV.o r_X10_book_44 (isubNZ) ?_
    exact EV.ri r_X10_book_45 (⟨rfl, h.txt (fun o ho => (lf3.ts ho).trans (ro2 o (tsc_1 ho).1)) rb3.ln rb3.fp (h.sk.fr (fun o p q => (lf3 o (by omega) (by omega)).trans (ro2 o (by omega)))), fun o ho => (lf3 o (by omega) (by omega)).trans (ro2 o (by omega))⟩)
theorem c_bookG {d : Nat} {I : Nat → Nat → Int32} {J : Nat → Nat → Int64} {S : STT} {n : Nat} (sb : SB S) (h : CIn S I) (ht : n ≤ S.tl) (hn : n ≤ 60) {s2 : Nat} (hz : (bookT S.tp n S.κ.ns).2 = .inl s2)  (hd : 11 ≤ d) : RI d 117 [.ref 0, .int (nI n)] I J (fun v I' => v = nI (pc9 (bookT S.tp n S.κ.ns).1.1) ∧ CIn (S.bok (bookT S.tp n S.κ.ns).1) I' ∧ LOf I I') := by
  refine RI.in (d0 := 10) hd mt_117 (Nat.le_of_ble_eq_true rfl) (fun d' hd' => ?_)
  have tl6 := sb.tl
  have ns9 := sb.cb.ns
  show EV none M_X10_book d' 0 [(0, .ref 0), (1, .int (nI n))] [] (hp I J) _
  refine EV.l (lv' := [(0, _), (1, _)]) r_X10_book_0 rfl ?_
  refine EV.l (lv' := [(0, _), (1, _)]) r_X10_book_1 rfl ?_
  refine EV.o r_X10_book_2 (bpN (60) 60) ?_
  refine EV.cu r_X10_book_4 (aV2 mt_156 la_0) (c_startText h.tp sb.tp h.tl sb.tl ht (by omega) (by omega) (by omega)) (fun I2 h2 => ?_)
  obtain ⟨rg2, ro2⟩ := h2
  refine EV.l (lv' := [(0, _), (1, _)]) r_X10_book_7 rfl ?_
  refine EV.gR r_X10_book_8 la_0 ?_
  refine EV.l (lv' := [(0, _), (1, _)]) r_X10_book_11 rfl ?_
  refine EV.gR r_X10_book_12 la_0 ?_
  refine EV.l (lv' := [(0, _), (1, _)]) r_X10_book_15 rfl ?_
  refine EV.gR r_X10_book_16 la_0 ?_
  refine EV.getV r_X10_book_19 la_4 (((congrFun (ro2 4 (by decide)) 10).trans h.hc.ns)) ?_
  refine EV.cu r_X10_book_22 (aV2 mt_3 la_61) (c_bread sb.tp hn ns9 (tp_fr h.tp (ro2 3 (by decide))) rg2 (by omega)) (fun I3 h3 => ?_)
  obtain ⟨ls3, lf3⟩ := h3
  have rd3 := ls3.2.1
  have hz2 : (linsB S.tp n S.κ.ns 60 ((0, 0), .inl (scp isB S.tp n 0))).2 = _ := hz
  rw [hz2] at rd3
  have rg3 : RG S.tp n s2 I3 := rd3
  have lx := ls3.2.2 s2 hz2
  have bt9 := lx.2.2.b ns9
  refine EV.l (lv' := [(0, _), (1, _)]) r_X10_book_25 rfl ?_
  refine EV.gR r_X10_book_26 la_0 ?_
  refine EV.getV r_X10_book_29 la_1 ((show RG S.tp n s2 I3 from rd3).fk) ?_
  refine EV.n0_eq r_X10_book_32 (fun h32 => ?_) (fun h32 => ?_)
  · -- 32 t
    refine EV.l (lv' := [(0, _), (1, _)]) r_X10_book_46 rfl ?_
    refine EV.gR r_X10_book_47 la_0 ?_
    refine EV.l (lv' := [(0, _), (1, _)]) r_X10_book_50 rfl ?_
    refine EV.gR r_X10_book_51 la_0 ?_
    refine EV.cu r_X10_book_54 (aV1 mt_2 la_60) (c_bbecome lx.1 lx.2.1 (by omega)) (fun I4 h4 => ?_)
    obtain ⟨t0, t1, g4⟩ := h4
    refine EV.l (lv' := [(0, _), (1, _)]) r_X10_book_57 rfl ?_
    refine EV.gR r_X10_book_58 la_0 ?_
    refine EV.getV r_X10_book_61 la_60 (t0) ?_
    refine EV.cv r_X10_book_64 (aS1 mt_322) (c_bc bt9 (by omega)) ?_
    exact EV.ri r_X10_book_67 (⟨rfl, ⟨h.hc.fr (fun x p q => ((g4 x (by omega)).trans ((lf3 x (by omega) (by omega)).trans (ro2 x (by omega))))), h.hh.fr (fun x p q => ((g4 x (by omega)).trans ((lf3 x (by omega) (by omega)).trans (ro2 x (by omega))))), h.hl.fr ((g4 46 (by decide)).trans ((lf3 46 (by decide) (by decide)).trans (ro2 46 (by decide)))) ((g4 48 (by decide)).trans ((lf3 48 (by decide) (by decide)).trans (ro2 48 (by decide)))), (congrFun (g4 1 (by decide)) 1).trans rg3.ln, (congrFun (g4 1 (by decide)) 8).trans rg3.fp, tp_fr h.tp ((g4 3 (by decide)).trans ((lf3 3 (by decide) (by decide)).trans (ro2 3 (by decide)))), (congrFun ((g4 0 (by decide)).trans ((lf3 0 (by decide) (by decide)).trans (ro2 0 (by decide)))) 12).trans h.rf, (congrFun ((g4 0 (by decide)).trans ((lf3 0 (by decide) (by decide)).trans (ro2 0 (by decide)))) 13).trans h.r0, (congrFun ((g4 0 (by decide)).trans ((lf3 0 (by decide) (by decide)).trans (ro2 0 (by decide)))) 14).trans h.r1, t0, t1, (congrFun ((g4 82 (by decide)).trans ((lf3 82 (by decide) (by decide)).trans (ro2 82 (by decide)))) 3).trans h.w, (congrFun ((g4 82 (by decide)).trans ((lf3 82 (by decide) (by decide)).trans (ro2 82 (by decide)))) 4).trans h.im, fun k hk => by have z := h.ps k hk; unfold CS at z ⊢; rw [((g4 84 (by decide)).trans ((lf3 84 (by decide) (by decide)).trans (ro2 84 (by decide))))]; exact z, fun i hi => (congrFun ((g4 88 (by decide)).trans ((lf3 88 (by decide) (by decide)).trans (ro2 88 (by decide)))) i).trans (h.iw i hi), fun i k hi hk => by have z := h.ip i k hi hk; unfold CS at z ⊢; rw [((g4 86 (by decide)).trans ((lf3 86 (by decide) (by decide)).trans (ro2 86 (by decide))))]; exact z, h.sk.fr (fun o p q => ((g4 o (by omega)).trans ((lf3 o (by omega) (by omega)).trans (ro2 o (by omega)))))⟩, fun o ho => ((g4 o (by omega)).trans ((lf3 o (by omega) (by omega)).trans (ro2 o (by omega))))⟩)
  · omega
theorem c_bookX {d : Nat} {I : Nat → Nat → Int32} {J : Nat → Nat → Int64} {S : STT} (sb : SB S) (h : CIn S I) {n : Int} (n1 : -2147483648 ≤ n) (n2 : n < 2147483648) (hx : ¬ (0 ≤ n ∧ n ≤ S.tl ∧ n ≤ 60))  (hd : 9 ≤ d) : RX d 117 [.ref 0, .int (zI n)] I J 1 (fun I' => I' = ref1 I 14) := by
  refine RX.in (d0 := 8) hd mt_117 (Nat.le_of_ble_eq_true rfl) (fun d' hd' => ?_)
  have tl6 := sb.tl
  show EV none M_X10_book d' 0 [(0, .ref 0), (1, .int (zI n))] [] (hp I J) _
  refine EV.l (lv' := [(0, _), (1, _)]) r_X10_book_0 rfl ?_
  refine EV.l (lv' := [(0, _), (1, _)]) r_X10_book_1 rfl ?_
  refine EV.o r_X10_book_2 (bpN (60) 60) ?_
  exact EV.cx r_X10_book_4 (aV2 mt_156 la_0) (c_startTextX n1 n2 h.tl sb.tl (by omega) (by omega) (by omega)) (fun _ h => h)
