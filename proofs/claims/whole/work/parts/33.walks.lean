/-! Walks, and what is on and over. -/
def wlk (κ : CT) (l : LW) (η : HS) (b begin led : Nat) : Nat := wkf l (fa (nI (κ.bs b)) (nI begin) (nI (sumN η.cr κ.nc)) (nI led) (nI (pc9 η.nt)) (nI b))
theorem wlk_le (κ : CT) (l : LW) (η : HS) (b begin led : Nat) : 1 ≤ wlk κ l η b begin led ∧ wlk κ l η b begin led ≤ 40 := wkf_le _ _
def fm (η : HS) (b more : Nat) : Nat := min 400 (η.be b + more)
def onM (κ : CT) (l : LW) (η : HS) (b more m : Nat) : Bool := decide (fm η b more ≤ m ∧ m < fm η b more + wlk κ l η b (fm η b more) (η.le b + more))
def ovr (κ : CT) (l : LW) (η : HS) (b more : Nat) : Nat := mk (fun i => onM κ l η b more (η.sa i)) κ.ns
theorem all_bit {n i : Nat} : (2 ^ n - 1).testBit i = decide (i < n) := Nat.testBit_two_pow_sub_one n i
theorem crumb_all {κ : CT} {η : HS} {n : Nat} (hb : ∀ j, η.cr j ≤ 40) : ∀ k, k ≤ n → crumb κ η (2 ^ n - 1) 40 k = sumN η.cr k
  | 0, _ => rfl
  | k + 1, h => by
    have ih := crumb_all (κ := κ) hb k (Nat.le_of_succ_le h)
    have := hb k
    unfold crumb sumN
    rw [ih, all_bit, if_pos (decide_eq_true (by omega))]
    omega
theorem pcn_ns {x n : Nat} (h : x < 2 ^ n) : ∀ k, pcn x (n + k) = pcn x n
  | 0 => rfl
  | k + 1 => by
    show pcn x (n + k) + (x.testBit (n + k)).toNat = _
    rw [pcn_ns h k, Nat.testBit_lt_two_pow (Nat.lt_of_lt_of_le h (Nat.pow_le_pow_right (by decide) (by omega)))]
    rfl
theorem sum_nt {x : Nat} : ∀ k, sumN (fun i => (x.testBit i).toNat) k = pcn x k
  | 0 => rfl
  | k + 1 => by
    show sumN _ k + _ = pcn x k + _
    rw [sum_nt k]
theorem HC.fr {o : Nat} {κ : CT} {I I' : Nat → Nat → Int32} (h : HC o κ I) (e : ∀ x, o ≤ x → x ≤ o + 20 → I' x = I x) : HC o κ I' := by
  unfold HC at h ⊢
  rw [e o (by omega) (by omega), e (o + 2) (by omega) (by omega), e (o + 4) (by omega) (by omega), e (o + 6) (by omega) (by omega), e (o + 8) (by omega) (by omega), e (o + 10) (by omega) (by omega), e (o + 12) (by omega) (by omega), e (o + 14) (by omega) (by omega), e (o + 16) (by omega) (by omega), e (o + 18) (by omega) (by omega), e (o + 20) (by omega) (by omega)]
  exact h
theorem HH.fr {o : Nat} {η : HS} {I I' : Nat → Nat → Int32} (h : HH o η I) (e : ∀ x, o ≤ x → x ≤ o + 10 → I' x = I x) : HH o η I' := by
  unfold HH at h ⊢
  rw [e o (by omega) (by omega), e (o + 2) (by omega) (by omega), e (o + 4) (by omega) (by omega), e (o + 6) (by omega) (by omega), e (o + 8) (by omega) (by omega), e (o + 10) (by omega) (by omega)]
  exact h
theorem HL.fr {o : Nat} {l : LW} {I I' : Nat → Nat → Int32} (h : HL o l I) (e : I' o = I o) (e2 : I' (o + 2) = I (o + 2)) : HL o l I' := by
  unfold HL at h ⊢
  rw [e, e2]
  exact h
theorem MC.fr {κ : CT} {I I' : Nat → Nat → Int32} (h : MC κ I) (e0 : I' 106 = I 106) (e : ∀ x, 113 ≤ x → x ≤ 116 → I' x = I x) : MC κ I' := by
  unfold MC at h ⊢
  rw [e0, e 113 (by omega) (by omega), e 114 (by omega) (by omega), e 115 (by omega) (by omega), e 116 (by omega) (by omega)]
  exact h
theorem MR.fr {a : Nat} {κ : CT} {η : HS} {I I' : Nat → Nat → Int32} (h : MR a κ η I) (e : I' a = I a) : MR a κ η I' := by
  unfold MR at h ⊢
  rw [e]
  exact h
/-- measured anew -/
def ms (κ : CT) (l : LW) (η : HS) (n : Nat) : HS := HS.mk η.mi η.nt η.sa η.be η.le (fun b => if b < n then wlk κ l η b (fm η b 0) (η.le b + 0) else η.wk b) η.cr
theorem ms_wk {κ : CT} {l : LW} {η : HS} {n j : Nat} : (ms κ l η n).wk j = if j < n then wlk κ l η j (fm η j 0) (η.le j + 0) else η.wk j := rfl
theorem ms_0 {κ : CT} {l : LW} {η : HS} {a : Nat} {I : Nat → Nat → Int32} (h : ∀ j, j < 4 → I a j = nI (η.wk j)) : ∀ j, j < 4 → I a j = nI ((ms κ l η 0).wk j) := fun j hj => by
  rw [h j hj, ms_wk, if_neg (Nat.not_lt_zero j)]
theorem cov_eq {κ : CT} {l : LW} {η : HS} {b more : Nat} : sdB κ η (fm η b more) (fm η b more + wlk κ l η b (fm η b more) (η.le b + more) - 1) = ovr κ l η b more := by
  have h := wlk_le κ l η b (fm η b more) (η.le b + more)
  refine mk_congr fun i _ => ?_
  show decide _ = decide _
  exact decide_eq_decide.mpr (by omega)
theorem r_X2_coveredIfLed_0 : RW M_X2_coveredIfLed 0 (.aload_n 0) 1 0 0 1 := ⟨rfl, rfl⟩
theorem r_X2_coveredIfLed_1 : RW M_X2_coveredIfLed 1 (.iload_n 1) 1 0 0 2 := ⟨rfl, rfl⟩
theorem r_X2_coveredIfLed_2 : RW M_X2_coveredIfLed 2 (.iload_n 2) 1 0 0 3 := ⟨rfl, rfl⟩
theorem r_X2_coveredIfLed_3 : RW M_X2_coveredIfLed 3 (.invokevirtual 90) 3 30 0 6 := ⟨rfl, rfl⟩
theorem r_X2_coveredIfLed_6 : RW M_X2_coveredIfLed 6 (.istore_n 3) 1 0 0 7 := ⟨rfl, rfl⟩
theorem r_X2_coveredIfLed_7 : RW M_X2_coveredIfLed 7 (.aload_n 0) 1 0 0 8 := ⟨rfl, rfl⟩
theorem r_X2_coveredIfLed_8 : RW M_X2_coveredIfLed 8 (.iload_n 3) 1 0 0 9 := ⟨rfl, rfl⟩
theorem r_X2_coveredIfLed_9 : RW M_X2_coveredIfLed 9 (.iload_n 3) 1 0 0 10 := ⟨rfl, rfl⟩
theorem r_X2_coveredIfLed_10 : RW M_X2_coveredIfLed 10 (.aload_n 0) 1 0 0 11 := ⟨rfl, rfl⟩
theorem r_X2_coveredIfLed_11 : RW M_X2_coveredIfLed 11 (.iload_n 1) 1 0 0 12 := ⟨rfl, rfl⟩
theorem r_X2_coveredIfLed_12 : RW M_X2_coveredIfLed 12 (.iload_n 2) 1 0 0 13 := ⟨rfl, rfl⟩
theorem r_X2_coveredIfLed_13 : RW M_X2_coveredIfLed 13 (.invokevirtual 76) 3 29 0 16 := ⟨rfl, rfl⟩
theorem r_X2_coveredIfLed_16 : RW M_X2_coveredIfLed 16 (.iadd) 1 0 0 17 := ⟨rfl, rfl⟩
theorem r_X2_coveredIfLed_17 : RW M_X2_coveredIfLed 17 (.iconst 1) 1 0 0 18 := ⟨rfl, rfl⟩
theorem r_X2_coveredIfLed_18 : RW M_X2_coveredIfLed 18 (.isub) 1 0 0 19 := ⟨rfl, rfl⟩
theorem r_X2_coveredIfLed_19 : RW M_X2_coveredIfLed 19 (.invokevirtual 109) 3 37 0 22 := ⟨rfl, rfl⟩
theorem r_X2_coveredIfLed_22 : RW M_X2_coveredIfLed 22 (.ireturn) 1 0 0 23 := ⟨rfl, rfl⟩
theorem r_X2_measure_0 : RW M_X2_measure 0 (.iconst 0) 1 0 0 1 := ⟨rfl, rfl⟩
theorem r_X2_measure_1 : RW M_X2_measure 1 (.istore_n 1) 1 0 0 2 := ⟨rfl, rfl⟩
theorem r_X2_measure_2 : RW M_X2_measure 2 (.iload_n 1) 1 0 0 3 := ⟨rfl, rfl⟩
theorem r_X2_measure_3 : RW M_X2_measure 3 (.aload_n 0) 1 0 0 4 := ⟨rfl, rfl⟩
theorem r_X2_measure_4 : RW M_X2_measure 4 (.getfield 32) 3 2 0 7 := ⟨rfl, rfl⟩
theorem r_X2_measure_7 : RW M_X2_measure 7 (.getfield 73) 3 1 12 10 := ⟨rfl, rfl⟩
theorem r_X2_measure_10 : RW M_X2_measure 10 (.if_icmp .ge 23) 3 33 0 13 := ⟨rfl, rfl⟩
theorem r_X2_measure_13 : RW M_X2_measure 13 (.aload_n 0) 1 0 0 14 := ⟨rfl, rfl⟩
theorem r_X2_measure_14 : RW M_X2_measure 14 (.getfield 26) 3 2 5 17 := ⟨rfl, rfl⟩
theorem r_X2_measure_17 : RW M_X2_measure 17 (.iload_n 1) 1 0 0 18 := ⟨rfl, rfl⟩
theorem r_X2_measure_18 : RW M_X2_measure 18 (.aload_n 0) 1 0 0 19 := ⟨rfl, rfl⟩
theorem r_X2_measure_19 : RW M_X2_measure 19 (.iload_n 1) 1 0 0 20 := ⟨rfl, rfl⟩
theorem r_X2_measure_20 : RW M_X2_measure 20 (.iconst 0) 1 0 0 21 := ⟨rfl, rfl⟩
theorem r_X2_measure_21 : RW M_X2_measure 21 (.invokevirtual 76) 3 29 0 24 := ⟨rfl, rfl⟩
theorem r_X2_measure_24 : RW M_X2_measure 24 (.invokevirtual 59) 3 93 0 27 := ⟨rfl, rfl⟩
theorem r_X2_measure_27 : RW M_X2_measure 27 (.iinc 1 1) 3 0 0 30 := ⟨rfl, rfl⟩
theorem r_X2_measure_30 : RW M_X2_measure 30 (.goto (-28)) 3 2 0 33 := ⟨rfl, rfl⟩
theorem r_X2_measure_33 : RW M_X2_measure 33 (.return_) 1 0 0 34 := ⟨rfl, rfl⟩
theorem r_X2_walkIfLed_0 : RW M_X2_walkIfLed 0 (.aload_n 0) 1 0 0 1 := ⟨rfl, rfl⟩
theorem r_X2_walkIfLed_1 : RW M_X2_walkIfLed 1 (.aload_n 0) 1 0 0 2 := ⟨rfl, rfl⟩
theorem r_X2_walkIfLed_2 : RW M_X2_walkIfLed 2 (.getfield 32) 3 2 0 5 := ⟨rfl, rfl⟩
theorem r_X2_walkIfLed_5 : RW M_X2_walkIfLed 5 (.invokevirtual 80) 3 15 0 8 := ⟨rfl, rfl⟩
theorem r_X2_walkIfLed_8 : RW M_X2_walkIfLed 8 (.bipush 40) 2 0 0 10 := ⟨rfl, rfl⟩
theorem r_X2_walkIfLed_10 : RW M_X2_walkIfLed 10 (.invokevirtual 84) 3 32 0 13 := ⟨rfl, rfl⟩
theorem r_X2_walkIfLed_13 : RW M_X2_walkIfLed 13 (.istore_n 3) 1 0 0 14 := ⟨rfl, rfl⟩
theorem r_X2_walkIfLed_14 : RW M_X2_walkIfLed 14 (.aload_n 0) 1 0 0 15 := ⟨rfl, rfl⟩
theorem r_X2_walkIfLed_15 : RW M_X2_walkIfLed 15 (.getfield 36) 3 2 1 18 := ⟨rfl, rfl⟩
theorem r_X2_walkIfLed_18 : RW M_X2_walkIfLed 18 (.aload_n 0) 1 0 0 19 := ⟨rfl, rfl⟩
theorem r_X2_walkIfLed_19 : RW M_X2_walkIfLed 19 (.getfield 32) 3 2 0 22 := ⟨rfl, rfl⟩
theorem r_X2_walkIfLed_22 : RW M_X2_walkIfLed 22 (.getfield 87) 3 1 7 25 := ⟨rfl, rfl⟩
theorem r_X2_walkIfLed_25 : RW M_X2_walkIfLed 25 (.iload_n 1) 1 0 0 26 := ⟨rfl, rfl⟩
theorem r_X2_walkIfLed_26 : RW M_X2_walkIfLed 26 (.invokevirtual 69) 3 92 0 29 := ⟨rfl, rfl⟩
theorem r_X2_walkIfLed_29 : RW M_X2_walkIfLed 29 (.aload_n 0) 1 0 0 30 := ⟨rfl, rfl⟩
theorem r_X2_walkIfLed_30 : RW M_X2_walkIfLed 30 (.iload_n 1) 1 0 0 31 := ⟨rfl, rfl⟩
theorem r_X2_walkIfLed_31 : RW M_X2_walkIfLed 31 (.iload_n 2) 1 0 0 32 := ⟨rfl, rfl⟩
theorem r_X2_walkIfLed_32 : RW M_X2_walkIfLed 32 (.invokevirtual 90) 3 30 0 35 := ⟨rfl, rfl⟩
theorem r_X2_walkIfLed_35 : RW M_X2_walkIfLed 35 (.iload_n 3) 1 0 0 36 := ⟨rfl, rfl⟩
theorem r_X2_walkIfLed_36 : RW M_X2_walkIfLed 36 (.aload_n 0) 1 0 0 37 := ⟨rfl, rfl⟩
theorem r_X2_walkIfLed_37 : RW M_X2_walkIfLed 37 (.getfield 23) 3 2 4 40 := ⟨rfl, rfl⟩
theorem r_X2_walkIfLed_40 : RW M_X2_walkIfLed 40 (.iload_n 1) 1 0 0 41 := ⟨rfl, rfl⟩
theorem r_X2_walkIfLed_41 : RW M_X2_walkIfLed 41 (.invokevirtual 69) 3 92 0 44 := ⟨rfl, rfl⟩
theorem r_X2_walkIfLed_44 : RW M_X2_walkIfLed 44 (.iload_n 2) 1 0 0 45 := ⟨rfl, rfl⟩
theorem r_X2_walkIfLed_45 : RW M_X2_walkIfLed 45 (.iadd) 1 0 0 46 := ⟨rfl, rfl⟩
theorem r_X2_walkIfLed_46 : RW M_X2_walkIfLed 46 (.aload_n 0) 1 0 0 47 := ⟨rfl, rfl⟩
theorem r_X2_walkIfLed_47 : RW M_X2_walkIfLed 47 (.getfield 44) 3 2 8 50 := ⟨rfl, rfl⟩
theorem r_X2_walkIfLed_50 : RW M_X2_walkIfLed 50 (.invokestatic 93) 3 322 0 53 := ⟨rfl, rfl⟩
theorem r_X2_walkIfLed_53 : RW M_X2_walkIfLed 53 (.iload_n 1) 1 0 0 54 := ⟨rfl, rfl⟩
theorem r_X2_walkIfLed_54 : RW M_X2_walkIfLed 54 (.invokevirtual 98) 3 57 0 57 := ⟨rfl, rfl⟩
theorem r_X2_walkIfLed_57 : RW M_X2_walkIfLed 57 (.ireturn) 1 0 0 58 := ⟨rfl, rfl⟩
theorem ms_step {κ : CT} {l : LW} {η : HS} {i a : Nat} {I : Nat → Nat → Int32} (h : ∀ j, j < 4 → I a j = nI ((ms κ l η i).wk j)) : ∀ j, j < 4 → wr I a i (nI (wlk κ l (ms κ l η i) i (fm (ms κ l η i) i 0) ((ms κ l η i).le i + 0))) a j = nI ((ms κ l η (i + 1)).wk j) := by
  intro j hj
  by_cases e : j = i
  · subst e
    rw [wr_same]
    rw [ms_wk (n := j + 1), if_pos (Nat.lt_succ_self j)]
    rfl
  · rw [wr_ne (Or.inr e), h j hj]
    rw [ms_wk, ms_wk]
    by_cases h2 : j < i
    · rw [if_pos h2, if_pos (by omega)]
    · rw [if_neg h2, if_neg (by omega)]
theorem c71_walkIf {d : Nat} {I : Nat → Nat → Int32} {J : Nat → Nat → Int64} {κ : CT} {l : LW} {η : HS} (hc : HC 4 κ I) (cb : CB κ) (hh : HH 71 η I) (hb : HB κ η) (hl : HL 46 l I) (lb : LB l) {b n : Nat} (hb2 : b < 4) (hn : n < 100)  (hd : 3 ≤ d) : RI d 29 [.ref 71, .int (nI b), .int (nI n)] I J (fun v I' => v = nI (wlk κ l η b (fm η b n) (η.le b + n)) ∧ ∀ o, o ≠ 50 → o ≠ 52 → I' o = I o) := by
  refine RI.in (d0 := 2) hd mt_29 (Nat.le_of_ble_eq_true rfl) (fun d' hd' => ?_)
  have bns := cb.ns; have bnb := cb.nb; have bnc := cb.nc; have bnr := cb.nr
  have pc := pow_nc cb; have p0 := Nat.two_pow_pos κ.nc; have b1 := hb.nt; have b2 := pow_ns cb
  have cq := crumb_all (κ := κ) (n := κ.nc) hb.cr κ.nc (Nat.le_refl _)
  show EV none M_X2_walkIfLed d' 0 [(0, .ref 71), (1, .int (nI b)), (2, .int (nI n))] [] (hp I J) _
  refine EV.l (lv' := [(0, _), (1, _), (2, _)]) r_X2_walkIfLed_0 rfl ?_
  refine EV.l (lv' := [(0, _), (1, _), (2, _)]) r_X2_walkIfLed_1 rfl ?_
  refine EV.gR r_X2_walkIfLed_2 la_71 ?_
  refine EV.cv r_X2_walkIfLed_5 (aV0 mt_15 la_4) (b_allC hc cb (by omega)) ?_
  refine EV.o r_X2_walkIfLed_8 (bpN (40) 40) ?_
  refine EV.cv r_X2_walkIfLed_10 (aV2 mt_32 la_71) (c71_crumbs hc cb hh hb (by omega) (by omega) (by omega)) ?_
  rw [cq]
  refine EV.l (lv' := [(0, _), (1, _), (2, _), (3, _)]) r_X2_walkIfLed_13 rfl ?_
  refine EV.l (lv' := [(0, _), (1, _), (2, _), (3, _)]) r_X2_walkIfLed_14 rfl ?_
  refine EV.gR r_X2_walkIfLed_15 la_71 ?_
  refine EV.l (lv' := [(0, _), (1, _), (2, _), (3, _)]) r_X2_walkIfLed_18 rfl ?_
  refine EV.gR r_X2_walkIfLed_19 la_71 ?_
  refine EV.gR r_X2_walkIfLed_22 la_4 ?_
  refine EV.l (lv' := [(0, _), (1, _), (2, _), (3, _)]) r_X2_walkIfLed_25 rfl ?_
  refine EV.cv r_X2_walkIfLed_26 (aV1 mt_92 la_19) (c_getN (by omega) la_19 la_20 (hc.bs _ (by omega))) ?_
  refine EV.l (lv' := [(0, _), (1, _), (2, _), (3, _)]) r_X2_walkIfLed_29 rfl ?_
  refine EV.l (lv' := [(0, _), (1, _), (2, _), (3, _)]) r_X2_walkIfLed_30 rfl ?_
  refine EV.l (lv' := [(0, _), (1, _), (2, _), (3, _)]) r_X2_walkIfLed_31 rfl ?_
  refine EV.cv r_X2_walkIfLed_32 (aV2 mt_30 la_71) (c71_beginIf hc cb hh hb (by omega) (by omega) (by omega)) ?_
  refine EV.l (lv' := [(0, _), (1, _), (2, _), (3, _)]) r_X2_walkIfLed_35 rfl ?_
  refine EV.l (lv' := [(0, _), (1, _), (2, _), (3, _)]) r_X2_walkIfLed_36 rfl ?_
  refine EV.gR r_X2_walkIfLed_37 la_71 ?_
  refine EV.l (lv' := [(0, _), (1, _), (2, _), (3, _)]) r_X2_walkIfLed_40 rfl ?_
  refine EV.cv r_X2_walkIfLed_41 (aV1 mt_92 la_76) (c_getN (by omega) la_76 la_77 (hh.le _ (by omega))) ?_
  refine EV.l (lv' := [(0, _), (1, _), (2, _), (3, _)]) r_X2_walkIfLed_44 rfl ?_
  refine EV.o r_X2_walkIfLed_45 iaddN ?_
  refine EV.l (lv' := [(0, _), (1, _), (2, _), (3, _)]) r_X2_walkIfLed_46 rfl ?_
  refine EV.getV r_X2_walkIfLed_47 la_71 (hh.nt) ?_
  refine EV.cv r_X2_walkIfLed_50 (aS1 mt_322) (c_bc (by omega) (by omega)) ?_
  refine EV.l (lv' := [(0, _), (1, _), (2, _), (3, _)]) r_X2_walkIfLed_53 rfl ?_
  refine EV.ci r_X2_walkIfLed_54 (aV6 mt_57 la_46) (c_walk hl lb (by omega)) (fun v I2 h => ?_)
  obtain ⟨e, fr⟩ := h
  subst e
  exact EV.ri r_X2_walkIfLed_57 (⟨rfl, fr⟩)
theorem c71_covered {d : Nat} {I : Nat → Nat → Int32} {J : Nat → Nat → Int64} {κ : CT} {l : LW} {η : HS} (hc : HC 4 κ I) (cb : CB κ) (hh : HH 71 η I) (hb : HB κ η) (hl : HL 46 l I) (lb : LB l) {b n : Nat} (hb2 : b < 4) (hn : n < 100)  (hd : 4 ≤ d) : RI d 31 [.ref 71, .int (nI b), .int (nI n)] I J (fun v I' => v = nI (ovr κ l η b n) ∧ ∀ o, o ≠ 50 → o ≠ 52 → I' o = I o) := by
  refine RI.in (d0 := 3) hd mt_31 (Nat.le_of_ble_eq_true rfl) (fun d' hd' => ?_)
  have bns := cb.ns; have bnb := cb.nb; have bnc := cb.nc; have bnr := cb.nr
  have wl := wlk_le κ l η b (fm η b n) (η.le b + n)
  have fl : fm η b n ≤ 400 := Nat.min_le_left _ _
  show EV none M_X2_coveredIfLed d' 0 [(0, .ref 71), (1, .int (nI b)), (2, .int (nI n))] [] (hp I J) _
  refine EV.l (lv' := [(0, _), (1, _), (2, _)]) r_X2_coveredIfLed_0 rfl ?_
  refine EV.l (lv' := [(0, _), (1, _), (2, _)]) r_X2_coveredIfLed_1 rfl ?_
  refine EV.l (lv' := [(0, _), (1, _), (2, _)]) r_X2_coveredIfLed_2 rfl ?_
  refine EV.cv r_X2_coveredIfLed_3 (aV2 mt_30 la_71) (c71_beginIf hc cb hh hb (by omega) (by omega) (by omega)) ?_
  refine EV.l (lv' := [(0, _), (1, _), (2, _), (3, _)]) r_X2_coveredIfLed_6 rfl ?_
  refine EV.l (lv' := [(0, _), (1, _), (2, _), (3, _)]) r_X2_coveredIfLed_7 rfl ?_
  refine EV.l (lv' := [(0, _), (1, _), (2, _), (3, _)]) r_X2_coveredIfLed_8 rfl ?_
  refine EV.l (lv' := [(0, _), (1, _), (2, _), (3, _)]) r_X2_coveredIfLed_9 rfl ?_
  refine EV.l (lv' := [(0, _), (1, _), (2, _), (3, _)]) r_X2_coveredIfLed_10 rfl ?_
  refine EV.l (lv' := [(0, _), (1, _), (2, _), (3, _)]) r_X2_coveredIfLed_11 rfl ?_
  refine EV.l (lv' := [(0, _), (1, _), (2, _), (3, _)]) r_X2_coveredIfLed_12 rfl ?_
  refine EV.ci r_X2_coveredIfLed_13 (aV2 mt_29 la_71) (c71_walkIf hc cb hh hb hl lb (by omega) (by omega) (by omega)) (fun v I2 h => ?_)
  obtain ⟨e, fr⟩ := h
  subst e
  have hc2 := HC.fr hc (fun x h1 h2 => fr x (by omega) (by omega))
  have hh2 := HH.fr hh (fun x h1 h2 => fr x (by omega) (by omega))
  rw [show min 400 (η.be b + n) = fm η b n from rfl]
  refine EV.o r_X2_coveredIfLed_16 iaddN ?_
  refine EV.o r_X2_coveredIfLed_17 (icN (1) (v := 1)) ?_
  refine EV.o r_X2_coveredIfLed_18 (isubN) ?_
  refine EV.cv r_X2_coveredIfLed_19 (aV2 mt_37 la_71) (c71_said hc2 cb hh2 hb (by omega) (by omega) (by omega)) ?_
  exact EV.ri r_X2_coveredIfLed_22 (⟨congrArg nI cov_eq, fr⟩)
theorem c71_measure {d : Nat} {I : Nat → Nat → Int32} {J : Nat → Nat → Int64} {κ : CT} {l : LW} {η : HS} (hc : HC 4 κ I) (cb : CB κ) (hh : HH 71 η I) (hb : HB κ η) (hl : HL 46 l I) (lb : LB l)  (hd : 4 ≤ d) : RU d 28 [.ref 71] I J (fun I' => HH 71 (ms κ l η κ.nb) I' ∧ ∀ o, o ≠ 50 → o ≠ 52 → o ≠ 79 → I' o = I o) := by
  refine RU.in (d0 := 3) hd mt_28 (Nat.le_of_ble_eq_true rfl) (fun d' hd' => ?_)
  have bns := cb.ns; have bnb := cb.nb; have bnc := cb.nc; have bnr := cb.nr
  show EV none M_X2_measure d' 0 [(0, .ref 71)] [] (hp I J) _
  refine EV.o r_X2_measure_0 (icN (0) (v := 0)) ?_
  refine EV.l (lv' := [(0, _), (1, _)]) r_X2_measure_1 rfl ?_
  have L2 : ∀ y_ : Nat × (Nat → Nat → Int32), (fun y => (y.1 ≤ κ.nb ∧ (∀ o, o ≠ 50 → o ≠ 52 → o ≠ 79 → y.2 o = I o) ∧ ∀ j, j < 4 → y.2 79 j = nI ((ms κ l η y.1).wk j)) → EV none M_X2_measure d' 2 [(0, .ref 71), (1, .int (nI y.1))] [] (hp y.2 J) (QU J (fun I' => HH 71 (ms κ l η κ.nb) I' ∧ ∀ o, o ≠ 50 → o ≠ 52 → o ≠ 79 → I' o = I o))) y_ := by
    refine ev_loop (fun y => κ.nb - y.1) ?_
    intro ⟨i, I1⟩ ih2 hx2
    try dsimp only at ih2
    try dsimp only at hx2
    try dsimp only
    have fr := hx2.2.1
    have hc1 := HC.fr (I' := I1) hc (fun x h1 h2 => fr x (by omega) (by omega) (by omega))
    have hl1 := HL.fr (I' := I1) hl (fr 46 (by decide) (by decide) (by decide)) (fr 48 (by decide) (by decide) (by decide))
    have il := hx2.1
    have hh1 : HH 71 (ms κ l η i) I1 := ⟨by rw [fr 71 (by decide) (by decide) (by decide)]; exact hh.mi, by rw [fr 71 (by decide) (by decide) (by decide)]; exact hh.nt, by rw [fr (71 + 2) (by decide) (by decide) (by decide)]; exact hh.sa, by rw [fr (71 + 4) (by decide) (by decide) (by decide)]; exact hh.be, by rw [fr (71 + 6) (by decide) (by decide) (by decide)]; exact hh.le, hx2.2.2, by rw [fr (71 + 10) (by decide) (by decide) (by decide)]; exact hh.cr⟩
    have hb1 : HB κ (ms κ l η i) := ⟨hb.mi, hb.nt, hb.sa, hb.be, fun j => (by show (if j < i then _ else _) ≤ 40; split; exact (wlk_le _ _ _ _ _ _).2; exact hb.wk j), hb.cr⟩
    refine EV.l (lv' := [(0, _), (1, _)]) r_X2_measure_2 rfl ?_
    refine EV.l (lv' := [(0, _), (1, _)]) r_X2_measure_3 rfl ?_
    refine EV.gR r_X2_measure_4 la_71 ?_
    refine EV.getV r_X2_measure_7 la_4 (hc1.nb) ?_
    refine EV.n2_ge r_X2_measure_10 (fun h10 => ?_) (fun h10 => ?_)
    · -- 10 t
      exact EV.ru r_X2_measure_33 (⟨by rw [show κ.nb = i by omega]; exact hh1, fr⟩)
    · -- 10 f
      refine EV.l (lv' := [(0, _), (1, _)]) r_X2_measure_13 rfl ?_
      refine EV.gR r_X2_measure_14 la_71 ?_
      refine EV.l (lv' := [(0, _), (1, _)]) r_X2_measure_17 rfl ?_
      refine EV.l (lv' := [(0, _), (1, _)]) r_X2_measure_18 rfl ?_
      refine EV.l (lv' := [(0, _), (1, _)]) r_X2_measure_19 rfl ?_
      refine EV.o r_X2_measure_20 (icN (0) (v := 0)) ?_
      refine EV.ci r_X2_measure_21 (aV2 mt_29 la_71) (c71_walkIf hc1 cb hh1 hb1 hl1 lb (by omega) (by omega) (by omega)) (fun v I2 h => ?_)
      obtain ⟨e, fr2⟩ := h
      subst e
      refine EV.cu r_X2_measure_24 (aV2 mt_93 la_78) (c_set la_78 la_79 (by decide) (by decide) (by omega) (by omega)) (fun I3 e3 => ?_)
      refine EV.l (lv' := [(0, _), (1, _)]) r_X2_measure_27 rfl ?_
      rw [inc_nI]
      refine EV.g r_X2_measure_30 ?_
      refine EV.sub ?_ rfl ?_ (ih2 (i + 1, I3) ?_ ?_)
      · (try dsimp only) <;> (rfl)
      · (try dsimp only) <;> (rfl)
      · (try dsimp only) <;> (omega)
      · (try dsimp only) <;> (subst e3; exact ⟨by omega, fun o h1 h2 h3 => (wr_row h3).trans ((fr2 o h1 h2).trans (fr o h1 h2 h3)), ms_step (fun j hj => by rw [fr2 79 (by decide) (by decide)]; exact hx2.2.2 j hj)⟩)
  have h0 := L2 ((0, I))
  try dsimp only at h0
  refine EV.sub ?_ rfl ?_ (h0 ?_)
  · (try dsimp only) <;> (rfl)
  · (try dsimp only) <;> (rfl)
  · (try dsimp only) <;> (exact ⟨Nat.zero_le _, fun _ _ _ _ => rfl, ms_0 hh.wk⟩)
theorem c95_walkIf {d : Nat} {I : Nat → Nat → Int32} {J : Nat → Nat → Int64} {κ : CT} {l : LW} {η : HS} (hc : HC 4 κ I) (cb : CB κ) (hh : HH 95 η I) (hb : HB κ η) (hl : HL 46 l I) (lb : LB l) {b n : Nat} (hb2 : b < 4) (hn : n < 100)  (hd : 3 ≤ d) : RI d 29 [.ref 95, .int (nI b), .int (nI n)] I J (fun v I' => v = nI (wlk κ l η b (fm η b n) (η.le b + n)) ∧ ∀ o, o ≠ 50 → o ≠ 52 → I' o = I o) := by
  refine RI.in (d0 := 2) hd mt_29 (Nat.le_of_ble_eq_true rfl) (fun d' hd' => ?_)
  have bns := cb.ns; have bnb := cb.nb; have bnc := cb.nc; have bnr := cb.nr
  have pc := pow_nc cb; have p0 := Nat.two_pow_pos κ.nc; have b1 := hb.nt; have b2 := pow_ns cb
  have cq := crumb_all (κ := κ) (n := κ.nc) hb.cr κ.nc (Nat.le_refl _)
  show EV none M_X2_walkIfLed d' 0 [(0, .ref 95), (1, .int (nI b)), (2, .int (nI n))] [] (hp I J) _
  refine EV.l (lv' := [(0, _), (1, _), (2, _)]) r_X2_walkIfLed_0 rfl ?_
  refine EV.l (lv' := [(0, _), (1, _), (2, _)]) r_X2_walkIfLed_1 rfl ?_
  refine EV.gR r_X2_walkIfLed_2 la_95 ?_
  refine EV.cv r_X2_walkIfLed_5 (aV0 mt_15 la_4) (b_allC hc cb (by omega)) ?_
  refine EV.o r_X2_walkIfLed_8 (bpN (40) 40) ?_
  refine EV.cv r_X2_walkIfLed_10 (aV2 mt_32 la_95) (c95_crumbs hc cb hh hb (by omega) (by omega) (by omega)) ?_
  rw [cq]
  refine EV.l (lv' := [(0, _), (1, _), (2, _), (3, _)]) r_X2_walkIfLed_13 rfl ?_
  refine EV.l (lv' := [(0, _), (1, _), (2, _), (3, _)]) r_X2_walkIfLed_14 rfl ?_
  refine EV.gR r_X2_walkIfLed_15 la_95 ?_
  refine EV.l (lv' := [(0, _), (1, _), (2, _), (3, _)]) r_X2_walkIfLed_18 rfl ?_
  refine EV.gR r_X2_walkIfLed_19 la_95 ?_
  refine EV.gR r_X2_walkIfLed_22 la_4 ?_
  refine EV.l (lv' := [(0, _), (1, _), (2, _), (3, _)]) r_X2_walkIfLed_25 rfl ?_
  refine EV.cv r_X2_walkIfLed_26 (aV1 mt_92 la_19) (c_getN (by omega) la_19 la_20 (hc.bs _ (by omega))) ?_
  refine EV.l (lv' := [(0, _), (1, _), (2, _), (3, _)]) r_X2_walkIfLed_29 rfl ?_
  refine EV.l (lv' := [(0, _), (1, _), (2, _), (3, _)]) r_X2_walkIfLed_30 rfl ?_
  refine EV.l (lv' := [(0, _), (1, _), (2, _), (3, _)]) r_X2_walkIfLed_31 rfl ?_
  refine EV.cv r_X2_walkIfLed_32 (aV2 mt_30 la_95) (c95_beginIf hc cb hh hb (by omega) (by omega) (by omega)) ?_
  refine EV.l (lv' := [(0, _), (1, _), (2, _), (3, _)]) r_X2_walkIfLed_35 rfl ?_
  refine EV.l (lv' := [(0, _), (1, _), (2, _), (3, _)]) r_X2_walkIfLed_36 rfl ?_
  refine EV.gR r_X2_walkIfLed_37 la_95 ?_
  refine EV.l (lv' := [(0, _), (1, _), (2, _), (3, _)]) r_X2_walkIfLed_40 rfl ?_
  refine EV.cv r_X2_walkIfLed_41 (aV1 mt_92 la_100) (c_getN (by omega) la_100 la_101 (hh.le _ (by omega))) ?_
  refine EV.l (lv' := [(0, _), (1, _), (2, _), (3, _)]) r_X2_walkIfLed_44 rfl ?_
  refine EV.o r_X2_walkIfLed_45 iaddN ?_
  refine EV.l (lv' := [(0, _), (1, _), (2, _), (3, _)]) r_X2_walkIfLed_46 rfl ?_
  refine EV.getV r_X2_walkIfLed_47 la_95 (hh.nt) ?_
  refine EV.cv r_X2_walkIfLed_50 (aS1 mt_322) (c_bc (by omega) (by omega)) ?_
  refine EV.l (lv' := [(0, _), (1, _), (2, _), (3, _)]) r_X2_walkIfLed_53 rfl ?_
  refine EV.ci r_X2_walkIfLed_54 (aV6 mt_57 la_46) (c_walk hl lb (by omega)) (fun v I2 h => ?_)
  obtain ⟨e, fr⟩ := h
  subst e
  exact EV.ri r_X2_walkIfLed_57 (⟨rfl, fr⟩)
theorem c95_covered {d : Nat} {I : Nat → Nat → Int32} {J : Nat → Nat → Int64} {κ : CT} {l : LW} {η : HS} (hc : HC 4 κ I) (cb : CB κ) (hh : HH 95 η I) (hb : HB κ η) (hl : HL 46 l I) (lb : LB l) {b n : Nat} (hb2 : b < 4) (hn : n < 100)  (hd : 4 ≤ d) : RI d 31 [.ref 95, .int (nI b), .int (nI n)] I J (fun v I' => v = nI (ovr κ l η b n) ∧ ∀ o, o ≠ 50 → o ≠ 52 → I' o = I o) := by
  refine RI.in (d0 := 3) hd mt_31 (Nat.le_of_ble_eq_true rfl) (fun d' hd' => ?_)
  have bns := cb.ns; have bnb := cb.nb; have bnc := cb.nc; have bnr := cb.nr
  have wl := wlk_le κ l η b (fm η b n) (η.le b + n)
  have fl : fm η b n ≤ 400 := Nat.min_le_left _ _
  show EV none M_X2_coveredIfLed d' 0 [(0, .ref 95), (1, .int (nI b)), (2, .int (nI n))] [] (hp I J) _
  refine EV.l (lv' := [(0, _), (1, _), (2, _)]) r_X2_coveredIfLed_0 rfl ?_
  refine EV.l (lv' := [(0, _), (1, _), (2, _)]) r_X2_coveredIfLed_1 rfl ?_
  refine EV.l (lv' := [(0, _), (1, _), (2, _)]) r_X2_coveredIfLed_2 rfl ?_
  refine EV.cv r_X2_coveredIfLed_3 (aV2 mt_30 la_95) (c95_beginIf hc cb hh hb (by omega) (by omega) (by omega)) ?_
  refine EV.l (lv' := [(0, _), (1, _), (2, _), (3, _)]) r_X2_coveredIfLed_6 rfl ?_
  refine EV.l (lv' := [(0, _), (1, _), (2, _), (3, _)]) r_X2_coveredIfLed_7 rfl ?_
  refine EV.l (lv' := [(0, _), (1, _), (2, _), (3, _)]) r_X2_coveredIfLed_8 rfl ?_
  refine EV.l (lv' := [(0, _), (1, _), (2, _), (3, _)]) r_X2_coveredIfLed_9 rfl ?_
  refine EV.l (lv' := [(0, _), (1, _), (2, _), (3, _)]) r_X2_coveredIfLed_10 rfl ?_
  refine EV.l (lv' := [(0, _), (1, _), (2, _), (3, _)]) r_X2_coveredIfLed_11 rfl ?_
  refine EV.l (lv' := [(0, _), (1, _), (2, _), (3, _)]) r_X2_coveredIfLed_12 rfl ?_
  refine EV.ci r_X2_coveredIfLed_13 (aV2 mt_29 la_95) (c95_walkIf hc cb hh hb hl lb (by omega) (by omega) (by omega)) (fun v I2 h => ?_)
  obtain ⟨e, fr⟩ := h
  subst e
  have hc2 := HC.fr hc (fun x h1 h2 => fr x (by omega) (by omega))
  have hh2 := HH.fr hh (fun x h1 h2 => fr x (by omega) (by omega))
  rw [show min 400 (η.be b + n) = fm η b n from rfl]
  refine EV.o r_X2_coveredIfLed_16 iaddN ?_
  refine EV.o r_X2_coveredIfLed_17 (icN (1) (v := 1)) ?_
  refine EV.o r_X2_coveredIfLed_18 (isubN) ?_
  refine EV.cv r_X2_coveredIfLed_19 (aV2 mt_37 la_95) (c95_said hc2 cb hh2 hb (by omega) (by omega) (by omega)) ?_
  exact EV.ri r_X2_coveredIfLed_22 (⟨congrArg nI cov_eq, fr⟩)
theorem c95_measure {d : Nat} {I : Nat → Nat → Int32} {J : Nat → Nat → Int64} {κ : CT} {l : LW} {η : HS} (hc : HC 4 κ I) (cb : CB κ) (hh : HH 95 η I) (hb : HB κ η) (hl : HL 46 l I) (lb : LB l)  (hd : 4 ≤ d) : RU d 28 [.ref 95] I J (fun I' => HH 95 (ms κ l η κ.nb) I' ∧ ∀ o, o ≠ 50 → o ≠ 52 → o ≠ 103 → I' o = I o) := by
  refine RU.in (d0 := 3) hd mt_28 (Nat.le_of_ble_eq_true rfl) (fun d' hd' => ?_)
  have bns := cb.ns; have bnb := cb.nb; have bnc := cb.nc; have bnr := cb.nr
  show EV none M_X2_measure d' 0 [(0, .ref 95)] [] (hp I J) _
  refine EV.o r_X2_measure_0 (icN (0) (v := 0)) ?_
  refine EV.l (lv' := [(0, _), (1, _)]) r_X2_measure_1 rfl ?_
  have L2 : ∀ y_ : Nat × (Nat → Nat → Int32), (fun y => (y.1 ≤ κ.nb ∧ (∀ o, o ≠ 50 → o ≠ 52 → o ≠ 103 → y.2 o = I o) ∧ ∀ j, j < 4 → y.2 103 j = nI ((ms κ l η y.1).wk j)) → EV none M_X2_measure d' 2 [(0, .ref 95), (1, .int (nI y.1))] [] (hp y.2 J) (QU J (fun I' => HH 95 (ms κ l η κ.nb) I' ∧ ∀ o, o ≠ 50 → o ≠ 52 → o ≠ 103 → I' o = I o))) y_ := by
    refine ev_loop (fun y => κ.nb - y.1) ?_
    intro ⟨i, I1⟩ ih2 hx2
    try dsimp only at ih2
    try dsimp only at hx2
    try dsimp only
    have fr := hx2.2.1
    have hc1 := HC.fr (I' := I1) hc (fun x h1 h2 => fr x (by omega) (by omega) (by omega))
    have hl1 := HL.fr (I' := I1) hl (fr 46 (by decide) (by decide) (by decide)) (fr 48 (by decide) (by decide) (by decide))
    have il := hx2.1
    have hh1 : HH 95 (ms κ l η i) I1 := ⟨by rw [fr 95 (by decide) (by decide) (by decide)]; exact hh.mi, by rw [fr 95 (by decide) (by decide) (by decide)]; exact hh.nt, by rw [fr (95 + 2) (by decide) (by decide) (by decide)]; exact hh.sa, by rw [fr (95 + 4) (by decide) (by decide) (by decide)]; exact hh.be, by rw [fr (95 + 6) (by decide) (by decide) (by decide)]; exact hh.le, hx2.2.2, by rw [fr (95 + 10) (by decide) (by decide) (by decide)]; exact hh.cr⟩
    have hb1 : HB κ (ms κ l η i) := ⟨hb.mi, hb.nt, hb.sa, hb.be, fun j => (by show (if j < i then _ else _) ≤ 40; split; exact (wlk_le _ _ _ _ _ _).2; exact hb.wk j), hb.cr⟩
    refine EV.l (lv' := [(0, _), (1, _)]) r_X2_measure_2 rfl ?_
    refine EV.l (lv' := [(0, _), (1, _)]) r_X2_measure_3 rfl ?_
    refine EV.gR r_X2_measure_4 la_95 ?_
    refine EV.getV r_X2_measure_7 la_4 (hc1.nb) ?_
    refine EV.n2_ge r_X2_measure_10 (fun h10 => ?_) (fun h10 => ?_)
    · -- 10 t
      exact EV.ru r_X2_measure_33 (⟨by rw [show κ.nb = i by omega]; exact hh1, fr⟩)
    · -- 10 f
      refine EV.l (lv' := [(0, _), (1, _)]) r_X2_measure_13 rfl ?_
      refine EV.gR r_X2_measure_14 la_95 ?_
      refine EV.l (lv' := [(0, _), (1, _)]) r_X2_measure_17 rfl ?_
      refine EV.l (lv' := [(0, _), (1, _)]) r_X2_measure_18 rfl ?_
      refine EV.l (lv' := [(0, _), (1, _)]) r_X2_measure_19 rfl ?_
      refine EV.o r_X2_measure_20 (icN (0) (v := 0)) ?_
      refine EV.ci r_X2_measure_21 (aV2 mt_29 la_95) (c95_walkIf hc1 cb hh1 hb1 hl1 lb (by omega) (by omega) (by omega)) (fun v I2 h => ?_)
      obtain ⟨e, fr2⟩ := h
      subst e
      refine EV.cu r_X2_measure_24 (aV2 mt_93 la_102) (c_set la_102 la_103 (by decide) (by decide) (by omega) (by omega)) (fun I3 e3 => ?_)
      refine EV.l (lv' := [(0, _), (1, _)]) r_X2_measure_27 rfl ?_
      rw [inc_nI]
      refine EV.g r_X2_measure_30 ?_
      refine EV.sub ?_ rfl ?_ (ih2 (i + 1, I3) ?_ ?_)
      · (try dsimp only) <;> (rfl)
      · (try dsimp only) <;> (rfl)
      · (try dsimp only) <;> (omega)
      · (try dsimp only) <;> (subst e3; exact ⟨by omega, fun o h1 h2 h3 => (wr_row h3).trans ((fr2 o h1 h2).trans (fr o h1 h2 h3)), ms_step (fun j hj => by rw [fr2 103 (by decide) (by decide)]; exact hx2.2.2 j hj)⟩)
  have h0 := L2 ((0, I))
  try dsimp only at h0
  refine EV.sub ?_ rfl ?_ (h0 ?_)
  · (try dsimp only) <;> (rfl)
  · (try dsimp only) <;> (rfl)
  · (try dsimp only) <;> (exact ⟨Nat.zero_le _, fun _ _ _ _ => rfl, ms_0 hh.wk⟩)
