/-! The model's words as numbers. -/
/-- letters as a number, five bits each -/
def pw (f : Nat → Nat) : Nat → Nat
  | 0 => 0
  | i + 1 => pw f i * 32 + (f i - 96)
theorem pw_b {f : Nat → Nat} : ∀ m, (∀ i, i < m → isL (f i) = true) → pw f m < 32 ^ m
  | 0, _ => by show 0 < 1; decide
  | m + 1, h => by
    have h1 := pw_b (f := f) m (fun i hi => h i (by omega))
    have h2 : 97 ≤ f m ∧ f m ≤ 122 := of_decide_eq_true (h m (by omega))
    rw [Nat.pow_succ]
    show pw f m * 32 + (f m - 96) < 32 ^ m * 32
    omega
theorem pw_6 {f : Nat → Nat} {m : Nat} (hm : m ≤ 6) (h : ∀ i, i < m → isL (f i) = true) : pw f m < 1073741824 := Nat.lt_of_lt_of_le (pw_b m h) (Nat.le_trans (Nat.pow_le_pow_right (by decide) hm) (by decide))
theorem pw_5 {f : Nat → Nat} {m : Nat} (hm : m ≤ 5) (h : ∀ i, i < m → isL (f i) = true) : pw f m < 33554432 + 1 := Nat.lt_of_lt_of_le (pw_b m h) (Nat.le_trans (Nat.pow_le_pow_right (by decide) hm) (by decide))
theorem or_pw {x y : Nat} (hy : y < 32) : x * 2 ^ 5 ||| y = x * 32 + y := by
  rw [Nat.mul_comm x (2 ^ 5), ← Nat.two_pow_add_eq_or_of_lt hy x, Nat.mul_comm]
theorem pw_inj {f h : Nat → Nat} : ∀ a b, (∀ i, i < a → isL (f i) = true) → (∀ i, i < b → isL (h i) = true) → pw f a = pw h b → a = b ∧ ∀ i, i < a → f i = h i
  | 0, 0, _, _, _ => ⟨rfl, fun i hi => absurd hi (Nat.not_lt_zero i)⟩
  | 0, b + 1, _, hb_, e => by
    have h2 : 97 ≤ h b ∧ h b ≤ 122 := of_decide_eq_true (hb_ b (by omega))
    have e2 : 0 = pw h b * 32 + (h b - 96) := e
    omega
  | a + 1, 0, ha, _, e => by
    have h2 : 97 ≤ f a ∧ f a ≤ 122 := of_decide_eq_true (ha a (by omega))
    have e2 : pw f a * 32 + (f a - 96) = 0 := e
    omega
  | a + 1, b + 1, ha, hb_, e => by
    have h1 : 97 ≤ f a ∧ f a ≤ 122 := of_decide_eq_true (ha a (by omega))
    have h2 : 97 ≤ h b ∧ h b ≤ 122 := of_decide_eq_true (hb_ b (by omega))
    have e2 : pw f a * 32 + (f a - 96) = pw h b * 32 + (h b - 96) := e
    have r := pw_inj a b (fun i hi => ha i (by omega)) (fun i hi => hb_ i (by omega)) (by omega)
    refine ⟨by omega, fun i hi => ?_⟩
    by_cases z : i = a
    · rw [z]
      have z2 : h a = h b := by rw [r.1]
      omega
    · exact r.2 i (by omega)
/-- the word at s as the model's number: 0 beyond six letters -/
def pwc (g : Nat → Nat) (s m : Nat) : Nat := if m ≤ 6 then pw (fun i => g (s + i)) m else 0
def wdv (g : Nat → Nat) (n s : Nat) : Nat := pwc g s (scp isL g n s - s)
def ofw (t : List Nat) : Nat := pw (fun i => t.getD i 0) t.length
theorem pwc_b {g : Nat → Nat} {s m : Nat} (h : ∀ i, i < m → isL (g (s + i)) = true) : pwc g s m < 1073741824 := by
  unfold pwc
  split
  · exact pw_6 (by assumption) h
  · decide
theorem run_e {g : Nat → Nat} {n : Nat} : ∀ f s, n - s = f → s ≤ n → ∀ i, i < scp isL g n s - s → isL (g (s + i)) = true
  | 0, s, h, h2, i, hi => by rw [scp_no (Or.inl (by omega))] at hi; omega
  | f + 1, s, h, h2, i, hi => by
    cases e : isL (g s) with
    | false => rw [scp_no (Or.inr e)] at hi; omega
    | true =>
      rw [scp_go (by omega) e] at hi
      cases i with
      | zero => exact e
      | succ i => rw [show s + (i + 1) = s + 1 + i by omega]; exact run_e (n := n) f (s + 1) (by omega) (by omega) i (by omega)
theorem wdv_b {g : Nat → Nat} {n s : Nat} (hs : s ≤ n) : wdv g n s < 1073741824 := pwc_b (run_e _ s rfl hs)
theorem pw_x {f h : Nat → Nat} : ∀ m, (∀ i, i < m → f i = h i) → pw f m = pw h m
  | 0, _ => rfl
  | m + 1, e => by
    show pw f m * 32 + (f m - 96) = pw h m * 32 + (h m - 96)
    rw [pw_x m (fun i hi => e i (by omega)), e m (by omega)]
/-- the number tells the word -/
theorem wdv_w {g : Nat → Nat} {n s : Nat} {t : List Nat} (hs : s ≤ n) (lt : ltr t) (t6 : t.length ≤ 6) : wdv g n s = ofw t ↔ isW g n s t = true := by
  have l := scp_le (p := isL) (g := g) hs
  have l2 := scp_ge (p := isL) (g := g) hs
  have z0 : pw (fun i => t.getD i 0) 0 = 0 := rfl
  constructor
  · intro h
    unfold wdv pwc at h
    by_cases c : scp isL g n s - s ≤ 6
    · rw [if_pos c] at h
      have r := pw_inj _ _ (run_e _ s rfl hs) lt.2 h
      refine (isW_m lt hs).mpr ⟨fun i hi => ⟨by omega, r.2 i (by omega)⟩, ?_⟩
      have a := scp_at (p := isL) (g := g) hs
      rw [show scp isL g n s = s + t.length by omega] at a
      exact a
    · rw [if_neg c] at h
      have r := pw_inj (f := fun i => t.getD i 0) (h := fun i => t.getD i 0) 0 t.length (fun i hi => absurd hi (Nat.not_lt_zero i)) lt.2 (z0.trans h)
      have := lt.1
      omega
  · intro h
    have m := (isW_m lt hs).mp h
    have r := run_l (g := g) (n := n) (s := s) (m := t.length) (fun i hi => ⟨(m.1 i hi).1, by rw [(m.1 i hi).2]; exact lt.2 i hi⟩)
    rw [scp_no (p := isL) (g := g) (n := n) (i := s + t.length) m.2] at r
    unfold wdv pwc ofw
    rw [r, show s + t.length - s = t.length by omega, if_pos t6]
    exact pw_x _ (fun i hi => (m.1 i hi).2)
theorem r_X11_of_0 : RW M_X11_of 0 (.iconst 0) 1 0 0 1 := ⟨rfl, rfl⟩
theorem r_X11_of_1 : RW M_X11_of 1 (.istore_n 1) 1 0 0 2 := ⟨rfl, rfl⟩
theorem r_X11_of_2 : RW M_X11_of 2 (.iconst 0) 1 0 0 3 := ⟨rfl, rfl⟩
theorem r_X11_of_3 : RW M_X11_of 3 (.istore_n 2) 1 0 0 4 := ⟨rfl, rfl⟩
theorem r_X11_of_4 : RW M_X11_of 4 (.iload_n 2) 1 0 0 5 := ⟨rfl, rfl⟩
theorem r_X11_of_5 : RW M_X11_of 5 (.aload_n 0) 1 0 0 6 := ⟨rfl, rfl⟩
theorem r_X11_of_6 : RW M_X11_of 6 (.invokevirtual 131) 3 902 0 9 := ⟨rfl, rfl⟩
theorem r_X11_of_9 : RW M_X11_of 9 (.if_icmp .ge 22) 3 31 0 12 := ⟨rfl, rfl⟩
theorem r_X11_of_12 : RW M_X11_of 12 (.iload_n 1) 1 0 0 13 := ⟨rfl, rfl⟩
theorem r_X11_of_13 : RW M_X11_of 13 (.iconst 5) 1 0 0 14 := ⟨rfl, rfl⟩
theorem r_X11_of_14 : RW M_X11_of 14 (.ishl) 1 0 0 15 := ⟨rfl, rfl⟩
theorem r_X11_of_15 : RW M_X11_of 15 (.aload_n 0) 1 0 0 16 := ⟨rfl, rfl⟩
theorem r_X11_of_16 : RW M_X11_of 16 (.iload_n 2) 1 0 0 17 := ⟨rfl, rfl⟩
theorem r_X11_of_17 : RW M_X11_of 17 (.invokevirtual 136) 3 903 0 20 := ⟨rfl, rfl⟩
theorem r_X11_of_20 : RW M_X11_of 20 (.bipush 96) 2 0 0 22 := ⟨rfl, rfl⟩
theorem r_X11_of_22 : RW M_X11_of 22 (.isub) 1 0 0 23 := ⟨rfl, rfl⟩
theorem r_X11_of_23 : RW M_X11_of 23 (.ior) 1 0 0 24 := ⟨rfl, rfl⟩
theorem r_X11_of_24 : RW M_X11_of 24 (.istore_n 1) 1 0 0 25 := ⟨rfl, rfl⟩
theorem r_X11_of_25 : RW M_X11_of 25 (.iinc 2 1) 3 0 0 28 := ⟨rfl, rfl⟩
theorem r_X11_of_28 : RW M_X11_of 28 (.goto (-24)) 3 4 0 31 := ⟨rfl, rfl⟩
theorem r_X11_of_31 : RW M_X11_of 31 (.iload_n 1) 1 0 0 32 := ⟨rfl, rfl⟩
theorem r_X11_of_32 : RW M_X11_of 32 (.ireturn) 1 0 0 33 := ⟨rfl, rfl⟩
theorem r_X11_word_0 : RW M_X11_word 0 (.aload_n 0) 1 0 0 1 := ⟨rfl, rfl⟩
theorem r_X11_word_1 : RW M_X11_word 1 (.invokevirtual 123) 3 175 0 4 := ⟨rfl, rfl⟩
theorem r_X11_word_4 : RW M_X11_word 4 (.pop) 1 0 0 5 := ⟨rfl, rfl⟩
theorem r_X11_word_5 : RW M_X11_word 5 (.iconst 0) 1 0 0 6 := ⟨rfl, rfl⟩
theorem r_X11_word_6 : RW M_X11_word 6 (.istore_n 1) 1 0 0 7 := ⟨rfl, rfl⟩
theorem r_X11_word_7 : RW M_X11_word 7 (.iconst 0) 1 0 0 8 := ⟨rfl, rfl⟩
theorem r_X11_word_8 : RW M_X11_word 8 (.istore_n 2) 1 0 0 9 := ⟨rfl, rfl⟩
theorem r_X11_word_9 : RW M_X11_word 9 (.aload_n 0) 1 0 0 10 := ⟨rfl, rfl⟩
theorem r_X11_word_10 : RW M_X11_word 10 (.getfield 117) 3 11 4 13 := ⟨rfl, rfl⟩
theorem r_X11_word_13 : RW M_X11_word 13 (.istore_n 3) 1 0 0 14 := ⟨rfl, rfl⟩
theorem r_X11_word_14 : RW M_X11_word 14 (.iload_n 3) 1 0 0 15 := ⟨rfl, rfl⟩
theorem r_X11_word_15 : RW M_X11_word 15 (.aload_n 0) 1 0 0 16 := ⟨rfl, rfl⟩
theorem r_X11_word_16 : RW M_X11_word 16 (.getfield 120) 3 11 3 19 := ⟨rfl, rfl⟩
theorem r_X11_word_19 : RW M_X11_word 19 (.if_icmp .ge 48) 3 67 0 22 := ⟨rfl, rfl⟩
theorem r_X11_word_22 : RW M_X11_word 22 (.aload_n 0) 1 0 0 23 := ⟨rfl, rfl⟩
theorem r_X11_word_23 : RW M_X11_word 23 (.getfield 20) 3 11 9 26 := ⟨rfl, rfl⟩
theorem r_X11_word_26 : RW M_X11_word 26 (.iload_n 3) 1 0 0 27 := ⟨rfl, rfl⟩
theorem r_X11_word_27 : RW M_X11_word 27 (.iaload) 1 0 0 28 := ⟨rfl, rfl⟩
theorem r_X11_word_28 : RW M_X11_word 28 (.invokestatic 127) 3 176 0 31 := ⟨rfl, rfl⟩
theorem r_X11_word_31 : RW M_X11_word 31 (.ifCond .eq 36) 3 67 0 34 := ⟨rfl, rfl⟩
theorem r_X11_word_34 : RW M_X11_word 34 (.iload_n 2) 1 0 0 35 := ⟨rfl, rfl⟩
theorem r_X11_word_35 : RW M_X11_word 35 (.bipush 6) 2 0 0 37 := ⟨rfl, rfl⟩
theorem r_X11_word_37 : RW M_X11_word 37 (.if_icmp .ge 19) 3 56 0 40 := ⟨rfl, rfl⟩
theorem r_X11_word_40 : RW M_X11_word 40 (.iload_n 1) 1 0 0 41 := ⟨rfl, rfl⟩
theorem r_X11_word_41 : RW M_X11_word 41 (.iconst 5) 1 0 0 42 := ⟨rfl, rfl⟩
theorem r_X11_word_42 : RW M_X11_word 42 (.ishl) 1 0 0 43 := ⟨rfl, rfl⟩
theorem r_X11_word_43 : RW M_X11_word 43 (.aload_n 0) 1 0 0 44 := ⟨rfl, rfl⟩
theorem r_X11_word_44 : RW M_X11_word 44 (.getfield 20) 3 11 9 47 := ⟨rfl, rfl⟩
theorem r_X11_word_47 : RW M_X11_word 47 (.iload_n 3) 1 0 0 48 := ⟨rfl, rfl⟩
theorem r_X11_word_48 : RW M_X11_word 48 (.iaload) 1 0 0 49 := ⟨rfl, rfl⟩
theorem r_X11_word_49 : RW M_X11_word 49 (.bipush 96) 2 0 0 51 := ⟨rfl, rfl⟩
theorem r_X11_word_51 : RW M_X11_word 51 (.isub) 1 0 0 52 := ⟨rfl, rfl⟩
theorem r_X11_word_52 : RW M_X11_word 52 (.ior) 1 0 0 53 := ⟨rfl, rfl⟩
theorem r_X11_word_53 : RW M_X11_word 53 (.goto 4) 3 57 0 56 := ⟨rfl, rfl⟩
theorem r_X11_word_56 : RW M_X11_word 56 (.iconst 0) 1 0 0 57 := ⟨rfl, rfl⟩
theorem r_X11_word_57 : RW M_X11_word 57 (.istore_n 1) 1 0 0 58 := ⟨rfl, rfl⟩
theorem r_X11_word_58 : RW M_X11_word 58 (.iinc 2 1) 3 0 0 61 := ⟨rfl, rfl⟩
theorem r_X11_word_61 : RW M_X11_word 61 (.iinc 3 1) 3 0 0 64 := ⟨rfl, rfl⟩
theorem r_X11_word_64 : RW M_X11_word 64 (.goto (-50)) 3 14 0 67 := ⟨rfl, rfl⟩
theorem r_X11_word_67 : RW M_X11_word 67 (.iload_n 2) 1 0 0 68 := ⟨rfl, rfl⟩
theorem r_X11_word_68 : RW M_X11_word 68 (.bipush 6) 2 0 0 70 := ⟨rfl, rfl⟩
theorem r_X11_word_70 : RW M_X11_word 70 (.if_icmp .le 7) 3 77 0 73 := ⟨rfl, rfl⟩
theorem r_X11_word_73 : RW M_X11_word 73 (.iconst 0) 1 0 0 74 := ⟨rfl, rfl⟩
theorem r_X11_word_74 : RW M_X11_word 74 (.goto 4) 3 78 0 77 := ⟨rfl, rfl⟩
theorem r_X11_word_77 : RW M_X11_word 77 (.iload_n 1) 1 0 0 78 := ⟨rfl, rfl⟩
theorem r_X11_word_78 : RW M_X11_word 78 (.ireturn) 1 0 0 79 := ⟨rfl, rfl⟩
theorem m_word {d : Nat} {I : Nat → Nat → Int32} {J : Nat → Nat → Int64} {g : Nat → Nat} {n s : Nat} (tp : ∀ j, j < 600 → I 108 j = nI (g j)) (gb : ∀ j, g j < 256) (hn : n ≤ 600) (mg : MG g n s I)  (hd : 2 ≤ d) : RI d 178 [.ref 106] I J (fun v I' => v = nI (wdv g n s) ∧ MG g n s I' ∧ I' 106 4 = nI s ∧ MP I I') := by
  refine RI.in (d0 := 1) hd mt_178 (Nat.le_of_ble_eq_true rfl) (fun d' hd' => ?_)
  obtain ⟨a, pa, pe, ps⟩ := mg.pl
  have sn := mg.sn
  show EV none M_X11_word d' 0 [(0, .ref 106)] [] (hp I J) _
  refine EV.l (lv' := [(0, _)]) r_X11_word_0 rfl ?_
  refine EV.ci r_X11_word_1 (aV0 mt_175 la_106) (m_here tp gb hn mg.en pa pe (by omega)) (fun v I2 h2 => ?_)
  obtain ⟨e, h2⟩ := h2
  subst e
  have m2 : MG g n s I2 := mg.mv h2.2 (scp_le pa) h2.1 ((scp_id pa).trans ps)
  rw [ps]
  refine EV.o r_X11_word_4 rfl ?_
  refine EV.o r_X11_word_5 (icN (0) (v := 0)) ?_
  refine EV.l (lv' := [(0, _), (1, _)]) r_X11_word_6 rfl ?_
  refine EV.o r_X11_word_7 (icN (0) (v := 0)) ?_
  refine EV.l (lv' := [(0, _), (1, _), (2, _)]) r_X11_word_8 rfl ?_
  refine EV.l (lv' := [(0, _), (1, _), (2, _)]) r_X11_word_9 rfl ?_
  refine EV.getV r_X11_word_10 la_106 ((h2.1).trans (congrArg nI ps)) ?_
  refine EV.l (lv' := [(0, _), (1, _), (2, _), (3, _)]) r_X11_word_13 rfl ?_
  have L14 : ∀ y_ : Nat, (fun c => (s + c ≤ n ∧ scp isL g n (s + c) = scp isL g n s ∧ ∀ i, i < c → isL (g (s + i)) = true) → EV none M_X11_word d' 14 [(0, .ref 106), (1, .int (nI (pwc g s c))), (2, .int (nI c)), (3, .int (nI (s + c)))] [] (hp I2 J) (QI J (fun v I' => v = nI (wdv g n s) ∧ MG g n s I' ∧ I' 106 4 = nI s ∧ MP I I'))) y_ := by
    refine ev_loop (fun c => n - (s + c)) ?_
    intro c ih14 hx14
    try dsimp only at ih14
    try dsimp only at hx14
    try dsimp only
    refine EV.l (lv' := [(0, _), (1, _), (2, _), (3, _)]) r_X11_word_14 rfl ?_
    refine EV.l (lv' := [(0, _), (1, _), (2, _), (3, _)]) r_X11_word_15 rfl ?_
    refine EV.getV r_X11_word_16 la_106 ((h2.2.2 3 (by decide)).trans mg.en) ?_
    refine EV.n2_ge r_X11_word_19 (fun h19 => ?_) (fun h19 => ?_)
    · -- 19 t
      have z1 : s + c = scp isL g n s := scp_fin (p := isL) hx14.2.1 (by first | exact Or.inl (by omega) | exact Or.inr (by assumption))
      have pb := pwc_b hx14.2.2
      have wd : wdv g n s = pwc g s c := by unfold wdv; rw [← z1, show s + c - s = c by omega]
      refine EV.l (lv' := [(0, _), (1, _), (2, _), (3, _)]) r_X11_word_67 rfl ?_
      refine EV.o r_X11_word_68 (bpN (6) 6) ?_
      refine EV.n2_le r_X11_word_70 (fun h70 => ?_) (fun h70 => ?_)
      · -- 70 t
        refine EV.l (lv' := [(0, _), (1, _), (2, _), (3, _)]) r_X11_word_77 rfl ?_
        exact EV.ri r_X11_word_78 (⟨by rw [wd] <;> (unfold pwc; rw [if_neg (by omega)]), m2, h2.1.trans (congrArg nI ps), h2.2⟩)
      · -- 70 f
        refine EV.o r_X11_word_73 (icN (0) (v := 0)) ?_
        refine EV.g r_X11_word_74 ?_
        exact EV.ri r_X11_word_78 (⟨by rw [wd] <;> (unfold pwc; rw [if_neg (by omega)]), m2, h2.1.trans (congrArg nI ps), h2.2⟩)
    · -- 19 f
      refine EV.l (lv' := [(0, _), (1, _), (2, _), (3, _)]) r_X11_word_22 rfl ?_
      refine EV.gR r_X11_word_23 la_106 ?_
      refine EV.l (lv' := [(0, _), (1, _), (2, _), (3, _)]) r_X11_word_26 rfl ?_
      refine EV.iaN r_X11_word_27 la_108 ((congrFun (h2.2.1 108 (by decide)) _).trans (tp _ (by omega))) ?_
      refine EV.cv r_X11_word_28 (aS1 mt_176) (m_isL (gb _) (by omega)) ?_
      refine EV.b0_eq r_X11_word_31 (fun h31 => ?_) (fun h31 => ?_)
      · -- 31 t
        have z1 : s + c = scp isL g n s := scp_fin (p := isL) hx14.2.1 (by first | exact Or.inl (by omega) | exact Or.inr (by assumption))
        have pb := pwc_b hx14.2.2
        have wd : wdv g n s = pwc g s c := by unfold wdv; rw [← z1, show s + c - s = c by omega]
        refine EV.l (lv' := [(0, _), (1, _), (2, _), (3, _)]) r_X11_word_67 rfl ?_
        refine EV.o r_X11_word_68 (bpN (6) 6) ?_
        refine EV.n2_le r_X11_word_70 (fun h70 => ?_) (fun h70 => ?_)
        · -- 70 t
          refine EV.l (lv' := [(0, _), (1, _), (2, _), (3, _)]) r_X11_word_77 rfl ?_
          exact EV.ri r_X11_word_78 (⟨by rw [wd] <;> (unfold pwc; rw [if_neg (by omega)]), m2, h2.1.trans (congrArg nI ps), h2.2⟩)
        · -- 70 f
          refine EV.o r_X11_word_73 (icN (0) (v := 0)) ?_
          refine EV.g r_X11_word_74 ?_
          exact EV.ri r_X11_word_78 (⟨by rw [wd] <;> (unfold pwc; rw [if_neg (by omega)]), m2, h2.1.trans (congrArg nI ps), h2.2⟩)
      · -- 31 f
        have ll : 97 ≤ g (s + c) ∧ g (s + c) ≤ 122 := of_decide_eq_true h31
        refine EV.l (lv' := [(0, _), (1, _), (2, _), (3, _)]) r_X11_word_34 rfl ?_
        refine EV.o r_X11_word_35 (bpN (6) 6) ?_
        refine EV.n2_ge r_X11_word_37 (fun h37 => ?_) (fun h37 => ?_)
        · -- 37 t
          refine EV.o r_X11_word_56 (icN (0) (v := 0)) ?_
          refine EV.l (lv' := [(0, _), (1, _), (2, _), (3, _)]) r_X11_word_57 rfl ?_
          refine EV.l (lv' := [(0, _), (1, _), (2, _), (3, _)]) r_X11_word_58 rfl ?_
          rw [inc_nI]
          refine EV.l (lv' := [(0, _), (1, _), (2, _), (3, _)]) r_X11_word_61 rfl ?_
          rw [inc_nI]
          refine EV.g r_X11_word_64 ?_
          refine EV.sub ?_ rfl ?_ (ih14 (c + 1) ?_ ?_)
          · first | (unfold pwc; rw [if_pos (by omega), if_pos (by omega), or_pw (by omega)]; rfl) | (unfold pwc; rw [if_neg (by omega)]; rfl)
          · rfl
          · omega
          · exact ⟨by omega, scp_up (p := isL) hx14.2.1 (by omega) (by assumption), fun j hj => by by_cases z : j = c; (rw [z]; assumption); exact hx14.2.2 j (by omega)⟩
        · -- 37 f
          have pb : pwc g s c < 33554432 + 1 := by unfold pwc; rw [if_pos (by omega)]; exact pw_5 (by omega) hx14.2.2
          refine EV.l (lv' := [(0, _), (1, _), (2, _), (3, _)]) r_X11_word_40 rfl ?_
          refine EV.o r_X11_word_41 (icN (5) (v := 5)) ?_
          refine EV.o r_X11_word_42 (ishlN (by omega)) ?_
          refine EV.l (lv' := [(0, _), (1, _), (2, _), (3, _)]) r_X11_word_43 rfl ?_
          refine EV.gR r_X11_word_44 la_106 ?_
          refine EV.l (lv' := [(0, _), (1, _), (2, _), (3, _)]) r_X11_word_47 rfl ?_
          refine EV.iaN r_X11_word_48 la_108 ((congrFun (h2.2.1 108 (by decide)) _).trans (tp _ (by omega))) ?_
          refine EV.o r_X11_word_49 (bpN (96) 96) ?_
          refine EV.o r_X11_word_51 (isubN) ?_
          refine EV.o r_X11_word_52 iorN ?_
          refine EV.g r_X11_word_53 ?_
          refine EV.l (lv' := [(0, _), (1, _), (2, _), (3, _)]) r_X11_word_57 rfl ?_
          refine EV.l (lv' := [(0, _), (1, _), (2, _), (3, _)]) r_X11_word_58 rfl ?_
          rw [inc_nI]
          refine EV.l (lv' := [(0, _), (1, _), (2, _), (3, _)]) r_X11_word_61 rfl ?_
          rw [inc_nI]
          refine EV.g r_X11_word_64 ?_
          refine EV.sub ?_ rfl ?_ (ih14 (c + 1) ?_ ?_)
          · first | (unfold pwc; rw [if_pos (by omega), if_pos (by omega), or_pw (by omega)]; rfl) | (unfold pwc; rw [if_neg (by omega)]; rfl)
          · rfl
          · omega
          · exact ⟨by omega, scp_up (p := isL) hx14.2.1 (by omega) (by assumption), fun j hj => by by_cases z : j = c; (rw [z]; assumption); exact hx14.2.2 j (by omega)⟩
  have h0 := L14 (0)
  try dsimp only at h0
  refine EV.sub ?_ rfl ?_ (h0 ?_)
  · rfl
  · rfl
  · exact ⟨sn, rfl, fun j hj => absurd hj (Nat.not_lt_zero j)⟩
theorem m_of {d : Nat} {I : Nat → Nat → Int32} {J : Nat → Nat → Int64} {k : Nat} {t : List Nat} (ht : TXS[k]? = some t) (tl : t.length < 100) (lt : ltr t) (t6 : t.length ≤ 6) (hd : 1 ≤ d) : RV d 179 [.ref (spc + 1 + k)] I J (nI (ofw t)) := by
  refine RV.in (d0 := 0) hd mt_179 (Nat.le_of_ble_eq_true rfl) (fun d' hd' => ?_)
  show EV none M_X11_of d' 0 [(0, .ref (spc + 1 + k))] [] (hp I J) _
  refine EV.o r_X11_of_0 (icN (0) (v := 0)) ?_
  refine EV.l (lv' := [(0, _), (1, _)]) r_X11_of_1 rfl ?_
  refine EV.o r_X11_of_2 (icN (0) (v := 0)) ?_
  refine EV.l (lv' := [(0, _), (1, _), (2, _)]) r_X11_of_3 rfl ?_
  have L4 : ∀ y_ : Nat, (fun i => i ≤ t.length → EV none M_X11_of d' 4 [(0, .ref (spc + 1 + k)), (1, .int (nI (pw (fun j => t.getD j 0) i))), (2, .int (nI i))] [] (hp I J) (QV I J (nI (ofw t)))) y_ := by
    refine ev_loop (fun i => t.length - i) ?_
    intro i ih4 hx4
    try dsimp only at ih4
    try dsimp only at hx4
    try dsimp only
    refine EV.l (lv' := [(0, _), (1, _), (2, _)]) r_X11_of_4 rfl ?_
    refine EV.l (lv' := [(0, _), (1, _), (2, _)]) r_X11_of_5 rfl ?_
    refine EV.tl r_X11_of_6 ht ?_
    refine EV.n2_ge r_X11_of_9 (fun h9 => ?_) (fun h9 => ?_)
    · -- 9 t
      refine EV.l (lv' := [(0, _), (1, _), (2, _)]) r_X11_of_31 rfl ?_
      exact EV.rv r_X11_of_32 (by unfold ofw; rw [show i = t.length by omega])
    · -- 9 f
      have pb := pw_5 (f := fun j => t.getD j 0) (m := i) (by omega) (fun j hj => lt.2 j (by omega))
      have ll : 97 ≤ t.getD i 0 ∧ t.getD i 0 ≤ 122 := of_decide_eq_true (lt.2 i (by omega))
      refine EV.l (lv' := [(0, _), (1, _), (2, _)]) r_X11_of_12 rfl ?_
      refine EV.o r_X11_of_13 (icN (5) (v := 5)) ?_
      refine EV.o r_X11_of_14 (ishlN (by omega)) ?_
      refine EV.l (lv' := [(0, _), (1, _), (2, _)]) r_X11_of_15 rfl ?_
      refine EV.l (lv' := [(0, _), (1, _), (2, _)]) r_X11_of_16 rfl ?_
      refine EV.tc r_X11_of_17 ht ?_
      refine EV.o r_X11_of_20 (bpN (96) 96) ?_
      refine EV.o r_X11_of_22 (isubN) ?_
      refine EV.o r_X11_of_23 iorN ?_
      refine EV.l (lv' := [(0, _), (1, _), (2, _)]) r_X11_of_24 rfl ?_
      refine EV.l (lv' := [(0, _), (1, _), (2, _)]) r_X11_of_25 rfl ?_
      rw [inc_nI]
      refine EV.g r_X11_of_28 ?_
      refine EV.sub ?_ rfl ?_ (ih4 (i + 1) ?_ ?_)
      · rw [or_pw (by omega)]; rfl
      · rfl
      · omega
      · omega
  have h0 := L4 (0)
  try dsimp only at h0
  refine EV.sub ?_ rfl ?_ (h0 ?_)
  · rfl
  · rfl
  · omega
