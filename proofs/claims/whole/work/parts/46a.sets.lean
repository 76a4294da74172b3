/-! PROOF, TURN, FITS, LOOK. -/
def btr (s b : Nat) : Bool := decide (pc9 s < pc9 b ∨ (pc9 s = pc9 b ∧ s < b))
def pcl (s b : Nat) : Bool := decide (pc9 s < pc9 b)
theorem bst_l {p : Nat → Bool} {lt : Nat → Nat → Bool} {k b : Nat} (e : bst p lt k = some b) (l : lt k b = false) : bst p lt (k + 1) = some b := by
  cases h : p k
  · exact (bst_n h).trans e
  · exact bst_f h e l
theorem bst_cg {p p2 : Nat → Bool} {lt lt2 : Nat → Nat → Bool} : ∀ {n : Nat}, (∀ k, k < n → p k = p2 k) → (∀ k b, b < k → lt k b = lt2 k b) → bst p lt n = bst p2 lt2 n
  | 0, _, _ => rfl
  | n + 1, h1, h2 => by
    have ih := bst_cg (n := n) (fun k hk => h1 k (by omega)) h2
    cases hp : p2 n with
    | false => rw [bst_n hp, bst_n ((h1 n (by omega)).trans hp), ih]
    | true =>
      have hp1 := (h1 n (by omega)).trans hp
      cases e : bst p2 lt2 n with
      | none => rw [bst_0 hp e, bst_0 hp1 (ih.trans e)]
      | some b =>
        have hb_ := bst_lt e
        cases hl : lt2 n b with
        | false => rw [bst_f hp e hl, bst_f hp1 (ih.trans e) ((h2 n b hb_).trans hl)]
        | true => rw [bst_t hp e hl, bst_t hp1 (ih.trans e) ((h2 n b hb_).trans hl)]
theorem bst_ex {p : Nat → Bool} {lt : Nat → Nat → Bool} {n : Nat} : ∀ m, (∀ k, n ≤ k → k < n + m → p k = false) → bst p lt (n + m) = bst p lt n
  | 0, _ => rfl
  | m + 1, h => (bst_n (h (n + m) (by omega) (by omega))).trans (bst_ex m (fun k h1 h2 => h k h1 (by omega)))
theorem btr_pcl {k b : Nat} (h : b < k) : btr k b = pcl k b := decide_eq_decide.mpr (by omega)
theorem bst_p {p : Nat → Bool} {lt : Nat → Nat → Bool} : ∀ {n b : Nat}, bst p lt n = some b → p b = true
  | n + 1, b, h => by
    cases hp : p n with
    | false => exact bst_p ((bst_n hp).symm.trans h)
    | true =>
      cases e : bst p lt n with
      | none => have := (bst_0 hp e).symm.trans h; cases this; exact hp
      | some c =>
        cases hl : lt n c with
        | false => have := (bst_f hp e hl).symm.trans h; cases this; exact bst_p e
        | true => have := (bst_t hp e hl).symm.trans h; cases this; exact hp
/-- by number of bits: the least of them, the first of alike ones -/
theorem bst_mn {p : Nat → Bool} : ∀ {n k : Nat}, k < n → p k = true → ∃ b, bst p pcl n = some b ∧ (b = k ∨ btr b k = true)
  | n + 1, k, hk, h => by
    cases hp : p n with
    | false =>
      rw [bst_n hp]
      exact bst_mn (by have : k ≠ n := fun e => by subst e; rw [h] at hp; cases hp
                       omega) h
    | true =>
      cases e : bst p pcl n with
      | none =>
        rw [bst_0 hp e]
        refine ⟨n, rfl, ?_⟩
        by_cases hkn : k = n
        · exact Or.inl hkn.symm
        · obtain ⟨b, h1, _⟩ := bst_mn (p := p) (n := n) (k := k) (by omega) h
          rw [e] at h1; cases h1
      | some c =>
        have hc_ := bst_lt e
        cases hl : pcl n c with
        | false =>
          rw [bst_f hp e hl]
          refine ⟨c, rfl, ?_⟩
          by_cases hkn : k = n
          · subst hkn
            refine Or.inr (decide_eq_true ?_)
            have := of_decide_eq_false hl
            omega
          · obtain ⟨b, h1, h2⟩ := bst_mn (p := p) (n := n) (k := k) (by omega) h
            rw [e] at h1; cases h1; exact h2
        | true =>
          rw [bst_t hp e hl]
          refine ⟨n, rfl, ?_⟩
          by_cases hkn : k = n
          · exact Or.inl hkn.symm
          · obtain ⟨b, h1, h2⟩ := bst_mn (p := p) (n := n) (k := k) (by omega) h
            rw [e] at h1; cases h1
            have h3 := of_decide_eq_true hl
            refine Or.inr (decide_eq_true ?_)
            rcases h2 with h2 | h2
            · subst h2; omega
            · have := of_decide_eq_true h2; omega
def pfp (κ : CT) (i s : Nat) : Bool := (clo κ s).testBit i
def pfC (κ : CT) (i : Nat) : Nat → Nat
  | 0 => 2 ^ i
  | s + 1 => if btr s (pfC κ i s) = true ∧ pfp κ i s = true then s else pfC κ i s
theorem pfC_t {κ : CT} {i s : Nat} (h : btr s (pfC κ i s) = true) (h2 : (clo κ s).testBit i = true) : pfC κ i (s + 1) = s := if_pos ⟨h, h2⟩
theorem pfC_f {κ : CT} {i s : Nat} (h : btr s (pfC κ i s) = false) : pfC κ i (s + 1) = pfC κ i s := if_neg (fun z => by rw [h] at z; exact absurd z.1 (by decide))
theorem pfC_g {κ : CT} {i s : Nat} (h : (clo κ s).testBit i = false) : pfC κ i (s + 1) = pfC κ i s := if_neg (fun z => by have := z.2; unfold pfp at this; rw [h] at this; cases this)
theorem pfC_lt {κ : CT} {i m : Nat} (hi : 2 ^ i < m) : ∀ n, n ≤ m → pfC κ i n < m
  | 0, _ => hi
  | n + 1, h => by
    have ih := pfC_lt (κ := κ) hi n (by omega)
    unfold pfC
    split <;> omega
def pm (x : Nat) : Option Nat → Nat
  | none => x
  | some b => if btr b x = true then b else x
theorem pfC_pm {κ : CT} {i : Nat} : ∀ n, pfC κ i n = pm (2 ^ i) (bst (pfp κ i) pcl n)
  | 0 => rfl
  | n + 1 => by
    have ih := pfC_pm (κ := κ) (i := i) n
    cases hp : pfp κ i n with
    | false => rw [bst_n hp, ← ih]; exact pfC_g hp
    | true =>
      cases e : bst (pfp κ i) pcl n with
      | none =>
        rw [e] at ih
        rw [bst_0 hp e]
        show (if _ then _ else _) = if btr n (2 ^ i) = true then n else 2 ^ i
        rw [ih]
        show (if btr n (2 ^ i) = true ∧ _ then n else 2 ^ i) = _
        simp only [hp, and_true]
      | some b =>
        have hb_ := bst_lt e
        rw [e] at ih
        have e1 : pfC κ i (n + 1) = if btr n (pfC κ i n) = true then n else pfC κ i n := by
          show (if _ ∧ _ then _ else _) = _
          simp only [hp, and_true]
        rw [e1, ih]
        unfold pm
        cases hl : pcl n b with
        | false =>
          rw [bst_f hp e hl]
          have h3 := of_decide_eq_false hl
          by_cases hx : btr b (2 ^ i) = true
          · simp only [if_pos hx]
            rw [if_neg]
            intro z
            have := of_decide_eq_true z
            omega
          · simp only [if_neg hx]
            rw [if_neg]
            intro z
            have h1 := of_decide_eq_true z
            have h2 := of_decide_eq_false (Bool.eq_false_iff.mpr hx)
            omega
        | true =>
          rw [bst_t hp e hl]
          have h3 := of_decide_eq_true hl
          by_cases hx : btr b (2 ^ i) = true
          · have h2 := of_decide_eq_true hx
            have a : btr n b = true := decide_eq_true (by omega)
            have c : btr n (2 ^ i) = true := decide_eq_true (by omega)
            simp only [if_pos hx, if_pos a, if_pos c]
          · simp only [if_neg hx]
theorem rnd_0b {κ : CT} {x i : Nat} (h : x.testBit i = true) : (clo κ x).testBit i = true := by
  have : ∀ p, (it κ x p).testBit i = true := by
    intro p
    induction p with
    | zero => exact h
    | succ p ih => exact rnd_sub ih κ.nr
  exact this 9
theorem pf_eq {κ : CT} {i : Nat} (hi : i < κ.ns) : opI (bst (pfp κ i) pcl (2 ^ κ.ns)) = nI (pfC κ i (2 ^ κ.ns)) := by
  have h1 : pfp κ i (2 ^ i) = true := rnd_0b (by rw [Nat.testBit_two_pow]; simp)
  have h2 : 2 ^ i < 2 ^ κ.ns := Nat.pow_lt_pow_right (by decide) hi
  obtain ⟨b, e, h3⟩ := bst_mn h2 h1
  rw [pfC_pm, e]
  show nI b = nI (if btr b (2 ^ i) = true then b else 2 ^ i)
  rcases h3 with h3 | h3
  · subst h3; split <;> rfl
  · rw [if_pos h3]
/-- TURN -/
def trU (κ : CT) (η : HS) : Nat := andc (sdB κ η 0 η.mi) (heard κ η η.mi)
def trA (κ : CT) (η : HS) : Bool := decide (0 < lean κ (heard κ η η.mi))
def trL (κ : CT) (η : HS) (s : Nat) : Bool := decide (0 < lean κ (heard κ η η.mi ||| s))
def trn (κ : CT) (η : HS) (s : Nat) : Bool := decide (andc s (trU κ η) = 0) && (trL κ η s != trA κ η)
theorem trn_z {κ : CT} {η : HS} {s : Nat} (h : ¬ andc s (trU κ η) = 0) : trn κ η s = false := by unfold trn; rw [decide_eq_false h]; rfl
theorem trn_eq {κ : CT} {η : HS} {s : Nat} (h : (trL κ η s).toNat = (trA κ η).toNat) : trn κ η s = false := by
  have e : trL κ η s = trA κ η := by cases a : trL κ η s <;> cases b : trA κ η <;> rw [a, b] at h <;> first | rfl | cases h
  unfold trn
  rw [e]
  simp
theorem trn_ne {κ : CT} {η : HS} {s : Nat} (hz : andc s (trU κ η) = 0) (h : ¬ (trL κ η s).toNat = (trA κ η).toNat) : trn κ η s = true := by
  unfold trn
  rw [decide_eq_true hz]
  cases a : trL κ η s <;> cases b : trA κ η <;> rw [a, b] at h <;> first | rfl | exact absurd rfl h
theorem trU_eq {κ : CT} {η : HS} : andc (sdB κ η 0 η.mi) (cnt κ η) = trU κ η := by
  refine Nat.eq_of_testBit_eq fun i => ?_
  unfold trU heard
  rw [andc_bit, andc_bit, Nat.testBit_and]
  cases (sdB κ η 0 η.mi).testBit i <;> cases (cnt κ η).testBit i <;> rfl
theorem trU_lt {κ : CT} {η : HS} : trU κ η < 2 ^ κ.ns := andc_lt (mk_lt _ _)
theorem andc_sub {a b : Nat} (h : andc a b = 0) : a ≤ b := by
  have e : a &&& b = a := by
    refine Nat.eq_of_testBit_eq fun i => ?_
    have h2 : (andc a b).testBit i = false := by rw [h]; exact Nat.zero_testBit i
    rw [andc_bit] at h2
    rw [Nat.testBit_and]
    cases ha : a.testBit i <;> cases hb_ : b.testBit i <;> rw [ha, hb_] at h2 <;> first | rfl | cases h2
  rw [← e]
  exact Nat.and_le_right
theorem tr_eq {κ : CT} {η : HS} : bst (trn κ η) pcl (trU κ η + 1) = bst (trn κ η) btr (2 ^ κ.ns) := by
  have h := trU_lt (κ := κ) (η := η)
  have h2 := bst_ex (p := trn κ η) (lt := pcl) (n := trU κ η + 1) (2 ^ κ.ns - (trU κ η + 1)) (fun k hk _ => trn_z (fun z => by have := andc_sub z; omega))
  rw [show trU κ η + 1 + (2 ^ κ.ns - (trU κ η + 1)) = 2 ^ κ.ns by omega] at h2
  rw [← h2]
  exact bst_cg (fun _ _ => rfl) (fun k b hb_ => (btr_pcl hb_).symm)
theorem or_ltn {a b n : Nat} (h : a < 2 ^ n) (h2 : b < 2 ^ n) : a ||| b < 2 ^ n := Nat.or_lt_two_pow h h2
theorem bst_lt2 {p : Nat → Bool} {lt : Nat → Nat → Bool} {k b n : Nat} (h : bst p lt k = some b) (hk : k ≤ n) : b < n := Nat.lt_of_lt_of_le (bst_lt h) hk
theorem wr_ext {I : Nat → Nat → Int32} {a m : Nat} {f : Nat → Int32} (h : ∀ j, j < m → I a j = f j) : ∀ j, j < m + 1 → wr I a m (f m) a j = f j := by
  intro j hj
  by_cases e : j = m
  · subst e; exact wr_same
  · rw [wr_ne (Or.inr e)]; exact h j (by omega)
/-- FITS -/
def cvd (κ : CT) (l : LW) (η : HS) (j : Nat) : Nat := ovr κ l η (j / 10) (j % 10)
def ors (κ : CT) (l : LW) (η : HS) (b : Nat) : Nat → Nat
  | 0 => 0
  | o + 1 => if o = b then ors κ l η b o else ors κ l η b o ||| ovr κ l η o 0
theorem ors_t {κ : CT} {l : LW} {η : HS} {b o : Nat} (h : o = b) : ors κ l η b o = ors κ l η b (o + 1) := (if_pos h).symm
theorem ors_f {κ : CT} {l : LW} {η : HS} {b o : Nat} (h : ¬ o = b) : ors κ l η b o ||| ovr κ l η o 0 = ors κ l η b (o + 1) := (if_neg h).symm
theorem ovr_lt {κ : CT} {l : LW} {η : HS} {b n : Nat} : ovr κ l η b n < 2 ^ κ.ns := mk_lt _ _
theorem ors_lt {κ : CT} {l : LW} {η : HS} {b : Nat} : ∀ o, ors κ l η b o < 2 ^ κ.ns
  | 0 => Nat.two_pow_pos _
  | o + 1 => by
    unfold ors
    split
    · exact ors_lt o
    · exact or_ltn (ors_lt o) ovr_lt
def cby (κ : CT) (l : LW) (η : HS) (i : Nat) : Nat := andc (2 ^ κ.ns - 1) (ors κ l η (i / 10) κ.nb ||| ovr κ l η (i / 10) (i % 10))
theorem cby_lt {κ : CT} {l : LW} {η : HS} {i : Nat} : cby κ l η i < 2 ^ κ.ns := andc_lt (Nat.sub_lt (Nat.two_pow_pos _) (by decide))
theorem andc_or {a b c : Nat} : andc a (b ||| c) = andc (andc a b) c := by
  refine Nat.eq_of_testBit_eq fun i => ?_
  rw [andc_bit, andc_bit, andc_bit, Nat.testBit_or]
  cases a.testBit i <;> cases b.testBit i <;> cases c.testBit i <;> rfl
def ftB (κ : CT) (l : LW) (η : HS) (bt br i : Nat) : Bool := decide (cby κ l η i &&& bt = br)
def ftC (κ : CT) (l : LW) (η : HS) (bt br n : Nat) : Nat := sumN (fun i => (ftB κ l η bt br i).toNat) n
def ftJ (κ : CT) (l : LW) (η : HS) (bt br j n : Nat) : Nat := sumN (fun i => (ftB κ l η bt br i && (cby κ l η i).testBit j).toNat) n
theorem sumB_le (f : Nat → Bool) : ∀ n, sumN (fun i => (f i).toNat) n ≤ n
  | 0 => Nat.le_refl _
  | n + 1 => by
    have := sumB_le f n
    have h2 : (f n).toNat ≤ 1 := Bool.toNat_le _
    unfold sumN
    omega
theorem sumB_0 {f : Nat → Bool} : ∀ {n}, sumN (fun i => (f i).toNat) n = 0 → fst1 f n = none
  | 0, _ => rfl
  | n + 1, h => by
    have h1 : sumN (fun i => (f i).toNat) n + (f n).toNat = 0 := h
    have h2 : f n = false := by cases e : f n with
      | false => rfl
      | true => rw [e] at h1; simp at h1
    exact (bst_n h2).trans (sumB_0 (by omega))
theorem sumB_1 {f : Nat → Bool} : ∀ {n}, ¬ sumN (fun i => (f i).toNat) n = 0 → ∃ b, fst1 f n = some b
  | 0, h => absurd rfl h
  | n + 1, h => by
    cases hf : f n with
    | false =>
      have h1 : ¬ sumN (fun i => (f i).toNat) n + (f n).toNat = 0 := h
      rw [hf] at h1
      obtain ⟨b, hb_⟩ := sumB_1 (f := f) (n := n) (by simpa using h1)
      exact ⟨b, (bst_n hf).trans hb_⟩
    | true =>
      cases e : fst1 f n with
      | none => exact ⟨n, bst_0 hf e⟩
      | some b => exact ⟨b, bst_f hf e rfl⟩
theorem fst1_n {f : Nat → Bool} {n : Nat} (h : f n = false) : fst1 f (n + 1) = fst1 f n := bst_n h
theorem fst1_s {f : Nat → Bool} {n b : Nat} (e : fst1 f n = some b) : fst1 f (n + 1) = some b := bst_l e rfl
theorem fst1_0 {f : Nat → Bool} {n : Nat} (h : f n = true) (e : fst1 f n = none) : fst1 f (n + 1) = some n := bst_0 h e
def WP (κ : CT) (l : LW) (η : HS) (bt : Nat) (br : Nat) (n : Nat) (I : Nat → Nat → Int32) : Prop := (∀ j, j < 10 * κ.nb → I 91 j = nI (cvd κ l η j)) ∧ (I 89 8 = nI (ftC κ l η bt br n)) ∧ (I 89 9 = opI (fst1 (ftB κ l η bt br) n)) ∧ (∀ k, k < κ.ns → I 93 k = nI (ftJ κ l η bt br k n))
theorem WP.cv {κ : CT} {l : LW} {η : HS} {bt : Nat} {br : Nat} {n : Nat} {I : Nat → Nat → Int32} (h_ : WP κ l η bt br n I) : ∀ j, j < 10 * κ.nb → I 91 j = nI (cvd κ l η j) := h_.1
theorem WP.c {κ : CT} {l : LW} {η : HS} {bt : Nat} {br : Nat} {n : Nat} {I : Nat → Nat → Int32} (h_ : WP κ l η bt br n I) : I 89 8 = nI (ftC κ l η bt br n) := h_.2.1
theorem WP.f {κ : CT} {l : LW} {η : HS} {bt : Nat} {br : Nat} {n : Nat} {I : Nat → Nat → Int32} (h_ : WP κ l η bt br n I) : I 89 9 = opI (fst1 (ftB κ l η bt br) n) := h_.2.2.1
theorem WP.j {κ : CT} {l : LW} {η : HS} {bt : Nat} {br : Nat} {n : Nat} {I : Nat → Nat → Int32} (h_ : WP κ l η bt br n I) : ∀ k, k < κ.ns → I 93 k = nI (ftJ κ l η bt br k n) := h_.2.2.2
theorem cv_at {κ : CT} {l : LW} {η : HS} {I : Nat → Nat → Int32} (h : ∀ j, j < 10 * κ.nb → I 91 j = nI (cvd κ l η j)) {b n : Nat} (hb_ : b < κ.nb) (hn : n < 10) : I 91 (b * 10 + n) = nI (ovr κ l η b n) := by
  rw [h _ (by omega)]
  unfold cvd
  rw [show (b * 10 + n) / 10 = b by omega, show (b * 10 + n) % 10 = n by omega]
theorem cv_at0 {κ : CT} {l : LW} {η : HS} {I : Nat → Nat → Int32} (h : ∀ j, j < 10 * κ.nb → I 91 j = nI (cvd κ l η j)) {b : Nat} (hb_ : b < κ.nb) : I 91 (b * 10) = nI (ovr κ l η b 0) := by
  have := cv_at h hb_ (n := 0) (by decide)
  rwa [Nat.add_zero] at this
theorem cv_put {κ : CT} {l : LW} {η : HS} {I : Nat → Nat → Int32} {b n : Nat} (hn : n < 10) (h : ∀ j, j < 10 * b + n → I 91 j = nI (cvd κ l η j)) : ∀ j, j < 10 * b + (n + 1) → wr I 91 (b * 10 + n) (nI (ovr κ l η b n)) 91 j = nI (cvd κ l η j) := by
  have e : nI (ovr κ l η b n) = nI (cvd κ l η (10 * b + n)) := by
    unfold cvd
    rw [show (10 * b + n) / 10 = b by omega, show (10 * b + n) % 10 = n by omega]
  rw [e, show b * 10 + n = 10 * b + n by omega]
  exact wr_ext (f := fun j => nI (cvd κ l η j)) h
theorem r_X0_agrees_0 : RW M_X0_agrees 0 (.iload_n 1) 1 0 0 1 := ⟨rfl, rfl⟩
theorem r_X0_agrees_1 : RW M_X0_agrees 1 (.aload_n 0) 1 0 0 2 := ⟨rfl, rfl⟩
theorem r_X0_agrees_2 : RW M_X0_agrees 2 (.getfield 9) 3 0 0 5 := ⟨rfl, rfl⟩
theorem r_X0_agrees_5 : RW M_X0_agrees 5 (.iand) 1 0 0 6 := ⟨rfl, rfl⟩
theorem r_X0_agrees_6 : RW M_X0_agrees 6 (.aload_n 0) 1 0 0 7 := ⟨rfl, rfl⟩
theorem r_X0_agrees_7 : RW M_X0_agrees 7 (.getfield 15) 3 0 1 10 := ⟨rfl, rfl⟩
theorem r_X0_agrees_10 : RW M_X0_agrees 10 (.if_icmp .ne 7) 3 17 0 13 := ⟨rfl, rfl⟩
theorem r_X0_agrees_13 : RW M_X0_agrees 13 (.iconst 1) 1 0 0 14 := ⟨rfl, rfl⟩
theorem r_X0_agrees_14 : RW M_X0_agrees 14 (.goto 4) 3 18 0 17 := ⟨rfl, rfl⟩
theorem r_X0_agrees_17 : RW M_X0_agrees 17 (.iconst 0) 1 0 0 18 := ⟨rfl, rfl⟩
theorem r_X0_agrees_18 : RW M_X0_agrees 18 (.ireturn) 1 0 0 19 := ⟨rfl, rfl⟩
theorem r_X10_proof_12 : RW M_X10_proof 12 (.aload_n 0) 1 0 0 13 := ⟨rfl, rfl⟩
theorem r_X10_proof_13 : RW M_X10_proof 13 (.getfield 74) 3 10 10 16 := ⟨rfl, rfl⟩
theorem r_X10_proof_16 : RW M_X10_proof 16 (.iload_n 1) 1 0 0 17 := ⟨rfl, rfl⟩
theorem r_X10_proof_17 : RW M_X10_proof 17 (.invokevirtual 276) 3 100 0 20 := ⟨rfl, rfl⟩
theorem r_X10_proof_20 : RW M_X10_proof 20 (.ireturn) 1 0 0 21 := ⟨rfl, rfl⟩
theorem r_X10_turn_0 : RW M_X10_turn 0 (.aload_n 0) 1 0 0 1 := ⟨rfl, rfl⟩
theorem r_X10_turn_1 : RW M_X10_turn 1 (.getfield 74) 3 10 10 4 := ⟨rfl, rfl⟩
theorem r_X10_turn_4 : RW M_X10_turn 4 (.invokevirtual 279) 3 101 0 7 := ⟨rfl, rfl⟩
theorem r_X10_turn_7 : RW M_X10_turn 7 (.ireturn) 1 0 0 8 := ⟨rfl, rfl⟩
theorem r_X11_proof_16 : RW M_X11_proof 16 (.iconst (-1)) 1 0 0 17 := ⟨rfl, rfl⟩
theorem r_X11_proof_17 : RW M_X11_proof 17 (.istore_n 2) 1 0 0 18 := ⟨rfl, rfl⟩
theorem r_X11_proof_18 : RW M_X11_proof 18 (.iconst 0) 1 0 0 19 := ⟨rfl, rfl⟩
theorem r_X11_proof_19 : RW M_X11_proof 19 (.istore_n 3) 1 0 0 20 := ⟨rfl, rfl⟩
theorem r_X11_proof_20 : RW M_X11_proof 20 (.iload_n 3) 1 0 0 21 := ⟨rfl, rfl⟩
theorem r_X11_proof_21 : RW M_X11_proof 21 (.iconst 1) 1 0 0 22 := ⟨rfl, rfl⟩
theorem r_X11_proof_22 : RW M_X11_proof 22 (.aload_n 0) 1 0 0 23 := ⟨rfl, rfl⟩
theorem r_X11_proof_23 : RW M_X11_proof 23 (.getfield 166) 3 11 22 26 := ⟨rfl, rfl⟩
theorem r_X11_proof_26 : RW M_X11_proof 26 (.ishl) 1 0 0 27 := ⟨rfl, rfl⟩
theorem r_X11_proof_27 : RW M_X11_proof 27 (.if_icmp .ge 40) 3 67 0 30 := ⟨rfl, rfl⟩
theorem r_X11_proof_30 : RW M_X11_proof 30 (.iload_n 2) 1 0 0 31 := ⟨rfl, rfl⟩
theorem r_X11_proof_31 : RW M_X11_proof 31 (.iconst (-1)) 1 0 0 32 := ⟨rfl, rfl⟩
theorem r_X11_proof_32 : RW M_X11_proof 32 (.if_icmp .eq 14) 3 46 0 35 := ⟨rfl, rfl⟩
theorem r_X11_proof_35 : RW M_X11_proof 35 (.iload_n 3) 1 0 0 36 := ⟨rfl, rfl⟩
theorem r_X11_proof_36 : RW M_X11_proof 36 (.invokestatic 422) 3 213 0 39 := ⟨rfl, rfl⟩
theorem r_X11_proof_39 : RW M_X11_proof 39 (.iload_n 2) 1 0 0 40 := ⟨rfl, rfl⟩
theorem r_X11_proof_40 : RW M_X11_proof 40 (.invokestatic 422) 3 213 0 43 := ⟨rfl, rfl⟩
theorem r_X11_proof_43 : RW M_X11_proof 43 (.if_icmp .ge 18) 3 61 0 46 := ⟨rfl, rfl⟩
theorem r_X11_proof_46 : RW M_X11_proof 46 (.aload_n 0) 1 0 0 47 := ⟨rfl, rfl⟩
theorem r_X11_proof_47 : RW M_X11_proof 47 (.iload_n 3) 1 0 0 48 := ⟨rfl, rfl⟩
theorem r_X11_proof_48 : RW M_X11_proof 48 (.invokevirtual 364) 3 223 0 51 := ⟨rfl, rfl⟩
theorem r_X11_proof_51 : RW M_X11_proof 51 (.iload_n 1) 1 0 0 52 := ⟨rfl, rfl⟩
theorem r_X11_proof_52 : RW M_X11_proof 52 (.ishr) 1 0 0 53 := ⟨rfl, rfl⟩
theorem r_X11_proof_53 : RW M_X11_proof 53 (.iconst 1) 1 0 0 54 := ⟨rfl, rfl⟩
theorem r_X11_proof_54 : RW M_X11_proof 54 (.iand) 1 0 0 55 := ⟨rfl, rfl⟩
theorem r_X11_proof_55 : RW M_X11_proof 55 (.iconst 1) 1 0 0 56 := ⟨rfl, rfl⟩
theorem r_X11_proof_56 : RW M_X11_proof 56 (.if_icmp .ne 5) 3 61 0 59 := ⟨rfl, rfl⟩
theorem r_X11_proof_59 : RW M_X11_proof 59 (.iload_n 3) 1 0 0 60 := ⟨rfl, rfl⟩
theorem r_X11_proof_60 : RW M_X11_proof 60 (.istore_n 2) 1 0 0 61 := ⟨rfl, rfl⟩
theorem r_X11_proof_61 : RW M_X11_proof 61 (.iinc 3 1) 3 0 0 64 := ⟨rfl, rfl⟩
theorem r_X11_proof_64 : RW M_X11_proof 64 (.goto (-44)) 3 20 0 67 := ⟨rfl, rfl⟩
theorem r_X11_proof_67 : RW M_X11_proof 67 (.iload_n 2) 1 0 0 68 := ⟨rfl, rfl⟩
theorem r_X11_proof_68 : RW M_X11_proof 68 (.ireturn) 1 0 0 69 := ⟨rfl, rfl⟩
theorem r_X11_turn_0 : RW M_X11_turn 0 (.aload_n 0) 1 0 0 1 := ⟨rfl, rfl⟩
theorem r_X11_turn_1 : RW M_X11_turn 1 (.iconst 0) 1 0 0 2 := ⟨rfl, rfl⟩
theorem r_X11_turn_2 : RW M_X11_turn 2 (.putfield 3) 3 11 0 5 := ⟨rfl, rfl⟩
theorem r_X11_turn_5 : RW M_X11_turn 5 (.aload_n 0) 1 0 0 6 := ⟨rfl, rfl⟩
theorem r_X11_turn_6 : RW M_X11_turn 6 (.invokevirtual 322) 3 212 0 9 := ⟨rfl, rfl⟩
theorem r_X11_turn_9 : RW M_X11_turn 9 (.aload_n 0) 1 0 0 10 := ⟨rfl, rfl⟩
theorem r_X11_turn_10 : RW M_X11_turn 10 (.aload_n 0) 1 0 0 11 := ⟨rfl, rfl⟩
theorem r_X11_turn_11 : RW M_X11_turn 11 (.getfield 74) 3 11 43 14 := ⟨rfl, rfl⟩
theorem r_X11_turn_14 : RW M_X11_turn 14 (.bipush 30) 2 0 0 16 := ⟨rfl, rfl⟩
theorem r_X11_turn_16 : RW M_X11_turn 16 (.iaload) 1 0 0 17 := ⟨rfl, rfl⟩
theorem r_X11_turn_17 : RW M_X11_turn 17 (.invokevirtual 395) 3 226 0 20 := ⟨rfl, rfl⟩
theorem r_X11_turn_20 : RW M_X11_turn 20 (.istore_n 1) 1 0 0 21 := ⟨rfl, rfl⟩
theorem r_X11_turn_21 : RW M_X11_turn 21 (.aload_n 0) 1 0 0 22 := ⟨rfl, rfl⟩
theorem r_X11_turn_22 : RW M_X11_turn 22 (.aload_n 0) 1 0 0 23 := ⟨rfl, rfl⟩
theorem r_X11_turn_23 : RW M_X11_turn 23 (.getfield 74) 3 11 43 26 := ⟨rfl, rfl⟩
theorem r_X11_turn_26 : RW M_X11_turn 26 (.bipush 30) 2 0 0 28 := ⟨rfl, rfl⟩
theorem r_X11_turn_28 : RW M_X11_turn 28 (.iaload) 1 0 0 29 := ⟨rfl, rfl⟩
theorem r_X11_turn_29 : RW M_X11_turn 29 (.invokevirtual 373) 3 222 0 32 := ⟨rfl, rfl⟩
theorem r_X11_turn_32 : RW M_X11_turn 32 (.aload_n 0) 1 0 0 33 := ⟨rfl, rfl⟩
theorem r_X11_turn_33 : RW M_X11_turn 33 (.invokevirtual 370) 3 221 0 36 := ⟨rfl, rfl⟩
theorem r_X11_turn_36 : RW M_X11_turn 36 (.iconst (-1)) 1 0 0 37 := ⟨rfl, rfl⟩
theorem r_X11_turn_37 : RW M_X11_turn 37 (.ixor) 1 0 0 38 := ⟨rfl, rfl⟩
theorem r_X11_turn_38 : RW M_X11_turn 38 (.iand) 1 0 0 39 := ⟨rfl, rfl⟩
theorem r_X11_turn_39 : RW M_X11_turn 39 (.istore_n 2) 1 0 0 40 := ⟨rfl, rfl⟩
theorem r_X11_turn_40 : RW M_X11_turn 40 (.aload_n 0) 1 0 0 41 := ⟨rfl, rfl⟩
theorem r_X11_turn_41 : RW M_X11_turn 41 (.iload_n 1) 1 0 0 42 := ⟨rfl, rfl⟩
theorem r_X11_turn_42 : RW M_X11_turn 42 (.invokevirtual 404) 3 225 0 45 := ⟨rfl, rfl⟩
theorem r_X11_turn_45 : RW M_X11_turn 45 (.ifCond .le 7) 3 52 0 48 := ⟨rfl, rfl⟩
theorem r_X11_turn_48 : RW M_X11_turn 48 (.iconst 1) 1 0 0 49 := ⟨rfl, rfl⟩
theorem r_X11_turn_49 : RW M_X11_turn 49 (.goto 4) 3 53 0 52 := ⟨rfl, rfl⟩
theorem r_X11_turn_52 : RW M_X11_turn 52 (.iconst 0) 1 0 0 53 := ⟨rfl, rfl⟩
theorem r_X11_turn_53 : RW M_X11_turn 53 (.istore_n 3) 1 0 0 54 := ⟨rfl, rfl⟩
theorem r_X11_turn_54 : RW M_X11_turn 54 (.iconst (-1)) 1 0 0 55 := ⟨rfl, rfl⟩
theorem r_X11_turn_55 : RW M_X11_turn 55 (.istore 4) 2 0 0 57 := ⟨rfl, rfl⟩
theorem r_X11_turn_57 : RW M_X11_turn 57 (.iconst 0) 1 0 0 58 := ⟨rfl, rfl⟩
theorem r_X11_turn_58 : RW M_X11_turn 58 (.istore 5) 2 0 0 60 := ⟨rfl, rfl⟩
theorem r_X11_turn_60 : RW M_X11_turn 60 (.iload 5) 2 0 0 62 := ⟨rfl, rfl⟩
theorem r_X11_turn_62 : RW M_X11_turn 62 (.iload_n 2) 1 0 0 63 := ⟨rfl, rfl⟩
theorem r_X11_turn_63 : RW M_X11_turn 63 (.if_icmp .gt 64) 3 127 0 66 := ⟨rfl, rfl⟩
theorem r_X11_turn_66 : RW M_X11_turn 66 (.iload 5) 2 0 0 68 := ⟨rfl, rfl⟩
theorem r_X11_turn_68 : RW M_X11_turn 68 (.iload_n 2) 1 0 0 69 := ⟨rfl, rfl⟩
theorem r_X11_turn_69 : RW M_X11_turn 69 (.iconst (-1)) 1 0 0 70 := ⟨rfl, rfl⟩
theorem r_X11_turn_70 : RW M_X11_turn 70 (.ixor) 1 0 0 71 := ⟨rfl, rfl⟩
theorem r_X11_turn_71 : RW M_X11_turn 71 (.iand) 1 0 0 72 := ⟨rfl, rfl⟩
theorem r_X11_turn_72 : RW M_X11_turn 72 (.ifCond .ne 49) 3 121 0 75 := ⟨rfl, rfl⟩
theorem r_X11_turn_75 : RW M_X11_turn 75 (.iload 4) 2 0 0 77 := ⟨rfl, rfl⟩
theorem r_X11_turn_77 : RW M_X11_turn 77 (.iconst (-1)) 1 0 0 78 := ⟨rfl, rfl⟩
theorem r_X11_turn_78 : RW M_X11_turn 78 (.if_icmp .eq 19) 3 97 0 81 := ⟨rfl, rfl⟩
theorem r_X11_turn_81 : RW M_X11_turn 81 (.iload 5) 2 0 0 83 := ⟨rfl, rfl⟩
theorem r_X11_turn_83 : RW M_X11_turn 83 (.invokestatic 422) 3 213 0 86 := ⟨rfl, rfl⟩
theorem r_X11_turn_86 : RW M_X11_turn 86 (.iload 4) 2 0 0 88 := ⟨rfl, rfl⟩
theorem r_X11_turn_88 : RW M_X11_turn 88 (.invokestatic 422) 3 213 0 91 := ⟨rfl, rfl⟩
theorem r_X11_turn_91 : RW M_X11_turn 91 (.if_icmp .lt 6) 3 97 0 94 := ⟨rfl, rfl⟩
theorem r_X11_turn_94 : RW M_X11_turn 94 (.goto 27) 3 121 0 97 := ⟨rfl, rfl⟩
theorem r_X11_turn_97 : RW M_X11_turn 97 (.aload_n 0) 1 0 0 98 := ⟨rfl, rfl⟩
theorem r_X11_turn_98 : RW M_X11_turn 98 (.iload_n 1) 1 0 0 99 := ⟨rfl, rfl⟩
theorem r_X11_turn_99 : RW M_X11_turn 99 (.iload 5) 2 0 0 101 := ⟨rfl, rfl⟩
theorem r_X11_turn_101 : RW M_X11_turn 101 (.ior) 1 0 0 102 := ⟨rfl, rfl⟩
theorem r_X11_turn_102 : RW M_X11_turn 102 (.invokevirtual 404) 3 225 0 105 := ⟨rfl, rfl⟩
theorem r_X11_turn_105 : RW M_X11_turn 105 (.ifCond .le 7) 3 112 0 108 := ⟨rfl, rfl⟩
theorem r_X11_turn_108 : RW M_X11_turn 108 (.iconst 1) 1 0 0 109 := ⟨rfl, rfl⟩
theorem r_X11_turn_109 : RW M_X11_turn 109 (.goto 4) 3 113 0 112 := ⟨rfl, rfl⟩
theorem r_X11_turn_112 : RW M_X11_turn 112 (.iconst 0) 1 0 0 113 := ⟨rfl, rfl⟩
theorem r_X11_turn_113 : RW M_X11_turn 113 (.iload_n 3) 1 0 0 114 := ⟨rfl, rfl⟩
theorem r_X11_turn_114 : RW M_X11_turn 114 (.if_icmp .eq 7) 3 121 0 117 := ⟨rfl, rfl⟩
theorem r_X11_turn_117 : RW M_X11_turn 117 (.iload 5) 2 0 0 119 := ⟨rfl, rfl⟩
theorem r_X11_turn_119 : RW M_X11_turn 119 (.istore 4) 2 0 0 121 := ⟨rfl, rfl⟩
theorem r_X11_turn_121 : RW M_X11_turn 121 (.iinc 5 1) 3 0 0 124 := ⟨rfl, rfl⟩
theorem r_X11_turn_124 : RW M_X11_turn 124 (.goto (-64)) 3 60 0 127 := ⟨rfl, rfl⟩
theorem r_X11_turn_127 : RW M_X11_turn 127 (.iload 4) 2 0 0 129 := ⟨rfl, rfl⟩
theorem r_X11_turn_129 : RW M_X11_turn 129 (.ireturn) 1 0 0 130 := ⟨rfl, rfl⟩
theorem r_X8_coverAll_0 : RW M_X8_coverAll 0 (.iconst 0) 1 0 0 1 := ⟨rfl, rfl⟩
theorem r_X8_coverAll_1 : RW M_X8_coverAll 1 (.istore_n 1) 1 0 0 2 := ⟨rfl, rfl⟩
theorem r_X8_coverAll_2 : RW M_X8_coverAll 2 (.iload_n 1) 1 0 2 3 := ⟨rfl, rfl⟩
theorem r_X8_coverAll_3 : RW M_X8_coverAll 3 (.aload_n 0) 1 0 0 4 := ⟨rfl, rfl⟩
theorem r_X8_coverAll_4 : RW M_X8_coverAll 4 (.getfield 23) 3 8 0 7 := ⟨rfl, rfl⟩
theorem r_X8_coverAll_7 : RW M_X8_coverAll 7 (.getfield 35) 3 1 12 10 := ⟨rfl, rfl⟩
theorem r_X8_coverAll_10 : RW M_X8_coverAll 10 (.if_icmp .ge 45) 3 55 0 13 := ⟨rfl, rfl⟩
theorem r_X8_coverAll_13 : RW M_X8_coverAll 13 (.iconst 0) 1 0 0 14 := ⟨rfl, rfl⟩
theorem r_X8_coverAll_14 : RW M_X8_coverAll 14 (.istore_n 2) 1 0 0 15 := ⟨rfl, rfl⟩
theorem r_X8_coverAll_15 : RW M_X8_coverAll 15 (.iload_n 2) 1 0 0 16 := ⟨rfl, rfl⟩
theorem r_X8_coverAll_16 : RW M_X8_coverAll 16 (.bipush 10) 2 0 0 18 := ⟨rfl, rfl⟩
theorem r_X8_coverAll_18 : RW M_X8_coverAll 18 (.if_icmp .ge 31) 3 49 0 21 := ⟨rfl, rfl⟩
theorem r_X8_coverAll_21 : RW M_X8_coverAll 21 (.aload_n 0) 1 0 0 22 := ⟨rfl, rfl⟩
theorem r_X8_coverAll_22 : RW M_X8_coverAll 22 (.getfield 16) 3 8 3 25 := ⟨rfl, rfl⟩
theorem r_X8_coverAll_25 : RW M_X8_coverAll 25 (.iload_n 1) 1 0 0 26 := ⟨rfl, rfl⟩
theorem r_X8_coverAll_26 : RW M_X8_coverAll 26 (.bipush 10) 2 0 0 28 := ⟨rfl, rfl⟩
theorem r_X8_coverAll_28 : RW M_X8_coverAll 28 (.imul) 1 0 0 29 := ⟨rfl, rfl⟩
theorem r_X8_coverAll_29 : RW M_X8_coverAll 29 (.iload_n 2) 1 0 0 30 := ⟨rfl, rfl⟩
theorem r_X8_coverAll_30 : RW M_X8_coverAll 30 (.iadd) 1 0 0 31 := ⟨rfl, rfl⟩
theorem r_X8_coverAll_31 : RW M_X8_coverAll 31 (.aload_n 0) 1 0 0 32 := ⟨rfl, rfl⟩
theorem r_X8_coverAll_32 : RW M_X8_coverAll 32 (.getfield 27) 3 8 1 35 := ⟨rfl, rfl⟩
theorem r_X8_coverAll_35 : RW M_X8_coverAll 35 (.iload_n 1) 1 0 0 36 := ⟨rfl, rfl⟩
theorem r_X8_coverAll_36 : RW M_X8_coverAll 36 (.iload_n 2) 1 0 0 37 := ⟨rfl, rfl⟩
theorem r_X8_coverAll_37 : RW M_X8_coverAll 37 (.invokevirtual 41) 3 31 0 40 := ⟨rfl, rfl⟩
theorem r_X8_coverAll_40 : RW M_X8_coverAll 40 (.invokevirtual 47) 3 93 0 43 := ⟨rfl, rfl⟩
theorem r_X8_coverAll_43 : RW M_X8_coverAll 43 (.iinc 2 1) 3 0 0 46 := ⟨rfl, rfl⟩
theorem r_X8_coverAll_46 : RW M_X8_coverAll 46 (.goto (-31)) 3 15 0 49 := ⟨rfl, rfl⟩
theorem r_X8_coverAll_49 : RW M_X8_coverAll 49 (.iinc 1 1) 3 0 0 52 := ⟨rfl, rfl⟩
theorem r_X8_coverAll_52 : RW M_X8_coverAll 52 (.goto (-50)) 3 2 0 55 := ⟨rfl, rfl⟩
theorem r_X8_coverAll_55 : RW M_X8_coverAll 55 (.return_) 1 0 0 56 := ⟨rfl, rfl⟩
theorem r_X8_coveredByOthers_0 : RW M_X8_coveredByOthers 0 (.iconst 0) 1 0 0 1 := ⟨rfl, rfl⟩
theorem r_X8_coveredByOthers_1 : RW M_X8_coveredByOthers 1 (.istore_n 2) 1 0 0 2 := ⟨rfl, rfl⟩
theorem r_X8_coveredByOthers_2 : RW M_X8_coveredByOthers 2 (.iconst 0) 1 0 0 3 := ⟨rfl, rfl⟩
theorem r_X8_coveredByOthers_3 : RW M_X8_coveredByOthers 3 (.istore_n 3) 1 0 0 4 := ⟨rfl, rfl⟩
theorem r_X8_coveredByOthers_4 : RW M_X8_coveredByOthers 4 (.iload_n 3) 1 0 0 5 := ⟨rfl, rfl⟩
theorem r_X8_coveredByOthers_5 : RW M_X8_coveredByOthers 5 (.aload_n 0) 1 0 0 6 := ⟨rfl, rfl⟩
theorem r_X8_coveredByOthers_6 : RW M_X8_coveredByOthers 6 (.getfield 23) 3 8 0 9 := ⟨rfl, rfl⟩
theorem r_X8_coveredByOthers_9 : RW M_X8_coveredByOthers 9 (.getfield 35) 3 1 12 12 := ⟨rfl, rfl⟩
theorem r_X8_coveredByOthers_12 : RW M_X8_coveredByOthers 12 (.if_icmp .ge 28) 3 40 0 15 := ⟨rfl, rfl⟩
theorem r_X8_coveredByOthers_15 : RW M_X8_coveredByOthers 15 (.iload_n 3) 1 0 0 16 := ⟨rfl, rfl⟩
theorem r_X8_coveredByOthers_16 : RW M_X8_coveredByOthers 16 (.iload_n 1) 1 0 0 17 := ⟨rfl, rfl⟩
theorem r_X8_coveredByOthers_17 : RW M_X8_coveredByOthers 17 (.if_icmp .eq 17) 3 34 0 20 := ⟨rfl, rfl⟩
theorem r_X8_coveredByOthers_20 : RW M_X8_coveredByOthers 20 (.iload_n 2) 1 0 0 21 := ⟨rfl, rfl⟩
theorem r_X8_coveredByOthers_21 : RW M_X8_coveredByOthers 21 (.aload_n 0) 1 0 0 22 := ⟨rfl, rfl⟩
theorem r_X8_coveredByOthers_22 : RW M_X8_coveredByOthers 22 (.getfield 16) 3 8 3 25 := ⟨rfl, rfl⟩
theorem r_X8_coveredByOthers_25 : RW M_X8_coveredByOthers 25 (.iload_n 3) 1 0 0 26 := ⟨rfl, rfl⟩
theorem r_X8_coveredByOthers_26 : RW M_X8_coveredByOthers 26 (.bipush 10) 2 0 0 28 := ⟨rfl, rfl⟩
theorem r_X8_coveredByOthers_28 : RW M_X8_coveredByOthers 28 (.imul) 1 0 0 29 := ⟨rfl, rfl⟩
theorem r_X8_coveredByOthers_29 : RW M_X8_coveredByOthers 29 (.invokevirtual 73) 3 92 0 32 := ⟨rfl, rfl⟩
theorem r_X8_coveredByOthers_32 : RW M_X8_coveredByOthers 32 (.ior) 1 0 0 33 := ⟨rfl, rfl⟩
theorem r_X8_coveredByOthers_33 : RW M_X8_coveredByOthers 33 (.istore_n 2) 1 0 0 34 := ⟨rfl, rfl⟩
theorem r_X8_coveredByOthers_34 : RW M_X8_coveredByOthers 34 (.iinc 3 1) 3 0 0 37 := ⟨rfl, rfl⟩
theorem r_X8_coveredByOthers_37 : RW M_X8_coveredByOthers 37 (.goto (-33)) 3 4 0 40 := ⟨rfl, rfl⟩
theorem r_X8_coveredByOthers_40 : RW M_X8_coveredByOthers 40 (.iload_n 2) 1 0 0 41 := ⟨rfl, rfl⟩
theorem r_X8_coveredByOthers_41 : RW M_X8_coveredByOthers 41 (.ireturn) 1 0 0 42 := ⟨rfl, rfl⟩
theorem r_X8_isBetter_0 : RW M_X8_isBetter 0 (.iload_n 1) 1 0 0 1 := ⟨rfl, rfl⟩
theorem r_X8_isBetter_1 : RW M_X8_isBetter 1 (.invokestatic 106) 3 322 0 4 := ⟨rfl, rfl⟩
theorem r_X8_isBetter_4 : RW M_X8_isBetter 4 (.iload_n 0) 1 0 0 5 := ⟨rfl, rfl⟩
theorem r_X8_isBetter_5 : RW M_X8_isBetter 5 (.invokestatic 106) 3 322 0 8 := ⟨rfl, rfl⟩
theorem r_X8_isBetter_8 : RW M_X8_isBetter 8 (.isub) 1 0 0 9 := ⟨rfl, rfl⟩
theorem r_X8_isBetter_9 : RW M_X8_isBetter 9 (.istore_n 2) 1 0 0 10 := ⟨rfl, rfl⟩
theorem r_X8_isBetter_10 : RW M_X8_isBetter 10 (.iload_n 2) 1 0 0 11 := ⟨rfl, rfl⟩
theorem r_X8_isBetter_11 : RW M_X8_isBetter 11 (.ifCond .gt 12) 3 23 0 14 := ⟨rfl, rfl⟩
theorem r_X8_isBetter_14 : RW M_X8_isBetter 14 (.iload_n 2) 1 0 0 15 := ⟨rfl, rfl⟩
theorem r_X8_isBetter_15 : RW M_X8_isBetter 15 (.ifCond .ne 12) 3 27 0 18 := ⟨rfl, rfl⟩
theorem r_X8_isBetter_18 : RW M_X8_isBetter 18 (.iload_n 0) 1 0 0 19 := ⟨rfl, rfl⟩
theorem r_X8_isBetter_19 : RW M_X8_isBetter 19 (.iload_n 1) 1 0 0 20 := ⟨rfl, rfl⟩
theorem r_X8_isBetter_20 : RW M_X8_isBetter 20 (.if_icmp .ge 7) 3 27 0 23 := ⟨rfl, rfl⟩
theorem r_X8_isBetter_23 : RW M_X8_isBetter 23 (.iconst 1) 1 0 0 24 := ⟨rfl, rfl⟩
theorem r_X8_isBetter_24 : RW M_X8_isBetter 24 (.goto 4) 3 28 0 27 := ⟨rfl, rfl⟩
theorem r_X8_isBetter_27 : RW M_X8_isBetter 27 (.iconst 0) 1 0 0 28 := ⟨rfl, rfl⟩
theorem r_X8_isBetter_28 : RW M_X8_isBetter 28 (.ireturn) 1 0 0 29 := ⟨rfl, rfl⟩
theorem r_X8_leastProof_0 : RW M_X8_leastProof 0 (.iload_n 1) 1 0 0 1 := ⟨rfl, rfl⟩
theorem r_X8_leastProof_1 : RW M_X8_leastProof 1 (.invokestatic 80) 3 162 0 4 := ⟨rfl, rfl⟩
theorem r_X8_leastProof_4 : RW M_X8_leastProof 4 (.istore_n 2) 1 0 0 5 := ⟨rfl, rfl⟩
theorem r_X8_leastProof_5 : RW M_X8_leastProof 5 (.iconst 0) 1 0 0 6 := ⟨rfl, rfl⟩
theorem r_X8_leastProof_6 : RW M_X8_leastProof 6 (.istore_n 3) 1 0 0 7 := ⟨rfl, rfl⟩
theorem r_X8_leastProof_7 : RW M_X8_leastProof 7 (.iload_n 3) 1 0 0 8 := ⟨rfl, rfl⟩
theorem r_X8_leastProof_8 : RW M_X8_leastProof 8 (.aload_n 0) 1 0 0 9 := ⟨rfl, rfl⟩
theorem r_X8_leastProof_9 : RW M_X8_leastProof 9 (.getfield 23) 3 8 0 12 := ⟨rfl, rfl⟩
theorem r_X8_leastProof_12 : RW M_X8_leastProof 12 (.invokevirtual 83) 3 14 0 15 := ⟨rfl, rfl⟩
theorem r_X8_leastProof_15 : RW M_X8_leastProof 15 (.if_icmp .gt 34) 3 49 0 18 := ⟨rfl, rfl⟩
theorem r_X8_leastProof_18 : RW M_X8_leastProof 18 (.iload_n 3) 1 0 0 19 := ⟨rfl, rfl⟩
theorem r_X8_leastProof_19 : RW M_X8_leastProof 19 (.iload_n 2) 1 0 0 20 := ⟨rfl, rfl⟩
theorem r_X8_leastProof_20 : RW M_X8_leastProof 20 (.invokestatic 87) 3 102 0 23 := ⟨rfl, rfl⟩
theorem r_X8_leastProof_23 : RW M_X8_leastProof 23 (.ifCond .eq 20) 3 43 0 26 := ⟨rfl, rfl⟩
theorem r_X8_leastProof_26 : RW M_X8_leastProof 26 (.aload_n 0) 1 0 0 27 := ⟨rfl, rfl⟩
theorem r_X8_leastProof_27 : RW M_X8_leastProof 27 (.getfield 23) 3 8 0 30 := ⟨rfl, rfl⟩
theorem r_X8_leastProof_30 : RW M_X8_leastProof 30 (.iload_n 3) 1 0 0 31 := ⟨rfl, rfl⟩
theorem r_X8_leastProof_31 : RW M_X8_leastProof 31 (.invokevirtual 91) 3 19 0 34 := ⟨rfl, rfl⟩
theorem r_X8_leastProof_34 : RW M_X8_leastProof 34 (.iload_n 1) 1 0 0 35 := ⟨rfl, rfl⟩
theorem r_X8_leastProof_35 : RW M_X8_leastProof 35 (.invokestatic 94) 3 163 0 38 := ⟨rfl, rfl⟩
theorem r_X8_leastProof_38 : RW M_X8_leastProof 38 (.ifCond .eq 5) 3 43 0 41 := ⟨rfl, rfl⟩
theorem r_X8_leastProof_41 : RW M_X8_leastProof 41 (.iload_n 3) 1 0 0 42 := ⟨rfl, rfl⟩
theorem r_X8_leastProof_42 : RW M_X8_leastProof 42 (.istore_n 2) 1 0 0 43 := ⟨rfl, rfl⟩
theorem r_X8_leastProof_43 : RW M_X8_leastProof 43 (.iinc 3 1) 3 0 0 46 := ⟨rfl, rfl⟩
theorem r_X8_leastProof_46 : RW M_X8_leastProof 46 (.goto (-39)) 3 7 0 49 := ⟨rfl, rfl⟩
theorem r_X8_leastProof_49 : RW M_X8_leastProof 49 (.iload_n 2) 1 0 0 50 := ⟨rfl, rfl⟩
theorem r_X8_leastProof_50 : RW M_X8_leastProof 50 (.ireturn) 1 0 0 51 := ⟨rfl, rfl⟩
theorem r_X8_leastTurn_0 : RW M_X8_leastTurn 0 (.aload_n 0) 1 0 0 1 := ⟨rfl, rfl⟩
theorem r_X8_leastTurn_1 : RW M_X8_leastTurn 1 (.getfield 27) 3 8 1 4 := ⟨rfl, rfl⟩
theorem r_X8_leastTurn_4 : RW M_X8_leastTurn 4 (.aload_n 0) 1 0 0 5 := ⟨rfl, rfl⟩
theorem r_X8_leastTurn_5 : RW M_X8_leastTurn 5 (.getfield 27) 3 8 1 8 := ⟨rfl, rfl⟩
theorem r_X8_leastTurn_8 : RW M_X8_leastTurn 8 (.getfield 77) 3 2 7 11 := ⟨rfl, rfl⟩
theorem r_X8_leastTurn_11 : RW M_X8_leastTurn 11 (.invokevirtual 97) 3 38 0 14 := ⟨rfl, rfl⟩
theorem r_X8_leastTurn_14 : RW M_X8_leastTurn 14 (.istore_n 1) 1 0 0 15 := ⟨rfl, rfl⟩
theorem r_X8_leastTurn_15 : RW M_X8_leastTurn 15 (.aload_n 0) 1 0 0 16 := ⟨rfl, rfl⟩
theorem r_X8_leastTurn_16 : RW M_X8_leastTurn 16 (.getfield 27) 3 8 1 19 := ⟨rfl, rfl⟩
theorem r_X8_leastTurn_19 : RW M_X8_leastTurn 19 (.iconst 0) 1 0 0 20 := ⟨rfl, rfl⟩
theorem r_X8_leastTurn_20 : RW M_X8_leastTurn 20 (.aload_n 0) 1 0 0 21 := ⟨rfl, rfl⟩
theorem r_X8_leastTurn_21 : RW M_X8_leastTurn 21 (.getfield 27) 3 8 1 24 := ⟨rfl, rfl⟩
theorem r_X8_leastTurn_24 : RW M_X8_leastTurn 24 (.getfield 77) 3 2 7 27 := ⟨rfl, rfl⟩
theorem r_X8_leastTurn_27 : RW M_X8_leastTurn 27 (.invokevirtual 100) 3 37 0 30 := ⟨rfl, rfl⟩
theorem r_X8_leastTurn_30 : RW M_X8_leastTurn 30 (.iload_n 1) 1 0 0 31 := ⟨rfl, rfl⟩
theorem r_X8_leastTurn_31 : RW M_X8_leastTurn 31 (.iconst (-1)) 1 0 0 32 := ⟨rfl, rfl⟩
theorem r_X8_leastTurn_32 : RW M_X8_leastTurn 32 (.ixor) 1 0 0 33 := ⟨rfl, rfl⟩
theorem r_X8_leastTurn_33 : RW M_X8_leastTurn 33 (.iand) 1 0 0 34 := ⟨rfl, rfl⟩
theorem r_X8_leastTurn_34 : RW M_X8_leastTurn 34 (.istore_n 2) 1 0 0 35 := ⟨rfl, rfl⟩
theorem r_X8_leastTurn_35 : RW M_X8_leastTurn 35 (.aload_n 0) 1 0 0 36 := ⟨rfl, rfl⟩
theorem r_X8_leastTurn_36 : RW M_X8_leastTurn 36 (.getfield 23) 3 8 0 39 := ⟨rfl, rfl⟩
theorem r_X8_leastTurn_39 : RW M_X8_leastTurn 39 (.iload_n 1) 1 0 0 40 := ⟨rfl, rfl⟩
theorem r_X8_leastTurn_40 : RW M_X8_leastTurn 40 (.invokevirtual 103) 3 22 0 43 := ⟨rfl, rfl⟩
theorem r_X8_leastTurn_43 : RW M_X8_leastTurn 43 (.ifCond .le 7) 3 50 0 46 := ⟨rfl, rfl⟩
theorem r_X8_leastTurn_46 : RW M_X8_leastTurn 46 (.iconst 1) 1 0 0 47 := ⟨rfl, rfl⟩
theorem r_X8_leastTurn_47 : RW M_X8_leastTurn 47 (.goto 4) 3 51 0 50 := ⟨rfl, rfl⟩
theorem r_X8_leastTurn_50 : RW M_X8_leastTurn 50 (.iconst 0) 1 0 0 51 := ⟨rfl, rfl⟩
theorem r_X8_leastTurn_51 : RW M_X8_leastTurn 51 (.istore_n 3) 1 0 0 52 := ⟨rfl, rfl⟩
theorem r_X8_leastTurn_52 : RW M_X8_leastTurn 52 (.iconst (-1)) 1 0 0 53 := ⟨rfl, rfl⟩
theorem r_X8_leastTurn_53 : RW M_X8_leastTurn 53 (.istore 4) 2 0 0 55 := ⟨rfl, rfl⟩
theorem r_X8_leastTurn_55 : RW M_X8_leastTurn 55 (.iconst 0) 1 0 0 56 := ⟨rfl, rfl⟩
theorem r_X8_leastTurn_56 : RW M_X8_leastTurn 56 (.istore 5) 2 0 0 58 := ⟨rfl, rfl⟩
theorem r_X8_leastTurn_58 : RW M_X8_leastTurn 58 (.iload 5) 2 0 0 60 := ⟨rfl, rfl⟩
theorem r_X8_leastTurn_60 : RW M_X8_leastTurn 60 (.aload_n 0) 1 0 0 61 := ⟨rfl, rfl⟩
theorem r_X8_leastTurn_61 : RW M_X8_leastTurn 61 (.getfield 23) 3 8 0 64 := ⟨rfl, rfl⟩
theorem r_X8_leastTurn_64 : RW M_X8_leastTurn 64 (.invokevirtual 83) 3 14 0 67 := ⟨rfl, rfl⟩
theorem r_X8_leastTurn_67 : RW M_X8_leastTurn 67 (.if_icmp .gt 61) 3 128 0 70 := ⟨rfl, rfl⟩
theorem r_X8_leastTurn_70 : RW M_X8_leastTurn 70 (.iload 5) 2 0 0 72 := ⟨rfl, rfl⟩
theorem r_X8_leastTurn_72 : RW M_X8_leastTurn 72 (.iload_n 2) 1 0 0 73 := ⟨rfl, rfl⟩
theorem r_X8_leastTurn_73 : RW M_X8_leastTurn 73 (.iconst (-1)) 1 0 0 74 := ⟨rfl, rfl⟩
theorem r_X8_leastTurn_74 : RW M_X8_leastTurn 74 (.ixor) 1 0 0 75 := ⟨rfl, rfl⟩
theorem r_X8_leastTurn_75 : RW M_X8_leastTurn 75 (.iand) 1 0 0 76 := ⟨rfl, rfl⟩
theorem r_X8_leastTurn_76 : RW M_X8_leastTurn 76 (.ifCond .ne 46) 3 122 0 79 := ⟨rfl, rfl⟩
theorem r_X8_leastTurn_79 : RW M_X8_leastTurn 79 (.iload 4) 2 0 0 81 := ⟨rfl, rfl⟩
theorem r_X8_leastTurn_81 : RW M_X8_leastTurn 81 (.iconst (-1)) 1 0 0 82 := ⟨rfl, rfl⟩
theorem r_X8_leastTurn_82 : RW M_X8_leastTurn 82 (.if_icmp .eq 13) 3 95 0 85 := ⟨rfl, rfl⟩
theorem r_X8_leastTurn_85 : RW M_X8_leastTurn 85 (.iload 5) 2 0 0 87 := ⟨rfl, rfl⟩
theorem r_X8_leastTurn_87 : RW M_X8_leastTurn 87 (.iload 4) 2 0 0 89 := ⟨rfl, rfl⟩
theorem r_X8_leastTurn_89 : RW M_X8_leastTurn 89 (.invokestatic 87) 3 102 0 92 := ⟨rfl, rfl⟩
theorem r_X8_leastTurn_92 : RW M_X8_leastTurn 92 (.ifCond .eq 30) 3 122 0 95 := ⟨rfl, rfl⟩
theorem r_X8_leastTurn_95 : RW M_X8_leastTurn 95 (.aload_n 0) 1 0 0 96 := ⟨rfl, rfl⟩
theorem r_X8_leastTurn_96 : RW M_X8_leastTurn 96 (.getfield 23) 3 8 0 99 := ⟨rfl, rfl⟩
theorem r_X8_leastTurn_99 : RW M_X8_leastTurn 99 (.iload_n 1) 1 0 0 100 := ⟨rfl, rfl⟩
theorem r_X8_leastTurn_100 : RW M_X8_leastTurn 100 (.iload 5) 2 0 0 102 := ⟨rfl, rfl⟩
theorem r_X8_leastTurn_102 : RW M_X8_leastTurn 102 (.ior) 1 0 0 103 := ⟨rfl, rfl⟩
theorem r_X8_leastTurn_103 : RW M_X8_leastTurn 103 (.invokevirtual 103) 3 22 0 106 := ⟨rfl, rfl⟩
theorem r_X8_leastTurn_106 : RW M_X8_leastTurn 106 (.ifCond .le 7) 3 113 0 109 := ⟨rfl, rfl⟩
theorem r_X8_leastTurn_109 : RW M_X8_leastTurn 109 (.iconst 1) 1 0 0 110 := ⟨rfl, rfl⟩
theorem r_X8_leastTurn_110 : RW M_X8_leastTurn 110 (.goto 4) 3 114 0 113 := ⟨rfl, rfl⟩
theorem r_X8_leastTurn_113 : RW M_X8_leastTurn 113 (.iconst 0) 1 0 0 114 := ⟨rfl, rfl⟩
theorem r_X8_leastTurn_114 : RW M_X8_leastTurn 114 (.iload_n 3) 1 0 0 115 := ⟨rfl, rfl⟩
theorem r_X8_leastTurn_115 : RW M_X8_leastTurn 115 (.if_icmp .eq 7) 3 122 0 118 := ⟨rfl, rfl⟩
theorem r_X8_leastTurn_118 : RW M_X8_leastTurn 118 (.iload 5) 2 0 0 120 := ⟨rfl, rfl⟩
theorem r_X8_leastTurn_120 : RW M_X8_leastTurn 120 (.istore 4) 2 0 0 122 := ⟨rfl, rfl⟩
theorem r_X8_leastTurn_122 : RW M_X8_leastTurn 122 (.iinc 5 1) 3 0 0 125 := ⟨rfl, rfl⟩
theorem r_X8_leastTurn_125 : RW M_X8_leastTurn 125 (.goto (-67)) 3 58 0 128 := ⟨rfl, rfl⟩
theorem r_X8_leastTurn_128 : RW M_X8_leastTurn 128 (.iload 4) 2 0 0 130 := ⟨rfl, rfl⟩
theorem r_X8_leastTurn_130 : RW M_X8_leastTurn 130 (.ireturn) 1 0 0 131 := ⟨rfl, rfl⟩
theorem c_better {d : Nat} {I : Nat → Nat → Int32} {J : Nat → Nat → Int64} {s b : Nat} (hs : s < 512) (hb_ : b < 512)  (hd : 2 ≤ d) : RV d 102 [.int (nI s), .int (nI b)] I J (bI (btr s b)) := by
  refine RV.in (d0 := 1) hd mt_102 (Nat.le_of_ble_eq_true rfl) (fun d' hd' => ?_)
  have p1 := pc9_le s; have p2 := pc9_le b
  show EV none M_X8_isBetter d' 0 [(0, .int (nI s)), (1, .int (nI b))] [] (hp I J) _
  refine EV.l (lv' := [(0, _), (1, _)]) r_X8_isBetter_0 rfl ?_
  refine EV.cv r_X8_isBetter_1 (aS1 mt_322) (c_bc (by omega) (by omega)) ?_
  refine EV.l (lv' := [(0, _), (1, _)]) r_X8_isBetter_4 rfl ?_
  refine EV.cv r_X8_isBetter_5 (aS1 mt_322) (c_bc (by omega) (by omega)) ?_
  refine EV.o r_X8_isBetter_8 (isubNZ) ?_
  refine EV.l (lv' := [(0, _), (1, _), (2, _)]) r_X8_isBetter_9 rfl ?_
  refine EV.l (lv' := [(0, _), (1, _), (2, _)]) r_X8_isBetter_10 rfl ?_
  refine EV.z0_gt r_X8_isBetter_11 (fun h11 => ?_) (fun h11 => ?_)
  · -- 11 t
    refine EV.o r_X8_isBetter_23 (icN (1) (v := 1)) ?_
    refine EV.g r_X8_isBetter_24 ?_
    exact EV.rv r_X8_isBetter_28 (by first | (rw [show btr s b = true from decide_eq_true (by omega)]; rfl) | (rw [show btr s b = false from decide_eq_false (by omega)]; rfl))
  · -- 11 f
    refine EV.l (lv' := [(0, _), (1, _), (2, _)]) r_X8_isBetter_14 rfl ?_
    refine EV.z0_ne r_X8_isBetter_15 (fun h15 => ?_) (fun h15 => ?_)
    · -- 15 t
      refine EV.o r_X8_isBetter_27 (icN (0) (v := 0)) ?_
      exact EV.rv r_X8_isBetter_28 (by first | (rw [show btr s b = true from decide_eq_true (by omega)]; rfl) | (rw [show btr s b = false from decide_eq_false (by omega)]; rfl))
    · -- 15 f
      refine EV.l (lv' := [(0, _), (1, _), (2, _)]) r_X8_isBetter_18 rfl ?_
      refine EV.l (lv' := [(0, _), (1, _), (2, _)]) r_X8_isBetter_19 rfl ?_
      refine EV.n2_ge r_X8_isBetter_20 (fun h20 => ?_) (fun h20 => ?_)
      · -- 20 t
        refine EV.o r_X8_isBetter_27 (icN (0) (v := 0)) ?_
        exact EV.rv r_X8_isBetter_28 (by first | (rw [show btr s b = true from decide_eq_true (by omega)]; rfl) | (rw [show btr s b = false from decide_eq_false (by omega)]; rfl))
      · -- 20 f
        refine EV.o r_X8_isBetter_23 (icN (1) (v := 1)) ?_
        refine EV.g r_X8_isBetter_24 ?_
        exact EV.rv r_X8_isBetter_28 (by first | (rw [show btr s b = true from decide_eq_true (by omega)]; rfl) | (rw [show btr s b = false from decide_eq_false (by omega)]; rfl))
theorem c_lproof {d : Nat} {I : Nat → Nat → Int32} {J : Nat → Nat → Int64} {κ : CT} (hc_ : HC 4 κ I) (cb : CB κ) {i : Nat} (h : i < κ.ns)  (hd : 5 ≤ d) : RV d 100 [.ref 89, .int (nI i)] I J (nI (pfC κ i (2 ^ κ.ns))) := by
  refine RV.in (d0 := 4) hd mt_100 (Nat.le_of_ble_eq_true rfl) (fun d' hd' => ?_)
  have bns := cb.ns; have bnb := cb.nb; have bnc := cb.nc; have bnr := cb.nr
  have pn := pow_ns cb; have p0 := Nat.two_pow_pos κ.ns
  have p2 : 2 ^ i < 2 ^ κ.ns := Nat.pow_lt_pow_right (by decide) h
  show EV none M_X8_leastProof d' 0 [(0, .ref 89), (1, .int (nI i))] [] (hp I J) _
  refine EV.l (lv' := [(0, _), (1, _)]) r_X8_leastProof_0 rfl ?_
  refine EV.cv r_X8_leastProof_1 (aS1 mt_162) (c_bit (by omega) (by omega)) ?_
  refine EV.l (lv' := [(0, _), (1, _), (2, _)]) r_X8_leastProof_4 rfl ?_
  refine EV.o r_X8_leastProof_5 (icN (0) (v := 0)) ?_
  refine EV.l (lv' := [(0, _), (1, _), (2, _), (3, _)]) r_X8_leastProof_6 rfl ?_
  have L7 : ∀ y_ : Nat, (fun s => s ≤ 2 ^ κ.ns → EV none M_X8_leastProof d' 7 [(0, .ref 89), (1, .int (nI i)), (2, .int (nI (pfC κ i s))), (3, .int (nI s))] [] (hp I J) (QV I J (nI (pfC κ i (2 ^ κ.ns))))) y_ := by
    refine ev_loop (fun s => 2 ^ κ.ns - s) ?_
    intro s ih7 hx7
    try dsimp only at ih7
    try dsimp only at hx7
    try dsimp only
    have pl_ := pfC_lt (κ := κ) p2 s hx7
    have cl_ : s < 2 ^ κ.ns → clo κ s < 2 ^ κ.ns := clo_lt cb
    refine EV.l (lv' := [(0, _), (1, _), (2, _), (3, _)]) r_X8_leastProof_7 rfl ?_
    refine EV.l (lv' := [(0, _), (1, _), (2, _), (3, _)]) r_X8_leastProof_8 rfl ?_
    refine EV.gR r_X8_leastProof_9 la_89 ?_
    refine EV.cv r_X8_leastProof_12 (aV0 mt_14 la_4) (b_all hc_ cb (by omega)) ?_
    refine EV.n2_gt r_X8_leastProof_15 (fun h15 => ?_) (fun h15 => ?_)
    · -- 15 t
      refine EV.l (lv' := [(0, _), (1, _), (2, _), (3, _)]) r_X8_leastProof_49 rfl ?_
      exact EV.rv r_X8_leastProof_50 (by rw [show s = 2 ^ κ.ns by omega])
    · -- 15 f
      refine EV.l (lv' := [(0, _), (1, _), (2, _), (3, _)]) r_X8_leastProof_18 rfl ?_
      refine EV.l (lv' := [(0, _), (1, _), (2, _), (3, _)]) r_X8_leastProof_19 rfl ?_
      refine EV.cv r_X8_leastProof_20 (aS2 mt_102) (c_better (by omega) (by omega) (by omega)) ?_
      refine EV.b0_eq r_X8_leastProof_23 (fun h23 => ?_) (fun h23 => ?_)
      · -- 23 t
        refine EV.l (lv' := [(0, _), (1, _), (2, _), (3, _)]) r_X8_leastProof_43 rfl ?_
        rw [inc_nI]
        refine EV.g r_X8_leastProof_46 ?_
        refine EV.sub ?_ rfl ?_ (ih7 (s + 1) ?_ ?_)
        · first | rw [pfC_t (by assumption) (by assumption)] | rw [pfC_f (by assumption)] | rw [pfC_g (by assumption)]
        · rfl
        · omega
        · omega
      · -- 23 f
        refine EV.l (lv' := [(0, _), (1, _), (2, _), (3, _)]) r_X8_leastProof_26 rfl ?_
        refine EV.gR r_X8_leastProof_27 la_89 ?_
        refine EV.l (lv' := [(0, _), (1, _), (2, _), (3, _)]) r_X8_leastProof_30 rfl ?_
        refine EV.cv r_X8_leastProof_31 (aV1 mt_19 la_4) (b_closure hc_ cb (by omega) (by omega)) ?_
        have cl2 := cl_ (by omega)
        refine EV.l (lv' := [(0, _), (1, _), (2, _), (3, _)]) r_X8_leastProof_34 rfl ?_
        refine EV.cv r_X8_leastProof_35 (aS2 mt_163) (c_has (by omega) (by omega) (by omega)) ?_
        refine EV.b0_eq r_X8_leastProof_38 (fun h38 => ?_) (fun h38 => ?_)
        · -- 38 t
          refine EV.l (lv' := [(0, _), (1, _), (2, _), (3, _)]) r_X8_leastProof_43 rfl ?_
          rw [inc_nI]
          refine EV.g r_X8_leastProof_46 ?_
          refine EV.sub ?_ rfl ?_ (ih7 (s + 1) ?_ ?_)
          · first | rw [pfC_t (by assumption) (by assumption)] | rw [pfC_f (by assumption)] | rw [pfC_g (by assumption)]
          · rfl
          · omega
          · omega
        · -- 38 f
          refine EV.l (lv' := [(0, _), (1, _), (2, _), (3, _)]) r_X8_leastProof_41 rfl ?_
          refine EV.l (lv' := [(0, _), (1, _), (2, _), (3, _)]) r_X8_leastProof_42 rfl ?_
          refine EV.l (lv' := [(0, _), (1, _), (2, _), (3, _)]) r_X8_leastProof_43 rfl ?_
          rw [inc_nI]
          refine EV.g r_X8_leastProof_46 ?_
          refine EV.sub ?_ rfl ?_ (ih7 (s + 1) ?_ ?_)
          · first | rw [pfC_t (by assumption) (by assumption)] | rw [pfC_f (by assumption)] | rw [pfC_g (by assumption)]
          · rfl
          · omega
          · omega
  have h0 := L7 (0)
  try dsimp only at h0
  refine EV.sub ?_ rfl ?_ (h0 ?_)
  · rfl
  · rfl
  · omega
theorem c_proof {d : Nat} {I : Nat → Nat → Int32} {J : Nat → Nat → Int64} {κ : CT} {η : HS} (hc_ : HC 4 κ I) (cb : CB κ) (hh : HH 71 η I) (hb_ : HB κ η) (hw : HW κ η) {i : Nat} (h : i < κ.ns)  (hd : 9 ≤ d) : RV d 130 [.ref 0, .int (nI i)] I J (nI (pfC κ i (2 ^ κ.ns))) := by
  refine RV.in (d0 := 8) hd mt_130 (Nat.le_of_ble_eq_true rfl) (fun d' hd' => ?_)
  have bns := cb.ns; have bnb := cb.nb; have bnc := cb.nc; have bnr := cb.nr
  have bm_ := hb_.mi
  show EV none M_X10_proof d' 0 [(0, .ref 0), (1, .int (nI i))] [] (hp I J) _
  refine EV.l (lv' := [(0, _), (1, _)]) r_X10_proof_0 rfl ?_
  refine EV.l (lv' := [(0, _), (1, _)]) r_X10_proof_1 rfl ?_
  refine EV.l (lv' := [(0, _), (1, _)]) r_X10_proof_2 rfl ?_
  refine EV.gR r_X10_proof_3 la_0 ?_
  refine EV.getV r_X10_proof_6 la_4 (hc_.ns) ?_
  refine EV.cu r_X10_proof_9 (aV2 mt_160 la_0) (c_there1 (by omega) (by omega) (by omega)) (fun I2 e2 => ?_)
  have e2 := e2.symm; subst e2
  refine EV.l (lv' := [(0, _), (1, _)]) r_X10_proof_12 rfl ?_
  refine EV.gR r_X10_proof_13 la_0 ?_
  refine EV.l (lv' := [(0, _), (1, _)]) r_X10_proof_16 rfl ?_
  refine EV.cv r_X10_proof_17 (aV1 mt_100 la_89) (c_lproof hc_ cb h (by omega)) ?_
  exact EV.rv r_X10_proof_20 (rfl)
theorem c_lturn {d : Nat} {I : Nat → Nat → Int32} {J : Nat → Nat → Int64} {κ : CT} {η : HS} (hc_ : HC 4 κ I) (cb : CB κ) (hh : HH 71 η I) (hb_ : HB κ η) (hw : HW κ η)  (hd : 9 ≤ d) : RV d 101 [.ref 89] I J (opI (bst (trn κ η) btr (2 ^ κ.ns))) := by
  refine RV.in (d0 := 8) hd mt_101 (Nat.le_of_ble_eq_true rfl) (fun d' hd' => ?_)
  have bns := cb.ns; have bnb := cb.nb; have bnc := cb.nc; have bnr := cb.nr
  have pn := pow_ns cb; have p0 := Nat.two_pow_pos κ.ns
  have bm_ := hb_.mi
  have hl := heard_lt (κ := κ) (η := η) η.mi
  have tu := trU_lt (κ := κ) (η := η)
  have lb0 := leanN_b (κ := κ) (x := clo κ (heard κ η η.mi)) cb.sw κ.ns; have ld0 : lean κ (heard κ η η.mi) = leanN κ (clo κ (heard κ η η.mi)) κ.ns := rfl
  show EV none M_X8_leastTurn d' 0 [(0, .ref 89)] [] (hp I J) _
  refine EV.l (lv' := [(0, _)]) r_X8_leastTurn_0 rfl ?_
  refine EV.gR r_X8_leastTurn_1 la_89 ?_
  refine EV.l (lv' := [(0, _)]) r_X8_leastTurn_4 rfl ?_
  refine EV.gR r_X8_leastTurn_5 la_89 ?_
  refine EV.getV r_X8_leastTurn_8 la_71 (hh.mi) ?_
  refine EV.cv r_X8_leastTurn_11 (aV1 mt_38 la_71) (c71_heard hc_ cb hh hb_ hw (by omega) (by omega)) ?_
  refine EV.l (lv' := [(0, _), (1, _)]) r_X8_leastTurn_14 rfl ?_
  refine EV.l (lv' := [(0, _), (1, _)]) r_X8_leastTurn_15 rfl ?_
  refine EV.gR r_X8_leastTurn_16 la_89 ?_
  refine EV.o r_X8_leastTurn_19 (icN (0) (v := 0)) ?_
  refine EV.l (lv' := [(0, _), (1, _)]) r_X8_leastTurn_20 rfl ?_
  refine EV.gR r_X8_leastTurn_21 la_89 ?_
  refine EV.getV r_X8_leastTurn_24 la_71 (hh.mi) ?_
  refine EV.cv r_X8_leastTurn_27 (aV2 mt_37 la_71) (c71_said hc_ cb hh hb_ (by omega) (by omega) (by omega)) ?_
  refine EV.l (lv' := [(0, _), (1, _)]) r_X8_leastTurn_30 rfl ?_
  refine EV.o r_X8_leastTurn_31 (icZ (-1)) ?_
  refine EV.o r_X8_leastTurn_32 inotN ?_
  refine EV.o r_X8_leastTurn_33 iandC ?_
  refine EV.l (lv' := [(0, _), (1, _), (2, _)]) r_X8_leastTurn_34 rfl ?_
  refine EV.l (lv' := [(0, _), (1, _), (2, _)]) r_X8_leastTurn_35 rfl ?_
  refine EV.gR r_X8_leastTurn_36 la_89 ?_
  refine EV.l (lv' := [(0, _), (1, _), (2, _)]) r_X8_leastTurn_39 rfl ?_
  refine EV.cv r_X8_leastTurn_40 (aV1 mt_22 la_4) (b_lean hc_ cb (by first | exact heard_lt _ | exact or_ltn (heard_lt _) (by omega)) (by omega)) ?_
  refine EV.z0_le r_X8_leastTurn_43 (fun h43 => ?_) (fun h43 => ?_)
  · -- 43 t
    have ab_ : trA κ η = false := decide_eq_false (by omega)
    refine EV.o r_X8_leastTurn_50 (icN (0) (v := 0)) ?_
    refine EV.l (lv' := [(0, _), (1, _), (2, _), (3, _)]) r_X8_leastTurn_51 rfl ?_
    refine EV.o r_X8_leastTurn_52 (icZ (-1)) ?_
    refine EV.l (lv' := [(0, _), (1, _), (2, _), (3, _), (4, _)]) r_X8_leastTurn_53 rfl ?_
    refine EV.o r_X8_leastTurn_55 (icN (0) (v := 0)) ?_
    refine EV.l (lv' := [(0, _), (1, _), (2, _), (3, _), (4, _), (5, _)]) r_X8_leastTurn_56 rfl ?_
    have L58 : ∀ y_ : Nat, (fun s => s ≤ 2 ^ κ.ns → EV none M_X8_leastTurn d' 58 [(0, .ref 89), (1, .int (nI (heard κ η η.mi))), (2, .int (nI (trU κ η))), (3, .int (nI (trA κ η).toNat)), (4, .int (opI (bst (trn κ η) btr s))), (5, .int (nI s))] [] (hp I J) (QV I J (opI (bst (trn κ η) btr (2 ^ κ.ns))))) y_ := by
      refine ev_loop (fun s => 2 ^ κ.ns - s) ?_
      intro s ih58 hx58
      try dsimp only at ih58
      try dsimp only at hx58
      try dsimp only
      have lb1 := leanN_b (κ := κ) (x := clo κ (heard κ η η.mi ||| s)) cb.sw κ.ns; have ld : lean κ (heard κ η η.mi ||| s) = leanN κ (clo κ (heard κ η η.mi ||| s)) κ.ns := rfl
      have tb_ := bt_lt (trA κ η)
      have az := andc_lt (n := 10) (a := s) (b := trU κ η) (by omega)
      have ps1 := pc9_le s
      refine EV.l (lv' := [(0, _), (1, _), (2, _), (3, _), (4, _), (5, _)]) r_X8_leastTurn_58 rfl ?_
      refine EV.l (lv' := [(0, _), (1, _), (2, _), (3, _), (4, _), (5, _)]) r_X8_leastTurn_60 rfl ?_
      refine EV.gR r_X8_leastTurn_61 la_89 ?_
      refine EV.cv r_X8_leastTurn_64 (aV0 mt_14 la_4) (b_all hc_ cb (by omega)) ?_
      refine EV.n2_gt r_X8_leastTurn_67 (fun h67 => ?_) (fun h67 => ?_)
      · -- 67 t
        refine EV.l (lv' := [(0, _), (1, _), (2, _), (3, _), (4, _), (5, _)]) r_X8_leastTurn_128 rfl ?_
        exact EV.rv r_X8_leastTurn_130 (by rw [show s = 2 ^ κ.ns by omega])
      · -- 67 f
        refine EV.l (lv' := [(0, _), (1, _), (2, _), (3, _), (4, _), (5, _)]) r_X8_leastTurn_70 rfl ?_
        refine EV.l (lv' := [(0, _), (1, _), (2, _), (3, _), (4, _), (5, _)]) r_X8_leastTurn_72 rfl ?_
        refine EV.o r_X8_leastTurn_73 (icZ (-1)) ?_
        refine EV.o r_X8_leastTurn_74 inotN ?_
        refine EV.o r_X8_leastTurn_75 iandC ?_
        refine EV.n0_ne r_X8_leastTurn_76 (fun h76 => ?_) (fun h76 => ?_)
        · -- 76 t
          have hp : trn κ η s = false := trn_z h76
          refine EV.l (lv' := [(0, _), (1, _), (2, _), (3, _), (4, _), (5, _)]) r_X8_leastTurn_122 rfl ?_
          rw [inc_nI]
          refine EV.g r_X8_leastTurn_125 ?_
          refine EV.sub ?_ rfl ?_ (ih58 (s + 1) ?_ ?_)
          · first | (rw [bst_l (p := trn κ η) (lt := btr) (by assumption) (by assumption)]; rfl) | (rw [bst_n (p := trn κ η) (lt := btr) (by assumption)]; done) | (rw [bst_n (p := trn κ η) (lt := btr) (by assumption), ec_]; rfl) | (rw [bst_0 (p := trn κ η) (lt := btr) (by assumption) (by assumption)]; rfl) | (rw [bst_t (p := trn κ η) (lt := btr) (by assumption) (by assumption) (by assumption)]; rfl)
          · rfl
          · omega
          · omega
        · -- 76 f
          refine EV.l (lv' := [(0, _), (1, _), (2, _), (3, _), (4, _), (5, _)]) r_X8_leastTurn_79 rfl ?_
          refine EV.o r_X8_leastTurn_81 (icZ (-1)) ?_
          refine EV.op_eq r_X8_leastTurn_82 (fun h82 => ?_) (fun h82 => ?_) (fun c ec_ => by have := bst_lt2 ec_ (by omega : _ ≤ 2 ^ κ.ns); omega)
          · -- 82 t
            refine EV.l (lv' := [(0, _), (1, _), (2, _), (3, _), (4, _), (5, _)]) r_X8_leastTurn_95 rfl ?_
            refine EV.gR r_X8_leastTurn_96 la_89 ?_
            refine EV.l (lv' := [(0, _), (1, _), (2, _), (3, _), (4, _), (5, _)]) r_X8_leastTurn_99 rfl ?_
            refine EV.l (lv' := [(0, _), (1, _), (2, _), (3, _), (4, _), (5, _)]) r_X8_leastTurn_100 rfl ?_
            refine EV.o r_X8_leastTurn_102 iorN ?_
            refine EV.cv r_X8_leastTurn_103 (aV1 mt_22 la_4) (b_lean hc_ cb (by first | exact heard_lt _ | exact or_ltn (heard_lt _) (by omega)) (by omega)) ?_
            refine EV.z0_le r_X8_leastTurn_106 (fun h106 => ?_) (fun h106 => ?_)
            · -- 106 t
              have lz_ : trL κ η s = false := decide_eq_false (by omega)
              refine EV.o r_X8_leastTurn_113 (icN (0) (v := 0)) ?_
              refine EV.l (lv' := [(0, _), (1, _), (2, _), (3, _), (4, _), (5, _)]) r_X8_leastTurn_114 rfl ?_
              refine EV.n2_eq r_X8_leastTurn_115 (fun h115 => ?_) (fun h115 => ?_)
              · -- 115 t
                have hp : trn κ η s = false := trn_eq (by rw [lz_]; exact h115)
                refine EV.l (lv' := [(0, _), (1, _), (2, _), (3, _), (4, _), (5, _)]) r_X8_leastTurn_122 rfl ?_
                rw [inc_nI]
                refine EV.g r_X8_leastTurn_125 ?_
                refine EV.sub ?_ rfl ?_ (ih58 (s + 1) ?_ ?_)
                · first | (rw [bst_l (p := trn κ η) (lt := btr) (by assumption) (by assumption)]; rfl) | (rw [bst_n (p := trn κ η) (lt := btr) (by assumption)]; done) | (rw [bst_n (p := trn κ η) (lt := btr) (by assumption), ec_]; rfl) | (rw [bst_0 (p := trn κ η) (lt := btr) (by assumption) (by assumption)]; rfl) | (rw [bst_t (p := trn κ η) (lt := btr) (by assumption) (by assumption) (by assumption)]; rfl)
                · rfl
                · omega
                · omega
              · -- 115 f
                have hp : trn κ η s = true := trn_ne h76 (by rw [lz_]; exact h115)
                refine EV.l (lv' := [(0, _), (1, _), (2, _), (3, _), (4, _), (5, _)]) r_X8_leastTurn_118 rfl ?_
                refine EV.l (lv' := [(0, _), (1, _), (2, _), (3, _), (4, _), (5, _)]) r_X8_leastTurn_120 rfl ?_
                refine EV.l (lv' := [(0, _), (1, _), (2, _), (3, _), (4, _), (5, _)]) r_X8_leastTurn_122 rfl ?_
                rw [inc_nI]
                refine EV.g r_X8_leastTurn_125 ?_
                refine EV.sub ?_ rfl ?_ (ih58 (s + 1) ?_ ?_)
                · first | (rw [bst_l (p := trn κ η) (lt := btr) (by assumption) (by assumption)]; rfl) | (rw [bst_n (p := trn κ η) (lt := btr) (by assumption)]; done) | (rw [bst_n (p := trn κ η) (lt := btr) (by assumption), ec_]; rfl) | (rw [bst_0 (p := trn κ η) (lt := btr) (by assumption) (by assumption)]; rfl) | (rw [bst_t (p := trn κ η) (lt := btr) (by assumption) (by assumption) (by assumption)]; rfl)
                · rfl
                · omega
                · omega
            · -- 106 f
              have lz_ : trL κ η s = true := decide_eq_true (by omega)
              refine EV.o r_X8_leastTurn_109 (icN (1) (v := 1)) ?_
              refine EV.g r_X8_leastTurn_110 ?_
              refine EV.l (lv' := [(0, _), (1, _), (2, _), (3, _), (4, _), (5, _)]) r_X8_leastTurn_114 rfl ?_
              refine EV.n2_eq r_X8_leastTurn_115 (fun h115 => ?_) (fun h115 => ?_)
              · -- 115 t
                have hp : trn κ η s = false := trn_eq (by rw [lz_]; exact h115)
                refine EV.l (lv' := [(0, _), (1, _), (2, _), (3, _), (4, _), (5, _)]) r_X8_leastTurn_122 rfl ?_
                rw [inc_nI]
                refine EV.g r_X8_leastTurn_125 ?_
                refine EV.sub ?_ rfl ?_ (ih58 (s + 1) ?_ ?_)
                · first | (rw [bst_l (p := trn κ η) (lt := btr) (by assumption) (by assumption)]; rfl) | (rw [bst_n (p := trn κ η) (lt := btr) (by assumption)]; done) | (rw [bst_n (p := trn κ η) (lt := btr) (by assumption), ec_]; rfl) | (rw [bst_0 (p := trn κ η) (lt := btr) (by assumption) (by assumption)]; rfl) | (rw [bst_t (p := trn κ η) (lt := btr) (by assumption) (by assumption) (by assumption)]; rfl)
                · rfl
                · omega
                · omega
              · -- 115 f
                have hp : trn κ η s = true := trn_ne h76 (by rw [lz_]; exact h115)
                refine EV.l (lv' := [(0, _), (1, _), (2, _), (3, _), (4, _), (5, _)]) r_X8_leastTurn_118 rfl ?_
                refine EV.l (lv' := [(0, _), (1, _), (2, _), (3, _), (4, _), (5, _)]) r_X8_leastTurn_120 rfl ?_
                refine EV.l (lv' := [(0, _), (1, _), (2, _), (3, _), (4, _), (5, _)]) r_X8_leastTurn_122 rfl ?_
                rw [inc_nI]
                refine EV.g r_X8_leastTurn_125 ?_
                refine EV.sub ?_ rfl ?_ (ih58 (s + 1) ?_ ?_)
                · first | (rw [bst_l (p := trn κ η) (lt := btr) (by assumption) (by assumption)]; rfl) | (rw [bst_n (p := trn κ η) (lt := btr) (by assumption)]; done) | (rw [bst_n (p := trn κ η) (lt := btr) (by assumption), ec_]; rfl) | (rw [bst_0 (p := trn κ η) (lt := btr) (by assumption) (by assumption)]; rfl) | (rw [bst_t (p := trn κ η) (lt := btr) (by assumption) (by assumption) (by assumption)]; rfl)
                · rfl
                · omega
                · omega
          · -- 82 f
            obtain ⟨c, ec_⟩ := h82
            rw [ec_, opI_some]
            have bc_ := bst_lt2 ec_ (by omega : _ ≤ 2 ^ κ.ns)
            have pc1 := pc9_le c
            refine EV.l (lv' := [(0, _), (1, _), (2, _), (3, _), (4, _), (5, _)]) r_X8_leastTurn_85 rfl ?_
            refine EV.l (lv' := [(0, _), (1, _), (2, _), (3, _), (4, _), (5, _)]) r_X8_leastTurn_87 rfl ?_
            refine EV.cv r_X8_leastTurn_89 (aS2 mt_102) (c_better (by omega) (by omega) (by omega)) ?_
            refine EV.b0_eq r_X8_leastTurn_92 (fun h92 => ?_) (fun h92 => ?_)
            · -- 92 t
              refine EV.l (lv' := [(0, _), (1, _), (2, _), (3, _), (4, _), (5, _)]) r_X8_leastTurn_122 rfl ?_
              rw [inc_nI]
              refine EV.g r_X8_leastTurn_125 ?_
              refine EV.sub ?_ rfl ?_ (ih58 (s + 1) ?_ ?_)
              · first | (rw [bst_l (p := trn κ η) (lt := btr) (by assumption) (by assumption)]; rfl) | (rw [bst_n (p := trn κ η) (lt := btr) (by assumption)]; done) | (rw [bst_n (p := trn κ η) (lt := btr) (by assumption), ec_]; rfl) | (rw [bst_0 (p := trn κ η) (lt := btr) (by assumption) (by assumption)]; rfl) | (rw [bst_t (p := trn κ η) (lt := btr) (by assumption) (by assumption) (by assumption)]; rfl)
              · rfl
              · omega
              · omega
            · -- 92 f
              refine EV.l (lv' := [(0, _), (1, _), (2, _), (3, _), (4, _), (5, _)]) r_X8_leastTurn_95 rfl ?_
              refine EV.gR r_X8_leastTurn_96 la_89 ?_
              refine EV.l (lv' := [(0, _), (1, _), (2, _), (3, _), (4, _), (5, _)]) r_X8_leastTurn_99 rfl ?_
              refine EV.l (lv' := [(0, _), (1, _), (2, _), (3, _), (4, _), (5, _)]) r_X8_leastTurn_100 rfl ?_
              refine EV.o r_X8_leastTurn_102 iorN ?_
              refine EV.cv r_X8_leastTurn_103 (aV1 mt_22 la_4) (b_lean hc_ cb (by first | exact heard_lt _ | exact or_ltn (heard_lt _) (by omega)) (by omega)) ?_
              refine EV.z0_le r_X8_leastTurn_106 (fun h106 => ?_) (fun h106 => ?_)
              · -- 106 t
                have lz_ : trL κ η s = false := decide_eq_false (by omega)
                refine EV.o r_X8_leastTurn_113 (icN (0) (v := 0)) ?_
                refine EV.l (lv' := [(0, _), (1, _), (2, _), (3, _), (4, _), (5, _)]) r_X8_leastTurn_114 rfl ?_
                refine EV.n2_eq r_X8_leastTurn_115 (fun h115 => ?_) (fun h115 => ?_)
                · -- 115 t
                  have hp : trn κ η s = false := trn_eq (by rw [lz_]; exact h115)
                  refine EV.l (lv' := [(0, _), (1, _), (2, _), (3, _), (4, _), (5, _)]) r_X8_leastTurn_122 rfl ?_
                  rw [inc_nI]
                  refine EV.g r_X8_leastTurn_125 ?_
                  refine EV.sub ?_ rfl ?_ (ih58 (s + 1) ?_ ?_)
                  · first | (rw [bst_l (p := trn κ η) (lt := btr) (by assumption) (by assumption)]; rfl) | (rw [bst_n (p := trn κ η) (lt := btr) (by assumption)]; done) | (rw [bst_n (p := trn κ η) (lt := btr) (by assumption), ec_]; rfl) | (rw [bst_0 (p := trn κ η) (lt := btr) (by assumption) (by assumption)]; rfl) | (rw [bst_t (p := trn κ η) (lt := btr) (by assumption) (by assumption) (by assumption)]; rfl)
                  · rfl
                  · omega
                  · omega
                · -- 115 f
                  have hp : trn κ η s = true := trn_ne h76 (by rw [lz_]; exact h115)
                  refine EV.l (lv' := [(0, _), (1, _), (2, _), (3, _), (4, _), (5, _)]) r_X8_leastTurn_118 rfl ?_
                  refine EV.l (lv' := [(0, _), (1, _), (2, _), (3, _), (4, _), (5, _)]) r_X8_leastTurn_120 rfl ?_
                  refine EV.l (lv' := [(0, _), (1, _), (2, _), (3, _), (4, _), (5, _)]) r_X8_leastTurn_122 rfl ?_
                  rw [inc_nI]
                  refine EV.g r_X8_leastTurn_125 ?_
                  refine EV.sub ?_ rfl ?_ (ih58 (s + 1) ?_ ?_)
                  · first | (rw [bst_l (p := trn κ η) (lt := btr) (by assumption) (by assumption)]; rfl) | (rw [bst_n (p := trn κ η) (lt := btr) (by assumption)]; done) | (rw [bst_n (p := trn κ η) (lt := btr) (by assumption), ec_]; rfl) | (rw [bst_0 (p := trn κ η) (lt := btr) (by assumption) (by assumption)]; rfl) | (rw [bst_t (p := trn κ η) (lt := btr) (by assumption) (by assumption) (by assumption)]; rfl)
                  · rfl
                  · omega
                  · omega
              · -- 106 f
                have lz_ : trL κ η s = true := decide_eq_true (by omega)
                refine EV.o r_X8_leastTurn_109 (icN (1) (v := 1)) ?_
                refine EV.g r_X8_leastTurn_110 ?_
                refine EV.l (lv' := [(0, _), (1, _), (2, _), (3, _), (4, _), (5, _)]) r_X8_leastTurn_114 rfl ?_
                refine EV.n2_eq r_X8_leastTurn_115 (fun h115 => ?_) (fun h115 => ?_)
                · -- 115 t
                  have hp : trn κ η s = false := trn_eq (by rw [lz_]; exact h115)
                  refine EV.l (lv' := [(0, _), (1, _), (2, _), (3, _), (4, _), (5, _)]) r_X8_leastTurn_122 rfl ?_
                  rw [inc_nI]
                  refine EV.g r_X8_leastTurn_125 ?_
                  refine EV.sub ?_ rfl ?_ (ih58 (s + 1) ?_ ?_)
                  · first | (rw [bst_l (p := trn κ η) (lt := btr) (by assumption) (by assumption)]; rfl) | (rw [bst_n (p := trn κ η) (lt := btr) (by assumption)]; done) | (rw [bst_n (p := trn κ η) (lt := btr) (by assumption), ec_]; rfl) | (rw [bst_0 (p := trn κ η) (lt := btr) (by assumption) (by assumption)]; rfl) | (rw [bst_t (p := trn κ η) (lt := btr) (by assumption) (by assumption) (by assumption)]; rfl)
                  · rfl
                  · omega
                  · omega
                · -- 115 f
                  have hp : trn κ η s = true := trn_ne h76 (by rw [lz_]; exact h115)
                  refine EV.l (lv' := [(0, _), (1, _), (2, _), (3, _), (4, _), (5, _)]) r_X8_leastTurn_118 rfl ?_
                  refine EV.l (lv' := [(0, _), (1, _), (2, _), (3, _), (4, _), (5, _)]) r_X8_leastTurn_120 rfl ?_
                  refine EV.l (lv' := [(0, _), (1, _), (2, _), (3, _), (4, _), (5, _)]) r_X8_leastTurn_122 rfl ?_
                  rw [inc_nI]
                  refine EV.g r_X8_leastTurn_125 ?_
                  refine EV.sub ?_ rfl ?_ (ih58 (s + 1) ?_ ?_)
                  · first | (rw [bst_l (p := trn κ η) (lt := btr) (by assumption) (by assumption)]; rfl) | (rw [bst_n (p := trn κ η) (lt := btr) (by assumption)]; done) | (rw [bst_n (p := trn κ η) (lt := btr) (by assumption), ec_]; rfl) | (rw [bst_0 (p := trn κ η) (lt := btr) (by assumption) (by assumption)]; rfl) | (rw [bst_t (p := trn κ η) (lt := btr) (by assumption) (by assumption) (by assumption)]; rfl)
                  · rfl
                  · omega
                  · omega
    have h0 := L58 (0)
    try dsimp only at h0
    refine EV.sub ?_ rfl ?_ (h0 ?_)
    · rw [ab_]; rfl
    · rfl
    · omega
  · -- 43 f
    have ab_ : trA κ η = true := decide_eq_true (by omega)
    refine EV.o r_X8_leastTurn_46 (icN (1) (v := 1)) ?_
    refine EV.g r_X8_leastTurn_47 ?_
    refine EV.l (lv' := [(0, _), (1, _), (2, _), (3, _)]) r_X8_leastTurn_51 rfl ?_
    refine EV.o r_X8_leastTurn_52 (icZ (-1)) ?_
    refine EV.l (lv' := [(0, _), (1, _), (2, _), (3, _), (4, _)]) r_X8_leastTurn_53 rfl ?_
    refine EV.o r_X8_leastTurn_55 (icN (0) (v := 0)) ?_
    refine EV.l (lv' := [(0, _), (1, _), (2, _), (3, _), (4, _), (5, _)]) r_X8_leastTurn_56 rfl ?_
    have L58 : ∀ y_ : Nat, (fun s => s ≤ 2 ^ κ.ns → EV none M_X8_leastTurn d' 58 [(0, .ref 89), (1, .int (nI (heard κ η η.mi))), (2, .int (nI (trU κ η))), (3, .int (nI (trA κ η).toNat)), (4, .int (opI (bst (trn κ η) btr s))), (5, .int (nI s))] [] (hp I J) (QV I J (opI (bst (trn κ η) btr (2 ^ κ.ns))))) y_ := by
      refine ev_loop (fun s => 2 ^ κ.ns - s) ?_
      intro s ih58 hx58
      try dsimp only at ih58
      try dsimp only at hx58
      try dsimp only
      have lb1 := leanN_b (κ := κ) (x := clo κ (heard κ η η.mi ||| s)) cb.sw κ.ns; have ld : lean κ (heard κ η η.mi ||| s) = leanN κ (clo κ (heard κ η η.mi ||| s)) κ.ns := rfl
      have tb_ := bt_lt (trA κ η)
      have az := andc_lt (n := 10) (a := s) (b := trU κ η) (by omega)
      have ps1 := pc9_le s
      refine EV.l (lv' := [(0, _), (1, _), (2, _), (3, _), (4, _), (5, _)]) r_X8_leastTurn_58 rfl ?_
      refine EV.l (lv' := [(0, _), (1, _), (2, _), (3, _), (4, _), (5, _)]) r_X8_leastTurn_60 rfl ?_
      refine EV.gR r_X8_leastTurn_61 la_89 ?_
      refine EV.cv r_X8_leastTurn_64 (aV0 mt_14 la_4) (b_all hc_ cb (by omega)) ?_
      refine EV.n2_gt r_X8_leastTurn_67 (fun h67 => ?_) (fun h67 => ?_)
      · -- 67 t
        refine EV.l (lv' := [(0, _), (1, _), (2, _), (3, _), (4, _), (5, _)]) r_X8_leastTurn_128 rfl ?_
        exact EV.rv r_X8_leastTurn_130 (by rw [show s = 2 ^ κ.ns by omega])
      · -- 67 f
        refine EV.l (lv' := [(0, _), (1, _), (2, _), (3, _), (4, _), (5, _)]) r_X8_leastTurn_70 rfl ?_
        refine EV.l (lv' := [(0, _), (1, _), (2, _), (3, _), (4, _), (5, _)]) r_X8_leastTurn_72 rfl ?_
        refine EV.o r_X8_leastTurn_73 (icZ (-1)) ?_
        refine EV.o r_X8_leastTurn_74 inotN ?_
        refine EV.o r_X8_leastTurn_75 iandC ?_
        refine EV.n0_ne r_X8_leastTurn_76 (fun h76 => ?_) (fun h76 => ?_)
        · -- 76 t
          have hp : trn κ η s = false := trn_z h76
          refine EV.l (lv' := [(0, _), (1, _), (2, _), (3, _), (4, _), (5, _)]) r_X8_leastTurn_122 rfl ?_
          rw [inc_nI]
          refine EV.g r_X8_leastTurn_125 ?_
          refine EV.sub ?_ rfl ?_ (ih58 (s + 1) ?_ ?_)
          · first | (rw [bst_l (p := trn κ η) (lt := btr) (by assumption) (by assumption)]; rfl) | (rw [bst_n (p := trn κ η) (lt := btr) (by assumption)]; done) | (rw [bst_n (p := trn κ η) (lt := btr) (by assumption), ec_]; rfl) | (rw [bst_0 (p := trn κ η) (lt := btr) (by assumption) (by assumption)]; rfl) | (rw [bst_t (p := trn κ η) (lt := btr) (by assumption) (by assumption) (by assumption)]; rfl)
          · rfl
          · omega
          · omega
        · -- 76 f
          refine EV.l (lv' := [(0, _), (1, _), (2, _), (3, _), (4, _), (5, _)]) r_X8_leastTurn_79 rfl ?_
          refine EV.o r_X8_leastTurn_81 (icZ (-1)) ?_
          refine EV.op_eq r_X8_leastTurn_82 (fun h82 => ?_) (fun h82 => ?_) (fun c ec_ => by have := bst_lt2 ec_ (by omega : _ ≤ 2 ^ κ.ns); omega)
          · -- 82 t
            refine EV.l (lv' := [(0, _), (1, _), (2, _), (3, _), (4, _), (5, _)]) r_X8_leastTurn_95 rfl ?_
            refine EV.gR r_X8_leastTurn_96 la_89 ?_
            refine EV.l (lv' := [(0, _), (1, _), (2, _), (3, _), (4, _), (5, _)]) r_X8_leastTurn_99 rfl ?_
            refine EV.l (lv' := [(0, _), (1, _), (2, _), (3, _), (4, _), (5, _)]) r_X8_leastTurn_100 rfl ?_
            refine EV.o r_X8_leastTurn_102 iorN ?_
            refine EV.cv r_X8_leastTurn_103 (aV1 mt_22 la_4) (b_lean hc_ cb (by first | exact heard_lt _ | exact or_ltn (heard_lt _) (by omega)) (by omega)) ?_
            refine EV.z0_le r_X8_leastTurn_106 (fun h106 => ?_) (fun h106 => ?_)
            · -- 106 t
              have lz_ : trL κ η s = false := decide_eq_false (by omega)
              refine EV.o r_X8_leastTurn_113 (icN (0) (v := 0)) ?_
              refine EV.l (lv' := [(0, _), (1, _), (2, _), (3, _), (4, _), (5, _)]) r_X8_leastTurn_114 rfl ?_
              refine EV.n2_eq r_X8_leastTurn_115 (fun h115 => ?_) (fun h115 => ?_)
              · -- 115 t
                have hp : trn κ η s = false := trn_eq (by rw [lz_]; exact h115)
                refine EV.l (lv' := [(0, _), (1, _), (2, _), (3, _), (4, _), (5, _)]) r_X8_leastTurn_122 rfl ?_
                rw [inc_nI]
                refine EV.g r_X8_leastTurn_125 ?_
                refine EV.sub ?_ rfl ?_ (ih58 (s + 1) ?_ ?_)
                · first | (rw [bst_l (p := trn κ η) (lt := btr) (by assumption) (by assumption)]; rfl) | (rw [bst_n (p := trn κ η) (lt := btr) (by assumption)]; done) | (rw [bst_n (p := trn κ η) (lt := btr) (by assumption), ec_]; rfl) | (rw [bst_0 (p := trn κ η) (lt := btr) (by assumption) (by assumption)]; rfl) | (rw [bst_t (p := trn κ η) (lt := btr) (by assumption) (by assumption) (by assumption)]; rfl)
                · rfl
                · omega
                · omega
              · -- 115 f
                have hp : trn κ η s = true := trn_ne h76 (by rw [lz_]; exact h115)
                refine EV.l (lv' := [(0, _), (1, _), (2, _), (3, _), (4, _), (5, _)]) r_X8_leastTurn_118 rfl ?_
                refine EV.l (lv' := [(0, _), (1, _), (2, _), (3, _), (4, _), (5, _)]) r_X8_leastTurn_120 rfl ?_
                refine EV.l (lv' := [(0, _), (1, _), (2, _), (3, _), (4, _), (5, _)]) r_X8_leastTurn_122 rfl ?_
                rw [inc_nI]
                refine EV.g r_X8_leastTurn_125 ?_
                refine EV.sub ?_ rfl ?_ (ih58 (s + 1) ?_ ?_)
                · first | (rw [bst_l (p := trn κ η) (lt := btr) (by assumption) (by assumption)]; rfl) | (rw [bst_n (p := trn κ η) (lt := btr) (by assumption)]; done) | (rw [bst_n (p := trn κ η) (lt := btr) (by assumption), ec_]; rfl) | (rw [bst_0 (p := trn κ η) (lt := btr) (by assumption) (by assumption)]; rfl) | (rw [bst_t (p := trn κ η) (lt := btr) (by assumption) (by assumption) (by assumption)]; rfl)
                · rfl
                · omega
                · omega
            · -- 106 f
              have lz_ : trL κ η s = true := decide_eq_true (by omega)
              refine EV.o r_X8_leastTurn_109 (icN (1) (v := 1)) ?_
              refine EV.g r_X8_leastTurn_110 ?_
              refine EV.l (lv' := [(0, _), (1, _), (2, _), (3, _), (4, _), (5, _)]) r_X8_leastTurn_114 rfl ?_
              refine EV.n2_eq r_X8_leastTurn_115 (fun h115 => ?_) (fun h115 => ?_)
              · -- 115 t
                have hp : trn κ η s = false := trn_eq (by rw [lz_]; exact h115)
                refine EV.l (lv' := [(0, _), (1, _), (2, _), (3, _), (4, _), (5, _)]) r_X8_leastTurn_122 rfl ?_
                rw [inc_nI]
                refine EV.g r_X8_leastTurn_125 ?_
                refine EV.sub ?_ rfl ?_ (ih58 (s + 1) ?_ ?_)
                · first | (rw [bst_l (p := trn κ η) (lt := btr) (by assumption) (by assumption)]; rfl) | (rw [bst_n (p := trn κ η) (lt := btr) (by assumption)]; done) | (rw [bst_n (p := trn κ η) (lt := btr) (by assumption), ec_]; rfl) | (rw [bst_0 (p := trn κ η) (lt := btr) (by assumption) (by assumption)]; rfl) | (rw [bst_t (p := trn κ η) (lt := btr) (by assumption) (by assumption) (by assumption)]; rfl)
                · rfl
                · omega
                · omega
              · -- 115 f
                have hp : trn κ η s = true := trn_ne h76 (by rw [lz_]; exact h115)
                refine EV.l (lv' := [(0, _), (1, _), (2, _), (3, _), (4, _), (5, _)]) r_X8_leastTurn_118 rfl ?_
                refine EV.l (lv' := [(0, _), (1, _), (2, _), (3, _), (4, _), (5, _)]) r_X8_leastTurn_120 rfl ?_
                refine EV.l (lv' := [(0, _), (1, _), (2, _), (3, _), (4, _), (5, _)]) r_X8_leastTurn_122 rfl ?_
                rw [inc_nI]
                refine EV.g r_X8_leastTurn_125 ?_
                refine EV.sub ?_ rfl ?_ (ih58 (s + 1) ?_ ?_)
                · first | (rw [bst_l (p := trn κ η) (lt := btr) (by assumption) (by assumption)]; rfl) | (rw [bst_n (p := trn κ η) (lt := btr) (by assumption)]; done) | (rw [bst_n (p := trn κ η) (lt := btr) (by assumption), ec_]; rfl) | (rw [bst_0 (p := trn κ η) (lt := btr) (by assumption) (by assumption)]; rfl) | (rw [bst_t (p := trn κ η) (lt := btr) (by assumption) (by assumption) (by assumption)]; rfl)
                · rfl
                · omega
                · omega
          · -- 82 f
            obtain ⟨c, ec_⟩ := h82
            rw [ec_, opI_some]
            have bc_ := bst_lt2 ec_ (by omega : _ ≤ 2 ^ κ.ns)
            have pc1 := pc9_le c
            refine EV.l (lv' := [(0, _), (1, _), (2, _), (3, _), (4, _), (5, _)]) r_X8_leastTurn_85 rfl ?_
            refine EV.l (lv' := [(0, _), (1, _), (2, _), (3, _), (4, _), (5, _)]) r_X8_leastTurn_87 rfl ?_
            refine EV.cv r_X8_leastTurn_89 (aS2 mt_102) (c_better (by omega) (by omega) (by omega)) ?_
            refine EV.b0_eq r_X8_leastTurn_92 (fun h92 => ?_) (fun h92 => ?_)
            · -- 92 t
              refine EV.l (lv' := [(0, _), (1, _), (2, _), (3, _), (4, _), (5, _)]) r_X8_leastTurn_122 rfl ?_
              rw [inc_nI]
              refine EV.g r_X8_leastTurn_125 ?_
              refine EV.sub ?_ rfl ?_ (ih58 (s + 1) ?_ ?_)
              · first | (rw [bst_l (p := trn κ η) (lt := btr) (by assumption) (by assumption)]; rfl) | (rw [bst_n (p := trn κ η) (lt := btr) (by assumption)]; done) | (rw [bst_n (p := trn κ η) (lt := btr) (by assumption), ec_]; rfl) | (rw [bst_0 (p := trn κ η) (lt := btr) (by assumption) (by assumption)]; rfl) | (rw [bst_t (p := trn κ η) (lt := btr) (by assumption) (by assumption) (by assumption)]; rfl)
              · rfl
              · omega
              · omega
            · -- 92 f
              refine EV.l (lv' := [(0, _), (1, _), (2, _), (3, _), (4, _), (5, _)]) r_X8_leastTurn_95 rfl ?_
              refine EV.gR r_X8_leastTurn_96 la_89 ?_
              refine EV.l (lv' := [(0, _), (1, _), (2, _), (3, _), (4, _), (5, _)]) r_X8_leastTurn_99 rfl ?_
              refine EV.l (lv' := [(0, _), (1, _), (2, _), (3, _), (4, _), (5, _)]) r_X8_leastTurn_100 rfl ?_
              refine EV.o r_X8_leastTurn_102 iorN ?_
              refine EV.cv r_X8_leastTurn_103 (aV1 mt_22 la_4) (b_lean hc_ cb (by first | exact heard_lt _ | exact or_ltn (heard_lt _) (by omega)) (by omega)) ?_
              refine EV.z0_le r_X8_leastTurn_106 (fun h106 => ?_) (fun h106 => ?_)
              · -- 106 t
                have lz_ : trL κ η s = false := decide_eq_false (by omega)
                refine EV.o r_X8_leastTurn_113 (icN (0) (v := 0)) ?_
                refine EV.l (lv' := [(0, _), (1, _), (2, _), (3, _), (4, _), (5, _)]) r_X8_leastTurn_114 rfl ?_
                refine EV.n2_eq r_X8_leastTurn_115 (fun h115 => ?_) (fun h115 => ?_)
                · -- 115 t
                  have hp : trn κ η s = false := trn_eq (by rw [lz_]; exact h115)
                  refine EV.l (lv' := [(0, _), (1, _), (2, _), (3, _), (4, _), (5, _)]) r_X8_leastTurn_122 rfl ?_
                  rw [inc_nI]
                  refine EV.g r_X8_leastTurn_125 ?_
                  refine EV.sub ?_ rfl ?_ (ih58 (s + 1) ?_ ?_)
                  · first | (rw [bst_l (p := trn κ η) (lt := btr) (by assumption) (by assumption)]; rfl) | (rw [bst_n (p := trn κ η) (lt := btr) (by assumption)]; done) | (rw [bst_n (p := trn κ η) (lt := btr) (by assumption), ec_]; rfl) | (rw [bst_0 (p := trn κ η) (lt := btr) (by assumption) (by assumption)]; rfl) | (rw [bst_t (p := trn κ η) (lt := btr) (by assumption) (by assumption) (by assumption)]; rfl)
                  · rfl
                  · omega
                  · omega
                · -- 115 f
                  have hp : trn κ η s = true := trn_ne h76 (by rw [lz_]; exact h115)
                  refine EV.l (lv' := [(0, _), (1, _), (2, _), (3, _), (4, _), (5, _)]) r_X8_leastTurn_118 rfl ?_
                  refine EV.l (lv' := [(0, _), (1, _), (2, _), (3, _), (4, _), (5, _)]) r_X8_leastTurn_120 rfl ?_
                  refine EV.l (lv' := [(0, _), (1, _), (2, _), (3, _), (4, _), (5, _)]) r_X8_leastTurn_122 rfl ?_
                  rw [inc_nI]
                  refine EV.g r_X8_leastTurn_125 ?_
                  refine EV.sub ?_ rfl ?_ (ih58 (s + 1) ?_ ?_)
                  · first | (rw [bst_l (p := trn κ η) (lt := btr) (by assumption) (by assumption)]; rfl) | (rw [bst_n (p := trn κ η) (lt := btr) (by assumption)]; done) | (rw [bst_n (p := trn κ η) (lt := btr) (by assumption), ec_]; rfl) | (rw [bst_0 (p := trn κ η) (lt := btr) (by assumption) (by assumption)]; rfl) | (rw [bst_t (p := trn κ η) (lt := btr) (by assumption) (by assumption) (by assumption)]; rfl)
                  · rfl
                  · omega
                  · omega
              · -- 106 f
                have lz_ : trL κ η s = true := decide_eq_true (by omega)
                refine EV.o r_X8_leastTurn_109 (icN (1) (v := 1)) ?_
                refine EV.g r_X8_leastTurn_110 ?_
                refine EV.l (lv' := [(0, _), (1, _), (2, _), (3, _), (4, _), (5, _)]) r_X8_leastTurn_114 rfl ?_
                refine EV.n2_eq r_X8_leastTurn_115 (fun h115 => ?_) (fun h115 => ?_)
                · -- 115 t
                  have hp : trn κ η s = false := trn_eq (by rw [lz_]; exact h115)
                  refine EV.l (lv' := [(0, _), (1, _), (2, _), (3, _), (4, _), (5, _)]) r_X8_leastTurn_122 rfl ?_
                  rw [inc_nI]
                  refine EV.g r_X8_leastTurn_125 ?_
                  refine EV.sub ?_ rfl ?_ (ih58 (s + 1) ?_ ?_)
                  · first | (rw [bst_l (p := trn κ η) (lt := btr) (by assumption) (by assumption)]; rfl) | (rw [bst_n (p := trn κ η) (lt := btr) (by assumption)]; done) | (rw [bst_n (p := trn κ η) (lt := btr) (by assumption), ec_]; rfl) | (rw [bst_0 (p := trn κ η) (lt := btr) (by assumption) (by assumption)]; rfl) | (rw [bst_t (p := trn κ η) (lt := btr) (by assumption) (by assumption) (by assumption)]; rfl)
                  · rfl
                  · omega
                  · omega
                · -- 115 f
                  have hp : trn κ η s = true := trn_ne h76 (by rw [lz_]; exact h115)
                  refine EV.l (lv' := [(0, _), (1, _), (2, _), (3, _), (4, _), (5, _)]) r_X8_leastTurn_118 rfl ?_
                  refine EV.l (lv' := [(0, _), (1, _), (2, _), (3, _), (4, _), (5, _)]) r_X8_leastTurn_120 rfl ?_
                  refine EV.l (lv' := [(0, _), (1, _), (2, _), (3, _), (4, _), (5, _)]) r_X8_leastTurn_122 rfl ?_
                  rw [inc_nI]
                  refine EV.g r_X8_leastTurn_125 ?_
                  refine EV.sub ?_ rfl ?_ (ih58 (s + 1) ?_ ?_)
                  · first | (rw [bst_l (p := trn κ η) (lt := btr) (by assumption) (by assumption)]; rfl) | (rw [bst_n (p := trn κ η) (lt := btr) (by assumption)]; done) | (rw [bst_n (p := trn κ η) (lt := btr) (by assumption), ec_]; rfl) | (rw [bst_0 (p := trn κ η) (lt := btr) (by assumption) (by assumption)]; rfl) | (rw [bst_t (p := trn κ η) (lt := btr) (by assumption) (by assumption) (by assumption)]; rfl)
                  · rfl
                  · omega
                  · omega
    have h0 := L58 (0)
    try dsimp only at h0
    refine EV.sub ?_ rfl ?_ (h0 ?_)
    · rw [ab_]; rfl
    · rfl
    · omega
theorem c_turn {d : Nat} {I : Nat → Nat → Int32} {J : Nat → Nat → Int64} {κ : CT} {η : HS} (hc_ : HC 4 κ I) (cb : CB κ) (hh : HH 71 η I) (hb_ : HB κ η) (hw : HW κ η)  (hd : 11 ≤ d) : RV d 131 [.ref 0] I J (opI (bst (trn κ η) btr (2 ^ κ.ns))) := by
  refine RV.in (d0 := 10) hd mt_131 (Nat.le_of_ble_eq_true rfl) (fun d' hd' => ?_)
  have bns := cb.ns; have bnb := cb.nb; have bnc := cb.nc; have bnr := cb.nr
  have bm_ := hb_.mi
  show EV none M_X10_turn d' 0 [(0, .ref 0)] [] (hp I J) _
  refine EV.l (lv' := [(0, _)]) r_X10_turn_0 rfl ?_
  refine EV.gR r_X10_turn_1 la_0 ?_
  refine EV.cv r_X10_turn_4 (aV0 mt_101 la_89) (c_lturn hc_ cb hh hb_ hw (by omega)) ?_
  exact EV.rv r_X10_turn_7 (rfl)
