/-! FITS and LOOK. -/
section FT
variable {κ : CT} {l : LW} {η : HS} {bt br i j : Nat}
theorem ftC_t (h : ftB κ l η bt br i = true) : ftC κ l η bt br i + 1 = ftC κ l η bt br (i + 1) := by show _ = _ + _; dsimp only; rw [h]; rfl
theorem ftC_f (h : ftB κ l η bt br i = false) : ftC κ l η bt br i = ftC κ l η bt br (i + 1) := by show _ = _ + _; dsimp only; rw [h]; rfl
theorem ftJ_t (h : ftB κ l η bt br i = true) (h2 : (cby κ l η i).testBit j = true) : ftJ κ l η bt br j i + 1 = ftJ κ l η bt br j (i + 1) := by show _ = _ + _; dsimp only; rw [h, h2]; rfl
theorem ftJ_g (h2 : (cby κ l η i).testBit j = false) : ftJ κ l η bt br j i = ftJ κ l η bt br j (i + 1) := by show _ = _ + _; dsimp only; rw [h2, Bool.and_false]; rfl
theorem ftJ_f (h : ftB κ l η bt br i = false) : ftJ κ l η bt br j i = ftJ κ l η bt br j (i + 1) := by show _ = _ + _; dsimp only; rw [h]; rfl
theorem ftC_le : ftC κ l η bt br i ≤ i := sumB_le (fun i => ftB κ l η bt br i) i
theorem ftJ_le : ftJ κ l η bt br j i ≤ i := sumB_le (fun i => ftB κ l η bt br i && (cby κ l η i).testBit j) i
theorem ftJ_C : ftJ κ l η bt br j i ≤ ftC κ l η bt br i := by
  induction i with
  | zero => exact Nat.le_refl _
  | succ i ih =>
    cases h : ftB κ l η bt br i with
    | false => rw [← ftJ_f h, ← ftC_f h]; exact ih
    | true =>
      rw [← ftC_t h]
      cases h2 : (cby κ l η i).testBit j with
      | false => rw [← ftJ_g h2]; omega
      | true => rw [← ftJ_t h h2]; omega
theorem cby_at {b n : Nat} (hn : n < 10) : andc (2 ^ κ.ns - 1) (ors κ l η b κ.nb ||| ovr κ l η b n) = cby κ l η (10 * b + n) := by
  unfold cby
  rw [show (10 * b + n) / 10 = b by omega, show (10 * b + n) % 10 = n by omega]
def plM (κ : CT) (l : LW) (η : HS) (bt br k : Nat) : Nat := max (ftJ κ l η bt br k (10 * κ.nb)) (ftC κ l η bt br (10 * κ.nb) - ftJ κ l η bt br k (10 * κ.nb))
theorem plM_le (cb : CB κ) : plM κ l η bt br j ≤ 40 := by
  have h1 := ftJ_le (κ := κ) (l := l) (η := η) (bt := bt) (br := br) (j := j) (i := 10 * κ.nb)
  have h2 := ftC_le (κ := κ) (l := l) (η := η) (bt := bt) (br := br) (i := 10 * κ.nb)
  have := cb.nb
  unfold plM
  omega
def lkP (bt k : Nat) : Bool := !bt.testBit k
def lkL (κ : CT) (l : LW) (η : HS) (bt br k b : Nat) : Bool := decide (plM κ l η bt br k < plM κ l η bt br b)
def lkO (κ : CT) (l : LW) (η : HS) (bt br n : Nat) : Option Nat := bst (lkP bt) (lkL κ l η bt br) n
def lkV (κ : CT) (l : LW) (η : HS) (bt br : Nat) (o : Option Nat) : Int32 := match o with
  | none => zI (-1)
  | some b => nI (plM κ l η bt br b)
theorem lkP_t {k : Nat} (h : bt.testBit k = false) : lkP bt k = true := by unfold lkP; rw [h]; rfl
theorem lkP_f {k : Nat} (h : bt.testBit k = true) : lkP bt k = false := by unfold lkP; rw [h]; rfl
theorem wp_get {n : Nat} {I : Nat → Nat → Int32} (wp_ : WP κ l η bt br n I) {k : Nat} (hk : k < κ.ns) : I 93 k = nI (ftJ κ l η bt br k n) := wp_.j k hk
def ifM (c bt br : Nat) : Nat → Bool
  | 0 => true
  | k + 1 => ifM c bt br k && (!bt.testBit k || (c.testBit k == br.testBit k))
def bkO (bt br k : Nat) : Option Nat := if bt.testBit k = true then some (br.testBit k).toNat else none
theorem bkO_I {bt br k : Nat} : (if bt.testBit k = true then nI (br.testBit k).toNat else zI (-1)) = opI (bkO bt br k) := by
  unfold bkO
  split <;> rfl
theorem bkO_n {bt br k : Nat} (h : bkO bt br k = none) : bt.testBit k = false := by
  unfold bkO at h
  split at h
  · cases h
  · rename_i h2; simpa using h2
theorem bkO_s {bt br k c : Nat} (h : bkO bt br k = some c) : bt.testBit k = true ∧ c = (br.testBit k).toNat := by
  unfold bkO at h
  split at h
  · rename_i h2; cases h; exact ⟨h2, rfl⟩
  · cases h
theorem bkO_lt {bt br k c : Nat} (h : bkO bt br k = some c) : c < 2 := by rw [(bkO_s h).2]; cases br.testBit k <;> decide
theorem ifM_f {c bt br k : Nat} (h : ifM c bt br k = false) : bI false = bI (ifM c bt br (k + 1)) := by
  have e : ifM c bt br (k + 1) = (ifM c bt br k && _) := rfl
  rw [e, h]; rfl
theorem ifM_n {c bt br k : Nat} (h : ifM c bt br k = true) (h2 : bkO bt br k = none) : bI true = bI (ifM c bt br (k + 1)) := by
  have e : ifM c bt br (k + 1) = (ifM c bt br k && (!bt.testBit k || (c.testBit k == br.testBit k))) := rfl
  rw [e, h, bkO_n h2]; rfl
theorem ifM_e {c bt br k d : Nat} (h : ifM c bt br k = true) (h2 : bkO bt br k = some d) (h3 : (c.testBit k).toNat = d) : bI true = bI (ifM c bt br (k + 1)) := by
  have e : ifM c bt br (k + 1) = (ifM c bt br k && (!bt.testBit k || (c.testBit k == br.testBit k))) := rfl
  obtain ⟨a, b⟩ := bkO_s h2
  rw [b] at h3
  rw [e, h, a]
  cases q : c.testBit k <;> cases r : br.testBit k <;> rw [q, r] at h3 <;> first | rfl | cases h3
theorem ifM_d {c bt br k d : Nat} (h2 : bkO bt br k = some d) (h3 : ¬ (c.testBit k).toNat = d) : bI false = bI (ifM c bt br (k + 1)) := by
  have e : ifM c bt br (k + 1) = (ifM c bt br k && (!bt.testBit k || (c.testBit k == br.testBit k))) := rfl
  obtain ⟨a, b⟩ := bkO_s h2
  rw [b] at h3
  rw [e, a]
  cases q : c.testBit k <;> cases r : br.testBit k <;> rw [q, r] at h3 <;> first | exact absurd rfl h3 | (cases ifM c bt br k <;> rfl)
theorem ifM_all {c bt br : Nat} : ∀ n, ifM c bt br n = true ↔ ∀ k, k < n → bt.testBit k = true → c.testBit k = br.testBit k
  | 0 => ⟨fun _ k hk => absurd hk (Nat.not_lt_zero k), fun _ => rfl⟩
  | n + 1 => by
    have ih := ifM_all (c := c) (bt := bt) (br := br) n
    show (ifM c bt br n && (!bt.testBit n || (c.testBit n == br.testBit n))) = true ↔ _
    rw [Bool.and_eq_true, ih]
    constructor
    · rintro ⟨h1, h2⟩ k hk hb_
      by_cases e : k = n
      · subst e
        rw [hb_] at h2
        simpa using h2
      · exact h1 k (by omega) hb_
    · intro h
      refine ⟨fun k hk hb_ => h k (by omega) hb_, ?_⟩
      cases hb_ : bt.testBit n with
      | false => rfl
      | true => rw [h n (by omega) hb_]; simp
theorem ifM_eq {c n : Nat} (hb_ : bt < 2 ^ n) (hr : br &&& bt = br) : ifM c bt br n = decide (c &&& bt = br) := by
  rw [Bool.eq_iff_iff, ifM_all, decide_eq_true_iff]
  constructor
  · intro h
    refine Nat.eq_of_testBit_eq fun k => ?_
    rw [Nat.testBit_and]
    have hr2 : br.testBit k = (br.testBit k && bt.testBit k) := by rw [← Nat.testBit_and, hr]
    cases hk : bt.testBit k with
    | false => rw [Bool.and_false, hr2, hk, Bool.and_false]
    | true =>
      rw [Bool.and_true]
      refine h k ?_ hk
      refine Nat.lt_of_not_le fun hn => ?_
      rw [Nat.testBit_lt_two_pow (Nat.lt_of_lt_of_le hb_ (Nat.pow_le_pow_right (by decide) hn))] at hk
      cases hk
  · intro h k _ hk
    rw [← h, Nat.testBit_and, hk, Bool.and_true]
def lsI (κ : CT) (l : LW) (η : HS) (bt br n : Nat) : Int32 := lkV κ l η bt br (lkO κ l η bt br n)
theorem ftJ_not {j : Nat} : sumN (fun i => (ftB κ l η bt br i).toNat * (1 - ((cby κ l η i).testBit j).toNat)) i = ftC κ l η bt br i - ftJ κ l η bt br j i := by
  induction i with
  | zero => rfl
  | succ i ih =>
    have hc_ := ftJ_C (κ := κ) (l := l) (η := η) (bt := bt) (br := br) (j := j) (i := i)
    show sumN _ i + (ftB κ l η bt br i).toNat * (1 - ((cby κ l η i).testBit j).toNat) = _
    rw [ih]
    cases h : ftB κ l η bt br i with
    | false => rw [← ftJ_f h, ← ftC_f h]; simp
    | true =>
      rw [← ftC_t h]
      cases h2 : (cby κ l η i).testBit j with
      | false => rw [← ftJ_g h2]; simp; omega
      | true => rw [← ftJ_t h h2]; simp
def ftK (κ : CT) (l : LW) (η : HS) (bt br j n : Nat) : Nat := sumN (fun i => (ftB κ l η bt br i).toNat * (1 - ((cby κ l η i).testBit j).toNat)) n
theorem ftK_t (h : ftB κ l η bt br i = true) : ftK κ l η bt br j i + (1 - ((cby κ l η i).testBit j).toNat) = ftK κ l η bt br j (i + 1) := by show _ = _ + _; dsimp only; rw [h]; simp; rfl
theorem ftK_f (h : ftB κ l η bt br i = false) : ftK κ l η bt br j i = ftK κ l η bt br j (i + 1) := by show _ = _ + _; dsimp only; rw [h]; simp; rfl
theorem ftJ_b (h : ftB κ l η bt br i = true) : ftJ κ l η bt br j i + ((cby κ l η i).testBit j).toNat = ftJ κ l η bt br j (i + 1) := by
  cases h2 : (cby κ l η i).testBit j with
  | false => rw [← ftJ_g h2]; rfl
  | true => rw [← ftJ_t h h2]; rfl
theorem plM_K : plM κ l η bt br j = max (ftJ κ l η bt br j (10 * κ.nb)) (ftK κ l η bt br j (10 * κ.nb)) := by unfold plM; rw [← ftJ_not]; rfl
theorem ftK_le : ftK κ l η bt br j i ≤ i := by
  have h := ftJ_not (κ := κ) (l := l) (η := η) (bt := bt) (br := br) (j := j) (i := i)
  have h2 := ftC_le (κ := κ) (l := l) (η := η) (bt := bt) (br := br) (i := i)
  have e : ftK κ l η bt br j i = ftC κ l η bt br i - ftJ κ l η bt br j i := h
  omega
end FT
theorem FR.sc {I I' : Nat → Nat → Int32} (h : ∀ o, o ≠ 50 → o ≠ 52 → o ≠ 89 → o ≠ 91 → o ≠ 93 → I' o = I o) : FR I I' := ⟨fun j _ => by rw [h 106 (by decide) (by decide) (by decide) (by decide) (by decide)], fun o _ hs => h o (fun e => by subst e; exact absurd hs (by decide)) (fun e => by subst e; exact absurd hs (by decide)) (fun e => by subst e; exact absurd hs (by decide)) (fun e => by subst e; exact absurd hs (by decide)) (fun e => by subst e; exact absurd hs (by decide))⟩
theorem cj_put {κ : CT} {l : LW} {η : HS} {bt br i j : Nat} {I : Nat → Nat → Int32} (h : ∀ k, k < κ.ns → I 93 k = nI (if k < j then ftJ κ l η bt br k (i + 1) else ftJ κ l η bt br k i)) (hf : ftB κ l η bt br i = true) (ht : (cby κ l η i).testBit j = true) : ∀ k, k < κ.ns → wr I 93 j (nI (ftJ κ l η bt br j i + 1)) 93 k = nI (if k < j + 1 then ftJ κ l η bt br k (i + 1) else ftJ κ l η bt br k i) := by
  intro k hk
  by_cases e : k = j
  · subst e
    rw [wr_same, if_pos (Nat.lt_succ_self k), ftJ_t hf ht]
  · rw [wr_ne (Or.inr e), h k hk]
    by_cases h2 : k < j
    · rw [if_pos h2, if_pos (by omega)]
    · rw [if_neg h2, if_neg (by omega)]
theorem cj_skip {κ : CT} {l : LW} {η : HS} {bt br i j : Nat} {I : Nat → Nat → Int32} (h : ∀ k, k < κ.ns → I 93 k = nI (if k < j then ftJ κ l η bt br k (i + 1) else ftJ κ l η bt br k i)) (ht : (cby κ l η i).testBit j = false) : ∀ k, k < κ.ns → I 93 k = nI (if k < j + 1 then ftJ κ l η bt br k (i + 1) else ftJ κ l η bt br k i) := by
  intro k hk
  rw [h k hk]
  by_cases e : k = j
  · subst e
    rw [if_neg (Nat.lt_irrefl k), if_pos (Nat.lt_succ_self k), ftJ_g ht]
  · by_cases h2 : k < j
    · rw [if_pos h2, if_pos (by omega)]
    · rw [if_neg h2, if_neg (by omega)]
theorem r_X10_fits_0 : RW M_X10_fits 0 (.aload_n 0) 1 0 0 1 := ⟨rfl, rfl⟩
theorem r_X10_fits_1 : RW M_X10_fits 1 (.iload_n 1) 1 0 0 2 := ⟨rfl, rfl⟩
theorem r_X10_fits_2 : RW M_X10_fits 2 (.ifCond .eq 8) 3 10 0 5 := ⟨rfl, rfl⟩
theorem r_X10_fits_5 : RW M_X10_fits 5 (.iload_n 1) 1 0 0 6 := ⟨rfl, rfl⟩
theorem r_X10_fits_6 : RW M_X10_fits 6 (.iconst 1) 1 0 0 7 := ⟨rfl, rfl⟩
theorem r_X10_fits_7 : RW M_X10_fits 7 (.if_icmp .ne 7) 3 14 0 10 := ⟨rfl, rfl⟩
theorem r_X10_fits_10 : RW M_X10_fits 10 (.iconst 1) 1 0 0 11 := ⟨rfl, rfl⟩
theorem r_X10_fits_11 : RW M_X10_fits 11 (.goto 4) 3 15 0 14 := ⟨rfl, rfl⟩
theorem r_X10_fits_14 : RW M_X10_fits 14 (.iconst 0) 1 0 0 15 := ⟨rfl, rfl⟩
theorem r_X10_fits_15 : RW M_X10_fits 15 (.invokevirtual 175) 3 159 0 18 := ⟨rfl, rfl⟩
theorem r_X10_fits_18 : RW M_X10_fits 18 (.aload_n 0) 1 0 0 19 := ⟨rfl, rfl⟩
theorem r_X10_fits_19 : RW M_X10_fits 19 (.getfield 74) 3 10 10 22 := ⟨rfl, rfl⟩
theorem r_X10_fits_22 : RW M_X10_fits 22 (.invokevirtual 282) 3 103 0 25 := ⟨rfl, rfl⟩
theorem r_X10_fits_25 : RW M_X10_fits 25 (.iload_n 1) 1 0 0 26 := ⟨rfl, rfl⟩
theorem r_X10_fits_26 : RW M_X10_fits 26 (.ifCond .ne 13) 3 39 0 29 := ⟨rfl, rfl⟩
theorem r_X10_fits_29 : RW M_X10_fits 29 (.aload_n 0) 1 0 0 30 := ⟨rfl, rfl⟩
theorem r_X10_fits_30 : RW M_X10_fits 30 (.getfield 74) 3 10 10 33 := ⟨rfl, rfl⟩
theorem r_X10_fits_33 : RW M_X10_fits 33 (.getfield 285) 3 8 8 36 := ⟨rfl, rfl⟩
theorem r_X10_fits_36 : RW M_X10_fits 36 (.goto 10) 3 46 0 39 := ⟨rfl, rfl⟩
theorem r_X10_fits_39 : RW M_X10_fits 39 (.aload_n 0) 1 0 0 40 := ⟨rfl, rfl⟩
theorem r_X10_fits_40 : RW M_X10_fits 40 (.getfield 74) 3 10 10 43 := ⟨rfl, rfl⟩
theorem r_X10_fits_43 : RW M_X10_fits 43 (.getfield 288) 3 8 9 46 := ⟨rfl, rfl⟩
theorem r_X10_fits_46 : RW M_X10_fits 46 (.ireturn) 1 0 0 47 := ⟨rfl, rfl⟩
theorem r_X10_look_0 : RW M_X10_look 0 (.aload_n 0) 1 0 0 1 := ⟨rfl, rfl⟩
theorem r_X10_look_1 : RW M_X10_look 1 (.iload_n 1) 1 0 0 2 := ⟨rfl, rfl⟩
theorem r_X10_look_2 : RW M_X10_look 2 (.ifCond .eq 8) 3 10 0 5 := ⟨rfl, rfl⟩
theorem r_X10_look_5 : RW M_X10_look 5 (.iload_n 1) 1 0 0 6 := ⟨rfl, rfl⟩
theorem r_X10_look_6 : RW M_X10_look 6 (.iconst 1) 1 0 0 7 := ⟨rfl, rfl⟩
theorem r_X10_look_7 : RW M_X10_look 7 (.if_icmp .ne 7) 3 14 0 10 := ⟨rfl, rfl⟩
theorem r_X10_look_10 : RW M_X10_look 10 (.iconst 1) 1 0 0 11 := ⟨rfl, rfl⟩
theorem r_X10_look_11 : RW M_X10_look 11 (.goto 4) 3 15 0 14 := ⟨rfl, rfl⟩
theorem r_X10_look_14 : RW M_X10_look 14 (.iconst 0) 1 0 0 15 := ⟨rfl, rfl⟩
theorem r_X10_look_15 : RW M_X10_look 15 (.invokevirtual 175) 3 159 0 18 := ⟨rfl, rfl⟩
theorem r_X10_look_18 : RW M_X10_look 18 (.aload_n 0) 1 0 0 19 := ⟨rfl, rfl⟩
theorem r_X10_look_19 : RW M_X10_look 19 (.getfield 74) 3 10 10 22 := ⟨rfl, rfl⟩
theorem r_X10_look_22 : RW M_X10_look 22 (.invokevirtual 282) 3 103 0 25 := ⟨rfl, rfl⟩
theorem r_X10_look_25 : RW M_X10_look 25 (.aload_n 0) 1 0 0 26 := ⟨rfl, rfl⟩
theorem r_X10_look_26 : RW M_X10_look 26 (.getfield 74) 3 10 10 29 := ⟨rfl, rfl⟩
theorem r_X10_look_29 : RW M_X10_look 29 (.invokevirtual 291) 3 107 0 32 := ⟨rfl, rfl⟩
theorem r_X10_look_32 : RW M_X10_look 32 (.istore_n 2) 1 0 0 33 := ⟨rfl, rfl⟩
theorem r_X10_look_33 : RW M_X10_look 33 (.iload_n 1) 1 0 0 34 := ⟨rfl, rfl⟩
theorem r_X10_look_34 : RW M_X10_look 34 (.ifCond .eq 8) 3 42 0 37 := ⟨rfl, rfl⟩
theorem r_X10_look_37 : RW M_X10_look 37 (.iload_n 2) 1 0 0 38 := ⟨rfl, rfl⟩
theorem r_X10_look_38 : RW M_X10_look 38 (.iconst (-1)) 1 0 0 39 := ⟨rfl, rfl⟩
theorem r_X10_look_39 : RW M_X10_look 39 (.if_icmp .ne 7) 3 46 0 42 := ⟨rfl, rfl⟩
theorem r_X10_look_42 : RW M_X10_look 42 (.iload_n 2) 1 0 0 43 := ⟨rfl, rfl⟩
theorem r_X10_look_43 : RW M_X10_look 43 (.goto 11) 3 54 0 46 := ⟨rfl, rfl⟩
theorem r_X10_look_46 : RW M_X10_look 46 (.aload_n 0) 1 0 0 47 := ⟨rfl, rfl⟩
theorem r_X10_look_47 : RW M_X10_look 47 (.getfield 74) 3 10 10 50 := ⟨rfl, rfl⟩
theorem r_X10_look_50 : RW M_X10_look 50 (.iload_n 2) 1 0 0 51 := ⟨rfl, rfl⟩
theorem r_X10_look_51 : RW M_X10_look 51 (.invokevirtual 294) 3 106 0 54 := ⟨rfl, rfl⟩
theorem r_X10_look_54 : RW M_X10_look 54 (.ireturn) 1 0 0 55 := ⟨rfl, rfl⟩
theorem r_X11_fits_22 : RW M_X11_fits 22 (.aload_n 0) 1 0 0 23 := ⟨rfl, rfl⟩
theorem r_X11_fits_23 : RW M_X11_fits 23 (.invokevirtual 425) 3 252 0 26 := ⟨rfl, rfl⟩
theorem r_X11_fits_26 : RW M_X11_fits 26 (.iconst 0) 1 0 0 27 := ⟨rfl, rfl⟩
theorem r_X11_fits_27 : RW M_X11_fits 27 (.istore_n 2) 1 0 0 28 := ⟨rfl, rfl⟩
theorem r_X11_fits_28 : RW M_X11_fits 28 (.iconst (-1)) 1 0 0 29 := ⟨rfl, rfl⟩
theorem r_X11_fits_29 : RW M_X11_fits 29 (.istore_n 3) 1 0 0 30 := ⟨rfl, rfl⟩
theorem r_X11_fits_30 : RW M_X11_fits 30 (.iconst 0) 1 0 0 31 := ⟨rfl, rfl⟩
theorem r_X11_fits_31 : RW M_X11_fits 31 (.istore 4) 2 0 0 33 := ⟨rfl, rfl⟩
theorem r_X11_fits_33 : RW M_X11_fits 33 (.iload 4) 2 0 0 35 := ⟨rfl, rfl⟩
theorem r_X11_fits_35 : RW M_X11_fits 35 (.bipush 10) 2 0 0 37 := ⟨rfl, rfl⟩
theorem r_X11_fits_37 : RW M_X11_fits 37 (.aload_n 0) 1 0 0 38 := ⟨rfl, rfl⟩
theorem r_X11_fits_38 : RW M_X11_fits 38 (.getfield 172) 3 11 24 41 := ⟨rfl, rfl⟩
theorem r_X11_fits_41 : RW M_X11_fits 41 (.imul) 1 0 0 42 := ⟨rfl, rfl⟩
theorem r_X11_fits_42 : RW M_X11_fits 42 (.if_icmp .ge 36) 3 78 0 45 := ⟨rfl, rfl⟩
theorem r_X11_fits_45 : RW M_X11_fits 45 (.aload_n 0) 1 0 0 46 := ⟨rfl, rfl⟩
theorem r_X11_fits_46 : RW M_X11_fits 46 (.iload 4) 2 0 0 48 := ⟨rfl, rfl⟩
theorem r_X11_fits_48 : RW M_X11_fits 48 (.invokevirtual 428) 3 253 0 51 := ⟨rfl, rfl⟩
theorem r_X11_fits_51 : RW M_X11_fits 51 (.ifCond .ne 6) 3 57 0 54 := ⟨rfl, rfl⟩
theorem r_X11_fits_54 : RW M_X11_fits 54 (.goto 18) 3 72 0 57 := ⟨rfl, rfl⟩
theorem r_X11_fits_57 : RW M_X11_fits 57 (.iinc 2 1) 3 0 0 60 := ⟨rfl, rfl⟩
theorem r_X11_fits_60 : RW M_X11_fits 60 (.iload_n 3) 1 0 0 61 := ⟨rfl, rfl⟩
theorem r_X11_fits_61 : RW M_X11_fits 61 (.iconst (-1)) 1 0 0 62 := ⟨rfl, rfl⟩
theorem r_X11_fits_62 : RW M_X11_fits 62 (.if_icmp .ne 8) 3 70 0 65 := ⟨rfl, rfl⟩
theorem r_X11_fits_65 : RW M_X11_fits 65 (.iload 4) 2 0 0 67 := ⟨rfl, rfl⟩
theorem r_X11_fits_67 : RW M_X11_fits 67 (.goto 4) 3 71 0 70 := ⟨rfl, rfl⟩
theorem r_X11_fits_70 : RW M_X11_fits 70 (.iload_n 3) 1 0 0 71 := ⟨rfl, rfl⟩
theorem r_X11_fits_71 : RW M_X11_fits 71 (.istore_n 3) 1 0 0 72 := ⟨rfl, rfl⟩
theorem r_X11_fits_72 : RW M_X11_fits 72 (.iinc 4 1) 3 0 0 75 := ⟨rfl, rfl⟩
theorem r_X11_fits_75 : RW M_X11_fits 75 (.goto (-42)) 3 33 0 78 := ⟨rfl, rfl⟩
theorem r_X11_fits_78 : RW M_X11_fits 78 (.iload_n 1) 1 0 0 79 := ⟨rfl, rfl⟩
theorem r_X11_fits_79 : RW M_X11_fits 79 (.ifCond .ne 7) 3 86 0 82 := ⟨rfl, rfl⟩
theorem r_X11_fits_82 : RW M_X11_fits 82 (.iload_n 2) 1 0 0 83 := ⟨rfl, rfl⟩
theorem r_X11_fits_83 : RW M_X11_fits 83 (.goto 4) 3 87 0 86 := ⟨rfl, rfl⟩
theorem r_X11_fits_86 : RW M_X11_fits 86 (.iload_n 3) 1 0 0 87 := ⟨rfl, rfl⟩
theorem r_X11_fits_87 : RW M_X11_fits 87 (.ireturn) 1 0 0 88 := ⟨rfl, rfl⟩
theorem r_X11_isFit_0 : RW M_X11_isFit 0 (.iconst 1) 1 0 0 1 := ⟨rfl, rfl⟩
theorem r_X11_isFit_1 : RW M_X11_isFit 1 (.istore_n 2) 1 0 0 2 := ⟨rfl, rfl⟩
theorem r_X11_isFit_2 : RW M_X11_isFit 2 (.iconst 0) 1 0 0 3 := ⟨rfl, rfl⟩
theorem r_X11_isFit_3 : RW M_X11_isFit 3 (.istore_n 3) 1 0 0 4 := ⟨rfl, rfl⟩
theorem r_X11_isFit_4 : RW M_X11_isFit 4 (.iload_n 3) 1 0 0 5 := ⟨rfl, rfl⟩
theorem r_X11_isFit_5 : RW M_X11_isFit 5 (.aload_n 0) 1 0 0 6 := ⟨rfl, rfl⟩
theorem r_X11_isFit_6 : RW M_X11_isFit 6 (.getfield 166) 3 11 22 9 := ⟨rfl, rfl⟩
theorem r_X11_isFit_9 : RW M_X11_isFit 9 (.if_icmp .ge 48) 3 57 0 12 := ⟨rfl, rfl⟩
theorem r_X11_isFit_12 : RW M_X11_isFit 12 (.iload_n 2) 1 0 0 13 := ⟨rfl, rfl⟩
theorem r_X11_isFit_13 : RW M_X11_isFit 13 (.ifCond .eq 36) 3 49 0 16 := ⟨rfl, rfl⟩
theorem r_X11_isFit_16 : RW M_X11_isFit 16 (.aload_n 0) 1 0 0 17 := ⟨rfl, rfl⟩
theorem r_X11_isFit_17 : RW M_X11_isFit 17 (.getfield 83) 3 11 46 20 := ⟨rfl, rfl⟩
theorem r_X11_isFit_20 : RW M_X11_isFit 20 (.iload_n 3) 1 0 0 21 := ⟨rfl, rfl⟩
theorem r_X11_isFit_21 : RW M_X11_isFit 21 (.iaload) 1 0 0 22 := ⟨rfl, rfl⟩
theorem r_X11_isFit_22 : RW M_X11_isFit 22 (.iconst (-1)) 1 0 0 23 := ⟨rfl, rfl⟩
theorem r_X11_isFit_23 : RW M_X11_isFit 23 (.if_icmp .eq 22) 3 45 0 26 := ⟨rfl, rfl⟩
theorem r_X11_isFit_26 : RW M_X11_isFit 26 (.aload_n 0) 1 0 0 27 := ⟨rfl, rfl⟩
theorem r_X11_isFit_27 : RW M_X11_isFit 27 (.getfield 92) 3 11 51 30 := ⟨rfl, rfl⟩
theorem r_X11_isFit_30 : RW M_X11_isFit 30 (.iload_n 1) 1 0 0 31 := ⟨rfl, rfl⟩
theorem r_X11_isFit_31 : RW M_X11_isFit 31 (.iaload) 1 0 0 32 := ⟨rfl, rfl⟩
theorem r_X11_isFit_32 : RW M_X11_isFit 32 (.iload_n 3) 1 0 0 33 := ⟨rfl, rfl⟩
theorem r_X11_isFit_33 : RW M_X11_isFit 33 (.ishr) 1 0 0 34 := ⟨rfl, rfl⟩
theorem r_X11_isFit_34 : RW M_X11_isFit 34 (.iconst 1) 1 0 0 35 := ⟨rfl, rfl⟩
theorem r_X11_isFit_35 : RW M_X11_isFit 35 (.iand) 1 0 0 36 := ⟨rfl, rfl⟩
theorem r_X11_isFit_36 : RW M_X11_isFit 36 (.aload_n 0) 1 0 0 37 := ⟨rfl, rfl⟩
theorem r_X11_isFit_37 : RW M_X11_isFit 37 (.getfield 83) 3 11 46 40 := ⟨rfl, rfl⟩
theorem r_X11_isFit_40 : RW M_X11_isFit 40 (.iload_n 3) 1 0 0 41 := ⟨rfl, rfl⟩
theorem r_X11_isFit_41 : RW M_X11_isFit 41 (.iaload) 1 0 0 42 := ⟨rfl, rfl⟩
theorem r_X11_isFit_42 : RW M_X11_isFit 42 (.if_icmp .ne 7) 3 49 0 45 := ⟨rfl, rfl⟩
theorem r_X11_isFit_45 : RW M_X11_isFit 45 (.iconst 1) 1 0 0 46 := ⟨rfl, rfl⟩
theorem r_X11_isFit_46 : RW M_X11_isFit 46 (.goto 4) 3 50 0 49 := ⟨rfl, rfl⟩
theorem r_X11_isFit_49 : RW M_X11_isFit 49 (.iconst 0) 1 0 0 50 := ⟨rfl, rfl⟩
theorem r_X11_isFit_50 : RW M_X11_isFit 50 (.istore_n 2) 1 0 0 51 := ⟨rfl, rfl⟩
theorem r_X11_isFit_51 : RW M_X11_isFit 51 (.iinc 3 1) 3 0 0 54 := ⟨rfl, rfl⟩
theorem r_X11_isFit_54 : RW M_X11_isFit 54 (.goto (-50)) 3 4 0 57 := ⟨rfl, rfl⟩
theorem r_X11_isFit_57 : RW M_X11_isFit 57 (.iload_n 2) 1 0 0 58 := ⟨rfl, rfl⟩
theorem r_X11_isFit_58 : RW M_X11_isFit 58 (.ireturn) 1 0 0 59 := ⟨rfl, rfl⟩
theorem r_X11_laysCounts_0 : RW M_X11_laysCounts 0 (.aload_n 0) 1 0 0 1 := ⟨rfl, rfl⟩
theorem r_X11_laysCounts_1 : RW M_X11_laysCounts 1 (.invokevirtual 322) 3 212 0 4 := ⟨rfl, rfl⟩
theorem r_X11_laysCounts_4 : RW M_X11_laysCounts 4 (.iconst 0) 1 0 0 5 := ⟨rfl, rfl⟩
theorem r_X11_laysCounts_5 : RW M_X11_laysCounts 5 (.istore_n 1) 1 0 0 6 := ⟨rfl, rfl⟩
theorem r_X11_laysCounts_6 : RW M_X11_laysCounts 6 (.iload_n 1) 1 0 2 7 := ⟨rfl, rfl⟩
theorem r_X11_laysCounts_7 : RW M_X11_laysCounts 7 (.aload_n 0) 1 0 0 8 := ⟨rfl, rfl⟩
theorem r_X11_laysCounts_8 : RW M_X11_laysCounts 8 (.getfield 172) 3 11 24 11 := ⟨rfl, rfl⟩
theorem r_X11_laysCounts_11 : RW M_X11_laysCounts 11 (.if_icmp .ge 91) 3 102 0 14 := ⟨rfl, rfl⟩
theorem r_X11_laysCounts_14 : RW M_X11_laysCounts 14 (.iconst 0) 1 0 0 15 := ⟨rfl, rfl⟩
theorem r_X11_laysCounts_15 : RW M_X11_laysCounts 15 (.istore_n 2) 1 0 0 16 := ⟨rfl, rfl⟩
theorem r_X11_laysCounts_16 : RW M_X11_laysCounts 16 (.iconst 0) 1 0 0 17 := ⟨rfl, rfl⟩
theorem r_X11_laysCounts_17 : RW M_X11_laysCounts 17 (.istore_n 3) 1 0 0 18 := ⟨rfl, rfl⟩
theorem r_X11_laysCounts_18 : RW M_X11_laysCounts 18 (.iload_n 3) 1 0 0 19 := ⟨rfl, rfl⟩
theorem r_X11_laysCounts_19 : RW M_X11_laysCounts 19 (.aload_n 0) 1 0 0 20 := ⟨rfl, rfl⟩
theorem r_X11_laysCounts_20 : RW M_X11_laysCounts 20 (.getfield 172) 3 11 24 23 := ⟨rfl, rfl⟩
theorem r_X11_laysCounts_23 : RW M_X11_laysCounts 23 (.if_icmp .ge 27) 3 50 0 26 := ⟨rfl, rfl⟩
theorem r_X11_laysCounts_26 : RW M_X11_laysCounts 26 (.iload_n 2) 1 0 0 27 := ⟨rfl, rfl⟩
theorem r_X11_laysCounts_27 : RW M_X11_laysCounts 27 (.iload_n 3) 1 0 0 28 := ⟨rfl, rfl⟩
theorem r_X11_laysCounts_28 : RW M_X11_laysCounts 28 (.iload_n 1) 1 0 0 29 := ⟨rfl, rfl⟩
theorem r_X11_laysCounts_29 : RW M_X11_laysCounts 29 (.if_icmp .ne 7) 3 36 0 32 := ⟨rfl, rfl⟩
theorem r_X11_laysCounts_32 : RW M_X11_laysCounts 32 (.iconst 0) 1 0 0 33 := ⟨rfl, rfl⟩
theorem r_X11_laysCounts_33 : RW M_X11_laysCounts 33 (.goto 9) 3 42 0 36 := ⟨rfl, rfl⟩
theorem r_X11_laysCounts_36 : RW M_X11_laysCounts 36 (.aload_n 0) 1 0 0 37 := ⟨rfl, rfl⟩
theorem r_X11_laysCounts_37 : RW M_X11_laysCounts 37 (.iload_n 3) 1 0 0 38 := ⟨rfl, rfl⟩
theorem r_X11_laysCounts_38 : RW M_X11_laysCounts 38 (.iconst 0) 1 0 0 39 := ⟨rfl, rfl⟩
theorem r_X11_laysCounts_39 : RW M_X11_laysCounts 39 (.invokevirtual 361) 3 219 0 42 := ⟨rfl, rfl⟩
theorem r_X11_laysCounts_42 : RW M_X11_laysCounts 42 (.ior) 1 0 0 43 := ⟨rfl, rfl⟩
theorem r_X11_laysCounts_43 : RW M_X11_laysCounts 43 (.istore_n 2) 1 0 0 44 := ⟨rfl, rfl⟩
theorem r_X11_laysCounts_44 : RW M_X11_laysCounts 44 (.iinc 3 1) 3 0 0 47 := ⟨rfl, rfl⟩
theorem r_X11_laysCounts_47 : RW M_X11_laysCounts 47 (.goto (-29)) 3 18 0 50 := ⟨rfl, rfl⟩
theorem r_X11_laysCounts_50 : RW M_X11_laysCounts 50 (.iconst 0) 1 0 0 51 := ⟨rfl, rfl⟩
theorem r_X11_laysCounts_51 : RW M_X11_laysCounts 51 (.istore_n 3) 1 0 0 52 := ⟨rfl, rfl⟩
theorem r_X11_laysCounts_52 : RW M_X11_laysCounts 52 (.iload_n 3) 1 0 0 53 := ⟨rfl, rfl⟩
theorem r_X11_laysCounts_53 : RW M_X11_laysCounts 53 (.bipush 10) 2 0 0 55 := ⟨rfl, rfl⟩
theorem r_X11_laysCounts_55 : RW M_X11_laysCounts 55 (.if_icmp .ge 41) 3 96 0 58 := ⟨rfl, rfl⟩
theorem r_X11_laysCounts_58 : RW M_X11_laysCounts 58 (.aload_n 0) 1 0 0 59 := ⟨rfl, rfl⟩
theorem r_X11_laysCounts_59 : RW M_X11_laysCounts 59 (.getfield 92) 3 11 51 62 := ⟨rfl, rfl⟩
theorem r_X11_laysCounts_62 : RW M_X11_laysCounts 62 (.bipush 10) 2 0 0 64 := ⟨rfl, rfl⟩
theorem r_X11_laysCounts_64 : RW M_X11_laysCounts 64 (.iload_n 1) 1 0 0 65 := ⟨rfl, rfl⟩
theorem r_X11_laysCounts_65 : RW M_X11_laysCounts 65 (.imul) 1 0 0 66 := ⟨rfl, rfl⟩
theorem r_X11_laysCounts_66 : RW M_X11_laysCounts 66 (.iload_n 3) 1 0 0 67 := ⟨rfl, rfl⟩
theorem r_X11_laysCounts_67 : RW M_X11_laysCounts 67 (.iadd) 1 0 0 68 := ⟨rfl, rfl⟩
theorem r_X11_laysCounts_68 : RW M_X11_laysCounts 68 (.iconst 1) 1 0 0 69 := ⟨rfl, rfl⟩
theorem r_X11_laysCounts_69 : RW M_X11_laysCounts 69 (.aload_n 0) 1 0 0 70 := ⟨rfl, rfl⟩
theorem r_X11_laysCounts_70 : RW M_X11_laysCounts 70 (.getfield 166) 3 11 22 73 := ⟨rfl, rfl⟩
theorem r_X11_laysCounts_73 : RW M_X11_laysCounts 73 (.ishl) 1 0 0 74 := ⟨rfl, rfl⟩
theorem r_X11_laysCounts_74 : RW M_X11_laysCounts 74 (.iconst 1) 1 0 0 75 := ⟨rfl, rfl⟩
theorem r_X11_laysCounts_75 : RW M_X11_laysCounts 75 (.isub) 1 0 0 76 := ⟨rfl, rfl⟩
theorem r_X11_laysCounts_76 : RW M_X11_laysCounts 76 (.iload_n 2) 1 0 0 77 := ⟨rfl, rfl⟩
theorem r_X11_laysCounts_77 : RW M_X11_laysCounts 77 (.iconst (-1)) 1 0 0 78 := ⟨rfl, rfl⟩
theorem r_X11_laysCounts_78 : RW M_X11_laysCounts 78 (.ixor) 1 0 0 79 := ⟨rfl, rfl⟩
theorem r_X11_laysCounts_79 : RW M_X11_laysCounts 79 (.iand) 1 0 0 80 := ⟨rfl, rfl⟩
theorem r_X11_laysCounts_80 : RW M_X11_laysCounts 80 (.aload_n 0) 1 0 0 81 := ⟨rfl, rfl⟩
theorem r_X11_laysCounts_81 : RW M_X11_laysCounts 81 (.iload_n 1) 1 0 0 82 := ⟨rfl, rfl⟩
theorem r_X11_laysCounts_82 : RW M_X11_laysCounts 82 (.iload_n 3) 1 0 0 83 := ⟨rfl, rfl⟩
theorem r_X11_laysCounts_83 : RW M_X11_laysCounts 83 (.invokevirtual 361) 3 219 0 86 := ⟨rfl, rfl⟩
theorem r_X11_laysCounts_86 : RW M_X11_laysCounts 86 (.iconst (-1)) 1 0 0 87 := ⟨rfl, rfl⟩
theorem r_X11_laysCounts_87 : RW M_X11_laysCounts 87 (.ixor) 1 0 0 88 := ⟨rfl, rfl⟩
theorem r_X11_laysCounts_88 : RW M_X11_laysCounts 88 (.iand) 1 0 0 89 := ⟨rfl, rfl⟩
theorem r_X11_laysCounts_89 : RW M_X11_laysCounts 89 (.iastore) 1 0 0 90 := ⟨rfl, rfl⟩
theorem r_X11_laysCounts_90 : RW M_X11_laysCounts 90 (.iinc 3 1) 3 0 0 93 := ⟨rfl, rfl⟩
theorem r_X11_laysCounts_93 : RW M_X11_laysCounts 93 (.goto (-41)) 3 52 0 96 := ⟨rfl, rfl⟩
theorem r_X11_laysCounts_96 : RW M_X11_laysCounts 96 (.iinc 1 1) 3 0 0 99 := ⟨rfl, rfl⟩
theorem r_X11_laysCounts_99 : RW M_X11_laysCounts 99 (.goto (-93)) 3 6 0 102 := ⟨rfl, rfl⟩
theorem r_X11_laysCounts_102 : RW M_X11_laysCounts 102 (.return_) 1 0 0 103 := ⟨rfl, rfl⟩
theorem r_X11_look_22 : RW M_X11_look 22 (.aload_n 0) 1 0 0 23 := ⟨rfl, rfl⟩
theorem r_X11_look_23 : RW M_X11_look 23 (.invokevirtual 425) 3 252 0 26 := ⟨rfl, rfl⟩
theorem r_X11_look_26 : RW M_X11_look 26 (.iconst (-1)) 1 0 0 27 := ⟨rfl, rfl⟩
theorem r_X11_look_27 : RW M_X11_look 27 (.istore_n 2) 1 0 0 28 := ⟨rfl, rfl⟩
theorem r_X11_look_28 : RW M_X11_look 28 (.iconst (-1)) 1 0 0 29 := ⟨rfl, rfl⟩
theorem r_X11_look_29 : RW M_X11_look 29 (.istore_n 3) 1 0 0 30 := ⟨rfl, rfl⟩
theorem r_X11_look_30 : RW M_X11_look 30 (.iconst 0) 1 0 0 31 := ⟨rfl, rfl⟩
theorem r_X11_look_31 : RW M_X11_look 31 (.istore 4) 2 0 0 33 := ⟨rfl, rfl⟩
theorem r_X11_look_33 : RW M_X11_look 33 (.iload 4) 2 0 5 35 := ⟨rfl, rfl⟩
theorem r_X11_look_35 : RW M_X11_look 35 (.aload_n 0) 1 0 0 36 := ⟨rfl, rfl⟩
theorem r_X11_look_36 : RW M_X11_look 36 (.getfield 166) 3 11 22 39 := ⟨rfl, rfl⟩
theorem r_X11_look_39 : RW M_X11_look 39 (.if_icmp .ge 134) 3 173 0 42 := ⟨rfl, rfl⟩
theorem r_X11_look_42 : RW M_X11_look 42 (.aload_n 0) 1 0 0 43 := ⟨rfl, rfl⟩
theorem r_X11_look_43 : RW M_X11_look 43 (.getfield 83) 3 11 46 46 := ⟨rfl, rfl⟩
theorem r_X11_look_46 : RW M_X11_look 46 (.iload 4) 2 0 0 48 := ⟨rfl, rfl⟩
theorem r_X11_look_48 : RW M_X11_look 48 (.iaload) 1 0 0 49 := ⟨rfl, rfl⟩
theorem r_X11_look_49 : RW M_X11_look 49 (.iconst (-1)) 1 0 0 50 := ⟨rfl, rfl⟩
theorem r_X11_look_50 : RW M_X11_look 50 (.if_icmp .eq 6) 3 56 0 53 := ⟨rfl, rfl⟩
theorem r_X11_look_53 : RW M_X11_look 53 (.goto 114) 3 167 0 56 := ⟨rfl, rfl⟩
theorem r_X11_look_56 : RW M_X11_look 56 (.iconst 0) 1 0 0 57 := ⟨rfl, rfl⟩
theorem r_X11_look_57 : RW M_X11_look 57 (.istore 5) 2 0 0 59 := ⟨rfl, rfl⟩
theorem r_X11_look_59 : RW M_X11_look 59 (.iconst 0) 1 0 0 60 := ⟨rfl, rfl⟩
theorem r_X11_look_60 : RW M_X11_look 60 (.istore 6) 2 0 0 62 := ⟨rfl, rfl⟩
theorem r_X11_look_62 : RW M_X11_look 62 (.iconst 0) 1 0 0 63 := ⟨rfl, rfl⟩
theorem r_X11_look_63 : RW M_X11_look 63 (.istore 7) 2 0 0 65 := ⟨rfl, rfl⟩
theorem r_X11_look_65 : RW M_X11_look 65 (.iload 7) 2 0 0 67 := ⟨rfl, rfl⟩
theorem r_X11_look_67 : RW M_X11_look 67 (.bipush 10) 2 0 0 69 := ⟨rfl, rfl⟩
theorem r_X11_look_69 : RW M_X11_look 69 (.aload_n 0) 1 0 0 70 := ⟨rfl, rfl⟩
theorem r_X11_look_70 : RW M_X11_look 70 (.getfield 172) 3 11 24 73 := ⟨rfl, rfl⟩
theorem r_X11_look_73 : RW M_X11_look 73 (.imul) 1 0 0 74 := ⟨rfl, rfl⟩
theorem r_X11_look_74 : RW M_X11_look 74 (.if_icmp .ge 57) 3 131 0 77 := ⟨rfl, rfl⟩
theorem r_X11_look_77 : RW M_X11_look 77 (.aload_n 0) 1 0 0 78 := ⟨rfl, rfl⟩
theorem r_X11_look_78 : RW M_X11_look 78 (.iload 7) 2 0 0 80 := ⟨rfl, rfl⟩
theorem r_X11_look_80 : RW M_X11_look 80 (.invokevirtual 428) 3 253 0 83 := ⟨rfl, rfl⟩
theorem r_X11_look_83 : RW M_X11_look 83 (.ifCond .ne 6) 3 89 0 86 := ⟨rfl, rfl⟩
theorem r_X11_look_86 : RW M_X11_look 86 (.goto 39) 3 125 0 89 := ⟨rfl, rfl⟩
theorem r_X11_look_89 : RW M_X11_look 89 (.iload 5) 2 0 0 91 := ⟨rfl, rfl⟩
theorem r_X11_look_91 : RW M_X11_look 91 (.aload_n 0) 1 0 0 92 := ⟨rfl, rfl⟩
theorem r_X11_look_92 : RW M_X11_look 92 (.getfield 92) 3 11 51 95 := ⟨rfl, rfl⟩
theorem r_X11_look_95 : RW M_X11_look 95 (.iload 7) 2 0 0 97 := ⟨rfl, rfl⟩
theorem r_X11_look_97 : RW M_X11_look 97 (.iaload) 1 0 0 98 := ⟨rfl, rfl⟩
theorem r_X11_look_98 : RW M_X11_look 98 (.iload 4) 2 0 0 100 := ⟨rfl, rfl⟩
theorem r_X11_look_100 : RW M_X11_look 100 (.ishr) 1 0 0 101 := ⟨rfl, rfl⟩
theorem r_X11_look_101 : RW M_X11_look 101 (.iconst 1) 1 0 0 102 := ⟨rfl, rfl⟩
theorem r_X11_look_102 : RW M_X11_look 102 (.iand) 1 0 0 103 := ⟨rfl, rfl⟩
theorem r_X11_look_103 : RW M_X11_look 103 (.iadd) 1 0 0 104 := ⟨rfl, rfl⟩
theorem r_X11_look_104 : RW M_X11_look 104 (.istore 5) 2 0 0 106 := ⟨rfl, rfl⟩
theorem r_X11_look_106 : RW M_X11_look 106 (.iload 6) 2 0 0 108 := ⟨rfl, rfl⟩
theorem r_X11_look_108 : RW M_X11_look 108 (.iconst 1) 1 0 0 109 := ⟨rfl, rfl⟩
theorem r_X11_look_109 : RW M_X11_look 109 (.aload_n 0) 1 0 0 110 := ⟨rfl, rfl⟩
theorem r_X11_look_110 : RW M_X11_look 110 (.getfield 92) 3 11 51 113 := ⟨rfl, rfl⟩
theorem r_X11_look_113 : RW M_X11_look 113 (.iload 7) 2 0 0 115 := ⟨rfl, rfl⟩
theorem r_X11_look_115 : RW M_X11_look 115 (.iaload) 1 0 0 116 := ⟨rfl, rfl⟩
theorem r_X11_look_116 : RW M_X11_look 116 (.iload 4) 2 0 0 118 := ⟨rfl, rfl⟩
theorem r_X11_look_118 : RW M_X11_look 118 (.ishr) 1 0 0 119 := ⟨rfl, rfl⟩
theorem r_X11_look_119 : RW M_X11_look 119 (.iconst 1) 1 0 0 120 := ⟨rfl, rfl⟩
theorem r_X11_look_120 : RW M_X11_look 120 (.iand) 1 0 0 121 := ⟨rfl, rfl⟩
theorem r_X11_look_121 : RW M_X11_look 121 (.isub) 1 0 0 122 := ⟨rfl, rfl⟩
theorem r_X11_look_122 : RW M_X11_look 122 (.iadd) 1 0 0 123 := ⟨rfl, rfl⟩
theorem r_X11_look_123 : RW M_X11_look 123 (.istore 6) 2 0 0 125 := ⟨rfl, rfl⟩
theorem r_X11_look_125 : RW M_X11_look 125 (.iinc 7 1) 3 0 0 128 := ⟨rfl, rfl⟩
theorem r_X11_look_128 : RW M_X11_look 128 (.goto (-63)) 3 65 0 131 := ⟨rfl, rfl⟩
theorem r_X11_look_131 : RW M_X11_look 131 (.iload 5) 2 0 0 133 := ⟨rfl, rfl⟩
theorem r_X11_look_133 : RW M_X11_look 133 (.iload 6) 2 0 0 135 := ⟨rfl, rfl⟩
theorem r_X11_look_135 : RW M_X11_look 135 (.if_icmp .le 8) 3 143 0 138 := ⟨rfl, rfl⟩
theorem r_X11_look_138 : RW M_X11_look 138 (.iload 5) 2 0 0 140 := ⟨rfl, rfl⟩
theorem r_X11_look_140 : RW M_X11_look 140 (.goto 5) 3 145 0 143 := ⟨rfl, rfl⟩
theorem r_X11_look_143 : RW M_X11_look 143 (.iload 6) 2 0 0 145 := ⟨rfl, rfl⟩
theorem r_X11_look_145 : RW M_X11_look 145 (.istore 7) 2 0 0 147 := ⟨rfl, rfl⟩
theorem r_X11_look_147 : RW M_X11_look 147 (.iload_n 2) 1 0 0 148 := ⟨rfl, rfl⟩
theorem r_X11_look_148 : RW M_X11_look 148 (.iconst (-1)) 1 0 0 149 := ⟨rfl, rfl⟩
theorem r_X11_look_149 : RW M_X11_look 149 (.if_icmp .eq 12) 3 161 0 152 := ⟨rfl, rfl⟩
theorem r_X11_look_152 : RW M_X11_look 152 (.iload 7) 2 0 0 154 := ⟨rfl, rfl⟩
theorem r_X11_look_154 : RW M_X11_look 154 (.iload_n 3) 1 0 0 155 := ⟨rfl, rfl⟩
theorem r_X11_look_155 : RW M_X11_look 155 (.if_icmp .lt 6) 3 161 0 158 := ⟨rfl, rfl⟩
theorem r_X11_look_158 : RW M_X11_look 158 (.goto 9) 3 167 0 161 := ⟨rfl, rfl⟩
theorem r_X11_look_161 : RW M_X11_look 161 (.iload 4) 2 0 0 163 := ⟨rfl, rfl⟩
theorem r_X11_look_163 : RW M_X11_look 163 (.istore_n 2) 1 0 0 164 := ⟨rfl, rfl⟩
theorem r_X11_look_164 : RW M_X11_look 164 (.iload 7) 2 0 0 166 := ⟨rfl, rfl⟩
theorem r_X11_look_166 : RW M_X11_look 166 (.istore_n 3) 1 0 0 167 := ⟨rfl, rfl⟩
theorem r_X11_look_167 : RW M_X11_look 167 (.iinc 4 1) 3 0 0 170 := ⟨rfl, rfl⟩
theorem r_X11_look_170 : RW M_X11_look 170 (.goto (-137)) 3 33 0 173 := ⟨rfl, rfl⟩
theorem r_X11_look_173 : RW M_X11_look 173 (.iload_n 1) 1 0 0 174 := ⟨rfl, rfl⟩
theorem r_X11_look_174 : RW M_X11_look 174 (.ifCond .ne 7) 3 181 0 177 := ⟨rfl, rfl⟩
theorem r_X11_look_177 : RW M_X11_look 177 (.iload_n 2) 1 0 0 178 := ⟨rfl, rfl⟩
theorem r_X11_look_178 : RW M_X11_look 178 (.goto 4) 3 182 0 181 := ⟨rfl, rfl⟩
theorem r_X11_look_181 : RW M_X11_look 181 (.iload_n 3) 1 0 0 182 := ⟨rfl, rfl⟩
theorem r_X11_look_182 : RW M_X11_look 182 (.ireturn) 1 0 0 183 := ⟨rfl, rfl⟩
theorem r_X8_bestQuestion_0 : RW M_X8_bestQuestion 0 (.iconst (-1)) 1 0 0 1 := ⟨rfl, rfl⟩
theorem r_X8_bestQuestion_1 : RW M_X8_bestQuestion 1 (.istore_n 1) 1 0 0 2 := ⟨rfl, rfl⟩
theorem r_X8_bestQuestion_2 : RW M_X8_bestQuestion 2 (.iconst 0) 1 0 0 3 := ⟨rfl, rfl⟩
theorem r_X8_bestQuestion_3 : RW M_X8_bestQuestion 3 (.istore_n 2) 1 0 0 4 := ⟨rfl, rfl⟩
theorem r_X8_bestQuestion_4 : RW M_X8_bestQuestion 4 (.iload_n 2) 1 0 0 5 := ⟨rfl, rfl⟩
theorem r_X8_bestQuestion_5 : RW M_X8_bestQuestion 5 (.aload_n 0) 1 0 0 6 := ⟨rfl, rfl⟩
theorem r_X8_bestQuestion_6 : RW M_X8_bestQuestion 6 (.getfield 23) 3 8 0 9 := ⟨rfl, rfl⟩
theorem r_X8_bestQuestion_9 : RW M_X8_bestQuestion 9 (.getfield 117) 3 1 10 12 := ⟨rfl, rfl⟩
theorem r_X8_bestQuestion_12 : RW M_X8_bestQuestion 12 (.if_icmp .ge 43) 3 55 0 15 := ⟨rfl, rfl⟩
theorem r_X8_bestQuestion_15 : RW M_X8_bestQuestion 15 (.aload_n 0) 1 0 0 16 := ⟨rfl, rfl⟩
theorem r_X8_bestQuestion_16 : RW M_X8_bestQuestion 16 (.getfield 31) 3 8 2 19 := ⟨rfl, rfl⟩
theorem r_X8_bestQuestion_19 : RW M_X8_bestQuestion 19 (.getfield 138) 3 0 0 22 := ⟨rfl, rfl⟩
theorem r_X8_bestQuestion_22 : RW M_X8_bestQuestion 22 (.iload_n 2) 1 0 0 23 := ⟨rfl, rfl⟩
theorem r_X8_bestQuestion_23 : RW M_X8_bestQuestion 23 (.invokestatic 94) 3 163 0 26 := ⟨rfl, rfl⟩
theorem r_X8_bestQuestion_26 : RW M_X8_bestQuestion 26 (.ifCond .ne 23) 3 49 0 29 := ⟨rfl, rfl⟩
theorem r_X8_bestQuestion_29 : RW M_X8_bestQuestion 29 (.iload_n 1) 1 0 0 30 := ⟨rfl, rfl⟩
theorem r_X8_bestQuestion_30 : RW M_X8_bestQuestion 30 (.iconst (-1)) 1 0 0 31 := ⟨rfl, rfl⟩
theorem r_X8_bestQuestion_31 : RW M_X8_bestQuestion 31 (.if_icmp .eq 16) 3 47 0 34 := ⟨rfl, rfl⟩
theorem r_X8_bestQuestion_34 : RW M_X8_bestQuestion 34 (.aload_n 0) 1 0 0 35 := ⟨rfl, rfl⟩
theorem r_X8_bestQuestion_35 : RW M_X8_bestQuestion 35 (.iload_n 2) 1 0 0 36 := ⟨rfl, rfl⟩
theorem r_X8_bestQuestion_36 : RW M_X8_bestQuestion 36 (.invokevirtual 141) 3 106 0 39 := ⟨rfl, rfl⟩
theorem r_X8_bestQuestion_39 : RW M_X8_bestQuestion 39 (.aload_n 0) 1 0 0 40 := ⟨rfl, rfl⟩
theorem r_X8_bestQuestion_40 : RW M_X8_bestQuestion 40 (.iload_n 1) 1 0 0 41 := ⟨rfl, rfl⟩
theorem r_X8_bestQuestion_41 : RW M_X8_bestQuestion 41 (.invokevirtual 141) 3 106 0 44 := ⟨rfl, rfl⟩
theorem r_X8_bestQuestion_44 : RW M_X8_bestQuestion 44 (.if_icmp .ge 5) 3 49 0 47 := ⟨rfl, rfl⟩
theorem r_X8_bestQuestion_47 : RW M_X8_bestQuestion 47 (.iload_n 2) 1 0 0 48 := ⟨rfl, rfl⟩
theorem r_X8_bestQuestion_48 : RW M_X8_bestQuestion 48 (.istore_n 1) 1 0 0 49 := ⟨rfl, rfl⟩
theorem r_X8_bestQuestion_49 : RW M_X8_bestQuestion 49 (.iinc 2 1) 3 0 0 52 := ⟨rfl, rfl⟩
theorem r_X8_bestQuestion_52 : RW M_X8_bestQuestion 52 (.goto (-48)) 3 4 0 55 := ⟨rfl, rfl⟩
theorem r_X8_bestQuestion_55 : RW M_X8_bestQuestion 55 (.iload_n 1) 1 0 0 56 := ⟨rfl, rfl⟩
theorem r_X8_bestQuestion_56 : RW M_X8_bestQuestion 56 (.ireturn) 1 0 0 57 := ⟨rfl, rfl⟩
theorem r_X8_pairsLeft_0 : RW M_X8_pairsLeft 0 (.aload_n 0) 1 0 0 1 := ⟨rfl, rfl⟩
theorem r_X8_pairsLeft_1 : RW M_X8_pairsLeft 1 (.getfield 20) 3 8 4 4 := ⟨rfl, rfl⟩
theorem r_X8_pairsLeft_4 : RW M_X8_pairsLeft 4 (.iload_n 1) 1 0 0 5 := ⟨rfl, rfl⟩
theorem r_X8_pairsLeft_5 : RW M_X8_pairsLeft 5 (.invokevirtual 73) 3 92 0 8 := ⟨rfl, rfl⟩
theorem r_X8_pairsLeft_8 : RW M_X8_pairsLeft 8 (.istore_n 2) 1 0 0 9 := ⟨rfl, rfl⟩
theorem r_X8_pairsLeft_9 : RW M_X8_pairsLeft 9 (.iload_n 2) 1 0 0 10 := ⟨rfl, rfl⟩
theorem r_X8_pairsLeft_10 : RW M_X8_pairsLeft 10 (.aload_n 0) 1 0 0 11 := ⟨rfl, rfl⟩
theorem r_X8_pairsLeft_11 : RW M_X8_pairsLeft 11 (.getfield 111) 3 8 8 14 := ⟨rfl, rfl⟩
theorem r_X8_pairsLeft_14 : RW M_X8_pairsLeft 14 (.iload_n 2) 1 0 0 15 := ⟨rfl, rfl⟩
theorem r_X8_pairsLeft_15 : RW M_X8_pairsLeft 15 (.isub) 1 0 0 16 := ⟨rfl, rfl⟩
theorem r_X8_pairsLeft_16 : RW M_X8_pairsLeft 16 (.invokestatic 133) 3 901 0 19 := ⟨rfl, rfl⟩
theorem r_X8_pairsLeft_19 : RW M_X8_pairsLeft 19 (.ireturn) 1 0 0 20 := ⟨rfl, rfl⟩
theorem r_X8_weighPair_0 : RW M_X8_weighPair 0 (.aload_n 0) 1 0 0 1 := ⟨rfl, rfl⟩
theorem r_X8_weighPair_1 : RW M_X8_weighPair 1 (.getfield 31) 3 8 2 4 := ⟨rfl, rfl⟩
theorem r_X8_weighPair_4 : RW M_X8_weighPair 4 (.iload_n 3) 1 0 0 5 := ⟨rfl, rfl⟩
theorem r_X8_weighPair_5 : RW M_X8_weighPair 5 (.invokevirtual 127) 3 5 0 8 := ⟨rfl, rfl⟩
theorem r_X8_weighPair_8 : RW M_X8_weighPair 8 (.ifCond .ne 4) 3 12 0 11 := ⟨rfl, rfl⟩
theorem r_X8_weighPair_11 : RW M_X8_weighPair 11 (.return_) 1 0 0 12 := ⟨rfl, rfl⟩
theorem r_X8_weighPair_12 : RW M_X8_weighPair 12 (.aload_n 0) 1 0 0 13 := ⟨rfl, rfl⟩
theorem r_X8_weighPair_13 : RW M_X8_weighPair 13 (.getfield 111) 3 8 8 16 := ⟨rfl, rfl⟩
theorem r_X8_weighPair_16 : RW M_X8_weighPair 16 (.ifCond .ne 13) 3 29 0 19 := ⟨rfl, rfl⟩
theorem r_X8_weighPair_19 : RW M_X8_weighPair 19 (.aload_n 0) 1 0 0 20 := ⟨rfl, rfl⟩
theorem r_X8_weighPair_20 : RW M_X8_weighPair 20 (.bipush 10) 2 0 0 22 := ⟨rfl, rfl⟩
theorem r_X8_weighPair_22 : RW M_X8_weighPair 22 (.iload_n 1) 1 0 0 23 := ⟨rfl, rfl⟩
theorem r_X8_weighPair_23 : RW M_X8_weighPair 23 (.imul) 1 0 0 24 := ⟨rfl, rfl⟩
theorem r_X8_weighPair_24 : RW M_X8_weighPair 24 (.iload_n 2) 1 0 0 25 := ⟨rfl, rfl⟩
theorem r_X8_weighPair_25 : RW M_X8_weighPair 25 (.iadd) 1 0 0 26 := ⟨rfl, rfl⟩
theorem r_X8_weighPair_26 : RW M_X8_weighPair 26 (.putfield 114) 3 8 9 29 := ⟨rfl, rfl⟩
theorem r_X8_weighPair_29 : RW M_X8_weighPair 29 (.aload_n 0) 1 0 0 30 := ⟨rfl, rfl⟩
theorem r_X8_weighPair_30 : RW M_X8_weighPair 30 (.dup) 1 0 0 31 := ⟨rfl, rfl⟩
theorem r_X8_weighPair_31 : RW M_X8_weighPair 31 (.getfield 111) 3 8 8 34 := ⟨rfl, rfl⟩
theorem r_X8_weighPair_34 : RW M_X8_weighPair 34 (.iconst 1) 1 0 0 35 := ⟨rfl, rfl⟩
theorem r_X8_weighPair_35 : RW M_X8_weighPair 35 (.iadd) 1 0 0 36 := ⟨rfl, rfl⟩
theorem r_X8_weighPair_36 : RW M_X8_weighPair 36 (.putfield 111) 3 8 8 39 := ⟨rfl, rfl⟩
theorem r_X8_weighPair_39 : RW M_X8_weighPair 39 (.iconst 0) 1 0 0 40 := ⟨rfl, rfl⟩
theorem r_X8_weighPair_40 : RW M_X8_weighPair 40 (.istore 4) 2 0 0 42 := ⟨rfl, rfl⟩
theorem r_X8_weighPair_42 : RW M_X8_weighPair 42 (.iload 4) 2 0 0 44 := ⟨rfl, rfl⟩
theorem r_X8_weighPair_44 : RW M_X8_weighPair 44 (.aload_n 0) 1 0 0 45 := ⟨rfl, rfl⟩
theorem r_X8_weighPair_45 : RW M_X8_weighPair 45 (.getfield 23) 3 8 0 48 := ⟨rfl, rfl⟩
theorem r_X8_weighPair_48 : RW M_X8_weighPair 48 (.getfield 117) 3 1 10 51 := ⟨rfl, rfl⟩
theorem r_X8_weighPair_51 : RW M_X8_weighPair 51 (.if_icmp .ge 38) 3 89 0 54 := ⟨rfl, rfl⟩
theorem r_X8_weighPair_54 : RW M_X8_weighPair 54 (.iload_n 3) 1 0 0 55 := ⟨rfl, rfl⟩
theorem r_X8_weighPair_55 : RW M_X8_weighPair 55 (.iload 4) 2 0 0 57 := ⟨rfl, rfl⟩
theorem r_X8_weighPair_57 : RW M_X8_weighPair 57 (.invokestatic 94) 3 163 0 60 := ⟨rfl, rfl⟩
theorem r_X8_weighPair_60 : RW M_X8_weighPair 60 (.ifCond .eq 23) 3 83 0 63 := ⟨rfl, rfl⟩
theorem r_X8_weighPair_63 : RW M_X8_weighPair 63 (.aload_n 0) 1 0 0 64 := ⟨rfl, rfl⟩
theorem r_X8_weighPair_64 : RW M_X8_weighPair 64 (.getfield 20) 3 8 4 67 := ⟨rfl, rfl⟩
theorem r_X8_weighPair_67 : RW M_X8_weighPair 67 (.iload 4) 2 0 0 69 := ⟨rfl, rfl⟩
theorem r_X8_weighPair_69 : RW M_X8_weighPair 69 (.aload_n 0) 1 0 0 70 := ⟨rfl, rfl⟩
theorem r_X8_weighPair_70 : RW M_X8_weighPair 70 (.getfield 20) 3 8 4 73 := ⟨rfl, rfl⟩
theorem r_X8_weighPair_73 : RW M_X8_weighPair 73 (.iload 4) 2 0 0 75 := ⟨rfl, rfl⟩
theorem r_X8_weighPair_75 : RW M_X8_weighPair 75 (.invokevirtual 73) 3 92 0 78 := ⟨rfl, rfl⟩
theorem r_X8_weighPair_78 : RW M_X8_weighPair 78 (.iconst 1) 1 0 0 79 := ⟨rfl, rfl⟩
theorem r_X8_weighPair_79 : RW M_X8_weighPair 79 (.iadd) 1 0 0 80 := ⟨rfl, rfl⟩
theorem r_X8_weighPair_80 : RW M_X8_weighPair 80 (.invokevirtual 47) 3 93 0 83 := ⟨rfl, rfl⟩
theorem r_X8_weighPair_83 : RW M_X8_weighPair 83 (.iinc 4 1) 3 0 0 86 := ⟨rfl, rfl⟩
theorem r_X8_weighPair_86 : RW M_X8_weighPair 86 (.goto (-44)) 3 42 0 89 := ⟨rfl, rfl⟩
theorem r_X8_weighPair_89 : RW M_X8_weighPair 89 (.return_) 1 0 0 90 := ⟨rfl, rfl⟩
theorem r_X8_weighPairs_0 : RW M_X8_weighPairs 0 (.aload_n 0) 1 0 0 1 := ⟨rfl, rfl⟩
theorem r_X8_weighPairs_1 : RW M_X8_weighPairs 1 (.invokevirtual 51) 3 96 0 4 := ⟨rfl, rfl⟩
theorem r_X8_weighPairs_4 : RW M_X8_weighPairs 4 (.aload_n 0) 1 0 0 5 := ⟨rfl, rfl⟩
theorem r_X8_weighPairs_5 : RW M_X8_weighPairs 5 (.iconst 0) 1 0 0 6 := ⟨rfl, rfl⟩
theorem r_X8_weighPairs_6 : RW M_X8_weighPairs 6 (.putfield 111) 3 8 8 9 := ⟨rfl, rfl⟩
theorem r_X8_weighPairs_9 : RW M_X8_weighPairs 9 (.aload_n 0) 1 0 0 10 := ⟨rfl, rfl⟩
theorem r_X8_weighPairs_10 : RW M_X8_weighPairs 10 (.iconst (-1)) 1 0 0 11 := ⟨rfl, rfl⟩
theorem r_X8_weighPairs_11 : RW M_X8_weighPairs 11 (.putfield 114) 3 8 9 14 := ⟨rfl, rfl⟩
theorem r_X8_weighPairs_14 : RW M_X8_weighPairs 14 (.iconst 0) 1 0 0 15 := ⟨rfl, rfl⟩
theorem r_X8_weighPairs_15 : RW M_X8_weighPairs 15 (.istore_n 1) 1 0 0 16 := ⟨rfl, rfl⟩
theorem r_X8_weighPairs_16 : RW M_X8_weighPairs 16 (.iload_n 1) 1 0 0 17 := ⟨rfl, rfl⟩
theorem r_X8_weighPairs_17 : RW M_X8_weighPairs 17 (.aload_n 0) 1 0 0 18 := ⟨rfl, rfl⟩
theorem r_X8_weighPairs_18 : RW M_X8_weighPairs 18 (.getfield 23) 3 8 0 21 := ⟨rfl, rfl⟩
theorem r_X8_weighPairs_21 : RW M_X8_weighPairs 21 (.getfield 117) 3 1 10 24 := ⟨rfl, rfl⟩
theorem r_X8_weighPairs_24 : RW M_X8_weighPairs 24 (.if_icmp .ge 18) 3 42 0 27 := ⟨rfl, rfl⟩
theorem r_X8_weighPairs_27 : RW M_X8_weighPairs 27 (.aload_n 0) 1 0 0 28 := ⟨rfl, rfl⟩
theorem r_X8_weighPairs_28 : RW M_X8_weighPairs 28 (.getfield 20) 3 8 4 31 := ⟨rfl, rfl⟩
theorem r_X8_weighPairs_31 : RW M_X8_weighPairs 31 (.iload_n 1) 1 0 0 32 := ⟨rfl, rfl⟩
theorem r_X8_weighPairs_32 : RW M_X8_weighPairs 32 (.iconst 0) 1 0 0 33 := ⟨rfl, rfl⟩
theorem r_X8_weighPairs_33 : RW M_X8_weighPairs 33 (.invokevirtual 47) 3 93 0 36 := ⟨rfl, rfl⟩
theorem r_X8_weighPairs_36 : RW M_X8_weighPairs 36 (.iinc 1 1) 3 0 0 39 := ⟨rfl, rfl⟩
theorem r_X8_weighPairs_39 : RW M_X8_weighPairs 39 (.goto (-23)) 3 16 0 42 := ⟨rfl, rfl⟩
theorem r_X8_weighPairs_42 : RW M_X8_weighPairs 42 (.iconst 0) 1 0 0 43 := ⟨rfl, rfl⟩
theorem r_X8_weighPairs_43 : RW M_X8_weighPairs 43 (.istore_n 1) 1 0 0 44 := ⟨rfl, rfl⟩
theorem r_X8_weighPairs_44 : RW M_X8_weighPairs 44 (.iload_n 1) 1 0 2 45 := ⟨rfl, rfl⟩
theorem r_X8_weighPairs_45 : RW M_X8_weighPairs 45 (.aload_n 0) 1 0 0 46 := ⟨rfl, rfl⟩
theorem r_X8_weighPairs_46 : RW M_X8_weighPairs 46 (.getfield 23) 3 8 0 49 := ⟨rfl, rfl⟩
theorem r_X8_weighPairs_49 : RW M_X8_weighPairs 49 (.getfield 35) 3 1 12 52 := ⟨rfl, rfl⟩
theorem r_X8_weighPairs_52 : RW M_X8_weighPairs 52 (.if_icmp .ge 60) 3 112 0 55 := ⟨rfl, rfl⟩
theorem r_X8_weighPairs_55 : RW M_X8_weighPairs 55 (.aload_n 0) 1 0 0 56 := ⟨rfl, rfl⟩
theorem r_X8_weighPairs_56 : RW M_X8_weighPairs 56 (.iload_n 1) 1 0 0 57 := ⟨rfl, rfl⟩
theorem r_X8_weighPairs_57 : RW M_X8_weighPairs 57 (.invokevirtual 120) 3 104 0 60 := ⟨rfl, rfl⟩
theorem r_X8_weighPairs_60 : RW M_X8_weighPairs 60 (.istore_n 2) 1 0 0 61 := ⟨rfl, rfl⟩
theorem r_X8_weighPairs_61 : RW M_X8_weighPairs 61 (.iconst 0) 1 0 0 62 := ⟨rfl, rfl⟩
theorem r_X8_weighPairs_62 : RW M_X8_weighPairs 62 (.istore_n 3) 1 0 0 63 := ⟨rfl, rfl⟩
theorem r_X8_weighPairs_63 : RW M_X8_weighPairs 63 (.iload_n 3) 1 0 0 64 := ⟨rfl, rfl⟩
theorem r_X8_weighPairs_64 : RW M_X8_weighPairs 64 (.bipush 10) 2 0 0 66 := ⟨rfl, rfl⟩
theorem r_X8_weighPairs_66 : RW M_X8_weighPairs 66 (.if_icmp .ge 40) 3 106 0 69 := ⟨rfl, rfl⟩
theorem r_X8_weighPairs_69 : RW M_X8_weighPairs 69 (.aload_n 0) 1 0 0 70 := ⟨rfl, rfl⟩
theorem r_X8_weighPairs_70 : RW M_X8_weighPairs 70 (.iload_n 1) 1 0 0 71 := ⟨rfl, rfl⟩
theorem r_X8_weighPairs_71 : RW M_X8_weighPairs 71 (.iload_n 3) 1 0 0 72 := ⟨rfl, rfl⟩
theorem r_X8_weighPairs_72 : RW M_X8_weighPairs 72 (.aload_n 0) 1 0 0 73 := ⟨rfl, rfl⟩
theorem r_X8_weighPairs_73 : RW M_X8_weighPairs 73 (.getfield 23) 3 8 0 76 := ⟨rfl, rfl⟩
theorem r_X8_weighPairs_76 : RW M_X8_weighPairs 76 (.invokevirtual 83) 3 14 0 79 := ⟨rfl, rfl⟩
theorem r_X8_weighPairs_79 : RW M_X8_weighPairs 79 (.iload_n 2) 1 0 0 80 := ⟨rfl, rfl⟩
theorem r_X8_weighPairs_80 : RW M_X8_weighPairs 80 (.aload_n 0) 1 0 0 81 := ⟨rfl, rfl⟩
theorem r_X8_weighPairs_81 : RW M_X8_weighPairs 81 (.getfield 16) 3 8 3 84 := ⟨rfl, rfl⟩
theorem r_X8_weighPairs_84 : RW M_X8_weighPairs 84 (.iload_n 1) 1 0 0 85 := ⟨rfl, rfl⟩
theorem r_X8_weighPairs_85 : RW M_X8_weighPairs 85 (.bipush 10) 2 0 0 87 := ⟨rfl, rfl⟩
theorem r_X8_weighPairs_87 : RW M_X8_weighPairs 87 (.imul) 1 0 0 88 := ⟨rfl, rfl⟩
theorem r_X8_weighPairs_88 : RW M_X8_weighPairs 88 (.iload_n 3) 1 0 0 89 := ⟨rfl, rfl⟩
theorem r_X8_weighPairs_89 : RW M_X8_weighPairs 89 (.iadd) 1 0 0 90 := ⟨rfl, rfl⟩
theorem r_X8_weighPairs_90 : RW M_X8_weighPairs 90 (.invokevirtual 73) 3 92 0 93 := ⟨rfl, rfl⟩
theorem r_X8_weighPairs_93 : RW M_X8_weighPairs 93 (.ior) 1 0 0 94 := ⟨rfl, rfl⟩
theorem r_X8_weighPairs_94 : RW M_X8_weighPairs 94 (.iconst (-1)) 1 0 0 95 := ⟨rfl, rfl⟩
theorem r_X8_weighPairs_95 : RW M_X8_weighPairs 95 (.ixor) 1 0 0 96 := ⟨rfl, rfl⟩
theorem r_X8_weighPairs_96 : RW M_X8_weighPairs 96 (.iand) 1 0 0 97 := ⟨rfl, rfl⟩
theorem r_X8_weighPairs_97 : RW M_X8_weighPairs 97 (.invokevirtual 123) 3 105 0 100 := ⟨rfl, rfl⟩
theorem r_X8_weighPairs_100 : RW M_X8_weighPairs 100 (.iinc 3 1) 3 0 0 103 := ⟨rfl, rfl⟩
theorem r_X8_weighPairs_103 : RW M_X8_weighPairs 103 (.goto (-40)) 3 63 0 106 := ⟨rfl, rfl⟩
theorem r_X8_weighPairs_106 : RW M_X8_weighPairs 106 (.iinc 1 1) 3 0 0 109 := ⟨rfl, rfl⟩
theorem r_X8_weighPairs_109 : RW M_X8_weighPairs 109 (.goto (-65)) 3 44 0 112 := ⟨rfl, rfl⟩
theorem r_X8_weighPairs_112 : RW M_X8_weighPairs 112 (.return_) 1 0 0 113 := ⟨rfl, rfl⟩
section LK
variable {κ : CT} {l : LW} {η : HS} {bt br k c : Nat}
theorem lsI_s (e : lkO κ l η bt br k = some c) : lsI κ l η bt br k = nI (plM κ l η bt br c) := by unfold lsI; rw [e]; rfl
theorem lkO_n (h : bt.testBit k = true) : lkO κ l η bt br (k + 1) = lkO κ l η bt br k := bst_n (lkP_f h)
theorem lsI_n (h : bt.testBit k = true) : lsI κ l η bt br (k + 1) = lsI κ l η bt br k := by unfold lsI; rw [lkO_n h]
theorem lk_0 (h : bt.testBit k = false) (e : lkO κ l η bt br k = none) : lkO κ l η bt br (k + 1) = some k ∧ lsI κ l η bt br (k + 1) = nI (plM κ l η bt br k) := by
  have h1 : lkO κ l η bt br (k + 1) = some k := bst_0 (lkP_t h) e
  exact ⟨h1, lsI_s h1⟩
theorem lk_f (h : bt.testBit k = false) (e : lkO κ l η bt br k = some c) (h2 : ¬ plM κ l η bt br k < plM κ l η bt br c) : lkO κ l η bt br (k + 1) = some c ∧ lsI κ l η bt br (k + 1) = nI (plM κ l η bt br c) := by
  have h1 : lkO κ l η bt br (k + 1) = some c := bst_f (lkP_t h) e (decide_eq_false h2)
  exact ⟨h1, lsI_s h1⟩
theorem lk_t (h : bt.testBit k = false) (e : lkO κ l η bt br k = some c) (h2 : plM κ l η bt br k < plM κ l η bt br c) : lkO κ l η bt br (k + 1) = some k ∧ lsI κ l η bt br (k + 1) = nI (plM κ l η bt br k) := by
  have h1 : lkO κ l η bt br (k + 1) = some k := bst_t (lkP_t h) e (decide_eq_true h2)
  exact ⟨h1, lsI_s h1⟩
end LK
theorem c_weigh {d : Nat} {I : Nat → Nat → Int32} {J : Nat → Nat → Int64} {κ : CT} {l : LW} {η : HS} {bt br : Nat} (hc_ : HC 4 κ I) (cb : CB κ) (hbt : I 60 0 = nI bt) (hbr : I 60 1 = nI br) (hbt2 : bt < 512) (hbr2 : br < 512) {b n : Nat} (h : b < κ.nb) (hn : n < 10) (wp_ : WP κ l η bt br (10 * b + n) I)  (hd : 4 ≤ d) : RU d 105 [.ref 89, .int (nI b), .int (nI n), .int (nI (cby κ l η (10 * b + n)))] I J (fun I' => WP κ l η bt br (10 * b + (n + 1)) I' ∧ ∀ o, o ≠ 89 → o ≠ 93 → I' o = I o) := by
  refine RU.in (d0 := 3) hd mt_105 (Nat.le_of_ble_eq_true rfl) (fun d' hd' => ?_)
  have bns := cb.ns; have bnb := cb.nb; have bnc := cb.nc; have bnr := cb.nr
  have pn := pow_ns cb
  have c9 := cby_lt (κ := κ) (l := l) (η := η) (i := 10 * b + n)
  have fl := ftC_le (κ := κ) (l := l) (η := η) (bt := bt) (br := br) (i := 10 * b + n)
  show EV none M_X8_weighPair d' 0 [(0, .ref 89), (1, .int (nI b)), (2, .int (nI n)), (3, .int (nI (cby κ l η (10 * b + n))))] [] (hp I J) _
  refine EV.l (lv' := [(0, _), (1, _), (2, _), (3, _)]) r_X8_weighPair_0 rfl ?_
  refine EV.gR r_X8_weighPair_1 la_89 ?_
  refine EV.l (lv' := [(0, _), (1, _), (2, _), (3, _)]) r_X8_weighPair_4 rfl ?_
  refine EV.cv r_X8_weighPair_5 (aV1 mt_5 la_60) (c_agrees hbt hbr (by omega) hbt2 hbr2 (by omega)) ?_
  refine EV.b0_ne r_X8_weighPair_8 (fun h8 => ?_) (fun h8 => ?_)
  · -- 8 t
    have hf : ftB κ l η bt br (10 * b + n) = true := h8
    refine EV.l (lv' := [(0, _), (1, _), (2, _), (3, _)]) r_X8_weighPair_12 rfl ?_
    refine EV.getV r_X8_weighPair_13 la_89 (wp_.c) ?_
    refine EV.n0_ne r_X8_weighPair_16 (fun h16 => ?_) (fun h16 => ?_)
    · -- 16 t
      obtain ⟨c0, ec0⟩ := sumB_1 h16
      have qf : fst1 (ftB κ l η bt br) (10 * b + n + 1) = fst1 (ftB κ l η bt br) (10 * b + n) := (fst1_s ec0).trans ec0.symm
      refine EV.l (lv' := [(0, _), (1, _), (2, _), (3, _)]) r_X8_weighPair_29 rfl ?_
      refine EV.o r_X8_weighPair_30 rfl ?_
      refine EV.getV r_X8_weighPair_31 la_89 (wp_.c) ?_
      refine EV.o r_X8_weighPair_34 (icN (1) (v := 1)) ?_
      refine EV.o r_X8_weighPair_35 iaddN ?_
      refine EV.pIn r_X8_weighPair_36 la_89 (fun I3 e3 => ?_)
      have q8 : I3 89 8 = nI (ftC κ l η bt br (10 * b + n + 1)) := by subst e3; rw [wr_same]; exact congrArg nI (ftC_t hf)
      have q9 : I3 89 9 = opI (fst1 (ftB κ l η bt br) (10 * b + n + 1)) := by rw [qf]; subst e3; rw [wr_ne (Or.inr (by decide))]; first | exact wp_.f | (subst e2; exact wr_same)
      have qr : ∀ o, o ≠ 89 → I3 o = I o := fun o ho => by subst e3; first | exact wr_row ho | (rw [wr_row ho]; subst e2; exact wr_row ho)
      refine EV.o r_X8_weighPair_39 (icN (0) (v := 0)) ?_
      refine EV.l (lv' := [(0, _), (1, _), (2, _), (3, _), (4, _)]) r_X8_weighPair_40 rfl ?_
      have L42 : ∀ y_ : Nat × (Nat → Nat → Int32), (fun y => (y.1 ≤ κ.ns ∧ (∀ o, o ≠ 93 → y.2 o = I3 o) ∧ ∀ k, k < κ.ns → y.2 93 k = nI (if k < y.1 then ftJ κ l η bt br k (10 * b + n + 1) else ftJ κ l η bt br k (10 * b + n))) → EV none M_X8_weighPair d' 42 [(0, .ref 89), (1, .int (nI b)), (2, .int (nI n)), (3, .int (nI (cby κ l η (10 * b + n)))), (4, .int (nI y.1))] [] (hp y.2 J) (QU J (fun I' => WP κ l η bt br (10 * b + (n + 1)) I' ∧ ∀ o, o ≠ 89 → o ≠ 93 → I' o = I o))) y_ := by
        refine ev_loop (fun y => κ.ns - y.1) ?_
        intro ⟨j, I1⟩ ih42 hx42
        try dsimp only at ih42
        try dsimp only at hx42
        try dsimp only
        have jl := hx42.1
        have fr_ := hx42.2.1
        have hc1 := HC.fr (I' := I1) hc_ (fun x h1 h2 => (fr_ x (by omega)).trans (qr x (by omega)))
        refine EV.l (lv' := [(0, _), (1, _), (2, _), (3, _), (4, _)]) r_X8_weighPair_42 rfl ?_
        refine EV.l (lv' := [(0, _), (1, _), (2, _), (3, _), (4, _)]) r_X8_weighPair_44 rfl ?_
        refine EV.gR r_X8_weighPair_45 la_89 ?_
        refine EV.getV r_X8_weighPair_48 la_4 (hc1.ns) ?_
        refine EV.n2_ge r_X8_weighPair_51 (fun h51 => ?_) (fun h51 => ?_)
        · -- 51 t
          exact EV.ru r_X8_weighPair_89 (⟨⟨fun k hk => by rw [fr_ 91 (by decide), qr 91 (by decide)]; exact wp_.cv k hk, by rw [fr_ 89 (by decide)]; exact q8, by rw [fr_ 89 (by decide)]; exact q9, fun k hk => by rw [hx42.2.2 k hk, if_pos (by omega)]; rfl⟩, fun o h1 h2 => (fr_ o h2).trans (qr o h1)⟩)
        · -- 51 f
          refine EV.l (lv' := [(0, _), (1, _), (2, _), (3, _), (4, _)]) r_X8_weighPair_54 rfl ?_
          refine EV.l (lv' := [(0, _), (1, _), (2, _), (3, _), (4, _)]) r_X8_weighPair_55 rfl ?_
          refine EV.cv r_X8_weighPair_57 (aS2 mt_163) (c_has (by omega) (by omega) (by omega)) ?_
          refine EV.b0_eq r_X8_weighPair_60 (fun h60 => ?_) (fun h60 => ?_)
          · -- 60 t
            refine EV.l (lv' := [(0, _), (1, _), (2, _), (3, _), (4, _)]) r_X8_weighPair_83 rfl ?_
            rw [inc_nI]
            refine EV.g r_X8_weighPair_86 ?_
            refine EV.sub ?_ rfl ?_ (ih42 (j + 1, I1) ?_ ?_)
            · (try dsimp only) <;> (rfl)
            · (try dsimp only) <;> (rfl)
            · (try dsimp only) <;> (omega)
            · (try dsimp only) <;> (first | (subst e5; exact ⟨by omega, fun o h1 => (wr_row h1).trans (fr_ o h1), cj_put hx42.2.2 hf (by assumption)⟩) | exact ⟨by omega, fr_, cj_skip hx42.2.2 (by assumption)⟩)
          · -- 60 f
            refine EV.l (lv' := [(0, _), (1, _), (2, _), (3, _), (4, _)]) r_X8_weighPair_63 rfl ?_
            refine EV.gR r_X8_weighPair_64 la_89 ?_
            refine EV.l (lv' := [(0, _), (1, _), (2, _), (3, _), (4, _)]) r_X8_weighPair_67 rfl ?_
            refine EV.l (lv' := [(0, _), (1, _), (2, _), (3, _), (4, _)]) r_X8_weighPair_69 rfl ?_
            refine EV.gR r_X8_weighPair_70 la_89 ?_
            refine EV.l (lv' := [(0, _), (1, _), (2, _), (3, _), (4, _)]) r_X8_weighPair_73 rfl ?_
            refine EV.cv r_X8_weighPair_75 (aV1 mt_92 la_92) (c_getN (by omega) la_92 la_93 ((hx42.2.2 j (by omega)).trans (by rw [if_neg (Nat.lt_irrefl j)])) (by decide) (by decide) (by omega)) ?_
            refine EV.o r_X8_weighPair_78 (icN (1) (v := 1)) ?_
            refine EV.o r_X8_weighPair_79 iaddN ?_
            refine EV.cu r_X8_weighPair_80 (aV2 mt_93 la_92) (c_set la_92 la_93 (by decide) (by decide) (by omega) (by omega)) (fun I5 e5 => ?_)
            refine EV.l (lv' := [(0, _), (1, _), (2, _), (3, _), (4, _)]) r_X8_weighPair_83 rfl ?_
            rw [inc_nI]
            refine EV.g r_X8_weighPair_86 ?_
            refine EV.sub ?_ rfl ?_ (ih42 (j + 1, I5) ?_ ?_)
            · (try dsimp only) <;> (rfl)
            · (try dsimp only) <;> (rfl)
            · (try dsimp only) <;> (omega)
            · (try dsimp only) <;> (first | (subst e5; exact ⟨by omega, fun o h1 => (wr_row h1).trans (fr_ o h1), cj_put hx42.2.2 hf (by assumption)⟩) | exact ⟨by omega, fr_, cj_skip hx42.2.2 (by assumption)⟩)
      have h0 := L42 ((0, I3))
      try dsimp only at h0
      refine EV.sub ?_ rfl ?_ (h0 ?_)
      · (try dsimp only) <;> (rfl)
      · (try dsimp only) <;> (rfl)
      · (try dsimp only) <;> (exact ⟨Nat.zero_le _, fun _ _ => rfl, fun k hk => by rw [if_neg (Nat.not_lt_zero k), qr 93 (by decide)]; exact wp_.j k hk⟩)
    · -- 16 f
      have qf : fst1 (ftB κ l η bt br) (10 * b + n + 1) = some (10 * b + n) := fst1_0 hf (sumB_0 h16)
      refine EV.l (lv' := [(0, _), (1, _), (2, _), (3, _)]) r_X8_weighPair_19 rfl ?_
      refine EV.o r_X8_weighPair_20 (bpN (10) 10) ?_
      refine EV.l (lv' := [(0, _), (1, _), (2, _), (3, _)]) r_X8_weighPair_22 rfl ?_
      refine EV.o r_X8_weighPair_23 imulN ?_
      refine EV.l (lv' := [(0, _), (1, _), (2, _), (3, _)]) r_X8_weighPair_24 rfl ?_
      refine EV.o r_X8_weighPair_25 iaddN ?_
      refine EV.pIn r_X8_weighPair_26 la_89 (fun I2 e2 => ?_)
      refine EV.l (lv' := [(0, _), (1, _), (2, _), (3, _)]) r_X8_weighPair_29 rfl ?_
      refine EV.o r_X8_weighPair_30 rfl ?_
      refine EV.getV r_X8_weighPair_31 la_89 ((by subst e2; exact (wr_ne (Or.inr (by decide))).trans wp_.c)) ?_
      refine EV.o r_X8_weighPair_34 (icN (1) (v := 1)) ?_
      refine EV.o r_X8_weighPair_35 iaddN ?_
      refine EV.pIn r_X8_weighPair_36 la_89 (fun I3 e3 => ?_)
      have q8 : I3 89 8 = nI (ftC κ l η bt br (10 * b + n + 1)) := by subst e3; rw [wr_same]; exact congrArg nI (ftC_t hf)
      have q9 : I3 89 9 = opI (fst1 (ftB κ l η bt br) (10 * b + n + 1)) := by rw [qf]; subst e3; rw [wr_ne (Or.inr (by decide))]; first | exact wp_.f | (subst e2; exact wr_same)
      have qr : ∀ o, o ≠ 89 → I3 o = I o := fun o ho => by subst e3; first | exact wr_row ho | (rw [wr_row ho]; subst e2; exact wr_row ho)
      refine EV.o r_X8_weighPair_39 (icN (0) (v := 0)) ?_
      refine EV.l (lv' := [(0, _), (1, _), (2, _), (3, _), (4, _)]) r_X8_weighPair_40 rfl ?_
      have L42 : ∀ y_ : Nat × (Nat → Nat → Int32), (fun y => (y.1 ≤ κ.ns ∧ (∀ o, o ≠ 93 → y.2 o = I3 o) ∧ ∀ k, k < κ.ns → y.2 93 k = nI (if k < y.1 then ftJ κ l η bt br k (10 * b + n + 1) else ftJ κ l η bt br k (10 * b + n))) → EV none M_X8_weighPair d' 42 [(0, .ref 89), (1, .int (nI b)), (2, .int (nI n)), (3, .int (nI (cby κ l η (10 * b + n)))), (4, .int (nI y.1))] [] (hp y.2 J) (QU J (fun I' => WP κ l η bt br (10 * b + (n + 1)) I' ∧ ∀ o, o ≠ 89 → o ≠ 93 → I' o = I o))) y_ := by
        refine ev_loop (fun y => κ.ns - y.1) ?_
        intro ⟨j, I1⟩ ih42 hx42
        try dsimp only at ih42
        try dsimp only at hx42
        try dsimp only
        have jl := hx42.1
        have fr_ := hx42.2.1
        have hc1 := HC.fr (I' := I1) hc_ (fun x h1 h2 => (fr_ x (by omega)).trans (qr x (by omega)))
        refine EV.l (lv' := [(0, _), (1, _), (2, _), (3, _), (4, _)]) r_X8_weighPair_42 rfl ?_
        refine EV.l (lv' := [(0, _), (1, _), (2, _), (3, _), (4, _)]) r_X8_weighPair_44 rfl ?_
        refine EV.gR r_X8_weighPair_45 la_89 ?_
        refine EV.getV r_X8_weighPair_48 la_4 (hc1.ns) ?_
        refine EV.n2_ge r_X8_weighPair_51 (fun h51 => ?_) (fun h51 => ?_)
        · -- 51 t
          exact EV.ru r_X8_weighPair_89 (⟨⟨fun k hk => by rw [fr_ 91 (by decide), qr 91 (by decide)]; exact wp_.cv k hk, by rw [fr_ 89 (by decide)]; exact q8, by rw [fr_ 89 (by decide)]; exact q9, fun k hk => by rw [hx42.2.2 k hk, if_pos (by omega)]; rfl⟩, fun o h1 h2 => (fr_ o h2).trans (qr o h1)⟩)
        · -- 51 f
          refine EV.l (lv' := [(0, _), (1, _), (2, _), (3, _), (4, _)]) r_X8_weighPair_54 rfl ?_
          refine EV.l (lv' := [(0, _), (1, _), (2, _), (3, _), (4, _)]) r_X8_weighPair_55 rfl ?_
          refine EV.cv r_X8_weighPair_57 (aS2 mt_163) (c_has (by omega) (by omega) (by omega)) ?_
          refine EV.b0_eq r_X8_weighPair_60 (fun h60 => ?_) (fun h60 => ?_)
          · -- 60 t
            refine EV.l (lv' := [(0, _), (1, _), (2, _), (3, _), (4, _)]) r_X8_weighPair_83 rfl ?_
            rw [inc_nI]
            refine EV.g r_X8_weighPair_86 ?_
            refine EV.sub ?_ rfl ?_ (ih42 (j + 1, I1) ?_ ?_)
            · (try dsimp only) <;> (rfl)
            · (try dsimp only) <;> (rfl)
            · (try dsimp only) <;> (omega)
            · (try dsimp only) <;> (first | (subst e5; exact ⟨by omega, fun o h1 => (wr_row h1).trans (fr_ o h1), cj_put hx42.2.2 hf (by assumption)⟩) | exact ⟨by omega, fr_, cj_skip hx42.2.2 (by assumption)⟩)
          · -- 60 f
            refine EV.l (lv' := [(0, _), (1, _), (2, _), (3, _), (4, _)]) r_X8_weighPair_63 rfl ?_
            refine EV.gR r_X8_weighPair_64 la_89 ?_
            refine EV.l (lv' := [(0, _), (1, _), (2, _), (3, _), (4, _)]) r_X8_weighPair_67 rfl ?_
            refine EV.l (lv' := [(0, _), (1, _), (2, _), (3, _), (4, _)]) r_X8_weighPair_69 rfl ?_
            refine EV.gR r_X8_weighPair_70 la_89 ?_
            refine EV.l (lv' := [(0, _), (1, _), (2, _), (3, _), (4, _)]) r_X8_weighPair_73 rfl ?_
            refine EV.cv r_X8_weighPair_75 (aV1 mt_92 la_92) (c_getN (by omega) la_92 la_93 ((hx42.2.2 j (by omega)).trans (by rw [if_neg (Nat.lt_irrefl j)])) (by decide) (by decide) (by omega)) ?_
            refine EV.o r_X8_weighPair_78 (icN (1) (v := 1)) ?_
            refine EV.o r_X8_weighPair_79 iaddN ?_
            refine EV.cu r_X8_weighPair_80 (aV2 mt_93 la_92) (c_set la_92 la_93 (by decide) (by decide) (by omega) (by omega)) (fun I5 e5 => ?_)
            refine EV.l (lv' := [(0, _), (1, _), (2, _), (3, _), (4, _)]) r_X8_weighPair_83 rfl ?_
            rw [inc_nI]
            refine EV.g r_X8_weighPair_86 ?_
            refine EV.sub ?_ rfl ?_ (ih42 (j + 1, I5) ?_ ?_)
            · (try dsimp only) <;> (rfl)
            · (try dsimp only) <;> (rfl)
            · (try dsimp only) <;> (omega)
            · (try dsimp only) <;> (first | (subst e5; exact ⟨by omega, fun o h1 => (wr_row h1).trans (fr_ o h1), cj_put hx42.2.2 hf (by assumption)⟩) | exact ⟨by omega, fr_, cj_skip hx42.2.2 (by assumption)⟩)
      have h0 := L42 ((0, I3))
      try dsimp only at h0
      refine EV.sub ?_ rfl ?_ (h0 ?_)
      · (try dsimp only) <;> (rfl)
      · (try dsimp only) <;> (rfl)
      · (try dsimp only) <;> (exact ⟨Nat.zero_le _, fun _ _ => rfl, fun k hk => by rw [if_neg (Nat.not_lt_zero k), qr 93 (by decide)]; exact wp_.j k hk⟩)
  · -- 8 f
    have hf : ftB κ l η bt br (10 * b + n) = false := h8
    exact EV.ru r_X8_weighPair_11 (⟨⟨wp_.cv, wp_.c.trans (congrArg nI (ftC_f hf)), wp_.f.trans (congrArg opI (fst1_n hf).symm), fun k hk => (wp_.j k hk).trans (congrArg nI (ftJ_f hf))⟩, fun _ _ _ => rfl⟩)
theorem c_weighAll {d : Nat} {I : Nat → Nat → Int32} {J : Nat → Nat → Int64} {κ : CT} {l : LW} {η : HS} (hc_ : HC 4 κ I) (cb : CB κ) (hh : HH 71 η I) (hb_ : HB κ η) (hl : HL 46 l I) (lb : LB l) {bt br : Nat} (hbt : I 60 0 = nI bt) (hbr : I 60 1 = nI br) (hbt2 : bt < 512) (hbr2 : br < 512)  (hd : 7 ≤ d) : RU d 103 [.ref 89] I J (fun I' => WP κ l η bt br (10 * κ.nb) I' ∧ ∀ o, o ≠ 50 → o ≠ 52 → o ≠ 89 → o ≠ 91 → o ≠ 93 → I' o = I o) := by
  refine RU.in (d0 := 6) hd mt_103 (Nat.le_of_ble_eq_true rfl) (fun d' hd' => ?_)
  have bns := cb.ns; have bnb := cb.nb; have bnc := cb.nc; have bnr := cb.nr
  have pn := pow_ns cb; have p0 := Nat.two_pow_pos κ.ns
  show EV none M_X8_weighPairs d' 0 [(0, .ref 89)] [] (hp I J) _
  refine EV.l (lv' := [(0, _)]) r_X8_weighPairs_0 rfl ?_
  refine EV.cu r_X8_weighPairs_1 (aV0 mt_96 la_89) (c_coverAll hc_ cb hh hb_ hl lb (by omega)) (fun I2 h2 => ?_)
  obtain ⟨cv2, fr2⟩ := h2
  refine EV.l (lv' := [(0, _)]) r_X8_weighPairs_4 rfl ?_
  refine EV.o r_X8_weighPairs_5 (icN (0) (v := 0)) ?_
  refine EV.pIn r_X8_weighPairs_6 la_89 (fun I3 e3 => ?_)
  refine EV.l (lv' := [(0, _)]) r_X8_weighPairs_9 rfl ?_
  refine EV.o r_X8_weighPairs_10 (icZ (-1)) ?_
  refine EV.pIn r_X8_weighPairs_11 la_89 (fun I4 e4 => ?_)
  have f4 : ∀ o, o ≠ 89 → I4 o = I2 o := fun o ho => by subst e4; subst e3; exact (wr_row ho).trans (wr_row ho)
  have q8 : I4 89 8 = nI 0 := by subst e4; subst e3; exact (wr_ne (Or.inr (by decide))).trans wr_same
  have q9 : I4 89 9 = zI (-1) := by subst e4; exact wr_same
  refine EV.o r_X8_weighPairs_14 (icN (0) (v := 0)) ?_
  refine EV.l (lv' := [(0, _), (1, _)]) r_X8_weighPairs_15 rfl ?_
  have L16 : ∀ y_ : Nat × (Nat → Nat → Int32), (fun y => (y.1 ≤ κ.ns ∧ (∀ o, o ≠ 93 → y.2 o = I4 o) ∧ ∀ k, k < y.1 → y.2 93 k = nI 0) → EV none M_X8_weighPairs d' 16 [(0, .ref 89), (1, .int (nI y.1))] [] (hp y.2 J) (QU J (fun I' => WP κ l η bt br (10 * κ.nb) I' ∧ ∀ o, o ≠ 50 → o ≠ 52 → o ≠ 89 → o ≠ 91 → o ≠ 93 → I' o = I o))) y_ := by
    refine ev_loop (fun y => κ.ns - y.1) ?_
    intro ⟨s, I1⟩ ih16 hx16
    try dsimp only at ih16
    try dsimp only at hx16
    try dsimp only
    have sl := hx16.1
    have f5 := hx16.2.1
    have f6 : ∀ o, o ≠ 50 → o ≠ 52 → o ≠ 89 → o ≠ 91 → o ≠ 93 → I1 o = I o := fun o h1 h2 h3 h4 h5 => (f5 o h5).trans ((f4 o h3).trans (fr2 o h1 h2 h4))
    have hc1 := HC.fr (I' := I1) hc_ (fun x h1 h2 => f6 x (by omega) (by omega) (by omega) (by omega) (by omega))
    refine EV.l (lv' := [(0, _), (1, _)]) r_X8_weighPairs_16 rfl ?_
    refine EV.l (lv' := [(0, _), (1, _)]) r_X8_weighPairs_17 rfl ?_
    refine EV.gR r_X8_weighPairs_18 la_89 ?_
    refine EV.getV r_X8_weighPairs_21 la_4 (hc1.ns) ?_
    refine EV.n2_ge r_X8_weighPairs_24 (fun h24 => ?_) (fun h24 => ?_)
    · -- 24 t
      refine EV.o r_X8_weighPairs_42 (icN (0) (v := 0)) ?_
      refine EV.l (lv' := [(0, _), (1, _)]) r_X8_weighPairs_43 rfl ?_
      have L44 : ∀ y_ : Nat × (Nat → Nat → Int32), (fun y => (y.1 ≤ κ.nb ∧ WP κ l η bt br (10 * y.1) y.2 ∧ ∀ o, o ≠ 50 → o ≠ 52 → o ≠ 89 → o ≠ 91 → o ≠ 93 → y.2 o = I o) → EV none M_X8_weighPairs d' 44 [(0, .ref 89), (1, .int (nI y.1))] [] (hp y.2 J) (QU J (fun I' => WP κ l η bt br (10 * κ.nb) I' ∧ ∀ o, o ≠ 50 → o ≠ 52 → o ≠ 89 → o ≠ 91 → o ≠ 93 → I' o = I o))) y_ := by
        refine ev_loop (fun y => κ.nb - y.1) ?_
        intro ⟨b, I5⟩ ih44 hx44
        try dsimp only at ih44
        try dsimp only at hx44
        try dsimp only
        have bl := hx44.1
        have fr_ := hx44.2.2
        have wp_ := hx44.2.1
        have hc1 := HC.fr (I' := I5) hc_ (fun x h1 h2 => fr_ x (by omega) (by omega) (by omega) (by omega) (by omega))
        have t1 : I5 60 0 = nI bt := by rw [fr_ 60 (by decide) (by decide) (by decide) (by decide) (by decide)]; exact hbt
        have t2 : I5 60 1 = nI br := by rw [fr_ 60 (by decide) (by decide) (by decide) (by decide) (by decide)]; exact hbr
        refine EV.l (lv' := [(0, _), (1, _)]) r_X8_weighPairs_44 rfl ?_
        refine EV.l (lv' := [(0, _), (1, _)]) r_X8_weighPairs_45 rfl ?_
        refine EV.gR r_X8_weighPairs_46 la_89 ?_
        refine EV.getV r_X8_weighPairs_49 la_4 (hc1.nb) ?_
        refine EV.n2_ge r_X8_weighPairs_52 (fun h52 => ?_) (fun h52 => ?_)
        · -- 52 t
          exact EV.ru r_X8_weighPairs_112 (⟨by rw [show κ.nb = b by omega]; exact wp_, fr_⟩)
        · -- 52 f
          refine EV.l (lv' := [(0, _), (1, _)]) r_X8_weighPairs_55 rfl ?_
          refine EV.l (lv' := [(0, _), (1, _)]) r_X8_weighPairs_56 rfl ?_
          refine EV.cv r_X8_weighPairs_57 (aV1 mt_104 la_89) (c_others hc1 cb wp_.cv (by omega) (by omega)) ?_
          refine EV.l (lv' := [(0, _), (1, _), (2, _)]) r_X8_weighPairs_60 rfl ?_
          refine EV.o r_X8_weighPairs_61 (icN (0) (v := 0)) ?_
          refine EV.l (lv' := [(0, _), (1, _), (2, _), (3, _)]) r_X8_weighPairs_62 rfl ?_
          have L63 : ∀ y_ : Nat × (Nat → Nat → Int32), (fun y => (y.1 ≤ 10 ∧ WP κ l η bt br (10 * b + y.1) y.2 ∧ ∀ o, o ≠ 50 → o ≠ 52 → o ≠ 89 → o ≠ 91 → o ≠ 93 → y.2 o = I o) → EV none M_X8_weighPairs d' 63 [(0, .ref 89), (1, .int (nI b)), (2, .int (nI (ors κ l η b κ.nb))), (3, .int (nI y.1))] [] (hp y.2 J) (QU J (fun I' => WP κ l η bt br (10 * κ.nb) I' ∧ ∀ o, o ≠ 50 → o ≠ 52 → o ≠ 89 → o ≠ 91 → o ≠ 93 → I' o = I o))) y_ := by
            refine ev_loop (fun y => 10 - y.1) ?_
            intro ⟨n, I7⟩ ih63 hx63
            try dsimp only at ih63
            try dsimp only at hx63
            try dsimp only
            have nl := hx63.1
            have fr_ := hx63.2.2
            have wp_ := hx63.2.1
            have hc1 := HC.fr (I' := I7) hc_ (fun x h1 h2 => fr_ x (by omega) (by omega) (by omega) (by omega) (by omega))
            have t1 : I7 60 0 = nI bt := by rw [fr_ 60 (by decide) (by decide) (by decide) (by decide) (by decide)]; exact hbt
            have t2 : I7 60 1 = nI br := by rw [fr_ 60 (by decide) (by decide) (by decide) (by decide) (by decide)]; exact hbr
            have ol := ors_lt (κ := κ) (l := l) (η := η) (b := b) κ.nb; have vl := ovr_lt (κ := κ) (l := l) (η := η) (b := b) (n := n)
            refine EV.l (lv' := [(0, _), (1, _), (2, _), (3, _)]) r_X8_weighPairs_63 rfl ?_
            refine EV.o r_X8_weighPairs_64 (bpN (10) 10) ?_
            refine EV.n2_ge r_X8_weighPairs_66 (fun h66 => ?_) (fun h66 => ?_)
            · -- 66 t
              refine EV.l (lv' := [(0, _), (1, _), (2, _), (3, _)]) r_X8_weighPairs_106 rfl ?_
              rw [inc_nI]
              refine EV.g r_X8_weighPairs_109 ?_
              refine EV.fg (lv' := [(0, _), (1, _)]) r_X8_weighPairs_44 rfl rfl rfl ?_
              refine EV.sub ?_ rfl ?_ (ih44 (b + 1, I7) ?_ ?_)
              · (try dsimp only) <;> (rfl)
              · (try dsimp only) <;> (rfl)
              · (try dsimp only) <;> (omega)
              · (try dsimp only) <;> (exact ⟨by omega, by rw [show 10 * (b + 1) = 10 * b + n by omega]; exact wp_, fr_⟩)
            · -- 66 f
              refine EV.l (lv' := [(0, _), (1, _), (2, _), (3, _)]) r_X8_weighPairs_69 rfl ?_
              refine EV.l (lv' := [(0, _), (1, _), (2, _), (3, _)]) r_X8_weighPairs_70 rfl ?_
              refine EV.l (lv' := [(0, _), (1, _), (2, _), (3, _)]) r_X8_weighPairs_71 rfl ?_
              refine EV.l (lv' := [(0, _), (1, _), (2, _), (3, _)]) r_X8_weighPairs_72 rfl ?_
              refine EV.gR r_X8_weighPairs_73 la_89 ?_
              refine EV.cv r_X8_weighPairs_76 (aV0 mt_14 la_4) (b_all hc1 cb (by omega)) ?_
              refine EV.l (lv' := [(0, _), (1, _), (2, _), (3, _)]) r_X8_weighPairs_79 rfl ?_
              refine EV.l (lv' := [(0, _), (1, _), (2, _), (3, _)]) r_X8_weighPairs_80 rfl ?_
              refine EV.gR r_X8_weighPairs_81 la_89 ?_
              refine EV.l (lv' := [(0, _), (1, _), (2, _), (3, _)]) r_X8_weighPairs_84 rfl ?_
              refine EV.o r_X8_weighPairs_85 (bpN (10) 10) ?_
              refine EV.o r_X8_weighPairs_87 imulN ?_
              refine EV.l (lv' := [(0, _), (1, _), (2, _), (3, _)]) r_X8_weighPairs_88 rfl ?_
              refine EV.o r_X8_weighPairs_89 iaddN ?_
              refine EV.cv r_X8_weighPairs_90 (aV1 mt_92 la_90) (c_getN (by omega) la_90 la_91 (cv_at wp_.cv (by omega) (by omega)) (by decide) (by decide) (by omega)) ?_
              refine EV.o r_X8_weighPairs_93 iorN ?_
              refine EV.o r_X8_weighPairs_94 (icZ (-1)) ?_
              refine EV.o r_X8_weighPairs_95 inotN ?_
              refine EV.o r_X8_weighPairs_96 iandC ?_
              rw [cby_at (by omega)]
              refine EV.cu r_X8_weighPairs_97 (aV3 mt_105 la_89) (c_weigh hc1 cb t1 t2 hbt2 hbr2 (by omega) (by omega) wp_ (by omega)) (fun I8 h8 => ?_)
              obtain ⟨wp8, fr8⟩ := h8
              refine EV.l (lv' := [(0, _), (1, _), (2, _), (3, _)]) r_X8_weighPairs_100 rfl ?_
              rw [inc_nI]
              refine EV.g r_X8_weighPairs_103 ?_
              refine EV.sub ?_ rfl ?_ (ih63 (n + 1, I8) ?_ ?_)
              · (try dsimp only) <;> (rfl)
              · (try dsimp only) <;> (rfl)
              · (try dsimp only) <;> (omega)
              · (try dsimp only) <;> (exact ⟨by omega, wp8, fun o h1 h2 h3 h4 h5 => (fr8 o h3 h5).trans (fr_ o h1 h2 h3 h4 h5)⟩)
          have h0 := L63 ((0, I5))
          try dsimp only at h0
          refine EV.sub ?_ rfl ?_ (h0 ?_)
          · (try dsimp only) <;> (rfl)
          · (try dsimp only) <;> (rfl)
          · (try dsimp only) <;> (exact ⟨Nat.zero_le _, wp_, fr_⟩)
      have h0 := L44 ((0, I1))
      try dsimp only at h0
      refine EV.sub ?_ rfl ?_ (h0 ?_)
      · (try dsimp only) <;> (rfl)
      · (try dsimp only) <;> (rfl)
      · (try dsimp only) <;> (exact ⟨Nat.zero_le _, ⟨fun j hj => by rw [f5 91 (by decide), f4 91 (by decide)]; exact cv2 j hj, by rw [f5 89 (by decide)]; exact q8, by rw [f5 89 (by decide)]; exact q9, fun k hk => by rw [hx16.2.2 k (by omega)]; rfl⟩, f6⟩)
    · -- 24 f
      refine EV.l (lv' := [(0, _), (1, _)]) r_X8_weighPairs_27 rfl ?_
      refine EV.gR r_X8_weighPairs_28 la_89 ?_
      refine EV.l (lv' := [(0, _), (1, _)]) r_X8_weighPairs_31 rfl ?_
      refine EV.o r_X8_weighPairs_32 (icN (0) (v := 0)) ?_
      refine EV.cu r_X8_weighPairs_33 (aV2 mt_93 la_92) (c_set la_92 la_93 (by decide) (by decide) (by omega) (by omega)) (fun I9 e9 => ?_)
      refine EV.l (lv' := [(0, _), (1, _)]) r_X8_weighPairs_36 rfl ?_
      rw [inc_nI]
      refine EV.g r_X8_weighPairs_39 ?_
      refine EV.sub ?_ rfl ?_ (ih16 (s + 1, I9) ?_ ?_)
      · (try dsimp only) <;> (rfl)
      · (try dsimp only) <;> (rfl)
      · (try dsimp only) <;> (omega)
      · (try dsimp only) <;> (subst e9; exact ⟨by omega, fun o h1 => (wr_row h1).trans (f5 o h1), wr_ext (f := fun _ => nI 0) hx16.2.2⟩)
  have h0 := L16 ((0, I4))
  try dsimp only at h0
  refine EV.sub ?_ rfl ?_ (h0 ?_)
  · (try dsimp only) <;> (rfl)
  · (try dsimp only) <;> (rfl)
  · (try dsimp only) <;> (exact ⟨Nat.zero_le _, fun _ _ => rfl, fun k hk => absurd hk (Nat.not_lt_zero k)⟩)
theorem c_pleft {d : Nat} {I : Nat → Nat → Int32} {J : Nat → Nat → Int64} {κ : CT} {l : LW} {η : HS} {bt br : Nat} (cb : CB κ) (wp_ : WP κ l η bt br (10 * κ.nb) I) {k : Nat} (hk : k < κ.ns)  (hd : 3 ≤ d) : RV d 106 [.ref 89, .int (nI k)] I J (nI (plM κ l η bt br k)) := by
  refine RV.in (d0 := 2) hd mt_106 (Nat.le_of_ble_eq_true rfl) (fun d' hd' => ?_)
  have bns := cb.ns; have bnb := cb.nb; have bnc := cb.nc; have bnr := cb.nr
  have jc := ftJ_C (κ := κ) (l := l) (η := η) (bt := bt) (br := br) (j := k) (i := 10 * κ.nb); have cl_ := ftC_le (κ := κ) (l := l) (η := η) (bt := bt) (br := br) (i := 10 * κ.nb)
  show EV none M_X8_pairsLeft d' 0 [(0, .ref 89), (1, .int (nI k))] [] (hp I J) _
  refine EV.l (lv' := [(0, _), (1, _)]) r_X8_pairsLeft_0 rfl ?_
  refine EV.gR r_X8_pairsLeft_1 la_89 ?_
  refine EV.l (lv' := [(0, _), (1, _)]) r_X8_pairsLeft_4 rfl ?_
  refine EV.cv r_X8_pairsLeft_5 (aV1 mt_92 la_92) (c_getN (by omega) la_92 la_93 (wp_.j k hk) (by decide) (by decide) (by omega)) ?_
  refine EV.l (lv' := [(0, _), (1, _), (2, _)]) r_X8_pairsLeft_8 rfl ?_
  refine EV.l (lv' := [(0, _), (1, _), (2, _)]) r_X8_pairsLeft_9 rfl ?_
  refine EV.l (lv' := [(0, _), (1, _), (2, _)]) r_X8_pairsLeft_10 rfl ?_
  refine EV.getV r_X8_pairsLeft_11 la_89 (wp_.c) ?_
  refine EV.l (lv' := [(0, _), (1, _), (2, _)]) r_X8_pairsLeft_14 rfl ?_
  refine EV.o r_X8_pairsLeft_15 (isubN) ?_
  refine EV.pmax r_X8_pairsLeft_16 ?_
  exact EV.rv r_X8_pairsLeft_19 (rfl)
theorem c_bestq {d : Nat} {I : Nat → Nat → Int32} {J : Nat → Nat → Int64} {κ : CT} {l : LW} {η : HS} {bt br : Nat} (hc_ : HC 4 κ I) (cb : CB κ) (wp_ : WP κ l η bt br (10 * κ.nb) I) (hbt : I 60 0 = nI bt) (hbt2 : bt < 512)  (hd : 4 ≤ d) : RV d 107 [.ref 89] I J (opI (lkO κ l η bt br κ.ns)) := by
  refine RV.in (d0 := 3) hd mt_107 (Nat.le_of_ble_eq_true rfl) (fun d' hd' => ?_)
  have bns := cb.ns; have bnb := cb.nb; have bnc := cb.nc; have bnr := cb.nr
  show EV none M_X8_bestQuestion d' 0 [(0, .ref 89)] [] (hp I J) _
  refine EV.o r_X8_bestQuestion_0 (icZ (-1)) ?_
  refine EV.l (lv' := [(0, _), (1, _)]) r_X8_bestQuestion_1 rfl ?_
  refine EV.o r_X8_bestQuestion_2 (icN (0) (v := 0)) ?_
  refine EV.l (lv' := [(0, _), (1, _), (2, _)]) r_X8_bestQuestion_3 rfl ?_
  have L4 : ∀ y_ : Nat, (fun k => k ≤ κ.ns → EV none M_X8_bestQuestion d' 4 [(0, .ref 89), (1, .int (opI (bst (lkP bt) (lkL κ l η bt br) k))), (2, .int (nI k))] [] (hp I J) (QV I J (opI (lkO κ l η bt br κ.ns)))) y_ := by
    refine ev_loop (fun k => κ.ns - k) ?_
    intro k ih4 hx4
    try dsimp only at ih4
    try dsimp only at hx4
    try dsimp only
    have pl1 := plM_le (l := l) (η := η) (bt := bt) (br := br) (j := k) cb
    refine EV.l (lv' := [(0, _), (1, _), (2, _)]) r_X8_bestQuestion_4 rfl ?_
    refine EV.l (lv' := [(0, _), (1, _), (2, _)]) r_X8_bestQuestion_5 rfl ?_
    refine EV.gR r_X8_bestQuestion_6 la_89 ?_
    refine EV.getV r_X8_bestQuestion_9 la_4 (hc_.ns) ?_
    refine EV.n2_ge r_X8_bestQuestion_12 (fun h12 => ?_) (fun h12 => ?_)
    · -- 12 t
      refine EV.l (lv' := [(0, _), (1, _), (2, _)]) r_X8_bestQuestion_55 rfl ?_
      exact EV.rv r_X8_bestQuestion_56 (by rw [show k = κ.ns by omega]; rfl)
    · -- 12 f
      refine EV.l (lv' := [(0, _), (1, _), (2, _)]) r_X8_bestQuestion_15 rfl ?_
      refine EV.gR r_X8_bestQuestion_16 la_89 ?_
      refine EV.getV r_X8_bestQuestion_19 la_60 (hbt) ?_
      refine EV.l (lv' := [(0, _), (1, _), (2, _)]) r_X8_bestQuestion_22 rfl ?_
      refine EV.cv r_X8_bestQuestion_23 (aS2 mt_163) (c_has (by omega) (by omega) (by omega)) ?_
      refine EV.b0_ne r_X8_bestQuestion_26 (fun h26 => ?_) (fun h26 => ?_)
      · -- 26 t
        refine EV.l (lv' := [(0, _), (1, _), (2, _)]) r_X8_bestQuestion_49 rfl ?_
        rw [inc_nI]
        refine EV.g r_X8_bestQuestion_52 ?_
        refine EV.sub ?_ rfl ?_ (ih4 (k + 1) ?_ ?_)
        · first | (rw [bst_n (p := lkP bt) (lt := lkL κ l η bt br) (lkP_f (by assumption))]; done) | (rw [bst_l (p := lkP bt) (lt := lkL κ l η bt br) (by assumption) (decide_eq_false (by omega))]; rfl) | (rw [bst_0 (p := lkP bt) (lt := lkL κ l η bt br) (lkP_t (by assumption)) (by assumption)]; rfl) | (rw [bst_t (p := lkP bt) (lt := lkL κ l η bt br) (lkP_t (by assumption)) (by assumption) (decide_eq_true (by omega))]; rfl)
        · rfl
        · omega
        · omega
      · -- 26 f
        refine EV.l (lv' := [(0, _), (1, _), (2, _)]) r_X8_bestQuestion_29 rfl ?_
        refine EV.o r_X8_bestQuestion_30 (icZ (-1)) ?_
        refine EV.op_eq r_X8_bestQuestion_31 (fun h31 => ?_) (fun h31 => ?_) (fun c ec_ => by have := bst_lt2 ec_ hx4; have := cb.ns; omega)
        · -- 31 t
          refine EV.l (lv' := [(0, _), (1, _), (2, _)]) r_X8_bestQuestion_47 rfl ?_
          refine EV.l (lv' := [(0, _), (1, _), (2, _)]) r_X8_bestQuestion_48 rfl ?_
          refine EV.l (lv' := [(0, _), (1, _), (2, _)]) r_X8_bestQuestion_49 rfl ?_
          rw [inc_nI]
          refine EV.g r_X8_bestQuestion_52 ?_
          refine EV.sub ?_ rfl ?_ (ih4 (k + 1) ?_ ?_)
          · first | (rw [bst_n (p := lkP bt) (lt := lkL κ l η bt br) (lkP_f (by assumption))]; done) | (rw [bst_l (p := lkP bt) (lt := lkL κ l η bt br) (by assumption) (decide_eq_false (by omega))]; rfl) | (rw [bst_0 (p := lkP bt) (lt := lkL κ l η bt br) (lkP_t (by assumption)) (by assumption)]; rfl) | (rw [bst_t (p := lkP bt) (lt := lkL κ l η bt br) (lkP_t (by assumption)) (by assumption) (decide_eq_true (by omega))]; rfl)
          · rfl
          · omega
          · omega
        · -- 31 f
          obtain ⟨c, ec_⟩ := h31
          rw [ec_, opI_some]
          have bc_ := bst_lt ec_
          have pl2 := plM_le (l := l) (η := η) (bt := bt) (br := br) (j := c) cb
          refine EV.l (lv' := [(0, _), (1, _), (2, _)]) r_X8_bestQuestion_34 rfl ?_
          refine EV.l (lv' := [(0, _), (1, _), (2, _)]) r_X8_bestQuestion_35 rfl ?_
          refine EV.cv r_X8_bestQuestion_36 (aV1 mt_106 la_89) (c_pleft cb wp_ (by omega) (by omega)) ?_
          refine EV.l (lv' := [(0, _), (1, _), (2, _)]) r_X8_bestQuestion_39 rfl ?_
          refine EV.l (lv' := [(0, _), (1, _), (2, _)]) r_X8_bestQuestion_40 rfl ?_
          refine EV.cv r_X8_bestQuestion_41 (aV1 mt_106 la_89) (c_pleft cb wp_ (by omega) (by omega)) ?_
          refine EV.n2_ge r_X8_bestQuestion_44 (fun h44 => ?_) (fun h44 => ?_)
          · -- 44 t
            refine EV.l (lv' := [(0, _), (1, _), (2, _)]) r_X8_bestQuestion_49 rfl ?_
            rw [inc_nI]
            refine EV.g r_X8_bestQuestion_52 ?_
            refine EV.sub ?_ rfl ?_ (ih4 (k + 1) ?_ ?_)
            · first | (rw [bst_n (p := lkP bt) (lt := lkL κ l η bt br) (lkP_f (by assumption))]; done) | (rw [bst_l (p := lkP bt) (lt := lkL κ l η bt br) (by assumption) (decide_eq_false (by omega))]; rfl) | (rw [bst_0 (p := lkP bt) (lt := lkL κ l η bt br) (lkP_t (by assumption)) (by assumption)]; rfl) | (rw [bst_t (p := lkP bt) (lt := lkL κ l η bt br) (lkP_t (by assumption)) (by assumption) (decide_eq_true (by omega))]; rfl)
            · rfl
            · omega
            · omega
          · -- 44 f
            refine EV.l (lv' := [(0, _), (1, _), (2, _)]) r_X8_bestQuestion_47 rfl ?_
            refine EV.l (lv' := [(0, _), (1, _), (2, _)]) r_X8_bestQuestion_48 rfl ?_
            refine EV.l (lv' := [(0, _), (1, _), (2, _)]) r_X8_bestQuestion_49 rfl ?_
            rw [inc_nI]
            refine EV.g r_X8_bestQuestion_52 ?_
            refine EV.sub ?_ rfl ?_ (ih4 (k + 1) ?_ ?_)
            · first | (rw [bst_n (p := lkP bt) (lt := lkL κ l η bt br) (lkP_f (by assumption))]; done) | (rw [bst_l (p := lkP bt) (lt := lkL κ l η bt br) (by assumption) (decide_eq_false (by omega))]; rfl) | (rw [bst_0 (p := lkP bt) (lt := lkL κ l η bt br) (lkP_t (by assumption)) (by assumption)]; rfl) | (rw [bst_t (p := lkP bt) (lt := lkL κ l η bt br) (lkP_t (by assumption)) (by assumption) (decide_eq_true (by omega))]; rfl)
            · rfl
            · omega
            · omega
  have h0 := L4 (0)
  try dsimp only at h0
  refine EV.sub ?_ rfl ?_ (h0 ?_)
  · rfl
  · rfl
  · omega
theorem c_fits0 {d : Nat} {I : Nat → Nat → Int32} {J : Nat → Nat → Int64} {κ : CT} {l : LW} {η : HS} (hc_ : HC 4 κ I) (cb : CB κ) (hh : HH 71 η I) (hb_ : HB κ η) (hl : HL 46 l I) (lb : LB l) {bt br : Nat} (hbt : I 60 0 = nI bt) (hbr : I 60 1 = nI br) (hbt2 : bt < 512) (hbr2 : br < 512)  (hd : 10 ≤ d) : RI d 132 [.ref 0, .int (nI 0)] I J (fun v I' => v = nI (ftC κ l η bt br (10 * κ.nb)) ∧ FR I I') := by
  refine RI.in (d0 := 9) hd mt_132 (Nat.le_of_ble_eq_true rfl) (fun d' hd' => ?_)
  have bns := cb.ns; have bnb := cb.nb; have bnc := cb.nc; have bnr := cb.nr
  show EV none M_X10_fits d' 0 [(0, .ref 0), (1, .int (nI 0))] [] (hp I J) _
  refine EV.l (lv' := [(0, _), (1, _)]) r_X10_fits_0 rfl ?_
  refine EV.l (lv' := [(0, _), (1, _)]) r_X10_fits_1 rfl ?_
  refine EV.n0_eq r_X10_fits_2 (fun h2 => ?_) (fun h2 => ?_)
  · -- 2 t
    refine EV.o r_X10_fits_10 (icN (1) (v := 1)) ?_
    refine EV.g r_X10_fits_11 ?_
    refine EV.cu r_X10_fits_15 (aV1 mt_159 la_0) (c_arg1 (by omega)) (fun I2 e2 => ?_)
    have e2 := e2.symm; subst e2
    refine EV.l (lv' := [(0, _), (1, _)]) r_X10_fits_18 rfl ?_
    refine EV.gR r_X10_fits_19 la_0 ?_
    refine EV.cu r_X10_fits_22 (aV0 mt_103 la_89) (c_weighAll hc_ cb hh hb_ hl lb hbt hbr hbt2 hbr2 (by omega)) (fun I2 h2 => ?_)
    obtain ⟨wp_, fr_⟩ := h2
    have hc1 := HC.fr (I' := I2) hc_ (fun x h1 h2 => fr_ x (by omega) (by omega) (by omega) (by omega) (by omega))
    have t1 : I2 60 0 = nI bt := by rw [fr_ 60 (by decide) (by decide) (by decide) (by decide) (by decide)]; exact hbt
    refine EV.l (lv' := [(0, _), (1, _)]) r_X10_fits_25 rfl ?_
    refine EV.n0_ne r_X10_fits_26 (fun h26 => ?_) (fun h26 => ?_)
    · omega
    · -- 26 f
      refine EV.l (lv' := [(0, _), (1, _)]) r_X10_fits_29 rfl ?_
      refine EV.gR r_X10_fits_30 la_0 ?_
      refine EV.getV r_X10_fits_33 la_89 (wp_.c) ?_
      refine EV.g r_X10_fits_36 ?_
      exact EV.ri r_X10_fits_46 (⟨rfl, FR.sc fr_⟩)
  · omega
theorem c_fits1 {d : Nat} {I : Nat → Nat → Int32} {J : Nat → Nat → Int64} {κ : CT} {l : LW} {η : HS} (hc_ : HC 4 κ I) (cb : CB κ) (hh : HH 71 η I) (hb_ : HB κ η) (hl : HL 46 l I) (lb : LB l) {bt br : Nat} (hbt : I 60 0 = nI bt) (hbr : I 60 1 = nI br) (hbt2 : bt < 512) (hbr2 : br < 512)  (hd : 10 ≤ d) : RI d 132 [.ref 0, .int (nI 1)] I J (fun v I' => v = opI (fst1 (ftB κ l η bt br) (10 * κ.nb)) ∧ FR I I') := by
  refine RI.in (d0 := 9) hd mt_132 (Nat.le_of_ble_eq_true rfl) (fun d' hd' => ?_)
  have bns := cb.ns; have bnb := cb.nb; have bnc := cb.nc; have bnr := cb.nr
  show EV none M_X10_fits d' 0 [(0, .ref 0), (1, .int (nI 1))] [] (hp I J) _
  refine EV.l (lv' := [(0, _), (1, _)]) r_X10_fits_0 rfl ?_
  refine EV.l (lv' := [(0, _), (1, _)]) r_X10_fits_1 rfl ?_
  refine EV.n0_eq r_X10_fits_2 (fun h2 => ?_) (fun h2 => ?_)
  · omega
  · -- 2 f
    refine EV.l (lv' := [(0, _), (1, _)]) r_X10_fits_5 rfl ?_
    refine EV.o r_X10_fits_6 (icN (1) (v := 1)) ?_
    refine EV.n2_ne r_X10_fits_7 (fun h7 => ?_) (fun h7 => ?_)
    · omega
    · -- 7 f
      refine EV.o r_X10_fits_10 (icN (1) (v := 1)) ?_
      refine EV.g r_X10_fits_11 ?_
      refine EV.cu r_X10_fits_15 (aV1 mt_159 la_0) (c_arg1 (by omega)) (fun I2 e2 => ?_)
      have e2 := e2.symm; subst e2
      refine EV.l (lv' := [(0, _), (1, _)]) r_X10_fits_18 rfl ?_
      refine EV.gR r_X10_fits_19 la_0 ?_
      refine EV.cu r_X10_fits_22 (aV0 mt_103 la_89) (c_weighAll hc_ cb hh hb_ hl lb hbt hbr hbt2 hbr2 (by omega)) (fun I2 h2 => ?_)
      obtain ⟨wp_, fr_⟩ := h2
      have hc1 := HC.fr (I' := I2) hc_ (fun x h1 h2 => fr_ x (by omega) (by omega) (by omega) (by omega) (by omega))
      have t1 : I2 60 0 = nI bt := by rw [fr_ 60 (by decide) (by decide) (by decide) (by decide) (by decide)]; exact hbt
      refine EV.l (lv' := [(0, _), (1, _)]) r_X10_fits_25 rfl ?_
      refine EV.n0_ne r_X10_fits_26 (fun h26 => ?_) (fun h26 => ?_)
      · -- 26 t
        refine EV.l (lv' := [(0, _), (1, _)]) r_X10_fits_39 rfl ?_
        refine EV.gR r_X10_fits_40 la_0 ?_
        refine EV.getV r_X10_fits_43 la_89 (wp_.f) ?_
        exact EV.ri r_X10_fits_46 (⟨rfl, FR.sc fr_⟩)
      · omega
theorem c_look0 {d : Nat} {I : Nat → Nat → Int32} {J : Nat → Nat → Int64} {κ : CT} {l : LW} {η : HS} (hc_ : HC 4 κ I) (cb : CB κ) (hh : HH 71 η I) (hb_ : HB κ η) (hl : HL 46 l I) (lb : LB l) {bt br : Nat} (hbt : I 60 0 = nI bt) (hbr : I 60 1 = nI br) (hbt2 : bt < 512) (hbr2 : br < 512)  (hd : 10 ≤ d) : RI d 133 [.ref 0, .int (nI 0)] I J (fun v I' => v = opI (lkO κ l η bt br κ.ns) ∧ FR I I') := by
  refine RI.in (d0 := 9) hd mt_133 (Nat.le_of_ble_eq_true rfl) (fun d' hd' => ?_)
  have bns := cb.ns; have bnb := cb.nb; have bnc := cb.nc; have bnr := cb.nr
  show EV none M_X10_look d' 0 [(0, .ref 0), (1, .int (nI 0))] [] (hp I J) _
  refine EV.l (lv' := [(0, _), (1, _)]) r_X10_look_0 rfl ?_
  refine EV.l (lv' := [(0, _), (1, _)]) r_X10_look_1 rfl ?_
  refine EV.n0_eq r_X10_look_2 (fun h2 => ?_) (fun h2 => ?_)
  · -- 2 t
    refine EV.o r_X10_look_10 (icN (1) (v := 1)) ?_
    refine EV.g r_X10_look_11 ?_
    refine EV.cu r_X10_look_15 (aV1 mt_159 la_0) (c_arg1 (by omega)) (fun I2 e2 => ?_)
    have e2 := e2.symm; subst e2
    refine EV.l (lv' := [(0, _), (1, _)]) r_X10_look_18 rfl ?_
    refine EV.gR r_X10_look_19 la_0 ?_
    refine EV.cu r_X10_look_22 (aV0 mt_103 la_89) (c_weighAll hc_ cb hh hb_ hl lb hbt hbr hbt2 hbr2 (by omega)) (fun I2 h2 => ?_)
    obtain ⟨wp_, fr_⟩ := h2
    have hc1 := HC.fr (I' := I2) hc_ (fun x h1 h2 => fr_ x (by omega) (by omega) (by omega) (by omega) (by omega))
    have t1 : I2 60 0 = nI bt := by rw [fr_ 60 (by decide) (by decide) (by decide) (by decide) (by decide)]; exact hbt
    refine EV.l (lv' := [(0, _), (1, _)]) r_X10_look_25 rfl ?_
    refine EV.gR r_X10_look_26 la_0 ?_
    refine EV.cv r_X10_look_29 (aV0 mt_107 la_89) (c_bestq hc1 cb wp_ t1 hbt2 (by omega)) ?_
    refine EV.l (lv' := [(0, _), (1, _), (2, _)]) r_X10_look_32 rfl ?_
    refine EV.l (lv' := [(0, _), (1, _), (2, _)]) r_X10_look_33 rfl ?_
    refine EV.n0_eq r_X10_look_34 (fun h34 => ?_) (fun h34 => ?_)
    · -- 34 t
      refine EV.l (lv' := [(0, _), (1, _), (2, _)]) r_X10_look_42 rfl ?_
      refine EV.g r_X10_look_43 ?_
      exact EV.ri r_X10_look_54 (⟨rfl, FR.sc fr_⟩)
    · omega
  · omega
theorem c_look1 {d : Nat} {I : Nat → Nat → Int32} {J : Nat → Nat → Int64} {κ : CT} {l : LW} {η : HS} (hc_ : HC 4 κ I) (cb : CB κ) (hh : HH 71 η I) (hb_ : HB κ η) (hl : HL 46 l I) (lb : LB l) {bt br : Nat} (hbt : I 60 0 = nI bt) (hbr : I 60 1 = nI br) (hbt2 : bt < 512) (hbr2 : br < 512)  (hd : 10 ≤ d) : RI d 133 [.ref 0, .int (nI 1)] I J (fun v I' => v = lkV κ l η bt br (lkO κ l η bt br κ.ns) ∧ FR I I') := by
  refine RI.in (d0 := 9) hd mt_133 (Nat.le_of_ble_eq_true rfl) (fun d' hd' => ?_)
  have bns := cb.ns; have bnb := cb.nb; have bnc := cb.nc; have bnr := cb.nr
  show EV none M_X10_look d' 0 [(0, .ref 0), (1, .int (nI 1))] [] (hp I J) _
  refine EV.l (lv' := [(0, _), (1, _)]) r_X10_look_0 rfl ?_
  refine EV.l (lv' := [(0, _), (1, _)]) r_X10_look_1 rfl ?_
  refine EV.n0_eq r_X10_look_2 (fun h2 => ?_) (fun h2 => ?_)
  · omega
  · -- 2 f
    refine EV.l (lv' := [(0, _), (1, _)]) r_X10_look_5 rfl ?_
    refine EV.o r_X10_look_6 (icN (1) (v := 1)) ?_
    refine EV.n2_ne r_X10_look_7 (fun h7 => ?_) (fun h7 => ?_)
    · omega
    · -- 7 f
      refine EV.o r_X10_look_10 (icN (1) (v := 1)) ?_
      refine EV.g r_X10_look_11 ?_
      refine EV.cu r_X10_look_15 (aV1 mt_159 la_0) (c_arg1 (by omega)) (fun I2 e2 => ?_)
      have e2 := e2.symm; subst e2
      refine EV.l (lv' := [(0, _), (1, _)]) r_X10_look_18 rfl ?_
      refine EV.gR r_X10_look_19 la_0 ?_
      refine EV.cu r_X10_look_22 (aV0 mt_103 la_89) (c_weighAll hc_ cb hh hb_ hl lb hbt hbr hbt2 hbr2 (by omega)) (fun I2 h2 => ?_)
      obtain ⟨wp_, fr_⟩ := h2
      have hc1 := HC.fr (I' := I2) hc_ (fun x h1 h2 => fr_ x (by omega) (by omega) (by omega) (by omega) (by omega))
      have t1 : I2 60 0 = nI bt := by rw [fr_ 60 (by decide) (by decide) (by decide) (by decide) (by decide)]; exact hbt
      refine EV.l (lv' := [(0, _), (1, _)]) r_X10_look_25 rfl ?_
      refine EV.gR r_X10_look_26 la_0 ?_
      refine EV.cv r_X10_look_29 (aV0 mt_107 la_89) (c_bestq hc1 cb wp_ t1 hbt2 (by omega)) ?_
      refine EV.l (lv' := [(0, _), (1, _), (2, _)]) r_X10_look_32 rfl ?_
      refine EV.l (lv' := [(0, _), (1, _), (2, _)]) r_X10_look_33 rfl ?_
      refine EV.n0_eq r_X10_look_34 (fun h34 => ?_) (fun h34 => ?_)
      · omega
      · -- 34 f
        refine EV.l (lv' := [(0, _), (1, _), (2, _)]) r_X10_look_37 rfl ?_
        refine EV.o r_X10_look_38 (icZ (-1)) ?_
        refine EV.op_ne r_X10_look_39 (fun h39 => ?_) (fun h39 => ?_) (fun c ec_ => by have := bst_lt ec_; have := cb.ns; omega)
        · -- 39 t
          obtain ⟨c, ec_⟩ := h39
          have bc_ := bst_lt ec_
          rw [ec_, opI_some]
          show EV _ _ _ _ _ _ _ (QI _ (fun v I' => v = nI (plM κ l η bt br c) ∧ FR I I'))
          refine EV.l (lv' := [(0, _), (1, _), (2, _)]) r_X10_look_46 rfl ?_
          refine EV.gR r_X10_look_47 la_0 ?_
          refine EV.l (lv' := [(0, _), (1, _), (2, _)]) r_X10_look_50 rfl ?_
          refine EV.cv r_X10_look_51 (aV1 mt_106 la_89) (c_pleft cb wp_ (by omega) (by omega)) ?_
          exact EV.ri r_X10_look_54 (⟨rfl, FR.sc fr_⟩)
        · -- 39 f
          rw [h39]
          refine EV.l (lv' := [(0, _), (1, _), (2, _)]) r_X10_look_42 rfl ?_
          refine EV.g r_X10_look_43 ?_
          exact EV.ri r_X10_look_54 (⟨rfl, FR.sc fr_⟩)
