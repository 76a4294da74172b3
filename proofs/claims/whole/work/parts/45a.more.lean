/-! LOAF, ORDER, CROWD; the model's PAIRS. -/
theorem inc_lit {n m : Nat} (h : n + 1 = m) : nI n + Int32.ofInt 1 = nI m := by rw [← h]; exact inc_nI n
section LI
variable {st : List Value} {x y z : Nat}
theorem iaddL (h : x + y = z) : stk .iadd (.int (nI y) :: .int (nI x) :: st) = some (.int (nI z) :: st) := by rw [← h]; exact iaddN
theorem imulL (h : x * y = z) : stk .imul (.int (nI y) :: .int (nI x) :: st) = some (.int (nI z) :: st) := by rw [← h]; exact imulN
theorem isubL (h : z + y = x) : stk .isub (.int (nI y) :: .int (nI x) :: st) = some (.int (nI z) :: st) := by
  have e : x - y = z := by omega
  rw [← e]
  exact isubN (by omega)
theorem idivN (hy : 0 < y := by omega) (hx : x < 2147483648 := by omega) (hy2 : y < 2147483648 := by omega) : stk .idiv (.int (nI y) :: .int (nI x) :: st) = some (.int (nI (x / y)) :: st) := by
  have h : ¬ nI y = 0 := fun e => by have := (nI_eq (a := y) (b := 0) hy2 (by decide)).mp e; omega
  show (if nI y = 0 then none else some (Value.int (nI x / nI y) :: st)) = _
  rw [if_neg h, pk_div hx hy hy2]
theorem iremN (hy : 0 < y := by omega) (hx : x < 2147483648 := by omega) (hy2 : y < 2147483648 := by omega) : stk .irem (.int (nI y) :: .int (nI x) :: st) = some (.int (nI (x % y)) :: st) := by
  have h : ¬ nI y = 0 := fun e => by have := (nI_eq (a := y) (b := 0) hy2 (by decide)).mp e; omega
  show (if nI y = 0 then none else some (Value.int (nI x - nI x / nI y * nI y) :: st)) = _
  have h2 := Nat.div_mul_le_self x y
  have h3 := Nat.mod_eq_sub_div_mul (x := x) (k := y)
  rw [if_neg h, pk_div hx hy hy2, pk_mul, nI_sub h2, h3]
theorem idivL (h : x / y = z) (hy : 0 < y := by decide) (hx : x < 2147483648 := by decide) (hy2 : y < 2147483648 := by decide) : stk .idiv (.int (nI y) :: .int (nI x) :: st) = some (.int (nI z) :: st) := by rw [← h]; exact idivN hy hx hy2
theorem iremL (h : x % y = z) (hy : 0 < y := by decide) (hx : x < 2147483648 := by decide) (hy2 : y < 2147483648 := by decide) : stk .irem (.int (nI y) :: .int (nI x) :: st) = some (.int (nI z) :: st) := by rw [← h]; exact iremN hy hx hy2
end LI
/-- the greatest bound by which no more than n are given -/
def lfD (f : Nat → Nat) (n : Nat) : Nat → Nat
  | 0 => 0
  | b + 1 => if f (b + 1) ≤ n then b + 1 else lfD f n b
theorem lfD_t {f : Nat → Nat} {n b : Nat} (h : f b ≤ n) : lfD f n b = b := by
  cases b with
  | zero => rfl
  | succ b => exact if_pos h
theorem lfD_f {f : Nat → Nat} {n b : Nat} (h : n < f b) (hb_ : 0 < b) : lfD f n b = lfD f n (b - 1) := by
  cases b with
  | zero => omega
  | succ b => exact if_neg (by omega)
theorem lfD_z {f : Nat → Nat} {n : Nat} : lfD f n 0 = 0 := rfl
def lf (κ : CT) (η : HS) (k x n : Nat) : Nat := if x.testBit k = true then min (η.cr k) (lfD (fun b => crumb κ η x b κ.nc) n 40) else 0
theorem crumb_0 {κ : CT} {η : HS} {x : Nat} : ∀ k, crumb κ η x 0 k = 0
  | 0 => rfl
  | k + 1 => by
    have ih := crumb_0 (κ := κ) (η := η) (x := x) k
    unfold crumb
    rw [ih]
    split <;> simp
/-- ORDER -/
def gn (v w a b : Nat) : Int := (if a = 0 then (v : Int) else 0) - (if b = 0 then (w : Int) else 0)
def isR (v w a b : Nat) : Bool := decide (gn v w (1 - a) b ≤ gn v w a b ∧ gn v w (1 - b) a ≤ gn v w b a)
def ordC (v w : Nat) : Nat := (isR v w 0 0).toNat + (isR v w 0 1).toNat + (isR v w 1 0).toNat + (isR v w 1 1).toNat
def ordF (v w : Nat) : Int := if isR v w 0 0 = true then 0 else if isR v w 0 1 = true then 1 else if isR v w 1 0 = true then 10 else if isR v w 1 1 = true then 11 else -1
def ordT (v w : Nat) : Int := if isR v w 0 0 = true then gn v w 0 0 + gn v w 0 0 else if isR v w 0 1 = true then gn v w 0 1 + gn v w 1 0 else if isR v w 1 0 = true then gn v w 1 0 + gn v w 0 1 else if isR v w 1 1 = true then gn v w 1 1 + gn v w 1 1 else 0
theorem gn_le {v w a b : Nat} (hv : v ≤ 99) (hw : w ≤ 99) : -99 ≤ gn v w a b ∧ gn v w a b ≤ 99 := by
  unfold gn
  split <;> split <;> omega
def orC (v w : Nat) : Nat → Nat
  | 0 => 0
  | k + 1 => orC v w k + (isR v w (k / 2) (k % 2)).toNat
def orO (v w : Nat) : Nat → Option Nat
  | 0 => none
  | k + 1 => match orO v w k with
    | some c => some c
    | none => if isR v w (k / 2) (k % 2) = true then some (10 * (k / 2) + k % 2) else none
def orT (v w : Nat) : Option Nat → Int
  | none => 0
  | some c => gn v w (c / 10) (c % 10) + gn v w (c % 10) (c / 10)
theorem orC_le (v w : Nat) : ∀ k, orC v w k ≤ k
  | 0 => Nat.le_refl _
  | k + 1 => by
    have := orC_le v w k
    have h2 : (isR v w (k / 2) (k % 2)).toNat ≤ 1 := Bool.toNat_le _
    unfold orC
    omega
theorem orC_t {v w k : Nat} (h : isR v w (k / 2) (k % 2) = true) : orC v w k + 1 = orC v w (k + 1) := by show _ = _ + _; rw [h]; rfl
theorem orC_f {v w k : Nat} (h : isR v w (k / 2) (k % 2) = false) : orC v w k = orC v w (k + 1) := by show _ = _ + _; rw [h]; rfl
theorem orO_s {v w k c : Nat} (h : orO v w k = some c) : nI c = opI (orO v w (k + 1)) := by
  have e : orO v w (k + 1) = some c := by show (match orO v w k with | some c => some c | none => _) = _; rw [h]
  rw [e]; rfl
theorem orO_n {v w k : Nat} (h : isR v w (k / 2) (k % 2) = true) (h2 : orO v w k = none) : nI (10 * (k / 2) + k % 2) = opI (orO v w (k + 1)) := by
  have e : orO v w (k + 1) = some (10 * (k / 2) + k % 2) := by show (match orO v w k with | some c => some c | none => _) = _; rw [h2]; exact if_pos h
  rw [e]; rfl
theorem orO_f {v w k : Nat} (h : isR v w (k / 2) (k % 2) = false) : orO v w k = orO v w (k + 1) := by
  have e : orO v w (k + 1) = (match orO v w k with | some c => some c | none => none) := by
    show (match orO v w k with | some c => some c | none => if _ then _ else _) = _
    rw [if_neg (by rw [h]; decide)]
  rw [e]
  cases orO v w k <;> rfl
theorem orO_in {v w : Nat} : ∀ {k c : Nat}, orO v w k = some c → ∃ j, j < k ∧ c = 10 * (j / 2) + j % 2
  | 0, c, h => nomatch h
  | k + 1, c, h => by
    cases e : orO v w k with
    | some b =>
      have e2 : orO v w (k + 1) = some b := by show (match orO v w k with | some c => some c | none => _) = _; rw [e]
      rw [e2] at h
      obtain ⟨j, h1, h2⟩ := orO_in e
      cases h
      exact ⟨j, by omega, h2⟩
    | none =>
      have e2 : orO v w (k + 1) = if isR v w (k / 2) (k % 2) = true then some (10 * (k / 2) + k % 2) else none := by show (match orO v w k with | some c => some c | none => _) = _; rw [e]
      rw [e2] at h
      split at h
      · cases h; exact ⟨k, by omega, rfl⟩
      · cases h
theorem orO_b {v w k c : Nat} (h : orO v w k = some c) : c < 10 * k + 10 := by
  obtain ⟨j, h1, h2⟩ := orO_in h
  omega
theorem orO_bits {v w c : Nat} (h : orO v w 4 = some c) : c / 10 ≤ 1 ∧ c % 10 ≤ 1 := by
  obtain ⟨j, h1, h2⟩ := orO_in h
  omega
theorem or_eqC {v w : Nat} : ordC v w = orC v w 4 := by
  show _ = 0 + _ + _ + _ + _
  unfold ordC
  rw [Nat.zero_add]
theorem orO_4 {v w : Nat} : orO v w 4 = if isR v w 0 0 = true then some 0 else if isR v w 0 1 = true then some 1 else if isR v w 1 0 = true then some 10 else if isR v w 1 1 = true then some 11 else none := by
  have e0 : orO v w 1 = if isR v w 0 0 = true then some 0 else none := rfl
  have e1 : orO v w 2 = match orO v w 1 with | some c => some c | none => if isR v w 0 1 = true then some 1 else none := rfl
  have e2 : orO v w 3 = match orO v w 2 with | some c => some c | none => if isR v w 1 0 = true then some 10 else none := rfl
  have e3 : orO v w 4 = match orO v w 3 with | some c => some c | none => if isR v w 1 1 = true then some 11 else none := rfl
  rw [e3, e2, e1, e0]
  cases isR v w 0 0 <;> cases isR v w 0 1 <;> cases isR v w 1 0 <;> cases isR v w 1 1 <;> rfl
theorem or_eqF {v w : Nat} : zI (ordF v w) = opI (orO v w 4) := by
  rw [orO_4]
  unfold ordF
  cases isR v w 0 0 <;> cases isR v w 0 1 <;> cases isR v w 1 0 <;> cases isR v w 1 1 <;> rfl
theorem or_eqT {v w : Nat} : ordT v w = orT v w (orO v w 4) := by
  rw [orO_4]
  unfold ordT
  cases isR v w 0 0 <;> cases isR v w 0 1 <;> cases isR v w 1 0 <;> cases isR v w 1 1 <;> rfl
/-- CROWD -/
def cwd (f : Nat → Nat) : Nat → Nat × Nat
  | 0 => (0, 0)
  | m + 1 => if (cwd f m).2 < f m then (m, f m) else cwd f m
theorem cwd_t {f : Nat → Nat} {m : Nat} (h : (cwd f m).2 < f m) : cwd f (m + 1) = (m, f m) := if_pos h
theorem cwd_f {f : Nat → Nat} {m : Nat} (h : f m ≤ (cwd f m).2) : cwd f (m + 1) = cwd f m := if_neg (by omega)
theorem cwd_le {f : Nat → Nat} (h : ∀ m, f m ≤ 9) : ∀ m, (cwd f m).2 ≤ 9 ∧ (cwd f m).1 ≤ m
  | 0 => ⟨Nat.zero_le _, Nat.zero_le _⟩
  | m + 1 => by
    have ih := cwd_le h m
    have := h m
    unfold cwd
    split
    · exact ⟨this, by omega⟩
    · omega
def cwm (f be : Nat → Nat) : Nat → Nat × Nat
  | 0 => (0, f 0)
  | b + 1 => if f (be b) < (cwm f be b).2 ∨ (f (be b) = (cwm f be b).2 ∧ (cwm f be b).1 ≤ be b) then cwm f be b else (be b, f (be b))
theorem cwm_f {f be : Nat → Nat} {b : Nat} (h : f (be b) < (cwm f be b).2 ∨ (f (be b) = (cwm f be b).2 ∧ (cwm f be b).1 ≤ be b)) : cwm f be (b + 1) = cwm f be b := if_pos h
theorem cwm_t {f be : Nat → Nat} {b : Nat} (h : ¬ (f (be b) < (cwm f be b).2 ∨ (f (be b) = (cwm f be b).2 ∧ (cwm f be b).1 ≤ be b))) : cwm f be (b + 1) = (be b, f (be b)) := if_neg h
theorem cwm_le {f be : Nat → Nat} (h : ∀ m, f m ≤ 9) (hb_ : ∀ b, be b ≤ 400) : ∀ b, (cwm f be b).2 ≤ 9 ∧ (cwm f be b).1 ≤ 400
  | 0 => ⟨h 0, Nat.zero_le _⟩
  | b + 1 => by
    have ih := cwm_le h hb_ b
    have := h (be b)
    have := hb_ b
    unfold cwm
    split
    · exact ih
    · exact ⟨by assumption, by assumption⟩
/-- the greatest, the first of alike ones -/
def isMx (f : Nat → Nat) (r : Nat × Nat) : Prop := r.2 = f r.1 ∧ r.1 < 500 ∧ (∀ m, m < 500 → f m ≤ r.2) ∧ ∀ m, m < r.1 → f m < r.2
theorem isMx_eq {f : Nat → Nat} {r s : Nat × Nat} (hr : isMx f r) (hs : isMx f s) : r = s := by
  obtain ⟨r1, r2⟩ := r
  obtain ⟨s1, s2⟩ := s
  obtain ⟨a1, a2, a3, a4⟩ := hr
  obtain ⟨b1, b2, b3, b4⟩ := hs
  simp only at a1 a2 a3 a4 b1 b2 b3 b4
  have h1 := a3 s1 b2
  have h2 := b3 r1 a2
  have h3 : r2 = s2 := by omega
  have h4 : r1 = s1 := by
    rcases Nat.lt_trichotomy r1 s1 with h | h | h
    · have := b4 r1 h; omega
    · exact h
    · have := a4 s1 h; omega
  rw [h3, h4]
theorem cwd_mx {f : Nat → Nat} : ∀ m, (cwd f (m + 1)).2 = f (cwd f (m + 1)).1 ∧ (cwd f (m + 1)).1 < m + 1 ∧ (∀ k, k < m + 1 → f k ≤ (cwd f (m + 1)).2) ∧ ∀ k, k < (cwd f (m + 1)).1 → f k < (cwd f (m + 1)).2
  | 0 => by
    by_cases h : 0 < f 0
    · rw [cwd_t (m := 0) h]
      exact ⟨rfl, Nat.zero_lt_one, fun k hk => (show f k ≤ f 0 from (show k = 0 by omega) ▸ Nat.le_refl _), fun k hk => absurd hk (Nat.not_lt_zero k)⟩
    · rw [cwd_f (m := 0) (show f 0 ≤ 0 by omega)]
      have h0 : f 0 = 0 := by omega
      exact ⟨h0.symm, Nat.zero_lt_one, fun k hk => Nat.le_of_eq ((congrArg f (show k = 0 by omega)).trans h0), fun k hk => absurd hk (Nat.not_lt_zero k)⟩
  | m + 1 => by
    obtain ⟨h1, h2, h3, h4⟩ := cwd_mx (f := f) m
    by_cases h : (cwd f (m + 1)).2 < f (m + 1)
    · rw [cwd_t h]
      refine ⟨rfl, Nat.lt_succ_self _, fun k hk => ?_, fun k hk => ?_⟩
      · by_cases e : k = m + 1
        · subst e; exact Nat.le_refl _
        · have := h3 k (by omega); show f k ≤ f (m + 1); omega
      · have := h3 k hk; show f k < f (m + 1); omega
    · rw [cwd_f (by omega)]
      refine ⟨h1, by omega, fun k hk => ?_, h4⟩
      by_cases e : k = m + 1
      · subst e; omega
      · exact h3 k (by omega)
theorem cwm_mx {f be : Nat → Nat} (hb_ : ∀ b, be b < 500) : ∀ b, (cwm f be b).2 = f (cwm f be b).1 ∧ (cwm f be b).1 < 500 ∧ (f 0 < (cwm f be b).2 ∨ (f 0 = (cwm f be b).2 ∧ (cwm f be b).1 = 0)) ∧ ∀ k, k < b → (f (be k) < (cwm f be b).2 ∨ (f (be k) = (cwm f be b).2 ∧ (cwm f be b).1 ≤ be k))
  | 0 => ⟨rfl, (by decide : 0 < 500), Or.inr ⟨rfl, rfl⟩, fun k hk => absurd hk (Nat.not_lt_zero k)⟩
  | b + 1 => by
    obtain ⟨h1, h2, h3, h4⟩ := cwm_mx (f := f) hb_ b
    by_cases h : f (be b) < (cwm f be b).2 ∨ (f (be b) = (cwm f be b).2 ∧ (cwm f be b).1 ≤ be b)
    · rw [cwm_f h]
      refine ⟨h1, h2, h3, fun k hk => ?_⟩
      by_cases e : k = b
      · subst e; exact h
      · exact h4 k (by omega)
    · rw [cwm_t h]
      refine ⟨rfl, hb_ b, ?_, fun k hk => ?_⟩
      · show f 0 < f (be b) ∨ (f 0 = f (be b) ∧ be b = 0)
        rcases h3 with q | q <;> omega
      · show f (be k) < f (be b) ∨ (f (be k) = f (be b) ∧ be b ≤ be k)
        by_cases e : k = b
        · subst e; exact Or.inr ⟨rfl, Nat.le_refl _⟩
        · have := h4 k (by omega); omega
theorem bd_step {κ : CT} {η : HS} {m : Nat} (h : ∀ b, b < κ.nb → ¬ η.be b = m + 1) : ∀ i, (birds κ η (m + 1)).testBit i = true → (birds κ η m).testBit i = true := by
  intro i hi
  unfold birds at hi ⊢
  rw [mk_bit, Bool.and_eq_true] at hi ⊢
  have hk := of_decide_eq_true hi.1
  have h2 := h i hk
  have h3 := of_decide_eq_true (show decide (η.be i ≤ m + 1 ∧ m + 1 < η.be i + η.wk i) = true from hi.2)
  exact ⟨hi.1, (decide_eq_true (by omega) : decide (η.be i ≤ m ∧ m < η.be i + η.wk i) = true)⟩
theorem cw_cand {κ : CT} {η : HS} : ∀ m, ∃ c, c ≤ m ∧ pc9 (birds κ η m) ≤ pc9 (birds κ η c) ∧ (c = 0 ∨ ∃ b, b < κ.nb ∧ η.be b = c)
  | 0 => ⟨0, Nat.le_refl _, Nat.le_refl _, Or.inl rfl⟩
  | m + 1 => by
    obtain ⟨c, h1, h2, h3⟩ := cw_cand (κ := κ) (η := η) m
    by_cases h : ∃ b, b < κ.nb ∧ η.be b = m + 1
    · exact ⟨m + 1, Nat.le_refl _, Nat.le_refl _, Or.inr h⟩
    · refine ⟨c, by omega, Nat.le_trans ?_ h2, h3⟩
      exact (pcn_sub (bd_step (fun b hb_ e => h ⟨b, hb_, e⟩)) 9).1
def cwf (κ : CT) (η : HS) (m : Nat) : Nat := pc9 (birds κ η m)
theorem cw_eq {κ : CT} {η : HS} (hb_ : HB κ η) : cwd (cwf κ η) 500 = cwm (cwf κ η) η.be κ.nb := by
  have a := cwd_mx (f := cwf κ η) 499
  obtain ⟨b1, b2, b3, b4⟩ := cwm_mx (f := cwf κ η) (be := η.be) (fun b => by have := hb_.be b; omega) κ.nb
  refine isMx_eq ⟨a.1, a.2.1, a.2.2.1, a.2.2.2⟩ ⟨b1, b2, fun m _ => ?_, fun m hm => ?_⟩
  · obtain ⟨c, c1, c2, c3⟩ := cw_cand (κ := κ) (η := η) m
    have c2 : cwf κ η m ≤ cwf κ η c := c2
    rcases c3 with c3 | ⟨b, hb1, hb2⟩
    · subst c3; omega
    · have := b4 b hb1
      rw [hb2] at this
      omega
  · obtain ⟨c, c1, c2, c3⟩ := cw_cand (κ := κ) (η := η) m
    have c2 : cwf κ η m ≤ cwf κ η c := c2
    rcases c3 with c3 | ⟨b, hb1, hb2⟩
    · subst c3; omega
    · have := b4 b hb1
      rw [hb2] at this
      omega
theorem fits9 (κ : CT) (η : HS) (m : Nat) : cwf κ η m ≤ 9 := pc9_le _
theorem r_X10_crowd_0 : RW M_X10_crowd 0 (.aload_n 0) 1 0 0 1 := ⟨rfl, rfl⟩
theorem r_X10_crowd_1 : RW M_X10_crowd 1 (.iload_n 1) 1 0 0 2 := ⟨rfl, rfl⟩
theorem r_X10_crowd_2 : RW M_X10_crowd 2 (.ifCond .eq 8) 3 10 0 5 := ⟨rfl, rfl⟩
theorem r_X10_crowd_5 : RW M_X10_crowd 5 (.iload_n 1) 1 0 0 6 := ⟨rfl, rfl⟩
theorem r_X10_crowd_6 : RW M_X10_crowd 6 (.iconst 1) 1 0 0 7 := ⟨rfl, rfl⟩
theorem r_X10_crowd_7 : RW M_X10_crowd 7 (.if_icmp .ne 7) 3 14 0 10 := ⟨rfl, rfl⟩
theorem r_X10_crowd_10 : RW M_X10_crowd 10 (.iconst 1) 1 0 0 11 := ⟨rfl, rfl⟩
theorem r_X10_crowd_11 : RW M_X10_crowd 11 (.goto 4) 3 15 0 14 := ⟨rfl, rfl⟩
theorem r_X10_crowd_14 : RW M_X10_crowd 14 (.iconst 0) 1 0 0 15 := ⟨rfl, rfl⟩
theorem r_X10_crowd_15 : RW M_X10_crowd 15 (.invokevirtual 175) 3 159 0 18 := ⟨rfl, rfl⟩
theorem r_X10_crowd_18 : RW M_X10_crowd 18 (.iconst 0) 1 0 0 19 := ⟨rfl, rfl⟩
theorem r_X10_crowd_19 : RW M_X10_crowd 19 (.istore_n 2) 1 0 0 20 := ⟨rfl, rfl⟩
theorem r_X10_crowd_20 : RW M_X10_crowd 20 (.iconst 0) 1 0 0 21 := ⟨rfl, rfl⟩
theorem r_X10_crowd_21 : RW M_X10_crowd 21 (.istore_n 3) 1 0 0 22 := ⟨rfl, rfl⟩
theorem r_X10_crowd_22 : RW M_X10_crowd 22 (.iconst 0) 1 0 0 23 := ⟨rfl, rfl⟩
theorem r_X10_crowd_23 : RW M_X10_crowd 23 (.istore 4) 2 0 0 25 := ⟨rfl, rfl⟩
theorem r_X10_crowd_25 : RW M_X10_crowd 25 (.iload 4) 2 0 5 27 := ⟨rfl, rfl⟩
theorem r_X10_crowd_27 : RW M_X10_crowd 27 (.sipush 499) 3 0 0 30 := ⟨rfl, rfl⟩
theorem r_X10_crowd_30 : RW M_X10_crowd 30 (.if_icmp .gt 35) 3 65 0 33 := ⟨rfl, rfl⟩
theorem r_X10_crowd_33 : RW M_X10_crowd 33 (.aload_n 0) 1 0 0 34 := ⟨rfl, rfl⟩
theorem r_X10_crowd_34 : RW M_X10_crowd 34 (.getfield 58) 3 10 8 37 := ⟨rfl, rfl⟩
theorem r_X10_crowd_37 : RW M_X10_crowd 37 (.iload 4) 2 0 0 39 := ⟨rfl, rfl⟩
theorem r_X10_crowd_39 : RW M_X10_crowd 39 (.invokevirtual 204) 3 34 0 42 := ⟨rfl, rfl⟩
theorem r_X10_crowd_42 : RW M_X10_crowd 42 (.invokestatic 163) 3 322 0 45 := ⟨rfl, rfl⟩
theorem r_X10_crowd_45 : RW M_X10_crowd 45 (.istore 5) 2 0 0 47 := ⟨rfl, rfl⟩
theorem r_X10_crowd_47 : RW M_X10_crowd 47 (.iload 5) 2 0 0 49 := ⟨rfl, rfl⟩
theorem r_X10_crowd_49 : RW M_X10_crowd 49 (.iload_n 3) 1 0 0 50 := ⟨rfl, rfl⟩
theorem r_X10_crowd_50 : RW M_X10_crowd 50 (.if_icmp .le 9) 3 59 0 53 := ⟨rfl, rfl⟩
theorem r_X10_crowd_53 : RW M_X10_crowd 53 (.iload 5) 2 0 0 55 := ⟨rfl, rfl⟩
theorem r_X10_crowd_55 : RW M_X10_crowd 55 (.istore_n 3) 1 0 0 56 := ⟨rfl, rfl⟩
theorem r_X10_crowd_56 : RW M_X10_crowd 56 (.iload 4) 2 0 0 58 := ⟨rfl, rfl⟩
theorem r_X10_crowd_58 : RW M_X10_crowd 58 (.istore_n 2) 1 0 0 59 := ⟨rfl, rfl⟩
theorem r_X10_crowd_59 : RW M_X10_crowd 59 (.iinc 4 1) 3 0 0 62 := ⟨rfl, rfl⟩
theorem r_X10_crowd_62 : RW M_X10_crowd 62 (.goto (-37)) 3 25 0 65 := ⟨rfl, rfl⟩
theorem r_X10_crowd_65 : RW M_X10_crowd 65 (.iload_n 1) 1 0 0 66 := ⟨rfl, rfl⟩
theorem r_X10_crowd_66 : RW M_X10_crowd 66 (.ifCond .ne 7) 3 73 0 69 := ⟨rfl, rfl⟩
theorem r_X10_crowd_69 : RW M_X10_crowd 69 (.iload_n 2) 1 0 0 70 := ⟨rfl, rfl⟩
theorem r_X10_crowd_70 : RW M_X10_crowd 70 (.goto 4) 3 74 0 73 := ⟨rfl, rfl⟩
theorem r_X10_crowd_73 : RW M_X10_crowd 73 (.iload_n 3) 1 0 0 74 := ⟨rfl, rfl⟩
theorem r_X10_crowd_74 : RW M_X10_crowd 74 (.ireturn) 1 0 0 75 := ⟨rfl, rfl⟩
theorem r_X10_gain_0 : RW M_X10_gain 0 (.iload_n 2) 1 0 0 1 := ⟨rfl, rfl⟩
theorem r_X10_gain_1 : RW M_X10_gain 1 (.ifCond .ne 7) 3 8 0 4 := ⟨rfl, rfl⟩
theorem r_X10_gain_4 : RW M_X10_gain 4 (.iload_n 0) 1 0 0 5 := ⟨rfl, rfl⟩
theorem r_X10_gain_5 : RW M_X10_gain 5 (.goto 4) 3 9 0 8 := ⟨rfl, rfl⟩
theorem r_X10_gain_8 : RW M_X10_gain 8 (.iconst 0) 1 0 0 9 := ⟨rfl, rfl⟩
theorem r_X10_gain_9 : RW M_X10_gain 9 (.iload_n 3) 1 0 0 10 := ⟨rfl, rfl⟩
theorem r_X10_gain_10 : RW M_X10_gain 10 (.ifCond .ne 7) 3 17 0 13 := ⟨rfl, rfl⟩
theorem r_X10_gain_13 : RW M_X10_gain 13 (.iload_n 1) 1 0 0 14 := ⟨rfl, rfl⟩
theorem r_X10_gain_14 : RW M_X10_gain 14 (.goto 4) 3 18 0 17 := ⟨rfl, rfl⟩
theorem r_X10_gain_17 : RW M_X10_gain 17 (.iconst 0) 1 0 0 18 := ⟨rfl, rfl⟩
theorem r_X10_gain_18 : RW M_X10_gain 18 (.isub) 1 0 0 19 := ⟨rfl, rfl⟩
theorem r_X10_gain_19 : RW M_X10_gain 19 (.ireturn) 1 0 0 20 := ⟨rfl, rfl⟩
theorem r_X10_isRest_0 : RW M_X10_isRest 0 (.iload_n 0) 1 0 0 1 := ⟨rfl, rfl⟩
theorem r_X10_isRest_1 : RW M_X10_isRest 1 (.iload_n 1) 1 0 0 2 := ⟨rfl, rfl⟩
theorem r_X10_isRest_2 : RW M_X10_isRest 2 (.iconst 1) 1 0 0 3 := ⟨rfl, rfl⟩
theorem r_X10_isRest_3 : RW M_X10_isRest 3 (.iload_n 2) 1 0 0 4 := ⟨rfl, rfl⟩
theorem r_X10_isRest_4 : RW M_X10_isRest 4 (.isub) 1 0 0 5 := ⟨rfl, rfl⟩
theorem r_X10_isRest_5 : RW M_X10_isRest 5 (.iload_n 3) 1 0 0 6 := ⟨rfl, rfl⟩
theorem r_X10_isRest_6 : RW M_X10_isRest 6 (.invokestatic 308) 3 166 0 9 := ⟨rfl, rfl⟩
theorem r_X10_isRest_9 : RW M_X10_isRest 9 (.iload_n 0) 1 0 0 10 := ⟨rfl, rfl⟩
theorem r_X10_isRest_10 : RW M_X10_isRest 10 (.iload_n 1) 1 0 0 11 := ⟨rfl, rfl⟩
theorem r_X10_isRest_11 : RW M_X10_isRest 11 (.iload_n 2) 1 0 0 12 := ⟨rfl, rfl⟩
theorem r_X10_isRest_12 : RW M_X10_isRest 12 (.iload_n 3) 1 0 0 13 := ⟨rfl, rfl⟩
theorem r_X10_isRest_13 : RW M_X10_isRest 13 (.invokestatic 308) 3 166 0 16 := ⟨rfl, rfl⟩
theorem r_X10_isRest_16 : RW M_X10_isRest 16 (.if_icmp .gt 26) 3 42 0 19 := ⟨rfl, rfl⟩
theorem r_X10_isRest_19 : RW M_X10_isRest 19 (.iload_n 0) 1 0 0 20 := ⟨rfl, rfl⟩
theorem r_X10_isRest_20 : RW M_X10_isRest 20 (.iload_n 1) 1 0 0 21 := ⟨rfl, rfl⟩
theorem r_X10_isRest_21 : RW M_X10_isRest 21 (.iconst 1) 1 0 0 22 := ⟨rfl, rfl⟩
theorem r_X10_isRest_22 : RW M_X10_isRest 22 (.iload_n 3) 1 0 0 23 := ⟨rfl, rfl⟩
theorem r_X10_isRest_23 : RW M_X10_isRest 23 (.isub) 1 0 0 24 := ⟨rfl, rfl⟩
theorem r_X10_isRest_24 : RW M_X10_isRest 24 (.iload_n 2) 1 0 0 25 := ⟨rfl, rfl⟩
theorem r_X10_isRest_25 : RW M_X10_isRest 25 (.invokestatic 308) 3 166 0 28 := ⟨rfl, rfl⟩
theorem r_X10_isRest_28 : RW M_X10_isRest 28 (.iload_n 0) 1 0 0 29 := ⟨rfl, rfl⟩
theorem r_X10_isRest_29 : RW M_X10_isRest 29 (.iload_n 1) 1 0 0 30 := ⟨rfl, rfl⟩
theorem r_X10_isRest_30 : RW M_X10_isRest 30 (.iload_n 3) 1 0 0 31 := ⟨rfl, rfl⟩
theorem r_X10_isRest_31 : RW M_X10_isRest 31 (.iload_n 2) 1 0 0 32 := ⟨rfl, rfl⟩
theorem r_X10_isRest_32 : RW M_X10_isRest 32 (.invokestatic 308) 3 166 0 35 := ⟨rfl, rfl⟩
theorem r_X10_isRest_35 : RW M_X10_isRest 35 (.if_icmp .gt 7) 3 42 0 38 := ⟨rfl, rfl⟩
theorem r_X10_isRest_38 : RW M_X10_isRest 38 (.iconst 1) 1 0 0 39 := ⟨rfl, rfl⟩
theorem r_X10_isRest_39 : RW M_X10_isRest 39 (.goto 4) 3 43 0 42 := ⟨rfl, rfl⟩
theorem r_X10_isRest_42 : RW M_X10_isRest 42 (.iconst 0) 1 0 0 43 := ⟨rfl, rfl⟩
theorem r_X10_isRest_43 : RW M_X10_isRest 43 (.ireturn) 1 0 0 44 := ⟨rfl, rfl⟩
theorem r_X10_loaf_0 : RW M_X10_loaf 0 (.aload_n 0) 1 0 0 1 := ⟨rfl, rfl⟩
theorem r_X10_loaf_1 : RW M_X10_loaf 1 (.iload_n 1) 1 0 0 2 := ⟨rfl, rfl⟩
theorem r_X10_loaf_2 : RW M_X10_loaf 2 (.aload_n 0) 1 0 0 3 := ⟨rfl, rfl⟩
theorem r_X10_loaf_3 : RW M_X10_loaf 3 (.getfield 19) 3 10 1 6 := ⟨rfl, rfl⟩
theorem r_X10_loaf_6 : RW M_X10_loaf 6 (.getfield 185) 3 1 13 9 := ⟨rfl, rfl⟩
theorem r_X10_loaf_9 : RW M_X10_loaf 9 (.invokevirtual 210) 3 160 0 12 := ⟨rfl, rfl⟩
theorem r_X10_loaf_12 : RW M_X10_loaf 12 (.aload_n 0) 1 0 0 13 := ⟨rfl, rfl⟩
theorem r_X10_loaf_13 : RW M_X10_loaf 13 (.iload_n 2) 1 0 0 14 := ⟨rfl, rfl⟩
theorem r_X10_loaf_14 : RW M_X10_loaf 14 (.aload_n 0) 1 0 0 15 := ⟨rfl, rfl⟩
theorem r_X10_loaf_15 : RW M_X10_loaf 15 (.getfield 19) 3 10 1 18 := ⟨rfl, rfl⟩
theorem r_X10_loaf_18 : RW M_X10_loaf 18 (.getfield 185) 3 1 13 21 := ⟨rfl, rfl⟩
theorem r_X10_loaf_21 : RW M_X10_loaf 21 (.invokevirtual 264) 3 158 0 24 := ⟨rfl, rfl⟩
theorem r_X10_loaf_24 : RW M_X10_loaf 24 (.aload_n 0) 1 0 0 25 := ⟨rfl, rfl⟩
theorem r_X10_loaf_25 : RW M_X10_loaf 25 (.iload_n 3) 1 0 0 26 := ⟨rfl, rfl⟩
theorem r_X10_loaf_26 : RW M_X10_loaf 26 (.ifCond .lt 14) 3 40 0 29 := ⟨rfl, rfl⟩
theorem r_X10_loaf_29 : RW M_X10_loaf 29 (.iload_n 3) 1 0 0 30 := ⟨rfl, rfl⟩
theorem r_X10_loaf_30 : RW M_X10_loaf 30 (.sipush 999) 3 0 0 33 := ⟨rfl, rfl⟩
theorem r_X10_loaf_33 : RW M_X10_loaf 33 (.if_icmp .gt 7) 3 40 0 36 := ⟨rfl, rfl⟩
theorem r_X10_loaf_36 : RW M_X10_loaf 36 (.iconst 1) 1 0 0 37 := ⟨rfl, rfl⟩
theorem r_X10_loaf_37 : RW M_X10_loaf 37 (.goto 4) 3 41 0 40 := ⟨rfl, rfl⟩
theorem r_X10_loaf_40 : RW M_X10_loaf 40 (.iconst 0) 1 0 0 41 := ⟨rfl, rfl⟩
theorem r_X10_loaf_41 : RW M_X10_loaf 41 (.invokevirtual 175) 3 159 0 44 := ⟨rfl, rfl⟩
theorem r_X10_loaf_44 : RW M_X10_loaf 44 (.iload_n 2) 1 0 0 45 := ⟨rfl, rfl⟩
theorem r_X10_loaf_45 : RW M_X10_loaf 45 (.iload_n 1) 1 0 0 46 := ⟨rfl, rfl⟩
theorem r_X10_loaf_46 : RW M_X10_loaf 46 (.invokestatic 312) 3 163 0 49 := ⟨rfl, rfl⟩
theorem r_X10_loaf_49 : RW M_X10_loaf 49 (.ifCond .ne 5) 3 54 0 52 := ⟨rfl, rfl⟩
theorem r_X10_loaf_52 : RW M_X10_loaf 52 (.iconst 0) 1 0 0 53 := ⟨rfl, rfl⟩
theorem r_X10_loaf_53 : RW M_X10_loaf 53 (.ireturn) 1 0 0 54 := ⟨rfl, rfl⟩
theorem r_X10_loaf_54 : RW M_X10_loaf 54 (.bipush 40) 2 0 0 56 := ⟨rfl, rfl⟩
theorem r_X10_loaf_56 : RW M_X10_loaf 56 (.istore 4) 2 0 0 58 := ⟨rfl, rfl⟩
theorem r_X10_loaf_58 : RW M_X10_loaf 58 (.iload 4) 2 0 0 60 := ⟨rfl, rfl⟩
theorem r_X10_loaf_60 : RW M_X10_loaf 60 (.ifCond .le 23) 3 83 0 63 := ⟨rfl, rfl⟩
theorem r_X10_loaf_63 : RW M_X10_loaf 63 (.aload_n 0) 1 0 0 64 := ⟨rfl, rfl⟩
theorem r_X10_loaf_64 : RW M_X10_loaf 64 (.getfield 58) 3 10 8 67 := ⟨rfl, rfl⟩
theorem r_X10_loaf_67 : RW M_X10_loaf 67 (.iload_n 2) 1 0 0 68 := ⟨rfl, rfl⟩
theorem r_X10_loaf_68 : RW M_X10_loaf 68 (.iload 4) 2 0 0 70 := ⟨rfl, rfl⟩
theorem r_X10_loaf_70 : RW M_X10_loaf 70 (.invokevirtual 316) 3 32 0 73 := ⟨rfl, rfl⟩
theorem r_X10_loaf_73 : RW M_X10_loaf 73 (.iload_n 3) 1 0 0 74 := ⟨rfl, rfl⟩
theorem r_X10_loaf_74 : RW M_X10_loaf 74 (.if_icmp .le 9) 3 83 0 77 := ⟨rfl, rfl⟩
theorem r_X10_loaf_77 : RW M_X10_loaf 77 (.iinc 4 (-1)) 3 0 0 80 := ⟨rfl, rfl⟩
theorem r_X10_loaf_80 : RW M_X10_loaf 80 (.goto (-22)) 3 58 0 83 := ⟨rfl, rfl⟩
theorem r_X10_loaf_83 : RW M_X10_loaf 83 (.aload_n 0) 1 0 0 84 := ⟨rfl, rfl⟩
theorem r_X10_loaf_84 : RW M_X10_loaf 84 (.getfield 58) 3 10 8 87 := ⟨rfl, rfl⟩
theorem r_X10_loaf_87 : RW M_X10_loaf 87 (.getfield 250) 3 2 6 90 := ⟨rfl, rfl⟩
theorem r_X10_loaf_90 : RW M_X10_loaf 90 (.iload_n 1) 1 0 0 91 := ⟨rfl, rfl⟩
theorem r_X10_loaf_91 : RW M_X10_loaf 91 (.invokevirtual 217) 3 92 0 94 := ⟨rfl, rfl⟩
theorem r_X10_loaf_94 : RW M_X10_loaf 94 (.iload 4) 2 0 0 96 := ⟨rfl, rfl⟩
theorem r_X10_loaf_96 : RW M_X10_loaf 96 (.invokestatic 319) 3 900 0 99 := ⟨rfl, rfl⟩
theorem r_X10_loaf_99 : RW M_X10_loaf 99 (.ireturn) 1 0 0 100 := ⟨rfl, rfl⟩
theorem r_X10_order_0 : RW M_X10_order 0 (.aload_n 0) 1 0 0 1 := ⟨rfl, rfl⟩
theorem r_X10_order_1 : RW M_X10_order 1 (.iload_n 1) 1 0 0 2 := ⟨rfl, rfl⟩
theorem r_X10_order_2 : RW M_X10_order 2 (.ifCond .lt 32) 3 34 0 5 := ⟨rfl, rfl⟩
theorem r_X10_order_5 : RW M_X10_order 5 (.iload_n 1) 1 0 0 6 := ⟨rfl, rfl⟩
theorem r_X10_order_6 : RW M_X10_order 6 (.bipush 99) 2 0 0 8 := ⟨rfl, rfl⟩
theorem r_X10_order_8 : RW M_X10_order 8 (.if_icmp .gt 26) 3 34 0 11 := ⟨rfl, rfl⟩
theorem r_X10_order_11 : RW M_X10_order 11 (.iload_n 2) 1 0 0 12 := ⟨rfl, rfl⟩
theorem r_X10_order_12 : RW M_X10_order 12 (.ifCond .lt 22) 3 34 0 15 := ⟨rfl, rfl⟩
theorem r_X10_order_15 : RW M_X10_order 15 (.iload_n 2) 1 0 0 16 := ⟨rfl, rfl⟩
theorem r_X10_order_16 : RW M_X10_order 16 (.bipush 99) 2 0 0 18 := ⟨rfl, rfl⟩
theorem r_X10_order_18 : RW M_X10_order 18 (.if_icmp .gt 16) 3 34 0 21 := ⟨rfl, rfl⟩
theorem r_X10_order_21 : RW M_X10_order 21 (.iload_n 3) 1 0 0 22 := ⟨rfl, rfl⟩
theorem r_X10_order_22 : RW M_X10_order 22 (.ifCond .lt 12) 3 34 0 25 := ⟨rfl, rfl⟩
theorem r_X10_order_25 : RW M_X10_order 25 (.iload_n 3) 1 0 0 26 := ⟨rfl, rfl⟩
theorem r_X10_order_26 : RW M_X10_order 26 (.iconst 2) 1 0 0 27 := ⟨rfl, rfl⟩
theorem r_X10_order_27 : RW M_X10_order 27 (.if_icmp .gt 7) 3 34 0 30 := ⟨rfl, rfl⟩
theorem r_X10_order_30 : RW M_X10_order 30 (.iconst 1) 1 0 0 31 := ⟨rfl, rfl⟩
theorem r_X10_order_31 : RW M_X10_order 31 (.goto 4) 3 35 0 34 := ⟨rfl, rfl⟩
theorem r_X10_order_34 : RW M_X10_order 34 (.iconst 0) 1 0 0 35 := ⟨rfl, rfl⟩
theorem r_X10_order_35 : RW M_X10_order 35 (.invokevirtual 175) 3 159 0 38 := ⟨rfl, rfl⟩
theorem r_X10_order_38 : RW M_X10_order 38 (.iconst 0) 1 0 0 39 := ⟨rfl, rfl⟩
theorem r_X10_order_39 : RW M_X10_order 39 (.istore 4) 2 0 0 41 := ⟨rfl, rfl⟩
theorem r_X10_order_41 : RW M_X10_order 41 (.iconst (-1)) 1 0 0 42 := ⟨rfl, rfl⟩
theorem r_X10_order_42 : RW M_X10_order 42 (.istore 5) 2 0 0 44 := ⟨rfl, rfl⟩
theorem r_X10_order_44 : RW M_X10_order 44 (.iconst 0) 1 0 0 45 := ⟨rfl, rfl⟩
theorem r_X10_order_45 : RW M_X10_order 45 (.istore 6) 2 0 0 47 := ⟨rfl, rfl⟩
theorem r_X10_order_47 : RW M_X10_order 47 (.iconst 0) 1 0 0 48 := ⟨rfl, rfl⟩
theorem r_X10_order_48 : RW M_X10_order 48 (.istore 7) 2 0 0 50 := ⟨rfl, rfl⟩
theorem r_X10_order_50 : RW M_X10_order 50 (.iload 7) 2 0 8 52 := ⟨rfl, rfl⟩
theorem r_X10_order_52 : RW M_X10_order 52 (.iconst 1) 1 0 0 53 := ⟨rfl, rfl⟩
theorem r_X10_order_53 : RW M_X10_order 53 (.if_icmp .gt 75) 3 128 0 56 := ⟨rfl, rfl⟩
theorem r_X10_order_56 : RW M_X10_order 56 (.iconst 0) 1 0 0 57 := ⟨rfl, rfl⟩
theorem r_X10_order_57 : RW M_X10_order 57 (.istore 8) 2 0 0 59 := ⟨rfl, rfl⟩
theorem r_X10_order_59 : RW M_X10_order 59 (.iload 8) 2 0 0 61 := ⟨rfl, rfl⟩
theorem r_X10_order_61 : RW M_X10_order 61 (.iconst 1) 1 0 0 62 := ⟨rfl, rfl⟩
theorem r_X10_order_62 : RW M_X10_order 62 (.if_icmp .gt 60) 3 122 0 65 := ⟨rfl, rfl⟩
theorem r_X10_order_65 : RW M_X10_order 65 (.iload_n 1) 1 0 0 66 := ⟨rfl, rfl⟩
theorem r_X10_order_66 : RW M_X10_order 66 (.iload_n 2) 1 0 0 67 := ⟨rfl, rfl⟩
theorem r_X10_order_67 : RW M_X10_order 67 (.iload 7) 2 0 0 69 := ⟨rfl, rfl⟩
theorem r_X10_order_69 : RW M_X10_order 69 (.iload 8) 2 0 0 71 := ⟨rfl, rfl⟩
theorem r_X10_order_71 : RW M_X10_order 71 (.invokestatic 304) 3 167 0 74 := ⟨rfl, rfl⟩
theorem r_X10_order_74 : RW M_X10_order 74 (.ifCond .eq 42) 3 116 0 77 := ⟨rfl, rfl⟩
theorem r_X10_order_77 : RW M_X10_order 77 (.iload 4) 2 0 0 79 := ⟨rfl, rfl⟩
theorem r_X10_order_79 : RW M_X10_order 79 (.ifCond .ne 34) 3 113 0 82 := ⟨rfl, rfl⟩
theorem r_X10_order_82 : RW M_X10_order 82 (.bipush 10) 2 0 0 84 := ⟨rfl, rfl⟩
theorem r_X10_order_84 : RW M_X10_order 84 (.iload 7) 2 0 0 86 := ⟨rfl, rfl⟩
theorem r_X10_order_86 : RW M_X10_order 86 (.imul) 1 0 0 87 := ⟨rfl, rfl⟩
theorem r_X10_order_87 : RW M_X10_order 87 (.iload 8) 2 0 0 89 := ⟨rfl, rfl⟩
theorem r_X10_order_89 : RW M_X10_order 89 (.iadd) 1 0 0 90 := ⟨rfl, rfl⟩
theorem r_X10_order_90 : RW M_X10_order 90 (.istore 5) 2 0 0 92 := ⟨rfl, rfl⟩
theorem r_X10_order_92 : RW M_X10_order 92 (.iload_n 1) 1 0 0 93 := ⟨rfl, rfl⟩
theorem r_X10_order_93 : RW M_X10_order 93 (.iload_n 2) 1 0 0 94 := ⟨rfl, rfl⟩
theorem r_X10_order_94 : RW M_X10_order 94 (.iload 7) 2 0 0 96 := ⟨rfl, rfl⟩
theorem r_X10_order_96 : RW M_X10_order 96 (.iload 8) 2 0 0 98 := ⟨rfl, rfl⟩
theorem r_X10_order_98 : RW M_X10_order 98 (.invokestatic 308) 3 166 0 101 := ⟨rfl, rfl⟩
theorem r_X10_order_101 : RW M_X10_order 101 (.iload_n 1) 1 0 0 102 := ⟨rfl, rfl⟩
theorem r_X10_order_102 : RW M_X10_order 102 (.iload_n 2) 1 0 0 103 := ⟨rfl, rfl⟩
theorem r_X10_order_103 : RW M_X10_order 103 (.iload 8) 2 0 0 105 := ⟨rfl, rfl⟩
theorem r_X10_order_105 : RW M_X10_order 105 (.iload 7) 2 0 0 107 := ⟨rfl, rfl⟩
theorem r_X10_order_107 : RW M_X10_order 107 (.invokestatic 308) 3 166 0 110 := ⟨rfl, rfl⟩
theorem r_X10_order_110 : RW M_X10_order 110 (.iadd) 1 0 0 111 := ⟨rfl, rfl⟩
theorem r_X10_order_111 : RW M_X10_order 111 (.istore 6) 2 0 0 113 := ⟨rfl, rfl⟩
theorem r_X10_order_113 : RW M_X10_order 113 (.iinc 4 1) 3 0 0 116 := ⟨rfl, rfl⟩
theorem r_X10_order_116 : RW M_X10_order 116 (.iinc 8 1) 3 0 0 119 := ⟨rfl, rfl⟩
theorem r_X10_order_119 : RW M_X10_order 119 (.goto (-60)) 3 59 0 122 := ⟨rfl, rfl⟩
theorem r_X10_order_122 : RW M_X10_order 122 (.iinc 7 1) 3 0 0 125 := ⟨rfl, rfl⟩
theorem r_X10_order_125 : RW M_X10_order 125 (.goto (-75)) 3 50 0 128 := ⟨rfl, rfl⟩
theorem r_X10_order_128 : RW M_X10_order 128 (.iload_n 3) 1 0 0 129 := ⟨rfl, rfl⟩
theorem r_X10_order_129 : RW M_X10_order 129 (.ifCond .ne 8) 3 137 0 132 := ⟨rfl, rfl⟩
theorem r_X10_order_132 : RW M_X10_order 132 (.iload 4) 2 0 0 134 := ⟨rfl, rfl⟩
theorem r_X10_order_134 : RW M_X10_order 134 (.goto 15) 3 149 0 137 := ⟨rfl, rfl⟩
theorem r_X10_order_137 : RW M_X10_order 137 (.iload_n 3) 1 0 0 138 := ⟨rfl, rfl⟩
theorem r_X10_order_138 : RW M_X10_order 138 (.iconst 1) 1 0 0 139 := ⟨rfl, rfl⟩
theorem r_X10_order_139 : RW M_X10_order 139 (.if_icmp .ne 8) 3 147 0 142 := ⟨rfl, rfl⟩
theorem r_X10_order_142 : RW M_X10_order 142 (.iload 5) 2 0 0 144 := ⟨rfl, rfl⟩
theorem r_X10_order_144 : RW M_X10_order 144 (.goto 5) 3 149 0 147 := ⟨rfl, rfl⟩
theorem r_X10_order_147 : RW M_X10_order 147 (.iload 6) 2 0 0 149 := ⟨rfl, rfl⟩
theorem r_X10_order_149 : RW M_X10_order 149 (.ireturn) 1 0 0 150 := ⟨rfl, rfl⟩
theorem r_X11_crowd_22 : RW M_X11_crowd 22 (.aload_n 0) 1 0 0 23 := ⟨rfl, rfl⟩
theorem r_X11_crowd_23 : RW M_X11_crowd 23 (.invokevirtual 322) 3 212 0 26 := ⟨rfl, rfl⟩
theorem r_X11_crowd_26 : RW M_X11_crowd 26 (.iconst 0) 1 0 0 27 := ⟨rfl, rfl⟩
theorem r_X11_crowd_27 : RW M_X11_crowd 27 (.istore_n 2) 1 0 0 28 := ⟨rfl, rfl⟩
theorem r_X11_crowd_28 : RW M_X11_crowd 28 (.aload_n 0) 1 0 0 29 := ⟨rfl, rfl⟩
theorem r_X11_crowd_29 : RW M_X11_crowd 29 (.iconst 0) 1 0 0 30 := ⟨rfl, rfl⟩
theorem r_X11_crowd_30 : RW M_X11_crowd 30 (.invokevirtual 401) 3 220 0 33 := ⟨rfl, rfl⟩
theorem r_X11_crowd_33 : RW M_X11_crowd 33 (.invokestatic 422) 3 213 0 36 := ⟨rfl, rfl⟩
theorem r_X11_crowd_36 : RW M_X11_crowd 36 (.istore_n 3) 1 0 0 37 := ⟨rfl, rfl⟩
theorem r_X11_crowd_37 : RW M_X11_crowd 37 (.iconst 0) 1 0 0 38 := ⟨rfl, rfl⟩
theorem r_X11_crowd_38 : RW M_X11_crowd 38 (.istore 4) 2 0 0 40 := ⟨rfl, rfl⟩
theorem r_X11_crowd_40 : RW M_X11_crowd 40 (.iload 4) 2 0 5 42 := ⟨rfl, rfl⟩
theorem r_X11_crowd_42 : RW M_X11_crowd 42 (.aload_n 0) 1 0 0 43 := ⟨rfl, rfl⟩
theorem r_X11_crowd_43 : RW M_X11_crowd 43 (.getfield 172) 3 11 24 46 := ⟨rfl, rfl⟩
theorem r_X11_crowd_46 : RW M_X11_crowd 46 (.if_icmp .ge 59) 3 105 0 49 := ⟨rfl, rfl⟩
theorem r_X11_crowd_49 : RW M_X11_crowd 49 (.aload_n 0) 1 0 0 50 := ⟨rfl, rfl⟩
theorem r_X11_crowd_50 : RW M_X11_crowd 50 (.getfield 74) 3 11 43 53 := ⟨rfl, rfl⟩
theorem r_X11_crowd_53 : RW M_X11_crowd 53 (.bipush 18) 2 0 0 55 := ⟨rfl, rfl⟩
theorem r_X11_crowd_55 : RW M_X11_crowd 55 (.iload 4) 2 0 0 57 := ⟨rfl, rfl⟩
theorem r_X11_crowd_57 : RW M_X11_crowd 57 (.iadd) 1 0 0 58 := ⟨rfl, rfl⟩
theorem r_X11_crowd_58 : RW M_X11_crowd 58 (.iaload) 1 0 0 59 := ⟨rfl, rfl⟩
theorem r_X11_crowd_59 : RW M_X11_crowd 59 (.istore 5) 2 0 0 61 := ⟨rfl, rfl⟩
theorem r_X11_crowd_61 : RW M_X11_crowd 61 (.aload_n 0) 1 0 0 62 := ⟨rfl, rfl⟩
theorem r_X11_crowd_62 : RW M_X11_crowd 62 (.iload 5) 2 0 0 64 := ⟨rfl, rfl⟩
theorem r_X11_crowd_64 : RW M_X11_crowd 64 (.invokevirtual 401) 3 220 0 67 := ⟨rfl, rfl⟩
theorem r_X11_crowd_67 : RW M_X11_crowd 67 (.invokestatic 422) 3 213 0 70 := ⟨rfl, rfl⟩
theorem r_X11_crowd_70 : RW M_X11_crowd 70 (.istore 6) 2 0 0 72 := ⟨rfl, rfl⟩
theorem r_X11_crowd_72 : RW M_X11_crowd 72 (.iload 6) 2 0 0 74 := ⟨rfl, rfl⟩
theorem r_X11_crowd_74 : RW M_X11_crowd 74 (.iload_n 3) 1 0 0 75 := ⟨rfl, rfl⟩
theorem r_X11_crowd_75 : RW M_X11_crowd 75 (.if_icmp .lt 24) 3 99 0 78 := ⟨rfl, rfl⟩
theorem r_X11_crowd_78 : RW M_X11_crowd 78 (.iload 6) 2 0 0 80 := ⟨rfl, rfl⟩
theorem r_X11_crowd_80 : RW M_X11_crowd 80 (.iload_n 3) 1 0 0 81 := ⟨rfl, rfl⟩
theorem r_X11_crowd_81 : RW M_X11_crowd 81 (.if_icmp .ne 12) 3 93 0 84 := ⟨rfl, rfl⟩
theorem r_X11_crowd_84 : RW M_X11_crowd 84 (.iload 5) 2 0 0 86 := ⟨rfl, rfl⟩
theorem r_X11_crowd_86 : RW M_X11_crowd 86 (.iload_n 2) 1 0 0 87 := ⟨rfl, rfl⟩
theorem r_X11_crowd_87 : RW M_X11_crowd 87 (.if_icmp .lt 6) 3 93 0 90 := ⟨rfl, rfl⟩
theorem r_X11_crowd_90 : RW M_X11_crowd 90 (.goto 9) 3 99 0 93 := ⟨rfl, rfl⟩
theorem r_X11_crowd_93 : RW M_X11_crowd 93 (.iload 5) 2 0 0 95 := ⟨rfl, rfl⟩
theorem r_X11_crowd_95 : RW M_X11_crowd 95 (.istore_n 2) 1 0 0 96 := ⟨rfl, rfl⟩
theorem r_X11_crowd_96 : RW M_X11_crowd 96 (.iload 6) 2 0 0 98 := ⟨rfl, rfl⟩
theorem r_X11_crowd_98 : RW M_X11_crowd 98 (.istore_n 3) 1 0 0 99 := ⟨rfl, rfl⟩
theorem r_X11_crowd_99 : RW M_X11_crowd 99 (.iinc 4 1) 3 0 0 102 := ⟨rfl, rfl⟩
theorem r_X11_crowd_102 : RW M_X11_crowd 102 (.goto (-62)) 3 40 0 105 := ⟨rfl, rfl⟩
theorem r_X11_crowd_105 : RW M_X11_crowd 105 (.iload_n 1) 1 0 0 106 := ⟨rfl, rfl⟩
theorem r_X11_crowd_106 : RW M_X11_crowd 106 (.ifCond .ne 7) 3 113 0 109 := ⟨rfl, rfl⟩
theorem r_X11_crowd_109 : RW M_X11_crowd 109 (.iload_n 2) 1 0 0 110 := ⟨rfl, rfl⟩
theorem r_X11_crowd_110 : RW M_X11_crowd 110 (.goto 4) 3 114 0 113 := ⟨rfl, rfl⟩
theorem r_X11_crowd_113 : RW M_X11_crowd 113 (.iload_n 3) 1 0 0 114 := ⟨rfl, rfl⟩
theorem r_X11_crowd_114 : RW M_X11_crowd 114 (.ireturn) 1 0 0 115 := ⟨rfl, rfl⟩
theorem r_X11_hasBy_0 : RW M_X11_hasBy 0 (.iload_n 0) 1 0 0 1 := ⟨rfl, rfl⟩
theorem r_X11_hasBy_1 : RW M_X11_hasBy 1 (.iload_n 1) 1 0 0 2 := ⟨rfl, rfl⟩
theorem r_X11_hasBy_2 : RW M_X11_hasBy 2 (.if_icmp .ne 17) 3 19 0 5 := ⟨rfl, rfl⟩
theorem r_X11_hasBy_5 : RW M_X11_hasBy 5 (.iload_n 0) 1 0 0 6 := ⟨rfl, rfl⟩
theorem r_X11_hasBy_6 : RW M_X11_hasBy 6 (.ifCond .ne 9) 3 15 0 9 := ⟨rfl, rfl⟩
theorem r_X11_hasBy_9 : RW M_X11_hasBy 9 (.iload_n 2) 1 0 0 10 := ⟨rfl, rfl⟩
theorem r_X11_hasBy_10 : RW M_X11_hasBy 10 (.iload_n 3) 1 0 0 11 := ⟨rfl, rfl⟩
theorem r_X11_hasBy_11 : RW M_X11_hasBy 11 (.isub) 1 0 0 12 := ⟨rfl, rfl⟩
theorem r_X11_hasBy_12 : RW M_X11_hasBy 12 (.goto 17) 3 29 0 15 := ⟨rfl, rfl⟩
theorem r_X11_hasBy_15 : RW M_X11_hasBy 15 (.iconst 0) 1 0 0 16 := ⟨rfl, rfl⟩
theorem r_X11_hasBy_16 : RW M_X11_hasBy 16 (.goto 13) 3 29 0 19 := ⟨rfl, rfl⟩
theorem r_X11_hasBy_19 : RW M_X11_hasBy 19 (.iload_n 0) 1 0 0 20 := ⟨rfl, rfl⟩
theorem r_X11_hasBy_20 : RW M_X11_hasBy 20 (.ifCond .ne 7) 3 27 0 23 := ⟨rfl, rfl⟩
theorem r_X11_hasBy_23 : RW M_X11_hasBy 23 (.iload_n 2) 1 0 0 24 := ⟨rfl, rfl⟩
theorem r_X11_hasBy_24 : RW M_X11_hasBy 24 (.goto 5) 3 29 0 27 := ⟨rfl, rfl⟩
theorem r_X11_hasBy_27 : RW M_X11_hasBy 27 (.iload_n 3) 1 0 0 28 := ⟨rfl, rfl⟩
theorem r_X11_hasBy_28 : RW M_X11_hasBy 28 (.ineg) 1 0 0 29 := ⟨rfl, rfl⟩
theorem r_X11_hasBy_29 : RW M_X11_hasBy 29 (.ireturn) 1 0 0 30 := ⟨rfl, rfl⟩
theorem r_X11_loaf_0 : RW M_X11_loaf 0 (.aload_n 0) 1 0 0 1 := ⟨rfl, rfl⟩
theorem r_X11_loaf_1 : RW M_X11_loaf 1 (.iconst 0) 1 0 0 2 := ⟨rfl, rfl⟩
theorem r_X11_loaf_2 : RW M_X11_loaf 2 (.putfield 3) 3 11 0 5 := ⟨rfl, rfl⟩
theorem r_X11_loaf_5 : RW M_X11_loaf 5 (.aload_n 0) 1 0 0 6 := ⟨rfl, rfl⟩
theorem r_X11_loaf_6 : RW M_X11_loaf 6 (.iload_n 1) 1 0 0 7 := ⟨rfl, rfl⟩
theorem r_X11_loaf_7 : RW M_X11_loaf 7 (.iconst 1) 1 0 0 8 := ⟨rfl, rfl⟩
theorem r_X11_loaf_8 : RW M_X11_loaf 8 (.invokevirtual 413) 3 240 0 11 := ⟨rfl, rfl⟩
theorem r_X11_loaf_11 : RW M_X11_loaf 11 (.ifCond .eq 36) 3 47 0 14 := ⟨rfl, rfl⟩
theorem r_X11_loaf_14 : RW M_X11_loaf 14 (.aload_n 0) 1 0 0 15 := ⟨rfl, rfl⟩
theorem r_X11_loaf_15 : RW M_X11_loaf 15 (.aload_n 0) 1 0 0 16 := ⟨rfl, rfl⟩
theorem r_X11_loaf_16 : RW M_X11_loaf 16 (.iload_n 2) 1 0 0 17 := ⟨rfl, rfl⟩
theorem r_X11_loaf_17 : RW M_X11_loaf 17 (.invokevirtual 443) 3 262 0 20 := ⟨rfl, rfl⟩
theorem r_X11_loaf_20 : RW M_X11_loaf 20 (.ifCond .eq 18) 3 38 0 23 := ⟨rfl, rfl⟩
theorem r_X11_loaf_23 : RW M_X11_loaf 23 (.iload_n 3) 1 0 0 24 := ⟨rfl, rfl⟩
theorem r_X11_loaf_24 : RW M_X11_loaf 24 (.iconst 0) 1 0 0 25 := ⟨rfl, rfl⟩
theorem r_X11_loaf_25 : RW M_X11_loaf 25 (.sipush 999) 3 0 0 28 := ⟨rfl, rfl⟩
theorem r_X11_loaf_28 : RW M_X11_loaf 28 (.invokestatic 392) 3 170 0 31 := ⟨rfl, rfl⟩
theorem r_X11_loaf_31 : RW M_X11_loaf 31 (.ifCond .eq 7) 3 38 0 34 := ⟨rfl, rfl⟩
theorem r_X11_loaf_34 : RW M_X11_loaf 34 (.iconst 1) 1 0 0 35 := ⟨rfl, rfl⟩
theorem r_X11_loaf_35 : RW M_X11_loaf 35 (.goto 4) 3 39 0 38 := ⟨rfl, rfl⟩
theorem r_X11_loaf_38 : RW M_X11_loaf 38 (.iconst 0) 1 0 0 39 := ⟨rfl, rfl⟩
theorem r_X11_loaf_39 : RW M_X11_loaf 39 (.iconst 2) 1 0 0 40 := ⟨rfl, rfl⟩
theorem r_X11_loaf_40 : RW M_X11_loaf 40 (.iconst 1) 1 0 0 41 := ⟨rfl, rfl⟩
theorem r_X11_loaf_41 : RW M_X11_loaf 41 (.invokevirtual 210) 3 169 0 44 := ⟨rfl, rfl⟩
theorem r_X11_loaf_44 : RW M_X11_loaf 44 (.ifCond .ne 5) 3 49 0 47 := ⟨rfl, rfl⟩
theorem r_X11_loaf_47 : RW M_X11_loaf 47 (.iconst 0) 1 0 0 48 := ⟨rfl, rfl⟩
theorem r_X11_loaf_48 : RW M_X11_loaf 48 (.ireturn) 1 0 0 49 := ⟨rfl, rfl⟩
theorem r_X11_loaf_49 : RW M_X11_loaf 49 (.bipush 40) 2 0 0 51 := ⟨rfl, rfl⟩
theorem r_X11_loaf_51 : RW M_X11_loaf 51 (.istore 4) 2 0 0 53 := ⟨rfl, rfl⟩
theorem r_X11_loaf_53 : RW M_X11_loaf 53 (.aload_n 0) 1 0 0 54 := ⟨rfl, rfl⟩
theorem r_X11_loaf_54 : RW M_X11_loaf 54 (.iload_n 2) 1 0 0 55 := ⟨rfl, rfl⟩
theorem r_X11_loaf_55 : RW M_X11_loaf 55 (.iload 4) 2 0 0 57 := ⟨rfl, rfl⟩
theorem r_X11_loaf_57 : RW M_X11_loaf 57 (.invokevirtual 446) 3 261 0 60 := ⟨rfl, rfl⟩
theorem r_X11_loaf_60 : RW M_X11_loaf 60 (.iload_n 3) 1 0 0 61 := ⟨rfl, rfl⟩
theorem r_X11_loaf_61 : RW M_X11_loaf 61 (.if_icmp .le 9) 3 70 0 64 := ⟨rfl, rfl⟩
theorem r_X11_loaf_64 : RW M_X11_loaf 64 (.iinc 4 (-1)) 3 0 0 67 := ⟨rfl, rfl⟩
theorem r_X11_loaf_67 : RW M_X11_loaf 67 (.goto (-14)) 3 53 0 70 := ⟨rfl, rfl⟩
theorem r_X11_loaf_70 : RW M_X11_loaf 70 (.iload_n 2) 1 0 0 71 := ⟨rfl, rfl⟩
theorem r_X11_loaf_71 : RW M_X11_loaf 71 (.iload_n 1) 1 0 0 72 := ⟨rfl, rfl⟩
theorem r_X11_loaf_72 : RW M_X11_loaf 72 (.ishr) 1 0 0 73 := ⟨rfl, rfl⟩
theorem r_X11_loaf_73 : RW M_X11_loaf 73 (.iconst 1) 1 0 0 74 := ⟨rfl, rfl⟩
theorem r_X11_loaf_74 : RW M_X11_loaf 74 (.iand) 1 0 0 75 := ⟨rfl, rfl⟩
theorem r_X11_loaf_75 : RW M_X11_loaf 75 (.ifCond .ne 7) 3 82 0 78 := ⟨rfl, rfl⟩
theorem r_X11_loaf_78 : RW M_X11_loaf 78 (.iconst 0) 1 0 0 79 := ⟨rfl, rfl⟩
theorem r_X11_loaf_79 : RW M_X11_loaf 79 (.goto 10) 3 89 0 82 := ⟨rfl, rfl⟩
theorem r_X11_loaf_82 : RW M_X11_loaf 82 (.aload_n 0) 1 0 0 83 := ⟨rfl, rfl⟩
theorem r_X11_loaf_83 : RW M_X11_loaf 83 (.iload_n 1) 1 0 0 84 := ⟨rfl, rfl⟩
theorem r_X11_loaf_84 : RW M_X11_loaf 84 (.iload 4) 2 0 0 86 := ⟨rfl, rfl⟩
theorem r_X11_loaf_86 : RW M_X11_loaf 86 (.invokevirtual 440) 3 260 0 89 := ⟨rfl, rfl⟩
theorem r_X11_loaf_89 : RW M_X11_loaf 89 (.ireturn) 1 0 0 90 := ⟨rfl, rfl⟩
theorem r_X11_order_0 : RW M_X11_order 0 (.aload_n 0) 1 0 0 1 := ⟨rfl, rfl⟩
theorem r_X11_order_1 : RW M_X11_order 1 (.iconst 0) 1 0 0 2 := ⟨rfl, rfl⟩
theorem r_X11_order_2 : RW M_X11_order 2 (.putfield 3) 3 11 0 5 := ⟨rfl, rfl⟩
theorem r_X11_order_5 : RW M_X11_order 5 (.aload_n 0) 1 0 0 6 := ⟨rfl, rfl⟩
theorem r_X11_order_6 : RW M_X11_order 6 (.iload_n 1) 1 0 0 7 := ⟨rfl, rfl⟩
theorem r_X11_order_7 : RW M_X11_order 7 (.iconst 0) 1 0 0 8 := ⟨rfl, rfl⟩
theorem r_X11_order_8 : RW M_X11_order 8 (.bipush 99) 2 0 0 10 := ⟨rfl, rfl⟩
theorem r_X11_order_10 : RW M_X11_order 10 (.invokestatic 392) 3 170 0 13 := ⟨rfl, rfl⟩
theorem r_X11_order_13 : RW M_X11_order 13 (.ifCond .eq 26) 3 39 0 16 := ⟨rfl, rfl⟩
theorem r_X11_order_16 : RW M_X11_order 16 (.iload_n 2) 1 0 0 17 := ⟨rfl, rfl⟩
theorem r_X11_order_17 : RW M_X11_order 17 (.iconst 0) 1 0 0 18 := ⟨rfl, rfl⟩
theorem r_X11_order_18 : RW M_X11_order 18 (.bipush 99) 2 0 0 20 := ⟨rfl, rfl⟩
theorem r_X11_order_20 : RW M_X11_order 20 (.invokestatic 392) 3 170 0 23 := ⟨rfl, rfl⟩
theorem r_X11_order_23 : RW M_X11_order 23 (.ifCond .eq 16) 3 39 0 26 := ⟨rfl, rfl⟩
theorem r_X11_order_26 : RW M_X11_order 26 (.iload_n 3) 1 0 0 27 := ⟨rfl, rfl⟩
theorem r_X11_order_27 : RW M_X11_order 27 (.iconst 0) 1 0 0 28 := ⟨rfl, rfl⟩
theorem r_X11_order_28 : RW M_X11_order 28 (.iconst 2) 1 0 0 29 := ⟨rfl, rfl⟩
theorem r_X11_order_29 : RW M_X11_order 29 (.invokestatic 392) 3 170 0 32 := ⟨rfl, rfl⟩
theorem r_X11_order_32 : RW M_X11_order 32 (.ifCond .eq 7) 3 39 0 35 := ⟨rfl, rfl⟩
theorem r_X11_order_35 : RW M_X11_order 35 (.iconst 1) 1 0 0 36 := ⟨rfl, rfl⟩
theorem r_X11_order_36 : RW M_X11_order 36 (.goto 4) 3 40 0 39 := ⟨rfl, rfl⟩
theorem r_X11_order_39 : RW M_X11_order 39 (.iconst 0) 1 0 0 40 := ⟨rfl, rfl⟩
theorem r_X11_order_40 : RW M_X11_order 40 (.iconst 1) 1 0 0 41 := ⟨rfl, rfl⟩
theorem r_X11_order_41 : RW M_X11_order 41 (.iconst 1) 1 0 0 42 := ⟨rfl, rfl⟩
theorem r_X11_order_42 : RW M_X11_order 42 (.invokevirtual 210) 3 169 0 45 := ⟨rfl, rfl⟩
theorem r_X11_order_45 : RW M_X11_order 45 (.ifCond .ne 5) 3 50 0 48 := ⟨rfl, rfl⟩
theorem r_X11_order_48 : RW M_X11_order 48 (.iconst 0) 1 0 0 49 := ⟨rfl, rfl⟩
theorem r_X11_order_49 : RW M_X11_order 49 (.ireturn) 1 0 0 50 := ⟨rfl, rfl⟩
theorem r_X11_order_50 : RW M_X11_order 50 (.iconst 0) 1 0 0 51 := ⟨rfl, rfl⟩
theorem r_X11_order_51 : RW M_X11_order 51 (.istore 4) 2 0 0 53 := ⟨rfl, rfl⟩
theorem r_X11_order_53 : RW M_X11_order 53 (.iconst (-1)) 1 0 0 54 := ⟨rfl, rfl⟩
theorem r_X11_order_54 : RW M_X11_order 54 (.istore 5) 2 0 0 56 := ⟨rfl, rfl⟩
theorem r_X11_order_56 : RW M_X11_order 56 (.iconst 0) 1 0 0 57 := ⟨rfl, rfl⟩
theorem r_X11_order_57 : RW M_X11_order 57 (.istore 6) 2 0 0 59 := ⟨rfl, rfl⟩
theorem r_X11_order_59 : RW M_X11_order 59 (.iload 6) 2 0 7 61 := ⟨rfl, rfl⟩
theorem r_X11_order_61 : RW M_X11_order 61 (.iconst 4) 1 0 0 62 := ⟨rfl, rfl⟩
theorem r_X11_order_62 : RW M_X11_order 62 (.if_icmp .ge 94) 3 156 0 65 := ⟨rfl, rfl⟩
theorem r_X11_order_65 : RW M_X11_order 65 (.iload 6) 2 0 0 67 := ⟨rfl, rfl⟩
theorem r_X11_order_67 : RW M_X11_order 67 (.iconst 2) 1 0 0 68 := ⟨rfl, rfl⟩
theorem r_X11_order_68 : RW M_X11_order 68 (.idiv) 1 0 0 69 := ⟨rfl, rfl⟩
theorem r_X11_order_69 : RW M_X11_order 69 (.istore 7) 2 0 0 71 := ⟨rfl, rfl⟩
theorem r_X11_order_71 : RW M_X11_order 71 (.iload 6) 2 0 0 73 := ⟨rfl, rfl⟩
theorem r_X11_order_73 : RW M_X11_order 73 (.iconst 2) 1 0 0 74 := ⟨rfl, rfl⟩
theorem r_X11_order_74 : RW M_X11_order 74 (.irem) 1 0 0 75 := ⟨rfl, rfl⟩
theorem r_X11_order_75 : RW M_X11_order 75 (.istore 8) 2 0 0 77 := ⟨rfl, rfl⟩
theorem r_X11_order_77 : RW M_X11_order 77 (.iconst 1) 1 0 0 78 := ⟨rfl, rfl⟩
theorem r_X11_order_78 : RW M_X11_order 78 (.iload 7) 2 0 0 80 := ⟨rfl, rfl⟩
theorem r_X11_order_80 : RW M_X11_order 80 (.isub) 1 0 0 81 := ⟨rfl, rfl⟩
theorem r_X11_order_81 : RW M_X11_order 81 (.iload 8) 2 0 0 83 := ⟨rfl, rfl⟩
theorem r_X11_order_83 : RW M_X11_order 83 (.iload_n 1) 1 0 0 84 := ⟨rfl, rfl⟩
theorem r_X11_order_84 : RW M_X11_order 84 (.iload_n 2) 1 0 0 85 := ⟨rfl, rfl⟩
theorem r_X11_order_85 : RW M_X11_order 85 (.invokestatic 436) 3 258 0 88 := ⟨rfl, rfl⟩
theorem r_X11_order_88 : RW M_X11_order 88 (.iload 7) 2 0 0 90 := ⟨rfl, rfl⟩
theorem r_X11_order_90 : RW M_X11_order 90 (.iload 8) 2 0 0 92 := ⟨rfl, rfl⟩
theorem r_X11_order_92 : RW M_X11_order 92 (.iload_n 1) 1 0 0 93 := ⟨rfl, rfl⟩
theorem r_X11_order_93 : RW M_X11_order 93 (.iload_n 2) 1 0 0 94 := ⟨rfl, rfl⟩
theorem r_X11_order_94 : RW M_X11_order 94 (.invokestatic 436) 3 258 0 97 := ⟨rfl, rfl⟩
theorem r_X11_order_97 : RW M_X11_order 97 (.if_icmp .gt 53) 3 150 0 100 := ⟨rfl, rfl⟩
theorem r_X11_order_100 : RW M_X11_order 100 (.iconst 1) 1 0 0 101 := ⟨rfl, rfl⟩
theorem r_X11_order_101 : RW M_X11_order 101 (.iload 8) 2 0 0 103 := ⟨rfl, rfl⟩
theorem r_X11_order_103 : RW M_X11_order 103 (.isub) 1 0 0 104 := ⟨rfl, rfl⟩
theorem r_X11_order_104 : RW M_X11_order 104 (.iload 7) 2 0 0 106 := ⟨rfl, rfl⟩
theorem r_X11_order_106 : RW M_X11_order 106 (.iload_n 1) 1 0 0 107 := ⟨rfl, rfl⟩
theorem r_X11_order_107 : RW M_X11_order 107 (.iload_n 2) 1 0 0 108 := ⟨rfl, rfl⟩
theorem r_X11_order_108 : RW M_X11_order 108 (.invokestatic 436) 3 258 0 111 := ⟨rfl, rfl⟩
theorem r_X11_order_111 : RW M_X11_order 111 (.iload 8) 2 0 0 113 := ⟨rfl, rfl⟩
theorem r_X11_order_113 : RW M_X11_order 113 (.iload 7) 2 0 0 115 := ⟨rfl, rfl⟩
theorem r_X11_order_115 : RW M_X11_order 115 (.iload_n 1) 1 0 0 116 := ⟨rfl, rfl⟩
theorem r_X11_order_116 : RW M_X11_order 116 (.iload_n 2) 1 0 0 117 := ⟨rfl, rfl⟩
theorem r_X11_order_117 : RW M_X11_order 117 (.invokestatic 436) 3 258 0 120 := ⟨rfl, rfl⟩
theorem r_X11_order_120 : RW M_X11_order 120 (.if_icmp .le 6) 3 126 0 123 := ⟨rfl, rfl⟩
theorem r_X11_order_123 : RW M_X11_order 123 (.goto 27) 3 150 0 126 := ⟨rfl, rfl⟩
theorem r_X11_order_126 : RW M_X11_order 126 (.iinc 4 1) 3 0 0 129 := ⟨rfl, rfl⟩
theorem r_X11_order_129 : RW M_X11_order 129 (.iload 5) 2 0 0 131 := ⟨rfl, rfl⟩
theorem r_X11_order_131 : RW M_X11_order 131 (.iconst (-1)) 1 0 0 132 := ⟨rfl, rfl⟩
theorem r_X11_order_132 : RW M_X11_order 132 (.if_icmp .ne 14) 3 146 0 135 := ⟨rfl, rfl⟩
theorem r_X11_order_135 : RW M_X11_order 135 (.bipush 10) 2 0 0 137 := ⟨rfl, rfl⟩
theorem r_X11_order_137 : RW M_X11_order 137 (.iload 7) 2 0 0 139 := ⟨rfl, rfl⟩
theorem r_X11_order_139 : RW M_X11_order 139 (.imul) 1 0 0 140 := ⟨rfl, rfl⟩
theorem r_X11_order_140 : RW M_X11_order 140 (.iload 8) 2 0 0 142 := ⟨rfl, rfl⟩
theorem r_X11_order_142 : RW M_X11_order 142 (.iadd) 1 0 0 143 := ⟨rfl, rfl⟩
theorem r_X11_order_143 : RW M_X11_order 143 (.goto 5) 3 148 0 146 := ⟨rfl, rfl⟩
theorem r_X11_order_146 : RW M_X11_order 146 (.iload 5) 2 0 0 148 := ⟨rfl, rfl⟩
theorem r_X11_order_148 : RW M_X11_order 148 (.istore 5) 2 0 0 150 := ⟨rfl, rfl⟩
theorem r_X11_order_150 : RW M_X11_order 150 (.iinc 6 1) 3 0 0 153 := ⟨rfl, rfl⟩
theorem r_X11_order_153 : RW M_X11_order 153 (.goto (-94)) 3 59 0 156 := ⟨rfl, rfl⟩
theorem r_X11_order_156 : RW M_X11_order 156 (.iload_n 3) 1 0 0 157 := ⟨rfl, rfl⟩
theorem r_X11_order_157 : RW M_X11_order 157 (.ifCond .ne 8) 3 165 0 160 := ⟨rfl, rfl⟩
theorem r_X11_order_160 : RW M_X11_order 160 (.iload 4) 2 0 0 162 := ⟨rfl, rfl⟩
theorem r_X11_order_162 : RW M_X11_order 162 (.goto 54) 3 216 0 165 := ⟨rfl, rfl⟩
theorem r_X11_order_165 : RW M_X11_order 165 (.iload_n 3) 1 0 0 166 := ⟨rfl, rfl⟩
theorem r_X11_order_166 : RW M_X11_order 166 (.iconst 1) 1 0 0 167 := ⟨rfl, rfl⟩
theorem r_X11_order_167 : RW M_X11_order 167 (.if_icmp .ne 8) 3 175 0 170 := ⟨rfl, rfl⟩
theorem r_X11_order_170 : RW M_X11_order 170 (.iload 5) 2 0 0 172 := ⟨rfl, rfl⟩
theorem r_X11_order_172 : RW M_X11_order 172 (.goto 44) 3 216 0 175 := ⟨rfl, rfl⟩
theorem r_X11_order_175 : RW M_X11_order 175 (.iload 5) 2 0 0 177 := ⟨rfl, rfl⟩
theorem r_X11_order_177 : RW M_X11_order 177 (.iconst (-1)) 1 0 0 178 := ⟨rfl, rfl⟩
theorem r_X11_order_178 : RW M_X11_order 178 (.if_icmp .ne 7) 3 185 0 181 := ⟨rfl, rfl⟩
theorem r_X11_order_181 : RW M_X11_order 181 (.iconst 0) 1 0 0 182 := ⟨rfl, rfl⟩
theorem r_X11_order_182 : RW M_X11_order 182 (.goto 34) 3 216 0 185 := ⟨rfl, rfl⟩
theorem r_X11_order_185 : RW M_X11_order 185 (.iload 5) 2 0 0 187 := ⟨rfl, rfl⟩
theorem r_X11_order_187 : RW M_X11_order 187 (.bipush 10) 2 0 0 189 := ⟨rfl, rfl⟩
theorem r_X11_order_189 : RW M_X11_order 189 (.idiv) 1 0 0 190 := ⟨rfl, rfl⟩
theorem r_X11_order_190 : RW M_X11_order 190 (.iload 5) 2 0 0 192 := ⟨rfl, rfl⟩
theorem r_X11_order_192 : RW M_X11_order 192 (.bipush 10) 2 0 0 194 := ⟨rfl, rfl⟩
theorem r_X11_order_194 : RW M_X11_order 194 (.irem) 1 0 0 195 := ⟨rfl, rfl⟩
theorem r_X11_order_195 : RW M_X11_order 195 (.iload_n 1) 1 0 0 196 := ⟨rfl, rfl⟩
theorem r_X11_order_196 : RW M_X11_order 196 (.iload_n 2) 1 0 0 197 := ⟨rfl, rfl⟩
theorem r_X11_order_197 : RW M_X11_order 197 (.invokestatic 436) 3 258 0 200 := ⟨rfl, rfl⟩
theorem r_X11_order_200 : RW M_X11_order 200 (.iload 5) 2 0 0 202 := ⟨rfl, rfl⟩
theorem r_X11_order_202 : RW M_X11_order 202 (.bipush 10) 2 0 0 204 := ⟨rfl, rfl⟩
theorem r_X11_order_204 : RW M_X11_order 204 (.irem) 1 0 0 205 := ⟨rfl, rfl⟩
theorem r_X11_order_205 : RW M_X11_order 205 (.iload 5) 2 0 0 207 := ⟨rfl, rfl⟩
theorem r_X11_order_207 : RW M_X11_order 207 (.bipush 10) 2 0 0 209 := ⟨rfl, rfl⟩
theorem r_X11_order_209 : RW M_X11_order 209 (.idiv) 1 0 0 210 := ⟨rfl, rfl⟩
theorem r_X11_order_210 : RW M_X11_order 210 (.iload_n 1) 1 0 0 211 := ⟨rfl, rfl⟩
theorem r_X11_order_211 : RW M_X11_order 211 (.iload_n 2) 1 0 0 212 := ⟨rfl, rfl⟩
theorem r_X11_order_212 : RW M_X11_order 212 (.invokestatic 436) 3 258 0 215 := ⟨rfl, rfl⟩
theorem r_X11_order_215 : RW M_X11_order 215 (.iadd) 1 0 0 216 := ⟨rfl, rfl⟩
theorem r_X11_order_216 : RW M_X11_order 216 (.ireturn) 1 0 0 217 := ⟨rfl, rfl⟩
theorem r_X11_pairs_0 : RW M_X11_pairs 0 (.aload_n 0) 1 0 0 1 := ⟨rfl, rfl⟩
theorem r_X11_pairs_1 : RW M_X11_pairs 1 (.iconst 0) 1 0 0 2 := ⟨rfl, rfl⟩
theorem r_X11_pairs_2 : RW M_X11_pairs 2 (.putfield 3) 3 11 0 5 := ⟨rfl, rfl⟩
theorem r_X11_pairs_5 : RW M_X11_pairs 5 (.aload_n 0) 1 0 0 6 := ⟨rfl, rfl⟩
theorem r_X11_pairs_6 : RW M_X11_pairs 6 (.invokevirtual 322) 3 212 0 9 := ⟨rfl, rfl⟩
theorem r_X11_pairs_9 : RW M_X11_pairs 9 (.iconst 0) 1 0 0 10 := ⟨rfl, rfl⟩
theorem r_X11_pairs_10 : RW M_X11_pairs 10 (.istore_n 1) 1 0 0 11 := ⟨rfl, rfl⟩
theorem r_X11_pairs_11 : RW M_X11_pairs 11 (.iconst 0) 1 0 0 12 := ⟨rfl, rfl⟩
theorem r_X11_pairs_12 : RW M_X11_pairs 12 (.istore_n 2) 1 0 0 13 := ⟨rfl, rfl⟩
theorem r_X11_pairs_13 : RW M_X11_pairs 13 (.iload_n 2) 1 0 3 14 := ⟨rfl, rfl⟩
theorem r_X11_pairs_14 : RW M_X11_pairs 14 (.aload_n 0) 1 0 0 15 := ⟨rfl, rfl⟩
theorem r_X11_pairs_15 : RW M_X11_pairs 15 (.getfield 172) 3 11 24 18 := ⟨rfl, rfl⟩
theorem r_X11_pairs_18 : RW M_X11_pairs 18 (.if_icmp .ge 64) 3 82 0 21 := ⟨rfl, rfl⟩
theorem r_X11_pairs_21 : RW M_X11_pairs 21 (.iconst 0) 1 0 0 22 := ⟨rfl, rfl⟩
theorem r_X11_pairs_22 : RW M_X11_pairs 22 (.istore_n 3) 1 0 0 23 := ⟨rfl, rfl⟩
theorem r_X11_pairs_23 : RW M_X11_pairs 23 (.iload_n 3) 1 0 0 24 := ⟨rfl, rfl⟩
theorem r_X11_pairs_24 : RW M_X11_pairs 24 (.iload_n 2) 1 0 0 25 := ⟨rfl, rfl⟩
theorem r_X11_pairs_25 : RW M_X11_pairs 25 (.if_icmp .ge 51) 3 76 0 28 := ⟨rfl, rfl⟩
theorem r_X11_pairs_28 : RW M_X11_pairs 28 (.iload_n 1) 1 0 0 29 := ⟨rfl, rfl⟩
theorem r_X11_pairs_29 : RW M_X11_pairs 29 (.aload_n 0) 1 0 0 30 := ⟨rfl, rfl⟩
theorem r_X11_pairs_30 : RW M_X11_pairs 30 (.getfield 74) 3 11 43 33 := ⟨rfl, rfl⟩
theorem r_X11_pairs_33 : RW M_X11_pairs 33 (.bipush 18) 2 0 0 35 := ⟨rfl, rfl⟩
theorem r_X11_pairs_35 : RW M_X11_pairs 35 (.iload_n 2) 1 0 0 36 := ⟨rfl, rfl⟩
theorem r_X11_pairs_36 : RW M_X11_pairs 36 (.iadd) 1 0 0 37 := ⟨rfl, rfl⟩
theorem r_X11_pairs_37 : RW M_X11_pairs 37 (.iaload) 1 0 0 38 := ⟨rfl, rfl⟩
theorem r_X11_pairs_38 : RW M_X11_pairs 38 (.aload_n 0) 1 0 0 39 := ⟨rfl, rfl⟩
theorem r_X11_pairs_39 : RW M_X11_pairs 39 (.iload_n 3) 1 0 0 40 := ⟨rfl, rfl⟩
theorem r_X11_pairs_40 : RW M_X11_pairs 40 (.invokevirtual 455) 3 275 0 43 := ⟨rfl, rfl⟩
theorem r_X11_pairs_43 : RW M_X11_pairs 43 (.if_icmp .gt 24) 3 67 0 46 := ⟨rfl, rfl⟩
theorem r_X11_pairs_46 : RW M_X11_pairs 46 (.aload_n 0) 1 0 0 47 := ⟨rfl, rfl⟩
theorem r_X11_pairs_47 : RW M_X11_pairs 47 (.getfield 74) 3 11 43 50 := ⟨rfl, rfl⟩
theorem r_X11_pairs_50 : RW M_X11_pairs 50 (.bipush 18) 2 0 0 52 := ⟨rfl, rfl⟩
theorem r_X11_pairs_52 : RW M_X11_pairs 52 (.iload_n 3) 1 0 0 53 := ⟨rfl, rfl⟩
theorem r_X11_pairs_53 : RW M_X11_pairs 53 (.iadd) 1 0 0 54 := ⟨rfl, rfl⟩
theorem r_X11_pairs_54 : RW M_X11_pairs 54 (.iaload) 1 0 0 55 := ⟨rfl, rfl⟩
theorem r_X11_pairs_55 : RW M_X11_pairs 55 (.aload_n 0) 1 0 0 56 := ⟨rfl, rfl⟩
theorem r_X11_pairs_56 : RW M_X11_pairs 56 (.iload_n 2) 1 0 0 57 := ⟨rfl, rfl⟩
theorem r_X11_pairs_57 : RW M_X11_pairs 57 (.invokevirtual 455) 3 275 0 60 := ⟨rfl, rfl⟩
theorem r_X11_pairs_60 : RW M_X11_pairs 60 (.if_icmp .gt 7) 3 67 0 63 := ⟨rfl, rfl⟩
theorem r_X11_pairs_63 : RW M_X11_pairs 63 (.iconst 1) 1 0 0 64 := ⟨rfl, rfl⟩
theorem r_X11_pairs_64 : RW M_X11_pairs 64 (.goto 4) 3 68 0 67 := ⟨rfl, rfl⟩
theorem r_X11_pairs_67 : RW M_X11_pairs 67 (.iconst 0) 1 0 0 68 := ⟨rfl, rfl⟩
theorem r_X11_pairs_68 : RW M_X11_pairs 68 (.iadd) 1 0 0 69 := ⟨rfl, rfl⟩
theorem r_X11_pairs_69 : RW M_X11_pairs 69 (.istore_n 1) 1 0 0 70 := ⟨rfl, rfl⟩
theorem r_X11_pairs_70 : RW M_X11_pairs 70 (.iinc 3 1) 3 0 0 73 := ⟨rfl, rfl⟩
theorem r_X11_pairs_73 : RW M_X11_pairs 73 (.goto (-50)) 3 23 0 76 := ⟨rfl, rfl⟩
theorem r_X11_pairs_76 : RW M_X11_pairs 76 (.iinc 2 1) 3 0 0 79 := ⟨rfl, rfl⟩
theorem r_X11_pairs_79 : RW M_X11_pairs 79 (.goto (-66)) 3 13 0 82 := ⟨rfl, rfl⟩
theorem r_X11_pairs_82 : RW M_X11_pairs 82 (.iload_n 1) 1 0 0 83 := ⟨rfl, rfl⟩
theorem r_X11_pairs_83 : RW M_X11_pairs 83 (.ireturn) 1 0 0 84 := ⟨rfl, rfl⟩
theorem c_loaf {d : Nat} {I : Nat → Nat → Int32} {J : Nat → Nat → Int64} {κ : CT} {η : HS} (hc_ : HC 4 κ I) (cb : CB κ) (hh : HH 71 η I) (hb_ : HB κ η) (hw : HW κ η) {k x n : Nat} (h : k < κ.nc) (hx : x < 2 ^ κ.nc) (hn : n ≤ 999)  (hd : 9 ≤ d) : RV d 136 [.ref 0, .int (nI k), .int (nI x), .int (nI n)] I J (nI (lf κ η k x n)) := by
  refine RV.in (d0 := 8) hd mt_136 (Nat.le_of_ble_eq_true rfl) (fun d' hd' => ?_)
  have bns := cb.ns; have bnb := cb.nb; have bnc := cb.nc; have bnr := cb.nr
  have bm_ := hb_.mi
  have pc := pow_nc cb; have b1 := hb_.cr k
  show EV none M_X10_loaf d' 0 [(0, .ref 0), (1, .int (nI k)), (2, .int (nI x)), (3, .int (nI n))] [] (hp I J) _
  refine EV.l (lv' := [(0, _), (1, _), (2, _), (3, _)]) r_X10_loaf_0 rfl ?_
  refine EV.l (lv' := [(0, _), (1, _), (2, _), (3, _)]) r_X10_loaf_1 rfl ?_
  refine EV.l (lv' := [(0, _), (1, _), (2, _), (3, _)]) r_X10_loaf_2 rfl ?_
  refine EV.gR r_X10_loaf_3 la_0 ?_
  refine EV.getV r_X10_loaf_6 la_4 (hc_.nc) ?_
  refine EV.cu r_X10_loaf_9 (aV2 mt_160 la_0) (c_there1 (by omega) (by omega) (by omega)) (fun I2 e2 => ?_)
  have e2 := e2.symm; subst e2
  refine EV.l (lv' := [(0, _), (1, _), (2, _), (3, _)]) r_X10_loaf_12 rfl ?_
  refine EV.l (lv' := [(0, _), (1, _), (2, _), (3, _)]) r_X10_loaf_13 rfl ?_
  refine EV.l (lv' := [(0, _), (1, _), (2, _), (3, _)]) r_X10_loaf_14 rfl ?_
  refine EV.gR r_X10_loaf_15 la_0 ?_
  refine EV.getV r_X10_loaf_18 la_4 (hc_.nc) ?_
  refine EV.cu r_X10_loaf_21 (aV2 mt_158 la_0) (c_bits1 (by assumption) (by omega) (by omega)) (fun I2 e2 => ?_)
  have e2 := e2.symm; subst e2
  refine EV.l (lv' := [(0, _), (1, _), (2, _), (3, _)]) r_X10_loaf_24 rfl ?_
  refine EV.l (lv' := [(0, _), (1, _), (2, _), (3, _)]) r_X10_loaf_25 rfl ?_
  refine EV.n0_lt r_X10_loaf_26 (fun h26 => ?_) (fun h26 => ?_)
  · -- 26 t
    refine EV.o r_X10_loaf_40 (icN (0) (v := 0)) ?_
    omega
  · -- 26 f
    refine EV.l (lv' := [(0, _), (1, _), (2, _), (3, _)]) r_X10_loaf_29 rfl ?_
    refine EV.o r_X10_loaf_30 (spN (999) 999) ?_
    refine EV.n2_gt r_X10_loaf_33 (fun h33 => ?_) (fun h33 => ?_)
    · -- 33 t
      refine EV.o r_X10_loaf_40 (icN (0) (v := 0)) ?_
      omega
    · -- 33 f
      refine EV.o r_X10_loaf_36 (icN (1) (v := 1)) ?_
      refine EV.g r_X10_loaf_37 ?_
      refine EV.cu r_X10_loaf_41 (aV1 mt_159 la_0) (c_arg1 (by omega)) (fun I2 e2 => ?_)
      have e2 := e2.symm; subst e2
      refine EV.l (lv' := [(0, _), (1, _), (2, _), (3, _)]) r_X10_loaf_44 rfl ?_
      refine EV.l (lv' := [(0, _), (1, _), (2, _), (3, _)]) r_X10_loaf_45 rfl ?_
      refine EV.cv r_X10_loaf_46 (aS2 mt_163) (c_has (by omega) (by omega) (by omega)) ?_
      refine EV.b0_ne r_X10_loaf_49 (fun h49 => ?_) (fun h49 => ?_)
      · -- 49 t
        refine EV.o r_X10_loaf_54 (bpN (40) 40) ?_
        refine EV.l (lv' := [(0, _), (1, _), (2, _), (3, _), (4, _)]) r_X10_loaf_56 rfl ?_
        have L58 : ∀ y_ : Nat, (fun b => (b ≤ 40 ∧ lfD (fun b => crumb κ η x b κ.nc) n 40 = lfD (fun b => crumb κ η x b κ.nc) n b) → EV none M_X10_loaf d' 58 [(0, .ref 0), (1, .int (nI k)), (2, .int (nI x)), (3, .int (nI n)), (4, .int (nI b))] [] (hp I J) (QV I J (nI (lf κ η k x n)))) y_ := by
          refine ev_loop (fun b => b) ?_
          intro b ih58 hx58
          try dsimp only at ih58
          try dsimp only at hx58
          try dsimp only
          have bl := hx58.1
          have cl_ := crumb_le (κ := κ) (all := x) (bound := b) hb_.cr κ.nc
          refine EV.l (lv' := [(0, _), (1, _), (2, _), (3, _), (4, _)]) r_X10_loaf_58 rfl ?_
          refine EV.n0_le r_X10_loaf_60 (fun h60 => ?_) (fun h60 => ?_)
          · -- 60 t
            refine EV.l (lv' := [(0, _), (1, _), (2, _), (3, _), (4, _)]) r_X10_loaf_83 rfl ?_
            refine EV.gR r_X10_loaf_84 la_0 ?_
            refine EV.gR r_X10_loaf_87 la_71 ?_
            refine EV.l (lv' := [(0, _), (1, _), (2, _), (3, _), (4, _)]) r_X10_loaf_90 rfl ?_
            refine EV.cv r_X10_loaf_91 (aV1 mt_92 la_80) (c_getN (by omega) la_80 la_81 (hh.cr _ (by omega))) ?_
            refine EV.l (lv' := [(0, _), (1, _), (2, _), (3, _), (4, _)]) r_X10_loaf_94 rfl ?_
            refine EV.pmin r_X10_loaf_96 ?_
            exact EV.rv r_X10_loaf_99 (by unfold lf; rw [if_pos h49, hx58.2]; first | rw [lfD_t (b := b) (by omega)] | rw [show b = 0 by omega, lfD_z])
          · -- 60 f
            refine EV.l (lv' := [(0, _), (1, _), (2, _), (3, _), (4, _)]) r_X10_loaf_63 rfl ?_
            refine EV.gR r_X10_loaf_64 la_0 ?_
            refine EV.l (lv' := [(0, _), (1, _), (2, _), (3, _), (4, _)]) r_X10_loaf_67 rfl ?_
            refine EV.l (lv' := [(0, _), (1, _), (2, _), (3, _), (4, _)]) r_X10_loaf_68 rfl ?_
            refine EV.cv r_X10_loaf_70 (aV2 mt_32 la_71) (c71_crumbs hc_ cb hh hb_ (by omega) (by omega) (by omega)) ?_
            refine EV.l (lv' := [(0, _), (1, _), (2, _), (3, _), (4, _)]) r_X10_loaf_73 rfl ?_
            refine EV.n2_le r_X10_loaf_74 (fun h74 => ?_) (fun h74 => ?_)
            · -- 74 t
              refine EV.l (lv' := [(0, _), (1, _), (2, _), (3, _), (4, _)]) r_X10_loaf_83 rfl ?_
              refine EV.gR r_X10_loaf_84 la_0 ?_
              refine EV.gR r_X10_loaf_87 la_71 ?_
              refine EV.l (lv' := [(0, _), (1, _), (2, _), (3, _), (4, _)]) r_X10_loaf_90 rfl ?_
              refine EV.cv r_X10_loaf_91 (aV1 mt_92 la_80) (c_getN (by omega) la_80 la_81 (hh.cr _ (by omega))) ?_
              refine EV.l (lv' := [(0, _), (1, _), (2, _), (3, _), (4, _)]) r_X10_loaf_94 rfl ?_
              refine EV.pmin r_X10_loaf_96 ?_
              exact EV.rv r_X10_loaf_99 (by unfold lf; rw [if_pos h49, hx58.2]; first | rw [lfD_t (b := b) (by omega)] | rw [show b = 0 by omega, lfD_z])
            · -- 74 f
              refine EV.l (lv' := [(0, _), (1, _), (2, _), (3, _), (4, _)]) r_X10_loaf_77 rfl ?_
              rw [dec_nI (by omega)]
              refine EV.g r_X10_loaf_80 ?_
              refine EV.sub ?_ rfl ?_ (ih58 (b - 1) ?_ ?_)
              · rfl
              · rfl
              · omega
              · exact ⟨by omega, hx58.2.trans (lfD_f (by omega) (by omega))⟩
        have h0 := L58 (40)
        try dsimp only at h0
        refine EV.sub ?_ rfl ?_ (h0 ?_)
        · rfl
        · rfl
        · exact ⟨by omega, rfl⟩
      · -- 49 f
        refine EV.o r_X10_loaf_52 (icN (0) (v := 0)) ?_
        exact EV.rv r_X10_loaf_53 (by unfold lf; rw [if_neg (by simp [h49])])
theorem c_loafT {d : Nat} {I : Nat → Nat → Int32} {J : Nat → Nat → Int64} {κ : CT} (hc_ : HC 4 κ I) (cb : CB κ) {x : Int} (x1 : -2147483648 ≤ x) (x2 : x < 2147483648) (hx : x < 0 ∨ (κ.nc : Int) ≤ x) {y z : Int32}  (hd : 9 ≤ d) : RX d 136 [.ref 0, .int (zI x), .int y, .int z] I J 0 (fun I' => I' = ref1 I 13) := by
  refine RX.in (d0 := 8) hd mt_136 (Nat.le_of_ble_eq_true rfl) (fun d' hd' => ?_)
  have bns := cb.ns; have bnb := cb.nb; have bnc := cb.nc; have bnr := cb.nr
  have pn := Nat.two_pow_pos κ.ns; have qn := pow_ns cb; have pc := Nat.two_pow_pos κ.nc; have qc := pow_nc cb
  show EV none M_X10_loaf d' 0 [(0, .ref 0), (1, .int (zI x)), (2, .int y), (3, .int z)] [] (hp I J) _
  refine EV.l (lv' := [(0, _), (1, _), (2, _), (3, _)]) r_X10_loaf_0 rfl ?_
  refine EV.l (lv' := [(0, _), (1, _), (2, _), (3, _)]) r_X10_loaf_1 rfl ?_
  refine EV.l (lv' := [(0, _), (1, _), (2, _), (3, _)]) r_X10_loaf_2 rfl ?_
  refine EV.gR r_X10_loaf_3 la_0 ?_
  refine EV.getV r_X10_loaf_6 la_4 (hc_.nc) ?_
  exact EV.cx r_X10_loaf_9 (aV2 mt_160 la_0) (c_there0 (z_out (by omega) (by omega) (by omega) (by omega)) (by omega)) (fun _ h => h)
theorem c_loafB {d : Nat} {I : Nat → Nat → Int32} {J : Nat → Nat → Int64} {κ : CT} (hc_ : HC 4 κ I) (cb : CB κ) {k : Nat} (h : k < κ.nc) {x : Int} (x1 : -2147483648 ≤ x) (x2 : x < 2147483648) (hx : x < 0 ∨ ((2 ^ κ.nc : Nat) : Int) ≤ x) {z : Int32}  (hd : 9 ≤ d) : RX d 136 [.ref 0, .int (nI k), .int (zI x), .int z] I J 1 (fun I' => I' = ref1 I 14) := by
  refine RX.in (d0 := 8) hd mt_136 (Nat.le_of_ble_eq_true rfl) (fun d' hd' => ?_)
  have bns := cb.ns; have bnb := cb.nb; have bnc := cb.nc; have bnr := cb.nr
  have pn := Nat.two_pow_pos κ.ns; have qn := pow_ns cb; have pc := Nat.two_pow_pos κ.nc; have qc := pow_nc cb
  show EV none M_X10_loaf d' 0 [(0, .ref 0), (1, .int (nI k)), (2, .int (zI x)), (3, .int z)] [] (hp I J) _
  refine EV.l (lv' := [(0, _), (1, _), (2, _), (3, _)]) r_X10_loaf_0 rfl ?_
  refine EV.l (lv' := [(0, _), (1, _), (2, _), (3, _)]) r_X10_loaf_1 rfl ?_
  refine EV.l (lv' := [(0, _), (1, _), (2, _), (3, _)]) r_X10_loaf_2 rfl ?_
  refine EV.gR r_X10_loaf_3 la_0 ?_
  refine EV.getV r_X10_loaf_6 la_4 (hc_.nc) ?_
  refine EV.cu r_X10_loaf_9 (aV2 mt_160 la_0) (c_there1 (by omega) (by omega) (by omega)) (fun I2 e2 => ?_)
  have e2 := e2.symm; subst e2
  refine EV.l (lv' := [(0, _), (1, _), (2, _), (3, _)]) r_X10_loaf_12 rfl ?_
  refine EV.l (lv' := [(0, _), (1, _), (2, _), (3, _)]) r_X10_loaf_13 rfl ?_
  refine EV.l (lv' := [(0, _), (1, _), (2, _), (3, _)]) r_X10_loaf_14 rfl ?_
  refine EV.gR r_X10_loaf_15 la_0 ?_
  refine EV.getV r_X10_loaf_18 la_4 (hc_.nc) ?_
  exact EV.cx r_X10_loaf_21 (aV2 mt_158 la_0) (c_bits0 (z_out (by omega) (by omega) (by omega) (by omega)) (by omega) (by omega)) (fun _ h => h)
theorem c_loafX {d : Nat} {I : Nat → Nat → Int32} {J : Nat → Nat → Int64} {κ : CT} (hc_ : HC 4 κ I) (cb : CB κ) {k x : Nat} (h : k < κ.nc) (hx : x < 2 ^ κ.nc) {z : Int} (z1 : -2147483648 ≤ z) (z2 : z < 2147483648) (hz : ¬ (0 ≤ z ∧ z ≤ 999))  (hd : 9 ≤ d) : RX d 136 [.ref 0, .int (nI k), .int (nI x), .int (zI z)] I J 1 (fun I' => I' = ref1 I 14) := by
  refine RX.in (d0 := 8) hd mt_136 (Nat.le_of_ble_eq_true rfl) (fun d' hd' => ?_)
  have bns := cb.ns; have bnb := cb.nb; have bnc := cb.nc; have bnr := cb.nr
  have pn := Nat.two_pow_pos κ.ns; have qn := pow_ns cb; have pc := Nat.two_pow_pos κ.nc; have qc := pow_nc cb
  show EV none M_X10_loaf d' 0 [(0, .ref 0), (1, .int (nI k)), (2, .int (nI x)), (3, .int (zI z))] [] (hp I J) _
  refine EV.l (lv' := [(0, _), (1, _), (2, _), (3, _)]) r_X10_loaf_0 rfl ?_
  refine EV.l (lv' := [(0, _), (1, _), (2, _), (3, _)]) r_X10_loaf_1 rfl ?_
  refine EV.l (lv' := [(0, _), (1, _), (2, _), (3, _)]) r_X10_loaf_2 rfl ?_
  refine EV.gR r_X10_loaf_3 la_0 ?_
  refine EV.getV r_X10_loaf_6 la_4 (hc_.nc) ?_
  refine EV.cu r_X10_loaf_9 (aV2 mt_160 la_0) (c_there1 (by omega) (by omega) (by omega)) (fun I2 e2 => ?_)
  have e2 := e2.symm; subst e2
  refine EV.l (lv' := [(0, _), (1, _), (2, _), (3, _)]) r_X10_loaf_12 rfl ?_
  refine EV.l (lv' := [(0, _), (1, _), (2, _), (3, _)]) r_X10_loaf_13 rfl ?_
  refine EV.l (lv' := [(0, _), (1, _), (2, _), (3, _)]) r_X10_loaf_14 rfl ?_
  refine EV.gR r_X10_loaf_15 la_0 ?_
  refine EV.getV r_X10_loaf_18 la_4 (hc_.nc) ?_
  refine EV.cu r_X10_loaf_21 (aV2 mt_158 la_0) (c_bits1 (by assumption) (by omega) (by omega)) (fun I2 e2 => ?_)
  have e2 := e2.symm; subst e2
  refine EV.l (lv' := [(0, _), (1, _), (2, _), (3, _)]) r_X10_loaf_24 rfl ?_
  refine EV.l (lv' := [(0, _), (1, _), (2, _), (3, _)]) r_X10_loaf_25 rfl ?_
  refine EV.z0_lt r_X10_loaf_26 (fun h26 => ?_) (fun h26 => ?_)
  · -- 26 t
    refine EV.o r_X10_loaf_40 (icN (0) (v := 0)) ?_
    exact EV.cx r_X10_loaf_41 (aV1 mt_159 la_0) (c_arg0 (by omega)) (fun _ h => h)
  · -- 26 f
    refine EV.l (lv' := [(0, _), (1, _), (2, _), (3, _)]) r_X10_loaf_29 rfl ?_
    refine EV.o r_X10_loaf_30 (spN (999) 999) ?_
    refine EV.zn2_gt r_X10_loaf_33 (fun h33 => ?_) (fun h33 => ?_)
    · -- 33 t
      refine EV.o r_X10_loaf_40 (icN (0) (v := 0)) ?_
      exact EV.cx r_X10_loaf_41 (aV1 mt_159 la_0) (c_arg0 (by omega)) (fun _ h => h)
    · -- 33 f
      refine EV.o r_X10_loaf_36 (icN (1) (v := 1)) ?_
      refine EV.g r_X10_loaf_37 ?_
      omega
theorem m_loafT {d : Nat} {I : Nat → Nat → Int32} {J : Nat → Nat → Int64} {κ : CT} (mc_ : MC κ I) (cb : CB κ) {x : Int} (x1 : -2147483648 ≤ x) (x2 : x < 2147483648) (hx : x < 0 ∨ (κ.nc : Int) ≤ x) {y z : Int32}  (hd : 9 ≤ d) : RI d 263 [.ref 106, .int (zI x), .int y, .int z] I J (fun v I' => I' = refM I 1 0) := by
  refine RI.in (d0 := 8) hd mt_263 (Nat.le_of_ble_eq_true rfl) (fun d' hd' => ?_)
  have bns := cb.ns; have bnb := cb.nb; have bnc := cb.nc; have bnr := cb.nr
  have pn := Nat.two_pow_pos κ.ns; have qn := pow_ns cb; have pc := Nat.two_pow_pos κ.nc; have qc := pow_nc cb
  show EV none M_X11_loaf d' 0 [(0, .ref 106), (1, .int (zI x)), (2, .int y), (3, .int z)] [] (hp I J) _
  refine EV.l (lv' := [(0, _), (1, _), (2, _), (3, _)]) r_X11_loaf_0 rfl ?_
  refine EV.o r_X11_loaf_1 (icN (0) (v := 0)) ?_
  refine EV.pI r_X11_loaf_2 la_106 ?_
  refine EV.l (lv' := [(0, _), (1, _), (2, _), (3, _)]) r_X11_loaf_5 rfl ?_
  refine EV.l (lv' := [(0, _), (1, _), (2, _), (3, _)]) r_X11_loaf_6 rfl ?_
  refine EV.o r_X11_loaf_7 (icN (1) (v := 1)) ?_
  refine EV.ci r_X11_loaf_8 (aV2 mt_240 la_106) (m_isCouns0 (wr0_mc mc_) cb wr_same (by omega) (by omega) (by omega) (by decide) (by decide) (by omega)) (fun v I2 h2 => ?_)
  obtain ⟨e, fr_⟩ := h2
  subst e
  refine EV.n0_eq r_X11_loaf_11 (fun h11 => ?_) (fun h11 => ?_)
  · -- 11 t
    refine EV.o r_X11_loaf_47 (icN (0) (v := 0)) ?_
    exact EV.ri r_X11_loaf_48 (fr_)
  · omega
theorem m_loafB {d : Nat} {I : Nat → Nat → Int32} {J : Nat → Nat → Int64} {κ : CT} (mc_ : MC κ I) (cb : CB κ) {k : Nat} (h : k < κ.nc) {x : Int} (x1 : -2147483648 ≤ x) (x2 : x < 2147483648) (hx : x < 0 ∨ ((2 ^ κ.nc : Nat) : Int) ≤ x) {z : Int32}  (hd : 9 ≤ d) : RI d 263 [.ref 106, .int (nI k), .int (zI x), .int z] I J (fun v I' => I' = refM I 2 1) := by
  refine RI.in (d0 := 8) hd mt_263 (Nat.le_of_ble_eq_true rfl) (fun d' hd' => ?_)
  have bns := cb.ns; have bnb := cb.nb; have bnc := cb.nc; have bnr := cb.nr
  have pn := Nat.two_pow_pos κ.ns; have qn := pow_ns cb; have pc := Nat.two_pow_pos κ.nc; have qc := pow_nc cb
  show EV none M_X11_loaf d' 0 [(0, .ref 106), (1, .int (nI k)), (2, .int (zI x)), (3, .int z)] [] (hp I J) _
  refine EV.l (lv' := [(0, _), (1, _), (2, _), (3, _)]) r_X11_loaf_0 rfl ?_
  refine EV.o r_X11_loaf_1 (icN (0) (v := 0)) ?_
  refine EV.pI r_X11_loaf_2 la_106 ?_
  refine EV.l (lv' := [(0, _), (1, _), (2, _), (3, _)]) r_X11_loaf_5 rfl ?_
  refine EV.l (lv' := [(0, _), (1, _), (2, _), (3, _)]) r_X11_loaf_6 rfl ?_
  refine EV.o r_X11_loaf_7 (icN (1) (v := 1)) ?_
  refine EV.cv r_X11_loaf_8 (aV2 mt_240 la_106) (m_isCouns1 (wr0_mc mc_) cb wr_same (by omega) (by omega)) ?_
  refine EV.n0_eq r_X11_loaf_11 (fun h11 => ?_) (fun h11 => ?_)
  · omega
  · -- 11 f
    refine EV.l (lv' := [(0, _), (1, _), (2, _), (3, _)]) r_X11_loaf_14 rfl ?_
    refine EV.l (lv' := [(0, _), (1, _), (2, _), (3, _)]) r_X11_loaf_15 rfl ?_
    refine EV.l (lv' := [(0, _), (1, _), (2, _), (3, _)]) r_X11_loaf_16 rfl ?_
    refine EV.cv r_X11_loaf_17 (aV1 mt_262 la_106) (m_isSome0 (wr0_mc mc_) cb (by omega) (by omega) (by omega) (by omega)) ?_
    refine EV.n0_eq r_X11_loaf_20 (fun h20 => ?_) (fun h20 => ?_)
    · -- 20 t
      refine EV.o r_X11_loaf_38 (icN (0) (v := 0)) ?_
      refine EV.o r_X11_loaf_39 (icN (2) (v := 2)) ?_
      refine EV.o r_X11_loaf_40 (icN (1) (v := 1)) ?_
      refine EV.ci r_X11_loaf_41 (aV3 mt_169 la_106) (m_may0 wr_same (by decide) (by decide) (by decide) (by omega)) (fun v I2 h2 => ?_)
      obtain ⟨e, fr_⟩ := h2
      subst e
      refine EV.n0_ne r_X11_loaf_44 (fun h44 => ?_) (fun h44 => ?_)
      · omega
      · -- 44 f
        refine EV.o r_X11_loaf_47 (icN (0) (v := 0)) ?_
        exact EV.ri r_X11_loaf_48 (fr_)
    · omega
theorem m_loafX {d : Nat} {I : Nat → Nat → Int32} {J : Nat → Nat → Int64} {κ : CT} (mc_ : MC κ I) (cb : CB κ) {k x : Nat} (h : k < κ.nc) (hx : x < 2 ^ κ.nc) {z : Int} (z1 : -2147483648 ≤ z) (z2 : z < 2147483648) (hz : ¬ (0 ≤ z ∧ z ≤ 999))  (hd : 9 ≤ d) : RI d 263 [.ref 106, .int (nI k), .int (nI x), .int (zI z)] I J (fun v I' => I' = refM I 2 1) := by
  refine RI.in (d0 := 8) hd mt_263 (Nat.le_of_ble_eq_true rfl) (fun d' hd' => ?_)
  have bns := cb.ns; have bnb := cb.nb; have bnc := cb.nc; have bnr := cb.nr
  have pn := Nat.two_pow_pos κ.ns; have qn := pow_ns cb; have pc := Nat.two_pow_pos κ.nc; have qc := pow_nc cb
  show EV none M_X11_loaf d' 0 [(0, .ref 106), (1, .int (nI k)), (2, .int (nI x)), (3, .int (zI z))] [] (hp I J) _
  refine EV.l (lv' := [(0, _), (1, _), (2, _), (3, _)]) r_X11_loaf_0 rfl ?_
  refine EV.o r_X11_loaf_1 (icN (0) (v := 0)) ?_
  refine EV.pI r_X11_loaf_2 la_106 ?_
  refine EV.l (lv' := [(0, _), (1, _), (2, _), (3, _)]) r_X11_loaf_5 rfl ?_
  refine EV.l (lv' := [(0, _), (1, _), (2, _), (3, _)]) r_X11_loaf_6 rfl ?_
  refine EV.o r_X11_loaf_7 (icN (1) (v := 1)) ?_
  refine EV.cv r_X11_loaf_8 (aV2 mt_240 la_106) (m_isCouns1 (wr0_mc mc_) cb wr_same (by omega) (by omega)) ?_
  refine EV.n0_eq r_X11_loaf_11 (fun h11 => ?_) (fun h11 => ?_)
  · omega
  · -- 11 f
    refine EV.l (lv' := [(0, _), (1, _), (2, _), (3, _)]) r_X11_loaf_14 rfl ?_
    refine EV.l (lv' := [(0, _), (1, _), (2, _), (3, _)]) r_X11_loaf_15 rfl ?_
    refine EV.l (lv' := [(0, _), (1, _), (2, _), (3, _)]) r_X11_loaf_16 rfl ?_
    refine EV.cv r_X11_loaf_17 (aV1 mt_262 la_106) (m_isSome1 (wr0_mc mc_) cb (by omega) (by omega)) ?_
    refine EV.n0_eq r_X11_loaf_20 (fun h20 => ?_) (fun h20 => ?_)
    · omega
    · -- 20 f
      refine EV.l (lv' := [(0, _), (1, _), (2, _), (3, _)]) r_X11_loaf_23 rfl ?_
      refine EV.o r_X11_loaf_24 (icN (0) (v := 0)) ?_
      refine EV.o r_X11_loaf_25 (spN (999) 999) ?_
      refine EV.cv r_X11_loaf_28 (aS3 mt_170) (m_wZNN (by omega) (by omega) (by omega) (by omega) (by omega)) ?_
      refine EV.p0_eq r_X11_loaf_31 (fun h31 => ?_) (fun h31 => ?_)
      · -- 31 t
        refine EV.o r_X11_loaf_38 (icN (0) (v := 0)) ?_
        refine EV.o r_X11_loaf_39 (icN (2) (v := 2)) ?_
        refine EV.o r_X11_loaf_40 (icN (1) (v := 1)) ?_
        refine EV.ci r_X11_loaf_41 (aV3 mt_169 la_106) (m_may0 wr_same (by decide) (by decide) (by decide) (by omega)) (fun v I2 h2 => ?_)
        obtain ⟨e, fr_⟩ := h2
        subst e
        refine EV.n0_ne r_X11_loaf_44 (fun h44 => ?_) (fun h44 => ?_)
        · omega
        · -- 44 f
          refine EV.o r_X11_loaf_47 (icN (0) (v := 0)) ?_
          exact EV.ri r_X11_loaf_48 (fr_)
      · -- 31 f
        refine EV.o r_X11_loaf_34 (icN (1) (v := 1)) ?_
        refine EV.g r_X11_loaf_35 ?_
        refine EV.o r_X11_loaf_39 (icN (2) (v := 2)) ?_
        refine EV.o r_X11_loaf_40 (icN (1) (v := 1)) ?_
        omega
theorem m_loaf {d : Nat} {I : Nat → Nat → Int32} {J : Nat → Nat → Int64} {κ : CT} {l : LW} {η : HS} (mc_ : MC κ I) (cb : CB κ) (mr : MR 125 κ η I) (hb_ : HB κ η) (ml_ : ML l I) (lb : LB l) (wm : WM κ l η) {k x n : Nat} (h : k < κ.nc) (hx : x < 2 ^ κ.nc) (hn : n ≤ 999)  (hd : 13 ≤ d) : RI d 263 [.ref 106, .int (nI k), .int (nI x), .int (nI n)] I J (fun v I' => v = nI (lf κ η k x n) ∧ FM I I') := by
  refine RI.in (d0 := 12) hd mt_263 (Nat.le_of_ble_eq_true rfl) (fun d' hd' => ?_)
  have bns := cb.ns; have bnb := cb.nb; have bnc := cb.nc; have bnr := cb.nr
  have bm_ := hb_.mi
  have mc1 := wr0_mc (v := nI 0) mc_; have mr1 := MR.fr (I' := wr I 106 0 (nI 0)) mr (wr_row (by decide)); have pc := pow_nc cb
  have b1 := hb_.cr k
  show EV none M_X11_loaf d' 0 [(0, .ref 106), (1, .int (nI k)), (2, .int (nI x)), (3, .int (nI n))] [] (hp I J) _
  refine EV.l (lv' := [(0, _), (1, _), (2, _), (3, _)]) r_X11_loaf_0 rfl ?_
  refine EV.o r_X11_loaf_1 (icN (0) (v := 0)) ?_
  refine EV.pI r_X11_loaf_2 la_106 ?_
  refine EV.l (lv' := [(0, _), (1, _), (2, _), (3, _)]) r_X11_loaf_5 rfl ?_
  refine EV.l (lv' := [(0, _), (1, _), (2, _), (3, _)]) r_X11_loaf_6 rfl ?_
  refine EV.o r_X11_loaf_7 (icN (1) (v := 1)) ?_
  refine EV.cv r_X11_loaf_8 (aV2 mt_240 la_106) (m_isCouns1 (wr0_mc mc_) cb wr_same (by omega) (by omega)) ?_
  refine EV.n0_eq r_X11_loaf_11 (fun h11 => ?_) (fun h11 => ?_)
  · omega
  · -- 11 f
    refine EV.l (lv' := [(0, _), (1, _), (2, _), (3, _)]) r_X11_loaf_14 rfl ?_
    refine EV.l (lv' := [(0, _), (1, _), (2, _), (3, _)]) r_X11_loaf_15 rfl ?_
    refine EV.l (lv' := [(0, _), (1, _), (2, _), (3, _)]) r_X11_loaf_16 rfl ?_
    refine EV.cv r_X11_loaf_17 (aV1 mt_262 la_106) (m_isSome1 (wr0_mc mc_) cb (by omega) (by omega)) ?_
    refine EV.n0_eq r_X11_loaf_20 (fun h20 => ?_) (fun h20 => ?_)
    · omega
    · -- 20 f
      refine EV.l (lv' := [(0, _), (1, _), (2, _), (3, _)]) r_X11_loaf_23 rfl ?_
      refine EV.o r_X11_loaf_24 (icN (0) (v := 0)) ?_
      refine EV.o r_X11_loaf_25 (spN (999) 999) ?_
      refine EV.cv r_X11_loaf_28 (aS3 mt_170) (m_wNNN (by omega) (by omega) (by omega) (by omega)) ?_
      refine EV.p0_eq r_X11_loaf_31 (fun h31 => ?_) (fun h31 => ?_)
      · -- 31 t
        refine EV.o r_X11_loaf_38 (icN (0) (v := 0)) ?_
        refine EV.o r_X11_loaf_39 (icN (2) (v := 2)) ?_
        refine EV.o r_X11_loaf_40 (icN (1) (v := 1)) ?_
        omega
      · -- 31 f
        refine EV.o r_X11_loaf_34 (icN (1) (v := 1)) ?_
        refine EV.g r_X11_loaf_35 ?_
        refine EV.o r_X11_loaf_39 (icN (2) (v := 2)) ?_
        refine EV.o r_X11_loaf_40 (icN (1) (v := 1)) ?_
        refine EV.cv r_X11_loaf_41 (aV3 mt_169 la_106) (m_mayN wr_same (by omega)) ?_
        refine EV.n0_ne r_X11_loaf_44 (fun h44 => ?_) (fun h44 => ?_)
        · -- 44 t
          refine EV.o r_X11_loaf_49 (bpN (40) 40) ?_
          refine EV.l (lv' := [(0, _), (1, _), (2, _), (3, _), (4, _)]) r_X11_loaf_51 rfl ?_
          have L53 : ∀ y_ : Nat, (fun b => (b ≤ 40 ∧ lfD (fun b => crumb κ η x b κ.nc) n 40 = lfD (fun b => crumb κ η x b κ.nc) n b) → EV none M_X11_loaf d' 53 [(0, .ref 106), (1, .int (nI k)), (2, .int (nI x)), (3, .int (nI n)), (4, .int (nI b))] [] (hp (wr I 106 0 (nI 0)) J) (QI J (fun v I' => v = nI (lf κ η k x n) ∧ FM I I'))) y_ := by
            refine ev_loop (fun b => b) ?_
            intro b ih53 hx53
            try dsimp only at ih53
            try dsimp only at hx53
            try dsimp only
            have bl := hx53.1
            have cl_ := crumb_le (κ := κ) (all := x) (bound := b) hb_.cr κ.nc
            have c0 : b = 0 → crumb κ η x b κ.nc = 0 := fun e => by subst e; exact crumb_0 _
            refine EV.l (lv' := [(0, _), (1, _), (2, _), (3, _), (4, _)]) r_X11_loaf_53 rfl ?_
            refine EV.l (lv' := [(0, _), (1, _), (2, _), (3, _), (4, _)]) r_X11_loaf_54 rfl ?_
            refine EV.l (lv' := [(0, _), (1, _), (2, _), (3, _), (4, _)]) r_X11_loaf_55 rfl ?_
            refine EV.cv r_X11_loaf_57 (aV2 mt_261 la_106) (m_loafBy mc1 mr1 cb hb_ (by omega) (by omega) (by omega)) ?_
            refine EV.l (lv' := [(0, _), (1, _), (2, _), (3, _), (4, _)]) r_X11_loaf_60 rfl ?_
            refine EV.n2_le r_X11_loaf_61 (fun h61 => ?_) (fun h61 => ?_)
            · -- 61 t
              refine EV.l (lv' := [(0, _), (1, _), (2, _), (3, _), (4, _)]) r_X11_loaf_70 rfl ?_
              refine EV.l (lv' := [(0, _), (1, _), (2, _), (3, _), (4, _)]) r_X11_loaf_71 rfl ?_
              refine EV.o r_X11_loaf_72 (ishrN) ?_
              refine EV.o r_X11_loaf_73 (icN (1) (v := 1)) ?_
              refine EV.o r_X11_loaf_74 ibitN ?_
              refine EV.bz_ne r_X11_loaf_75 (fun h75 => ?_) (fun h75 => ?_)
              · -- 75 t
                refine EV.l (lv' := [(0, _), (1, _), (2, _), (3, _), (4, _)]) r_X11_loaf_82 rfl ?_
                refine EV.l (lv' := [(0, _), (1, _), (2, _), (3, _), (4, _)]) r_X11_loaf_83 rfl ?_
                refine EV.l (lv' := [(0, _), (1, _), (2, _), (3, _), (4, _)]) r_X11_loaf_84 rfl ?_
                refine EV.cv r_X11_loaf_86 (aV2 mt_260 la_106) (m_bounded mr1 cb hb_ (by omega) (by omega) (by omega)) ?_
                exact EV.ri r_X11_loaf_89 (⟨by unfold lf; first | rw [if_pos h75, hx53.2, lfD_t (b := b) (by omega), Nat.min_comm] | rw [if_neg (by rw [h75]; decide)], FM_0⟩)
              · -- 75 f
                refine EV.o r_X11_loaf_78 (icN (0) (v := 0)) ?_
                refine EV.g r_X11_loaf_79 ?_
                exact EV.ri r_X11_loaf_89 (⟨by unfold lf; first | rw [if_pos h75, hx53.2, lfD_t (b := b) (by omega), Nat.min_comm] | rw [if_neg (by rw [h75]; decide)], FM_0⟩)
            · -- 61 f
              refine EV.l (lv' := [(0, _), (1, _), (2, _), (3, _), (4, _)]) r_X11_loaf_64 rfl ?_
              rw [dec_nI (by omega)]
              refine EV.g r_X11_loaf_67 ?_
              refine EV.sub ?_ rfl ?_ (ih53 (b - 1) ?_ ?_)
              · rfl
              · rfl
              · omega
              · exact ⟨by omega, hx53.2.trans (lfD_f (by omega) (by omega))⟩
          have h0 := L53 (40)
          try dsimp only at h0
          refine EV.sub ?_ rfl ?_ (h0 ?_)
          · rfl
          · rfl
          · exact ⟨by omega, rfl⟩
        · omega
theorem c_gain {d : Nat} {I : Nat → Nat → Int32} {J : Nat → Nat → Int64} {v w a b : Nat} (hv : v ≤ 99) (hw : w ≤ 99) (ha : a ≤ 1) (hb_ : b ≤ 1) (hd : 1 ≤ d) : RV d 166 [.int (nI v), .int (nI w), .int (nI a), .int (nI b)] I J (zI (gn v w a b)) := by
  refine RV.in (d0 := 0) hd mt_166 (Nat.le_of_ble_eq_true rfl) (fun d' hd' => ?_)
  show EV none M_X10_gain d' 0 [(0, .int (nI v)), (1, .int (nI w)), (2, .int (nI a)), (3, .int (nI b))] [] (hp I J) _
  refine EV.l (lv' := [(0, _), (1, _), (2, _), (3, _)]) r_X10_gain_0 rfl ?_
  refine EV.n0_ne r_X10_gain_1 (fun h1 => ?_) (fun h1 => ?_)
  · -- 1 t
    refine EV.o r_X10_gain_8 (icN (0) (v := 0)) ?_
    refine EV.l (lv' := [(0, _), (1, _), (2, _), (3, _)]) r_X10_gain_9 rfl ?_
    refine EV.n0_ne r_X10_gain_10 (fun h10 => ?_) (fun h10 => ?_)
    · -- 10 t
      refine EV.o r_X10_gain_17 (icN (0) (v := 0)) ?_
      refine EV.o r_X10_gain_18 (isubNZ) ?_
      exact EV.rv r_X10_gain_19 (congrArg zI (by unfold gn; (repeat' split) <;> omega))
    · -- 10 f
      refine EV.l (lv' := [(0, _), (1, _), (2, _), (3, _)]) r_X10_gain_13 rfl ?_
      refine EV.g r_X10_gain_14 ?_
      refine EV.o r_X10_gain_18 (isubNZ) ?_
      exact EV.rv r_X10_gain_19 (congrArg zI (by unfold gn; (repeat' split) <;> omega))
  · -- 1 f
    refine EV.l (lv' := [(0, _), (1, _), (2, _), (3, _)]) r_X10_gain_4 rfl ?_
    refine EV.g r_X10_gain_5 ?_
    refine EV.l (lv' := [(0, _), (1, _), (2, _), (3, _)]) r_X10_gain_9 rfl ?_
    refine EV.n0_ne r_X10_gain_10 (fun h10 => ?_) (fun h10 => ?_)
    · -- 10 t
      refine EV.o r_X10_gain_17 (icN (0) (v := 0)) ?_
      refine EV.o r_X10_gain_18 (isubNZ) ?_
      exact EV.rv r_X10_gain_19 (congrArg zI (by unfold gn; (repeat' split) <;> omega))
    · -- 10 f
      refine EV.l (lv' := [(0, _), (1, _), (2, _), (3, _)]) r_X10_gain_13 rfl ?_
      refine EV.g r_X10_gain_14 ?_
      refine EV.o r_X10_gain_18 (isubNZ) ?_
      exact EV.rv r_X10_gain_19 (congrArg zI (by unfold gn; (repeat' split) <;> omega))
theorem m_hasBy {d : Nat} {I : Nat → Nat → Int32} {J : Nat → Nat → Int64} {v w a b : Nat} (hv : v ≤ 99) (hw : w ≤ 99) (ha : a ≤ 1) (hb_ : b ≤ 1) (hd : 1 ≤ d) : RV d 258 [.int (nI a), .int (nI b), .int (nI v), .int (nI w)] I J (zI (gn v w a b)) := by
  refine RV.in (d0 := 0) hd mt_258 (Nat.le_of_ble_eq_true rfl) (fun d' hd' => ?_)
  show EV none M_X11_hasBy d' 0 [(0, .int (nI a)), (1, .int (nI b)), (2, .int (nI v)), (3, .int (nI w))] [] (hp I J) _
  refine EV.l (lv' := [(0, _), (1, _), (2, _), (3, _)]) r_X11_hasBy_0 rfl ?_
  refine EV.l (lv' := [(0, _), (1, _), (2, _), (3, _)]) r_X11_hasBy_1 rfl ?_
  refine EV.n2_ne r_X11_hasBy_2 (fun h2 => ?_) (fun h2 => ?_)
  · -- 2 t
    refine EV.l (lv' := [(0, _), (1, _), (2, _), (3, _)]) r_X11_hasBy_19 rfl ?_
    refine EV.n0_ne r_X11_hasBy_20 (fun h20 => ?_) (fun h20 => ?_)
    · -- 20 t
      refine EV.l (lv' := [(0, _), (1, _), (2, _), (3, _)]) r_X11_hasBy_27 rfl ?_
      refine EV.o r_X11_hasBy_28 (inegN) ?_
      exact EV.rv r_X11_hasBy_29 (by first | (rw [← zI_nat]; exact congrArg zI (by unfold gn; (repeat' split) <;> omega)) | (exact congrArg zI (by unfold gn; (repeat' split) <;> omega)))
    · -- 20 f
      refine EV.l (lv' := [(0, _), (1, _), (2, _), (3, _)]) r_X11_hasBy_23 rfl ?_
      refine EV.g r_X11_hasBy_24 ?_
      exact EV.rv r_X11_hasBy_29 (by first | (rw [← zI_nat]; exact congrArg zI (by unfold gn; (repeat' split) <;> omega)) | (exact congrArg zI (by unfold gn; (repeat' split) <;> omega)))
  · -- 2 f
    refine EV.l (lv' := [(0, _), (1, _), (2, _), (3, _)]) r_X11_hasBy_5 rfl ?_
    refine EV.n0_ne r_X11_hasBy_6 (fun h6 => ?_) (fun h6 => ?_)
    · -- 6 t
      refine EV.o r_X11_hasBy_15 (icN (0) (v := 0)) ?_
      refine EV.g r_X11_hasBy_16 ?_
      exact EV.rv r_X11_hasBy_29 (by first | (rw [← zI_nat]; exact congrArg zI (by unfold gn; (repeat' split) <;> omega)) | (exact congrArg zI (by unfold gn; (repeat' split) <;> omega)))
    · -- 6 f
      refine EV.l (lv' := [(0, _), (1, _), (2, _), (3, _)]) r_X11_hasBy_9 rfl ?_
      refine EV.l (lv' := [(0, _), (1, _), (2, _), (3, _)]) r_X11_hasBy_10 rfl ?_
      refine EV.o r_X11_hasBy_11 (isubNZ) ?_
      refine EV.g r_X11_hasBy_12 ?_
      exact EV.rv r_X11_hasBy_29 (by first | (rw [← zI_nat]; exact congrArg zI (by unfold gn; (repeat' split) <;> omega)) | (exact congrArg zI (by unfold gn; (repeat' split) <;> omega)))
theorem c_isRest {d : Nat} {I : Nat → Nat → Int32} {J : Nat → Nat → Int64} {v w a b : Nat} (hv : v ≤ 99) (hw : w ≤ 99) (ha : a ≤ 1) (hb_ : b ≤ 1) (hd : 2 ≤ d) : RV d 167 [.int (nI v), .int (nI w), .int (nI a), .int (nI b)] I J (bI (isR v w a b)) := by
  refine RV.in (d0 := 1) hd mt_167 (Nat.le_of_ble_eq_true rfl) (fun d' hd' => ?_)
  have g1 := gn_le (a := 1 - a) (b := b) hv hw; have g2 := gn_le (a := a) (b := b) hv hw; have g3 := gn_le (a := 1 - b) (b := a) hv hw; have g4 := gn_le (a := b) (b := a) hv hw
  show EV none M_X10_isRest d' 0 [(0, .int (nI v)), (1, .int (nI w)), (2, .int (nI a)), (3, .int (nI b))] [] (hp I J) _
  refine EV.l (lv' := [(0, _), (1, _), (2, _), (3, _)]) r_X10_isRest_0 rfl ?_
  refine EV.l (lv' := [(0, _), (1, _), (2, _), (3, _)]) r_X10_isRest_1 rfl ?_
  refine EV.o r_X10_isRest_2 (icN (1) (v := 1)) ?_
  refine EV.l (lv' := [(0, _), (1, _), (2, _), (3, _)]) r_X10_isRest_3 rfl ?_
  refine EV.o r_X10_isRest_4 (isubN) ?_
  refine EV.l (lv' := [(0, _), (1, _), (2, _), (3, _)]) r_X10_isRest_5 rfl ?_
  refine EV.cv r_X10_isRest_6 (aS4 mt_166) (c_gain (by omega) (by omega) (by omega) (by omega) (by omega)) ?_
  refine EV.l (lv' := [(0, _), (1, _), (2, _), (3, _)]) r_X10_isRest_9 rfl ?_
  refine EV.l (lv' := [(0, _), (1, _), (2, _), (3, _)]) r_X10_isRest_10 rfl ?_
  refine EV.l (lv' := [(0, _), (1, _), (2, _), (3, _)]) r_X10_isRest_11 rfl ?_
  refine EV.l (lv' := [(0, _), (1, _), (2, _), (3, _)]) r_X10_isRest_12 rfl ?_
  refine EV.cv r_X10_isRest_13 (aS4 mt_166) (c_gain (by omega) (by omega) (by omega) (by omega) (by omega)) ?_
  refine EV.z2_gt r_X10_isRest_16 (fun h16 => ?_) (fun h16 => ?_)
  · -- 16 t
    refine EV.o r_X10_isRest_42 (icN (0) (v := 0)) ?_
    exact EV.rv r_X10_isRest_43 (by first | (rw [show isR v w a b = true from decide_eq_true (by omega)]; rfl) | (rw [show isR v w a b = false from decide_eq_false (by omega)]; rfl))
  · -- 16 f
    refine EV.l (lv' := [(0, _), (1, _), (2, _), (3, _)]) r_X10_isRest_19 rfl ?_
    refine EV.l (lv' := [(0, _), (1, _), (2, _), (3, _)]) r_X10_isRest_20 rfl ?_
    refine EV.o r_X10_isRest_21 (icN (1) (v := 1)) ?_
    refine EV.l (lv' := [(0, _), (1, _), (2, _), (3, _)]) r_X10_isRest_22 rfl ?_
    refine EV.o r_X10_isRest_23 (isubN) ?_
    refine EV.l (lv' := [(0, _), (1, _), (2, _), (3, _)]) r_X10_isRest_24 rfl ?_
    refine EV.cv r_X10_isRest_25 (aS4 mt_166) (c_gain (by omega) (by omega) (by omega) (by omega) (by omega)) ?_
    refine EV.l (lv' := [(0, _), (1, _), (2, _), (3, _)]) r_X10_isRest_28 rfl ?_
    refine EV.l (lv' := [(0, _), (1, _), (2, _), (3, _)]) r_X10_isRest_29 rfl ?_
    refine EV.l (lv' := [(0, _), (1, _), (2, _), (3, _)]) r_X10_isRest_30 rfl ?_
    refine EV.l (lv' := [(0, _), (1, _), (2, _), (3, _)]) r_X10_isRest_31 rfl ?_
    refine EV.cv r_X10_isRest_32 (aS4 mt_166) (c_gain (by omega) (by omega) (by omega) (by omega) (by omega)) ?_
    refine EV.z2_gt r_X10_isRest_35 (fun h35 => ?_) (fun h35 => ?_)
    · -- 35 t
      refine EV.o r_X10_isRest_42 (icN (0) (v := 0)) ?_
      exact EV.rv r_X10_isRest_43 (by first | (rw [show isR v w a b = true from decide_eq_true (by omega)]; rfl) | (rw [show isR v w a b = false from decide_eq_false (by omega)]; rfl))
    · -- 35 f
      refine EV.o r_X10_isRest_38 (icN (1) (v := 1)) ?_
      refine EV.g r_X10_isRest_39 ?_
      exact EV.rv r_X10_isRest_43 (by first | (rw [show isR v w a b = true from decide_eq_true (by omega)]; rfl) | (rw [show isR v w a b = false from decide_eq_false (by omega)]; rfl))
