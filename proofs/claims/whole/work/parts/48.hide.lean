/-! HIDE. -/
theorem dec_nZ {n : Nat} : nI n + Int32.ofInt (-1) = zI ((n : Int) - 1) := by rw [← zI_nat]; exact zI_add _ _
theorem zj {n i : Nat} (h : i < n) : zI ((n : Int) - 1 - (i : Int)) = nI (n - 1 - i) := by rw [← zI_nat]; exact congrArg zI (by omega)
def itr {σ : Type} (f : Nat → σ → σ) : Nat → σ → σ
  | 0, s => s
  | n + 1, s => f n (itr f n s)
theorem itr_add {σ : Type} (f : Nat → σ → σ) (a : Nat) : ∀ b s, itr f (a + b) s = itr (fun k => f (a + k)) b (itr f a s)
  | 0, _ => rfl
  | b + 1, s => congrArg (f (a + b)) (itr_add f a b s)
theorem itr_mul {σ : Type} (f : Nat → σ → σ) (m : Nat) : ∀ a s, itr f (a * m) s = itr (fun k => itr (fun x => f (k * m + x)) m) a s
  | 0, s => by rw [Nat.zero_mul]; rfl
  | a + 1, s => by
    have ih := itr_mul f m a s
    rw [Nat.add_mul, Nat.one_mul, itr_add, ih]
    rfl
theorem itr_id {σ : Type} {f : Nat → σ → σ} {s : σ} : ∀ n, (∀ k, k < n → f k s = s) → itr f n s = s
  | 0, _ => rfl
  | n + 1, h => by
    show f n (itr f n s) = s
    rw [itr_id n (fun k hk => h k (by omega))]
    exact h n (by omega)
theorem itr_cg {σ : Type} {f g : Nat → σ → σ} {s : σ} : ∀ n, (∀ k s, k < n → f k s = g k s) → itr f n s = itr g n s
  | 0, _ => rfl
  | n + 1, h => by
    show f n (itr f n s) = g n (itr g n s)
    rw [itr_cg n (fun k s hk => h k s (by omega))]
    exact h n _ (by omega)
abbrev PP : Type := Option (Nat × Nat)
def pr (st : PP) (m : Nat) : Bool := match st with
  | none => false
  | some p => decide (p.1 ≤ m)
def pm1 (st : PP) : Option Nat := match st with
  | none => none
  | some p => some p.1
def pm2 (st : PP) : Option Nat := match st with
  | none => none
  | some p => some p.2
section HD
variable (cv : Nat → Nat → Nat) (mx : Nat → Nat) (wt nb : Nat)
def hdF : Nat → Nat → Nat → Nat → Nat → PP → PP
  | 0, h, m, w, _, st => if pr st m = true then st else if andc wt h = 0 then some (m, w) else st
  | r + 1, h, m, w, u, st => if pr st m = true then st else itr (fun k s => hdF r (h ||| cv (nb - (r + 1)) k) (m + k) (w + k * u) (u * 10) s) (mx (nb - (r + 1)) + 1) st
def dig (x i : Nat) : Nat := x / 10 ^ i % 10
def hb1 (x : Nat) : Nat → Nat
  | 0 => 0
  | i + 1 => hb1 x i ||| cv (nb - 1 - i) (dig x i)
def hs1 (x : Nat) : Nat → Nat := sumN (dig x)
def hi1 (x : Nat) : Nat → Bool
  | 0 => true
  | i + 1 => hi1 x i && (decide (dig x i = 0) || decide (mx (nb - 1 - i) = 9))
def dg1 (x : Nat) : Nat → Nat
  | 0 => 0
  | i + 1 => 10 * dg1 x i + dig x i
def up1 (r h m w u x : Nat) (st : PP) : PP := if hi1 mx nb x r = true ∧ andc wt (h ||| hb1 cv nb x r) = 0 ∧ pr st (m + hs1 x r) = false then some (m + hs1 x r, w + u * dg1 x r) else st
end HD
theorem dig_top {r k x : Nat} (hx : x < 10 ^ r) (hk : k < 10) : dig (k * 10 ^ r + x) r = k := by
  unfold dig
  rw [Nat.add_comm, Nat.add_mul_div_right _ _ (Nat.pow_pos (by decide)), Nat.div_eq_of_lt hx, Nat.zero_add]
  exact Nat.mod_eq_of_lt hk
theorem dig_low {r k x i : Nat} (hi : i < r) : dig (k * 10 ^ r + x) i = dig x i := by
  unfold dig
  obtain ⟨c, rfl⟩ : ∃ c, r = i + 1 + c := ⟨r - (i + 1), by omega⟩
  have e : k * 10 ^ (i + 1 + c) = (k * 10 ^ c * 10) * 10 ^ i := by
    rw [Nat.pow_add, Nat.pow_succ]
    simp only [Nat.mul_assoc, Nat.mul_comm, Nat.mul_left_comm]
  rw [e, Nat.add_comm, Nat.add_mul_div_right _ _ (Nat.pow_pos (by decide)), Nat.add_mul_mod_self_right]
section LOWS
variable {cv : Nat → Nat → Nat} {mx : Nat → Nat} {nb r k x : Nat}
theorem hb1_low : ∀ i, i ≤ r → hb1 cv nb (k * 10 ^ r + x) i = hb1 cv nb x i
  | 0, _ => rfl
  | i + 1, h => by unfold hb1; rw [hb1_low i (by omega), dig_low (by omega)]
theorem hs1_low : ∀ i, i ≤ r → hs1 (k * 10 ^ r + x) i = hs1 x i
  | 0, _ => rfl
  | i + 1, h => by
    show hs1 _ i + dig _ i = hs1 x i + dig x i
    rw [hs1_low i (by omega), dig_low (by omega)]
theorem hi1_low : ∀ i, i ≤ r → hi1 mx nb (k * 10 ^ r + x) i = hi1 mx nb x i
  | 0, _ => rfl
  | i + 1, h => by unfold hi1; rw [hi1_low i (by omega), dig_low (by omega)]
theorem dg1_low : ∀ i, i ≤ r → dg1 (k * 10 ^ r + x) i = dg1 x i
  | 0, _ => rfl
  | i + 1, h => by unfold dg1; rw [dg1_low i (by omega), dig_low (by omega)]
end LOWS
theorem pr_mono {st : PP} {m k : Nat} (h : pr st m = true) : pr st (m + k) = true := by
  unfold pr at h ⊢
  cases st with
  | none => exact h
  | some p => exact decide_eq_true (by have := of_decide_eq_true h; omega)
theorem or_as (a b c : Nat) : a ||| b ||| c = a ||| (b ||| c) := Nat.or_assoc a b c
theorem or_cm (a b : Nat) : a ||| b = b ||| a := Nat.or_comm a b
theorem hd_up {cv : Nat → Nat → Nat} {mx : Nat → Nat} {wt nb : Nat} (hmx : ∀ b, mx b = 0 ∨ mx b = 9) : ∀ r h m w u st, r ≤ nb → hdF cv mx wt nb r h m w u st = itr (up1 cv mx wt nb r h m w u) (10 ^ r) st
  | 0, h, m, w, u, st, _ => by
    show _ = up1 cv mx wt nb 0 h m w u 0 st
    unfold hdF up1
    show _ = if true = true ∧ andc wt (h ||| 0) = 0 ∧ pr st (m + 0) = false then some (m + 0, w + u * 0) else st
    rw [Nat.or_zero, Nat.add_zero, Nat.mul_zero, Nat.add_zero]
    cases hp : pr st m
    · by_cases hz : andc wt h = 0
      · rw [if_neg (by decide), if_pos hz, if_pos ⟨rfl, hz, rfl⟩]
      · rw [if_neg (by decide), if_neg hz, if_neg (fun z => hz z.2.1)]
    · rw [if_pos rfl, if_neg (fun z => by cases z.2.2)]
  | r + 1, h, m, w, u, st, hr => by
    unfold hdF
    cases hp : pr st m
    · rw [if_neg (by decide)]
      rw [show 10 ^ (r + 1) = 10 * 10 ^ r by rw [Nat.pow_succ, Nat.mul_comm], itr_mul]
      have hstep : ∀ k, k < 10 → (k = 0 ∨ mx (nb - (r + 1)) = 9) → ∀ s, hdF cv mx wt nb r (h ||| cv (nb - (r + 1)) k) (m + k) (w + k * u) (u * 10) s = itr (fun x => up1 cv mx wt nb (r + 1) h m w u (k * 10 ^ r + x)) (10 ^ r) s := by
        intro k hk hok s
        rw [hd_up hmx r _ _ _ _ _ (by omega)]
        refine itr_cg _ fun x s hx => ?_
        unfold up1
        have e1 : hi1 mx nb (k * 10 ^ r + x) (r + 1) = hi1 mx nb x r := by
          show (hi1 mx nb (k * 10 ^ r + x) r && (decide (dig (k * 10 ^ r + x) r = 0) || decide (mx (nb - 1 - r) = 9))) = _
          rw [hi1_low r (Nat.le_refl _), dig_top hx hk, show nb - 1 - r = nb - (r + 1) by omega]
          rcases hok with hok | hok
          · rw [decide_eq_true hok, Bool.true_or, Bool.and_true]
          · rw [decide_eq_true hok, Bool.or_true, Bool.and_true]
        have e2 : h ||| hb1 cv nb (k * 10 ^ r + x) (r + 1) = (h ||| cv (nb - (r + 1)) k) ||| hb1 cv nb x r := by
          show h ||| (hb1 cv nb (k * 10 ^ r + x) r ||| cv (nb - 1 - r) (dig (k * 10 ^ r + x) r)) = _
          rw [hb1_low r (Nat.le_refl _), dig_top hx hk, show nb - 1 - r = nb - (r + 1) by omega, or_as, or_cm (cv _ _)]
        have e3 : m + hs1 (k * 10 ^ r + x) (r + 1) = m + k + hs1 x r := by
          show m + (hs1 _ r + dig _ r) = _
          rw [hs1_low r (Nat.le_refl _), dig_top hx hk]; omega
        have e4 : w + u * dg1 (k * 10 ^ r + x) (r + 1) = w + k * u + u * 10 * dg1 x r := by
          show w + u * (10 * dg1 (k * 10 ^ r + x) r + dig (k * 10 ^ r + x) r) = _
          rw [dg1_low r (Nat.le_refl _), dig_top hx hk, Nat.mul_add, Nat.mul_comm k u, Nat.mul_assoc u 10]; omega
        rw [e1, e2, e3, e4]
      rcases hmx (nb - (r + 1)) with h0 | h9
      · rw [h0]
        have hone := hstep 0 (by decide) (Or.inl rfl) st
        have e10 := itr_add (fun k => itr (fun x => up1 cv mx wt nb (r + 1) h m w u (k * 10 ^ r + x)) (10 ^ r)) 1 9 st
        refine Eq.trans ?_ e10.symm
        show hdF cv mx wt nb r (h ||| cv (nb - (r + 1)) 0) (m + 0) (w + 0 * u) (u * 10) st = _
        rw [hone]
        refine (itr_id _ fun k hk => ?_).symm
        refine itr_id _ fun x hx => ?_
        unfold up1
        have hx : x < 10 ^ r := hx
        rw [if_neg]
        rintro ⟨z, -⟩
        have z : (hi1 mx nb ((1 + k) * 10 ^ r + x) r && (decide (dig ((1 + k) * 10 ^ r + x) r = 0) || decide (mx (nb - 1 - r) = 9))) = true := z
        rw [dig_top hx (by omega), show nb - 1 - r = nb - (r + 1) by omega, h0, decide_eq_false (by omega : ¬ 1 + k = 0)] at z
        rw [Bool.and_eq_true] at z
        exact absurd z.2 (by decide)
      · rw [h9]
        exact itr_cg 10 fun k s hk => hstep k hk (Or.inr h9) s
    · rw [if_pos rfl]
      refine (itr_id _ fun k _ => ?_).symm
      unfold up1
      rw [if_neg]
      rintro ⟨-, -, z⟩
      rw [pr_mono hp] at z
      cases z
def mxB (η : HS) (b : Nat) : Nat := if η.be b < η.mi then 0 else 9
theorem mxB_or (η : HS) (b : Nat) : mxB η b = 0 ∨ mxB η b = 9 := by unfold mxB; split; exact Or.inl rfl; exact Or.inr rfl
def hid (κ : CT) (l : LW) (η : HS) (wt : Nat) : PP := hdF (ovr κ l η) (mxB η) wt κ.nb κ.nb 0 0 0 1 none
def upN (κ : CT) (l : LW) (η : HS) (wt x : Nat) (st : PP) : PP := up1 (ovr κ l η) (mxB η) wt κ.nb κ.nb 0 0 0 1 x st
theorem hid_eq {κ : CT} {l : LW} {η : HS} {wt : Nat} : hid κ l η wt = itr (upN κ l η wt) (10 ^ κ.nb) none := hd_up (mxB_or η) κ.nb 0 0 0 1 none (Nat.le_refl _)
def HS9 (wt : Nat) (st : PP) (I : Nat → Nat → Int32) : Prop := (I 89 5 = nI wt) ∧ (I 89 6 = opI (pm1 st)) ∧ (I 89 7 = opI (pm2 st))
theorem HS9.w {wt : Nat} {st : PP} {I : Nat → Nat → Int32} (h_ : HS9 wt st I) : I 89 5 = nI wt := h_.1
theorem HS9.a {wt : Nat} {st : PP} {I : Nat → Nat → Int32} (h_ : HS9 wt st I) : I 89 6 = opI (pm1 st) := h_.2.1
theorem HS9.b {wt : Nat} {st : PP} {I : Nat → Nat → Int32} (h_ : HS9 wt st I) : I 89 7 = opI (pm2 st) := h_.2.2
def stB (st : PP) : Prop := ∀ p, st = some p → p.1 ≤ 100
theorem pm1_n {st : PP} (h : pm1 st = none) : st = none := by
  cases st with
  | none => rfl
  | some p => cases h
theorem pm1_s {st : PP} {c : Nat} (h : pm1 st = some c) : ∃ p : Nat × Nat, st = some p ∧ p.1 = c := by
  cases st with
  | none => cases h
  | some p => cases h; exact ⟨p, rfl, rfl⟩
theorem pr_n {st : PP} {m : Nat} (h : pm1 st = none) : pr st m = false := by rw [pm1_n h]; rfl
theorem pr_lt {st : PP} {m c : Nat} (h : pm1 st = some c) (h2 : m < c) : pr st m = false := by
  obtain ⟨p, rfl, h3⟩ := pm1_s h
  exact decide_eq_false (by omega)
theorem pr_ge {st : PP} {m c : Nat} (h : pm1 st = some c) (h2 : c ≤ m) : pr st m = true := by
  obtain ⟨p, rfl, h3⟩ := pm1_s h
  exact decide_eq_true (by omega)
theorem pm1_le {st : PP} {c : Nat} (h : stB st) (e : pm1 st = some c) : c ≤ 100 := by
  obtain ⟨p, h1, h2⟩ := pm1_s e
  have := h p h1
  omega
section HD2
variable {cv : Nat → Nat → Nat} {mx : Nat → Nat} {wt nb r h m w u : Nat} {st : PP}
theorem hd_pr (hp : pr st m = true) : hdF cv mx wt nb r h m w u st = st := by cases r <;> exact if_pos hp
theorem hd_0t (hp : pr st m = false) (hz : andc wt h = 0) : hdF cv mx wt nb 0 h m w u st = some (m, w) := (if_neg (by rw [hp]; decide)).trans (if_pos hz)
theorem hd_0f (hp : pr st m = false) (hz : ¬ andc wt h = 0) : hdF cv mx wt nb 0 h m w u st = st := (if_neg (by rw [hp]; decide)).trans (if_neg hz)
theorem hd_s (hp : pr st m = false) : hdF cv mx wt nb (r + 1) h m w u st = itr (fun k s => hdF cv mx wt nb r (h ||| cv (nb - (r + 1)) k) (m + k) (w + k * u) (u * 10) s) (mx (nb - (r + 1)) + 1) st := if_neg (by rw [hp]; decide)
theorem stB_itr {f : Nat → PP → PP} (hf : ∀ k s, stB s → stB (f k s)) : ∀ n s, stB s → stB (itr f n s)
  | 0, _, h => h
  | n + 1, s, h => hf n _ (stB_itr hf n s h)
theorem stB_itr2 {f : Nat → PP → PP} : ∀ n s, (∀ k s, k < n → stB s → stB (f k s)) → stB s → stB (itr f n s)
  | 0, _, _, h => h
  | n + 1, s, hf, h => hf n _ (by omega) (stB_itr2 n s (fun k s hk => hf k s (by omega)) h)
end HD2
theorem stB_hd {cv : Nat → Nat → Nat} {η : HS} {wt nb : Nat} : ∀ r h m w u st, m + 9 * r ≤ 100 → stB st → stB (hdF cv (mxB η) wt nb r h m w u st)
  | 0, h, m, w, u, st, hm, hs => by
    cases hp : pr st m
    · by_cases hz : andc wt h = 0
      · rw [hd_0t hp hz]; intro p e; cases e; show m ≤ 100; omega
      · rw [hd_0f hp hz]; exact hs
    · rw [hd_pr hp]; exact hs
  | r + 1, h, m, w, u, st, hm, hs => by
    cases hp : pr st m
    · rw [hd_s hp]
      refine stB_itr2 _ _ (fun k s hk h2 => stB_hd r _ _ _ _ _ ?_ h2) hs
      have : k ≤ 9 := by rcases mxB_or η (nb - (r + 1)) with e | e <;> rw [e] at hk <;> omega
      omega
    · rw [hd_pr hp]; exact hs
/-- what a lead leaves -/
def LD (κ : CT) (l : LW) (η : HS) (wt r h m w u : Nat) (st : PP) (I I' : Nat → Nat → Int32) : Prop := HS9 wt (hdF (ovr κ l η) (mxB η) wt κ.nb r h m w u st) I' ∧ ∀ o, o ≠ 89 → I' o = I o
theorem r_X10_hide_0 : RW M_X10_hide 0 (.aload_n 0) 1 0 0 1 := ⟨rfl, rfl⟩
theorem r_X10_hide_1 : RW M_X10_hide 1 (.iload_n 1) 1 0 0 2 := ⟨rfl, rfl⟩
theorem r_X10_hide_2 : RW M_X10_hide 2 (.aload_n 0) 1 0 0 3 := ⟨rfl, rfl⟩
theorem r_X10_hide_3 : RW M_X10_hide 3 (.getfield 19) 3 10 1 6 := ⟨rfl, rfl⟩
theorem r_X10_hide_6 : RW M_X10_hide 6 (.getfield 121) 3 1 10 9 := ⟨rfl, rfl⟩
theorem r_X10_hide_9 : RW M_X10_hide 9 (.invokevirtual 264) 3 158 0 12 := ⟨rfl, rfl⟩
theorem r_X10_hide_12 : RW M_X10_hide 12 (.aload_n 0) 1 0 0 13 := ⟨rfl, rfl⟩
theorem r_X10_hide_13 : RW M_X10_hide 13 (.iload_n 2) 1 0 0 14 := ⟨rfl, rfl⟩
theorem r_X10_hide_14 : RW M_X10_hide 14 (.ifCond .eq 8) 3 22 0 17 := ⟨rfl, rfl⟩
theorem r_X10_hide_17 : RW M_X10_hide 17 (.iload_n 2) 1 0 0 18 := ⟨rfl, rfl⟩
theorem r_X10_hide_18 : RW M_X10_hide 18 (.iconst 1) 1 0 0 19 := ⟨rfl, rfl⟩
theorem r_X10_hide_19 : RW M_X10_hide 19 (.if_icmp .ne 7) 3 26 0 22 := ⟨rfl, rfl⟩
theorem r_X10_hide_22 : RW M_X10_hide 22 (.iconst 1) 1 0 0 23 := ⟨rfl, rfl⟩
theorem r_X10_hide_23 : RW M_X10_hide 23 (.goto 4) 3 27 0 26 := ⟨rfl, rfl⟩
theorem r_X10_hide_26 : RW M_X10_hide 26 (.iconst 0) 1 0 0 27 := ⟨rfl, rfl⟩
theorem r_X10_hide_27 : RW M_X10_hide 27 (.invokevirtual 175) 3 159 0 30 := ⟨rfl, rfl⟩
theorem r_X10_hide_30 : RW M_X10_hide 30 (.aload_n 0) 1 0 0 31 := ⟨rfl, rfl⟩
theorem r_X10_hide_31 : RW M_X10_hide 31 (.getfield 74) 3 10 10 34 := ⟨rfl, rfl⟩
theorem r_X10_hide_34 : RW M_X10_hide 34 (.iload_n 1) 1 0 0 35 := ⟨rfl, rfl⟩
theorem r_X10_hide_35 : RW M_X10_hide 35 (.invokevirtual 267) 3 97 0 38 := ⟨rfl, rfl⟩
theorem r_X10_hide_38 : RW M_X10_hide 38 (.iload_n 2) 1 0 0 39 := ⟨rfl, rfl⟩
theorem r_X10_hide_39 : RW M_X10_hide 39 (.ifCond .ne 13) 3 52 0 42 := ⟨rfl, rfl⟩
theorem r_X10_hide_42 : RW M_X10_hide 42 (.aload_n 0) 1 0 0 43 := ⟨rfl, rfl⟩
theorem r_X10_hide_43 : RW M_X10_hide 43 (.getfield 74) 3 10 10 46 := ⟨rfl, rfl⟩
theorem r_X10_hide_46 : RW M_X10_hide 46 (.getfield 270) 3 8 6 49 := ⟨rfl, rfl⟩
theorem r_X10_hide_49 : RW M_X10_hide 49 (.goto 10) 3 59 0 52 := ⟨rfl, rfl⟩
theorem r_X10_hide_52 : RW M_X10_hide 52 (.aload_n 0) 1 0 0 53 := ⟨rfl, rfl⟩
theorem r_X10_hide_53 : RW M_X10_hide 53 (.getfield 74) 3 10 10 56 := ⟨rfl, rfl⟩
theorem r_X10_hide_56 : RW M_X10_hide 56 (.getfield 273) 3 8 7 59 := ⟨rfl, rfl⟩
theorem r_X10_hide_59 : RW M_X10_hide 59 (.ireturn) 1 0 0 60 := ⟨rfl, rfl⟩
theorem r_X8_findHiding_0 : RW M_X8_findHiding 0 (.aload_n 0) 1 0 0 1 := ⟨rfl, rfl⟩
theorem r_X8_findHiding_1 : RW M_X8_findHiding 1 (.invokevirtual 51) 3 96 0 4 := ⟨rfl, rfl⟩
theorem r_X8_findHiding_4 : RW M_X8_findHiding 4 (.aload_n 0) 1 0 0 5 := ⟨rfl, rfl⟩
theorem r_X8_findHiding_5 : RW M_X8_findHiding 5 (.iload_n 1) 1 0 0 6 := ⟨rfl, rfl⟩
theorem r_X8_findHiding_6 : RW M_X8_findHiding 6 (.putfield 54) 3 8 5 9 := ⟨rfl, rfl⟩
theorem r_X8_findHiding_9 : RW M_X8_findHiding 9 (.aload_n 0) 1 0 0 10 := ⟨rfl, rfl⟩
theorem r_X8_findHiding_10 : RW M_X8_findHiding 10 (.iconst (-1)) 1 0 0 11 := ⟨rfl, rfl⟩
theorem r_X8_findHiding_11 : RW M_X8_findHiding 11 (.putfield 57) 3 8 6 14 := ⟨rfl, rfl⟩
theorem r_X8_findHiding_14 : RW M_X8_findHiding 14 (.aload_n 0) 1 0 0 15 := ⟨rfl, rfl⟩
theorem r_X8_findHiding_15 : RW M_X8_findHiding 15 (.iconst (-1)) 1 0 0 16 := ⟨rfl, rfl⟩
theorem r_X8_findHiding_16 : RW M_X8_findHiding 16 (.putfield 60) 3 8 7 19 := ⟨rfl, rfl⟩
theorem r_X8_findHiding_19 : RW M_X8_findHiding 19 (.aload_n 0) 1 0 0 20 := ⟨rfl, rfl⟩
theorem r_X8_findHiding_20 : RW M_X8_findHiding 20 (.iconst 0) 1 0 0 21 := ⟨rfl, rfl⟩
theorem r_X8_findHiding_21 : RW M_X8_findHiding 21 (.iconst 0) 1 0 0 22 := ⟨rfl, rfl⟩
theorem r_X8_findHiding_22 : RW M_X8_findHiding 22 (.iconst 0) 1 0 0 23 := ⟨rfl, rfl⟩
theorem r_X8_findHiding_23 : RW M_X8_findHiding 23 (.iconst 0) 1 0 0 24 := ⟨rfl, rfl⟩
theorem r_X8_findHiding_24 : RW M_X8_findHiding 24 (.iconst 1) 1 0 0 25 := ⟨rfl, rfl⟩
theorem r_X8_findHiding_25 : RW M_X8_findHiding 25 (.invokevirtual 63) 3 98 0 28 := ⟨rfl, rfl⟩
theorem r_X8_findHiding_28 : RW M_X8_findHiding 28 (.return_) 1 0 0 29 := ⟨rfl, rfl⟩
theorem r_X8_leadBirdEachWay_0 : RW M_X8_leadBirdEachWay 0 (.aload_n 0) 1 0 0 1 := ⟨rfl, rfl⟩
theorem r_X8_leadBirdEachWay_1 : RW M_X8_leadBirdEachWay 1 (.getfield 27) 3 8 1 4 := ⟨rfl, rfl⟩
theorem r_X8_leadBirdEachWay_4 : RW M_X8_leadBirdEachWay 4 (.getfield 70) 3 2 3 7 := ⟨rfl, rfl⟩
theorem r_X8_leadBirdEachWay_7 : RW M_X8_leadBirdEachWay 7 (.iload_n 1) 1 0 0 8 := ⟨rfl, rfl⟩
theorem r_X8_leadBirdEachWay_8 : RW M_X8_leadBirdEachWay 8 (.invokevirtual 73) 3 92 0 11 := ⟨rfl, rfl⟩
theorem r_X8_leadBirdEachWay_11 : RW M_X8_leadBirdEachWay 11 (.aload_n 0) 1 0 0 12 := ⟨rfl, rfl⟩
theorem r_X8_leadBirdEachWay_12 : RW M_X8_leadBirdEachWay 12 (.getfield 27) 3 8 1 15 := ⟨rfl, rfl⟩
theorem r_X8_leadBirdEachWay_15 : RW M_X8_leadBirdEachWay 15 (.getfield 77) 3 2 7 18 := ⟨rfl, rfl⟩
theorem r_X8_leadBirdEachWay_18 : RW M_X8_leadBirdEachWay 18 (.if_icmp .ge 7) 3 25 0 21 := ⟨rfl, rfl⟩
theorem r_X8_leadBirdEachWay_21 : RW M_X8_leadBirdEachWay 21 (.iconst 0) 1 0 0 22 := ⟨rfl, rfl⟩
theorem r_X8_leadBirdEachWay_22 : RW M_X8_leadBirdEachWay 22 (.goto 5) 3 27 0 25 := ⟨rfl, rfl⟩
theorem r_X8_leadBirdEachWay_25 : RW M_X8_leadBirdEachWay 25 (.bipush 9) 2 0 0 27 := ⟨rfl, rfl⟩
theorem r_X8_leadBirdEachWay_27 : RW M_X8_leadBirdEachWay 27 (.istore 6) 2 0 0 29 := ⟨rfl, rfl⟩
theorem r_X8_leadBirdEachWay_29 : RW M_X8_leadBirdEachWay 29 (.iconst 0) 1 0 0 30 := ⟨rfl, rfl⟩
theorem r_X8_leadBirdEachWay_30 : RW M_X8_leadBirdEachWay 30 (.istore 7) 2 0 0 32 := ⟨rfl, rfl⟩
theorem r_X8_leadBirdEachWay_32 : RW M_X8_leadBirdEachWay 32 (.iload 7) 2 0 8 34 := ⟨rfl, rfl⟩
theorem r_X8_leadBirdEachWay_34 : RW M_X8_leadBirdEachWay 34 (.iload 6) 2 0 0 36 := ⟨rfl, rfl⟩
theorem r_X8_leadBirdEachWay_36 : RW M_X8_leadBirdEachWay 36 (.if_icmp .gt 53) 3 89 0 39 := ⟨rfl, rfl⟩
theorem r_X8_leadBirdEachWay_39 : RW M_X8_leadBirdEachWay 39 (.iload_n 2) 1 0 0 40 := ⟨rfl, rfl⟩
theorem r_X8_leadBirdEachWay_40 : RW M_X8_leadBirdEachWay 40 (.aload_n 0) 1 0 0 41 := ⟨rfl, rfl⟩
theorem r_X8_leadBirdEachWay_41 : RW M_X8_leadBirdEachWay 41 (.getfield 16) 3 8 3 44 := ⟨rfl, rfl⟩
theorem r_X8_leadBirdEachWay_44 : RW M_X8_leadBirdEachWay 44 (.iload_n 1) 1 0 0 45 := ⟨rfl, rfl⟩
theorem r_X8_leadBirdEachWay_45 : RW M_X8_leadBirdEachWay 45 (.bipush 10) 2 0 0 47 := ⟨rfl, rfl⟩
theorem r_X8_leadBirdEachWay_47 : RW M_X8_leadBirdEachWay 47 (.imul) 1 0 0 48 := ⟨rfl, rfl⟩
theorem r_X8_leadBirdEachWay_48 : RW M_X8_leadBirdEachWay 48 (.iload 7) 2 0 0 50 := ⟨rfl, rfl⟩
theorem r_X8_leadBirdEachWay_50 : RW M_X8_leadBirdEachWay 50 (.iadd) 1 0 0 51 := ⟨rfl, rfl⟩
theorem r_X8_leadBirdEachWay_51 : RW M_X8_leadBirdEachWay 51 (.invokevirtual 73) 3 92 0 54 := ⟨rfl, rfl⟩
theorem r_X8_leadBirdEachWay_54 : RW M_X8_leadBirdEachWay 54 (.ior) 1 0 0 55 := ⟨rfl, rfl⟩
theorem r_X8_leadBirdEachWay_55 : RW M_X8_leadBirdEachWay 55 (.istore 8) 2 0 0 57 := ⟨rfl, rfl⟩
theorem r_X8_leadBirdEachWay_57 : RW M_X8_leadBirdEachWay 57 (.aload_n 0) 1 0 0 58 := ⟨rfl, rfl⟩
theorem r_X8_leadBirdEachWay_58 : RW M_X8_leadBirdEachWay 58 (.iload_n 1) 1 0 0 59 := ⟨rfl, rfl⟩
theorem r_X8_leadBirdEachWay_59 : RW M_X8_leadBirdEachWay 59 (.iconst 1) 1 0 0 60 := ⟨rfl, rfl⟩
theorem r_X8_leadBirdEachWay_60 : RW M_X8_leadBirdEachWay 60 (.iadd) 1 0 0 61 := ⟨rfl, rfl⟩
theorem r_X8_leadBirdEachWay_61 : RW M_X8_leadBirdEachWay 61 (.iload 8) 2 0 0 63 := ⟨rfl, rfl⟩
theorem r_X8_leadBirdEachWay_63 : RW M_X8_leadBirdEachWay 63 (.iload_n 3) 1 0 0 64 := ⟨rfl, rfl⟩
theorem r_X8_leadBirdEachWay_64 : RW M_X8_leadBirdEachWay 64 (.iload 7) 2 0 0 66 := ⟨rfl, rfl⟩
theorem r_X8_leadBirdEachWay_66 : RW M_X8_leadBirdEachWay 66 (.iadd) 1 0 0 67 := ⟨rfl, rfl⟩
theorem r_X8_leadBirdEachWay_67 : RW M_X8_leadBirdEachWay 67 (.iload 4) 2 0 0 69 := ⟨rfl, rfl⟩
theorem r_X8_leadBirdEachWay_69 : RW M_X8_leadBirdEachWay 69 (.iload 7) 2 0 0 71 := ⟨rfl, rfl⟩
theorem r_X8_leadBirdEachWay_71 : RW M_X8_leadBirdEachWay 71 (.iload 5) 2 0 0 73 := ⟨rfl, rfl⟩
theorem r_X8_leadBirdEachWay_73 : RW M_X8_leadBirdEachWay 73 (.imul) 1 0 0 74 := ⟨rfl, rfl⟩
theorem r_X8_leadBirdEachWay_74 : RW M_X8_leadBirdEachWay 74 (.iadd) 1 0 0 75 := ⟨rfl, rfl⟩
theorem r_X8_leadBirdEachWay_75 : RW M_X8_leadBirdEachWay 75 (.iload 5) 2 0 0 77 := ⟨rfl, rfl⟩
theorem r_X8_leadBirdEachWay_77 : RW M_X8_leadBirdEachWay 77 (.bipush 10) 2 0 0 79 := ⟨rfl, rfl⟩
theorem r_X8_leadBirdEachWay_79 : RW M_X8_leadBirdEachWay 79 (.imul) 1 0 0 80 := ⟨rfl, rfl⟩
theorem r_X8_leadBirdEachWay_80 : RW M_X8_leadBirdEachWay 80 (.invokevirtual 63) 3 98 0 83 := ⟨rfl, rfl⟩
theorem r_X8_leadBirdEachWay_83 : RW M_X8_leadBirdEachWay 83 (.iinc 7 1) 3 0 0 86 := ⟨rfl, rfl⟩
theorem r_X8_leadBirdEachWay_86 : RW M_X8_leadBirdEachWay 86 (.goto (-54)) 3 32 0 89 := ⟨rfl, rfl⟩
theorem r_X8_leadBirdEachWay_89 : RW M_X8_leadBirdEachWay 89 (.return_) 1 0 0 90 := ⟨rfl, rfl⟩
theorem r_X8_leadFrom_0 : RW M_X8_leadFrom 0 (.aload_n 0) 1 0 0 1 := ⟨rfl, rfl⟩
theorem r_X8_leadFrom_1 : RW M_X8_leadFrom 1 (.getfield 57) 3 8 6 4 := ⟨rfl, rfl⟩
theorem r_X8_leadFrom_4 : RW M_X8_leadFrom 4 (.iconst (-1)) 1 0 0 5 := ⟨rfl, rfl⟩
theorem r_X8_leadFrom_5 : RW M_X8_leadFrom 5 (.if_icmp .eq 12) 3 17 0 8 := ⟨rfl, rfl⟩
theorem r_X8_leadFrom_8 : RW M_X8_leadFrom 8 (.iload_n 3) 1 0 0 9 := ⟨rfl, rfl⟩
theorem r_X8_leadFrom_9 : RW M_X8_leadFrom 9 (.aload_n 0) 1 0 0 10 := ⟨rfl, rfl⟩
theorem r_X8_leadFrom_10 : RW M_X8_leadFrom 10 (.getfield 57) 3 8 6 13 := ⟨rfl, rfl⟩
theorem r_X8_leadFrom_13 : RW M_X8_leadFrom 13 (.if_icmp .lt 4) 3 17 0 16 := ⟨rfl, rfl⟩
theorem r_X8_leadFrom_16 : RW M_X8_leadFrom 16 (.return_) 1 0 0 17 := ⟨rfl, rfl⟩
theorem r_X8_leadFrom_17 : RW M_X8_leadFrom 17 (.iload_n 1) 1 0 0 18 := ⟨rfl, rfl⟩
theorem r_X8_leadFrom_18 : RW M_X8_leadFrom 18 (.aload_n 0) 1 0 0 19 := ⟨rfl, rfl⟩
theorem r_X8_leadFrom_19 : RW M_X8_leadFrom 19 (.getfield 23) 3 8 0 22 := ⟨rfl, rfl⟩
theorem r_X8_leadFrom_22 : RW M_X8_leadFrom 22 (.getfield 35) 3 1 12 25 := ⟨rfl, rfl⟩
theorem r_X8_leadFrom_25 : RW M_X8_leadFrom 25 (.if_icmp .ge 22) 3 47 0 28 := ⟨rfl, rfl⟩
theorem r_X8_leadFrom_28 : RW M_X8_leadFrom 28 (.iload_n 1) 1 0 0 29 := ⟨rfl, rfl⟩
theorem r_X8_leadFrom_29 : RW M_X8_leadFrom 29 (.iconst 4) 1 0 0 30 := ⟨rfl, rfl⟩
theorem r_X8_leadFrom_30 : RW M_X8_leadFrom 30 (.if_icmp .ge 17) 3 47 0 33 := ⟨rfl, rfl⟩
theorem r_X8_leadFrom_33 : RW M_X8_leadFrom 33 (.aload_n 0) 1 0 0 34 := ⟨rfl, rfl⟩
theorem r_X8_leadFrom_34 : RW M_X8_leadFrom 34 (.iload_n 1) 1 0 0 35 := ⟨rfl, rfl⟩
theorem r_X8_leadFrom_35 : RW M_X8_leadFrom 35 (.iload_n 2) 1 0 0 36 := ⟨rfl, rfl⟩
theorem r_X8_leadFrom_36 : RW M_X8_leadFrom 36 (.iload_n 3) 1 0 0 37 := ⟨rfl, rfl⟩
theorem r_X8_leadFrom_37 : RW M_X8_leadFrom 37 (.iload 4) 2 0 0 39 := ⟨rfl, rfl⟩
theorem r_X8_leadFrom_39 : RW M_X8_leadFrom 39 (.iload 5) 2 0 0 41 := ⟨rfl, rfl⟩
theorem r_X8_leadFrom_41 : RW M_X8_leadFrom 41 (.invokevirtual 67) 3 99 0 44 := ⟨rfl, rfl⟩
theorem r_X8_leadFrom_44 : RW M_X8_leadFrom 44 (.goto 25) 3 69 0 47 := ⟨rfl, rfl⟩
theorem r_X8_leadFrom_47 : RW M_X8_leadFrom 47 (.aload_n 0) 1 0 0 48 := ⟨rfl, rfl⟩
theorem r_X8_leadFrom_48 : RW M_X8_leadFrom 48 (.getfield 54) 3 8 5 51 := ⟨rfl, rfl⟩
theorem r_X8_leadFrom_51 : RW M_X8_leadFrom 51 (.iload_n 2) 1 0 0 52 := ⟨rfl, rfl⟩
theorem r_X8_leadFrom_52 : RW M_X8_leadFrom 52 (.iconst (-1)) 1 0 0 53 := ⟨rfl, rfl⟩
theorem r_X8_leadFrom_53 : RW M_X8_leadFrom 53 (.ixor) 1 0 0 54 := ⟨rfl, rfl⟩
theorem r_X8_leadFrom_54 : RW M_X8_leadFrom 54 (.iand) 1 0 0 55 := ⟨rfl, rfl⟩
theorem r_X8_leadFrom_55 : RW M_X8_leadFrom 55 (.ifCond .ne 14) 3 69 0 58 := ⟨rfl, rfl⟩
theorem r_X8_leadFrom_58 : RW M_X8_leadFrom 58 (.aload_n 0) 1 0 0 59 := ⟨rfl, rfl⟩
theorem r_X8_leadFrom_59 : RW M_X8_leadFrom 59 (.iload_n 3) 1 0 0 60 := ⟨rfl, rfl⟩
theorem r_X8_leadFrom_60 : RW M_X8_leadFrom 60 (.putfield 57) 3 8 6 63 := ⟨rfl, rfl⟩
theorem r_X8_leadFrom_63 : RW M_X8_leadFrom 63 (.aload_n 0) 1 0 0 64 := ⟨rfl, rfl⟩
theorem r_X8_leadFrom_64 : RW M_X8_leadFrom 64 (.iload 4) 2 0 0 66 := ⟨rfl, rfl⟩
theorem r_X8_leadFrom_66 : RW M_X8_leadFrom 66 (.putfield 60) 3 8 7 69 := ⟨rfl, rfl⟩
theorem r_X8_leadFrom_69 : RW M_X8_leadFrom 69 (.return_) 1 0 0 70 := ⟨rfl, rfl⟩
theorem c_lead0 {d : Nat} {I : Nat → Nat → Int32} {J : Nat → Nat → Int64} {κ : CT} {l : LW} {η : HS} (hc_ : HC 4 κ I) (cb : CB κ) (hh : HH 71 η I) (hb_ : HB κ η) (cv : ∀ j, j < 10 * κ.nb → I 91 j = nI (cvd κ l η j)) {wt : Nat} (wt9 : wt < 512) {b h m w u : Nat} {st : PP} (hs : HS9 wt st I) (sb : stB st) (h0 : b = κ.nb) (hm : m ≤ 90) (hh9 : h < 512)  (hd : 3 ≤ d) : RU d 98 [.ref 89, .int (nI b), .int (nI h), .int (nI m), .int (nI w), .int (nI u)] I J (fun I' => LD κ l η wt 0 h m w u st I I') := by
  refine RU.in (d0 := 2) hd mt_98 (Nat.le_of_ble_eq_true rfl) (fun d' hd' => ?_)
  have bns := cb.ns; have bnb := cb.nb; have bnc := cb.nc; have bnr := cb.nr
  have ac : andc wt h < 512 := andc_lt9 wt9
  show EV none M_X8_leadFrom d' 0 [(0, .ref 89), (1, .int (nI b)), (2, .int (nI h)), (3, .int (nI m)), (4, .int (nI w)), (5, .int (nI u))] [] (hp I J) _
  refine EV.l (lv' := [(0, _), (1, _), (2, _), (3, _), (4, _), (5, _)]) r_X8_leadFrom_0 rfl ?_
  refine EV.getV r_X8_leadFrom_1 la_89 (hs.a) ?_
  refine EV.o r_X8_leadFrom_4 (icZ (-1)) ?_
  refine EV.op_eq r_X8_leadFrom_5 (fun h5 => ?_) (fun h5 => ?_) (fun c ec_ => by have := pm1_le sb ec_; omega)
  · -- 5 t
    have hpr : pr st m = false := pr_n h5
    refine EV.l (lv' := [(0, _), (1, _), (2, _), (3, _), (4, _), (5, _)]) r_X8_leadFrom_17 rfl ?_
    refine EV.l (lv' := [(0, _), (1, _), (2, _), (3, _), (4, _), (5, _)]) r_X8_leadFrom_18 rfl ?_
    refine EV.gR r_X8_leadFrom_19 la_89 ?_
    refine EV.getV r_X8_leadFrom_22 la_4 (hc_.nb) ?_
    refine EV.n2_ge r_X8_leadFrom_25 (fun h25 => ?_) (fun h25 => ?_)
    · -- 25 t
      refine EV.l (lv' := [(0, _), (1, _), (2, _), (3, _), (4, _), (5, _)]) r_X8_leadFrom_47 rfl ?_
      refine EV.getV r_X8_leadFrom_48 la_89 (hs.w) ?_
      refine EV.l (lv' := [(0, _), (1, _), (2, _), (3, _), (4, _), (5, _)]) r_X8_leadFrom_51 rfl ?_
      refine EV.o r_X8_leadFrom_52 (icZ (-1)) ?_
      refine EV.o r_X8_leadFrom_53 inotN ?_
      refine EV.o r_X8_leadFrom_54 iandC ?_
      refine EV.n0_ne r_X8_leadFrom_55 (fun h55 => ?_) (fun h55 => ?_)
      · -- 55 t
        exact EV.ru r_X8_leadFrom_69 (by first | exact ⟨by rw [hd_0f hpr (by assumption)]; exact hs, fun _ _ => rfl⟩ | exact ⟨by rw [hd_0t hpr (by omega)]; subst e3; subst e2; exact ⟨(wr_ne (Or.inr (by decide))).trans ((wr_ne (Or.inr (by decide))).trans hs.w), (wr_ne (Or.inr (by decide))).trans wr_same, wr_same⟩, fun o ho => by subst e3; subst e2; exact (wr_row ho).trans (wr_row ho)⟩)
      · -- 55 f
        refine EV.l (lv' := [(0, _), (1, _), (2, _), (3, _), (4, _), (5, _)]) r_X8_leadFrom_58 rfl ?_
        refine EV.l (lv' := [(0, _), (1, _), (2, _), (3, _), (4, _), (5, _)]) r_X8_leadFrom_59 rfl ?_
        refine EV.pIn r_X8_leadFrom_60 la_89 (fun I2 e2 => ?_)
        refine EV.l (lv' := [(0, _), (1, _), (2, _), (3, _), (4, _), (5, _)]) r_X8_leadFrom_63 rfl ?_
        refine EV.l (lv' := [(0, _), (1, _), (2, _), (3, _), (4, _), (5, _)]) r_X8_leadFrom_64 rfl ?_
        refine EV.pIn r_X8_leadFrom_66 la_89 (fun I3 e3 => ?_)
        exact EV.ru r_X8_leadFrom_69 (by first | exact ⟨by rw [hd_0f hpr (by assumption)]; exact hs, fun _ _ => rfl⟩ | exact ⟨by rw [hd_0t hpr (by omega)]; subst e3; subst e2; exact ⟨(wr_ne (Or.inr (by decide))).trans ((wr_ne (Or.inr (by decide))).trans hs.w), (wr_ne (Or.inr (by decide))).trans wr_same, wr_same⟩, fun o ho => by subst e3; subst e2; exact (wr_row ho).trans (wr_row ho)⟩)
    · omega
  · -- 5 f
    obtain ⟨c, ec_⟩ := h5
    have cl9 := pm1_le sb ec_
    refine EV.l (lv' := [(0, _), (1, _), (2, _), (3, _), (4, _), (5, _)]) r_X8_leadFrom_8 rfl ?_
    refine EV.l (lv' := [(0, _), (1, _), (2, _), (3, _), (4, _), (5, _)]) r_X8_leadFrom_9 rfl ?_
    refine EV.getV r_X8_leadFrom_10 la_89 (hs.a) ?_
    rw [ec_, opI_some]
    refine EV.n2_lt r_X8_leadFrom_13 (fun h13 => ?_) (fun h13 => ?_)
    · -- 13 t
      have hpr : pr st m = false := pr_lt ec_ h13
      refine EV.l (lv' := [(0, _), (1, _), (2, _), (3, _), (4, _), (5, _)]) r_X8_leadFrom_17 rfl ?_
      refine EV.l (lv' := [(0, _), (1, _), (2, _), (3, _), (4, _), (5, _)]) r_X8_leadFrom_18 rfl ?_
      refine EV.gR r_X8_leadFrom_19 la_89 ?_
      refine EV.getV r_X8_leadFrom_22 la_4 (hc_.nb) ?_
      refine EV.n2_ge r_X8_leadFrom_25 (fun h25 => ?_) (fun h25 => ?_)
      · -- 25 t
        refine EV.l (lv' := [(0, _), (1, _), (2, _), (3, _), (4, _), (5, _)]) r_X8_leadFrom_47 rfl ?_
        refine EV.getV r_X8_leadFrom_48 la_89 (hs.w) ?_
        refine EV.l (lv' := [(0, _), (1, _), (2, _), (3, _), (4, _), (5, _)]) r_X8_leadFrom_51 rfl ?_
        refine EV.o r_X8_leadFrom_52 (icZ (-1)) ?_
        refine EV.o r_X8_leadFrom_53 inotN ?_
        refine EV.o r_X8_leadFrom_54 iandC ?_
        refine EV.n0_ne r_X8_leadFrom_55 (fun h55 => ?_) (fun h55 => ?_)
        · -- 55 t
          exact EV.ru r_X8_leadFrom_69 (by first | exact ⟨by rw [hd_0f hpr (by assumption)]; exact hs, fun _ _ => rfl⟩ | exact ⟨by rw [hd_0t hpr (by omega)]; subst e3; subst e2; exact ⟨(wr_ne (Or.inr (by decide))).trans ((wr_ne (Or.inr (by decide))).trans hs.w), (wr_ne (Or.inr (by decide))).trans wr_same, wr_same⟩, fun o ho => by subst e3; subst e2; exact (wr_row ho).trans (wr_row ho)⟩)
        · -- 55 f
          refine EV.l (lv' := [(0, _), (1, _), (2, _), (3, _), (4, _), (5, _)]) r_X8_leadFrom_58 rfl ?_
          refine EV.l (lv' := [(0, _), (1, _), (2, _), (3, _), (4, _), (5, _)]) r_X8_leadFrom_59 rfl ?_
          refine EV.pIn r_X8_leadFrom_60 la_89 (fun I2 e2 => ?_)
          refine EV.l (lv' := [(0, _), (1, _), (2, _), (3, _), (4, _), (5, _)]) r_X8_leadFrom_63 rfl ?_
          refine EV.l (lv' := [(0, _), (1, _), (2, _), (3, _), (4, _), (5, _)]) r_X8_leadFrom_64 rfl ?_
          refine EV.pIn r_X8_leadFrom_66 la_89 (fun I3 e3 => ?_)
          exact EV.ru r_X8_leadFrom_69 (by first | exact ⟨by rw [hd_0f hpr (by assumption)]; exact hs, fun _ _ => rfl⟩ | exact ⟨by rw [hd_0t hpr (by omega)]; subst e3; subst e2; exact ⟨(wr_ne (Or.inr (by decide))).trans ((wr_ne (Or.inr (by decide))).trans hs.w), (wr_ne (Or.inr (by decide))).trans wr_same, wr_same⟩, fun o ho => by subst e3; subst e2; exact (wr_row ho).trans (wr_row ho)⟩)
      · omega
    · -- 13 f
      have hpr : pr st m = true := pr_ge ec_ h13
      exact EV.ru r_X8_leadFrom_16 (⟨by rw [hd_pr hpr]; exact hs, fun _ _ => rfl⟩)
theorem c_leadS {d : Nat} {I : Nat → Nat → Int32} {J : Nat → Nat → Int64} {κ : CT} {l : LW} {η : HS} (hc_ : HC 4 κ I) (cb : CB κ) (hh : HH 71 η I) (hb_ : HB κ η) (cv : ∀ j, j < 10 * κ.nb → I 91 j = nI (cvd κ l η j)) {wt : Nat} (wt9 : wt < 512) {b h m w u : Nat} {st : PP} (hs : HS9 wt st I) (sb : stB st) {r : Nat} (h0 : b + (r + 1) = κ.nb) (hm : m ≤ 90) (hh9 : h < 512) {D : Nat} (hrec : ∀ (d : Nat), D ≤ d → RU d 99 [.ref 89, .int (nI b), .int (nI h), .int (nI m), .int (nI w), .int (nI u)] I J (fun I' => HS9 wt (itr (fun k s => hdF (ovr κ l η) (mxB η) wt κ.nb r (h ||| ovr κ l η b k) (m + k) (w + k * u) (u * 10) s) (mxB η b + 1) st) I' ∧ ∀ o, o ≠ 89 → I' o = I o))  (hd : D + 1 ≤ d) : RU d 98 [.ref 89, .int (nI b), .int (nI h), .int (nI m), .int (nI w), .int (nI u)] I J (fun I' => LD κ l η wt (r + 1) h m w u st I I') := by
  refine RU.in (d0 := D) hd mt_98 (Nat.le_of_ble_eq_true rfl) (fun d' hd' => ?_)
  have bns := cb.ns; have bnb := cb.nb; have bnc := cb.nc; have bnr := cb.nr
  show EV none M_X8_leadFrom d' 0 [(0, .ref 89), (1, .int (nI b)), (2, .int (nI h)), (3, .int (nI m)), (4, .int (nI w)), (5, .int (nI u))] [] (hp I J) _
  refine EV.l (lv' := [(0, _), (1, _), (2, _), (3, _), (4, _), (5, _)]) r_X8_leadFrom_0 rfl ?_
  refine EV.getV r_X8_leadFrom_1 la_89 (hs.a) ?_
  refine EV.o r_X8_leadFrom_4 (icZ (-1)) ?_
  refine EV.op_eq r_X8_leadFrom_5 (fun h5 => ?_) (fun h5 => ?_) (fun c ec_ => by have := pm1_le sb ec_; omega)
  · -- 5 t
    have hpr : pr st m = false := pr_n h5
    refine EV.l (lv' := [(0, _), (1, _), (2, _), (3, _), (4, _), (5, _)]) r_X8_leadFrom_17 rfl ?_
    refine EV.l (lv' := [(0, _), (1, _), (2, _), (3, _), (4, _), (5, _)]) r_X8_leadFrom_18 rfl ?_
    refine EV.gR r_X8_leadFrom_19 la_89 ?_
    refine EV.getV r_X8_leadFrom_22 la_4 (hc_.nb) ?_
    refine EV.n2_ge r_X8_leadFrom_25 (fun h25 => ?_) (fun h25 => ?_)
    · omega
    · -- 25 f
      refine EV.l (lv' := [(0, _), (1, _), (2, _), (3, _), (4, _), (5, _)]) r_X8_leadFrom_28 rfl ?_
      refine EV.o r_X8_leadFrom_29 (icN (4) (v := 4)) ?_
      refine EV.n2_ge r_X8_leadFrom_30 (fun h30 => ?_) (fun h30 => ?_)
      · omega
      · -- 30 f
        refine EV.l (lv' := [(0, _), (1, _), (2, _), (3, _), (4, _), (5, _)]) r_X8_leadFrom_33 rfl ?_
        refine EV.l (lv' := [(0, _), (1, _), (2, _), (3, _), (4, _), (5, _)]) r_X8_leadFrom_34 rfl ?_
        refine EV.l (lv' := [(0, _), (1, _), (2, _), (3, _), (4, _), (5, _)]) r_X8_leadFrom_35 rfl ?_
        refine EV.l (lv' := [(0, _), (1, _), (2, _), (3, _), (4, _), (5, _)]) r_X8_leadFrom_36 rfl ?_
        refine EV.l (lv' := [(0, _), (1, _), (2, _), (3, _), (4, _), (5, _)]) r_X8_leadFrom_37 rfl ?_
        refine EV.l (lv' := [(0, _), (1, _), (2, _), (3, _), (4, _), (5, _)]) r_X8_leadFrom_39 rfl ?_
        refine EV.cu r_X8_leadFrom_41 (aV5 mt_99 la_89) (hrec _ (by omega)) (fun I2 h2 => ?_)
        refine EV.g r_X8_leadFrom_44 ?_
        exact EV.ru r_X8_leadFrom_69 (⟨by rw [hd_s hpr, show κ.nb - (r + 1) = b by omega]; exact h2.1, h2.2⟩)
  · -- 5 f
    obtain ⟨c, ec_⟩ := h5
    have cl9 := pm1_le sb ec_
    refine EV.l (lv' := [(0, _), (1, _), (2, _), (3, _), (4, _), (5, _)]) r_X8_leadFrom_8 rfl ?_
    refine EV.l (lv' := [(0, _), (1, _), (2, _), (3, _), (4, _), (5, _)]) r_X8_leadFrom_9 rfl ?_
    refine EV.getV r_X8_leadFrom_10 la_89 (hs.a) ?_
    rw [ec_, opI_some]
    refine EV.n2_lt r_X8_leadFrom_13 (fun h13 => ?_) (fun h13 => ?_)
    · -- 13 t
      have hpr : pr st m = false := pr_lt ec_ h13
      refine EV.l (lv' := [(0, _), (1, _), (2, _), (3, _), (4, _), (5, _)]) r_X8_leadFrom_17 rfl ?_
      refine EV.l (lv' := [(0, _), (1, _), (2, _), (3, _), (4, _), (5, _)]) r_X8_leadFrom_18 rfl ?_
      refine EV.gR r_X8_leadFrom_19 la_89 ?_
      refine EV.getV r_X8_leadFrom_22 la_4 (hc_.nb) ?_
      refine EV.n2_ge r_X8_leadFrom_25 (fun h25 => ?_) (fun h25 => ?_)
      · omega
      · -- 25 f
        refine EV.l (lv' := [(0, _), (1, _), (2, _), (3, _), (4, _), (5, _)]) r_X8_leadFrom_28 rfl ?_
        refine EV.o r_X8_leadFrom_29 (icN (4) (v := 4)) ?_
        refine EV.n2_ge r_X8_leadFrom_30 (fun h30 => ?_) (fun h30 => ?_)
        · omega
        · -- 30 f
          refine EV.l (lv' := [(0, _), (1, _), (2, _), (3, _), (4, _), (5, _)]) r_X8_leadFrom_33 rfl ?_
          refine EV.l (lv' := [(0, _), (1, _), (2, _), (3, _), (4, _), (5, _)]) r_X8_leadFrom_34 rfl ?_
          refine EV.l (lv' := [(0, _), (1, _), (2, _), (3, _), (4, _), (5, _)]) r_X8_leadFrom_35 rfl ?_
          refine EV.l (lv' := [(0, _), (1, _), (2, _), (3, _), (4, _), (5, _)]) r_X8_leadFrom_36 rfl ?_
          refine EV.l (lv' := [(0, _), (1, _), (2, _), (3, _), (4, _), (5, _)]) r_X8_leadFrom_37 rfl ?_
          refine EV.l (lv' := [(0, _), (1, _), (2, _), (3, _), (4, _), (5, _)]) r_X8_leadFrom_39 rfl ?_
          refine EV.cu r_X8_leadFrom_41 (aV5 mt_99 la_89) (hrec _ (by omega)) (fun I2 h2 => ?_)
          refine EV.g r_X8_leadFrom_44 ?_
          exact EV.ru r_X8_leadFrom_69 (⟨by rw [hd_s hpr, show κ.nb - (r + 1) = b by omega]; exact h2.1, h2.2⟩)
    · -- 13 f
      have hpr : pr st m = true := pr_ge ec_ h13
      exact EV.ru r_X8_leadFrom_16 (⟨by rw [hd_pr hpr]; exact hs, fun _ _ => rfl⟩)
theorem c_leadB {d : Nat} {I : Nat → Nat → Int32} {J : Nat → Nat → Int64} {κ : CT} {l : LW} {η : HS} (hc_ : HC 4 κ I) (cb : CB κ) (hh : HH 71 η I) (hb_ : HB κ η) (cv : ∀ j, j < 10 * κ.nb → I 91 j = nI (cvd κ l η j)) {wt : Nat} (wt9 : wt < 512) {b h m w u : Nat} {st : PP} (hs : HS9 wt st I) (sb : stB st) {r : Nat} (h0 : b + (r + 1) = κ.nb) (hm : m + 9 * (r + 1) ≤ 90) (hh9 : h < 2 ^ κ.ns) {D : Nat} (hD1 : 1 ≤ D) (hrec : ∀ (d : Nat) (I1 : Nat → Nat → Int32) (k : Nat) (s : PP), D ≤ d → k ≤ 9 → HS9 wt s I1 → stB s → (∀ o, o ≠ 89 → I1 o = I o) → RU d 98 [.ref 89, .int (nI (b + 1)), .int (nI (h ||| ovr κ l η b k)), .int (nI (m + k)), .int (nI (w + k * u)), .int (nI (u * 10))] I1 J (fun I' => LD κ l η wt r (h ||| ovr κ l η b k) (m + k) (w + k * u) (u * 10) s I1 I'))  (hd : D + 1 ≤ d) : RU d 99 [.ref 89, .int (nI b), .int (nI h), .int (nI m), .int (nI w), .int (nI u)] I J (fun I' => HS9 wt (itr (fun k s => hdF (ovr κ l η) (mxB η) wt κ.nb r (h ||| ovr κ l η b k) (m + k) (w + k * u) (u * 10) s) (mxB η b + 1) st) I' ∧ ∀ o, o ≠ 89 → I' o = I o) := by
  refine RU.in (d0 := D) hd mt_99 (Nat.le_of_ble_eq_true rfl) (fun d' hd' => ?_)
  have bns := cb.ns; have bnb := cb.nb; have bnc := cb.nc; have bnr := cb.nr
  have bm_ := hb_.mi; have be := hb_.be b
  show EV none M_X8_leadBirdEachWay d' 0 [(0, .ref 89), (1, .int (nI b)), (2, .int (nI h)), (3, .int (nI m)), (4, .int (nI w)), (5, .int (nI u))] [] (hp I J) _
  refine EV.l (lv' := [(0, _), (1, _), (2, _), (3, _), (4, _), (5, _)]) r_X8_leadBirdEachWay_0 rfl ?_
  refine EV.gR r_X8_leadBirdEachWay_1 la_89 ?_
  refine EV.gR r_X8_leadBirdEachWay_4 la_71 ?_
  refine EV.l (lv' := [(0, _), (1, _), (2, _), (3, _), (4, _), (5, _)]) r_X8_leadBirdEachWay_7 rfl ?_
  refine EV.cv r_X8_leadBirdEachWay_8 (aV1 mt_92 la_74) (c_getN (by omega) la_74 la_75 (hh.be _ (by omega)) (by decide) (by decide) (by omega)) ?_
  refine EV.l (lv' := [(0, _), (1, _), (2, _), (3, _), (4, _), (5, _)]) r_X8_leadBirdEachWay_11 rfl ?_
  refine EV.gR r_X8_leadBirdEachWay_12 la_89 ?_
  refine EV.getV r_X8_leadBirdEachWay_15 la_71 (hh.mi) ?_
  refine EV.n2_ge r_X8_leadBirdEachWay_18 (fun h18 => ?_) (fun h18 => ?_)
  · -- 18 t
    have mx9 : mxB η b = 9 := if_neg (by omega)
    refine EV.o r_X8_leadBirdEachWay_25 (bpN (9) 9) ?_
    refine EV.l (lv' := [(0, _), (1, _), (2, _), (3, _), (4, _), (5, _), (6, _)]) r_X8_leadBirdEachWay_27 rfl ?_
    refine EV.o r_X8_leadBirdEachWay_29 (icN (0) (v := 0)) ?_
    refine EV.l (lv' := [(0, _), (1, _), (2, _), (3, _), (4, _), (5, _), (6, _), (7, _)]) r_X8_leadBirdEachWay_30 rfl ?_
    have L32 : ∀ y_ : Nat × (Nat → Nat → Int32), (fun y => (y.1 ≤ mxB η b + 1 ∧ HS9 wt (itr (fun k s => hdF (ovr κ l η) (mxB η) wt κ.nb r (h ||| ovr κ l η b k) (m + k) (w + k * u) (u * 10) s) y.1 st) y.2 ∧ ∀ o, o ≠ 89 → y.2 o = I o) → EV none M_X8_leadBirdEachWay d' 32 [(0, .ref 89), (1, .int (nI b)), (2, .int (nI h)), (3, .int (nI m)), (4, .int (nI w)), (5, .int (nI u)), (6, .int (nI (mxB η b))), (7, .int (nI y.1))] [] (hp y.2 J) (QU J (fun I' => HS9 wt (itr (fun k s => hdF (ovr κ l η) (mxB η) wt κ.nb r (h ||| ovr κ l η b k) (m + k) (w + k * u) (u * 10) s) (mxB η b + 1) st) I' ∧ ∀ o, o ≠ 89 → I' o = I o))) y_ := by
      refine ev_loop (fun y => mxB η b + 1 - y.1) ?_
      intro ⟨k, I1⟩ ih32 hx32
      try dsimp only at ih32
      try dsimp only at hx32
      try dsimp only
      have kl := hx32.1
      have m9 : mxB η b ≤ 9 := by rcases mxB_or η b with e | e <;> omega
      have cv1 : ∀ j, j < 10 * κ.nb → I1 91 j = nI (cvd κ l η j) := fun j hj => by rw [hx32.2.2 91 (by decide)]; exact cv j hj
      refine EV.l (lv' := [(0, _), (1, _), (2, _), (3, _), (4, _), (5, _), (6, _), (7, _)]) r_X8_leadBirdEachWay_32 rfl ?_
      refine EV.l (lv' := [(0, _), (1, _), (2, _), (3, _), (4, _), (5, _), (6, _), (7, _)]) r_X8_leadBirdEachWay_34 rfl ?_
      refine EV.n2_gt r_X8_leadBirdEachWay_36 (fun h36 => ?_) (fun h36 => ?_)
      · -- 36 t
        exact EV.ru r_X8_leadBirdEachWay_89 (⟨by rw [show mxB η b + 1 = k by omega]; exact hx32.2.1, hx32.2.2⟩)
      · -- 36 f
        refine EV.l (lv' := [(0, _), (1, _), (2, _), (3, _), (4, _), (5, _), (6, _), (7, _)]) r_X8_leadBirdEachWay_39 rfl ?_
        refine EV.l (lv' := [(0, _), (1, _), (2, _), (3, _), (4, _), (5, _), (6, _), (7, _)]) r_X8_leadBirdEachWay_40 rfl ?_
        refine EV.gR r_X8_leadBirdEachWay_41 la_89 ?_
        refine EV.l (lv' := [(0, _), (1, _), (2, _), (3, _), (4, _), (5, _), (6, _), (7, _)]) r_X8_leadBirdEachWay_44 rfl ?_
        refine EV.o r_X8_leadBirdEachWay_45 (bpN (10) 10) ?_
        refine EV.o r_X8_leadBirdEachWay_47 imulN ?_
        refine EV.l (lv' := [(0, _), (1, _), (2, _), (3, _), (4, _), (5, _), (6, _), (7, _)]) r_X8_leadBirdEachWay_48 rfl ?_
        refine EV.o r_X8_leadBirdEachWay_50 iaddN ?_
        refine EV.cv r_X8_leadBirdEachWay_51 (aV1 mt_92 la_90) (c_getN (by omega) la_90 la_91 (cv_at cv1 (by omega) (by omega)) (by decide) (by decide) (by omega)) ?_
        refine EV.o r_X8_leadBirdEachWay_54 iorN ?_
        refine EV.l (lv' := [(0, _), (1, _), (2, _), (3, _), (4, _), (5, _), (6, _), (7, _), (8, _)]) r_X8_leadBirdEachWay_55 rfl ?_
        refine EV.l (lv' := [(0, _), (1, _), (2, _), (3, _), (4, _), (5, _), (6, _), (7, _), (8, _)]) r_X8_leadBirdEachWay_57 rfl ?_
        refine EV.l (lv' := [(0, _), (1, _), (2, _), (3, _), (4, _), (5, _), (6, _), (7, _), (8, _)]) r_X8_leadBirdEachWay_58 rfl ?_
        refine EV.o r_X8_leadBirdEachWay_59 (icN (1) (v := 1)) ?_
        refine EV.o r_X8_leadBirdEachWay_60 iaddN ?_
        refine EV.l (lv' := [(0, _), (1, _), (2, _), (3, _), (4, _), (5, _), (6, _), (7, _), (8, _)]) r_X8_leadBirdEachWay_61 rfl ?_
        refine EV.l (lv' := [(0, _), (1, _), (2, _), (3, _), (4, _), (5, _), (6, _), (7, _), (8, _)]) r_X8_leadBirdEachWay_63 rfl ?_
        refine EV.l (lv' := [(0, _), (1, _), (2, _), (3, _), (4, _), (5, _), (6, _), (7, _), (8, _)]) r_X8_leadBirdEachWay_64 rfl ?_
        refine EV.o r_X8_leadBirdEachWay_66 iaddN ?_
        refine EV.l (lv' := [(0, _), (1, _), (2, _), (3, _), (4, _), (5, _), (6, _), (7, _), (8, _)]) r_X8_leadBirdEachWay_67 rfl ?_
        refine EV.l (lv' := [(0, _), (1, _), (2, _), (3, _), (4, _), (5, _), (6, _), (7, _), (8, _)]) r_X8_leadBirdEachWay_69 rfl ?_
        refine EV.l (lv' := [(0, _), (1, _), (2, _), (3, _), (4, _), (5, _), (6, _), (7, _), (8, _)]) r_X8_leadBirdEachWay_71 rfl ?_
        refine EV.o r_X8_leadBirdEachWay_73 imulN ?_
        refine EV.o r_X8_leadBirdEachWay_74 iaddN ?_
        refine EV.l (lv' := [(0, _), (1, _), (2, _), (3, _), (4, _), (5, _), (6, _), (7, _), (8, _)]) r_X8_leadBirdEachWay_75 rfl ?_
        refine EV.o r_X8_leadBirdEachWay_77 (bpN (10) 10) ?_
        refine EV.o r_X8_leadBirdEachWay_79 imulN ?_
        refine EV.cu r_X8_leadBirdEachWay_80 (aV5 mt_98 la_89) (hrec _ _ k _ (by omega) (by omega) hx32.2.1 (stB_itr2 _ _ (fun k s hk q => stB_hd _ _ _ _ _ _ (by omega) q) sb) hx32.2.2) (fun I2 h2 => ?_)
        refine EV.l (lv' := [(0, _), (1, _), (2, _), (3, _), (4, _), (5, _), (6, _), (7, _), (8, _)]) r_X8_leadBirdEachWay_83 rfl ?_
        rw [inc_nI]
        refine EV.g r_X8_leadBirdEachWay_86 ?_
        refine EV.fg (lv' := [(0, _), (1, _), (2, _), (3, _), (4, _), (5, _), (6, _), (7, _)]) r_X8_leadBirdEachWay_32 rfl rfl rfl ?_
        refine EV.sub ?_ rfl ?_ (ih32 (k + 1, I2) ?_ ?_)
        · (try dsimp only) <;> (rfl)
        · (try dsimp only) <;> (rfl)
        · (try dsimp only) <;> (omega)
        · (try dsimp only) <;> (exact ⟨by omega, h2.1, fun o ho => (h2.2 o ho).trans (hx32.2.2 o ho)⟩)
    have h0 := L32 ((0, I))
    try dsimp only at h0
    refine EV.sub ?_ rfl ?_ (h0 ?_)
    · (try dsimp only) <;> (rw [mx9])
    · (try dsimp only) <;> (rfl)
    · (try dsimp only) <;> (exact ⟨Nat.zero_le _, hs, fun _ _ => rfl⟩)
  · -- 18 f
    have mx9 : mxB η b = 0 := if_pos (by omega)
    refine EV.o r_X8_leadBirdEachWay_21 (icN (0) (v := 0)) ?_
    refine EV.g r_X8_leadBirdEachWay_22 ?_
    refine EV.l (lv' := [(0, _), (1, _), (2, _), (3, _), (4, _), (5, _), (6, _)]) r_X8_leadBirdEachWay_27 rfl ?_
    refine EV.o r_X8_leadBirdEachWay_29 (icN (0) (v := 0)) ?_
    refine EV.l (lv' := [(0, _), (1, _), (2, _), (3, _), (4, _), (5, _), (6, _), (7, _)]) r_X8_leadBirdEachWay_30 rfl ?_
    have L32 : ∀ y_ : Nat × (Nat → Nat → Int32), (fun y => (y.1 ≤ mxB η b + 1 ∧ HS9 wt (itr (fun k s => hdF (ovr κ l η) (mxB η) wt κ.nb r (h ||| ovr κ l η b k) (m + k) (w + k * u) (u * 10) s) y.1 st) y.2 ∧ ∀ o, o ≠ 89 → y.2 o = I o) → EV none M_X8_leadBirdEachWay d' 32 [(0, .ref 89), (1, .int (nI b)), (2, .int (nI h)), (3, .int (nI m)), (4, .int (nI w)), (5, .int (nI u)), (6, .int (nI (mxB η b))), (7, .int (nI y.1))] [] (hp y.2 J) (QU J (fun I' => HS9 wt (itr (fun k s => hdF (ovr κ l η) (mxB η) wt κ.nb r (h ||| ovr κ l η b k) (m + k) (w + k * u) (u * 10) s) (mxB η b + 1) st) I' ∧ ∀ o, o ≠ 89 → I' o = I o))) y_ := by
      refine ev_loop (fun y => mxB η b + 1 - y.1) ?_
      intro ⟨k, I1⟩ ih32 hx32
      try dsimp only at ih32
      try dsimp only at hx32
      try dsimp only
      have kl := hx32.1
      have m9 : mxB η b ≤ 9 := by rcases mxB_or η b with e | e <;> omega
      have cv1 : ∀ j, j < 10 * κ.nb → I1 91 j = nI (cvd κ l η j) := fun j hj => by rw [hx32.2.2 91 (by decide)]; exact cv j hj
      refine EV.l (lv' := [(0, _), (1, _), (2, _), (3, _), (4, _), (5, _), (6, _), (7, _)]) r_X8_leadBirdEachWay_32 rfl ?_
      refine EV.l (lv' := [(0, _), (1, _), (2, _), (3, _), (4, _), (5, _), (6, _), (7, _)]) r_X8_leadBirdEachWay_34 rfl ?_
      refine EV.n2_gt r_X8_leadBirdEachWay_36 (fun h36 => ?_) (fun h36 => ?_)
      · -- 36 t
        exact EV.ru r_X8_leadBirdEachWay_89 (⟨by rw [show mxB η b + 1 = k by omega]; exact hx32.2.1, hx32.2.2⟩)
      · -- 36 f
        refine EV.l (lv' := [(0, _), (1, _), (2, _), (3, _), (4, _), (5, _), (6, _), (7, _)]) r_X8_leadBirdEachWay_39 rfl ?_
        refine EV.l (lv' := [(0, _), (1, _), (2, _), (3, _), (4, _), (5, _), (6, _), (7, _)]) r_X8_leadBirdEachWay_40 rfl ?_
        refine EV.gR r_X8_leadBirdEachWay_41 la_89 ?_
        refine EV.l (lv' := [(0, _), (1, _), (2, _), (3, _), (4, _), (5, _), (6, _), (7, _)]) r_X8_leadBirdEachWay_44 rfl ?_
        refine EV.o r_X8_leadBirdEachWay_45 (bpN (10) 10) ?_
        refine EV.o r_X8_leadBirdEachWay_47 imulN ?_
        refine EV.l (lv' := [(0, _), (1, _), (2, _), (3, _), (4, _), (5, _), (6, _), (7, _)]) r_X8_leadBirdEachWay_48 rfl ?_
        refine EV.o r_X8_leadBirdEachWay_50 iaddN ?_
        refine EV.cv r_X8_leadBirdEachWay_51 (aV1 mt_92 la_90) (c_getN (by omega) la_90 la_91 (cv_at cv1 (by omega) (by omega)) (by decide) (by decide) (by omega)) ?_
        refine EV.o r_X8_leadBirdEachWay_54 iorN ?_
        refine EV.l (lv' := [(0, _), (1, _), (2, _), (3, _), (4, _), (5, _), (6, _), (7, _), (8, _)]) r_X8_leadBirdEachWay_55 rfl ?_
        refine EV.l (lv' := [(0, _), (1, _), (2, _), (3, _), (4, _), (5, _), (6, _), (7, _), (8, _)]) r_X8_leadBirdEachWay_57 rfl ?_
        refine EV.l (lv' := [(0, _), (1, _), (2, _), (3, _), (4, _), (5, _), (6, _), (7, _), (8, _)]) r_X8_leadBirdEachWay_58 rfl ?_
        refine EV.o r_X8_leadBirdEachWay_59 (icN (1) (v := 1)) ?_
        refine EV.o r_X8_leadBirdEachWay_60 iaddN ?_
        refine EV.l (lv' := [(0, _), (1, _), (2, _), (3, _), (4, _), (5, _), (6, _), (7, _), (8, _)]) r_X8_leadBirdEachWay_61 rfl ?_
        refine EV.l (lv' := [(0, _), (1, _), (2, _), (3, _), (4, _), (5, _), (6, _), (7, _), (8, _)]) r_X8_leadBirdEachWay_63 rfl ?_
        refine EV.l (lv' := [(0, _), (1, _), (2, _), (3, _), (4, _), (5, _), (6, _), (7, _), (8, _)]) r_X8_leadBirdEachWay_64 rfl ?_
        refine EV.o r_X8_leadBirdEachWay_66 iaddN ?_
        refine EV.l (lv' := [(0, _), (1, _), (2, _), (3, _), (4, _), (5, _), (6, _), (7, _), (8, _)]) r_X8_leadBirdEachWay_67 rfl ?_
        refine EV.l (lv' := [(0, _), (1, _), (2, _), (3, _), (4, _), (5, _), (6, _), (7, _), (8, _)]) r_X8_leadBirdEachWay_69 rfl ?_
        refine EV.l (lv' := [(0, _), (1, _), (2, _), (3, _), (4, _), (5, _), (6, _), (7, _), (8, _)]) r_X8_leadBirdEachWay_71 rfl ?_
        refine EV.o r_X8_leadBirdEachWay_73 imulN ?_
        refine EV.o r_X8_leadBirdEachWay_74 iaddN ?_
        refine EV.l (lv' := [(0, _), (1, _), (2, _), (3, _), (4, _), (5, _), (6, _), (7, _), (8, _)]) r_X8_leadBirdEachWay_75 rfl ?_
        refine EV.o r_X8_leadBirdEachWay_77 (bpN (10) 10) ?_
        refine EV.o r_X8_leadBirdEachWay_79 imulN ?_
        refine EV.cu r_X8_leadBirdEachWay_80 (aV5 mt_98 la_89) (hrec _ _ k _ (by omega) (by omega) hx32.2.1 (stB_itr2 _ _ (fun k s hk q => stB_hd _ _ _ _ _ _ (by omega) q) sb) hx32.2.2) (fun I2 h2 => ?_)
        refine EV.l (lv' := [(0, _), (1, _), (2, _), (3, _), (4, _), (5, _), (6, _), (7, _), (8, _)]) r_X8_leadBirdEachWay_83 rfl ?_
        rw [inc_nI]
        refine EV.g r_X8_leadBirdEachWay_86 ?_
        refine EV.fg (lv' := [(0, _), (1, _), (2, _), (3, _), (4, _), (5, _), (6, _), (7, _)]) r_X8_leadBirdEachWay_32 rfl rfl rfl ?_
        refine EV.sub ?_ rfl ?_ (ih32 (k + 1, I2) ?_ ?_)
        · (try dsimp only) <;> (rfl)
        · (try dsimp only) <;> (rfl)
        · (try dsimp only) <;> (omega)
        · (try dsimp only) <;> (exact ⟨by omega, h2.1, fun o ho => (h2.2 o ho).trans (hx32.2.2 o ho)⟩)
    have h0 := L32 ((0, I))
    try dsimp only at h0
    refine EV.sub ?_ rfl ?_ (h0 ?_)
    · (try dsimp only) <;> (rw [mx9])
    · (try dsimp only) <;> (rfl)
    · (try dsimp only) <;> (exact ⟨Nat.zero_le _, hs, fun _ _ => rfl⟩)
theorem c_lead {J : Nat → Nat → Int64} {κ : CT} {l : LW} {η : HS} (cb : CB κ) (hb_ : HB κ η) {wt : Nat} (wt9 : wt < 512) : ∀ (r : Nat) {d : Nat} {I : Nat → Nat → Int32} {b h m w u : Nat} {st : PP}, HC 4 κ I → HH 71 η I → (∀ j, j < 10 * κ.nb → I 91 j = nI (cvd κ l η j)) → HS9 wt st I → stB st → b + r = κ.nb → m + 9 * r ≤ 90 → h < 2 ^ κ.ns → 2 * r + 3 ≤ d → RU d 98 [.ref 89, .int (nI b), .int (nI h), .int (nI m), .int (nI w), .int (nI u)] I J (fun I' => LD κ l η wt r h m w u st I I')
  | 0, d, I, b, h, m, w, u, st, hc_, hh, cv, hs, sb, h0, hm, hlt, hd => c_lead0 hc_ cb hh hb_ cv wt9 hs sb (by omega) (by omega) (Nat.lt_of_lt_of_le hlt (pow_ns cb)) (by omega)
  | r + 1, d, I, b, h, m, w, u, st, hc_, hh, cv, hs, sb, h0, hm, hlt, hd => c_leadS hc_ cb hh hb_ cv wt9 hs sb h0 (by omega) (Nat.lt_of_lt_of_le hlt (pow_ns cb)) (D := 2 * r + 4) (fun d2 hd2 => c_leadB hc_ cb hh hb_ cv wt9 hs sb h0 hm hlt (D := 2 * r + 3) (by omega) (fun d3 I1 k s hd3 hk h1 h2 hf => c_lead cb hb_ wt9 r (hc_.fr (fun x a1 a2 => hf x (by omega))) (hh.fr (fun x a1 a2 => hf x (by omega))) (fun j hj => by rw [hf 91 (by decide)]; exact cv j hj) h1 h2 (by omega) (by omega) (or_ltn hlt ovr_lt) hd3) (by omega)) (by omega)
theorem c_findH {d : Nat} {I : Nat → Nat → Int32} {J : Nat → Nat → Int64} {κ : CT} {l : LW} {η : HS} (hc_ : HC 4 κ I) (cb : CB κ) (hh : HH 71 η I) (hb_ : HB κ η) (hl : HL 46 l I) (lb : LB l) {wt : Nat} (wt9 : wt < 512)  (hd : 13 ≤ d) : RU d 97 [.ref 89, .int (nI wt)] I J (fun I' => HS9 wt (hid κ l η wt) I' ∧ ∀ o, o ≠ 50 → o ≠ 52 → o ≠ 89 → o ≠ 91 → I' o = I o) := by
  refine RU.in (d0 := 12) hd mt_97 (Nat.le_of_ble_eq_true rfl) (fun d' hd' => ?_)
  have bns := cb.ns; have bnb := cb.nb; have bnc := cb.nc; have bnr := cb.nr
  show EV none M_X8_findHiding d' 0 [(0, .ref 89), (1, .int (nI wt))] [] (hp I J) _
  refine EV.l (lv' := [(0, _), (1, _)]) r_X8_findHiding_0 rfl ?_
  refine EV.cu r_X8_findHiding_1 (aV0 mt_96 la_89) (c_coverAll hc_ cb hh hb_ hl lb (by omega)) (fun I2 h2 => ?_)
  obtain ⟨cv2, fr2⟩ := h2
  refine EV.l (lv' := [(0, _), (1, _)]) r_X8_findHiding_4 rfl ?_
  refine EV.l (lv' := [(0, _), (1, _)]) r_X8_findHiding_5 rfl ?_
  refine EV.pIn r_X8_findHiding_6 la_89 (fun I3 e3 => ?_)
  refine EV.l (lv' := [(0, _), (1, _)]) r_X8_findHiding_9 rfl ?_
  refine EV.o r_X8_findHiding_10 (icZ (-1)) ?_
  refine EV.pIn r_X8_findHiding_11 la_89 (fun I4 e4 => ?_)
  refine EV.l (lv' := [(0, _), (1, _)]) r_X8_findHiding_14 rfl ?_
  refine EV.o r_X8_findHiding_15 (icZ (-1)) ?_
  refine EV.pIn r_X8_findHiding_16 la_89 (fun I5 e5 => ?_)
  have g5 : ∀ o, o ≠ 89 → I5 o = I2 o := fun o ho => by subst e5; subst e4; subst e3; exact (wr_row ho).trans ((wr_row ho).trans (wr_row ho))
  have f5 : ∀ o, o ≠ 50 → o ≠ 52 → o ≠ 89 → o ≠ 91 → I5 o = I o := fun o h1 h2 h3 h4 => (g5 o h3).trans (fr2 o h1 h2 h4)
  have hs5 : HS9 wt none I5 := by subst e5; subst e4; subst e3; exact ⟨(wr_ne (Or.inr (by decide))).trans ((wr_ne (Or.inr (by decide))).trans wr_same), (wr_ne (Or.inr (by decide))).trans wr_same, wr_same⟩
  refine EV.l (lv' := [(0, _), (1, _)]) r_X8_findHiding_19 rfl ?_
  refine EV.o r_X8_findHiding_20 (icN (0) (v := 0)) ?_
  refine EV.o r_X8_findHiding_21 (icN (0) (v := 0)) ?_
  refine EV.o r_X8_findHiding_22 (icN (0) (v := 0)) ?_
  refine EV.o r_X8_findHiding_23 (icN (0) (v := 0)) ?_
  refine EV.o r_X8_findHiding_24 (icN (1) (v := 1)) ?_
  refine EV.cu r_X8_findHiding_25 (aV5 mt_98 la_89) (c_lead cb hb_ wt9 κ.nb (hc_.fr (fun x a1 a2 => f5 x (by omega) (by omega) (by omega) (by omega))) (hh.fr (fun x a1 a2 => f5 x (by omega) (by omega) (by omega) (by omega))) (fun j hj => by rw [g5 91 (by decide)]; exact cv2 j hj) hs5 (fun p e => nomatch e) (by omega) (by omega) (Nat.two_pow_pos _) (by omega)) (fun I6 h6 => ?_)
  exact EV.ru r_X8_findHiding_28 (⟨h6.1, fun o h1 h2 h3 h4 => (h6.2 o h3).trans (f5 o h1 h2 h3 h4)⟩)
theorem c_hide0 {d : Nat} {I : Nat → Nat → Int32} {J : Nat → Nat → Int64} {κ : CT} {l : LW} {η : HS} (hc_ : HC 4 κ I) (cb : CB κ) (hh : HH 71 η I) (hb_ : HB κ η) (hl : HL 46 l I) (lb : LB l) {wt : Nat} (hx : wt < 2 ^ κ.ns)  (hd : 16 ≤ d) : RI d 128 [.ref 0, .int (nI wt), .int (nI 0)] I J (fun v I' => v = opI (pm1 (hid κ l η wt)) ∧ FR I I') := by
  refine RI.in (d0 := 15) hd mt_128 (Nat.le_of_ble_eq_true rfl) (fun d' hd' => ?_)
  have bns := cb.ns; have bnb := cb.nb; have bnc := cb.nc; have bnr := cb.nr
  have pn := pow_ns cb
  show EV none M_X10_hide d' 0 [(0, .ref 0), (1, .int (nI wt)), (2, .int (nI 0))] [] (hp I J) _
  refine EV.l (lv' := [(0, _), (1, _), (2, _)]) r_X10_hide_0 rfl ?_
  refine EV.l (lv' := [(0, _), (1, _), (2, _)]) r_X10_hide_1 rfl ?_
  refine EV.l (lv' := [(0, _), (1, _), (2, _)]) r_X10_hide_2 rfl ?_
  refine EV.gR r_X10_hide_3 la_0 ?_
  refine EV.getV r_X10_hide_6 la_4 (hc_.ns) ?_
  refine EV.cu r_X10_hide_9 (aV2 mt_158 la_0) (c_bits1 (by assumption) (by omega) (by omega)) (fun I2 e2 => ?_)
  have e2 := e2.symm; subst e2
  refine EV.l (lv' := [(0, _), (1, _), (2, _)]) r_X10_hide_12 rfl ?_
  refine EV.l (lv' := [(0, _), (1, _), (2, _)]) r_X10_hide_13 rfl ?_
  refine EV.n0_eq r_X10_hide_14 (fun h14 => ?_) (fun h14 => ?_)
  · -- 14 t
    refine EV.o r_X10_hide_22 (icN (1) (v := 1)) ?_
    refine EV.g r_X10_hide_23 ?_
    refine EV.cu r_X10_hide_27 (aV1 mt_159 la_0) (c_arg1 (by omega)) (fun I2 e2 => ?_)
    have e2 := e2.symm; subst e2
    refine EV.l (lv' := [(0, _), (1, _), (2, _)]) r_X10_hide_30 rfl ?_
    refine EV.gR r_X10_hide_31 la_0 ?_
    refine EV.l (lv' := [(0, _), (1, _), (2, _)]) r_X10_hide_34 rfl ?_
    refine EV.cu r_X10_hide_35 (aV1 mt_97 la_89) (c_findH hc_ cb hh hb_ hl lb (by omega) (by omega)) (fun I2 h2 => ?_)
    refine EV.l (lv' := [(0, _), (1, _), (2, _)]) r_X10_hide_38 rfl ?_
    refine EV.n0_ne r_X10_hide_39 (fun h39 => ?_) (fun h39 => ?_)
    · omega
    · -- 39 f
      refine EV.l (lv' := [(0, _), (1, _), (2, _)]) r_X10_hide_42 rfl ?_
      refine EV.gR r_X10_hide_43 la_0 ?_
      refine EV.getV r_X10_hide_46 la_89 (h2.1.a) ?_
      refine EV.g r_X10_hide_49 ?_
      exact EV.ri r_X10_hide_59 (⟨rfl, FR.sc (fun o a1 a2 a3 a4 _ => h2.2 o a1 a2 a3 a4)⟩)
  · omega
theorem c_hide1 {d : Nat} {I : Nat → Nat → Int32} {J : Nat → Nat → Int64} {κ : CT} {l : LW} {η : HS} (hc_ : HC 4 κ I) (cb : CB κ) (hh : HH 71 η I) (hb_ : HB κ η) (hl : HL 46 l I) (lb : LB l) {wt : Nat} (hx : wt < 2 ^ κ.ns)  (hd : 16 ≤ d) : RI d 128 [.ref 0, .int (nI wt), .int (nI 1)] I J (fun v I' => v = opI (pm2 (hid κ l η wt)) ∧ FR I I') := by
  refine RI.in (d0 := 15) hd mt_128 (Nat.le_of_ble_eq_true rfl) (fun d' hd' => ?_)
  have bns := cb.ns; have bnb := cb.nb; have bnc := cb.nc; have bnr := cb.nr
  have pn := pow_ns cb
  show EV none M_X10_hide d' 0 [(0, .ref 0), (1, .int (nI wt)), (2, .int (nI 1))] [] (hp I J) _
  refine EV.l (lv' := [(0, _), (1, _), (2, _)]) r_X10_hide_0 rfl ?_
  refine EV.l (lv' := [(0, _), (1, _), (2, _)]) r_X10_hide_1 rfl ?_
  refine EV.l (lv' := [(0, _), (1, _), (2, _)]) r_X10_hide_2 rfl ?_
  refine EV.gR r_X10_hide_3 la_0 ?_
  refine EV.getV r_X10_hide_6 la_4 (hc_.ns) ?_
  refine EV.cu r_X10_hide_9 (aV2 mt_158 la_0) (c_bits1 (by assumption) (by omega) (by omega)) (fun I2 e2 => ?_)
  have e2 := e2.symm; subst e2
  refine EV.l (lv' := [(0, _), (1, _), (2, _)]) r_X10_hide_12 rfl ?_
  refine EV.l (lv' := [(0, _), (1, _), (2, _)]) r_X10_hide_13 rfl ?_
  refine EV.n0_eq r_X10_hide_14 (fun h14 => ?_) (fun h14 => ?_)
  · omega
  · -- 14 f
    refine EV.l (lv' := [(0, _), (1, _), (2, _)]) r_X10_hide_17 rfl ?_
    refine EV.o r_X10_hide_18 (icN (1) (v := 1)) ?_
    refine EV.n2_ne r_X10_hide_19 (fun h19 => ?_) (fun h19 => ?_)
    · omega
    · -- 19 f
      refine EV.o r_X10_hide_22 (icN (1) (v := 1)) ?_
      refine EV.g r_X10_hide_23 ?_
      refine EV.cu r_X10_hide_27 (aV1 mt_159 la_0) (c_arg1 (by omega)) (fun I2 e2 => ?_)
      have e2 := e2.symm; subst e2
      refine EV.l (lv' := [(0, _), (1, _), (2, _)]) r_X10_hide_30 rfl ?_
      refine EV.gR r_X10_hide_31 la_0 ?_
      refine EV.l (lv' := [(0, _), (1, _), (2, _)]) r_X10_hide_34 rfl ?_
      refine EV.cu r_X10_hide_35 (aV1 mt_97 la_89) (c_findH hc_ cb hh hb_ hl lb (by omega) (by omega)) (fun I2 h2 => ?_)
      refine EV.l (lv' := [(0, _), (1, _), (2, _)]) r_X10_hide_38 rfl ?_
      refine EV.n0_ne r_X10_hide_39 (fun h39 => ?_) (fun h39 => ?_)
      · -- 39 t
        refine EV.l (lv' := [(0, _), (1, _), (2, _)]) r_X10_hide_52 rfl ?_
        refine EV.gR r_X10_hide_53 la_0 ?_
        refine EV.getV r_X10_hide_56 la_89 (h2.1.b) ?_
        exact EV.ri r_X10_hide_59 (⟨rfl, FR.sc (fun o a1 a2 a3 a4 _ => h2.2 o a1 a2 a3 a4)⟩)
      · omega
theorem c_hideB {d : Nat} {I : Nat → Nat → Int32} {J : Nat → Nat → Int64} {κ : CT} (hc_ : HC 4 κ I) (cb : CB κ) {x : Int} (x1 : -2147483648 ≤ x) (x2 : x < 2147483648) (hx : x < 0 ∨ ((2 ^ κ.ns : Nat) : Int) ≤ x) {y : Int32}  (hd : 9 ≤ d) : RX d 128 [.ref 0, .int (zI x), .int y] I J 1 (fun I' => I' = ref1 I 14) := by
  refine RX.in (d0 := 8) hd mt_128 (Nat.le_of_ble_eq_true rfl) (fun d' hd' => ?_)
  have bns := cb.ns; have bnb := cb.nb; have bnc := cb.nc; have bnr := cb.nr
  have pn := Nat.two_pow_pos κ.ns; have qn := pow_ns cb; have pc := Nat.two_pow_pos κ.nc; have qc := pow_nc cb
  show EV none M_X10_hide d' 0 [(0, .ref 0), (1, .int (zI x)), (2, .int y)] [] (hp I J) _
  refine EV.l (lv' := [(0, _), (1, _), (2, _)]) r_X10_hide_0 rfl ?_
  refine EV.l (lv' := [(0, _), (1, _), (2, _)]) r_X10_hide_1 rfl ?_
  refine EV.l (lv' := [(0, _), (1, _), (2, _)]) r_X10_hide_2 rfl ?_
  refine EV.gR r_X10_hide_3 la_0 ?_
  refine EV.getV r_X10_hide_6 la_4 (hc_.ns) ?_
  exact EV.cx r_X10_hide_9 (aV2 mt_158 la_0) (c_bits0 (z_out (by omega) (by omega) (by omega) (by omega)) (by omega) (by omega)) (fun _ h => h)
theorem c_hideX {d : Nat} {I : Nat → Nat → Int32} {J : Nat → Nat → Int64} {κ : CT} (hc_ : HC 4 κ I) (cb : CB κ) {x : Nat} (hx : x < 2 ^ κ.ns) {y : Int} (y1 : -2147483648 ≤ y) (y2 : y < 2147483648) (hy : ¬ (0 ≤ y ∧ y ≤ 1))  (hd : 9 ≤ d) : RX d 128 [.ref 0, .int (nI x), .int (zI y)] I J 1 (fun I' => I' = ref1 I 14) := by
  refine RX.in (d0 := 8) hd mt_128 (Nat.le_of_ble_eq_true rfl) (fun d' hd' => ?_)
  have bns := cb.ns; have bnb := cb.nb; have bnc := cb.nc; have bnr := cb.nr
  have pn := Nat.two_pow_pos κ.ns; have qn := pow_ns cb; have pc := Nat.two_pow_pos κ.nc; have qc := pow_nc cb
  show EV none M_X10_hide d' 0 [(0, .ref 0), (1, .int (nI x)), (2, .int (zI y))] [] (hp I J) _
  refine EV.l (lv' := [(0, _), (1, _), (2, _)]) r_X10_hide_0 rfl ?_
  refine EV.l (lv' := [(0, _), (1, _), (2, _)]) r_X10_hide_1 rfl ?_
  refine EV.l (lv' := [(0, _), (1, _), (2, _)]) r_X10_hide_2 rfl ?_
  refine EV.gR r_X10_hide_3 la_0 ?_
  refine EV.getV r_X10_hide_6 la_4 (hc_.ns) ?_
  refine EV.cu r_X10_hide_9 (aV2 mt_158 la_0) (c_bits1 (by assumption) (by omega) (by omega)) (fun I2 e2 => ?_)
  have e2 := e2.symm; subst e2
  refine EV.l (lv' := [(0, _), (1, _), (2, _)]) r_X10_hide_12 rfl ?_
  refine EV.l (lv' := [(0, _), (1, _), (2, _)]) r_X10_hide_13 rfl ?_
  refine EV.z0_eq r_X10_hide_14 (fun h14 => ?_) (fun h14 => ?_)
  · -- 14 t
    refine EV.o r_X10_hide_22 (icN (1) (v := 1)) ?_
    refine EV.g r_X10_hide_23 ?_
    omega
  · -- 14 f
    refine EV.l (lv' := [(0, _), (1, _), (2, _)]) r_X10_hide_17 rfl ?_
    refine EV.o r_X10_hide_18 (icN (1) (v := 1)) ?_
    refine EV.zn2_ne r_X10_hide_19 (fun h19 => ?_) (fun h19 => ?_)
    · -- 19 t
      refine EV.o r_X10_hide_26 (icN (0) (v := 0)) ?_
      exact EV.cx r_X10_hide_27 (aV1 mt_159 la_0) (c_arg0 (by omega)) (fun _ h => h)
    · -- 19 f
      refine EV.o r_X10_hide_22 (icN (1) (v := 1)) ?_
      refine EV.g r_X10_hide_23 ?_
      omega
