/-! A LAW as one value. -/
def tSteps : List Nat := [115, 116, 101, 112, 115]
def tBegin : List Nat := [98, 101, 103, 105, 110]
def tCrumbs : List Nat := [99, 114, 117, 109, 98, 115]
def tLed : List Nat := [108, 101, 100]
def tNotes : List Nat := [110, 111, 116, 101, 115]
def tLeast : List Nat := [108, 101, 97, 115, 116]
def tMost : List Nat := [109, 111, 115, 116]
theorem lSteps : ltr tSteps := by unfold ltr; decide
theorem lBegin : ltr tBegin := by unfold ltr; decide
theorem lCrumbs : ltr tCrumbs := by unfold ltr; decide
theorem lLed : ltr tLed := by unfold ltr; decide
theorem lNotes : ltr tNotes := by unfold ltr; decide
theorem lLeast : ltr tLeast := by unfold ltr; decide
theorem lMost : ltr tMost := by unfold ltr; decide
def addc (l : LW) (w o : Nat) : LW := LW.mk (l.n + 1) (put l.what l.n w) (put l.of l.n o)
def LWP (l : LW) (b : Nat) : Prop := (∀ k, k < l.n → l.what k ≤ 8) ∧ (∀ k, k < l.n → l.what k = 0 → l.of k ≤ 999) ∧ (∀ k, k < l.n → l.what k = 1 → l.of k < 6) ∧ (∀ k, k < l.n → 2 ≤ l.what k → 2 ≤ dep l k) ∧ (dep l l.n = b)
theorem LWP.w {l : LW} {b : Nat} (h_ : LWP l b) : ∀ k, k < l.n → l.what k ≤ 8 := h_.1
theorem LWP.o0 {l : LW} {b : Nat} (h_ : LWP l b) : ∀ k, k < l.n → l.what k = 0 → l.of k ≤ 999 := h_.2.1
theorem LWP.o1 {l : LW} {b : Nat} (h_ : LWP l b) : ∀ k, k < l.n → l.what k = 1 → l.of k < 6 := h_.2.2.1
theorem LWP.d2 {l : LW} {b : Nat} (h_ : LWP l b) : ∀ k, k < l.n → 2 ≤ l.what k → 2 ≤ dep l k := h_.2.2.2.1
theorem LWP.de {l : LW} {b : Nat} (h_ : LWP l b) : dep l l.n = b := h_.2.2.2.2
theorem dep_addc {l : LW} {w o : Nat} : ∀ k, k ≤ l.n → dep (addc l w o) k = dep l k
  | 0, _ => rfl
  | k + 1, h => by
    have ih := dep_addc (l := l) (w := w) (o := o) k (by omega)
    have e : (addc l w o).what k = l.what k := put_n (by omega)
    show (if (addc l w o).what k ≤ 1 then _ else _) = (if l.what k ≤ 1 then _ else _)
    rw [e, ih]
theorem addc_x {l : LW} {w o : Nat} {p : Nat → Nat → Nat → Prop} (h : ∀ k, k < l.n → p k (l.what k) (l.of k)) (h2 : p l.n w o) : ∀ k, k < (addc l w o).n → p k ((addc l w o).what k) ((addc l w o).of k) := by
  intro k hk
  have hk : k < l.n + 1 := hk
  show p k (put l.what l.n w k) (put l.of l.n o k)
  by_cases e : k = l.n
  · subst e; rw [put_s, put_s]; exact h2
  · rw [put_n e, put_n e]; exact h k (by omega)
theorem LWP.val {l : LW} {b w o : Nat} (h : LWP l b) (hw : w ≤ 1) (h0 : w = 0 → o ≤ 999) (h1 : w = 1 → o < 6) : LWP (addc l w o) (b + 1) := by
  refine ⟨addc_x (p := fun _ w _ => w ≤ 8) h.w (by omega), addc_x (p := fun _ w o => w = 0 → o ≤ 999) h.o0 h0, addc_x (p := fun _ w o => w = 1 → o < 6) h.o1 h1, fun k hk => ?_, ?_⟩
  · have hk2 : k < l.n + 1 := hk
    rw [dep_addc k (by omega)]
    exact addc_x (p := fun k w _ => 2 ≤ w → 2 ≤ dep l k) h.d2 (fun z => by omega) k hk
  · show dep (addc l w o) (l.n + 1) = b + 1
    have e : (addc l w o).what l.n = w := put_s
    show (if (addc l w o).what l.n ≤ 1 then _ else _) = _
    rw [e, if_pos hw, dep_addc _ (Nat.le_refl _), h.de]
theorem LWP.opn {l : LW} {b w : Nat} (h : LWP l (b + 1)) (hb_ : 1 ≤ b) (hw : 2 ≤ w) (hw8 : w ≤ 8) : LWP (addc l w 0) b := by
  refine ⟨addc_x (p := fun _ w _ => w ≤ 8) h.w hw8, addc_x (p := fun _ w o => w = 0 → o ≤ 999) h.o0 (fun z => by omega), addc_x (p := fun _ w o => w = 1 → o < 6) h.o1 (fun z => by omega), fun k hk => ?_, ?_⟩
  · have hk2 : k < l.n + 1 := hk
    rw [dep_addc k (by omega)]
    exact addc_x (p := fun k w _ => 2 ≤ w → 2 ≤ dep l k) h.d2 (fun z => by rw [h.de]; omega) k hk
  · show dep (addc l w 0) (l.n + 1) = b
    have e : (addc l w 0).what l.n = w := put_s
    show (if (addc l w 0).what l.n ≤ 1 then _ else _) = _
    rw [e, if_neg (by omega), dep_addc _ (Nat.le_refl _), h.de]
    omega
abbrev LX : Type := LW × RST
def fct (g : Nat → Nat) (n s : Nat) : Nat := if isW g n s tSteps = true then 0 else if isW g n s tBegin = true then 1 else if isW g n s tCrumbs = true then 2 else if isW g n s tLed = true then 3 else if isW g n s tNotes = true then 4 else if isW g n s tBird = true then 5 else 6
def twoG (g : Nat → Nat) (n : Nat) (sub : LX → LX) (o w : Nat) (l : LW) (s : Nat) : LX := if 0 < o then (addc (sub ((sub (l, tkS g n 91 (.inl (nxp g n s)))).1, tkS g n 44 (sub (l, tkS g n 91 (.inl (nxp g n s)))).2)).1 w 0, tkS g n 93 (sub ((sub (l, tkS g n 91 (.inl (nxp g n s)))).1, tkS g n 44 (sub (l, tkS g n 91 (.inl (nxp g n s)))).2)).2) else (l, .inr (3, s))
def parG (g : Nat → Nat) (n : Nat) (sub : LX → LX) (o : Nat) (l : LW) (s : Nat) : LX := if 0 < o then ((sub (l, .inl (nxp g n s))).1, tkS g n 41 (sub (l, .inl (nxp g n s))).2) else (l, .inr (3, s))
def inpG (g : Nat → Nat) (n : Nat) (l : LW) (s : Nat) : LX := if fct g n s = 6 then (l, .inr (1, s)) else (addc l 1 (fct g n s), .inl (nxp g n s))
def numG (g : Nat → Nat) (n : Nat) (l : LW) (s : Nat) : LX := (addc l 0 (tkN g n 0 ((999 : Nat) : Int) (.inl s)).1, (tkN g n 0 ((999 : Nat) : Int) (.inl s)).2)
def uniG (g : Nat → Nat) (n : Nat) (sub : LX → LX) (o : Nat) (l : LW) (s : Nat) : LX :=
  if kdp g n s = 1 then numG g n l s else if kdp g n s = 3 ∧ g s = 40 then parG g n sub o l s else if isW g n s tLeast = true then twoG g n sub o 6 l s else if isW g n s tMost = true then twoG g n sub o 7 l s else inpG g n l s
def uni (g : Nat → Nat) (n : Nat) (sub : LX → LX) (o : Nat) (x : LX) : LX := match x.2 with
  | .inl s => uniG g n sub o x.1 s
  | .inr q => (x.1, .inr q)
def opPr (g : Nat → Nat) (n s : Nat) : Nat := if kdp g n s = 3 ∧ g s = 42 then 4 else if kdp g n s = 3 ∧ g s = 47 then 5 else if kdp g n s = 3 ∧ g s = 37 then 8 else 0
def opSu (g : Nat → Nat) (n s : Nat) : Nat := if kdp g n s = 3 ∧ g s = 43 then 2 else if kdp g n s = 3 ∧ g s = 45 then 3 else 0
/-- whatever is joined by signs -/
def lop (g : Nat → Nat) (n : Nat) (op : Nat → Nat) (f : LX → LX) : Nat → LX → LX
  | 0, x => x
  | k + 1, x => match x.2 with
    | .inl s => if op s = 0 then x else lop g n op f k (addc (f (x.1, .inl (nxp g n s))).1 (op s) 0, (f (x.1, .inl (nxp g n s))).2)
    | .inr _ => x
def prG (g : Nat → Nat) (n : Nat) (f : LX → LX) (x : LX) : LX := lop g n (opPr g n) f 150 (f x)
def smG (g : Nat → Nat) (n : Nat) (f : LX → LX) (x : LX) : LX := lop g n (opSu g n) f 150 (f x)
def sums (g : Nat → Nat) (n : Nat) : Nat → LX → LX
  | 0 => smG g n (prG g n (uni g n (fun x => x) 0))
  | o + 1 => smG g n (prG g n (uni g n (sums g n o) (o + 1)))
section LOP
variable {g : Nat → Nat} {n : Nat} {op : Nat → Nat} {f : LX → LX}
theorem lop_go {k s : Nat} {l : LW} (h : op s ≠ 0) : lop g n op f (k + 1) (l, .inl s) = lop g n op f k (addc (f (l, .inl (nxp g n s))).1 (op s) 0, (f (l, .inl (nxp g n s))).2) := if_neg h
theorem lop_bad {k : Nat} {l : LW} {q : Nat × Nat} : lop g n op f k (l, .inr q) = (l, .inr q) := by cases k <;> rfl
theorem lop_stop {k : Nat} {x : LX} (h : ∀ s, x.2 = .inl s → op s = 0) : lop g n op f k x = x := by
  obtain ⟨l, r⟩ := x
  cases r with
  | inr q => exact lop_bad
  | inl s =>
    cases k with
    | zero => rfl
    | succ k => exact if_pos (h s rfl)
/-- a piece of a LAW: it goes forward, with no more codes than bytes, and leaves one value more -/
def PG (g : Nat → Nat) (n : Nat) (f : LX → LX) : Prop := (∀ l q, f (l, .inr q) = (l, .inr q)) ∧ ∀ l s s2, s ≤ n → (f (l, .inl s)).2 = .inl s2 → s < s2 ∧ s2 ≤ n ∧ (f (l, .inl s)).1.n + s ≤ l.n + s2 ∧ ∀ b, LWP l b → LWP (f (l, .inl s)).1 (b + 1)
theorem op_lt (hop : ∀ s, op s ≠ 0 → kdp g n s = 3 ∧ 2 ≤ op s ∧ op s ≤ 8) {s : Nat} (h : op s ≠ 0) : s < n ∧ s < nxp g n s := by
  have h1 := kd3_lt (hop s h).1
  have h2 : kdp g n s = 3 := (hop s h).1
  have e : pep g n s = s + 1 := by
    cases hd : isD (g s) with
    | true => rw [(kd_1 h1 hd).1] at h2; exact absurd h2 (by decide)
    | false =>
      cases hl : isL (g s) with
      | true => rw [(kd_2 h1 hd hl).1] at h2; exact absurd h2 (by decide)
      | false => exact (kd_3 h1 hd hl).2
  refine ⟨h1, ?_⟩
  have := scp_ge (p := isB) (g := g) (n := n) (i := s + 1) (by omega)
  unfold nxp
  rw [e]
  omega
theorem lop_pg (pf : PG g n f) (hop : ∀ s, op s ≠ 0 → kdp g n s = 3 ∧ 2 ≤ op s ∧ op s ≤ 8) : ∀ k l s s2, s ≤ n → (lop g n op f k (l, .inl s)).2 = .inl s2 → s ≤ s2 ∧ s2 ≤ n ∧ (lop g n op f k (l, .inl s)).1.n + s ≤ l.n + s2 ∧ ∀ b, LWP l (b + 1) → LWP (lop g n op f k (l, .inl s)).1 (b + 1)
  | 0, l, s, s2, hs, e => by
    have e : (Sum.inl s : RST) = .inl s2 := e
    cases e
    exact ⟨Nat.le_refl _, hs, Nat.le_refl _, fun _ h => h⟩
  | k + 1, l, s, s2, hs, e => by
    by_cases h : op s = 0
    · have e0 : lop g n op f (k + 1) (l, .inl s) = (l, .inl s) := if_pos h
      rw [e0] at e ⊢
      have e : (Sum.inl s : RST) = .inl s2 := e
      cases e
      exact ⟨Nat.le_refl _, hs, Nat.le_refl _, fun _ h => h⟩
    · have o := op_lt hop h
      have ho := hop s h
      rw [lop_go h] at e ⊢
      cases e3 : (f (l, .inl (nxp g n s))).2 with
      | inr q =>
        rw [e3, lop_bad] at e
        exact inr_ne e
      | inl s3 =>
        rw [e3] at e
        have p := pf.2 l (nxp g n s) s3 (nxp_le hs) e3
        have r := lop_pg pf hop k _ s3 s2 p.2.1 e
        have rn : (lop g n op f k (addc (f (l, .inl (nxp g n s))).1 (op s) 0, .inl s3)).1.n + s3 ≤ (f (l, .inl (nxp g n s))).1.n + 1 + s2 := r.2.2.1
        exact ⟨by omega, r.2.1, by omega, fun b hb_ => r.2.2.2 b ((p.2.2.2 (b + 1) hb_).opn (by omega) ho.2.1 ho.2.2)⟩
theorem PG.lp2 (pf : PG g n f) (hop : ∀ s, op s ≠ 0 → kdp g n s = 3 ∧ 2 ≤ op s ∧ op s ≤ 8) (k : Nat) : PG g n (fun x => lop g n op f k (f x)) := by
  refine ⟨fun l q => ?_, fun l s s2 hs e => ?_⟩
  · show lop g n op f k (f (l, .inr q)) = _
    rw [pf.1, lop_bad]
  · have e : (lop g n op f k (f (l, .inl s))).2 = .inl s2 := e
    show _ ∧ _ ∧ (lop g n op f k (f (l, .inl s))).1.n + s ≤ _ ∧ ∀ b, LWP l b → LWP (lop g n op f k (f (l, .inl s))).1 (b + 1)
    have e0 : f (l, .inl s) = ((f (l, .inl s)).1, (f (l, .inl s)).2) := rfl
    cases e3 : (f (l, .inl s)).2 with
    | inr q =>
      rw [e0, e3, lop_bad] at e
      exact inr_ne e
    | inl s3 =>
      rw [e0, e3] at e ⊢
      have p := pf.2 l s s3 hs e3
      have r := lop_pg pf hop k _ s3 s2 p.2.1 e
      exact ⟨by omega, r.2.1, by omega, fun b hb_ => r.2.2.2 b (p.2.2.2 b hb_)⟩
end LOP
section UNI
variable {g : Nat → Nat} {n : Nat} {sub : LX → LX} {o : Nat}
theorem tkS_p {c s s2 : Nat} (h : tkS g n c (.inl s) = .inl s2) : s < s2 ∧ (s ≤ n → s2 ≤ n) := by
  by_cases z : kdp g n s = 3 ∧ g s = c
  · have e : tkS g n c (.inl s) = .inl (nxp g n s) := if_pos z
    rw [e] at h
    cases h
    exact ⟨(op_lt (op := fun s => if kdp g n s = 3 then 2 else 0) (fun s hs => by by_cases y : kdp g n s = 3; exact ⟨y, by rw [if_pos y]; omega, by rw [if_pos y]; omega⟩; exact absurd (if_neg y) hs) (by rw [if_pos z.1]; decide)).2, nxp_le⟩
  · have e : tkS g n c (.inl s) = .inr (1, s) := if_neg z
    rw [e] at h
    exact inr_ne h
theorem tkS_q {c s2 : Nat} {r : RST} (h : tkS g n c r = .inl s2) : ∃ s, r = .inl s ∧ s < s2 ∧ (s ≤ n → s2 ≤ n) := by
  obtain ⟨s, e⟩ := tkS_ok h
  subst e
  exact ⟨s, rfl, tkS_p h⟩
theorem pep_gt {s : Nat} (h : s < n) : s < pep g n s := by
  cases hd : isD (g s) with
  | true =>
    rw [(kd_1 h hd).2, scp_go h hd]
    have := scp_ge (p := isD) (g := g) (n := n) (i := s + 1) (by omega)
    omega
  | false =>
    cases hl : isL (g s) with
    | true =>
      rw [(kd_2 h hd hl).2, scp_go h hl]
      have := scp_ge (p := isL) (g := g) (n := n) (i := s + 1) (by omega)
      omega
    | false => rw [(kd_3 h hd hl).2]; omega
theorem nxp_gt {s : Nat} (h : s < n) : s < nxp g n s := by
  have h1 := pep_gt (g := g) h
  have h2 := scp_ge (p := isB) (g := g) (n := n) (i := pep g n s) (pep_le (by omega))
  unfold nxp
  omega
theorem kd_lt {s : Nat} (h : kdp g n s ≠ 0) : s < n := Nat.lt_of_not_le fun z => h (kd_0 z).1
theorem tkN_q {lo s s2 : Nat} {hi : Int} (h : (tkN g n lo hi (.inl s)).2 = .inl s2) : s < s2 ∧ (s ≤ n → s2 ≤ n) := by
  by_cases k : kdp g n s = 1
  · by_cases b : nvl g n s < lo ∨ hi < (nvl g n s : Int)
    · have e : tkN g n lo hi (.inl s) = (0, .inr (2, s)) := (if_pos k).trans (if_pos b)
      rw [e] at h
      exact inr_ne h
    · have e : tkN g n lo hi (.inl s) = (nvl g n s, .inl (nxp g n s)) := (if_pos k).trans (if_neg b)
      rw [e] at h
      cases h
      exact ⟨nxp_gt (kd_lt (show kdp g n s ≠ 0 by omega)), nxp_le⟩
  · have e : tkN g n lo hi (.inl s) = (0, .inr (1, s)) := if_neg k
    rw [e] at h
    exact inr_ne h
theorem fct_w {s : Nat} (h : fct g n s ≠ 6) : kdp g n s = 2 ∧ fct g n s < 6 := by
  unfold fct at h ⊢
  by_cases e1 : isW g n s tSteps = true
  · exact ⟨(of_decide_eq_true e1).1, by rw [if_pos e1]; decide⟩
  rw [if_neg e1] at h ⊢
  by_cases e2 : isW g n s tBegin = true
  · exact ⟨(of_decide_eq_true e2).1, by rw [if_pos e2]; decide⟩
  rw [if_neg e2] at h ⊢
  by_cases e3 : isW g n s tCrumbs = true
  · exact ⟨(of_decide_eq_true e3).1, by rw [if_pos e3]; decide⟩
  rw [if_neg e3] at h ⊢
  by_cases e4 : isW g n s tLed = true
  · exact ⟨(of_decide_eq_true e4).1, by rw [if_pos e4]; decide⟩
  rw [if_neg e4] at h ⊢
  by_cases e5 : isW g n s tNotes = true
  · exact ⟨(of_decide_eq_true e5).1, by rw [if_pos e5]; decide⟩
  rw [if_neg e5] at h ⊢
  by_cases e6 : isW g n s tBird = true
  · exact ⟨(of_decide_eq_true e6).1, by rw [if_pos e6]; decide⟩
  rw [if_neg e6] at h
  exact absurd rfl h
theorem PG.two (ps : 0 < o → PG g n sub) {w s s2 : Nat} {l : LW} (hw : 2 ≤ w) (hw8 : w ≤ 8) (hs : s < n) (e : (twoG g n sub o w l s).2 = .inl s2) : s < s2 ∧ s2 ≤ n ∧ (twoG g n sub o w l s).1.n + s ≤ l.n + s2 ∧ ∀ b, LWP l b → LWP (twoG g n sub o w l s).1 (b + 1) := by
  unfold twoG at e ⊢
  by_cases ho : 0 < o
  · rw [if_pos ho] at e ⊢
    have pf := ps ho
    obtain ⟨s5, e5, h5, h5n⟩ := tkS_q e
    cases e1 : tkS g n 91 (.inl (nxp g n s)) with
    | inr q =>
      rw [e1, pf.1] at e5
      have e6 : tkS g n 44 (Sum.inr q) = .inr q := rfl
      rw [e6, pf.1] at e5
      exact inr_ne e5
    | inl s1 =>
      rw [e1] at e5
      have h1 := tkS_p e1
      have hx := nxp_gt (g := g) hs
      have hy := nxp_le (g := g) (n := n) (s := s) (by omega)
      cases e2 : (sub (l, .inl s1)).2 with
      | inr q =>
        rw [e2] at e5
        have e6 : tkS g n 44 (Sum.inr q) = .inr q := rfl
        rw [e6, pf.1] at e5
        exact inr_ne e5
      | inl s3 =>
        rw [e2] at e5
        have p1 := pf.2 l s1 s3 (by omega) e2
        cases e4 : tkS g n 44 (.inl s3) with
        | inr q =>
          rw [e4, pf.1] at e5
          exact inr_ne e5
        | inl s4 =>
          rw [e4] at e5
          have h4 := tkS_p e4
          have p2 := pf.2 (sub (l, .inl s1)).1 s4 s5 (by omega) e5
          refine ⟨by omega, by omega, ?_, fun b hb_ => (p2.2.2.2 _ (p1.2.2.2 b hb_)).opn (by omega) hw hw8⟩
          show (sub ((sub (l, .inl s1)).1, .inl s4)).1.n + 1 + s ≤ _
          omega
  · rw [if_neg ho] at e
    exact inr_ne e
theorem PG.uni (ps : 0 < o → PG g n sub) : PG g n (uni g n sub o) := by
  refine ⟨fun l q => rfl, fun l s s2 hs e => ?_⟩
  have e : (uniG g n sub o l s).2 = .inl s2 := e
  show _ ∧ _ ∧ (uniG g n sub o l s).1.n + s ≤ _ ∧ ∀ b, LWP l b → LWP (uniG g n sub o l s).1 (b + 1)
  unfold uniG at e ⊢
  by_cases k1 : kdp g n s = 1
  · rw [if_pos k1] at e ⊢
    have h := tkN_q (show (tkN g n 0 ((999 : Nat) : Int) (.inl s)).2 = .inl s2 from e)
    have b := tkN_b (show (tkN g n 0 ((999 : Nat) : Int) (.inl s)).2 = .inl s2 from e)
    refine ⟨h.1, h.2 hs, ?_, fun c hc_ => hc_.val (by omega) (fun _ => Int.ofNat_le.mp b.2) (fun z => by omega)⟩
    show l.n + 1 + s ≤ _
    omega
  rw [if_neg k1] at e ⊢
  by_cases k2 : kdp g n s = 3 ∧ g s = 40
  · rw [if_pos k2] at e ⊢
    unfold parG at e ⊢
    by_cases ho : 0 < o
    · rw [if_pos ho] at e ⊢
      have pf := ps ho
      obtain ⟨s3, e3, h3⟩ := tkS_q e
      have hx := nxp_gt (g := g) (kd_lt (show kdp g n s ≠ 0 by omega))
      have p := pf.2 l (nxp g n s) s3 (nxp_le hs) e3
      exact ⟨by omega, by omega, by show (sub (l, .inl (nxp g n s))).1.n + s ≤ _; omega, p.2.2.2⟩
    · rw [if_neg ho] at e
      exact inr_ne e
  rw [if_neg k2] at e ⊢
  by_cases k3 : isW g n s tLeast = true
  · rw [if_pos k3] at e ⊢
    exact PG.two ps (by decide) (by decide) (kd_lt (by rw [(of_decide_eq_true k3).1]; decide)) e
  rw [if_neg k3] at e ⊢
  by_cases k4 : isW g n s tMost = true
  · rw [if_pos k4] at e ⊢
    exact PG.two ps (by decide) (by decide) (kd_lt (by rw [(of_decide_eq_true k4).1]; decide)) e
  rw [if_neg k4] at e ⊢
  unfold inpG at e ⊢
  by_cases k5 : fct g n s = 6
  · rw [if_pos k5] at e
    exact inr_ne e
  · rw [if_neg k5] at e ⊢
    have f := fct_w k5
    have e : (Sum.inl (nxp g n s) : RST) = .inl s2 := e
    cases e
    have hx := nxp_gt (g := g) (kd_lt (show kdp g n s ≠ 0 by omega))
    refine ⟨hx, nxp_le hs, ?_, fun c hc_ => hc_.val (by omega) (fun z => by omega) (fun _ => f.2)⟩
    show l.n + 1 + s ≤ _
    omega
theorem opPr_3 (s : Nat) (h : opPr g n s ≠ 0) : kdp g n s = 3 ∧ 2 ≤ opPr g n s ∧ opPr g n s ≤ 8 := by
  unfold opPr at h ⊢
  by_cases e1 : kdp g n s = 3 ∧ g s = 42
  · rw [if_pos e1]; exact ⟨e1.1, by decide, by decide⟩
  rw [if_neg e1] at h ⊢
  by_cases e2 : kdp g n s = 3 ∧ g s = 47
  · rw [if_pos e2]; exact ⟨e2.1, by decide, by decide⟩
  rw [if_neg e2] at h ⊢
  by_cases e3 : kdp g n s = 3 ∧ g s = 37
  · rw [if_pos e3]; exact ⟨e3.1, by decide, by decide⟩
  rw [if_neg e3] at h
  exact absurd rfl h
theorem opSu_3 (s : Nat) (h : opSu g n s ≠ 0) : kdp g n s = 3 ∧ 2 ≤ opSu g n s ∧ opSu g n s ≤ 8 := by
  unfold opSu at h ⊢
  by_cases e1 : kdp g n s = 3 ∧ g s = 43
  · rw [if_pos e1]; exact ⟨e1.1, by decide, by decide⟩
  rw [if_neg e1] at h ⊢
  by_cases e2 : kdp g n s = 3 ∧ g s = 45
  · rw [if_pos e2]; exact ⟨e2.1, by decide, by decide⟩
  rw [if_neg e2] at h
  exact absurd rfl h
end UNI
theorem PG.pr {g : Nat → Nat} {n : Nat} {f : LX → LX} (pf : PG g n f) : PG g n (prG g n f) := pf.lp2 opPr_3 150
theorem PG.sm {g : Nat → Nat} {n : Nat} {f : LX → LX} (pf : PG g n f) : PG g n (smG g n f) := pf.lp2 opSu_3 150
theorem PG.sums {g : Nat → Nat} {n : Nat} : ∀ o, PG g n (sums g n o)
  | 0 => (PG.uni (sub := fun x => x) (o := 0) (fun h => absurd h (Nat.lt_irrefl 0))).pr.sm
  | o + 1 => (PG.uni (o := o + 1) (fun _ => PG.sums o)).pr.sm


