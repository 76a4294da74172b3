/-! WORK as one value. -/
def tCall : List Nat := [99, 97, 108, 108]
def tLead : List Nat := [108, 101, 97, 100]
def tPut : List Nat := [112, 117, 116]
def tNote : List Nat := [110, 111, 116, 101]
def tMinu : List Nat := [109, 105, 110, 117, 116, 101]
def tAgai : List Nat := [97, 103, 97, 105, 110]
theorem lCall : ltr tCall := by unfold ltr; decide
theorem lLead : ltr tLead := by unfold ltr; decide
theorem lPut : ltr tPut := by unfold ltr; decide
theorem lNote : ltr tNote := by unfold ltr; decide
theorem lMinu : ltr tMinu := by unfold ltr; decide
theorem lAgai : ltr tAgai := by unfold ltr; decide
def PL : Type := (Nat) × (Nat → Nat) × (Nat → Nat) × (Nat → Nat) × (Nat → Nat)
def PL.m (x : PL) : Nat := x.1
def PL.k (x : PL) : Nat → Nat := x.2.1
def PL.a (x : PL) : Nat → Nat := x.2.2.1
def PL.b (x : PL) : Nat → Nat := x.2.2.2.1
def PL.c (x : PL) : Nat → Nat := x.2.2.2.2
def PL.mk (m : Nat) (k : Nat → Nat) (a : Nat → Nat) (b : Nat → Nat) (c : Nat → Nat) : PL := (m, k, a, b, c)
abbrev WX : Type := PL × RST
def addS (P : PL) (k a b c : Nat) : PL := PL.mk (P.m + 1) (put P.k P.m k) (put P.a P.m a) (put P.b P.m b) (put P.c P.m c)
def clsA (P : PL) (j : Nat) : PL := PL.mk P.m P.k P.a (put P.b j P.m) P.c
def tX (g : Nat → Nat) (n hi : Nat) (r : RST) : Nat × RST := tkN g n 0 ((hi : Int) - ((1 : Nat) : Int)) r
def tH (g : Nat → Nat) (n : Nat) (r : RST) : Nat × RST := tkN g n 1 ((9 : Nat) : Int) r
def kst (g : Nat → Nat) (n s : Nat) : Nat := if isW g n s tCall = true then 0 else if isW g n s tLead = true then 1 else if isW g n s tPut = true then 2 else if isW g n s tNote = true then 3 else if isW g n s tMinu = true then 4 else if isW g n s tAgai = true then 5 else 6
def tx1 (g : Nat → Nat) (n hi s : Nat) : Nat × RST := tX g n hi (.inl (nxp g n s))
def tx2 (g : Nat → Nat) (n h1 h2 s : Nat) : Nat × RST := tX g n h2 (tx1 g n h1 s).2
def tx3 (g : Nat → Nat) (n h1 h2 s : Nat) : Nat × RST := tH g n (tx2 g n h1 h2 s).2
def stCall (g : Nat → Nat) (n : Nat) (κ : CT) (P : PL) (s : Nat) : WX := (addS P 0 (tx1 g n κ.nc s).1 (tx2 g n κ.nc κ.nb s).1 0, (tx2 g n κ.nc κ.nb s).2)
def stLead (g : Nat → Nat) (n : Nat) (κ : CT) (P : PL) (s : Nat) : WX := (addS P 1 (tx1 g n κ.nc s).1 (tx2 g n κ.nc κ.nb s).1 (tx3 g n κ.nc κ.nb s).1, (tx3 g n κ.nc κ.nb s).2)
def stPut (g : Nat → Nat) (n : Nat) (κ : CT) (P : PL) (s : Nat) : WX := (addS P 2 (tx1 g n κ.nc s).1 (tx2 g n κ.nc κ.ns s).1 (tx3 g n κ.nc κ.ns s).1, (tx3 g n κ.nc κ.ns s).2)
def stNote (g : Nat → Nat) (n : Nat) (κ : CT) (P : PL) (s : Nat) : WX := (addS P 3 (tx1 g n κ.ns s).1 0 0, (tx1 g n κ.ns s).2)
def stMin (g : Nat → Nat) (n : Nat) (P : PL) (s : Nat) : WX := (addS P 4 0 0 0, .inl (nxp g n s))
def agT (g : Nat → Nat) (n s : Nat) : Nat × RST := tkN g n 0 ((40 : Nat) : Int) (.inl (nxp g n s))
def agX (g : Nat → Nat) (n : Nat) (P : PL) (s : Nat) : WX := (addS P 5 (agT g n s).1 0 0, tkS g n 91 (agT g n s).2)
def stAgn (g : Nat → Nat) (n : Nat) (sub : WX → WX) (P : PL) (s : Nat) : WX := (clsA (sub (agX g n P s)).1 P.m, tkS g n 93 (sub (agX g n P s)).2)
/-- a step without its sign -/
def stpT (g : Nat → Nat) (n : Nat) (κ : CT) (sub : WX → WX) (o : Nat) (P : PL) (s : Nat) : WX :=
  if kst g n s = 0 then stCall g n κ P s else if kst g n s = 1 then stLead g n κ P s else if kst g n s = 2 then stPut g n κ P s else if kst g n s = 3 then stNote g n κ P s else if kst g n s = 4 then stMin g n P s else if kst g n s = 5 then (if 0 < o then stAgn g n sub P s else (P, .inr (3, s))) else (P, .inr (1, s))
def sgs (g : Nat → Nat) (n : Nat) (f : PL → Nat → WX) (P : PL) (s : Nat) : WX := ((f P s).1, tkS g n 59 (f P s).2)
/-- steps one behind the other, till one of the signs of e -/
def stps (n : Nat) (e : Nat → Bool) (f : PL → Nat → WX) : Nat → WX → WX
  | 0, x => x
  | k + 1, x => match x.2 with
    | .inl s => if s < n ∧ e s = false then stps n e f k (f x.1 s) else x
    | .inr _ => x
def enB (g : Nat → Nat) (n s : Nat) : Bool := decide (kdp g n s = 3 ∧ g s = 93)
def enN (_ : Nat) : Bool := false
/-- a step where o agains more may be opened -/
def stT (g : Nat → Nat) (n : Nat) (κ : CT) : Nat → PL → Nat → WX
  | 0 => stpT g n κ (fun x => x) 0
  | o + 1 => stpT g n κ (stps n (enB g n) (sgs g n (stT g n κ o)) 150) (o + 1)
def inn (g : Nat → Nat) (n : Nat) (κ : CT) (o : Nat) : WX → WX := stps n (enB g n) (sgs g n (stT g n κ o)) 150
def pl0 : PL := PL.mk 0 (fun _ => 0) (fun _ => 0) (fun _ => 0) (fun _ => 0)
def wrkT (g : Nat → Nat) (n : Nat) (κ : CT) (s : Nat) : WX := stps n enN (sgs g n (stT g n κ 6)) 150 (pl0, .inl s)
section STPS
variable {n : Nat} {e : Nat → Bool} {f : PL → Nat → WX}
theorem stps_go {k s : Nat} {P : PL} (h : s < n) (h2 : e s = false) : stps n e f (k + 1) (P, .inl s) = stps n e f k (f P s) := if_pos ⟨h, h2⟩
theorem stps_bad {k : Nat} {P : PL} {q : Nat × Nat} : stps n e f k (P, .inr q) = (P, .inr q) := by cases k <;> rfl
theorem stps_end {k s : Nat} {P : PL} (h : n ≤ s ∨ e s = true) : stps n e f k (P, .inl s) = (P, .inl s) := by
  cases k with
  | zero => rfl
  | succ k => exact if_neg fun z => h.elim (fun a => absurd z.1 (by omega)) (fun a => absurd (a.symm.trans z.2) (by decide))
end STPS
/-- a step that is no again -/
def bas (κ : CT) (P : PL) (j : Nat) : Prop := (P.k j = 0 ∧ P.a j < κ.nc ∧ P.b j < κ.nb) ∨ (P.k j = 1 ∧ P.a j < κ.nc ∧ P.b j < κ.nb ∧ P.c j ≤ 9) ∨ (P.k j = 2 ∧ P.a j < κ.nc ∧ P.b j < κ.ns ∧ P.c j ≤ 9) ∨ (P.k j = 3 ∧ P.a j < κ.ns) ∨ P.k j = 4
/-- steps that can be done, agains no deeper than o -/
def blk (κ : CT) (P : PL) : Nat → Nat → Nat → Prop
  | 0, f, t => ∀ j, f ≤ j → j < t → bas κ P j
  | o + 1, f, t => ∀ j, f ≤ j → j < t → bas κ P j ∨ (P.k j = 5 ∧ P.a j ≤ 40 ∧ j < P.b j ∧ P.b j ≤ t ∧ blk κ P o (j + 1) (P.b j))
section BLK
variable {κ : CT} {P R : PL}
theorem blk.up : ∀ {o f t : Nat}, blk κ P o f t → blk κ P (o + 1) f t
  | 0, f, t, h => fun j a b => Or.inl (h j a b)
  | o + 1, f, t, h => fun j a b => (h j a b).imp id (fun z => ⟨z.1, z.2.1, z.2.2.1, z.2.2.2.1, blk.up z.2.2.2.2⟩)
theorem bas.ext {j : Nat} (h : bas κ P j) (ek : R.k j = P.k j) (ea : R.a j = P.a j) (eb : R.b j = P.b j) (ec_ : R.c j = P.c j) : bas κ R j := by
  unfold bas at h ⊢
  rw [ek, ea, eb, ec_]
  exact h
theorem blk.ext : ∀ {o f t : Nat}, blk κ P o f t → (∀ j, f ≤ j → j < t → R.k j = P.k j ∧ R.a j = P.a j ∧ R.b j = P.b j ∧ R.c j = P.c j) → blk κ R o f t
  | 0, f, t, h, e => fun j a b => (h j a b).ext (e j a b).1 (e j a b).2.1 (e j a b).2.2.1 (e j a b).2.2.2
  | o + 1, f, t, h, e => fun j a b => (h j a b).imp (fun z => z.ext (e j a b).1 (e j a b).2.1 (e j a b).2.2.1 (e j a b).2.2.2) (fun z => by
    rw [(e j a b).1, (e j a b).2.1, (e j a b).2.2.1]
    exact ⟨z.1, z.2.1, z.2.2.1, z.2.2.2.1, blk.ext z.2.2.2.2 (fun i c d => e i (by omega) (by omega))⟩)
theorem blk.sub {f2 : Nat} : ∀ {o f t : Nat}, blk κ P o f t → f ≤ f2 → blk κ P o f2 t
  | 0, f, t, h, e => fun j a b => h j (by omega) b
  | o + 1, f, t, h, e => fun j a b => h j (by omega) b
theorem blk.app {m : Nat} : ∀ {o f t : Nat}, blk κ P o f m → blk κ P o m t → m ≤ t → blk κ P o f t
  | 0, f, t, h, h2, e => fun j a b => (Nat.lt_or_ge j m).elim (fun z => h j a z) (fun z => h2 j z b)
  | o + 1, f, t, h, h2, e => fun j a b => (Nat.lt_or_ge j m).elim (fun z => (h j a z).imp id (fun y => ⟨y.1, y.2.1, y.2.2.1, Nat.le_trans y.2.2.2.1 e, y.2.2.2.2⟩)) (fun z => h2 j z b)
end BLK
def EXT (κ : CT) (o : Nat) (P R : PL) : Prop := P.m ≤ R.m ∧ (∀ j, j < P.m → R.k j = P.k j ∧ R.a j = P.a j ∧ R.b j = P.b j ∧ R.c j = P.c j) ∧ blk κ R o P.m R.m
section EXTS
variable {κ : CT} {o : Nat} {P R U : PL}
theorem blk_nil {f : Nat} : blk κ P o f f := by
  cases o with
  | zero => exact fun j a b => absurd a (by omega)
  | succ o => exact fun j a b => absurd a (by omega)
theorem EXT.rf : EXT κ o P P := ⟨Nat.le_refl _, fun _ _ => ⟨rfl, rfl, rfl, rfl⟩, blk_nil⟩
theorem EXT.tr (h : EXT κ o P R) (h2 : EXT κ o R U) : EXT κ o P U := by
  have a := h.1
  have b := h2.1
  refine ⟨Nat.le_trans a b, fun j hj => ?_, ?_⟩
  · have c := h.2.1 j hj
    have d := h2.2.1 j (by omega)
    exact ⟨d.1.trans c.1, d.2.1.trans c.2.1, d.2.2.1.trans c.2.2.1, d.2.2.2.trans c.2.2.2⟩
  · exact (h.2.2.ext (fun j _ z => h2.2.1 j z)).app h2.2.2 b
theorem add_old {k a b c j : Nat} (h : j < P.m) : (addS P k a b c).k j = P.k j ∧ (addS P k a b c).a j = P.a j ∧ (addS P k a b c).b j = P.b j ∧ (addS P k a b c).c j = P.c j := ⟨put_n (by omega), put_n (by omega), put_n (by omega), put_n (by omega)⟩
theorem blk_one {f : Nat} (h : bas κ P f) : blk κ P o f (f + 1) := by
  cases o with
  | zero =>
    exact fun j a b => by
      have z : j = f := by omega
      rw [z]
      exact h
  | succ o =>
    exact fun j a b => by
      have z : j = f := by omega
      rw [z]
      exact Or.inl h
theorem EXT.add {k a b c : Nat} (h : bas κ (addS P k a b c) P.m) : EXT κ o P (addS P k a b c) := ⟨Nat.le_succ _, fun j hj => add_old hj, blk_one h⟩
theorem EXT.agn {x : Nat} (hx : x ≤ 40) (h : EXT κ o (addS P 5 x 0 0) R) : EXT κ (o + 1) P (clsA R P.m) := by
  have a : P.m + 1 ≤ R.m := h.1
  have c := h.2.1 P.m (Nat.lt_succ_self P.m)
  refine ⟨by show P.m ≤ R.m; omega, fun j hj => ?_, fun j h1 h2 => ?_⟩
  · have d := h.2.1 j (show j < P.m + 1 by omega)
    have e := add_old (P := P) (k := 5) (a := x) (b := 0) (c := 0) hj
    exact ⟨d.1.trans e.1, d.2.1.trans e.2.1, (put_n (by omega)).trans (d.2.2.1.trans e.2.2.1), d.2.2.2.trans e.2.2.2⟩
  · have h2 : j < R.m := h2
    have hb_ : blk κ (clsA R P.m) o (P.m + 1) R.m := h.2.2.ext (fun i i1 i2 => ⟨rfl, rfl, put_n (show i ≠ P.m from fun z => by have : P.m + 1 ≤ i := i1; omega), rfl⟩)
    by_cases e : j = P.m
    · subst e
      refine Or.inr ⟨c.1.trans put_s, ?_, ?_, ?_, ?_⟩
      · show R.a P.m ≤ 40
        rw [c.2.1]
        show put P.a P.m x P.m ≤ 40
        rw [put_s]
        exact hx
      · show P.m < put R.b P.m R.m P.m
        rw [put_s]
        exact a
      · show put R.b P.m R.m P.m ≤ R.m
        rw [put_s]
        exact Nat.le_refl _
      · show blk κ (clsA R P.m) o (P.m + 1) (put R.b P.m R.m P.m)
        rw [put_s]
        exact hb_
    · exact hb_.up j (by omega) h2
end EXTS
/-- a step goes forward, and adds steps that can be done -/
def PGw (n : Nat) (κ : CT) (o : Nat) (f : PL → Nat → WX) : Prop := ∀ P s s2, s < n → (f P s).2 = .inl s2 → s < s2 ∧ s2 ≤ n ∧ 4 * (f P s).1.m + s ≤ 4 * P.m + s2 ∧ EXT κ o P (f P s).1
theorem stps_pg {n o : Nat} {κ : CT} {e : Nat → Bool} {f : PL → Nat → WX} (pf : PGw n κ o f) : ∀ k P s s2, s ≤ n → (stps n e f k (P, .inl s)).2 = .inl s2 → s ≤ s2 ∧ s2 ≤ n ∧ 4 * (stps n e f k (P, .inl s)).1.m + s ≤ 4 * P.m + s2 ∧ EXT κ o P (stps n e f k (P, .inl s)).1
  | 0, P, s, s2, hs, h => by
    have h : (Sum.inl s : RST) = .inl s2 := h
    cases h
    exact ⟨Nat.le_refl _, hs, Nat.le_refl _, EXT.rf⟩
  | k + 1, P, s, s2, hs, h => by
    by_cases z : s < n ∧ e s = false
    · rw [stps_go z.1 z.2] at h ⊢
      have e0 : f P s = ((f P s).1, (f P s).2) := rfl
      cases e3 : (f P s).2 with
      | inr q =>
        rw [e0, e3, stps_bad] at h
        exact inr_ne h
      | inl s3 =>
        rw [e0, e3] at h ⊢
        have p := pf P s s3 z.1 e3
        have r := stps_pg pf k _ s3 s2 p.2.1 h
        exact ⟨by omega, r.2.1, by omega, p.2.2.2.tr r.2.2.2⟩
    · have e0 : stps n e f (k + 1) (P, .inl s) = (P, .inl s) := if_neg z
      rw [e0] at h ⊢
      have h : (Sum.inl s : RST) = .inl s2 := h
      cases h
      exact ⟨Nat.le_refl _, hs, Nat.le_refl _, EXT.rf⟩
section STP
variable {g : Nat → Nat} {n s s2 : Nat} {κ : CT}
theorem isW_nx {t : List Nat} (h : isW g n s t = true) (ht : 0 < t.length) : s < n ∧ s + t.length ≤ nxp g n s ∧ nxp g n s ≤ n := by
  have z := of_decide_eq_true h
  have k := kd2_pe z.1
  have p := pep_le (g := g) (n := n) (s := s) (Nat.le_of_lt k.1)
  have q := scp_ge (p := isB) (g := g) (n := n) (i := pep g n s) p
  have q2 := scp_le (p := isB) (g := g) (n := n) (i := pep g n s) p
  refine ⟨k.1, ?_, q2⟩
  unfold nxp
  omega
theorem tX_q {hi : Nat} {r : RST} (h : (tX g n hi r).2 = .inl s2) : ∃ s, r = .inl s ∧ s < s2 ∧ (s ≤ n → s2 ≤ n) ∧ (tX g n hi r).1 < hi := by
  obtain ⟨s, e⟩ := tkN_ok h
  subst e
  have p := tkN_q h
  exact ⟨s, rfl, p.1, p.2, lt_of_m1 (tkN_b h).2⟩
theorem tH_q {r : RST} (h : (tH g n r).2 = .inl s2) : ∃ s, r = .inl s ∧ s < s2 ∧ (s ≤ n → s2 ≤ n) ∧ 1 ≤ (tH g n r).1 ∧ (tH g n r).1 ≤ 9 := by
  obtain ⟨s, e⟩ := tkN_ok h
  subst e
  have p := tkN_q h
  have b := tkN_b h
  exact ⟨s, rfl, p.1, p.2, b.1, Int.ofNat_le.mp b.2⟩
theorem tx1_q {h1 : Nat} (h : (tx1 g n h1 s).2 = .inl s2) : nxp g n s < s2 ∧ (nxp g n s ≤ n → s2 ≤ n) ∧ (tx1 g n h1 s).1 < h1 := by
  obtain ⟨s3, e, a, b, c⟩ := tX_q h
  cases e
  exact ⟨a, b, c⟩
theorem tx2_q {h1 h2 : Nat} (h : (tx2 g n h1 h2 s).2 = .inl s2) : nxp g n s + 1 < s2 ∧ (nxp g n s ≤ n → s2 ≤ n) ∧ (tx1 g n h1 s).1 < h1 ∧ (tx2 g n h1 h2 s).1 < h2 := by
  obtain ⟨s3, e, a, b, c⟩ := tX_q h
  have p := tx1_q e
  exact ⟨by omega, fun z => b (p.2.1 z), p.2.2, c⟩
theorem tx3_q {h1 h2 : Nat} (h : (tx3 g n h1 h2 s).2 = .inl s2) : nxp g n s + 2 < s2 ∧ (nxp g n s ≤ n → s2 ≤ n) ∧ (tx1 g n h1 s).1 < h1 ∧ (tx2 g n h1 h2 s).1 < h2 ∧ 1 ≤ (tx3 g n h1 h2 s).1 ∧ (tx3 g n h1 h2 s).1 ≤ 9 := by
  obtain ⟨s3, e, a, b, c⟩ := tH_q h
  have p := tx2_q e
  exact ⟨by omega, fun z => b (p.2.1 z), p.2.2.1, p.2.2.2, c⟩
theorem kst_w (h : kst g n s < 6) : isW g n s (if kst g n s = 0 then tCall else if kst g n s = 1 then tLead else if kst g n s = 2 then tPut else if kst g n s = 3 then tNote else if kst g n s = 4 then tMinu else tAgai) = true := by
  unfold kst at h ⊢
  by_cases e1 : isW g n s tCall = true
  · rw [if_pos e1]; exact e1
  rw [if_neg e1] at h ⊢
  by_cases e2 : isW g n s tLead = true
  · rw [if_pos e2]; exact e2
  rw [if_neg e2] at h ⊢
  by_cases e3 : isW g n s tPut = true
  · rw [if_pos e3]; exact e3
  rw [if_neg e3] at h ⊢
  by_cases e4 : isW g n s tNote = true
  · rw [if_pos e4]; exact e4
  rw [if_neg e4] at h ⊢
  by_cases e5 : isW g n s tMinu = true
  · rw [if_pos e5]; exact e5
  rw [if_neg e5] at h ⊢
  by_cases e6 : isW g n s tAgai = true
  · rw [if_pos e6]; exact e6
  rw [if_neg e6] at h
  exact absurd h (by decide)
theorem kst_3 (h : kst g n s < 6) : s < n ∧ s + 3 ≤ nxp g n s ∧ nxp g n s ≤ n := by
  have w := kst_w h
  have l : 3 ≤ (if kst g n s = 0 then tCall else if kst g n s = 1 then tLead else if kst g n s = 2 then tPut else if kst g n s = 3 then tNote else if kst g n s = 4 then tMinu else tAgai).length := by
    (repeat' split) <;> decide
  have z := isW_nx w (by omega)
  omega
theorem stpT_0 (sub : WX → WX) (o : Nat) (P : PL) (h : kst g n s = 0) : stpT g n κ sub o P s = stCall g n κ P s := if_pos h
theorem stpT_1 (sub : WX → WX) (o : Nat) (P : PL) (h : kst g n s = 1) : stpT g n κ sub o P s = stLead g n κ P s := (if_neg (by omega)).trans (if_pos h)
theorem stpT_2 (sub : WX → WX) (o : Nat) (P : PL) (h : kst g n s = 2) : stpT g n κ sub o P s = stPut g n κ P s := (if_neg (by omega)).trans ((if_neg (by omega)).trans (if_pos h))
theorem stpT_3 (sub : WX → WX) (o : Nat) (P : PL) (h : kst g n s = 3) : stpT g n κ sub o P s = stNote g n κ P s := (if_neg (by omega)).trans ((if_neg (by omega)).trans ((if_neg (by omega)).trans (if_pos h)))
theorem stpT_4 (sub : WX → WX) (o : Nat) (P : PL) (h : kst g n s = 4) : stpT g n κ sub o P s = stMin g n P s := (if_neg (by omega)).trans ((if_neg (by omega)).trans ((if_neg (by omega)).trans ((if_neg (by omega)).trans (if_pos h))))
theorem stpT_5 (sub : WX → WX) (o : Nat) (P : PL) (h : kst g n s = 5) : stpT g n κ sub o P s = if 0 < o then stAgn g n sub P s else (P, .inr (3, s)) := (if_neg (by omega)).trans ((if_neg (by omega)).trans ((if_neg (by omega)).trans ((if_neg (by omega)).trans ((if_neg (by omega)).trans (if_pos h)))))
theorem stpT_6 (sub : WX → WX) (o : Nat) (P : PL) (h : ¬ kst g n s < 6) : stpT g n κ sub o P s = (P, .inr (1, s)) := (if_neg (by omega)).trans ((if_neg (by omega)).trans ((if_neg (by omega)).trans ((if_neg (by omega)).trans ((if_neg (by omega)).trans (if_neg (by omega))))))
theorem bas_new {P : PL} {k a b c : Nat} (h : (k = 0 ∧ a < κ.nc ∧ b < κ.nb) ∨ (k = 1 ∧ a < κ.nc ∧ b < κ.nb ∧ c ≤ 9) ∨ (k = 2 ∧ a < κ.nc ∧ b < κ.ns ∧ c ≤ 9) ∨ (k = 3 ∧ a < κ.ns) ∨ k = 4) : bas κ (addS P k a b c) P.m := by
  show (put P.k P.m k P.m = 0 ∧ put P.a P.m a P.m < κ.nc ∧ put P.b P.m b P.m < κ.nb) ∨ (put P.k P.m k P.m = 1 ∧ put P.a P.m a P.m < κ.nc ∧ put P.b P.m b P.m < κ.nb ∧ put P.c P.m c P.m ≤ 9) ∨ (put P.k P.m k P.m = 2 ∧ put P.a P.m a P.m < κ.nc ∧ put P.b P.m b P.m < κ.ns ∧ put P.c P.m c P.m ≤ 9) ∨ (put P.k P.m k P.m = 3 ∧ put P.a P.m a P.m < κ.ns) ∨ put P.k P.m k P.m = 4
  rw [put_s, put_s, put_s, put_s]
  exact h
end STP
theorem stpT_pg {g : Nat → Nat} {n o : Nat} {κ : CT} {sub : WX → WX} (ps : 0 < o → ∀ P s s2, s ≤ n → (sub (P, .inl s)).2 = .inl s2 → s ≤ s2 ∧ s2 ≤ n ∧ 4 * (sub (P, .inl s)).1.m + s ≤ 4 * P.m + s2 ∧ EXT κ (o - 1) P (sub (P, .inl s)).1) (pb : 0 < o → ∀ P q, sub (P, .inr q) = (P, .inr q)) : PGw n κ o (sgs g n (stpT g n κ sub o)) := by
  intro P s s2 hs h
  obtain ⟨s3, e3, h3, h4⟩ := tkS_q (show tkS g n 59 (stpT g n κ sub o P s).2 = .inl s2 from h)
  suffices z : nxp g n s ≤ s3 ∧ s3 ≤ n ∧ (4 * (stpT g n κ sub o P s).1.m + s + 1 ≤ 4 * P.m + s3) ∧ s < s3 ∧ EXT κ o P (stpT g n κ sub o P s).1 by
    refine ⟨by omega, h4 z.2.1, ?_, z.2.2.2.2⟩
    show 4 * (stpT g n κ sub o P s).1.m + s ≤ _
    omega
  by_cases k6 : kst g n s < 6
  · have w := kst_3 k6
    have k7 : kst g n s = 0 ∨ kst g n s = 1 ∨ kst g n s = 2 ∨ kst g n s = 3 ∨ kst g n s = 4 ∨ kst g n s = 5 := by omega
    rcases k7 with k | k | k | k | k | k
    · rw [stpT_0 sub o P k] at e3 ⊢
      have p := tx2_q (show (tx2 g n κ.nc κ.nb s).2 = .inl s3 from e3)
      exact ⟨by omega, p.2.1 w.2.2, by show 4 * (P.m + 1) + s + 1 ≤ _; omega, by omega, EXT.add (bas_new (Or.inl ⟨rfl, p.2.2.1, p.2.2.2⟩))⟩
    · rw [stpT_1 sub o P k] at e3 ⊢
      have p := tx3_q (show (tx3 g n κ.nc κ.nb s).2 = .inl s3 from e3)
      exact ⟨by omega, p.2.1 w.2.2, by show 4 * (P.m + 1) + s + 1 ≤ _; omega, by omega, EXT.add (bas_new (Or.inr (Or.inl ⟨rfl, p.2.2.1, p.2.2.2.1, p.2.2.2.2.2⟩)))⟩
    · rw [stpT_2 sub o P k] at e3 ⊢
      have p := tx3_q (show (tx3 g n κ.nc κ.ns s).2 = .inl s3 from e3)
      exact ⟨by omega, p.2.1 w.2.2, by show 4 * (P.m + 1) + s + 1 ≤ _; omega, by omega, EXT.add (bas_new (Or.inr (Or.inr (Or.inl ⟨rfl, p.2.2.1, p.2.2.2.1, p.2.2.2.2.2⟩))))⟩
    · rw [stpT_3 sub o P k] at e3 ⊢
      have p := tx1_q (show (tx1 g n κ.ns s).2 = .inl s3 from e3)
      have w4 : s + 4 ≤ nxp g n s := by
        have z := kst_w k6
        rw [if_neg (by omega), if_neg (by omega), if_neg (by omega), if_pos k] at z
        exact (isW_nx z (by decide)).2.1
      exact ⟨by omega, p.2.1 w.2.2, by show 4 * (P.m + 1) + s + 1 ≤ _; omega, by omega, EXT.add (bas_new (Or.inr (Or.inr (Or.inr (Or.inl ⟨rfl, p.2.2⟩)))))⟩
    · rw [stpT_4 sub o P k] at e3 ⊢
      have e3 : (Sum.inl (nxp g n s) : RST) = .inl s3 := e3
      cases e3
      have w4 : s + 6 ≤ nxp g n s := by
        have z := kst_w k6
        rw [if_neg (by omega), if_neg (by omega), if_neg (by omega), if_neg (by omega), if_pos k] at z
        exact (isW_nx z (by decide)).2.1
      exact ⟨Nat.le_refl _, w.2.2, by show 4 * (P.m + 1) + s + 1 ≤ _; omega, by omega, EXT.add (bas_new (Or.inr (Or.inr (Or.inr (Or.inr rfl)))))⟩
    · rw [stpT_5 sub o P k] at e3 ⊢
      by_cases ho : 0 < o
      · rw [if_pos ho] at e3 ⊢
        obtain ⟨s4, e4, h5, h6⟩ := tkS_q (show tkS g n 93 (sub (agX g n P s)).2 = .inl s3 from e3)
        cases e5 : (agX g n P s).2 with
        | inr q =>
          have e6 : agX g n P s = ((agX g n P s).1, .inr q) := by rw [← e5]
          rw [e6, pb ho] at e4
          exact inr_ne e4
        | inl s5 =>
          have e6 : agX g n P s = (addS P 5 (agT g n s).1 0 0, .inl s5) := by rw [← e5]; rfl
          obtain ⟨s6, e7, h7, h8⟩ := tkS_q (show tkS g n 91 (agT g n s).2 = .inl s5 from e5)
          have p := tkN_q (show (tkN g n 0 ((40 : Nat) : Int) (.inl (nxp g n s))).2 = .inl s6 from e7)
          have b := tkN_b (show (tkN g n 0 ((40 : Nat) : Int) (.inl (nxp g n s))).2 = .inl s6 from e7)
          have s5n := h8 (p.2 w.2.2)
          rw [e6] at e4
          have r := ps ho _ s5 s4 s5n e4
          have rm : 4 * (sub (addS P 5 (agT g n s).1 0 0, .inl s5)).1.m + s5 ≤ 4 * (P.m + 1) + s4 := r.2.2.1
          have x := r.2.2.2.agn (Int.ofNat_le.mp b.2)
          rw [show o - 1 + 1 = o by omega] at x
          unfold stAgn
          rw [e6]
          exact ⟨by omega, h6 r.2.1, by show 4 * (sub (addS P 5 (agT g n s).1 0 0, .inl s5)).1.m + s + 1 ≤ _; omega, by omega, x⟩
      · rw [if_neg ho] at e3
        exact inr_ne e3
  · rw [stpT_6 sub o P k6] at e3
    exact inr_ne e3
theorem stT_pg {g : Nat → Nat} {n : Nat} {κ : CT} : ∀ o, PGw n κ o (sgs g n (stT g n κ o))
  | 0 => stpT_pg (sub := fun x => x) (o := 0) (fun h => absurd h (Nat.lt_irrefl 0)) (fun h => absurd h (Nat.lt_irrefl 0))
  | o + 1 => stpT_pg (o := o + 1) (fun _ P s s2 hs e => stps_pg (stT_pg o) 150 P s s2 hs e) (fun _ P q => stps_bad)
theorem wrkT_ok {g : Nat → Nat} {n s s2 : Nat} {κ : CT} (hs : s ≤ n) (h : (wrkT g n κ s).2 = .inl s2) : s2 ≤ n ∧ 4 * (wrkT g n κ s).1.m ≤ n ∧ blk κ (wrkT g n κ s).1 6 0 (wrkT g n κ s).1.m := by
  have p := stps_pg (e := enN) (stT_pg (g := g) (κ := κ) 6) 150 pl0 s s2 hs h
  have a : 4 * (wrkT g n κ s).1.m + s ≤ 4 * 0 + s2 := p.2.2.1
  exact ⟨p.2.1, by omega, p.2.2.2.2.2⟩


