/-! Signs and words with or without a fault; a clause of a COURT as one value. -/
def seN (g : Nat → Nat) (n : Nat) (r : RST) : Bool := match r with
  | .inl s => decide (kdp g n s = 1)
  | .inr _ => false
def seS (g : Nat → Nat) (n c : Nat) (r : RST) : Bool := match r with
  | .inl s => decide (kdp g n s = 3 ∧ g s = c)
  | .inr _ => false
def seW (g : Nat → Nat) (n : Nat) (t : List Nat) (r : RST) : Bool := match r with
  | .inl s => isW g n s t
  | .inr _ => false
def mor (n : Nat) (r : RST) : Bool := match r with
  | .inl s => decide (s < n)
  | .inr _ => false
section RS
variable {d : Nat} {I : Nat → Nat → Int32} {J : Nat → Nat → Int64} {g : Nat → Nat} {n : Nat} {r : RST}
theorem c_more (rd : RD g n r I) (hd : 1 ≤ d) : RV d 81 [.ref 1] I J (bI (mor n r)) := by
  cases r with
  | inl s => exact c_moreG rd hd
  | inr q => obtain ⟨k, f⟩ := q; exact c_moreB (show RB n k f I from rd) hd
theorem c_seesN (rd : RD g n r I) (hd : 1 ≤ d) : RV d 82 [.ref 1] I J (bI (seN g n r)) := by
  cases r with
  | inl s => exact c_seesNG rd hd
  | inr q => obtain ⟨k, f⟩ := q; exact c_seesNB (show RB n k f I from rd) hd
theorem c_seesS (rd : RD g n r I) (gb : ∀ j, g j < 256) {c : Nat} (hc2 : c < 256) (hd : 1 ≤ d) : RV d 83 [.ref 1, .int (nI c)] I J (bI (seS g n c r)) := by
  cases r with
  | inl s => exact c_seesSG rd gb hc2 hd
  | inr q => obtain ⟨k, f⟩ := q; exact c_seesSB (show RB n k f I from rd) hd
theorem c_word (tp : ∀ j, j < 600 → I 3 j = nI (g j)) (gb : ∀ j, g j < 256) (hn : n ≤ 600) (rd : RD g n r I) {k : Nat} {t : List Nat} (ht : TXS[k]? = some t) (tl : t.length < 100) (lt : ltr t) (hd : 2 ≤ d) : RV d 84 [.ref 1, .ref (spc + 1 + k)] I J (bI (seW g n t r)) := by
  cases r with
  | inl s => exact c_wordG tp gb hn rd ht tl lt hd
  | inr q => obtain ⟨k2, f⟩ := q; exact c_wordB (show RB n k2 f I from rd) (by omega)
theorem c_fail (rd : RD g n r I) {k : Nat} (hk : 1 ≤ k) (hk3 : k ≤ 3) (hd : 1 ≤ d) : RU d 88 [.ref 1, .int (nI k)] I J (fun I' => RD g n (rfail k r) I' ∧ RO I I') := by
  cases r with
  | inl s =>
    obtain ⟨I', e, h⟩ := c_failG (J := J) rd hk hk3 hd
    exact ⟨I', e, h⟩
  | inr q =>
    obtain ⟨k2, f⟩ := q
    have rd2 : RB n k2 f I := rd
    obtain ⟨I', e, h⟩ := c_failB (J := J) (x := nI k) rd2 hd
    subst e
    exact ⟨_, ⟨rd2, RO.rf⟩, h⟩
end RS
theorem tp_fr {I I' : Nat → Nat → Int32} {g : Nat → Nat} (tp : ∀ j, j < 600 → I 3 j = nI (g j)) (e : I' 3 = I 3) : ∀ j, j < 600 → I' 3 j = nI (g j) := fun j hj => (congrFun e j).trans (tp j hj)
theorem tp_fm {I I' : Nat → Nat → Int32} {g : Nat → Nat} (tp : ∀ j, j < 600 → I 108 j = nI (g j)) (e : I' 108 = I 108) : ∀ j, j < 600 → I' 108 j = nI (g j) := fun j hj => (congrFun e j).trans (tp j hj)
/-- numbers within the bounds of a court, wherever they stand -/
def CU (κ : CT) : Prop := (∀ j, κ.sm j ≤ 99) ∧ (∀ j, κ.ss j ≤ 1) ∧ (∀ j, κ.sw j ≤ 60) ∧ (∀ j, κ.bm j ≤ 99) ∧ (∀ j, κ.bs j ≤ 20) ∧ (∀ j, κ.cc j ≤ 40) ∧ (∀ j, κ.cs j ≤ 9)
theorem CU.sm {κ : CT} (h_ : CU κ) : ∀ j, κ.sm j ≤ 99 := h_.1
theorem CU.ss {κ : CT} (h_ : CU κ) : ∀ j, κ.ss j ≤ 1 := h_.2.1
theorem CU.sw {κ : CT} (h_ : CU κ) : ∀ j, κ.sw j ≤ 60 := h_.2.2.1
theorem CU.bm {κ : CT} (h_ : CU κ) : ∀ j, κ.bm j ≤ 99 := h_.2.2.2.1
theorem CU.bs {κ : CT} (h_ : CU κ) : ∀ j, κ.bs j ≤ 20 := h_.2.2.2.2.1
theorem CU.cc {κ : CT} (h_ : CU κ) : ∀ j, κ.cc j ≤ 40 := h_.2.2.2.2.2.1
theorem CU.cs {κ : CT} (h_ : CU κ) : ∀ j, κ.cs j ≤ 9 := h_.2.2.2.2.2.2
def put (f : Nat → Nat) (k v : Nat) : Nat → Nat := fun j => if j = k then v else f j
theorem put_s {f : Nat → Nat} {k v : Nat} : put f k v k = v := if_pos rfl
theorem put_n {f : Nat → Nat} {k v j : Nat} (h : j ≠ k) : put f k v j = f j := if_neg h
theorem put_le {f : Nat → Nat} {k v b : Nat} (h : ∀ j, f j ≤ b) (hv : v ≤ b) : ∀ j, put f k v j ≤ b := fun j => by unfold put; split; exact hv; exact h j
def addSay (κ : CT) (x y z : Nat) : CT := CT.mk (κ.ns + 1) κ.nr κ.nb κ.nc (put κ.sm κ.ns x) (put κ.ss κ.ns y) (put κ.sw κ.ns z) κ.r1 κ.r2 κ.r3 κ.bm κ.bs κ.cc κ.cs
def addRul (κ : CT) (x y z : Nat) : CT := CT.mk κ.ns (κ.nr + 1) κ.nb κ.nc κ.sm κ.ss κ.sw (put κ.r1 κ.nr x) (put κ.r2 κ.nr y) (put κ.r3 κ.nr z) κ.bm κ.bs κ.cc κ.cs
def addBir (κ : CT) (x y : Nat) : CT := CT.mk κ.ns κ.nr (κ.nb + 1) κ.nc κ.sm κ.ss κ.sw κ.r1 κ.r2 κ.r3 (put κ.bm κ.nb x) (put κ.bs κ.nb y) κ.cc κ.cs
def addCou (κ : CT) (x y : Nat) : CT := CT.mk κ.ns κ.nr κ.nb (κ.nc + 1) κ.sm κ.ss κ.sw κ.r1 κ.r2 κ.r3 κ.bm κ.bs (put κ.cc κ.nc x) (put κ.cs κ.nc y)
theorem CU.say {κ : CT} (h : CU κ) {x y z : Nat} (h1 : x ≤ 99) (h2 : y ≤ 1) (h3 : z ≤ 60) : CU (addSay κ x y z) := ⟨put_le h.sm h1, put_le h.ss h2, put_le h.sw h3, h.bm, h.bs, h.cc, h.cs⟩
theorem CU.rul {κ : CT} (h : CU κ) {x y z : Nat} : CU (addRul κ x y z) := ⟨h.sm, h.ss, h.sw, h.bm, h.bs, h.cc, h.cs⟩
theorem CU.bir {κ : CT} (h : CU κ) {x y : Nat} (h1 : x ≤ 99) (h2 : y ≤ 20) : CU (addBir κ x y) := ⟨h.sm, h.ss, h.sw, put_le h.bm h1, put_le h.bs h2, h.cc, h.cs⟩
theorem CU.cou {κ : CT} (h : CU κ) {x y : Nat} (h1 : x ≤ 40) (h2 : y ≤ 9) : CU (addCou κ x y) := ⟨h.sm, h.ss, h.sw, h.bm, h.bs, put_le h.cc h1, put_le h.cs h2⟩
theorem CB.u {κ : CT} (h : CB κ) : CU κ := ⟨h.sm, h.ss, h.sw, h.bm, h.bs, h.cc, h.cs⟩
theorem CB.say {κ : CT} (h : CB κ) (hk : κ.ns < 9) {x y z : Nat} (h1 : x ≤ 99) (h2 : y ≤ 1) (h3 : z ≤ 60) : CB (addSay κ x y z) := ⟨hk, h.nr, h.nb, h.nc, put_le h.sm h1, put_le h.ss h2, put_le h.sw h3, fun j hj => Nat.lt_succ_of_lt (h.r1 j hj), fun j hj => Nat.lt_succ_of_lt (h.r2 j hj), fun j hj => Nat.lt_succ_of_lt (h.r3 j hj), h.bm, h.bs, h.bs1, h.cc, h.cs⟩
theorem put_lt {f : Nat → Nat} {k v b j : Nat} (h : ∀ j, j < k → f j < b) (hv : v < b) (hj : j < k + 1) : put f k v j < b := by
  unfold put
  split
  · exact hv
  · exact h j (by omega)
theorem CB.rul {κ : CT} (h : CB κ) (hk : κ.nr < 12) {x y z : Nat} (h1 : x < κ.ns) (h2 : y < κ.ns) (h3 : z < κ.ns) : CB (addRul κ x y z) := ⟨h.ns, hk, h.nb, h.nc, h.sm, h.ss, h.sw, fun j hj => put_lt h.r1 h1 hj, fun j hj => put_lt h.r2 h2 hj, fun j hj => put_lt h.r3 h3 hj, h.bm, h.bs, h.bs1, h.cc, h.cs⟩
theorem CB.bir {κ : CT} (h : CB κ) (hk : κ.nb < 4) {x y : Nat} (h1 : x ≤ 99) (h2 : 1 ≤ y) (h3 : y ≤ 20) : CB (addBir κ x y) := ⟨h.ns, h.nr, hk, h.nc, h.sm, h.ss, h.sw, h.r1, h.r2, h.r3, put_le h.bm h1, put_le h.bs h3, fun j hj => by
    have hj : j < κ.nb + 1 := hj
    show 1 ≤ put κ.bs κ.nb y j
    unfold put
    split
    · exact h2
    · exact h.bs1 j (by omega), h.cc, h.cs⟩
theorem CB.cou {κ : CT} (h : CB κ) (hk : κ.nc < 4) {x y : Nat} (h1 : x ≤ 40) (h2 : y ≤ 9) : CB (addCou κ x y) := ⟨h.ns, h.nr, h.nb, hk, h.sm, h.ss, h.sw, h.r1, h.r2, h.r3, h.bm, h.bs, h.bs1, put_le h.cc h1, put_le h.cs h2⟩
/-- which clause begins at s -/
def kcl (g : Nat → Nat) (n s : Nat) : Nat := if isW g n s tSay = true then 1 else if isW g n s tSo = true then 2 else if isW g n s tBird = true then 3 else if isW g n s tCoun = true then 4 else 0
theorem kcl_5 {g : Nat → Nat} {n s : Nat} : kcl g n s = 0 ∨ kcl g n s = 1 ∨ kcl g n s = 2 ∨ kcl g n s = 3 ∨ kcl g n s = 4 := by unfold kcl; (repeat' split) <;> omega
def tSa (g : Nat → Nat) (n s : Nat) : (Nat × Nat × Nat) × RST := tk3 g n 0 ((99 : Nat) : Int) 0 ((1 : Nat) : Int) 0 ((60 : Nat) : Int) (.inl (nxp g n s))
def tRu (g : Nat → Nat) (n : Nat) (κ : CT) (s : Nat) : (Nat × Nat × Nat) × RST := tk3 g n 0 ((κ.ns : Int) - ((1 : Nat) : Int)) 0 ((κ.ns : Int) - ((1 : Nat) : Int)) 0 ((κ.ns : Int) - ((1 : Nat) : Int)) (.inl (nxp g n s))
def tBi (g : Nat → Nat) (n s : Nat) : (Nat × Nat) × RST := tk2 g n 0 ((99 : Nat) : Int) 1 ((20 : Nat) : Int) (.inl (nxp g n s))
def tCo (g : Nat → Nat) (n s : Nat) : (Nat × Nat) × RST := tk2 g n 0 ((40 : Nat) : Int) 0 ((9 : Nat) : Int) (.inl (nxp g n s))
def clsT (g : Nat → Nat) (n : Nat) (κ : CT) (s : Nat) : CT × RST :=
  if kcl g n s = 1 then (if κ.ns < 9 then (addSay κ (tSa g n s).1.1 (tSa g n s).1.2.1 (tSa g n s).1.2.2, (tSa g n s).2) else (κ, .inr (3, s))) else
  if kcl g n s = 2 then (if κ.nr < 12 then (addRul κ (tRu g n κ s).1.1 (tRu g n κ s).1.2.1 (tRu g n κ s).1.2.2, (tRu g n κ s).2) else (κ, .inr (3, s))) else
  if kcl g n s = 3 then (if κ.nb < 4 then (addBir κ (tBi g n s).1.1 (tBi g n s).1.2, (tBi g n s).2) else (κ, .inr (3, s))) else
  if kcl g n s = 4 then (if κ.nc < 4 then (addCou κ (tCo g n s).1.1 (tCo g n s).1.2, (tCo g n s).2) else (κ, .inr (3, s))) else
  (κ, .inr (1, s))
section CLT
variable {g : Nat → Nat} {n s : Nat} {κ : CT}
theorem clsT_1 (k : kcl g n s = 1) (h : κ.ns < 9) : clsT g n κ s = (addSay κ (tSa g n s).1.1 (tSa g n s).1.2.1 (tSa g n s).1.2.2, (tSa g n s).2) := (if_pos k).trans (if_pos h)
theorem clsT_1x (k : kcl g n s = 1) (h : ¬ κ.ns < 9) : clsT g n κ s = (κ, .inr (3, s)) := (if_pos k).trans (if_neg h)
theorem clsT_2 (k : kcl g n s = 2) (h : κ.nr < 12) : clsT g n κ s = (addRul κ (tRu g n κ s).1.1 (tRu g n κ s).1.2.1 (tRu g n κ s).1.2.2, (tRu g n κ s).2) := (if_neg (by omega)).trans ((if_pos k).trans (if_pos h))
theorem clsT_2x (k : kcl g n s = 2) (h : ¬ κ.nr < 12) : clsT g n κ s = (κ, .inr (3, s)) := (if_neg (by omega)).trans ((if_pos k).trans (if_neg h))
theorem clsT_3 (k : kcl g n s = 3) (h : κ.nb < 4) : clsT g n κ s = (addBir κ (tBi g n s).1.1 (tBi g n s).1.2, (tBi g n s).2) := (if_neg (by omega)).trans ((if_neg (by omega)).trans ((if_pos k).trans (if_pos h)))
theorem clsT_3x (k : kcl g n s = 3) (h : ¬ κ.nb < 4) : clsT g n κ s = (κ, .inr (3, s)) := (if_neg (by omega)).trans ((if_neg (by omega)).trans ((if_pos k).trans (if_neg h)))
theorem clsT_4 (k : kcl g n s = 4) (h : κ.nc < 4) : clsT g n κ s = (addCou κ (tCo g n s).1.1 (tCo g n s).1.2, (tCo g n s).2) := (if_neg (by omega)).trans ((if_neg (by omega)).trans ((if_neg (by omega)).trans ((if_pos k).trans (if_pos h))))
theorem clsT_4x (k : kcl g n s = 4) (h : ¬ κ.nc < 4) : clsT g n κ s = (κ, .inr (3, s)) := (if_neg (by omega)).trans ((if_neg (by omega)).trans ((if_neg (by omega)).trans ((if_pos k).trans (if_neg h))))
theorem clsT_0 (k : kcl g n s = 0) : clsT g n κ s = (κ, .inr (1, s)) := (if_neg (by omega)).trans ((if_neg (by omega)).trans ((if_neg (by omega)).trans (if_neg (by omega))))
end CLT
def clsS (g : Nat → Nat) (n : Nat) (κ : CT) (s : Nat) : CT × RST := ((clsT g n κ s).1, tkS g n 59 (clsT g n κ s).2)
def nall (κ : CT) : Nat := κ.ns + κ.nr + κ.nb + κ.nc
def ctsS (g : Nat → Nat) (n : Nat) : Nat → CT → Nat → CT × RST
  | 0, κ, s => (κ, .inl s)
  | f + 1, κ, s => if s < n then (match clsS g n κ s with
    | (κ2, .inl s2) => ctsS g n f κ2 s2
    | (κ2, .inr q) => (κ2, .inr q)) else (κ, .inl s)
theorem ctsS_go {g : Nat → Nat} {n f s s2 : Nat} {κ : CT} (h : s < n) (e : (clsS g n κ s).2 = .inl s2) : ctsS g n (f + 1) κ s = ctsS g n f (clsS g n κ s).1 s2 := by
  have e2 : clsS g n κ s = ((clsS g n κ s).1, .inl s2) := by rw [← e]
  show (if s < n then _ else _) = _
  rw [if_pos h, e2]
theorem ctsS_bad {g : Nat → Nat} {n f s : Nat} {q : Nat × Nat} {κ : CT} (h : s < n) (e : (clsS g n κ s).2 = .inr q) : (ctsS g n (f + 1) κ s).2 = .inr q := by
  have e2 : clsS g n κ s = ((clsS g n κ s).1, .inr q) := by rw [← e]
  show (if s < n then _ else _ : CT × RST).2 = _
  rw [if_pos h, e2]
theorem ctsS_end {g : Nat → Nat} {n f s : Nat} {κ : CT} (h : n ≤ s) : ctsS g n f κ s = (κ, .inl s) := by
  cases f with
  | zero => rfl
  | succ f =>
    show (if s < n then _ else _) = _
    rw [if_neg (by omega)]
theorem tk3_b {g : Nat → Nat} {n a1 a2 a3 s2 : Nat} {b1 b2 b3 : Int} {r : RST} (h : (tk3 g n a1 b1 a2 b2 a3 b3 r).2 = .inl s2) : (a1 ≤ (tk3 g n a1 b1 a2 b2 a3 b3 r).1.1 ∧ ((tk3 g n a1 b1 a2 b2 a3 b3 r).1.1 : Int) ≤ b1) ∧ (a2 ≤ (tk3 g n a1 b1 a2 b2 a3 b3 r).1.2.1 ∧ ((tk3 g n a1 b1 a2 b2 a3 b3 r).1.2.1 : Int) ≤ b2) ∧ (a3 ≤ (tk3 g n a1 b1 a2 b2 a3 b3 r).1.2.2 ∧ ((tk3 g n a1 b1 a2 b2 a3 b3 r).1.2.2 : Int) ≤ b3) := by
  have h3 : (tkN g n a3 b3 (tkN g n a2 b2 (tkN g n a1 b1 r).2).2).2 = .inl s2 := h
  obtain ⟨y, hy⟩ := tkN_ok h3
  obtain ⟨x, hx⟩ := tkN_ok hy
  exact ⟨tkN_b hx, tkN_b hy, tkN_b h3⟩
theorem tk2_b {g : Nat → Nat} {n a1 a2 s2 : Nat} {b1 b2 : Int} {r : RST} (h : (tk2 g n a1 b1 a2 b2 r).2 = .inl s2) : (a1 ≤ (tk2 g n a1 b1 a2 b2 r).1.1 ∧ ((tk2 g n a1 b1 a2 b2 r).1.1 : Int) ≤ b1) ∧ (a2 ≤ (tk2 g n a1 b1 a2 b2 r).1.2 ∧ ((tk2 g n a1 b1 a2 b2 r).1.2 : Int) ≤ b2) := by
  have h3 : (tkN g n a2 b2 (tkN g n a1 b1 r).2).2 = .inl s2 := h
  obtain ⟨x, hx⟩ := tkN_ok h3
  exact ⟨tkN_b hx, tkN_b h3⟩
theorem inr_ne {q : Nat × Nat} {s : Nat} {p : Prop} (h : (Sum.inr q : RST) = .inl s) : p := by cases h
theorem tk3_e {g : Nat → Nat} {n a1 a2 a3 x y w s2 : Nat} {b1 b2 b3 : Int} {r : RST} (h1 : ∀ s2, (tkN g n a1 b1 r).2 = .inl s2 → x = (tkN g n a1 b1 r).1) (h2 : ∀ s2, (tkN g n a2 b2 (tkN g n a1 b1 r).2).2 = .inl s2 → y = (tkN g n a2 b2 (tkN g n a1 b1 r).2).1) (h3 : ∀ s2, (tkN g n a3 b3 (tkN g n a2 b2 (tkN g n a1 b1 r).2).2).2 = .inl s2 → w = (tkN g n a3 b3 (tkN g n a2 b2 (tkN g n a1 b1 r).2).2).1) (z : (tk3 g n a1 b1 a2 b2 a3 b3 r).2 = .inl s2) : (x, y, w) = (tk3 g n a1 b1 a2 b2 a3 b3 r).1 := by
  have z3 : (tkN g n a3 b3 (tkN g n a2 b2 (tkN g n a1 b1 r).2).2).2 = .inl s2 := z
  obtain ⟨sy, hy⟩ := tkN_ok z3
  obtain ⟨sx, hx⟩ := tkN_ok hy
  rw [h1 sx hx, h2 sy hy, h3 s2 z3]
  rfl
theorem tk2_e {g : Nat → Nat} {n a1 a2 x y s2 : Nat} {b1 b2 : Int} {r : RST} (h1 : ∀ s2, (tkN g n a1 b1 r).2 = .inl s2 → x = (tkN g n a1 b1 r).1) (h2 : ∀ s2, (tkN g n a2 b2 (tkN g n a1 b1 r).2).2 = .inl s2 → y = (tkN g n a2 b2 (tkN g n a1 b1 r).2).1) (z : (tk2 g n a1 b1 a2 b2 r).2 = .inl s2) : (x, y) = (tk2 g n a1 b1 a2 b2 r).1 := by
  have z3 : (tkN g n a2 b2 (tkN g n a1 b1 r).2).2 = .inl s2 := z
  obtain ⟨sx, hx⟩ := tkN_ok z3
  rw [h1 sx hx, h2 s2 z3]
  rfl
section BND
variable {g : Nat → Nat} {n s s2 : Nat} {κ : CT}
theorem tSa_b (h : (tSa g n s).2 = .inl s2) : (tSa g n s).1.1 ≤ 99 ∧ (tSa g n s).1.2.1 ≤ 1 ∧ (tSa g n s).1.2.2 ≤ 60 := by
  have b := tk3_b (show (tk3 g n 0 ((99 : Nat) : Int) 0 ((1 : Nat) : Int) 0 ((60 : Nat) : Int) (.inl (nxp g n s))).2 = .inl s2 from h)
  exact ⟨Int.ofNat_le.mp b.1.2, Int.ofNat_le.mp b.2.1.2, Int.ofNat_le.mp b.2.2.2⟩
theorem lt_of_m1 {x m : Nat} (h : (x : Int) ≤ (m : Int) - ((1 : Nat) : Int)) : x < m := by omega
theorem tRu_b (h : (tRu g n κ s).2 = .inl s2) : (tRu g n κ s).1.1 < κ.ns ∧ (tRu g n κ s).1.2.1 < κ.ns ∧ (tRu g n κ s).1.2.2 < κ.ns := by
  have b := tk3_b (show (tk3 g n 0 ((κ.ns : Int) - ((1 : Nat) : Int)) 0 ((κ.ns : Int) - ((1 : Nat) : Int)) 0 ((κ.ns : Int) - ((1 : Nat) : Int)) (.inl (nxp g n s))).2 = .inl s2 from h)
  exact ⟨lt_of_m1 b.1.2, lt_of_m1 b.2.1.2, lt_of_m1 b.2.2.2⟩
theorem tBi_b (h : (tBi g n s).2 = .inl s2) : (tBi g n s).1.1 ≤ 99 ∧ 1 ≤ (tBi g n s).1.2 ∧ (tBi g n s).1.2 ≤ 20 := by
  have b := tk2_b (show (tk2 g n 0 ((99 : Nat) : Int) 1 ((20 : Nat) : Int) (.inl (nxp g n s))).2 = .inl s2 from h)
  exact ⟨Int.ofNat_le.mp b.1.2, b.2.1, Int.ofNat_le.mp b.2.2⟩
theorem tCo_b (h : (tCo g n s).2 = .inl s2) : (tCo g n s).1.1 ≤ 40 ∧ (tCo g n s).1.2 ≤ 9 := by
  have b := tk2_b (show (tk2 g n 0 ((40 : Nat) : Int) 0 ((9 : Nat) : Int) (.inl (nxp g n s))).2 = .inl s2 from h)
  exact ⟨Int.ofNat_le.mp b.1.2, Int.ofNat_le.mp b.2.2⟩
/-- a good clause: one thing more, within the bounds -/
theorem clsT_ok (cb : CB κ) (h : (clsT g n κ s).2 = .inl s2) : CB (clsT g n κ s).1 ∧ nall (clsT g n κ s).1 = nall κ + 1 := by
  rcases (kcl_5 : kcl g n s = 0 ∨ kcl g n s = 1 ∨ kcl g n s = 2 ∨ kcl g n s = 3 ∨ kcl g n s = 4) with k | k | k | k | k
  · rw [clsT_0 k] at h; exact inr_ne h
  · by_cases z : κ.ns < 9
    · rw [clsT_1 k z] at h ⊢
      have b := tSa_b h
      exact ⟨cb.say z b.1 b.2.1 b.2.2, show κ.ns + 1 + κ.nr + κ.nb + κ.nc = κ.ns + κ.nr + κ.nb + κ.nc + 1 by omega⟩
    · rw [clsT_1x k z] at h; exact inr_ne h
  · by_cases z : κ.nr < 12
    · rw [clsT_2 k z] at h ⊢
      have b := tRu_b h
      exact ⟨cb.rul z b.1 b.2.1 b.2.2, show κ.ns + (κ.nr + 1) + κ.nb + κ.nc = κ.ns + κ.nr + κ.nb + κ.nc + 1 by omega⟩
    · rw [clsT_2x k z] at h; exact inr_ne h
  · by_cases z : κ.nb < 4
    · rw [clsT_3 k z] at h ⊢
      have b := tBi_b h
      exact ⟨cb.bir z b.1 b.2.1 b.2.2, show κ.ns + κ.nr + (κ.nb + 1) + κ.nc = κ.ns + κ.nr + κ.nb + κ.nc + 1 by omega⟩
    · rw [clsT_3x k z] at h; exact inr_ne h
  · by_cases z : κ.nc < 4
    · rw [clsT_4 k z] at h ⊢
      have b := tCo_b h
      exact ⟨cb.cou z b.1 b.2, show κ.ns + κ.nr + κ.nb + (κ.nc + 1) = κ.ns + κ.nr + κ.nb + κ.nc + 1 by omega⟩
    · rw [clsT_4x k z] at h; exact inr_ne h
end BND
theorem clsS_ok {g : Nat → Nat} {n s s2 : Nat} {κ : CT} (cb : CB κ) (h : (clsS g n κ s).2 = .inl s2) : CB (clsS g n κ s).1 ∧ nall (clsS g n κ s).1 = nall κ + 1 := by
  obtain ⟨s3, h3⟩ := tkS_ok (show tkS g n 59 (clsT g n κ s).2 = .inl s2 from h)
  exact clsT_ok cb h3
theorem CB.all {κ : CT} (h : CB κ) : nall κ ≤ 29 := by
  have := h.ns; have := h.nr; have := h.nb; have := h.nc
  unfold nall
  omega
theorem isW_len {g : Nat → Nat} {n s : Nat} {t u : List Nat} (h : isW g n s t = true) (h2 : isW g n s u = true) : t.length = u.length := by
  have a := (of_decide_eq_true h).2.1
  have b := (of_decide_eq_true h2).2.1
  omega
theorem isW_xx {g : Nat → Nat} {n s : Nat} {t u : List Nat} (h : isW g n s t = true) (hl : ¬ t.length = u.length) : isW g n s u = false := by
  cases e : isW g n s u with
  | true => exact absurd (isW_len h e) hl
  | false => rfl
/-- the model's row of a clause -/
theorem rwo_k {g : Nat → Nat} {n s : Nat} (hs : s ≤ n) : rwo (wdv g n s) (isW g n s tCoun) = if kcl g n s = 0 then -1 else (kcl g n s : Int) := by
  have h1 := wdv_w (g := g) hs lSay (by decide)
  have h2 := wdv_w (g := g) hs lSo (by decide)
  have h3 := wdv_w (g := g) hs lBird (by decide)
  unfold rwo kcl
  cases e4 : isW g n s tCoun with
  | true =>
    rw [isW_xx e4 (by decide), isW_xx e4 (by decide), isW_xx e4 (by decide)]
    rfl
  | false =>
    rw [if_neg (by decide)]
    by_cases e1 : isW g n s tSay = true
    · rw [if_pos (h1.mpr e1), if_pos e1]; rfl
    · rw [if_neg (fun z => e1 (h1.mp z)), if_neg e1]
      by_cases e2 : isW g n s tSo = true
      · rw [if_pos (h2.mpr e2), if_pos e2]; rfl
      · rw [if_neg (fun z => e2 (h2.mp z)), if_neg e2]
        by_cases e3 : isW g n s tBird = true
        · rw [if_pos (h3.mpr e3), if_pos e3]; rfl
        · rw [if_neg (fun z => e3 (h3.mp z)), if_neg e3]; rfl
theorem kcl_w {g : Nat → Nat} {n s : Nat} (h : kcl g n s ≠ 0) : kdp g n s = 2 := by
  unfold kcl at h
  by_cases e1 : isW g n s tSay = true
  · exact (of_decide_eq_true e1).1
  · rw [if_neg e1] at h
    by_cases e2 : isW g n s tSo = true
    · exact (of_decide_eq_true e2).1
    · rw [if_neg e2] at h
      by_cases e3 : isW g n s tBird = true
      · exact (of_decide_eq_true e3).1
      · rw [if_neg e3] at h
        by_cases e4 : isW g n s tCoun = true
        · exact (of_decide_eq_true e4).1
        · rw [if_neg e4] at h
          exact absurd rfl h


