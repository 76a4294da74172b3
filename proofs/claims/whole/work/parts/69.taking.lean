/-! Taking from a text, with or behind a fault. -/
section TK
variable {d : Nat} {I : Nat → Nat → Int32} {J : Nat → Nat → Int64} {g : Nat → Nat} {n : Nat} {r : RST}
theorem c_num {lo : Nat} {hi : Int} (tp : ∀ j, j < 600 → I 3 j = nI (g j)) (gb : ∀ j, g j < 256) (hn : n ≤ 600) (rd : RD g n r I) (hl : lo ≤ 9999) (h1 : -1 ≤ hi) (h2 : hi ≤ 9999) (hd : 4 ≤ d) : RI d 85 [.ref 1, .int (nI lo), .int (zI hi)] I J (fun v I' => RD g n (tkN g n lo hi r).2 I' ∧ (∀ s2, (tkN g n lo hi r).2 = .inl s2 → v = nI (tkN g n lo hi r).1) ∧ (∀ q, (tkN g n lo hi r).2 = .inr q → v = nI lo) ∧ RO I I') := by
  cases r with
  | inl s => exact c_numG tp gb hn rd hl h1 h2 hd
  | inr q =>
    obtain ⟨k, f⟩ := q
    have rd2 : RB n k f I := rd
    exact ⟨_, I, ⟨rd2, fun s2 z => absurd z (by simp [tkN]), fun _ _ => rfl, RO.rf⟩, c_numB rd2 (by omega)⟩
theorem c_sign {c : Nat} (tp : ∀ j, j < 600 → I 3 j = nI (g j)) (gb : ∀ j, g j < 256) (hn : n ≤ 600) (rd : RD g n r I) (hc_ : c < 256) (hd : 4 ≤ d) : RU d 86 [.ref 1, .int (nI c)] I J (fun I' => RD g n (tkS g n c r) I' ∧ RO I I') := by
  cases r with
  | inl s => exact c_signG tp gb hn rd hc_ hd
  | inr q =>
    obtain ⟨k, f⟩ := q
    have rd2 : RB n k f I := rd
    obtain ⟨I', e, h⟩ := c_signB (J := J) (x := nI c) rd2 (show 2 ≤ d by omega)
    subst e
    exact ⟨_, ⟨rd2, RO.rf⟩, h⟩
theorem m_num {lo : Nat} {hi : Int} (tp : ∀ j, j < 600 → I 108 j = nI (g j)) (gb : ∀ j, g j < 256) (hn : n ≤ 600) (md : MD g n r I) (hl : lo ≤ 9999) (h1 : -1 ≤ hi) (h2 : hi ≤ 9999) (hd : 3 ≤ d) : RI d 181 [.ref 106, .int (nI lo), .int (zI hi)] I J (fun v I' => MD g n (tkN g n lo hi r).2 I' ∧ (∀ s2, (tkN g n lo hi r).2 = .inl s2 → v = nI (tkN g n lo hi r).1) ∧ MO I I') := by
  cases r with
  | inl s => exact m_numG tp gb hn md hl h1 h2 hd
  | inr q =>
    obtain ⟨k, f⟩ := q
    have md2 : MB n k f I := md
    exact ⟨_, I, ⟨md2, fun s2 z => absurd z (by simp [tkN]), MO.rf⟩, m_numB md2 hn (by omega)⟩
theorem m_sign {c : Nat} (tp : ∀ j, j < 600 → I 108 j = nI (g j)) (gb : ∀ j, g j < 256) (hn : n ≤ 600) (md : MD g n r I) (hc_ : 0 < c) (hc2 : c < 256) (cd : isD c = false) (cl_ : isL c = false) (hd : 3 ≤ d) : RU d 182 [.ref 106, .int (nI c)] I J (fun I' => MD g n (tkS g n c r) I' ∧ MO I I') := by
  cases r with
  | inl s => exact m_signG tp gb hn md hc_ hc2 cd cl_ hd
  | inr q =>
    obtain ⟨k, f⟩ := q
    have md2 : MB n k f I := md
    obtain ⟨I', e, h⟩ := m_signB (J := J) (x := nI c) md2 hn (show 2 ≤ d by omega)
    subst e
    exact ⟨_, ⟨md2, MO.rf⟩, h⟩
end TK
/-- what is taken without a fault is in its bounds -/
theorem tkN_b {g : Nat → Nat} {n lo s2 : Nat} {hi : Int} {r : RST} (h : (tkN g n lo hi r).2 = .inl s2) : lo ≤ (tkN g n lo hi r).1 ∧ ((tkN g n lo hi r).1 : Int) ≤ hi := by
  cases r with
  | inr q => exact absurd h (by simp [tkN])
  | inl s =>
    by_cases k : kdp g n s = 1
    · by_cases b : nvl g n s < lo ∨ hi < (nvl g n s : Int)
      · have e : tkN g n lo hi (.inl s) = (0, .inr (2, s)) := (if_pos k).trans (if_pos b)
        rw [e] at h
        exact absurd h (by simp)
      · have e : tkN g n lo hi (.inl s) = (nvl g n s, .inl (nxp g n s)) := (if_pos k).trans (if_neg b)
        rw [e]
        exact ⟨by show lo ≤ nvl g n s; omega, by show (nvl g n s : Int) ≤ hi; omega⟩
    · have e : tkN g n lo hi (.inl s) = (0, .inr (1, s)) := if_neg k
      rw [e] at h
      exact absurd h (by simp)
/-- three numbers, two numbers one behind the other; what came before a fault is not looked at -/
def tk3 (g : Nat → Nat) (n a1 : Nat) (b1 : Int) (a2 : Nat) (b2 : Int) (a3 : Nat) (b3 : Int) (r : RST) : (Nat × Nat × Nat) × RST :=
  let x := tkN g n a1 b1 r
  let y := tkN g n a2 b2 x.2
  let z := tkN g n a3 b3 y.2
  ((x.1, y.1, z.1), z.2)
def tk2 (g : Nat → Nat) (n a1 : Nat) (b1 : Int) (a2 : Nat) (b2 : Int) (r : RST) : (Nat × Nat) × RST :=
  let x := tkN g n a1 b1 r
  let y := tkN g n a2 b2 x.2
  ((x.1, y.1), y.2)
theorem tkN_ok {g : Nat → Nat} {n lo s2 : Nat} {hi : Int} {r : RST} (h : (tkN g n lo hi r).2 = .inl s2) : ∃ s, r = .inl s := by
  cases r with
  | inl s => exact ⟨s, rfl⟩
  | inr q => exact absurd h (by simp [tkN])
theorem tkS_ok {g : Nat → Nat} {n c s2 : Nat} {r : RST} (h : tkS g n c r = .inl s2) : ∃ s, r = .inl s := by
  cases r with
  | inl s => exact ⟨s, rfl⟩
  | inr q => exact absurd h (by simp [tkS])

theorem tk3_ok {g : Nat → Nat} {n a1 a2 a3 s2 : Nat} {b1 b2 b3 : Int} {r : RST} (h : (tk3 g n a1 b1 a2 b2 a3 b3 r).2 = .inl s2) : ∃ s, r = .inl s := by
  obtain ⟨x, hx⟩ := tkN_ok (show (tkN g n a3 b3 (tkN g n a2 b2 (tkN g n a1 b1 r).2).2).2 = .inl s2 from h)
  obtain ⟨y, hy⟩ := tkN_ok hx
  exact tkN_ok hy
