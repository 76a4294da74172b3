/-! A clause of a COURT. -/
section TN
variable {d : Nat} {I : Nat → Nat → Int32} {J : Nat → Nat → Int64} {g : Nat → Nat} {n : Nat} {r : RST}
theorem c_numN {lo hi : Nat} (tp : ∀ j, j < 600 → I 3 j = nI (g j)) (gb : ∀ j, g j < 256) (hn : n ≤ 600) (rd : RD g n r I) (hl : lo ≤ hi) (h2 : hi ≤ 9999) (hd : 4 ≤ d) : RI d 85 [.ref 1, .int (nI lo), .int (nI hi)] I J (fun v I' => ∃ x, v = nI x ∧ lo ≤ x ∧ x ≤ hi ∧ RD g n (tkN g n lo hi r).2 I' ∧ (∀ s2, (tkN g n lo hi r).2 = .inl s2 → x = (tkN g n lo hi r).1) ∧ RO I I') := by
  have h := c_num (J := J) (lo := lo) (hi := (hi : Int)) tp gb hn rd (by omega) (by omega) (by omega) hd
  rw [zI_nat] at h
  refine h.mono (fun v I' p => ?_)
  obtain ⟨p1, p2, p3, p4⟩ := p
  cases e : (tkN g n lo hi r).2 with
  | inl s2 =>
    have b := tkN_b e
    rw [e] at p1
    exact ⟨_, p2 s2 e, b.1, by omega, p1, fun _ _ => rfl, p4⟩
  | inr q =>
    rw [e] at p1
    exact ⟨lo, p3 q e, Nat.le_refl _, hl, p1, fun s2 z => absurd z (by simp), p4⟩
theorem m_numN {lo hi : Nat} (tp : ∀ j, j < 600 → I 108 j = nI (g j)) (gb : ∀ j, g j < 256) (hn : n ≤ 600) (md : MD g n r I) (hl : lo ≤ hi) (h2 : hi ≤ 9999) (hd : 3 ≤ d) : RI d 181 [.ref 106, .int (nI lo), .int (nI hi)] I J (fun v I' => MD g n (tkN g n lo hi r).2 I' ∧ (∀ s2, (tkN g n lo hi r).2 = .inl s2 → v = nI (tkN g n lo hi r).1) ∧ MO I I') := by
  have h := m_num (J := J) (lo := lo) (hi := (hi : Int)) tp gb hn md (by omega) (by omega) (by omega) hd
  rw [zI_nat] at h
  exact h
end TN


