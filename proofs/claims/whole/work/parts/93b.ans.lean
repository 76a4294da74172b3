/-! (goes on) -/
theorem ans_loaf {S : STT} {I : Nat → Nat → Int32} (inv : INVS S I) {a0 a1 a2 : Int32} : AN2 136 263 [.int a0, .int a1, .int a2] I := by
  have ci := inv.2.1
  have tl6 := inv.1.tl
  obtain ⟨a0z, a01, a02, ea0⟩ := i_z a0
  subst ea0
  by_cases hy : a0z < 0 ∨ (S.κ.nc : Int) ≤ a0z
  · exact (fun z => Or.inr (Or.inl z)) (AX.q inv (by decide) (fun J => (c_loafT ci.hc inv.1.cb (by omega) (by omega) hy (by omega))) (fun I J mi => (m_loafT mi.mc inv.1.cb (by omega) (by omega) hy (by omega))))
  · obtain ⟨a0n, rfl, a0b⟩ := z_bits (p := S.κ.nc) (x := a0z) hy
    rw [zI_nat a0n]
    obtain ⟨a1z, a11, a12, ea1⟩ := i_z a1
    subst ea1
    by_cases hy2 : a1z < 0 ∨ ((2 ^ S.κ.nc : Nat) : Int) ≤ a1z
    · exact (fun z => Or.inr (Or.inr z)) (AX.q inv (by decide) (fun J => (c_loafB ci.hc inv.1.cb (by omega) (by omega) (by omega) hy2 (by omega))) (fun I J mi => (m_loafB mi.mc inv.1.cb (by omega) (by omega) (by omega) hy2 (by omega))))
    · obtain ⟨a1n, rfl, a1b⟩ := z_bits (p := 2 ^ S.κ.nc) (x := a1z) hy2
      rw [zI_nat a1n]
      obtain ⟨a2z, a21, a22, ea2⟩ := i_z a2
      subst ea2
      by_cases hy3 : 0 ≤ a2z ∧ a2z ≤ 999
      · obtain ⟨a2n, rfl, a2b⟩ := z_rng (b := 999) (x := a2z) (by omega)
        rw [zI_nat a2n]
        exact Or.inl (AV.q inv (fun J => (c_loaf ci.hc inv.1.cb ci.hh inv.1.hb inv.1.wm.hw (by omega) a1b (by omega) (by omega)).ri) (fun I J mi => (m_loaf mi.mc inv.1.cb mi.mr inv.1.hb mi.ml inv.1.lb inv.1.wm (by omega) a1b (by omega) (by omega)).fm))
      · exact (fun z => Or.inr (Or.inr z)) (AX.q inv (by decide) (fun J => (c_loafX ci.hc inv.1.cb (by omega) a1b (by omega) (by omega) hy3 (by omega))) (fun I J mi => (m_loafX mi.mc inv.1.cb (by omega) a1b (by omega) (by omega) hy3 (by omega))))
