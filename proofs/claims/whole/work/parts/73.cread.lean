/-! A court's text is read, and becomes the court: the class. -/
def zer (κ : CT) : CT := CT.mk 0 0 0 0 κ.sm κ.ss κ.sw κ.r1 κ.r2 κ.r3 κ.bm κ.bs κ.cc κ.cs
theorem CU.zer {κ : CT} (h : CU κ) : CB (zer κ) := ⟨Nat.zero_le _, Nat.zero_le _, Nat.zero_le _, Nat.zero_le _, h.sm, h.ss, h.sw, fun j hj => absurd hj (Nat.not_lt_zero j), fun j hj => absurd hj (Nat.not_lt_zero j), fun j hj => absurd hj (Nat.not_lt_zero j), h.bm, h.bs, fun j hj => absurd hj (Nat.not_lt_zero j), h.cc, h.cs⟩
/-- where the reading of a court stands, behind i clauses -/
def CRI (g : Nat → Nat) (n : Nat) (κ : CT) (s0 : Nat) (I : Nat → Nat → Int32) (i : Nat) (r : RST) (K : CT) (M : Nat → Nat → Int32) : Prop := DF I M ∧ RD g n r M ∧ (∃ K2, HC 25 K2 M ∧ CU K2) ∧ i ≤ 60 ∧ match r with
  | .inl s => HC 25 K M ∧ CB K ∧ nall K = i ∧ ctsS g n (60 - i) K s = ctsS g n 60 κ s0
  | .inr q => (ctsS g n 60 κ s0).2 = .inr q
theorem mor_t {n : Nat} {r : RST} (h : mor n r = true) : ∃ s, r = .inl s ∧ s < n := by
  cases r with
  | inl s => exact ⟨s, rfl, of_decide_eq_true h⟩
  | inr q => exact absurd (show false = true from h) (by decide)
theorem CRI.next {g : Nat → Nat} {n s0 s1 i : Nat} {κ K : CT} {I M I2 I3 : Nat → Nat → Int32} (h : CRI g n κ s0 I i (.inl s1) K M) (hs : s1 < n) (hi : i < 60) (h2 : RD g n (clsT g n K s1).2 I2 ∧ (∃ K2, HC 25 K2 I2 ∧ CU K2 ∧ ∀ s2, (clsT g n K s1).2 = .inl s2 → K2 = (clsT g n K s1).1) ∧ DF M I2) (h3 : RD g n (tkS g n 59 (clsT g n K s1).2) I3 ∧ RO I2 I3) : CRI g n κ s0 I (i + 1) (clsS g n K s1).2 (clsS g n K s1).1 I3 := by
  obtain ⟨a1, a2, a3, a4, b1, b2, b3, b4⟩ := h
  obtain ⟨c1, ⟨K2, c2, c3, c4⟩, c5⟩ := h2
  refine ⟨a1.tr (c5.tr h3.2.df), h3.1, ⟨K2, c2.ro h3.2, c3⟩, hi, ?_⟩
  cases e : (clsS g n K s1).2 with
  | inl s2 =>
    have ok := clsS_ok b2 e
    obtain ⟨s3, e3⟩ := tkS_ok (show tkS g n 59 (clsT g n K s1).2 = .inl s2 from e)
    have ek : K2 = (clsS g n K s1).1 := c4 s3 e3
    refine ⟨ek ▸ c2.ro h3.2, ok.1, by rw [ok.2, b3], ?_⟩
    rw [← b4, show 60 - i = 60 - (i + 1) + 1 by omega, ctsS_go hs e]
  | inr q =>
    show (ctsS g n 60 κ s0).2 = .inr q
    rw [← b4, show 60 - i = 60 - (i + 1) + 1 by omega]
    exact ctsS_bad hs e
theorem CRI.fin {g : Nat → Nat} {n s0 i : Nat} {r : RST} {κ K : CT} {I M : Nat → Nat → Int32} (h : CRI g n κ s0 I i r K M) (e : 60 ≤ i ∨ mor n r = false) : RD g n (ctsS g n 60 κ s0).2 M ∧ (∃ K2, HC 25 K2 M ∧ CU K2 ∧ ∀ s2, (ctsS g n 60 κ s0).2 = .inl s2 → K2 = (ctsS g n 60 κ s0).1) ∧ DF I M := by
  obtain ⟨a1, a2, a3, a4, a5⟩ := h
  cases r with
  | inl s =>
    obtain ⟨b1, b2, b3, b4⟩ := a5
    have hb_ := b2.all
    have e2 : n ≤ s := e.elim (fun z => absurd z (by omega)) (fun z => Nat.le_of_not_lt (of_decide_eq_false z))
    rw [ctsS_end e2] at b4
    rw [← b4]
    exact ⟨a2, ⟨K, b1, b2.u, fun _ _ => rfl⟩, a1⟩
  | inr q =>
    obtain ⟨K2, c1, c2⟩ := a3
    have a5 : (ctsS g n 60 κ s0).2 = .inr q := a5
    rw [a5]
    exact ⟨a2, ⟨K2, c1, c2, fun s2 z => inr_ne z⟩, a1⟩
def l0 : LW := LW.mk 1 (fun _ => 1) (fun _ => 0)
theorem l0_b : LB l0 := ⟨by decide, by decide, by decide, by decide, by decide, by decide, by decide⟩
theorem HL.l0 {I' : Nat → Nat → Int32} (e1 : I' 46 3 = nI 1) (e2 : I' 48 0 = zI (-1)) : HL 46 l0 I' := ⟨e1, fun k hk => by
  have hk : k < 1 := hk
  obtain rfl : k = 0 := by omega
  exact e2⟩
/-- a hearing as it begins: the walks of now stand till they are measured -/
def beg (κ : CT) (w : Nat → Nat) : HS := HS.mk 0 0 κ.sm κ.bm (fun _ => 0) w κ.cc
theorem HB.beg {κ : CT} (c : CB κ) {w : Nat → Nat} (hw : ∀ j, w j ≤ 40) : HB κ (beg κ w) := ⟨by show 0 ≤ 448; omega, Nat.two_pow_pos _, fun j => Nat.le_trans (c.sm j) (by decide), fun j => Nat.le_trans (c.bm j) (by decide), hw, c.cc⟩
theorem wr_zero {I : Nat → Nat → Int32} {o k : Nat} (h : ∀ j, j < k → I o j = nI 0) : ∀ j, j < k + 1 → wr I o k (nI 0) o j = nI 0 := by
  intro j hj
  by_cases e : j = k
  · subst e; exact wr_same
  · rw [wr_ne (Or.inr e)]; exact h j (by omega)
theorem r_X0_reset_0 : RW M_X0_reset 0 (.aload_n 0) 1 0 0 1 := ⟨rfl, rfl⟩
theorem r_X0_reset_1 : RW M_X0_reset 1 (.iconst 0) 1 0 0 2 := ⟨rfl, rfl⟩
theorem r_X0_reset_2 : RW M_X0_reset 2 (.putfield 9) 3 0 0 5 := ⟨rfl, rfl⟩
theorem r_X0_reset_5 : RW M_X0_reset 5 (.aload_n 0) 1 0 0 6 := ⟨rfl, rfl⟩
theorem r_X0_reset_6 : RW M_X0_reset 6 (.iconst 0) 1 0 0 7 := ⟨rfl, rfl⟩
theorem r_X0_reset_7 : RW M_X0_reset 7 (.putfield 15) 3 0 1 10 := ⟨rfl, rfl⟩
theorem r_X0_reset_10 : RW M_X0_reset 10 (.return_) 1 0 0 11 := ⟨rfl, rfl⟩
theorem r_X1_become_0 : RW M_X1_become 0 (.aload_n 0) 1 0 0 1 := ⟨rfl, rfl⟩
theorem r_X1_become_1 : RW M_X1_become 1 (.getfield 14) 3 1 0 4 := ⟨rfl, rfl⟩
theorem r_X1_become_4 : RW M_X1_become 4 (.iconst 0) 1 0 0 5 := ⟨rfl, rfl⟩
theorem r_X1_become_5 : RW M_X1_become 5 (.aload_n 1) 1 0 0 6 := ⟨rfl, rfl⟩
theorem r_X1_become_6 : RW M_X1_become 6 (.getfield 14) 3 1 0 9 := ⟨rfl, rfl⟩
theorem r_X1_become_9 : RW M_X1_become 9 (.iconst 0) 1 0 0 10 := ⟨rfl, rfl⟩
theorem r_X1_become_10 : RW M_X1_become 10 (.bipush 9) 2 0 0 12 := ⟨rfl, rfl⟩
theorem r_X1_become_12 : RW M_X1_become 12 (.invokevirtual 112) 3 94 0 15 := ⟨rfl, rfl⟩
theorem r_X1_become_15 : RW M_X1_become 15 (.aload_n 0) 1 0 0 16 := ⟨rfl, rfl⟩
theorem r_X1_become_16 : RW M_X1_become 16 (.getfield 20) 3 1 1 19 := ⟨rfl, rfl⟩
theorem r_X1_become_19 : RW M_X1_become 19 (.iconst 0) 1 0 0 20 := ⟨rfl, rfl⟩
theorem r_X1_become_20 : RW M_X1_become 20 (.aload_n 1) 1 0 0 21 := ⟨rfl, rfl⟩
theorem r_X1_become_21 : RW M_X1_become 21 (.getfield 20) 3 1 1 24 := ⟨rfl, rfl⟩
theorem r_X1_become_24 : RW M_X1_become 24 (.iconst 0) 1 0 0 25 := ⟨rfl, rfl⟩
theorem r_X1_become_25 : RW M_X1_become 25 (.bipush 9) 2 0 0 27 := ⟨rfl, rfl⟩
theorem r_X1_become_27 : RW M_X1_become 27 (.invokevirtual 112) 3 94 0 30 := ⟨rfl, rfl⟩
theorem r_X1_become_30 : RW M_X1_become 30 (.aload_n 0) 1 0 0 31 := ⟨rfl, rfl⟩
theorem r_X1_become_31 : RW M_X1_become 31 (.getfield 23) 3 1 2 34 := ⟨rfl, rfl⟩
theorem r_X1_become_34 : RW M_X1_become 34 (.iconst 0) 1 0 0 35 := ⟨rfl, rfl⟩
theorem r_X1_become_35 : RW M_X1_become 35 (.aload_n 1) 1 0 0 36 := ⟨rfl, rfl⟩
theorem r_X1_become_36 : RW M_X1_become 36 (.getfield 23) 3 1 2 39 := ⟨rfl, rfl⟩
theorem r_X1_become_39 : RW M_X1_become 39 (.iconst 0) 1 0 0 40 := ⟨rfl, rfl⟩
theorem r_X1_become_40 : RW M_X1_become 40 (.bipush 9) 2 0 0 42 := ⟨rfl, rfl⟩
theorem r_X1_become_42 : RW M_X1_become 42 (.invokevirtual 112) 3 94 0 45 := ⟨rfl, rfl⟩
theorem r_X1_become_45 : RW M_X1_become 45 (.aload_n 0) 1 0 0 46 := ⟨rfl, rfl⟩
theorem r_X1_become_46 : RW M_X1_become 46 (.getfield 26) 3 1 3 49 := ⟨rfl, rfl⟩
theorem r_X1_become_49 : RW M_X1_become 49 (.iconst 0) 1 0 0 50 := ⟨rfl, rfl⟩
theorem r_X1_become_50 : RW M_X1_become 50 (.aload_n 1) 1 0 0 51 := ⟨rfl, rfl⟩
theorem r_X1_become_51 : RW M_X1_become 51 (.getfield 26) 3 1 3 54 := ⟨rfl, rfl⟩
theorem r_X1_become_54 : RW M_X1_become 54 (.iconst 0) 1 0 0 55 := ⟨rfl, rfl⟩
theorem r_X1_become_55 : RW M_X1_become 55 (.bipush 12) 2 0 0 57 := ⟨rfl, rfl⟩
theorem r_X1_become_57 : RW M_X1_become 57 (.invokevirtual 112) 3 94 0 60 := ⟨rfl, rfl⟩
theorem r_X1_become_60 : RW M_X1_become 60 (.aload_n 0) 1 0 0 61 := ⟨rfl, rfl⟩
theorem r_X1_become_61 : RW M_X1_become 61 (.getfield 29) 3 1 4 64 := ⟨rfl, rfl⟩
theorem r_X1_become_64 : RW M_X1_become 64 (.iconst 0) 1 0 0 65 := ⟨rfl, rfl⟩
theorem r_X1_become_65 : RW M_X1_become 65 (.aload_n 1) 1 0 0 66 := ⟨rfl, rfl⟩
theorem r_X1_become_66 : RW M_X1_become 66 (.getfield 29) 3 1 4 69 := ⟨rfl, rfl⟩
theorem r_X1_become_69 : RW M_X1_become 69 (.iconst 0) 1 0 0 70 := ⟨rfl, rfl⟩
theorem r_X1_become_70 : RW M_X1_become 70 (.bipush 12) 2 0 0 72 := ⟨rfl, rfl⟩
theorem r_X1_become_72 : RW M_X1_become 72 (.invokevirtual 112) 3 94 0 75 := ⟨rfl, rfl⟩
theorem r_X1_become_75 : RW M_X1_become 75 (.aload_n 0) 1 0 0 76 := ⟨rfl, rfl⟩
theorem r_X1_become_76 : RW M_X1_become 76 (.getfield 32) 3 1 5 79 := ⟨rfl, rfl⟩
theorem r_X1_become_79 : RW M_X1_become 79 (.iconst 0) 1 0 0 80 := ⟨rfl, rfl⟩
theorem r_X1_become_80 : RW M_X1_become 80 (.aload_n 1) 1 0 0 81 := ⟨rfl, rfl⟩
theorem r_X1_become_81 : RW M_X1_become 81 (.getfield 32) 3 1 5 84 := ⟨rfl, rfl⟩
theorem r_X1_become_84 : RW M_X1_become 84 (.iconst 0) 1 0 0 85 := ⟨rfl, rfl⟩
theorem r_X1_become_85 : RW M_X1_become 85 (.bipush 12) 2 0 0 87 := ⟨rfl, rfl⟩
theorem r_X1_become_87 : RW M_X1_become 87 (.invokevirtual 112) 3 94 0 90 := ⟨rfl, rfl⟩
theorem r_X1_become_90 : RW M_X1_become 90 (.aload_n 0) 1 0 0 91 := ⟨rfl, rfl⟩
theorem r_X1_become_91 : RW M_X1_become 91 (.getfield 35) 3 1 6 94 := ⟨rfl, rfl⟩
theorem r_X1_become_94 : RW M_X1_become 94 (.iconst 0) 1 0 0 95 := ⟨rfl, rfl⟩
theorem r_X1_become_95 : RW M_X1_become 95 (.aload_n 1) 1 0 0 96 := ⟨rfl, rfl⟩
theorem r_X1_become_96 : RW M_X1_become 96 (.getfield 35) 3 1 6 99 := ⟨rfl, rfl⟩
theorem r_X1_become_99 : RW M_X1_become 99 (.iconst 0) 1 0 0 100 := ⟨rfl, rfl⟩
theorem r_X1_become_100 : RW M_X1_become 100 (.iconst 4) 1 0 0 101 := ⟨rfl, rfl⟩
theorem r_X1_become_101 : RW M_X1_become 101 (.invokevirtual 112) 3 94 0 104 := ⟨rfl, rfl⟩
theorem r_X1_become_104 : RW M_X1_become 104 (.aload_n 0) 1 0 0 105 := ⟨rfl, rfl⟩
theorem r_X1_become_105 : RW M_X1_become 105 (.getfield 38) 3 1 7 108 := ⟨rfl, rfl⟩
theorem r_X1_become_108 : RW M_X1_become 108 (.iconst 0) 1 0 0 109 := ⟨rfl, rfl⟩
theorem r_X1_become_109 : RW M_X1_become 109 (.aload_n 1) 1 0 0 110 := ⟨rfl, rfl⟩
theorem r_X1_become_110 : RW M_X1_become 110 (.getfield 38) 3 1 7 113 := ⟨rfl, rfl⟩
theorem r_X1_become_113 : RW M_X1_become 113 (.iconst 0) 1 0 0 114 := ⟨rfl, rfl⟩
theorem r_X1_become_114 : RW M_X1_become 114 (.iconst 4) 1 0 0 115 := ⟨rfl, rfl⟩
theorem r_X1_become_115 : RW M_X1_become 115 (.invokevirtual 112) 3 94 0 118 := ⟨rfl, rfl⟩
theorem r_X1_become_118 : RW M_X1_become 118 (.aload_n 0) 1 0 0 119 := ⟨rfl, rfl⟩
theorem r_X1_become_119 : RW M_X1_become 119 (.getfield 41) 3 1 8 122 := ⟨rfl, rfl⟩
theorem r_X1_become_122 : RW M_X1_become 122 (.iconst 0) 1 0 0 123 := ⟨rfl, rfl⟩
theorem r_X1_become_123 : RW M_X1_become 123 (.aload_n 1) 1 0 0 124 := ⟨rfl, rfl⟩
theorem r_X1_become_124 : RW M_X1_become 124 (.getfield 41) 3 1 8 127 := ⟨rfl, rfl⟩
theorem r_X1_become_127 : RW M_X1_become 127 (.iconst 0) 1 0 0 128 := ⟨rfl, rfl⟩
theorem r_X1_become_128 : RW M_X1_become 128 (.iconst 4) 1 0 0 129 := ⟨rfl, rfl⟩
theorem r_X1_become_129 : RW M_X1_become 129 (.invokevirtual 112) 3 94 0 132 := ⟨rfl, rfl⟩
theorem r_X1_become_132 : RW M_X1_become 132 (.aload_n 0) 1 0 0 133 := ⟨rfl, rfl⟩
theorem r_X1_become_133 : RW M_X1_become 133 (.getfield 44) 3 1 9 136 := ⟨rfl, rfl⟩
theorem r_X1_become_136 : RW M_X1_become 136 (.iconst 0) 1 0 0 137 := ⟨rfl, rfl⟩
theorem r_X1_become_137 : RW M_X1_become 137 (.aload_n 1) 1 0 0 138 := ⟨rfl, rfl⟩
theorem r_X1_become_138 : RW M_X1_become 138 (.getfield 44) 3 1 9 141 := ⟨rfl, rfl⟩
theorem r_X1_become_141 : RW M_X1_become 141 (.iconst 0) 1 0 0 142 := ⟨rfl, rfl⟩
theorem r_X1_become_142 : RW M_X1_become 142 (.iconst 4) 1 0 0 143 := ⟨rfl, rfl⟩
theorem r_X1_become_143 : RW M_X1_become 143 (.invokevirtual 112) 3 94 0 146 := ⟨rfl, rfl⟩
theorem r_X1_become_146 : RW M_X1_become 146 (.aload_n 0) 1 0 0 147 := ⟨rfl, rfl⟩
theorem r_X1_become_147 : RW M_X1_become 147 (.aload_n 1) 1 0 0 148 := ⟨rfl, rfl⟩
theorem r_X1_become_148 : RW M_X1_become 148 (.getfield 47) 3 1 10 151 := ⟨rfl, rfl⟩
theorem r_X1_become_151 : RW M_X1_become 151 (.putfield 47) 3 1 10 154 := ⟨rfl, rfl⟩
theorem r_X1_become_154 : RW M_X1_become 154 (.aload_n 0) 1 0 0 155 := ⟨rfl, rfl⟩
theorem r_X1_become_155 : RW M_X1_become 155 (.aload_n 1) 1 0 0 156 := ⟨rfl, rfl⟩
theorem r_X1_become_156 : RW M_X1_become 156 (.getfield 51) 3 1 11 159 := ⟨rfl, rfl⟩
theorem r_X1_become_159 : RW M_X1_become 159 (.putfield 51) 3 1 11 162 := ⟨rfl, rfl⟩
theorem r_X1_become_162 : RW M_X1_become 162 (.aload_n 0) 1 0 0 163 := ⟨rfl, rfl⟩
theorem r_X1_become_163 : RW M_X1_become 163 (.aload_n 1) 1 0 0 164 := ⟨rfl, rfl⟩
theorem r_X1_become_164 : RW M_X1_become 164 (.getfield 54) 3 1 12 167 := ⟨rfl, rfl⟩
theorem r_X1_become_167 : RW M_X1_become 167 (.putfield 54) 3 1 12 170 := ⟨rfl, rfl⟩
theorem r_X1_become_170 : RW M_X1_become 170 (.aload_n 0) 1 0 0 171 := ⟨rfl, rfl⟩
theorem r_X1_become_171 : RW M_X1_become 171 (.aload_n 1) 1 0 0 172 := ⟨rfl, rfl⟩
theorem r_X1_become_172 : RW M_X1_become 172 (.getfield 57) 3 1 13 175 := ⟨rfl, rfl⟩
theorem r_X1_become_175 : RW M_X1_become 175 (.putfield 57) 3 1 13 178 := ⟨rfl, rfl⟩
theorem r_X1_become_178 : RW M_X1_become 178 (.return_) 1 0 0 179 := ⟨rfl, rfl⟩
theorem r_X1_readFrom_0 : RW M_X1_readFrom 0 (.aload_n 0) 1 0 0 1 := ⟨rfl, rfl⟩
theorem r_X1_readFrom_1 : RW M_X1_readFrom 1 (.iconst 0) 1 0 0 2 := ⟨rfl, rfl⟩
theorem r_X1_readFrom_2 : RW M_X1_readFrom 2 (.putfield 47) 3 1 10 5 := ⟨rfl, rfl⟩
theorem r_X1_readFrom_5 : RW M_X1_readFrom 5 (.aload_n 0) 1 0 0 6 := ⟨rfl, rfl⟩
theorem r_X1_readFrom_6 : RW M_X1_readFrom 6 (.iconst 0) 1 0 0 7 := ⟨rfl, rfl⟩
theorem r_X1_readFrom_7 : RW M_X1_readFrom 7 (.putfield 51) 3 1 11 10 := ⟨rfl, rfl⟩
theorem r_X1_readFrom_10 : RW M_X1_readFrom 10 (.aload_n 0) 1 0 0 11 := ⟨rfl, rfl⟩
theorem r_X1_readFrom_11 : RW M_X1_readFrom 11 (.iconst 0) 1 0 0 12 := ⟨rfl, rfl⟩
theorem r_X1_readFrom_12 : RW M_X1_readFrom 12 (.putfield 54) 3 1 12 15 := ⟨rfl, rfl⟩
theorem r_X1_readFrom_15 : RW M_X1_readFrom 15 (.aload_n 0) 1 0 0 16 := ⟨rfl, rfl⟩
theorem r_X1_readFrom_16 : RW M_X1_readFrom 16 (.iconst 0) 1 0 0 17 := ⟨rfl, rfl⟩
theorem r_X1_readFrom_17 : RW M_X1_readFrom 17 (.putfield 57) 3 1 13 20 := ⟨rfl, rfl⟩
theorem r_X1_readFrom_20 : RW M_X1_readFrom 20 (.iconst 0) 1 0 0 21 := ⟨rfl, rfl⟩
theorem r_X1_readFrom_21 : RW M_X1_readFrom 21 (.istore_n 2) 1 0 0 22 := ⟨rfl, rfl⟩
theorem r_X1_readFrom_22 : RW M_X1_readFrom 22 (.iload_n 2) 1 0 0 23 := ⟨rfl, rfl⟩
theorem r_X1_readFrom_23 : RW M_X1_readFrom 23 (.bipush 60) 2 0 0 25 := ⟨rfl, rfl⟩
theorem r_X1_readFrom_25 : RW M_X1_readFrom 25 (.if_icmp .ge 27) 3 52 0 28 := ⟨rfl, rfl⟩
theorem r_X1_readFrom_28 : RW M_X1_readFrom 28 (.aload_n 1) 1 0 0 29 := ⟨rfl, rfl⟩
theorem r_X1_readFrom_29 : RW M_X1_readFrom 29 (.invokevirtual 60) 3 81 0 32 := ⟨rfl, rfl⟩
theorem r_X1_readFrom_32 : RW M_X1_readFrom 32 (.ifCond .eq 20) 3 52 0 35 := ⟨rfl, rfl⟩
theorem r_X1_readFrom_35 : RW M_X1_readFrom 35 (.aload_n 0) 1 0 0 36 := ⟨rfl, rfl⟩
theorem r_X1_readFrom_36 : RW M_X1_readFrom 36 (.aload_n 1) 1 0 0 37 := ⟨rfl, rfl⟩
theorem r_X1_readFrom_37 : RW M_X1_readFrom 37 (.invokevirtual 66) 3 8 0 40 := ⟨rfl, rfl⟩
theorem r_X1_readFrom_40 : RW M_X1_readFrom 40 (.aload_n 1) 1 0 0 41 := ⟨rfl, rfl⟩
theorem r_X1_readFrom_41 : RW M_X1_readFrom 41 (.bipush 59) 2 0 0 43 := ⟨rfl, rfl⟩
theorem r_X1_readFrom_43 : RW M_X1_readFrom 43 (.invokevirtual 70) 3 86 0 46 := ⟨rfl, rfl⟩
theorem r_X1_readFrom_46 : RW M_X1_readFrom 46 (.iinc 2 1) 3 0 0 49 := ⟨rfl, rfl⟩
theorem r_X1_readFrom_49 : RW M_X1_readFrom 49 (.goto (-27)) 3 22 0 52 := ⟨rfl, rfl⟩
theorem r_X1_readFrom_52 : RW M_X1_readFrom 52 (.return_) 1 0 0 53 := ⟨rfl, rfl⟩
theorem r_X2_begin_0 : RW M_X2_begin 0 (.aload_n 0) 1 0 0 1 := ⟨rfl, rfl⟩
theorem r_X2_begin_1 : RW M_X2_begin 1 (.iconst 0) 1 0 0 2 := ⟨rfl, rfl⟩
theorem r_X2_begin_2 : RW M_X2_begin 2 (.putfield 40) 3 2 7 5 := ⟨rfl, rfl⟩
theorem r_X2_begin_5 : RW M_X2_begin 5 (.aload_n 0) 1 0 0 6 := ⟨rfl, rfl⟩
theorem r_X2_begin_6 : RW M_X2_begin 6 (.iconst 0) 1 0 0 7 := ⟨rfl, rfl⟩
theorem r_X2_begin_7 : RW M_X2_begin 7 (.putfield 44) 3 2 8 10 := ⟨rfl, rfl⟩
theorem r_X2_begin_10 : RW M_X2_begin 10 (.aload_n 0) 1 0 0 11 := ⟨rfl, rfl⟩
theorem r_X2_begin_11 : RW M_X2_begin 11 (.getfield 16) 3 2 2 14 := ⟨rfl, rfl⟩
theorem r_X2_begin_14 : RW M_X2_begin 14 (.iconst 0) 1 0 0 15 := ⟨rfl, rfl⟩
theorem r_X2_begin_15 : RW M_X2_begin 15 (.aload_n 0) 1 0 0 16 := ⟨rfl, rfl⟩
theorem r_X2_begin_16 : RW M_X2_begin 16 (.getfield 32) 3 2 0 19 := ⟨rfl, rfl⟩
theorem r_X2_begin_19 : RW M_X2_begin 19 (.getfield 47) 3 1 0 22 := ⟨rfl, rfl⟩
theorem r_X2_begin_22 : RW M_X2_begin 22 (.iconst 0) 1 0 0 23 := ⟨rfl, rfl⟩
theorem r_X2_begin_23 : RW M_X2_begin 23 (.bipush 9) 2 0 0 25 := ⟨rfl, rfl⟩
theorem r_X2_begin_25 : RW M_X2_begin 25 (.invokevirtual 52) 3 94 0 28 := ⟨rfl, rfl⟩
theorem r_X2_begin_28 : RW M_X2_begin 28 (.aload_n 0) 1 0 0 29 := ⟨rfl, rfl⟩
theorem r_X2_begin_29 : RW M_X2_begin 29 (.getfield 20) 3 2 3 32 := ⟨rfl, rfl⟩
theorem r_X2_begin_32 : RW M_X2_begin 32 (.iconst 0) 1 0 0 33 := ⟨rfl, rfl⟩
theorem r_X2_begin_33 : RW M_X2_begin 33 (.aload_n 0) 1 0 0 34 := ⟨rfl, rfl⟩
theorem r_X2_begin_34 : RW M_X2_begin 34 (.getfield 32) 3 2 0 37 := ⟨rfl, rfl⟩
theorem r_X2_begin_37 : RW M_X2_begin 37 (.getfield 56) 3 1 6 40 := ⟨rfl, rfl⟩
theorem r_X2_begin_40 : RW M_X2_begin 40 (.iconst 0) 1 0 0 41 := ⟨rfl, rfl⟩
theorem r_X2_begin_41 : RW M_X2_begin 41 (.iconst 4) 1 0 0 42 := ⟨rfl, rfl⟩
theorem r_X2_begin_42 : RW M_X2_begin 42 (.invokevirtual 52) 3 94 0 45 := ⟨rfl, rfl⟩
theorem r_X2_begin_45 : RW M_X2_begin 45 (.iconst 0) 1 0 0 46 := ⟨rfl, rfl⟩
theorem r_X2_begin_46 : RW M_X2_begin 46 (.istore_n 1) 1 0 0 47 := ⟨rfl, rfl⟩
theorem r_X2_begin_47 : RW M_X2_begin 47 (.iload_n 1) 1 0 0 48 := ⟨rfl, rfl⟩
theorem r_X2_begin_48 : RW M_X2_begin 48 (.iconst 4) 1 0 0 49 := ⟨rfl, rfl⟩
theorem r_X2_begin_49 : RW M_X2_begin 49 (.if_icmp .ge 18) 3 67 0 52 := ⟨rfl, rfl⟩
theorem r_X2_begin_52 : RW M_X2_begin 52 (.aload_n 0) 1 0 0 53 := ⟨rfl, rfl⟩
theorem r_X2_begin_53 : RW M_X2_begin 53 (.getfield 23) 3 2 4 56 := ⟨rfl, rfl⟩
theorem r_X2_begin_56 : RW M_X2_begin 56 (.iload_n 1) 1 0 0 57 := ⟨rfl, rfl⟩
theorem r_X2_begin_57 : RW M_X2_begin 57 (.iconst 0) 1 0 0 58 := ⟨rfl, rfl⟩
theorem r_X2_begin_58 : RW M_X2_begin 58 (.invokevirtual 59) 3 93 0 61 := ⟨rfl, rfl⟩
theorem r_X2_begin_61 : RW M_X2_begin 61 (.iinc 1 1) 3 0 0 64 := ⟨rfl, rfl⟩
theorem r_X2_begin_64 : RW M_X2_begin 64 (.goto (-17)) 3 47 0 67 := ⟨rfl, rfl⟩
theorem r_X2_begin_67 : RW M_X2_begin 67 (.aload_n 0) 1 0 0 68 := ⟨rfl, rfl⟩
theorem r_X2_begin_68 : RW M_X2_begin 68 (.getfield 29) 3 2 6 71 := ⟨rfl, rfl⟩
theorem r_X2_begin_71 : RW M_X2_begin 71 (.iconst 0) 1 0 0 72 := ⟨rfl, rfl⟩
theorem r_X2_begin_72 : RW M_X2_begin 72 (.aload_n 0) 1 0 0 73 := ⟨rfl, rfl⟩
theorem r_X2_begin_73 : RW M_X2_begin 73 (.getfield 32) 3 2 0 76 := ⟨rfl, rfl⟩
theorem r_X2_begin_76 : RW M_X2_begin 76 (.getfield 63) 3 1 8 79 := ⟨rfl, rfl⟩
theorem r_X2_begin_79 : RW M_X2_begin 79 (.iconst 0) 1 0 0 80 := ⟨rfl, rfl⟩
theorem r_X2_begin_80 : RW M_X2_begin 80 (.iconst 4) 1 0 0 81 := ⟨rfl, rfl⟩
theorem r_X2_begin_81 : RW M_X2_begin 81 (.invokevirtual 52) 3 94 0 84 := ⟨rfl, rfl⟩
theorem r_X2_begin_84 : RW M_X2_begin 84 (.aload_n 0) 1 0 0 85 := ⟨rfl, rfl⟩
theorem r_X2_begin_85 : RW M_X2_begin 85 (.invokevirtual 66) 3 28 0 88 := ⟨rfl, rfl⟩
theorem r_X2_begin_88 : RW M_X2_begin 88 (.return_) 1 0 0 89 := ⟨rfl, rfl⟩
theorem r_X3_reset_0 : RW M_X3_reset 0 (.aload_n 0) 1 0 0 1 := ⟨rfl, rfl⟩
theorem r_X3_reset_1 : RW M_X3_reset 1 (.getfield 14) 3 3 0 4 := ⟨rfl, rfl⟩
theorem r_X3_reset_4 : RW M_X3_reset 4 (.iconst 0) 1 0 0 5 := ⟨rfl, rfl⟩
theorem r_X3_reset_5 : RW M_X3_reset 5 (.iconst (-1)) 1 0 0 6 := ⟨rfl, rfl⟩
theorem r_X3_reset_6 : RW M_X3_reset 6 (.invokevirtual 26) 3 93 0 9 := ⟨rfl, rfl⟩
theorem r_X3_reset_9 : RW M_X3_reset 9 (.aload_n 0) 1 0 0 10 := ⟨rfl, rfl⟩
theorem r_X3_reset_10 : RW M_X3_reset 10 (.iconst 1) 1 0 0 11 := ⟨rfl, rfl⟩
theorem r_X3_reset_11 : RW M_X3_reset 11 (.putfield 30) 3 3 3 14 := ⟨rfl, rfl⟩
theorem r_X3_reset_14 : RW M_X3_reset 14 (.return_) 1 0 0 15 := ⟨rfl, rfl⟩
theorem r_X4_reset_0 : RW M_X4_reset 0 (.aload_n 0) 1 0 0 1 := ⟨rfl, rfl⟩
theorem r_X4_reset_1 : RW M_X4_reset 1 (.iconst 0) 1 0 0 2 := ⟨rfl, rfl⟩
theorem r_X4_reset_2 : RW M_X4_reset 2 (.putfield 28) 3 4 3 5 := ⟨rfl, rfl⟩
theorem r_X4_reset_5 : RW M_X4_reset 5 (.aload_n 0) 1 0 0 6 := ⟨rfl, rfl⟩
theorem r_X4_reset_6 : RW M_X4_reset 6 (.iconst 0) 1 0 0 7 := ⟨rfl, rfl⟩
theorem r_X4_reset_7 : RW M_X4_reset 7 (.putfield 32) 3 4 4 10 := ⟨rfl, rfl⟩
theorem r_X4_reset_10 : RW M_X4_reset 10 (.return_) 1 0 0 11 := ⟨rfl, rfl⟩
theorem c_rCourt {d : Nat} {I : Nat → Nat → Int32} {J : Nat → Nat → Int64} {g : Nat → Nat} {n s : Nat} {κ : CT} (tp : ∀ j, j < 600 → I 3 j = nI (g j)) (gb : ∀ j, g j < 256) (hn : n ≤ 600) (rg : RG g n s I) (hk : HC 25 κ I) (cu : CU κ)  (hd : 7 ≤ d) : RU d 7 [.ref 25, .ref 1] I J (fun I' => RD g n (ctsS g n 60 (zer κ) s).2 I' ∧ (∃ K, HC 25 K I' ∧ CU K ∧ ∀ s2, (ctsS g n 60 (zer κ) s).2 = .inl s2 → K = (ctsS g n 60 (zer κ) s).1) ∧ DF I I') := by
  refine RU.in (d0 := 6) hd mt_7 (Nat.le_of_ble_eq_true rfl) (fun d' hd' => ?_)
  show EV none M_X1_readFrom d' 0 [(0, .ref 25), (1, .ref 1)] [] (hp I J) _
  refine EV.l (lv' := [(0, _), (1, _)]) r_X1_readFrom_0 rfl ?_
  refine EV.o r_X1_readFrom_1 (icN (0) (v := 0)) ?_
  refine EV.pIn r_X1_readFrom_2 la_25 (fun J1 f1 => ?_)
  refine EV.l (lv' := [(0, _), (1, _)]) r_X1_readFrom_5 rfl ?_
  refine EV.o r_X1_readFrom_6 (icN (0) (v := 0)) ?_
  refine EV.pIn r_X1_readFrom_7 la_25 (fun J2 f2 => ?_)
  refine EV.l (lv' := [(0, _), (1, _)]) r_X1_readFrom_10 rfl ?_
  refine EV.o r_X1_readFrom_11 (icN (0) (v := 0)) ?_
  refine EV.pIn r_X1_readFrom_12 la_25 (fun J3 f3 => ?_)
  refine EV.l (lv' := [(0, _), (1, _)]) r_X1_readFrom_15 rfl ?_
  refine EV.o r_X1_readFrom_16 (icN (0) (v := 0)) ?_
  refine EV.pIn r_X1_readFrom_17 la_25 (fun J4 f4 => ?_)
  have z1 : ∀ o, o ≠ 25 → J4 o = I o := fun o ho => by rw [f4, wr_row ho, f3, wr_row ho, f2, wr_row ho, f1, wr_row ho]
  have z2 : HC 25 (zer κ) J4 := ⟨by rw [f4, wr_ne (Or.inr (by decide)), f3, wr_ne (Or.inr (by decide)), f2, wr_ne (Or.inr (by decide)), f1]; exact wr_same, by rw [f4, wr_ne (Or.inr (by decide)), f3, wr_ne (Or.inr (by decide)), f2]; exact wr_same, by rw [f4, wr_ne (Or.inr (by decide)), f3]; exact wr_same, by rw [f4]; exact wr_same, row_eq (z1 27 (by decide)) hk.sm, row_eq (z1 29 (by decide)) hk.ss, row_eq (z1 31 (by decide)) hk.sw, row_eq (z1 33 (by decide)) hk.r1, row_eq (z1 35 (by decide)) hk.r2, row_eq (z1 37 (by decide)) hk.r3, row_eq (z1 39 (by decide)) hk.bm, row_eq (z1 41 (by decide)) hk.bs, row_eq (z1 43 (by decide)) hk.cc, row_eq (z1 45 (by decide)) hk.cs⟩
  refine EV.o r_X1_readFrom_20 (icN (0) (v := 0)) ?_
  refine EV.l (lv' := [(0, _), (1, _), (2, _)]) r_X1_readFrom_21 rfl ?_
  have L22 : ∀ y_ : Nat × RST × CT × (Nat → Nat → Int32), (fun y => CRI g n (zer κ) s I y.1 y.2.1 y.2.2.1 y.2.2.2 → EV none M_X1_readFrom d' 22 [(0, .ref 25), (1, .ref 1), (2, .int (nI y.1))] [] (hp y.2.2.2 J) (QU J (fun I' => RD g n (ctsS g n 60 (zer κ) s).2 I' ∧ (∃ K, HC 25 K I' ∧ CU K ∧ ∀ s2, (ctsS g n 60 (zer κ) s).2 = .inl s2 → K = (ctsS g n 60 (zer κ) s).1) ∧ DF I I'))) y_ := by
    refine ev_loop (fun y => 60 - y.1) ?_
    intro ⟨i, r, K, M⟩ ih22 hx22
    try dsimp only at ih22
    try dsimp only at hx22
    try dsimp only
    have i60 := hx22.2.2.2.1
    refine EV.l (lv' := [(0, _), (1, _), (2, _)]) r_X1_readFrom_22 rfl ?_
    refine EV.o r_X1_readFrom_23 (bpN (60) 60) ?_
    refine EV.n2_ge r_X1_readFrom_25 (fun h25 => ?_) (fun h25 => ?_)
    · -- 25 t
      exact EV.ru r_X1_readFrom_52 (hx22.fin (by first | exact Or.inl (by omega) | exact Or.inr (by assumption)))
    · -- 25 f
      refine EV.l (lv' := [(0, _), (1, _), (2, _)]) r_X1_readFrom_28 rfl ?_
      refine EV.cv r_X1_readFrom_29 (aV0 mt_81 la_1) (c_more hx22.2.1 (by omega)) ?_
      refine EV.b0_eq r_X1_readFrom_32 (fun h32 => ?_) (fun h32 => ?_)
      · -- 32 t
        exact EV.ru r_X1_readFrom_52 (hx22.fin (by first | exact Or.inl (by omega) | exact Or.inr (by assumption)))
      · -- 32 f
        obtain ⟨s1, er, hs1⟩ := mor_t h32
        subst er
        have k1 := hx22.2.2.2.2.1
        have k2 := hx22.2.2.2.2.2.1
        refine EV.l (lv' := [(0, _), (1, _), (2, _)]) r_X1_readFrom_35 rfl ?_
        refine EV.l (lv' := [(0, _), (1, _), (2, _)]) r_X1_readFrom_36 rfl ?_
        refine EV.cu r_X1_readFrom_37 (aV1 mt_8 la_25) (c_rCls (tp_fr tp (hx22.1 3 (by decide) (by decide))) gb hn hx22.2.1 k1 k2 (by omega)) (fun I2 h2 => ?_)
        refine EV.l (lv' := [(0, _), (1, _), (2, _)]) r_X1_readFrom_40 rfl ?_
        refine EV.o r_X1_readFrom_41 (bpN (59) 59) ?_
        refine EV.cu r_X1_readFrom_43 (aV1 mt_86 la_1) (c_sign (tp_fr (tp_fr tp (hx22.1 3 (by decide) (by decide))) (h2.2.2 3 (by decide) (by decide))) gb hn h2.1 (by decide) (by omega)) (fun I3 h3 => ?_)
        refine EV.l (lv' := [(0, _), (1, _), (2, _)]) r_X1_readFrom_46 rfl ?_
        rw [inc_nI]
        refine EV.g r_X1_readFrom_49 ?_
        refine EV.sub ?_ rfl ?_ (ih22 (i + 1, (clsS g n K s1).2, (clsS g n K s1).1, I3) ?_ ?_)
        · (try dsimp only) <;> (rfl)
        · (try dsimp only) <;> (rfl)
        · (try dsimp only) <;> (omega)
        · (try dsimp only) <;> (exact hx22.next hs1 (by omega) h2 h3)
  have h0 := L22 (0, .inl s, zer κ, J4)
  try dsimp only at h0
  refine EV.sub ?_ rfl ?_ (h0 ?_)
  · (try dsimp only) <;> (rfl)
  · (try dsimp only) <;> (rfl)
  · (try dsimp only) <;> (exact ⟨fun o a b => z1 o (by omega), (show RD g n (.inl s) I from rg).fr (z1 1 (by decide)), ⟨_, z2, cu.zer.u⟩, by decide, z2, cu.zer, rfl, rfl⟩)
theorem c_cbecome {d : Nat} {I : Nat → Nat → Int32} {J : Nat → Nat → Int64} {κ : CT} (hk : HC 25 κ I)  (hd : 5 ≤ d) : RU d 13 [.ref 4, .ref 25] I J (fun I' => HC 4 κ I' ∧ ∀ o, (o < 4 ∨ 24 < o) → I' o = I o) := by
  refine RU.in (d0 := 4) hd mt_13 (Nat.le_of_ble_eq_true rfl) (fun d' hd' => ?_)
  show EV none M_X1_become d' 0 [(0, .ref 4), (1, .ref 25)] [] (hp I J) _
  refine EV.l (lv' := [(0, _), (1, _)]) r_X1_become_0 rfl ?_
  refine EV.gR r_X1_become_1 la_4 ?_
  refine EV.o r_X1_become_4 (icN (0) (v := 0)) ?_
  refine EV.l (lv' := [(0, _), (1, _)]) r_X1_become_5 rfl ?_
  refine EV.gR r_X1_become_6 la_25 ?_
  refine EV.o r_X1_become_9 (icN (0) (v := 0)) ?_
  refine EV.o r_X1_become_10 (bpN (9) 9) ?_
  refine EV.cu r_X1_become_12 (aV4 mt_94 la_5) (c_copy la_5 la_6 (by decide) (by decide) la_26 la_27 (by decide) (by decide) (by decide) (by omega) (by omega) (by omega)) (fun I2 e2 => ?_)
  have g2 : ∀ x, x ≠ 6 → I2 x = I x := fun x hx => by rw [e2]; exact cpy_row hx
  have v2 : ∀ j, j < 9 → I2 6 j = I 27 (0 + j) := fun j hj => by rw [e2]; exact cpy_at0 hj
  refine EV.l (lv' := [(0, _), (1, _)]) r_X1_become_15 rfl ?_
  refine EV.gR r_X1_become_16 la_4 ?_
  refine EV.o r_X1_become_19 (icN (0) (v := 0)) ?_
  refine EV.l (lv' := [(0, _), (1, _)]) r_X1_become_20 rfl ?_
  refine EV.gR r_X1_become_21 la_25 ?_
  refine EV.o r_X1_become_24 (icN (0) (v := 0)) ?_
  refine EV.o r_X1_become_25 (bpN (9) 9) ?_
  refine EV.cu r_X1_become_27 (aV4 mt_94 la_7) (c_copy la_7 la_8 (by decide) (by decide) la_28 la_29 (by decide) (by decide) (by decide) (by omega) (by omega) (by omega)) (fun I3 e3 => ?_)
  have g3 : ∀ x, x ≠ 8 → I3 x = I2 x := fun x hx => by rw [e3]; exact cpy_row hx
  have v3 : ∀ j, j < 9 → I3 8 j = I2 29 (0 + j) := fun j hj => by rw [e3]; exact cpy_at0 hj
  refine EV.l (lv' := [(0, _), (1, _)]) r_X1_become_30 rfl ?_
  refine EV.gR r_X1_become_31 la_4 ?_
  refine EV.o r_X1_become_34 (icN (0) (v := 0)) ?_
  refine EV.l (lv' := [(0, _), (1, _)]) r_X1_become_35 rfl ?_
  refine EV.gR r_X1_become_36 la_25 ?_
  refine EV.o r_X1_become_39 (icN (0) (v := 0)) ?_
  refine EV.o r_X1_become_40 (bpN (9) 9) ?_
  refine EV.cu r_X1_become_42 (aV4 mt_94 la_9) (c_copy la_9 la_10 (by decide) (by decide) la_30 la_31 (by decide) (by decide) (by decide) (by omega) (by omega) (by omega)) (fun I4 e4 => ?_)
  have g4 : ∀ x, x ≠ 10 → I4 x = I3 x := fun x hx => by rw [e4]; exact cpy_row hx
  have v4 : ∀ j, j < 9 → I4 10 j = I3 31 (0 + j) := fun j hj => by rw [e4]; exact cpy_at0 hj
  refine EV.l (lv' := [(0, _), (1, _)]) r_X1_become_45 rfl ?_
  refine EV.gR r_X1_become_46 la_4 ?_
  refine EV.o r_X1_become_49 (icN (0) (v := 0)) ?_
  refine EV.l (lv' := [(0, _), (1, _)]) r_X1_become_50 rfl ?_
  refine EV.gR r_X1_become_51 la_25 ?_
  refine EV.o r_X1_become_54 (icN (0) (v := 0)) ?_
  refine EV.o r_X1_become_55 (bpN (12) 12) ?_
  refine EV.cu r_X1_become_57 (aV4 mt_94 la_11) (c_copy la_11 la_12 (by decide) (by decide) la_32 la_33 (by decide) (by decide) (by decide) (by omega) (by omega) (by omega)) (fun I5 e5 => ?_)
  have g5 : ∀ x, x ≠ 12 → I5 x = I4 x := fun x hx => by rw [e5]; exact cpy_row hx
  have v5 : ∀ j, j < 12 → I5 12 j = I4 33 (0 + j) := fun j hj => by rw [e5]; exact cpy_at0 hj
  refine EV.l (lv' := [(0, _), (1, _)]) r_X1_become_60 rfl ?_
  refine EV.gR r_X1_become_61 la_4 ?_
  refine EV.o r_X1_become_64 (icN (0) (v := 0)) ?_
  refine EV.l (lv' := [(0, _), (1, _)]) r_X1_become_65 rfl ?_
  refine EV.gR r_X1_become_66 la_25 ?_
  refine EV.o r_X1_become_69 (icN (0) (v := 0)) ?_
  refine EV.o r_X1_become_70 (bpN (12) 12) ?_
  refine EV.cu r_X1_become_72 (aV4 mt_94 la_13) (c_copy la_13 la_14 (by decide) (by decide) la_34 la_35 (by decide) (by decide) (by decide) (by omega) (by omega) (by omega)) (fun I6 e6 => ?_)
  have g6 : ∀ x, x ≠ 14 → I6 x = I5 x := fun x hx => by rw [e6]; exact cpy_row hx
  have v6 : ∀ j, j < 12 → I6 14 j = I5 35 (0 + j) := fun j hj => by rw [e6]; exact cpy_at0 hj
  refine EV.l (lv' := [(0, _), (1, _)]) r_X1_become_75 rfl ?_
  refine EV.gR r_X1_become_76 la_4 ?_
  refine EV.o r_X1_become_79 (icN (0) (v := 0)) ?_
  refine EV.l (lv' := [(0, _), (1, _)]) r_X1_become_80 rfl ?_
  refine EV.gR r_X1_become_81 la_25 ?_
  refine EV.o r_X1_become_84 (icN (0) (v := 0)) ?_
  refine EV.o r_X1_become_85 (bpN (12) 12) ?_
  refine EV.cu r_X1_become_87 (aV4 mt_94 la_15) (c_copy la_15 la_16 (by decide) (by decide) la_36 la_37 (by decide) (by decide) (by decide) (by omega) (by omega) (by omega)) (fun I7 e7 => ?_)
  have g7 : ∀ x, x ≠ 16 → I7 x = I6 x := fun x hx => by rw [e7]; exact cpy_row hx
  have v7 : ∀ j, j < 12 → I7 16 j = I6 37 (0 + j) := fun j hj => by rw [e7]; exact cpy_at0 hj
  refine EV.l (lv' := [(0, _), (1, _)]) r_X1_become_90 rfl ?_
  refine EV.gR r_X1_become_91 la_4 ?_
  refine EV.o r_X1_become_94 (icN (0) (v := 0)) ?_
  refine EV.l (lv' := [(0, _), (1, _)]) r_X1_become_95 rfl ?_
  refine EV.gR r_X1_become_96 la_25 ?_
  refine EV.o r_X1_become_99 (icN (0) (v := 0)) ?_
  refine EV.o r_X1_become_100 (icN (4) (v := 4)) ?_
  refine EV.cu r_X1_become_101 (aV4 mt_94 la_17) (c_copy la_17 la_18 (by decide) (by decide) la_38 la_39 (by decide) (by decide) (by decide) (by omega) (by omega) (by omega)) (fun I8 e8 => ?_)
  have g8 : ∀ x, x ≠ 18 → I8 x = I7 x := fun x hx => by rw [e8]; exact cpy_row hx
  have v8 : ∀ j, j < 4 → I8 18 j = I7 39 (0 + j) := fun j hj => by rw [e8]; exact cpy_at0 hj
  refine EV.l (lv' := [(0, _), (1, _)]) r_X1_become_104 rfl ?_
  refine EV.gR r_X1_become_105 la_4 ?_
  refine EV.o r_X1_become_108 (icN (0) (v := 0)) ?_
  refine EV.l (lv' := [(0, _), (1, _)]) r_X1_become_109 rfl ?_
  refine EV.gR r_X1_become_110 la_25 ?_
  refine EV.o r_X1_become_113 (icN (0) (v := 0)) ?_
  refine EV.o r_X1_become_114 (icN (4) (v := 4)) ?_
  refine EV.cu r_X1_become_115 (aV4 mt_94 la_19) (c_copy la_19 la_20 (by decide) (by decide) la_40 la_41 (by decide) (by decide) (by decide) (by omega) (by omega) (by omega)) (fun I9 e9 => ?_)
  have g9 : ∀ x, x ≠ 20 → I9 x = I8 x := fun x hx => by rw [e9]; exact cpy_row hx
  have v9 : ∀ j, j < 4 → I9 20 j = I8 41 (0 + j) := fun j hj => by rw [e9]; exact cpy_at0 hj
  refine EV.l (lv' := [(0, _), (1, _)]) r_X1_become_118 rfl ?_
  refine EV.gR r_X1_become_119 la_4 ?_
  refine EV.o r_X1_become_122 (icN (0) (v := 0)) ?_
  refine EV.l (lv' := [(0, _), (1, _)]) r_X1_become_123 rfl ?_
  refine EV.gR r_X1_become_124 la_25 ?_
  refine EV.o r_X1_become_127 (icN (0) (v := 0)) ?_
  refine EV.o r_X1_become_128 (icN (4) (v := 4)) ?_
  refine EV.cu r_X1_become_129 (aV4 mt_94 la_21) (c_copy la_21 la_22 (by decide) (by decide) la_42 la_43 (by decide) (by decide) (by decide) (by omega) (by omega) (by omega)) (fun I10 e10 => ?_)
  have g10 : ∀ x, x ≠ 22 → I10 x = I9 x := fun x hx => by rw [e10]; exact cpy_row hx
  have v10 : ∀ j, j < 4 → I10 22 j = I9 43 (0 + j) := fun j hj => by rw [e10]; exact cpy_at0 hj
  refine EV.l (lv' := [(0, _), (1, _)]) r_X1_become_132 rfl ?_
  refine EV.gR r_X1_become_133 la_4 ?_
  refine EV.o r_X1_become_136 (icN (0) (v := 0)) ?_
  refine EV.l (lv' := [(0, _), (1, _)]) r_X1_become_137 rfl ?_
  refine EV.gR r_X1_become_138 la_25 ?_
  refine EV.o r_X1_become_141 (icN (0) (v := 0)) ?_
  refine EV.o r_X1_become_142 (icN (4) (v := 4)) ?_
  refine EV.cu r_X1_become_143 (aV4 mt_94 la_23) (c_copy la_23 la_24 (by decide) (by decide) la_44 la_45 (by decide) (by decide) (by decide) (by omega) (by omega) (by omega)) (fun I11 e11 => ?_)
  have g11 : ∀ x, x ≠ 24 → I11 x = I10 x := fun x hx => by rw [e11]; exact cpy_row hx
  have v11 : ∀ j, j < 4 → I11 24 j = I10 45 (0 + j) := fun j hj => by rw [e11]; exact cpy_at0 hj
  refine EV.l (lv' := [(0, _), (1, _)]) r_X1_become_146 rfl ?_
  refine EV.l (lv' := [(0, _), (1, _)]) r_X1_become_147 rfl ?_
  refine EV.getV r_X1_become_148 la_25 (((congrFun ((g11 25 (by decide)).trans ((g10 25 (by decide)).trans ((g9 25 (by decide)).trans ((g8 25 (by decide)).trans ((g7 25 (by decide)).trans ((g6 25 (by decide)).trans ((g5 25 (by decide)).trans ((g4 25 (by decide)).trans ((g3 25 (by decide)).trans (g2 25 (by decide))))))))))) 10).trans (hk.ns))) ?_
  refine EV.pIn r_X1_become_151 la_4 (fun I12 e12 => ?_)
  refine EV.l (lv' := [(0, _), (1, _)]) r_X1_become_154 rfl ?_
  refine EV.l (lv' := [(0, _), (1, _)]) r_X1_become_155 rfl ?_
  refine EV.getV r_X1_become_156 la_25 (((congrFun (((congrFun e12 25).trans (wr_row (by decide))).trans ((g11 25 (by decide)).trans ((g10 25 (by decide)).trans ((g9 25 (by decide)).trans ((g8 25 (by decide)).trans ((g7 25 (by decide)).trans ((g6 25 (by decide)).trans ((g5 25 (by decide)).trans ((g4 25 (by decide)).trans ((g3 25 (by decide)).trans (g2 25 (by decide)))))))))))) 11).trans (hk.nr))) ?_
  refine EV.pIn r_X1_become_159 la_4 (fun I13 e13 => ?_)
  refine EV.l (lv' := [(0, _), (1, _)]) r_X1_become_162 rfl ?_
  refine EV.l (lv' := [(0, _), (1, _)]) r_X1_become_163 rfl ?_
  refine EV.getV r_X1_become_164 la_25 (((congrFun (((congrFun e13 25).trans (wr_row (by decide))).trans (((congrFun e12 25).trans (wr_row (by decide))).trans ((g11 25 (by decide)).trans ((g10 25 (by decide)).trans ((g9 25 (by decide)).trans ((g8 25 (by decide)).trans ((g7 25 (by decide)).trans ((g6 25 (by decide)).trans ((g5 25 (by decide)).trans ((g4 25 (by decide)).trans ((g3 25 (by decide)).trans (g2 25 (by decide))))))))))))) 12).trans (hk.nb))) ?_
  refine EV.pIn r_X1_become_167 la_4 (fun I14 e14 => ?_)
  refine EV.l (lv' := [(0, _), (1, _)]) r_X1_become_170 rfl ?_
  refine EV.l (lv' := [(0, _), (1, _)]) r_X1_become_171 rfl ?_
  refine EV.getV r_X1_become_172 la_25 (((congrFun (((congrFun e14 25).trans (wr_row (by decide))).trans (((congrFun e13 25).trans (wr_row (by decide))).trans (((congrFun e12 25).trans (wr_row (by decide))).trans ((g11 25 (by decide)).trans ((g10 25 (by decide)).trans ((g9 25 (by decide)).trans ((g8 25 (by decide)).trans ((g7 25 (by decide)).trans ((g6 25 (by decide)).trans ((g5 25 (by decide)).trans ((g4 25 (by decide)).trans ((g3 25 (by decide)).trans (g2 25 (by decide)))))))))))))) 13).trans (hk.nc))) ?_
  refine EV.pIn r_X1_become_175 la_4 (fun I15 e15 => ?_)
  exact EV.ru r_X1_become_178 (⟨⟨(((congrFun (congrFun e15 4) 10).trans (wr_ne (Or.inr (by decide)))).trans (((congrFun (congrFun e14 4) 10).trans (wr_ne (Or.inr (by decide)))).trans (((congrFun (congrFun e13 4) 10).trans (wr_ne (Or.inr (by decide)))).trans ((congrFun (congrFun e12 4) 10).trans wr_same)))), (((congrFun (congrFun e15 4) 11).trans (wr_ne (Or.inr (by decide)))).trans (((congrFun (congrFun e14 4) 11).trans (wr_ne (Or.inr (by decide)))).trans ((congrFun (congrFun e13 4) 11).trans wr_same))), (((congrFun (congrFun e15 4) 12).trans (wr_ne (Or.inr (by decide)))).trans ((congrFun (congrFun e14 4) 12).trans wr_same)), ((congrFun (congrFun e15 4) 13).trans wr_same), (fun j hj => (congrFun (((congrFun e15 6).trans (wr_row (by decide))).trans (((congrFun e14 6).trans (wr_row (by decide))).trans (((congrFun e13 6).trans (wr_row (by decide))).trans (((congrFun e12 6).trans (wr_row (by decide))).trans ((g11 6 (by decide)).trans ((g10 6 (by decide)).trans ((g9 6 (by decide)).trans ((g8 6 (by decide)).trans ((g7 6 (by decide)).trans ((g6 6 (by decide)).trans ((g5 6 (by decide)).trans ((g4 6 (by decide)).trans (g3 6 (by decide)))))))))))))) j).trans ((v2 j hj).trans ((by rw [Nat.zero_add]; exact hk.sm j hj)))), (fun j hj => (congrFun (((congrFun e15 8).trans (wr_row (by decide))).trans (((congrFun e14 8).trans (wr_row (by decide))).trans (((congrFun e13 8).trans (wr_row (by decide))).trans (((congrFun e12 8).trans (wr_row (by decide))).trans ((g11 8 (by decide)).trans ((g10 8 (by decide)).trans ((g9 8 (by decide)).trans ((g8 8 (by decide)).trans ((g7 8 (by decide)).trans ((g6 8 (by decide)).trans ((g5 8 (by decide)).trans (g4 8 (by decide))))))))))))) j).trans ((v3 j hj).trans ((congrFun (g2 29 (by decide)) (0 + j)).trans (by rw [Nat.zero_add]; exact hk.ss j hj)))), (fun j hj => (congrFun (((congrFun e15 10).trans (wr_row (by decide))).trans (((congrFun e14 10).trans (wr_row (by decide))).trans (((congrFun e13 10).trans (wr_row (by decide))).trans (((congrFun e12 10).trans (wr_row (by decide))).trans ((g11 10 (by decide)).trans ((g10 10 (by decide)).trans ((g9 10 (by decide)).trans ((g8 10 (by decide)).trans ((g7 10 (by decide)).trans ((g6 10 (by decide)).trans (g5 10 (by decide)))))))))))) j).trans ((v4 j hj).trans ((congrFun ((g3 31 (by decide)).trans (g2 31 (by decide))) (0 + j)).trans (by rw [Nat.zero_add]; exact hk.sw j hj)))), (fun j hj => (congrFun (((congrFun e15 12).trans (wr_row (by decide))).trans (((congrFun e14 12).trans (wr_row (by decide))).trans (((congrFun e13 12).trans (wr_row (by decide))).trans (((congrFun e12 12).trans (wr_row (by decide))).trans ((g11 12 (by decide)).trans ((g10 12 (by decide)).trans ((g9 12 (by decide)).trans ((g8 12 (by decide)).trans ((g7 12 (by decide)).trans (g6 12 (by decide))))))))))) j).trans ((v5 j hj).trans ((congrFun ((g4 33 (by decide)).trans ((g3 33 (by decide)).trans (g2 33 (by decide)))) (0 + j)).trans (by rw [Nat.zero_add]; exact hk.r1 j hj)))), (fun j hj => (congrFun (((congrFun e15 14).trans (wr_row (by decide))).trans (((congrFun e14 14).trans (wr_row (by decide))).trans (((congrFun e13 14).trans (wr_row (by decide))).trans (((congrFun e12 14).trans (wr_row (by decide))).trans ((g11 14 (by decide)).trans ((g10 14 (by decide)).trans ((g9 14 (by decide)).trans ((g8 14 (by decide)).trans (g7 14 (by decide)))))))))) j).trans ((v6 j hj).trans ((congrFun ((g5 35 (by decide)).trans ((g4 35 (by decide)).trans ((g3 35 (by decide)).trans (g2 35 (by decide))))) (0 + j)).trans (by rw [Nat.zero_add]; exact hk.r2 j hj)))), (fun j hj => (congrFun (((congrFun e15 16).trans (wr_row (by decide))).trans (((congrFun e14 16).trans (wr_row (by decide))).trans (((congrFun e13 16).trans (wr_row (by decide))).trans (((congrFun e12 16).trans (wr_row (by decide))).trans ((g11 16 (by decide)).trans ((g10 16 (by decide)).trans ((g9 16 (by decide)).trans (g8 16 (by decide))))))))) j).trans ((v7 j hj).trans ((congrFun ((g6 37 (by decide)).trans ((g5 37 (by decide)).trans ((g4 37 (by decide)).trans ((g3 37 (by decide)).trans (g2 37 (by decide)))))) (0 + j)).trans (by rw [Nat.zero_add]; exact hk.r3 j hj)))), (fun j hj => (congrFun (((congrFun e15 18).trans (wr_row (by decide))).trans (((congrFun e14 18).trans (wr_row (by decide))).trans (((congrFun e13 18).trans (wr_row (by decide))).trans (((congrFun e12 18).trans (wr_row (by decide))).trans ((g11 18 (by decide)).trans ((g10 18 (by decide)).trans (g9 18 (by decide)))))))) j).trans ((v8 j hj).trans ((congrFun ((g7 39 (by decide)).trans ((g6 39 (by decide)).trans ((g5 39 (by decide)).trans ((g4 39 (by decide)).trans ((g3 39 (by decide)).trans (g2 39 (by decide))))))) (0 + j)).trans (by rw [Nat.zero_add]; exact hk.bm j hj)))), (fun j hj => (congrFun (((congrFun e15 20).trans (wr_row (by decide))).trans (((congrFun e14 20).trans (wr_row (by decide))).trans (((congrFun e13 20).trans (wr_row (by decide))).trans (((congrFun e12 20).trans (wr_row (by decide))).trans ((g11 20 (by decide)).trans (g10 20 (by decide))))))) j).trans ((v9 j hj).trans ((congrFun ((g8 41 (by decide)).trans ((g7 41 (by decide)).trans ((g6 41 (by decide)).trans ((g5 41 (by decide)).trans ((g4 41 (by decide)).trans ((g3 41 (by decide)).trans (g2 41 (by decide)))))))) (0 + j)).trans (by rw [Nat.zero_add]; exact hk.bs j hj)))), (fun j hj => (congrFun (((congrFun e15 22).trans (wr_row (by decide))).trans (((congrFun e14 22).trans (wr_row (by decide))).trans (((congrFun e13 22).trans (wr_row (by decide))).trans (((congrFun e12 22).trans (wr_row (by decide))).trans (g11 22 (by decide)))))) j).trans ((v10 j hj).trans ((congrFun ((g9 43 (by decide)).trans ((g8 43 (by decide)).trans ((g7 43 (by decide)).trans ((g6 43 (by decide)).trans ((g5 43 (by decide)).trans ((g4 43 (by decide)).trans ((g3 43 (by decide)).trans (g2 43 (by decide))))))))) (0 + j)).trans (by rw [Nat.zero_add]; exact hk.cc j hj)))), (fun j hj => (congrFun (((congrFun e15 24).trans (wr_row (by decide))).trans (((congrFun e14 24).trans (wr_row (by decide))).trans (((congrFun e13 24).trans (wr_row (by decide))).trans ((congrFun e12 24).trans (wr_row (by decide)))))) j).trans ((v11 j hj).trans ((congrFun ((g10 45 (by decide)).trans ((g9 45 (by decide)).trans ((g8 45 (by decide)).trans ((g7 45 (by decide)).trans ((g6 45 (by decide)).trans ((g5 45 (by decide)).trans ((g4 45 (by decide)).trans ((g3 45 (by decide)).trans (g2 45 (by decide)))))))))) (0 + j)).trans (by rw [Nat.zero_add]; exact hk.cs j hj))))⟩, fun o ho => (((congrFun e15 o).trans (wr_row (by omega))).trans (((congrFun e14 o).trans (wr_row (by omega))).trans (((congrFun e13 o).trans (wr_row (by omega))).trans (((congrFun e12 o).trans (wr_row (by omega))).trans ((g11 o (by omega)).trans ((g10 o (by omega)).trans ((g9 o (by omega)).trans ((g8 o (by omega)).trans ((g7 o (by omega)).trans ((g6 o (by omega)).trans ((g5 o (by omega)).trans ((g4 o (by omega)).trans ((g3 o (by omega)).trans (g2 o (by omega)))))))))))))))⟩)
theorem c_lreset {d : Nat} {I : Nat → Nat → Int32} {J : Nat → Nat → Int64}  (hd : 3 ≤ d) : RU d 48 [.ref 46] I J (fun I' => HL 46 l0 I' ∧ ∀ o, o ≠ 46 → o ≠ 48 → I' o = I o) := by
  refine RU.in (d0 := 2) hd mt_48 (Nat.le_of_ble_eq_true rfl) (fun d' hd' => ?_)
  show EV none M_X3_reset d' 0 [(0, .ref 46)] [] (hp I J) _
  refine EV.l (lv' := [(0, _)]) r_X3_reset_0 rfl ?_
  refine EV.gR r_X3_reset_1 la_46 ?_
  refine EV.o r_X3_reset_4 (icN (0) (v := 0)) ?_
  refine EV.o r_X3_reset_5 (icZ (-1)) ?_
  refine EV.cu r_X3_reset_6 (aV2 mt_93 la_47) (c_set la_47 la_48 (by decide) (by decide) (by omega) (by omega)) (fun I2 e2 => ?_)
  refine EV.l (lv' := [(0, _)]) r_X3_reset_9 rfl ?_
  refine EV.o r_X3_reset_10 (icN (1) (v := 1)) ?_
  refine EV.pIn r_X3_reset_11 la_46 (fun I3 e3 => ?_)
  exact EV.ru r_X3_reset_14 (⟨HL.l0 (by rw [e3]; exact wr_same) (by rw [e3, wr_row (by decide), e2]; exact wr_same), fun o a b => by rw [e3, wr_row a, e2, wr_row b]⟩)
theorem c_breset {d : Nat} {I : Nat → Nat → Int32} {J : Nat → Nat → Int64} {b : Nat} (lb_ : LAYO[b]? = some (.inr (.inr (0, [none, none]))))  (hd : 1 ≤ d) : RU d 1 [.ref b] I J (fun I' => I' b 0 = nI 0 ∧ I' b 1 = nI 0 ∧ ∀ o, o ≠ b → I' o = I o) := by
  refine RU.in (d0 := 0) hd mt_1 (Nat.le_of_ble_eq_true rfl) (fun d' hd' => ?_)
  show EV none M_X0_reset d' 0 [(0, .ref b)] [] (hp I J) _
  refine EV.l (lv' := [(0, _)]) r_X0_reset_0 rfl ?_
  refine EV.o r_X0_reset_1 (icN (0) (v := 0)) ?_
  refine EV.pIn r_X0_reset_2 lb_ (fun I2 e2 => ?_)
  refine EV.l (lv' := [(0, _)]) r_X0_reset_5 rfl ?_
  refine EV.o r_X0_reset_6 (icN (0) (v := 0)) ?_
  refine EV.pIn r_X0_reset_7 lb_ (fun I3 e3 => ?_)
  exact EV.ru r_X0_reset_10 (⟨by rw [e3, wr_ne (Or.inr (by decide)), e2]; exact wr_same, by rw [e3]; exact wr_same, fun o a => by rw [e3, wr_row a, e2, wr_row a]⟩)
theorem c_preset {d : Nat} {I : Nat → Nat → Int32} {J : Nat → Nat → Int64}  (hd : 1 ≤ d) : RU d 60 [.ref 82] I J (fun I' => I' 82 3 = nI 0 ∧ I' 82 4 = nI 0 ∧ ∀ o, o ≠ 82 → I' o = I o) := by
  refine RU.in (d0 := 0) hd mt_60 (Nat.le_of_ble_eq_true rfl) (fun d' hd' => ?_)
  show EV none M_X4_reset d' 0 [(0, .ref 82)] [] (hp I J) _
  refine EV.l (lv' := [(0, _)]) r_X4_reset_0 rfl ?_
  refine EV.o r_X4_reset_1 (icN (0) (v := 0)) ?_
  refine EV.pIn r_X4_reset_2 la_82 (fun I2 e2 => ?_)
  refine EV.l (lv' := [(0, _)]) r_X4_reset_5 rfl ?_
  refine EV.o r_X4_reset_6 (icN (0) (v := 0)) ?_
  refine EV.pIn r_X4_reset_7 la_82 (fun I3 e3 => ?_)
  exact EV.ru r_X4_reset_10 (⟨by rw [e3, wr_ne (Or.inr (by decide)), e2]; exact wr_same, by rw [e3]; exact wr_same, fun o a => by rw [e3, wr_row a, e2, wr_row a]⟩)
theorem c_begin {d : Nat} {I : Nat → Nat → Int32} {J : Nat → Nat → Int64} {κ : CT} {l : LW} {w : Nat → Nat} (hc_ : HC 4 κ I) (cb : CB κ) (h79 : ∀ j, j < 4 → I 79 j = nI (w j)) (w40 : ∀ j, w j ≤ 40) (hl : HL 46 l I) (lb : LB l)  (hd : 6 ≤ d) : RU d 24 [.ref 71] I J (fun I' => HH 71 (ms κ l (beg κ w) κ.nb) I' ∧ ∀ o, o ≠ 50 → o ≠ 52 → (o < 71 ∨ 81 < o) → I' o = I o) := by
  refine RU.in (d0 := 5) hd mt_24 (Nat.le_of_ble_eq_true rfl) (fun d' hd' => ?_)
  show EV none M_X2_begin d' 0 [(0, .ref 71)] [] (hp I J) _
  refine EV.l (lv' := [(0, _)]) r_X2_begin_0 rfl ?_
  refine EV.o r_X2_begin_1 (icN (0) (v := 0)) ?_
  refine EV.pIn r_X2_begin_2 la_71 (fun K1 f1 => ?_)
  refine EV.l (lv' := [(0, _)]) r_X2_begin_5 rfl ?_
  refine EV.o r_X2_begin_6 (icN (0) (v := 0)) ?_
  refine EV.pIn r_X2_begin_7 la_71 (fun K0 f0 => ?_)
  have g0 : ∀ x, x ≠ 71 → K0 x = I x := fun x hx => by rw [f0, wr_row hx, f1]; exact wr_row hx
  have k7 : K0 71 7 = nI 0 := by rw [f0, wr_ne (Or.inr (by decide)), f1]; exact wr_same
  have k8 : K0 71 8 = nI 0 := by rw [f0]; exact wr_same
  refine EV.l (lv' := [(0, _)]) r_X2_begin_10 rfl ?_
  refine EV.gR r_X2_begin_11 la_71 ?_
  refine EV.o r_X2_begin_14 (icN (0) (v := 0)) ?_
  refine EV.l (lv' := [(0, _)]) r_X2_begin_15 rfl ?_
  refine EV.gR r_X2_begin_16 la_71 ?_
  refine EV.gR r_X2_begin_19 la_4 ?_
  refine EV.o r_X2_begin_22 (icN (0) (v := 0)) ?_
  refine EV.o r_X2_begin_23 (bpN (9) 9) ?_
  refine EV.cu r_X2_begin_25 (aV4 mt_94 la_72) (c_copy la_72 la_73 (by decide) (by decide) la_5 la_6 (by decide) (by decide) (by decide) (by omega) (by omega) (by omega)) (fun K72 e72 => ?_)
  have g72 : ∀ x, x ≠ 73 → K72 x = K0 x := fun x hx => by rw [e72]; exact cpy_row hx
  have v72 : ∀ j, j < 9 → K72 73 j = K0 6 (0 + j) := fun j hj => by rw [e72]; exact cpy_at0 hj
  refine EV.l (lv' := [(0, _)]) r_X2_begin_28 rfl ?_
  refine EV.gR r_X2_begin_29 la_71 ?_
  refine EV.o r_X2_begin_32 (icN (0) (v := 0)) ?_
  refine EV.l (lv' := [(0, _)]) r_X2_begin_33 rfl ?_
  refine EV.gR r_X2_begin_34 la_71 ?_
  refine EV.gR r_X2_begin_37 la_4 ?_
  refine EV.o r_X2_begin_40 (icN (0) (v := 0)) ?_
  refine EV.o r_X2_begin_41 (icN (4) (v := 4)) ?_
  refine EV.cu r_X2_begin_42 (aV4 mt_94 la_74) (c_copy la_74 la_75 (by decide) (by decide) la_17 la_18 (by decide) (by decide) (by decide) (by omega) (by omega) (by omega)) (fun K74 e74 => ?_)
  have g74 : ∀ x, x ≠ 75 → K74 x = K72 x := fun x hx => by rw [e74]; exact cpy_row hx
  have v74 : ∀ j, j < 4 → K74 75 j = K72 18 (0 + j) := fun j hj => by rw [e74]; exact cpy_at0 hj
  refine EV.o r_X2_begin_45 (icN (0) (v := 0)) ?_
  refine EV.l (lv' := [(0, _), (1, _)]) r_X2_begin_46 rfl ?_
  have L47 : ∀ y_ : Nat × (Nat → Nat → Int32), (fun y => (y.1 ≤ 4 ∧ (∀ o, o ≠ 77 → y.2 o = K74 o) ∧ ∀ j, j < y.1 → y.2 77 j = nI 0) → EV none M_X2_begin d' 47 [(0, .ref 71), (1, .int (nI y.1))] [] (hp y.2 J) (QU J (fun I' => HH 71 (ms κ l (beg κ w) κ.nb) I' ∧ ∀ o, o ≠ 50 → o ≠ 52 → (o < 71 ∨ 81 < o) → I' o = I o))) y_ := by
    refine ev_loop (fun y => 4 - y.1) ?_
    intro ⟨i, M⟩ ih47 hx47
    try dsimp only at ih47
    try dsimp only at hx47
    try dsimp only
    refine EV.l (lv' := [(0, _), (1, _)]) r_X2_begin_47 rfl ?_
    refine EV.o r_X2_begin_48 (icN (4) (v := 4)) ?_
    refine EV.n2_ge r_X2_begin_49 (fun h49 => ?_) (fun h49 => ?_)
    · -- 49 t
      refine EV.l (lv' := [(0, _), (1, _)]) r_X2_begin_67 rfl ?_
      refine EV.gR r_X2_begin_68 la_71 ?_
      refine EV.o r_X2_begin_71 (icN (0) (v := 0)) ?_
      refine EV.l (lv' := [(0, _), (1, _)]) r_X2_begin_72 rfl ?_
      refine EV.gR r_X2_begin_73 la_71 ?_
      refine EV.gR r_X2_begin_76 la_4 ?_
      refine EV.o r_X2_begin_79 (icN (0) (v := 0)) ?_
      refine EV.o r_X2_begin_80 (icN (4) (v := 4)) ?_
      refine EV.cu r_X2_begin_81 (aV4 mt_94 la_80) (c_copy la_80 la_81 (by decide) (by decide) la_21 la_22 (by decide) (by decide) (by decide) (by omega) (by omega) (by omega)) (fun K80 e80 => ?_)
      have g80 : ∀ x, x ≠ 81 → K80 x = M x := fun x hx => by rw [e80]; exact cpy_row hx
      have v80 : ∀ j, j < 4 → K80 81 j = M 22 (0 + j) := fun j hj => by rw [e80]; exact cpy_at0 hj
      refine EV.l (lv' := [(0, _), (1, _)]) r_X2_begin_84 rfl ?_
      have z0 : ∀ x, (x < 71 ∨ 81 < x) → K80 x = I x := fun x hx => by rw [g80 x (by omega), hx47.2.1 x (by omega), g74 x (by omega), g72 x (by omega)]; exact g0 x (by omega)
      have y0 : ∀ x, x ≠ 77 → x ≠ 81 → K80 x = K74 x := fun x a1 a2 => by rw [g80 x a2]; exact hx47.2.1 x a1
      have hh4 : HH 71 (beg κ w) K80 := ⟨by rw [y0 71 (by decide) (by decide), g74 71 (by decide), g72 71 (by decide)]; exact k7, by rw [y0 71 (by decide) (by decide), g74 71 (by decide), g72 71 (by decide)]; exact k8, fun j hj => by rw [y0 73 (by decide) (by decide), g74 73 (by decide), v72 j hj, g0 6 (by decide), Nat.zero_add]; exact hc_.sm j hj, fun j hj => by rw [y0 75 (by decide) (by decide), v74 j hj, g72 18 (by decide), g0 18 (by decide), Nat.zero_add]; exact hc_.bm j hj, fun j hj => by rw [g80 77 (by decide)]; exact hx47.2.2 j (by omega), fun j hj => by rw [y0 79 (by decide) (by decide), g74 79 (by decide), g72 79 (by decide), g0 79 (by decide)]; exact h79 j hj, fun j hj => by rw [v80 j hj, hx47.2.1 22 (by decide), g74 22 (by decide), g72 22 (by decide), g0 22 (by decide), Nat.zero_add]; exact hc_.cc j hj⟩
      refine EV.cu r_X2_begin_85 (aV0 mt_28 la_71) (c71_measure (hc_.fr (fun x a1 a2 => z0 x (by omega))) cb hh4 (HB.beg cb w40) (hl.fr (z0 46 (by omega)) (z0 48 (by omega))) lb (by omega)) (fun I8 h8 => ?_)
      obtain ⟨h8a, h8b⟩ := h8
      exact EV.ru r_X2_begin_88 (⟨h8a, fun o a1 a2 a3 => (h8b o a1 a2 (by omega)).trans (z0 o a3)⟩)
    · -- 49 f
      refine EV.l (lv' := [(0, _), (1, _)]) r_X2_begin_52 rfl ?_
      refine EV.gR r_X2_begin_53 la_71 ?_
      refine EV.l (lv' := [(0, _), (1, _)]) r_X2_begin_56 rfl ?_
      refine EV.o r_X2_begin_57 (icN (0) (v := 0)) ?_
      refine EV.cu r_X2_begin_58 (aV2 mt_93 la_76) (c_set la_76 la_77 (by decide) (by decide) (by omega) (by omega)) (fun I9 e9 => ?_)
      refine EV.l (lv' := [(0, _), (1, _)]) r_X2_begin_61 rfl ?_
      rw [inc_nI]
      refine EV.g r_X2_begin_64 ?_
      refine EV.sub ?_ rfl ?_ (ih47 (i + 1, I9) ?_ ?_)
      · (try dsimp only) <;> (rfl)
      · (try dsimp only) <;> (rfl)
      · (try dsimp only) <;> (omega)
      · (try dsimp only) <;> (exact ⟨by omega, fun o ho => by rw [e9, wr_row ho]; exact hx47.2.1 o ho, by rw [e9]; exact wr_zero hx47.2.2⟩)
  have h0 := L47 (0, K74)
  try dsimp only at h0
  refine EV.sub ?_ rfl ?_ (h0 ?_)
  · (try dsimp only) <;> (rfl)
  · (try dsimp only) <;> (rfl)
  · (try dsimp only) <;> (exact ⟨by decide, fun o _ => rfl, fun j hj => absurd hj (Nat.not_lt_zero j)⟩)
