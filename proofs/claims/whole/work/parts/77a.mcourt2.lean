/-! COURT: the model's loop and call. -/
def okr (r : RST) : Bool := match r with
  | .inl _ => true
  | .inr _ => false
theorem m_fine {d : Nat} {I : Nat → Nat → Int32} {J : Nat → Nat → Int64} {g : Nat → Nat} {n : Nat} {r : RST} (md : MD g n r I) (hn : n ≤ 600) (hd : 1 ≤ d) : RV d 173 [.ref 106] I J (bI (okr r)) := by
  cases r with
  | inl s => exact m_fineG md hd
  | inr q => obtain ⟨k, f⟩ := q; exact m_fineB (show MB n k f I from md) hn hd
theorem okr_t {r : RST} (h : okr r = true) : ∃ s, r = .inl s := by
  cases r with
  | inl s => exact ⟨s, rfl⟩
  | inr q => exact absurd (show false = true from h) (by decide)
theorem okr_f {r : RST} (h : okr r = false) : ∃ k f, r = .inr (k, f) := by
  cases r with
  | inl s => exact absurd (show true = false from h) (by decide)
  | inr q => exact ⟨q.1, q.2, rfl⟩
theorem m_rowN {d : Nat} {I : Nat → Nat → Int32} {J : Nat → Nat → Int64} {w k : Nat} {b : Bool} (e : rwo w b = (k : Int)) (hw : w < 2147483648) (hd : 2 ≤ d) : RV d 190 [.int (nI w), .int (bI b)] I J (nI k) := by
  have h := m_rowOf (b := b) (I := I) (J := J) hw hd
  rw [e, zI_nat] at h
  exact h
theorem m_rowZ {d : Nat} {I : Nat → Nat → Int32} {J : Nat → Nat → Int64} {w : Nat} {b : Bool} (e : rwo w b = -1) (hw : w < 2147483648) (hd : 2 ≤ d) : RV d 190 [.int (nI w), .int (bI b)] I J (zI (-1)) := by
  have h := m_rowOf (b := b) (I := I) (J := J) hw hd
  rw [e] at h
  exact h
/-- where the reading of a court stands, behind i clauses -/
def MRI (g : Nat → Nat) (n : Nat) (κ : CT) (s0 : Nat) (I : Nat → Nat → Int32) (i : Nat) (r : RST) (K : CT) (M : Nat → Nat → Int32) : Prop := MF I M ∧ MD g n r M ∧ i ≤ 60 ∧ match r with
  | .inl s => MCd K M ∧ CB K ∧ nall K = i ∧ ctsS g n (60 - i) K s = ctsS g n 60 κ s0
  | .inr q => (ctsS g n 60 κ s0).2 = .inr q
def MRF (g : Nat → Nat) (n : Nat) (κ : CT) (s0 : Nat) (I M : Nat → Nat → Int32) : Prop := MD g n (ctsS g n 60 κ s0).2 M ∧ (∀ s2, (ctsS g n 60 κ s0).2 = .inl s2 → MCd (ctsS g n 60 κ s0).1 M) ∧ MF I M
theorem MRI.bad {g : Nat → Nat} {n s0 i : Nat} {q : Nat × Nat} {κ K : CT} {I M : Nat → Nat → Int32} (h : MRI g n κ s0 I i (.inr q) K M) : MRF g n κ s0 I M := by
  obtain ⟨a1, a2, a3, a4⟩ := h
  have a4 : (ctsS g n 60 κ s0).2 = .inr q := a4
  unfold MRF
  rw [a4]
  exact ⟨a2, fun s2 z => inr_ne z, a1⟩
theorem MP.mf {I I' : Nat → Nat → Int32} (h : MP I I') : MF I I' := h.mo.mf
theorem MRI.end {g : Nat → Nat} {n s0 s1 i : Nat} {κ K : CT} {I M M2 : Nat → Nat → Int32} (h : MRI g n κ s0 I i (.inl s1) K M) (hs : ¬ s1 < n) (mg : MG g n s1 M2) (mp : MP M M2) : MRF g n κ s0 I M2 := by
  obtain ⟨a1, a2, a3, b1, b2, b3, b4⟩ := h
  rw [ctsS_end (Nat.le_of_not_lt hs)] at b4
  unfold MRF
  rw [← b4]
  exact ⟨mg, fun _ _ => b1.mo mp.mo, a1.tr mp.mf⟩
/-- a fault ahead of a clause -/
theorem MRI.flt {g : Nat → Nat} {n s0 s1 i k : Nat} {κ K : CT} {I M M2 : Nat → Nat → Int32} (h : MRI g n κ s0 I i (.inl s1) K M) (hs : s1 < n) (hi : i < 60) (e : (clsT g n K s1).2 = .inr (k, s1)) (mb : MB n k s1 M2) (mf : MF M M2) : MRF g n κ s0 I M2 := by
  obtain ⟨a1, a2, a3, b1, b2, b3, b4⟩ := h
  have e2 : (clsS g n K s1).2 = .inr (k, s1) := by show tkS g n 59 (clsT g n K s1).2 = _; rw [e]; rfl
  have e3 : (ctsS g n 60 κ s0).2 = .inr (k, s1) := by
    rw [← b4, show 60 - i = 60 - (i + 1) + 1 by omega]
    exact ctsS_bad hs e2
  unfold MRF
  rw [e3]
  exact ⟨mb, fun s2 z => inr_ne z, a1.tr mf⟩
theorem MRI.next {g : Nat → Nat} {n s0 s1 i : Nat} {κ K : CT} {I M I2 I3 : Nat → Nat → Int32} (h : MRI g n κ s0 I i (.inl s1) K M) (hs : s1 < n) (hi : i < 60) (h2 : MD g n (clsT g n K s1).2 I2 ∧ (∀ s2, (clsT g n K s1).2 = .inl s2 → MCd (clsT g n K s1).1 I2) ∧ MF M I2) (h3 : MD g n (tkS g n 59 (clsT g n K s1).2) I3 ∧ MO I2 I3) : MRI g n κ s0 I (i + 1) (clsS g n K s1).2 (clsS g n K s1).1 I3 := by
  obtain ⟨a1, a2, a3, b1, b2, b3, b4⟩ := h
  obtain ⟨c1, c2, c3⟩ := h2
  refine ⟨a1.tr (c3.tr h3.2.mf), h3.1, hi, ?_⟩
  cases e : (clsS g n K s1).2 with
  | inl s2 =>
    have ok := clsS_ok b2 e
    obtain ⟨s3, e3⟩ := tkS_ok (show tkS g n 59 (clsT g n K s1).2 = .inl s2 from e)
    refine ⟨(c2 s3 e3).mo h3.2, ok.1, by rw [ok.2, b3], ?_⟩
    rw [← b4, show 60 - i = 60 - (i + 1) + 1 by omega, ctsS_go hs e]
  | inr q =>
    show (ctsS g n 60 κ s0).2 = .inr q
    rw [← b4, show 60 - i = 60 - (i + 1) + 1 by omega]
    exact ctsS_bad hs e
/-- the model's part behind a text that was not taken -/
theorem MIn.txt {S : STT} {I I' : Nat → Nat → Int32} {v : Int32} (h : MIn S I) (h6 : ∀ j, scf j = false → j ≠ 2 → j ≠ 8 → I' 106 j = I 106 j) (h2 : I' 106 2 = nI 0) (h8 : I' 106 8 = v) (f : ∀ o, o ≠ 106 → sco o = false → I' o = I o) : MIn (S.txt v) I' := by
  have e : ∀ j, scf j = false → j ≠ 2 → j ≠ 8 → I' 106 j = I 106 j := h6
  exact ⟨by have z := h.mc; unfold MC at z ⊢; rw [e 22 (by decide) (by decide) (by decide), e 23 (by decide) (by decide) (by decide), e 24 (by decide) (by decide) (by decide), e 25 (by decide) (by decide) (by decide), f 113 (by decide) rfl, f 114 (by decide) rfl, f 115 (by decide) rfl, f 116 (by decide) rfl]; exact z,
    h.mr.fr (f _ (by decide) rfl), h.ml.fr9 (e 32 (by decide) (by decide) (by decide)) (f _ (by decide) rfl) (f _ (by decide) rfl), h2, h8, by rw [f 108 (by decide) rfl]; exact h.tp, (e 38 (by decide) (by decide) (by decide)).trans h.rf, by rw [f 107 (by decide) rfl]; exact h.r0, by rw [f 107 (by decide) rfl]; exact h.r1, (e 47 (by decide) (by decide) (by decide)).trans h.wt, by rw [f 129 (by decide) rfl]; exact h.bk, (e 37 (by decide) (by decide) (by decide)).trans h.w, (e 55 (by decide) (by decide) (by decide)).trans h.im,
    fun k hk => by have := h.ps k hk; unfold MS at this ⊢; rw [f 127 (by decide) rfl]; exact this, by rw [f 134 (by decide) rfl]; exact h.iw, fun i hi => by have := h.ic i hi; unfold MS at this ⊢; rw [f 134 (by decide) rfl]; exact this, fun i k hi hk => by have := h.ip i k hi hk; unfold MS at this ⊢; rw [f 134 (by decide) rfl]; exact this⟩
theorem scf_t {j : Nat} (h : scf j = false) : j ≠ 0 ∧ j ≠ 3 ∧ j ≠ 4 ∧ j ≠ 5 ∧ j ≠ 6 ∧ j ≠ 7 ∧ (j < 18 ∨ 21 < j) ∧ j ≠ 31 ∧ j ≠ 36 ∧ j ≠ 39 ∧ j ≠ 40 ∧ j ≠ 41 := by
  refine ⟨?_, ?_, ?_, ?_, ?_, ?_, Classical.byContradiction fun z => ?_, ?_, ?_, ?_, ?_, ?_⟩
  all_goals first | (intro e; subst e; exact absurd h (by decide)) | skip
  exact absurd h (by rw [(by decide +kernel : ∀ j, j < 22 → 18 ≤ j → scf j = true) j (by omega) (by omega)]; decide)
theorem sco_t {o : Nat} (h : sco o = false) : o < 109 ∨ 112 < o := Classical.byContradiction fun z => absurd h (by rw [(by decide +kernel : ∀ o, o < 113 → 109 ≤ o → sco o = true) o (by omega) (by omega)]; decide)
theorem r_X11_clears_0 : RW M_X11_clears 0 (.aload_n 0) 1 0 0 1 := ⟨rfl, rfl⟩
theorem r_X11_clears_1 : RW M_X11_clears 1 (.iconst 0) 1 0 0 2 := ⟨rfl, rfl⟩
theorem r_X11_clears_2 : RW M_X11_clears 2 (.putfield 154) 3 11 18 5 := ⟨rfl, rfl⟩
theorem r_X11_clears_5 : RW M_X11_clears 5 (.aload_n 0) 1 0 0 6 := ⟨rfl, rfl⟩
theorem r_X11_clears_6 : RW M_X11_clears 6 (.iconst 0) 1 0 0 7 := ⟨rfl, rfl⟩
theorem r_X11_clears_7 : RW M_X11_clears 7 (.putfield 157) 3 11 19 10 := ⟨rfl, rfl⟩
theorem r_X11_clears_10 : RW M_X11_clears 10 (.aload_n 0) 1 0 0 11 := ⟨rfl, rfl⟩
theorem r_X11_clears_11 : RW M_X11_clears 11 (.iconst 0) 1 0 0 12 := ⟨rfl, rfl⟩
theorem r_X11_clears_12 : RW M_X11_clears 12 (.putfield 160) 3 11 20 15 := ⟨rfl, rfl⟩
theorem r_X11_clears_15 : RW M_X11_clears 15 (.aload_n 0) 1 0 0 16 := ⟨rfl, rfl⟩
theorem r_X11_clears_16 : RW M_X11_clears 16 (.iconst 0) 1 0 0 17 := ⟨rfl, rfl⟩
theorem r_X11_clears_17 : RW M_X11_clears 17 (.putfield 163) 3 11 21 20 := ⟨rfl, rfl⟩
theorem r_X11_clears_20 : RW M_X11_clears 20 (.return_) 1 0 0 21 := ⟨rfl, rfl⟩
theorem r_X11_court_0 : RW M_X11_court 0 (.aload_n 0) 1 0 0 1 := ⟨rfl, rfl⟩
theorem r_X11_court_1 : RW M_X11_court 1 (.iconst 0) 1 0 0 2 := ⟨rfl, rfl⟩
theorem r_X11_court_2 : RW M_X11_court 2 (.putfield 3) 3 11 0 5 := ⟨rfl, rfl⟩
theorem r_X11_court_5 : RW M_X11_court 5 (.aload_n 0) 1 0 0 6 := ⟨rfl, rfl⟩
theorem r_X11_court_6 : RW M_X11_court 6 (.iload_n 1) 1 0 0 7 := ⟨rfl, rfl⟩
theorem r_X11_court_7 : RW M_X11_court 7 (.ifCond .lt 15) 3 22 0 10 := ⟨rfl, rfl⟩
theorem r_X11_court_10 : RW M_X11_court 10 (.iload_n 1) 1 0 0 11 := ⟨rfl, rfl⟩
theorem r_X11_court_11 : RW M_X11_court 11 (.aload_n 0) 1 0 0 12 := ⟨rfl, rfl⟩
theorem r_X11_court_12 : RW M_X11_court 12 (.getfield 108) 3 11 2 15 := ⟨rfl, rfl⟩
theorem r_X11_court_15 : RW M_X11_court 15 (.if_icmp .gt 7) 3 22 0 18 := ⟨rfl, rfl⟩
theorem r_X11_court_18 : RW M_X11_court 18 (.iconst 1) 1 0 0 19 := ⟨rfl, rfl⟩
theorem r_X11_court_19 : RW M_X11_court 19 (.goto 4) 3 23 0 22 := ⟨rfl, rfl⟩
theorem r_X11_court_22 : RW M_X11_court 22 (.iconst 0) 1 0 0 23 := ⟨rfl, rfl⟩
theorem r_X11_court_23 : RW M_X11_court 23 (.iconst 1) 1 0 0 24 := ⟨rfl, rfl⟩
theorem r_X11_court_24 : RW M_X11_court 24 (.iconst 1) 1 0 0 25 := ⟨rfl, rfl⟩
theorem r_X11_court_25 : RW M_X11_court 25 (.invokevirtual 210) 3 169 0 28 := ⟨rfl, rfl⟩
theorem r_X11_court_28 : RW M_X11_court 28 (.ifCond .ne 5) 3 33 0 31 := ⟨rfl, rfl⟩
theorem r_X11_court_31 : RW M_X11_court 31 (.iconst 0) 1 0 0 32 := ⟨rfl, rfl⟩
theorem r_X11_court_32 : RW M_X11_court 32 (.ireturn) 1 0 0 33 := ⟨rfl, rfl⟩
theorem r_X11_court_33 : RW M_X11_court 33 (.aload_n 0) 1 0 0 34 := ⟨rfl, rfl⟩
theorem r_X11_court_34 : RW M_X11_court 34 (.iload_n 1) 1 0 0 35 := ⟨rfl, rfl⟩
theorem r_X11_court_35 : RW M_X11_court 35 (.invokevirtual 214) 3 184 0 38 := ⟨rfl, rfl⟩
theorem r_X11_court_38 : RW M_X11_court 38 (.aload_n 0) 1 0 0 39 := ⟨rfl, rfl⟩
theorem r_X11_court_39 : RW M_X11_court 39 (.invokevirtual 102) 3 188 0 42 := ⟨rfl, rfl⟩
theorem r_X11_court_42 : RW M_X11_court 42 (.iconst 0) 1 0 0 43 := ⟨rfl, rfl⟩
theorem r_X11_court_43 : RW M_X11_court 43 (.istore_n 2) 1 0 0 44 := ⟨rfl, rfl⟩
theorem r_X11_court_44 : RW M_X11_court 44 (.aload_n 0) 1 0 3 45 := ⟨rfl, rfl⟩
theorem r_X11_court_45 : RW M_X11_court 45 (.invokevirtual 140) 3 173 0 48 := ⟨rfl, rfl⟩
theorem r_X11_court_48 : RW M_X11_court 48 (.ifCond .eq 95) 3 143 0 51 := ⟨rfl, rfl⟩
theorem r_X11_court_51 : RW M_X11_court 51 (.aload_n 0) 1 0 0 52 := ⟨rfl, rfl⟩
theorem r_X11_court_52 : RW M_X11_court 52 (.invokevirtual 218) 3 183 0 55 := ⟨rfl, rfl⟩
theorem r_X11_court_55 : RW M_X11_court 55 (.ifCond .eq 88) 3 143 0 58 := ⟨rfl, rfl⟩
theorem r_X11_court_58 : RW M_X11_court 58 (.aload_n 0) 1 0 0 59 := ⟨rfl, rfl⟩
theorem r_X11_court_59 : RW M_X11_court 59 (.invokevirtual 221) 3 178 0 62 := ⟨rfl, rfl⟩
theorem r_X11_court_62 : RW M_X11_court 62 (.aload_n 0) 1 0 0 63 := ⟨rfl, rfl⟩
theorem r_X11_court_63 : RW M_X11_court 63 (.ldc 224) 2 20 1 65 := ⟨rfl, rfl⟩
theorem r_X11_court_65 : RW M_X11_court 65 (.invokevirtual 225) 3 191 0 68 := ⟨rfl, rfl⟩
theorem r_X11_court_68 : RW M_X11_court 68 (.invokestatic 229) 3 190 0 71 := ⟨rfl, rfl⟩
theorem r_X11_court_71 : RW M_X11_court 71 (.istore_n 3) 1 0 0 72 := ⟨rfl, rfl⟩
theorem r_X11_court_72 : RW M_X11_court 72 (.iload_n 3) 1 0 0 73 := ⟨rfl, rfl⟩
theorem r_X11_court_73 : RW M_X11_court 73 (.iconst (-1)) 1 0 0 74 := ⟨rfl, rfl⟩
theorem r_X11_court_74 : RW M_X11_court 74 (.if_icmp .ne 15) 3 89 0 77 := ⟨rfl, rfl⟩
theorem r_X11_court_77 : RW M_X11_court 77 (.aload_n 0) 1 0 0 78 := ⟨rfl, rfl⟩
theorem r_X11_court_78 : RW M_X11_court 78 (.iconst 1) 1 0 0 79 := ⟨rfl, rfl⟩
theorem r_X11_court_79 : RW M_X11_court 79 (.aload_n 0) 1 0 0 80 := ⟨rfl, rfl⟩
theorem r_X11_court_80 : RW M_X11_court 80 (.getfield 117) 3 11 4 83 := ⟨rfl, rfl⟩
theorem r_X11_court_83 : RW M_X11_court 83 (.invokevirtual 147) 3 174 0 86 := ⟨rfl, rfl⟩
theorem r_X11_court_86 : RW M_X11_court 86 (.goto 26) 3 112 0 89 := ⟨rfl, rfl⟩
theorem r_X11_court_89 : RW M_X11_court 89 (.iload_n 2) 1 0 0 90 := ⟨rfl, rfl⟩
theorem r_X11_court_90 : RW M_X11_court 90 (.bipush 60) 2 0 0 92 := ⟨rfl, rfl⟩
theorem r_X11_court_92 : RW M_X11_court 92 (.if_icmp .eq 11) 3 103 0 95 := ⟨rfl, rfl⟩
theorem r_X11_court_95 : RW M_X11_court 95 (.aload_n 0) 1 0 0 96 := ⟨rfl, rfl⟩
theorem r_X11_court_96 : RW M_X11_court 96 (.iload_n 3) 1 0 0 97 := ⟨rfl, rfl⟩
theorem r_X11_court_97 : RW M_X11_court 97 (.invokevirtual 233) 3 192 0 100 := ⟨rfl, rfl⟩
theorem r_X11_court_100 : RW M_X11_court 100 (.ifCond .eq 12) 3 112 0 103 := ⟨rfl, rfl⟩
theorem r_X11_court_103 : RW M_X11_court 103 (.aload_n 0) 1 0 0 104 := ⟨rfl, rfl⟩
theorem r_X11_court_104 : RW M_X11_court 104 (.iconst 3) 1 0 0 105 := ⟨rfl, rfl⟩
theorem r_X11_court_105 : RW M_X11_court 105 (.aload_n 0) 1 0 0 106 := ⟨rfl, rfl⟩
theorem r_X11_court_106 : RW M_X11_court 106 (.getfield 117) 3 11 4 109 := ⟨rfl, rfl⟩
theorem r_X11_court_109 : RW M_X11_court 109 (.invokevirtual 147) 3 174 0 112 := ⟨rfl, rfl⟩
theorem r_X11_court_112 : RW M_X11_court 112 (.aload_n 0) 1 0 0 113 := ⟨rfl, rfl⟩
theorem r_X11_court_113 : RW M_X11_court 113 (.invokevirtual 140) 3 173 0 116 := ⟨rfl, rfl⟩
theorem r_X11_court_116 : RW M_X11_court 116 (.ifCond .ne 6) 3 122 0 119 := ⟨rfl, rfl⟩
theorem r_X11_court_119 : RW M_X11_court 119 (.goto 24) 3 143 0 122 := ⟨rfl, rfl⟩
theorem r_X11_court_122 : RW M_X11_court 122 (.aload_n 0) 1 0 0 123 := ⟨rfl, rfl⟩
theorem r_X11_court_123 : RW M_X11_court 123 (.invokevirtual 236) 3 180 0 126 := ⟨rfl, rfl⟩
theorem r_X11_court_126 : RW M_X11_court 126 (.aload_n 0) 1 0 0 127 := ⟨rfl, rfl⟩
theorem r_X11_court_127 : RW M_X11_court 127 (.iload_n 3) 1 0 0 128 := ⟨rfl, rfl⟩
theorem r_X11_court_128 : RW M_X11_court 128 (.invokevirtual 239) 3 193 0 131 := ⟨rfl, rfl⟩
theorem r_X11_court_131 : RW M_X11_court 131 (.aload_n 0) 1 0 0 132 := ⟨rfl, rfl⟩
theorem r_X11_court_132 : RW M_X11_court 132 (.bipush 59) 2 0 0 134 := ⟨rfl, rfl⟩
theorem r_X11_court_134 : RW M_X11_court 134 (.invokevirtual 242) 3 182 0 137 := ⟨rfl, rfl⟩
theorem r_X11_court_137 : RW M_X11_court 137 (.iinc 2 1) 3 0 0 140 := ⟨rfl, rfl⟩
theorem r_X11_court_140 : RW M_X11_court 140 (.goto (-96)) 3 44 0 143 := ⟨rfl, rfl⟩
theorem r_X11_court_143 : RW M_X11_court 143 (.aload_n 0) 1 0 3 144 := ⟨rfl, rfl⟩
theorem r_X11_court_144 : RW M_X11_court 144 (.aload_n 0) 1 0 0 145 := ⟨rfl, rfl⟩
theorem r_X11_court_145 : RW M_X11_court 145 (.getfield 154) 3 11 18 148 := ⟨rfl, rfl⟩
theorem r_X11_court_148 : RW M_X11_court 148 (.invokevirtual 245) 3 185 0 151 := ⟨rfl, rfl⟩
theorem r_X11_court_151 : RW M_X11_court 151 (.istore_n 3) 1 0 0 152 := ⟨rfl, rfl⟩
theorem r_X11_court_152 : RW M_X11_court 152 (.aload_n 0) 1 0 0 153 := ⟨rfl, rfl⟩
theorem r_X11_court_153 : RW M_X11_court 153 (.getfield 111) 3 11 5 156 := ⟨rfl, rfl⟩
theorem r_X11_court_156 : RW M_X11_court 156 (.iconst (-1)) 1 0 0 157 := ⟨rfl, rfl⟩
theorem r_X11_court_157 : RW M_X11_court 157 (.if_icmp .ne 7) 3 164 0 160 := ⟨rfl, rfl⟩
theorem r_X11_court_160 : RW M_X11_court 160 (.aload_n 0) 1 0 0 161 := ⟨rfl, rfl⟩
theorem r_X11_court_161 : RW M_X11_court 161 (.invokevirtual 105) 3 189 0 164 := ⟨rfl, rfl⟩
theorem r_X11_court_164 : RW M_X11_court 164 (.iload_n 3) 1 0 0 165 := ⟨rfl, rfl⟩
theorem r_X11_court_165 : RW M_X11_court 165 (.ireturn) 1 0 0 166 := ⟨rfl, rfl⟩
theorem m_clears {d : Nat} {I : Nat → Nat → Int32} {J : Nat → Nat → Int64}  (hd : 1 ≤ d) : RU d 188 [.ref 106] I J (fun I' => I' 106 18 = nI 0 ∧ I' 106 19 = nI 0 ∧ I' 106 20 = nI 0 ∧ I' 106 21 = nI 0 ∧ (∀ o, o ≠ 106 → I' o = I o) ∧ ∀ j, (j < 18 ∨ 21 < j) → I' 106 j = I 106 j) := by
  refine RU.in (d0 := 0) hd mt_188 (Nat.le_of_ble_eq_true rfl) (fun d' hd' => ?_)
  show EV none M_X11_clears d' 0 [(0, .ref 106)] [] (hp I J) _
  refine EV.l (lv' := [(0, _)]) r_X11_clears_0 rfl ?_
  refine EV.o r_X11_clears_1 (icN (0) (v := 0)) ?_
  refine EV.pIn r_X11_clears_2 la_106 (fun J1 f1 => ?_)
  refine EV.l (lv' := [(0, _)]) r_X11_clears_5 rfl ?_
  refine EV.o r_X11_clears_6 (icN (0) (v := 0)) ?_
  refine EV.pIn r_X11_clears_7 la_106 (fun J2 f2 => ?_)
  refine EV.l (lv' := [(0, _)]) r_X11_clears_10 rfl ?_
  refine EV.o r_X11_clears_11 (icN (0) (v := 0)) ?_
  refine EV.pIn r_X11_clears_12 la_106 (fun J3 f3 => ?_)
  refine EV.l (lv' := [(0, _)]) r_X11_clears_15 rfl ?_
  refine EV.o r_X11_clears_16 (icN (0) (v := 0)) ?_
  refine EV.pIn r_X11_clears_17 la_106 (fun J4 f4 => ?_)
  exact EV.ru r_X11_clears_20 (⟨by rw [f4, wr_ne (Or.inr (by decide)), f3, wr_ne (Or.inr (by decide)), f2, wr_ne (Or.inr (by decide)), f1]; exact wr_same, by rw [f4, wr_ne (Or.inr (by decide)), f3, wr_ne (Or.inr (by decide)), f2]; exact wr_same, by rw [f4, wr_ne (Or.inr (by decide)), f3]; exact wr_same, by rw [f4]; exact wr_same, fun o p => by rw [f4, wr_row p, f3, wr_row p, f2, wr_row p, f1, wr_row p], fun j p => by rw [f4, wr_ne (by omega), f3, wr_ne (by omega), f2, wr_ne (by omega), f1, wr_ne (by omega)]⟩)
theorem m_courtG {d : Nat} {I : Nat → Nat → Int32} {J : Nat → Nat → Int64} {S : STT} {n : Nat} (sb : SB S) (h : MIn S I) (κ : CT) (cu : CU κ) (ht : n ≤ S.tl) {s2 : Nat} (hz : (ctsS S.tp n 60 (zer κ) (scp isB S.tp n 0)).2 = .inl s2)  (hd : 11 ≤ d) : RI d 194 [.ref 106, .int (nI n)] I J (fun v I' => v = nI (ctsS S.tp n 60 (zer κ) (scp isB S.tp n 0)).1.ns ∧ MIn (S.new (ctsS S.tp n 60 (zer κ) (scp isB S.tp n 0)).1) I' ∧ HIf I I' ∧ I' 106 0 = nI 0) := by
  refine RI.in (d0 := 10) hd mt_194 (Nat.le_of_ble_eq_true rfl) (fun d' hd' => ?_)
  have tl6 := sb.tl
  have hn : n ≤ 600 := by omega
  show EV none M_X11_court d' 0 [(0, .ref 106), (1, .int (nI n))] [] (hp I J) _
  refine EV.l (lv' := [(0, _), (1, _)]) r_X11_court_0 rfl ?_
  refine EV.o r_X11_court_1 (icN (0) (v := 0)) ?_
  refine EV.pIn r_X11_court_2 la_106 (fun I1 e1 => ?_)
  refine EV.l (lv' := [(0, _), (1, _)]) r_X11_court_5 rfl ?_
  refine EV.l (lv' := [(0, _), (1, _)]) r_X11_court_6 rfl ?_
  refine EV.n0_lt r_X11_court_7 (fun h7 => ?_) (fun h7 => ?_)
  · -- 7 t
    refine EV.o r_X11_court_22 (icN (0) (v := 0)) ?_
    refine EV.o r_X11_court_23 (icN (1) (v := 1)) ?_
    have z0 : I1 106 0 = nI 0 := by rw [e1]; exact wr_same
    refine EV.o r_X11_court_24 (icN (1) (v := 1)) ?_
    omega
  · -- 7 f
    refine EV.l (lv' := [(0, _), (1, _)]) r_X11_court_10 rfl ?_
    refine EV.l (lv' := [(0, _), (1, _)]) r_X11_court_11 rfl ?_
    refine EV.getV r_X11_court_12 la_106 ((show I1 106 2 = nI S.tl from by rw [e1, wr_ne (Or.inr (by decide))]; exact h.tl)) ?_
    refine EV.n2_gt r_X11_court_15 (fun h15 => ?_) (fun h15 => ?_)
    · -- 15 t
      refine EV.o r_X11_court_22 (icN (0) (v := 0)) ?_
      refine EV.o r_X11_court_23 (icN (1) (v := 1)) ?_
      have z0 : I1 106 0 = nI 0 := by rw [e1]; exact wr_same
      refine EV.o r_X11_court_24 (icN (1) (v := 1)) ?_
      omega
    · -- 15 f
      refine EV.o r_X11_court_18 (icN (1) (v := 1)) ?_
      refine EV.g r_X11_court_19 ?_
      refine EV.o r_X11_court_23 (icN (1) (v := 1)) ?_
      have z0 : I1 106 0 = nI 0 := by rw [e1]; exact wr_same
      refine EV.o r_X11_court_24 (icN (1) (v := 1)) ?_
      refine EV.cv r_X11_court_25 (aV3 mt_169 la_106) (m_mayN z0 (by omega)) ?_
      refine EV.n0_ne r_X11_court_28 (fun h28 => ?_) (fun h28 => ?_)
      · -- 28 t
        refine EV.l (lv' := [(0, _), (1, _)]) r_X11_court_33 rfl ?_
        refine EV.l (lv' := [(0, _), (1, _)]) r_X11_court_34 rfl ?_
        refine EV.cu r_X11_court_35 (aV1 mt_184 la_106) (m_begins (g := S.tp) (by omega)) (fun I2 h2 => ?_)
        obtain ⟨mg2, op2, f82, o2, j2⟩ := h2
        refine EV.l (lv' := [(0, _), (1, _)]) r_X11_court_38 rfl ?_
        refine EV.cu r_X11_court_39 (aV0 mt_188 la_106) (m_clears (by omega)) (fun I3 h3 => ?_)
        obtain ⟨c18, c19, c20, c21, o3, j3⟩ := h3
        have t0 : ∀ j, j < 600 → I3 108 j = nI (S.tp j) := tp_fm h.tp ((o3 108 (by decide)).trans ((o2 108 (by decide)).trans (by rw [e1]; exact wr_row (by decide))))
        have mg3 : MG S.tp n (scp isB S.tp n 0) I3 := by have z := mg2; unfold MG at z ⊢; rw [j3 3 (by omega), j3 2 (by omega), j3 5 (by omega), j3 4 (by omega)]; exact z
        have mc3 : MCd (zer κ) I3 := ⟨c18, c19, c20, c21, fun j hj => absurd hj (Nat.not_lt_zero j), fun j hj => absurd hj (Nat.not_lt_zero j), fun j hj => absurd hj (Nat.not_lt_zero j), fun j hj => absurd hj (Nat.not_lt_zero j), fun j hj => absurd hj (Nat.not_lt_zero j), fun j hj => absurd hj (Nat.not_lt_zero j), fun j hj => absurd hj (Nat.not_lt_zero j), fun j hj => absurd hj (Nat.not_lt_zero j), fun j hj => absurd hj (Nat.not_lt_zero j), fun j hj => absurd hj (Nat.not_lt_zero j)⟩
        refine EV.o r_X11_court_42 (icN (0) (v := 0)) ?_
        refine EV.l (lv' := [(0, _), (1, _), (2, _)]) r_X11_court_43 rfl ?_
        have L44 : ∀ y_ : Nat × RST × CT × (Nat → Nat → Int32), (fun y => MRI S.tp n (zer κ) (scp isB S.tp n 0) I3 y.1 y.2.1 y.2.2.1 y.2.2.2 → EV none M_X11_court d' 44 [(0, .ref 106), (1, .int (nI n)), (2, .int (nI y.1))] [] (hp y.2.2.2 J) (QI J (fun v I' => v = nI (ctsS S.tp n 60 (zer κ) (scp isB S.tp n 0)).1.ns ∧ MIn (S.new (ctsS S.tp n 60 (zer κ) (scp isB S.tp n 0)).1) I' ∧ HIf I I' ∧ I' 106 0 = nI 0))) y_ := by
          refine ev_loop (fun y => 61 - y.1) ?_
          intro ⟨i, r, K, M⟩ ih44 hx44
          try dsimp only at ih44
          try dsimp only at hx44
          try dsimp only
          have i60 := hx44.2.2.1
          refine EV.l (lv' := [(0, _), (1, _), (2, _)]) r_X11_court_44 rfl ?_
          refine EV.cv r_X11_court_45 (aV0 mt_173 la_106) (m_fine hx44.2.1 hn (by omega)) ?_
          refine EV.b0_eq r_X11_court_48 (fun h48 => ?_) (fun h48 => ?_)
          · -- 48 t
            obtain ⟨k9, f9, er⟩ := okr_f h48
            subst er
            have fin := hx44.bad
            have mdx := fin.1
            rw [hz] at mdx
            have fo : ∀ o, o ≠ 106 → (o < 109 ∨ 112 < o) → M o = I o := fun o p1 p2 => (fin.2.2.2 o p1 p2).trans ((o3 o p1).trans ((o2 o p1).trans (by rw [e1]; exact wr_row p1)))
            have fj : ∀ j, j ≠ 0 → j ≠ 2 → j ≠ 3 → j ≠ 4 → j ≠ 5 → j ≠ 6 → j ≠ 7 → j ≠ 8 → (j < 18 ∨ 21 < j) → M 106 j = I 106 j := fun j p0 p2 p3 p4 p5 p6 p7 p8 p9 => (fin.2.2.1 j p4 p5 p6 p9).trans ((j3 j p9).trans ((j2 j p2 p3 p4 p5 p7 p8).trans (by rw [e1]; exact wr_ne (Or.inr p0))))
            have f0 : M 106 0 = nI 0 := (fin.2.2.1 0 (by decide) (by decide) (by decide) (by decide)).trans ((j3 0 (by decide)).trans ((j2 0 (by decide) (by decide) (by decide) (by decide) (by decide) (by decide)).trans (by rw [e1]; exact wr_same)))
            have mcx := fin.2.1 s2 hz
            have mgx : MG S.tp n s2 M := mdx
            have cbx := ctsS_cb (g := S.tp) (n := n) (s2 := s2) 60 (zer κ) (scp isB S.tp n 0) cu.zer hz
            -- end
            refine EV.l (lv' := [(0, _), (1, _), (2, _)]) r_X11_court_143 rfl ?_
            refine EV.l (lv' := [(0, _), (1, _), (2, _)]) r_X11_court_144 rfl ?_
            refine EV.gI r_X11_court_145 la_106 ?_
            refine EV.ci r_X11_court_148 (aV1 mt_185 la_106) (m_resG mgx (by omega)) (fun v IB hB => ?_)
            obtain ⟨e, eB⟩ := hB
            subst e
            refine EV.l (lv' := [(0, _), (1, _), (2, _), (3, _)]) r_X11_court_151 rfl ?_
            refine EV.l (lv' := [(0, _), (1, _), (2, _), (3, _)]) r_X11_court_152 rfl ?_
            refine EV.getV r_X11_court_153 la_106 ((show IB 106 5 = zI (-1) from by rw [eB, wr_ne (Or.inr (by decide))]; exact mgx.fo)) ?_
            refine EV.o r_X11_court_156 (icZ (-1)) ?_
            refine EV.z2_ne r_X11_court_157 (fun h157 => ?_) (fun h157 => ?_)
            · omega
            · -- 157 f
              refine EV.l (lv' := [(0, _), (1, _), (2, _), (3, _)]) r_X11_court_160 rfl ?_
              refine EV.cu r_X11_court_161 (aV0 mt_189 la_106) (m_sets (w := S.η.wk) (κ := (ctsS S.tp n 60 (zer κ) (scp isB S.tp n 0)).1) (by have z := mcx; unfold MCd at z ⊢; rw [show IB 106 18 = M 106 18 from by rw [eB]; rfl, show IB 106 19 = M 106 19 from by rw [eB]; rfl, show IB 106 20 = M 106 20 from by rw [eB]; rfl, show IB 106 21 = M 106 21 from by rw [eB]; rfl, show IB 109 = M 109 from by rw [eB]; rfl, show IB 110 = M 110 from by rw [eB]; rfl, show IB 111 = M 111 from by rw [eB]; rfl, show IB 112 = M 112 from by rw [eB]; rfl]; exact z) cbx (by omega)) (fun IC hC => ?_)
              obtain ⟨C1, C2, C3, C4, C5, C6⟩ := hC
              refine EV.l (lv' := [(0, _), (1, _), (2, _), (3, _)]) r_X11_court_164 rfl ?_
              exact EV.ri r_X11_court_165 (⟨mcx.ns, ⟨C1, C2, Or.inr ⟨C3.1, rfl, rfl, rfl⟩, by rw [C6 2 (by decide), eB, wr_ne (Or.inr (by decide))]; exact mgx.ln, by rw [C6 8 (by decide), eB]; exact wr_same, tp_fm h.tp ((C5 108 (by decide) (by decide) (by decide) (by decide)).trans ((by rw [eB]; exact wr_row (by decide) : IB 108 = M 108).trans (fo 108 (by decide) (by decide)))), C3.2.2.2.2, by rw [C5 107 (by decide) (by decide) (by decide) (by decide), eB, wr_row (by decide), fo 107 (by decide) (by decide)]; exact h.r0, by rw [C5 107 (by decide) (by decide) (by decide) (by decide), eB, wr_row (by decide), fo 107 (by decide) (by decide)]; exact h.r1, C3.2.1.trans (congrArg nI (by decide +kernel : 0 = pc9 0)), fun j hj => by rw [C4 j hj]; show _ = if Nat.testBit 0 j = true then _ else _; rw [Nat.zero_testBit]; rfl, C3.2.2.1, C3.2.2.2.1, fun k hk => absurd hk (Nat.not_lt_zero k), fun i hi => absurd hi (Nat.not_lt_zero i), fun i hi => absurd hi (Nat.not_lt_zero i), fun i k hi => absurd hi (Nat.not_lt_zero i)⟩, fun o ho => by rw [C5 o (by omega) (by omega) (by omega) (by omega), eB, wr_row (by omega), fo o (by omega) (by omega)], by rw [C6 0 (by decide), eB, wr_ne (Or.inr (by decide))]; exact f0⟩)
          · -- 48 f
            obtain ⟨s1, er⟩ := okr_t h48
            subst er
            have k1 := hx44.2.2.2.1
            have k2 := hx44.2.2.2.2.1
            have ka := k2.all
            have ki := hx44.2.2.2.2.2.1
            have kns := k2.ns; have knr := k2.nr; have knb := k2.nb; have knc := k2.nc
            refine EV.l (lv' := [(0, _), (1, _), (2, _)]) r_X11_court_51 rfl ?_
            refine EV.ci r_X11_court_52 (aV0 mt_183 la_106) (m_more (tp_fm t0 (hx44.1.2 108 (by decide) (by decide))) sb.tp hn hx44.2.1 (by omega)) (fun v I5 h5 => ?_)
            obtain ⟨e, mg5, at5, mp5⟩ := h5
            subst e
            refine EV.p0_eq r_X11_court_55 (fun h55 => ?_) (fun h55 => ?_)
            · -- 55 t
              have h5n := h55
              have fin := hx44.end h5n mg5 mp5
              have mdx := fin.1
              rw [hz] at mdx
              have fo : ∀ o, o ≠ 106 → (o < 109 ∨ 112 < o) → I5 o = I o := fun o p1 p2 => (fin.2.2.2 o p1 p2).trans ((o3 o p1).trans ((o2 o p1).trans (by rw [e1]; exact wr_row p1)))
              have fj : ∀ j, j ≠ 0 → j ≠ 2 → j ≠ 3 → j ≠ 4 → j ≠ 5 → j ≠ 6 → j ≠ 7 → j ≠ 8 → (j < 18 ∨ 21 < j) → I5 106 j = I 106 j := fun j p0 p2 p3 p4 p5 p6 p7 p8 p9 => (fin.2.2.1 j p4 p5 p6 p9).trans ((j3 j p9).trans ((j2 j p2 p3 p4 p5 p7 p8).trans (by rw [e1]; exact wr_ne (Or.inr p0))))
              have f0 : I5 106 0 = nI 0 := (fin.2.2.1 0 (by decide) (by decide) (by decide) (by decide)).trans ((j3 0 (by decide)).trans ((j2 0 (by decide) (by decide) (by decide) (by decide) (by decide) (by decide)).trans (by rw [e1]; exact wr_same)))
              have mcx := fin.2.1 s2 hz
              have mgx : MG S.tp n s2 I5 := mdx
              have cbx := ctsS_cb (g := S.tp) (n := n) (s2 := s2) 60 (zer κ) (scp isB S.tp n 0) cu.zer hz
              -- end
              refine EV.l (lv' := [(0, _), (1, _), (2, _)]) r_X11_court_143 rfl ?_
              refine EV.l (lv' := [(0, _), (1, _), (2, _)]) r_X11_court_144 rfl ?_
              refine EV.gI r_X11_court_145 la_106 ?_
              refine EV.ci r_X11_court_148 (aV1 mt_185 la_106) (m_resG mgx (by omega)) (fun v IB hB => ?_)
              obtain ⟨e, eB⟩ := hB
              subst e
              refine EV.l (lv' := [(0, _), (1, _), (2, _), (3, _)]) r_X11_court_151 rfl ?_
              refine EV.l (lv' := [(0, _), (1, _), (2, _), (3, _)]) r_X11_court_152 rfl ?_
              refine EV.getV r_X11_court_153 la_106 ((show IB 106 5 = zI (-1) from by rw [eB, wr_ne (Or.inr (by decide))]; exact mgx.fo)) ?_
              refine EV.o r_X11_court_156 (icZ (-1)) ?_
              refine EV.z2_ne r_X11_court_157 (fun h157 => ?_) (fun h157 => ?_)
              · omega
              · -- 157 f
                refine EV.l (lv' := [(0, _), (1, _), (2, _), (3, _)]) r_X11_court_160 rfl ?_
                refine EV.cu r_X11_court_161 (aV0 mt_189 la_106) (m_sets (w := S.η.wk) (κ := (ctsS S.tp n 60 (zer κ) (scp isB S.tp n 0)).1) (by have z := mcx; unfold MCd at z ⊢; rw [show IB 106 18 = I5 106 18 from by rw [eB]; rfl, show IB 106 19 = I5 106 19 from by rw [eB]; rfl, show IB 106 20 = I5 106 20 from by rw [eB]; rfl, show IB 106 21 = I5 106 21 from by rw [eB]; rfl, show IB 109 = I5 109 from by rw [eB]; rfl, show IB 110 = I5 110 from by rw [eB]; rfl, show IB 111 = I5 111 from by rw [eB]; rfl, show IB 112 = I5 112 from by rw [eB]; rfl]; exact z) cbx (by omega)) (fun IC hC => ?_)
                obtain ⟨C1, C2, C3, C4, C5, C6⟩ := hC
                refine EV.l (lv' := [(0, _), (1, _), (2, _), (3, _)]) r_X11_court_164 rfl ?_
                exact EV.ri r_X11_court_165 (⟨mcx.ns, ⟨C1, C2, Or.inr ⟨C3.1, rfl, rfl, rfl⟩, by rw [C6 2 (by decide), eB, wr_ne (Or.inr (by decide))]; exact mgx.ln, by rw [C6 8 (by decide), eB]; exact wr_same, tp_fm h.tp ((C5 108 (by decide) (by decide) (by decide) (by decide)).trans ((by rw [eB]; exact wr_row (by decide) : IB 108 = I5 108).trans (fo 108 (by decide) (by decide)))), C3.2.2.2.2, by rw [C5 107 (by decide) (by decide) (by decide) (by decide), eB, wr_row (by decide), fo 107 (by decide) (by decide)]; exact h.r0, by rw [C5 107 (by decide) (by decide) (by decide) (by decide), eB, wr_row (by decide), fo 107 (by decide) (by decide)]; exact h.r1, C3.2.1.trans (congrArg nI (by decide +kernel : 0 = pc9 0)), fun j hj => by rw [C4 j hj]; show _ = if Nat.testBit 0 j = true then _ else _; rw [Nat.zero_testBit]; rfl, C3.2.2.1, C3.2.2.2.1, fun k hk => absurd hk (Nat.not_lt_zero k), fun i hi => absurd hi (Nat.not_lt_zero i), fun i hi => absurd hi (Nat.not_lt_zero i), fun i k hi => absurd hi (Nat.not_lt_zero i)⟩, fun o ho => by rw [C5 o (by omega) (by omega) (by omega) (by omega), eB, wr_row (by omega), fo o (by omega) (by omega)], by rw [C6 0 (by decide), eB, wr_ne (Or.inr (by decide))]; exact f0⟩)
            · -- 55 f
              have hs1 := h55
              refine EV.l (lv' := [(0, _), (1, _), (2, _)]) r_X11_court_58 rfl ?_
              refine EV.ci r_X11_court_59 (aV0 mt_178 la_106) (m_word (tp_fm (tp_fm t0 (hx44.1.2 108 (by decide) (by decide))) (mp5.1 108 (by decide))) sb.tp hn mg5 (by omega)) (fun v I6 h6 => ?_)
              obtain ⟨e, mg6, at6, mp6⟩ := h6
              subst e
              refine EV.l (lv' := [(0, _), (1, _), (2, _)]) r_X11_court_62 rfl ?_
              refine EV.lcT r_X11_court_63 rfl ?_
              refine EV.ci r_X11_court_65 (aV1 mt_191 la_106) (m_stands (tp_fm (tp_fm (tp_fm t0 (hx44.1.2 108 (by decide) (by decide))) (mp5.1 108 (by decide))) (mp6.1 108 (by decide))) sb.tp hn mg6 tx_20 (by decide) lCoun (by omega)) (fun v I7 h7 => ?_)
              obtain ⟨e, mg7, at7, mp7⟩ := h7
              subst e
              have sn := mg7.sn
              have mpx : MP M I7 := ⟨fun o ho => (mp7.1 o ho).trans ((mp6.1 o ho).trans (mp5.1 o ho)), fun j hj => (mp7.2 j hj).trans ((mp6.2 j hj).trans (mp5.2 j hj))⟩
              have rk := rwo_k (g := S.tp) (n := n) (s := s1) sn
              have wb := wdv_b (g := S.tp) (n := n) (s := s1) sn
              have mc7 := k1.mo mpx.mo
              have t7 := tp_fm (tp_fm t0 (hx44.1.2 108 (by decide) (by decide))) (mpx.1 108 (by decide))
              rcases (kcl_5 : kcl S.tp n s1 = 0 ∨ kcl S.tp n s1 = 1 ∨ kcl S.tp n s1 = 2 ∨ kcl S.tp n s1 = 3 ∨ kcl S.tp n s1 = 4) with kk | kk | kk | kk | kk
              · -- case
                have rkk : rwo (wdv S.tp n s1) (isW S.tp n s1 tCoun) = -1 := by rw [rk, kk]; rfl
                refine EV.cv r_X11_court_68 (aS2 mt_190) (m_rowZ rkk (by omega) (by omega)) ?_
                refine EV.l (lv' := [(0, _), (1, _), (2, _), (3, _)]) r_X11_court_71 rfl ?_
                refine EV.l (lv' := [(0, _), (1, _), (2, _), (3, _)]) r_X11_court_72 rfl ?_
                refine EV.o r_X11_court_73 (icZ (-1)) ?_
                refine EV.z2_ne r_X11_court_74 (fun h74 => ?_) (fun h74 => ?_)
                · omega
                · -- 74 f
                  refine EV.l (lv' := [(0, _), (1, _), (2, _), (3, _)]) r_X11_court_77 rfl ?_
                  refine EV.o r_X11_court_78 (icN (1) (v := 1)) ?_
                  refine EV.l (lv' := [(0, _), (1, _), (2, _), (3, _)]) r_X11_court_79 rfl ?_
                  refine EV.getV r_X11_court_80 la_106 (at7) ?_
                  refine EV.cu r_X11_court_83 (aV2 mt_174 la_106) (m_wrongG mg7 (by decide) (by decide) sn (by omega)) (fun I8 h8 => ?_)
                  obtain ⟨mb8, mo8⟩ := h8
                  have fin := hx44.flt hs1 (by omega) (congrArg Prod.snd (clsT_0 kk)) mb8 (mpx.mf.tr mo8.mf)
                  refine EV.g r_X11_court_86 ?_
                  refine EV.l (lv' := [(0, _), (1, _), (2, _), (3, _)]) r_X11_court_112 rfl ?_
                  refine EV.cv r_X11_court_113 (aV0 mt_173 la_106) (m_fineB mb8 hn (by omega)) ?_
                  refine EV.n0_ne r_X11_court_116 (fun h116 => ?_) (fun h116 => ?_)
                  · omega
                  · -- 116 f
                    refine EV.g r_X11_court_119 ?_
                    have fin := fin
                    have mdx := fin.1
                    rw [hz] at mdx
                    have fo : ∀ o, o ≠ 106 → (o < 109 ∨ 112 < o) → I8 o = I o := fun o p1 p2 => (fin.2.2.2 o p1 p2).trans ((o3 o p1).trans ((o2 o p1).trans (by rw [e1]; exact wr_row p1)))
                    have fj : ∀ j, j ≠ 0 → j ≠ 2 → j ≠ 3 → j ≠ 4 → j ≠ 5 → j ≠ 6 → j ≠ 7 → j ≠ 8 → (j < 18 ∨ 21 < j) → I8 106 j = I 106 j := fun j p0 p2 p3 p4 p5 p6 p7 p8 p9 => (fin.2.2.1 j p4 p5 p6 p9).trans ((j3 j p9).trans ((j2 j p2 p3 p4 p5 p7 p8).trans (by rw [e1]; exact wr_ne (Or.inr p0))))
                    have f0 : I8 106 0 = nI 0 := (fin.2.2.1 0 (by decide) (by decide) (by decide) (by decide)).trans ((j3 0 (by decide)).trans ((j2 0 (by decide) (by decide) (by decide) (by decide) (by decide) (by decide)).trans (by rw [e1]; exact wr_same)))
                    have mcx := fin.2.1 s2 hz
                    have mgx : MG S.tp n s2 I8 := mdx
                    have cbx := ctsS_cb (g := S.tp) (n := n) (s2 := s2) 60 (zer κ) (scp isB S.tp n 0) cu.zer hz
                    -- end
                    refine EV.l (lv' := [(0, _), (1, _), (2, _)]) r_X11_court_143 rfl ?_
                    refine EV.l (lv' := [(0, _), (1, _), (2, _)]) r_X11_court_144 rfl ?_
                    refine EV.gI r_X11_court_145 la_106 ?_
                    refine EV.ci r_X11_court_148 (aV1 mt_185 la_106) (m_resG mgx (by omega)) (fun v IB hB => ?_)
                    obtain ⟨e, eB⟩ := hB
                    subst e
                    refine EV.l (lv' := [(0, _), (1, _), (2, _), (3, _)]) r_X11_court_151 rfl ?_
                    refine EV.l (lv' := [(0, _), (1, _), (2, _), (3, _)]) r_X11_court_152 rfl ?_
                    refine EV.getV r_X11_court_153 la_106 ((show IB 106 5 = zI (-1) from by rw [eB, wr_ne (Or.inr (by decide))]; exact mgx.fo)) ?_
                    refine EV.o r_X11_court_156 (icZ (-1)) ?_
                    refine EV.z2_ne r_X11_court_157 (fun h157 => ?_) (fun h157 => ?_)
                    · omega
                    · -- 157 f
                      refine EV.l (lv' := [(0, _), (1, _), (2, _), (3, _)]) r_X11_court_160 rfl ?_
                      refine EV.cu r_X11_court_161 (aV0 mt_189 la_106) (m_sets (w := S.η.wk) (κ := (ctsS S.tp n 60 (zer κ) (scp isB S.tp n 0)).1) (by have z := mcx; unfold MCd at z ⊢; rw [show IB 106 18 = I8 106 18 from by rw [eB]; rfl, show IB 106 19 = I8 106 19 from by rw [eB]; rfl, show IB 106 20 = I8 106 20 from by rw [eB]; rfl, show IB 106 21 = I8 106 21 from by rw [eB]; rfl, show IB 109 = I8 109 from by rw [eB]; rfl, show IB 110 = I8 110 from by rw [eB]; rfl, show IB 111 = I8 111 from by rw [eB]; rfl, show IB 112 = I8 112 from by rw [eB]; rfl]; exact z) cbx (by omega)) (fun IC hC => ?_)
                      obtain ⟨C1, C2, C3, C4, C5, C6⟩ := hC
                      refine EV.l (lv' := [(0, _), (1, _), (2, _), (3, _)]) r_X11_court_164 rfl ?_
                      exact EV.ri r_X11_court_165 (⟨mcx.ns, ⟨C1, C2, Or.inr ⟨C3.1, rfl, rfl, rfl⟩, by rw [C6 2 (by decide), eB, wr_ne (Or.inr (by decide))]; exact mgx.ln, by rw [C6 8 (by decide), eB]; exact wr_same, tp_fm h.tp ((C5 108 (by decide) (by decide) (by decide) (by decide)).trans ((by rw [eB]; exact wr_row (by decide) : IB 108 = I8 108).trans (fo 108 (by decide) (by decide)))), C3.2.2.2.2, by rw [C5 107 (by decide) (by decide) (by decide) (by decide), eB, wr_row (by decide), fo 107 (by decide) (by decide)]; exact h.r0, by rw [C5 107 (by decide) (by decide) (by decide) (by decide), eB, wr_row (by decide), fo 107 (by decide) (by decide)]; exact h.r1, C3.2.1.trans (congrArg nI (by decide +kernel : 0 = pc9 0)), fun j hj => by rw [C4 j hj]; show _ = if Nat.testBit 0 j = true then _ else _; rw [Nat.zero_testBit]; rfl, C3.2.2.1, C3.2.2.2.1, fun k hk => absurd hk (Nat.not_lt_zero k), fun i hi => absurd hi (Nat.not_lt_zero i), fun i hi => absurd hi (Nat.not_lt_zero i), fun i k hi => absurd hi (Nat.not_lt_zero i)⟩, fun o ho => by rw [C5 o (by omega) (by omega) (by omega) (by omega), eB, wr_row (by omega), fo o (by omega) (by omega)], by rw [C6 0 (by decide), eB, wr_ne (Or.inr (by decide))]; exact f0⟩)
              · -- case
                have rkk : rwo (wdv S.tp n s1) (isW S.tp n s1 tCoun) = ((1 : Nat) : Int) := by rw [rk, kk]; rfl
                refine EV.cv r_X11_court_68 (aS2 mt_190) (m_rowN (k := 1) rkk (by omega) (by omega)) ?_
                refine EV.l (lv' := [(0, _), (1, _), (2, _), (3, _)]) r_X11_court_71 rfl ?_
                refine EV.l (lv' := [(0, _), (1, _), (2, _), (3, _)]) r_X11_court_72 rfl ?_
                refine EV.o r_X11_court_73 (icZ (-1)) ?_
                refine EV.nz2_ne r_X11_court_74 (fun h74 => ?_) (fun h74 => ?_)
                · -- 74 t
                  refine EV.l (lv' := [(0, _), (1, _), (2, _), (3, _)]) r_X11_court_89 rfl ?_
                  refine EV.o r_X11_court_90 (bpN (60) 60) ?_
                  refine EV.n2_eq r_X11_court_92 (fun h92 => ?_) (fun h92 => ?_)
                  · omega
                  · -- 92 f
                    refine EV.l (lv' := [(0, _), (1, _), (2, _), (3, _)]) r_X11_court_95 rfl ?_
                    refine EV.l (lv' := [(0, _), (1, _), (2, _), (3, _)]) r_X11_court_96 rfl ?_
                    refine EV.cv r_X11_court_97 (aV1 mt_192 la_106) (m_full1 mc7.ns (by omega) (by omega)) ?_
                    refine EV.p0_eq r_X11_court_100 (fun h100 => ?_) (fun h100 => ?_)
                    · -- 100 t
                      refine EV.l (lv' := [(0, _), (1, _), (2, _), (3, _)]) r_X11_court_112 rfl ?_
                      refine EV.cv r_X11_court_113 (aV0 mt_173 la_106) (m_fineG mg7 (by omega)) ?_
                      refine EV.n0_ne r_X11_court_116 (fun h116 => ?_) (fun h116 => ?_)
                      · -- 116 t
                        refine EV.l (lv' := [(0, _), (1, _), (2, _), (3, _)]) r_X11_court_122 rfl ?_
                        refine EV.cu r_X11_court_123 (aV0 mt_180 la_106) (m_pass t7 sb.tp hn mg7.en sn at7 (by omega)) (fun I8 h8 => ?_)
                        obtain ⟨at8, mp8⟩ := h8
                        have w2 := kd2_pe (kcl_w (g := S.tp) (n := n) (s := s1) (by omega))
                        have mg8 : MG S.tp n (nxp S.tp n s1) I8 := mg7.mv mp8 (scp_le sn) at8 (by unfold nxp; rw [w2.2.1])
                        refine EV.l (lv' := [(0, _), (1, _), (2, _), (3, _)]) r_X11_court_126 rfl ?_
                        refine EV.l (lv' := [(0, _), (1, _), (2, _), (3, _)]) r_X11_court_127 rfl ?_
                        refine EV.cu r_X11_court_128 (aV1 mt_193 la_106) (m_row1 (tp_fm t7 (mp8.1 108 (by decide))) sb.tp hn mg8 (mc7.mo mp8.mo) k2 kk (by omega) (by omega)) (fun I9 h9 => ?_)
                        have h9 : MD S.tp n (clsT S.tp n K s1).2 I9 ∧ (∀ s2, (clsT S.tp n K s1).2 = .inl s2 → MCd (clsT S.tp n K s1).1 I9) ∧ MF M I9 := ⟨h9.1, h9.2.1, mpx.mf.tr (mp8.mf.tr h9.2.2)⟩
                        refine EV.l (lv' := [(0, _), (1, _), (2, _), (3, _)]) r_X11_court_131 rfl ?_
                        refine EV.o r_X11_court_132 (bpN (59) 59) ?_
                        refine EV.cu r_X11_court_134 (aV1 mt_182 la_106) (m_sign (tp_fm (tp_fm t0 (hx44.1.2 108 (by decide) (by decide))) (h9.2.2.2 108 (by decide) (by decide))) sb.tp hn h9.1 (by decide) (by decide) (by decide) (by decide) (by omega)) (fun IA hA => ?_)
                        refine EV.l (lv' := [(0, _), (1, _), (2, _), (3, _)]) r_X11_court_137 rfl ?_
                        rw [inc_nI]
                        refine EV.g r_X11_court_140 ?_
                        refine EV.fg (lv' := [(0, _), (1, _), (2, _)]) r_X11_court_44 rfl rfl rfl ?_
                        refine EV.sub ?_ rfl ?_ (ih44 (i + 1, (clsS S.tp n K s1).2, (clsS S.tp n K s1).1, IA) ?_ ?_)
                        · (try dsimp only) <;> (rfl)
                        · (try dsimp only) <;> (rfl)
                        · (try dsimp only) <;> (omega)
                        · (try dsimp only) <;> (exact hx44.next hs1 (by omega) h9 hA)
                      · omega
                    · -- 100 f
                      refine EV.l (lv' := [(0, _), (1, _), (2, _), (3, _)]) r_X11_court_103 rfl ?_
                      refine EV.o r_X11_court_104 (icN (3) (v := 3)) ?_
                      refine EV.l (lv' := [(0, _), (1, _), (2, _), (3, _)]) r_X11_court_105 rfl ?_
                      refine EV.getV r_X11_court_106 la_106 (at7) ?_
                      refine EV.cu r_X11_court_109 (aV2 mt_174 la_106) (m_wrongG mg7 (by decide) (by decide) sn (by omega)) (fun I8 h8 => ?_)
                      obtain ⟨mb8, mo8⟩ := h8
                      have fin := hx44.flt hs1 (by omega) (congrArg Prod.snd (clsT_1x kk (by omega))) mb8 (mpx.mf.tr mo8.mf)
                      refine EV.l (lv' := [(0, _), (1, _), (2, _), (3, _)]) r_X11_court_112 rfl ?_
                      refine EV.cv r_X11_court_113 (aV0 mt_173 la_106) (m_fineB mb8 hn (by omega)) ?_
                      refine EV.n0_ne r_X11_court_116 (fun h116 => ?_) (fun h116 => ?_)
                      · omega
                      · -- 116 f
                        refine EV.g r_X11_court_119 ?_
                        have fin := fin
                        have mdx := fin.1
                        rw [hz] at mdx
                        have fo : ∀ o, o ≠ 106 → (o < 109 ∨ 112 < o) → I8 o = I o := fun o p1 p2 => (fin.2.2.2 o p1 p2).trans ((o3 o p1).trans ((o2 o p1).trans (by rw [e1]; exact wr_row p1)))
                        have fj : ∀ j, j ≠ 0 → j ≠ 2 → j ≠ 3 → j ≠ 4 → j ≠ 5 → j ≠ 6 → j ≠ 7 → j ≠ 8 → (j < 18 ∨ 21 < j) → I8 106 j = I 106 j := fun j p0 p2 p3 p4 p5 p6 p7 p8 p9 => (fin.2.2.1 j p4 p5 p6 p9).trans ((j3 j p9).trans ((j2 j p2 p3 p4 p5 p7 p8).trans (by rw [e1]; exact wr_ne (Or.inr p0))))
                        have f0 : I8 106 0 = nI 0 := (fin.2.2.1 0 (by decide) (by decide) (by decide) (by decide)).trans ((j3 0 (by decide)).trans ((j2 0 (by decide) (by decide) (by decide) (by decide) (by decide) (by decide)).trans (by rw [e1]; exact wr_same)))
                        have mcx := fin.2.1 s2 hz
                        have mgx : MG S.tp n s2 I8 := mdx
                        have cbx := ctsS_cb (g := S.tp) (n := n) (s2 := s2) 60 (zer κ) (scp isB S.tp n 0) cu.zer hz
                        -- end
                        refine EV.l (lv' := [(0, _), (1, _), (2, _)]) r_X11_court_143 rfl ?_
                        refine EV.l (lv' := [(0, _), (1, _), (2, _)]) r_X11_court_144 rfl ?_
                        refine EV.gI r_X11_court_145 la_106 ?_
                        refine EV.ci r_X11_court_148 (aV1 mt_185 la_106) (m_resG mgx (by omega)) (fun v IB hB => ?_)
                        obtain ⟨e, eB⟩ := hB
                        subst e
                        refine EV.l (lv' := [(0, _), (1, _), (2, _), (3, _)]) r_X11_court_151 rfl ?_
                        refine EV.l (lv' := [(0, _), (1, _), (2, _), (3, _)]) r_X11_court_152 rfl ?_
                        refine EV.getV r_X11_court_153 la_106 ((show IB 106 5 = zI (-1) from by rw [eB, wr_ne (Or.inr (by decide))]; exact mgx.fo)) ?_
                        refine EV.o r_X11_court_156 (icZ (-1)) ?_
                        refine EV.z2_ne r_X11_court_157 (fun h157 => ?_) (fun h157 => ?_)
                        · omega
                        · -- 157 f
                          refine EV.l (lv' := [(0, _), (1, _), (2, _), (3, _)]) r_X11_court_160 rfl ?_
                          refine EV.cu r_X11_court_161 (aV0 mt_189 la_106) (m_sets (w := S.η.wk) (κ := (ctsS S.tp n 60 (zer κ) (scp isB S.tp n 0)).1) (by have z := mcx; unfold MCd at z ⊢; rw [show IB 106 18 = I8 106 18 from by rw [eB]; rfl, show IB 106 19 = I8 106 19 from by rw [eB]; rfl, show IB 106 20 = I8 106 20 from by rw [eB]; rfl, show IB 106 21 = I8 106 21 from by rw [eB]; rfl, show IB 109 = I8 109 from by rw [eB]; rfl, show IB 110 = I8 110 from by rw [eB]; rfl, show IB 111 = I8 111 from by rw [eB]; rfl, show IB 112 = I8 112 from by rw [eB]; rfl]; exact z) cbx (by omega)) (fun IC hC => ?_)
                          obtain ⟨C1, C2, C3, C4, C5, C6⟩ := hC
                          refine EV.l (lv' := [(0, _), (1, _), (2, _), (3, _)]) r_X11_court_164 rfl ?_
                          exact EV.ri r_X11_court_165 (⟨mcx.ns, ⟨C1, C2, Or.inr ⟨C3.1, rfl, rfl, rfl⟩, by rw [C6 2 (by decide), eB, wr_ne (Or.inr (by decide))]; exact mgx.ln, by rw [C6 8 (by decide), eB]; exact wr_same, tp_fm h.tp ((C5 108 (by decide) (by decide) (by decide) (by decide)).trans ((by rw [eB]; exact wr_row (by decide) : IB 108 = I8 108).trans (fo 108 (by decide) (by decide)))), C3.2.2.2.2, by rw [C5 107 (by decide) (by decide) (by decide) (by decide), eB, wr_row (by decide), fo 107 (by decide) (by decide)]; exact h.r0, by rw [C5 107 (by decide) (by decide) (by decide) (by decide), eB, wr_row (by decide), fo 107 (by decide) (by decide)]; exact h.r1, C3.2.1.trans (congrArg nI (by decide +kernel : 0 = pc9 0)), fun j hj => by rw [C4 j hj]; show _ = if Nat.testBit 0 j = true then _ else _; rw [Nat.zero_testBit]; rfl, C3.2.2.1, C3.2.2.2.1, fun k hk => absurd hk (Nat.not_lt_zero k), fun i hi => absurd hi (Nat.not_lt_zero i), fun i hi => absurd hi (Nat.not_lt_zero i), fun i k hi => absurd hi (Nat.not_lt_zero i)⟩, fun o ho => by rw [C5 o (by omega) (by omega) (by omega) (by omega), eB, wr_row (by omega), fo o (by omega) (by omega)], by rw [C6 0 (by decide), eB, wr_ne (Or.inr (by decide))]; exact f0⟩)
                · omega
              · -- case
                have rkk : rwo (wdv S.tp n s1) (isW S.tp n s1 tCoun) = ((2 : Nat) : Int) := by rw [rk, kk]; rfl
                refine EV.cv r_X11_court_68 (aS2 mt_190) (m_rowN (k := 2) rkk (by omega) (by omega)) ?_
                refine EV.l (lv' := [(0, _), (1, _), (2, _), (3, _)]) r_X11_court_71 rfl ?_
                refine EV.l (lv' := [(0, _), (1, _), (2, _), (3, _)]) r_X11_court_72 rfl ?_
                refine EV.o r_X11_court_73 (icZ (-1)) ?_
                refine EV.nz2_ne r_X11_court_74 (fun h74 => ?_) (fun h74 => ?_)
                · -- 74 t
                  refine EV.l (lv' := [(0, _), (1, _), (2, _), (3, _)]) r_X11_court_89 rfl ?_
                  refine EV.o r_X11_court_90 (bpN (60) 60) ?_
                  refine EV.n2_eq r_X11_court_92 (fun h92 => ?_) (fun h92 => ?_)
                  · omega
                  · -- 92 f
                    refine EV.l (lv' := [(0, _), (1, _), (2, _), (3, _)]) r_X11_court_95 rfl ?_
                    refine EV.l (lv' := [(0, _), (1, _), (2, _), (3, _)]) r_X11_court_96 rfl ?_
                    refine EV.cv r_X11_court_97 (aV1 mt_192 la_106) (m_full2 mc7.nr (by omega) (by omega)) ?_
                    refine EV.p0_eq r_X11_court_100 (fun h100 => ?_) (fun h100 => ?_)
                    · -- 100 t
                      refine EV.l (lv' := [(0, _), (1, _), (2, _), (3, _)]) r_X11_court_112 rfl ?_
                      refine EV.cv r_X11_court_113 (aV0 mt_173 la_106) (m_fineG mg7 (by omega)) ?_
                      refine EV.n0_ne r_X11_court_116 (fun h116 => ?_) (fun h116 => ?_)
                      · -- 116 t
                        refine EV.l (lv' := [(0, _), (1, _), (2, _), (3, _)]) r_X11_court_122 rfl ?_
                        refine EV.cu r_X11_court_123 (aV0 mt_180 la_106) (m_pass t7 sb.tp hn mg7.en sn at7 (by omega)) (fun I8 h8 => ?_)
                        obtain ⟨at8, mp8⟩ := h8
                        have w2 := kd2_pe (kcl_w (g := S.tp) (n := n) (s := s1) (by omega))
                        have mg8 : MG S.tp n (nxp S.tp n s1) I8 := mg7.mv mp8 (scp_le sn) at8 (by unfold nxp; rw [w2.2.1])
                        refine EV.l (lv' := [(0, _), (1, _), (2, _), (3, _)]) r_X11_court_126 rfl ?_
                        refine EV.l (lv' := [(0, _), (1, _), (2, _), (3, _)]) r_X11_court_127 rfl ?_
                        refine EV.cu r_X11_court_128 (aV1 mt_193 la_106) (m_row2 (tp_fm t7 (mp8.1 108 (by decide))) sb.tp hn mg8 (mc7.mo mp8.mo) k2 kk (by omega) (by omega)) (fun I9 h9 => ?_)
                        have h9 : MD S.tp n (clsT S.tp n K s1).2 I9 ∧ (∀ s2, (clsT S.tp n K s1).2 = .inl s2 → MCd (clsT S.tp n K s1).1 I9) ∧ MF M I9 := ⟨h9.1, h9.2.1, mpx.mf.tr (mp8.mf.tr h9.2.2)⟩
                        refine EV.l (lv' := [(0, _), (1, _), (2, _), (3, _)]) r_X11_court_131 rfl ?_
                        refine EV.o r_X11_court_132 (bpN (59) 59) ?_
                        refine EV.cu r_X11_court_134 (aV1 mt_182 la_106) (m_sign (tp_fm (tp_fm t0 (hx44.1.2 108 (by decide) (by decide))) (h9.2.2.2 108 (by decide) (by decide))) sb.tp hn h9.1 (by decide) (by decide) (by decide) (by decide) (by omega)) (fun IA hA => ?_)
                        refine EV.l (lv' := [(0, _), (1, _), (2, _), (3, _)]) r_X11_court_137 rfl ?_
                        rw [inc_nI]
                        refine EV.g r_X11_court_140 ?_
                        refine EV.fg (lv' := [(0, _), (1, _), (2, _)]) r_X11_court_44 rfl rfl rfl ?_
                        refine EV.sub ?_ rfl ?_ (ih44 (i + 1, (clsS S.tp n K s1).2, (clsS S.tp n K s1).1, IA) ?_ ?_)
                        · (try dsimp only) <;> (rfl)
                        · (try dsimp only) <;> (rfl)
                        · (try dsimp only) <;> (omega)
                        · (try dsimp only) <;> (exact hx44.next hs1 (by omega) h9 hA)
                      · omega
                    · -- 100 f
                      refine EV.l (lv' := [(0, _), (1, _), (2, _), (3, _)]) r_X11_court_103 rfl ?_
                      refine EV.o r_X11_court_104 (icN (3) (v := 3)) ?_
                      refine EV.l (lv' := [(0, _), (1, _), (2, _), (3, _)]) r_X11_court_105 rfl ?_
                      refine EV.getV r_X11_court_106 la_106 (at7) ?_
                      refine EV.cu r_X11_court_109 (aV2 mt_174 la_106) (m_wrongG mg7 (by decide) (by decide) sn (by omega)) (fun I8 h8 => ?_)
                      obtain ⟨mb8, mo8⟩ := h8
                      have fin := hx44.flt hs1 (by omega) (congrArg Prod.snd (clsT_2x kk (by omega))) mb8 (mpx.mf.tr mo8.mf)
                      refine EV.l (lv' := [(0, _), (1, _), (2, _), (3, _)]) r_X11_court_112 rfl ?_
                      refine EV.cv r_X11_court_113 (aV0 mt_173 la_106) (m_fineB mb8 hn (by omega)) ?_
                      refine EV.n0_ne r_X11_court_116 (fun h116 => ?_) (fun h116 => ?_)
                      · omega
                      · -- 116 f
                        refine EV.g r_X11_court_119 ?_
                        have fin := fin
                        have mdx := fin.1
                        rw [hz] at mdx
                        have fo : ∀ o, o ≠ 106 → (o < 109 ∨ 112 < o) → I8 o = I o := fun o p1 p2 => (fin.2.2.2 o p1 p2).trans ((o3 o p1).trans ((o2 o p1).trans (by rw [e1]; exact wr_row p1)))
                        have fj : ∀ j, j ≠ 0 → j ≠ 2 → j ≠ 3 → j ≠ 4 → j ≠ 5 → j ≠ 6 → j ≠ 7 → j ≠ 8 → (j < 18 ∨ 21 < j) → I8 106 j = I 106 j := fun j p0 p2 p3 p4 p5 p6 p7 p8 p9 => (fin.2.2.1 j p4 p5 p6 p9).trans ((j3 j p9).trans ((j2 j p2 p3 p4 p5 p7 p8).trans (by rw [e1]; exact wr_ne (Or.inr p0))))
                        have f0 : I8 106 0 = nI 0 := (fin.2.2.1 0 (by decide) (by decide) (by decide) (by decide)).trans ((j3 0 (by decide)).trans ((j2 0 (by decide) (by decide) (by decide) (by decide) (by decide) (by decide)).trans (by rw [e1]; exact wr_same)))
                        have mcx := fin.2.1 s2 hz
                        have mgx : MG S.tp n s2 I8 := mdx
                        have cbx := ctsS_cb (g := S.tp) (n := n) (s2 := s2) 60 (zer κ) (scp isB S.tp n 0) cu.zer hz
                        -- end
                        refine EV.l (lv' := [(0, _), (1, _), (2, _)]) r_X11_court_143 rfl ?_
                        refine EV.l (lv' := [(0, _), (1, _), (2, _)]) r_X11_court_144 rfl ?_
                        refine EV.gI r_X11_court_145 la_106 ?_
                        refine EV.ci r_X11_court_148 (aV1 mt_185 la_106) (m_resG mgx (by omega)) (fun v IB hB => ?_)
                        obtain ⟨e, eB⟩ := hB
                        subst e
                        refine EV.l (lv' := [(0, _), (1, _), (2, _), (3, _)]) r_X11_court_151 rfl ?_
                        refine EV.l (lv' := [(0, _), (1, _), (2, _), (3, _)]) r_X11_court_152 rfl ?_
                        refine EV.getV r_X11_court_153 la_106 ((show IB 106 5 = zI (-1) from by rw [eB, wr_ne (Or.inr (by decide))]; exact mgx.fo)) ?_
                        refine EV.o r_X11_court_156 (icZ (-1)) ?_
                        refine EV.z2_ne r_X11_court_157 (fun h157 => ?_) (fun h157 => ?_)
                        · omega
                        · -- 157 f
                          refine EV.l (lv' := [(0, _), (1, _), (2, _), (3, _)]) r_X11_court_160 rfl ?_
                          refine EV.cu r_X11_court_161 (aV0 mt_189 la_106) (m_sets (w := S.η.wk) (κ := (ctsS S.tp n 60 (zer κ) (scp isB S.tp n 0)).1) (by have z := mcx; unfold MCd at z ⊢; rw [show IB 106 18 = I8 106 18 from by rw [eB]; rfl, show IB 106 19 = I8 106 19 from by rw [eB]; rfl, show IB 106 20 = I8 106 20 from by rw [eB]; rfl, show IB 106 21 = I8 106 21 from by rw [eB]; rfl, show IB 109 = I8 109 from by rw [eB]; rfl, show IB 110 = I8 110 from by rw [eB]; rfl, show IB 111 = I8 111 from by rw [eB]; rfl, show IB 112 = I8 112 from by rw [eB]; rfl]; exact z) cbx (by omega)) (fun IC hC => ?_)
                          obtain ⟨C1, C2, C3, C4, C5, C6⟩ := hC
                          refine EV.l (lv' := [(0, _), (1, _), (2, _), (3, _)]) r_X11_court_164 rfl ?_
                          exact EV.ri r_X11_court_165 (⟨mcx.ns, ⟨C1, C2, Or.inr ⟨C3.1, rfl, rfl, rfl⟩, by rw [C6 2 (by decide), eB, wr_ne (Or.inr (by decide))]; exact mgx.ln, by rw [C6 8 (by decide), eB]; exact wr_same, tp_fm h.tp ((C5 108 (by decide) (by decide) (by decide) (by decide)).trans ((by rw [eB]; exact wr_row (by decide) : IB 108 = I8 108).trans (fo 108 (by decide) (by decide)))), C3.2.2.2.2, by rw [C5 107 (by decide) (by decide) (by decide) (by decide), eB, wr_row (by decide), fo 107 (by decide) (by decide)]; exact h.r0, by rw [C5 107 (by decide) (by decide) (by decide) (by decide), eB, wr_row (by decide), fo 107 (by decide) (by decide)]; exact h.r1, C3.2.1.trans (congrArg nI (by decide +kernel : 0 = pc9 0)), fun j hj => by rw [C4 j hj]; show _ = if Nat.testBit 0 j = true then _ else _; rw [Nat.zero_testBit]; rfl, C3.2.2.1, C3.2.2.2.1, fun k hk => absurd hk (Nat.not_lt_zero k), fun i hi => absurd hi (Nat.not_lt_zero i), fun i hi => absurd hi (Nat.not_lt_zero i), fun i k hi => absurd hi (Nat.not_lt_zero i)⟩, fun o ho => by rw [C5 o (by omega) (by omega) (by omega) (by omega), eB, wr_row (by omega), fo o (by omega) (by omega)], by rw [C6 0 (by decide), eB, wr_ne (Or.inr (by decide))]; exact f0⟩)
                · omega
              · -- case
                have rkk : rwo (wdv S.tp n s1) (isW S.tp n s1 tCoun) = ((3 : Nat) : Int) := by rw [rk, kk]; rfl
                refine EV.cv r_X11_court_68 (aS2 mt_190) (m_rowN (k := 3) rkk (by omega) (by omega)) ?_
                refine EV.l (lv' := [(0, _), (1, _), (2, _), (3, _)]) r_X11_court_71 rfl ?_
                refine EV.l (lv' := [(0, _), (1, _), (2, _), (3, _)]) r_X11_court_72 rfl ?_
                refine EV.o r_X11_court_73 (icZ (-1)) ?_
                refine EV.nz2_ne r_X11_court_74 (fun h74 => ?_) (fun h74 => ?_)
                · -- 74 t
                  refine EV.l (lv' := [(0, _), (1, _), (2, _), (3, _)]) r_X11_court_89 rfl ?_
                  refine EV.o r_X11_court_90 (bpN (60) 60) ?_
                  refine EV.n2_eq r_X11_court_92 (fun h92 => ?_) (fun h92 => ?_)
                  · omega
                  · -- 92 f
                    refine EV.l (lv' := [(0, _), (1, _), (2, _), (3, _)]) r_X11_court_95 rfl ?_
                    refine EV.l (lv' := [(0, _), (1, _), (2, _), (3, _)]) r_X11_court_96 rfl ?_
                    refine EV.cv r_X11_court_97 (aV1 mt_192 la_106) (m_full3 mc7.nb (by omega) (by omega)) ?_
                    refine EV.p0_eq r_X11_court_100 (fun h100 => ?_) (fun h100 => ?_)
                    · -- 100 t
                      refine EV.l (lv' := [(0, _), (1, _), (2, _), (3, _)]) r_X11_court_112 rfl ?_
                      refine EV.cv r_X11_court_113 (aV0 mt_173 la_106) (m_fineG mg7 (by omega)) ?_
                      refine EV.n0_ne r_X11_court_116 (fun h116 => ?_) (fun h116 => ?_)
                      · -- 116 t
                        refine EV.l (lv' := [(0, _), (1, _), (2, _), (3, _)]) r_X11_court_122 rfl ?_
                        refine EV.cu r_X11_court_123 (aV0 mt_180 la_106) (m_pass t7 sb.tp hn mg7.en sn at7 (by omega)) (fun I8 h8 => ?_)
                        obtain ⟨at8, mp8⟩ := h8
                        have w2 := kd2_pe (kcl_w (g := S.tp) (n := n) (s := s1) (by omega))
                        have mg8 : MG S.tp n (nxp S.tp n s1) I8 := mg7.mv mp8 (scp_le sn) at8 (by unfold nxp; rw [w2.2.1])
                        refine EV.l (lv' := [(0, _), (1, _), (2, _), (3, _)]) r_X11_court_126 rfl ?_
                        refine EV.l (lv' := [(0, _), (1, _), (2, _), (3, _)]) r_X11_court_127 rfl ?_
                        refine EV.cu r_X11_court_128 (aV1 mt_193 la_106) (m_row3 (tp_fm t7 (mp8.1 108 (by decide))) sb.tp hn mg8 (mc7.mo mp8.mo) k2 kk (by omega) (by omega)) (fun I9 h9 => ?_)
                        have h9 : MD S.tp n (clsT S.tp n K s1).2 I9 ∧ (∀ s2, (clsT S.tp n K s1).2 = .inl s2 → MCd (clsT S.tp n K s1).1 I9) ∧ MF M I9 := ⟨h9.1, h9.2.1, mpx.mf.tr (mp8.mf.tr h9.2.2)⟩
                        refine EV.l (lv' := [(0, _), (1, _), (2, _), (3, _)]) r_X11_court_131 rfl ?_
                        refine EV.o r_X11_court_132 (bpN (59) 59) ?_
                        refine EV.cu r_X11_court_134 (aV1 mt_182 la_106) (m_sign (tp_fm (tp_fm t0 (hx44.1.2 108 (by decide) (by decide))) (h9.2.2.2 108 (by decide) (by decide))) sb.tp hn h9.1 (by decide) (by decide) (by decide) (by decide) (by omega)) (fun IA hA => ?_)
                        refine EV.l (lv' := [(0, _), (1, _), (2, _), (3, _)]) r_X11_court_137 rfl ?_
                        rw [inc_nI]
                        refine EV.g r_X11_court_140 ?_
                        refine EV.fg (lv' := [(0, _), (1, _), (2, _)]) r_X11_court_44 rfl rfl rfl ?_
                        refine EV.sub ?_ rfl ?_ (ih44 (i + 1, (clsS S.tp n K s1).2, (clsS S.tp n K s1).1, IA) ?_ ?_)
                        · (try dsimp only) <;> (rfl)
                        · (try dsimp only) <;> (rfl)
                        · (try dsimp only) <;> (omega)
                        · (try dsimp only) <;> (exact hx44.next hs1 (by omega) h9 hA)
                      · omega
                    · -- 100 f
                      refine EV.l (lv' := [(0, _), (1, _), (2, _), (3, _)]) r_X11_court_103 rfl ?_
                      refine EV.o r_X11_court_104 (icN (3) (v := 3)) ?_
                      refine EV.l (lv' := [(0, _), (1, _), (2, _), (3, _)]) r_X11_court_105 rfl ?_
                      refine EV.getV r_X11_court_106 la_106 (at7) ?_
                      refine EV.cu r_X11_court_109 (aV2 mt_174 la_106) (m_wrongG mg7 (by decide) (by decide) sn (by omega)) (fun I8 h8 => ?_)
                      obtain ⟨mb8, mo8⟩ := h8
                      have fin := hx44.flt hs1 (by omega) (congrArg Prod.snd (clsT_3x kk (by omega))) mb8 (mpx.mf.tr mo8.mf)
                      refine EV.l (lv' := [(0, _), (1, _), (2, _), (3, _)]) r_X11_court_112 rfl ?_
                      refine EV.cv r_X11_court_113 (aV0 mt_173 la_106) (m_fineB mb8 hn (by omega)) ?_
                      refine EV.n0_ne r_X11_court_116 (fun h116 => ?_) (fun h116 => ?_)
                      · omega
                      · -- 116 f
                        refine EV.g r_X11_court_119 ?_
                        have fin := fin
                        have mdx := fin.1
                        rw [hz] at mdx
                        have fo : ∀ o, o ≠ 106 → (o < 109 ∨ 112 < o) → I8 o = I o := fun o p1 p2 => (fin.2.2.2 o p1 p2).trans ((o3 o p1).trans ((o2 o p1).trans (by rw [e1]; exact wr_row p1)))
                        have fj : ∀ j, j ≠ 0 → j ≠ 2 → j ≠ 3 → j ≠ 4 → j ≠ 5 → j ≠ 6 → j ≠ 7 → j ≠ 8 → (j < 18 ∨ 21 < j) → I8 106 j = I 106 j := fun j p0 p2 p3 p4 p5 p6 p7 p8 p9 => (fin.2.2.1 j p4 p5 p6 p9).trans ((j3 j p9).trans ((j2 j p2 p3 p4 p5 p7 p8).trans (by rw [e1]; exact wr_ne (Or.inr p0))))
                        have f0 : I8 106 0 = nI 0 := (fin.2.2.1 0 (by decide) (by decide) (by decide) (by decide)).trans ((j3 0 (by decide)).trans ((j2 0 (by decide) (by decide) (by decide) (by decide) (by decide) (by decide)).trans (by rw [e1]; exact wr_same)))
                        have mcx := fin.2.1 s2 hz
                        have mgx : MG S.tp n s2 I8 := mdx
                        have cbx := ctsS_cb (g := S.tp) (n := n) (s2 := s2) 60 (zer κ) (scp isB S.tp n 0) cu.zer hz
                        -- end
                        refine EV.l (lv' := [(0, _), (1, _), (2, _)]) r_X11_court_143 rfl ?_
                        refine EV.l (lv' := [(0, _), (1, _), (2, _)]) r_X11_court_144 rfl ?_
                        refine EV.gI r_X11_court_145 la_106 ?_
                        refine EV.ci r_X11_court_148 (aV1 mt_185 la_106) (m_resG mgx (by omega)) (fun v IB hB => ?_)
                        obtain ⟨e, eB⟩ := hB
                        subst e
                        refine EV.l (lv' := [(0, _), (1, _), (2, _), (3, _)]) r_X11_court_151 rfl ?_
                        refine EV.l (lv' := [(0, _), (1, _), (2, _), (3, _)]) r_X11_court_152 rfl ?_
                        refine EV.getV r_X11_court_153 la_106 ((show IB 106 5 = zI (-1) from by rw [eB, wr_ne (Or.inr (by decide))]; exact mgx.fo)) ?_
                        refine EV.o r_X11_court_156 (icZ (-1)) ?_
                        refine EV.z2_ne r_X11_court_157 (fun h157 => ?_) (fun h157 => ?_)
                        · omega
                        · -- 157 f
                          refine EV.l (lv' := [(0, _), (1, _), (2, _), (3, _)]) r_X11_court_160 rfl ?_
                          refine EV.cu r_X11_court_161 (aV0 mt_189 la_106) (m_sets (w := S.η.wk) (κ := (ctsS S.tp n 60 (zer κ) (scp isB S.tp n 0)).1) (by have z := mcx; unfold MCd at z ⊢; rw [show IB 106 18 = I8 106 18 from by rw [eB]; rfl, show IB 106 19 = I8 106 19 from by rw [eB]; rfl, show IB 106 20 = I8 106 20 from by rw [eB]; rfl, show IB 106 21 = I8 106 21 from by rw [eB]; rfl, show IB 109 = I8 109 from by rw [eB]; rfl, show IB 110 = I8 110 from by rw [eB]; rfl, show IB 111 = I8 111 from by rw [eB]; rfl, show IB 112 = I8 112 from by rw [eB]; rfl]; exact z) cbx (by omega)) (fun IC hC => ?_)
                          obtain ⟨C1, C2, C3, C4, C5, C6⟩ := hC
                          refine EV.l (lv' := [(0, _), (1, _), (2, _), (3, _)]) r_X11_court_164 rfl ?_
                          exact EV.ri r_X11_court_165 (⟨mcx.ns, ⟨C1, C2, Or.inr ⟨C3.1, rfl, rfl, rfl⟩, by rw [C6 2 (by decide), eB, wr_ne (Or.inr (by decide))]; exact mgx.ln, by rw [C6 8 (by decide), eB]; exact wr_same, tp_fm h.tp ((C5 108 (by decide) (by decide) (by decide) (by decide)).trans ((by rw [eB]; exact wr_row (by decide) : IB 108 = I8 108).trans (fo 108 (by decide) (by decide)))), C3.2.2.2.2, by rw [C5 107 (by decide) (by decide) (by decide) (by decide), eB, wr_row (by decide), fo 107 (by decide) (by decide)]; exact h.r0, by rw [C5 107 (by decide) (by decide) (by decide) (by decide), eB, wr_row (by decide), fo 107 (by decide) (by decide)]; exact h.r1, C3.2.1.trans (congrArg nI (by decide +kernel : 0 = pc9 0)), fun j hj => by rw [C4 j hj]; show _ = if Nat.testBit 0 j = true then _ else _; rw [Nat.zero_testBit]; rfl, C3.2.2.1, C3.2.2.2.1, fun k hk => absurd hk (Nat.not_lt_zero k), fun i hi => absurd hi (Nat.not_lt_zero i), fun i hi => absurd hi (Nat.not_lt_zero i), fun i k hi => absurd hi (Nat.not_lt_zero i)⟩, fun o ho => by rw [C5 o (by omega) (by omega) (by omega) (by omega), eB, wr_row (by omega), fo o (by omega) (by omega)], by rw [C6 0 (by decide), eB, wr_ne (Or.inr (by decide))]; exact f0⟩)
                · omega
              · -- case
                have rkk : rwo (wdv S.tp n s1) (isW S.tp n s1 tCoun) = ((4 : Nat) : Int) := by rw [rk, kk]; rfl
                refine EV.cv r_X11_court_68 (aS2 mt_190) (m_rowN (k := 4) rkk (by omega) (by omega)) ?_
                refine EV.l (lv' := [(0, _), (1, _), (2, _), (3, _)]) r_X11_court_71 rfl ?_
                refine EV.l (lv' := [(0, _), (1, _), (2, _), (3, _)]) r_X11_court_72 rfl ?_
                refine EV.o r_X11_court_73 (icZ (-1)) ?_
                refine EV.nz2_ne r_X11_court_74 (fun h74 => ?_) (fun h74 => ?_)
                · -- 74 t
                  refine EV.l (lv' := [(0, _), (1, _), (2, _), (3, _)]) r_X11_court_89 rfl ?_
                  refine EV.o r_X11_court_90 (bpN (60) 60) ?_
                  refine EV.n2_eq r_X11_court_92 (fun h92 => ?_) (fun h92 => ?_)
                  · omega
                  · -- 92 f
                    refine EV.l (lv' := [(0, _), (1, _), (2, _), (3, _)]) r_X11_court_95 rfl ?_
                    refine EV.l (lv' := [(0, _), (1, _), (2, _), (3, _)]) r_X11_court_96 rfl ?_
                    refine EV.cv r_X11_court_97 (aV1 mt_192 la_106) (m_full4 mc7.nc (by omega) (by omega)) ?_
                    refine EV.p0_eq r_X11_court_100 (fun h100 => ?_) (fun h100 => ?_)
                    · -- 100 t
                      refine EV.l (lv' := [(0, _), (1, _), (2, _), (3, _)]) r_X11_court_112 rfl ?_
                      refine EV.cv r_X11_court_113 (aV0 mt_173 la_106) (m_fineG mg7 (by omega)) ?_
                      refine EV.n0_ne r_X11_court_116 (fun h116 => ?_) (fun h116 => ?_)
                      · -- 116 t
                        refine EV.l (lv' := [(0, _), (1, _), (2, _), (3, _)]) r_X11_court_122 rfl ?_
                        refine EV.cu r_X11_court_123 (aV0 mt_180 la_106) (m_pass t7 sb.tp hn mg7.en sn at7 (by omega)) (fun I8 h8 => ?_)
                        obtain ⟨at8, mp8⟩ := h8
                        have w2 := kd2_pe (kcl_w (g := S.tp) (n := n) (s := s1) (by omega))
                        have mg8 : MG S.tp n (nxp S.tp n s1) I8 := mg7.mv mp8 (scp_le sn) at8 (by unfold nxp; rw [w2.2.1])
                        refine EV.l (lv' := [(0, _), (1, _), (2, _), (3, _)]) r_X11_court_126 rfl ?_
                        refine EV.l (lv' := [(0, _), (1, _), (2, _), (3, _)]) r_X11_court_127 rfl ?_
                        refine EV.cu r_X11_court_128 (aV1 mt_193 la_106) (m_row4 (tp_fm t7 (mp8.1 108 (by decide))) sb.tp hn mg8 (mc7.mo mp8.mo) k2 kk (by omega) (by omega)) (fun I9 h9 => ?_)
                        have h9 : MD S.tp n (clsT S.tp n K s1).2 I9 ∧ (∀ s2, (clsT S.tp n K s1).2 = .inl s2 → MCd (clsT S.tp n K s1).1 I9) ∧ MF M I9 := ⟨h9.1, h9.2.1, mpx.mf.tr (mp8.mf.tr h9.2.2)⟩
                        refine EV.l (lv' := [(0, _), (1, _), (2, _), (3, _)]) r_X11_court_131 rfl ?_
                        refine EV.o r_X11_court_132 (bpN (59) 59) ?_
                        refine EV.cu r_X11_court_134 (aV1 mt_182 la_106) (m_sign (tp_fm (tp_fm t0 (hx44.1.2 108 (by decide) (by decide))) (h9.2.2.2 108 (by decide) (by decide))) sb.tp hn h9.1 (by decide) (by decide) (by decide) (by decide) (by omega)) (fun IA hA => ?_)
                        refine EV.l (lv' := [(0, _), (1, _), (2, _), (3, _)]) r_X11_court_137 rfl ?_
                        rw [inc_nI]
                        refine EV.g r_X11_court_140 ?_
                        refine EV.fg (lv' := [(0, _), (1, _), (2, _)]) r_X11_court_44 rfl rfl rfl ?_
                        refine EV.sub ?_ rfl ?_ (ih44 (i + 1, (clsS S.tp n K s1).2, (clsS S.tp n K s1).1, IA) ?_ ?_)
                        · (try dsimp only) <;> (rfl)
                        · (try dsimp only) <;> (rfl)
                        · (try dsimp only) <;> (omega)
                        · (try dsimp only) <;> (exact hx44.next hs1 (by omega) h9 hA)
                      · omega
                    · -- 100 f
                      refine EV.l (lv' := [(0, _), (1, _), (2, _), (3, _)]) r_X11_court_103 rfl ?_
                      refine EV.o r_X11_court_104 (icN (3) (v := 3)) ?_
                      refine EV.l (lv' := [(0, _), (1, _), (2, _), (3, _)]) r_X11_court_105 rfl ?_
                      refine EV.getV r_X11_court_106 la_106 (at7) ?_
                      refine EV.cu r_X11_court_109 (aV2 mt_174 la_106) (m_wrongG mg7 (by decide) (by decide) sn (by omega)) (fun I8 h8 => ?_)
                      obtain ⟨mb8, mo8⟩ := h8
                      have fin := hx44.flt hs1 (by omega) (congrArg Prod.snd (clsT_4x kk (by omega))) mb8 (mpx.mf.tr mo8.mf)
                      refine EV.l (lv' := [(0, _), (1, _), (2, _), (3, _)]) r_X11_court_112 rfl ?_
                      refine EV.cv r_X11_court_113 (aV0 mt_173 la_106) (m_fineB mb8 hn (by omega)) ?_
                      refine EV.n0_ne r_X11_court_116 (fun h116 => ?_) (fun h116 => ?_)
                      · omega
                      · -- 116 f
                        refine EV.g r_X11_court_119 ?_
                        have fin := fin
                        have mdx := fin.1
                        rw [hz] at mdx
                        have fo : ∀ o, o ≠ 106 → (o < 109 ∨ 112 < o) → I8 o = I o := fun o p1 p2 => (fin.2.2.2 o p1 p2).trans ((o3 o p1).trans ((o2 o p1).trans (by rw [e1]; exact wr_row p1)))
                        have fj : ∀ j, j ≠ 0 → j ≠ 2 → j ≠ 3 → j ≠ 4 → j ≠ 5 → j ≠ 6 → j ≠ 7 → j ≠ 8 → (j < 18 ∨ 21 < j) → I8 106 j = I 106 j := fun j p0 p2 p3 p4 p5 p6 p7 p8 p9 => (fin.2.2.1 j p4 p5 p6 p9).trans ((j3 j p9).trans ((j2 j p2 p3 p4 p5 p7 p8).trans (by rw [e1]; exact wr_ne (Or.inr p0))))
                        have f0 : I8 106 0 = nI 0 := (fin.2.2.1 0 (by decide) (by decide) (by decide) (by decide)).trans ((j3 0 (by decide)).trans ((j2 0 (by decide) (by decide) (by decide) (by decide) (by decide) (by decide)).trans (by rw [e1]; exact wr_same)))
                        have mcx := fin.2.1 s2 hz
                        have mgx : MG S.tp n s2 I8 := mdx
                        have cbx := ctsS_cb (g := S.tp) (n := n) (s2 := s2) 60 (zer κ) (scp isB S.tp n 0) cu.zer hz
                        -- end
                        refine EV.l (lv' := [(0, _), (1, _), (2, _)]) r_X11_court_143 rfl ?_
                        refine EV.l (lv' := [(0, _), (1, _), (2, _)]) r_X11_court_144 rfl ?_
                        refine EV.gI r_X11_court_145 la_106 ?_
                        refine EV.ci r_X11_court_148 (aV1 mt_185 la_106) (m_resG mgx (by omega)) (fun v IB hB => ?_)
                        obtain ⟨e, eB⟩ := hB
                        subst e
                        refine EV.l (lv' := [(0, _), (1, _), (2, _), (3, _)]) r_X11_court_151 rfl ?_
                        refine EV.l (lv' := [(0, _), (1, _), (2, _), (3, _)]) r_X11_court_152 rfl ?_
                        refine EV.getV r_X11_court_153 la_106 ((show IB 106 5 = zI (-1) from by rw [eB, wr_ne (Or.inr (by decide))]; exact mgx.fo)) ?_
                        refine EV.o r_X11_court_156 (icZ (-1)) ?_
                        refine EV.z2_ne r_X11_court_157 (fun h157 => ?_) (fun h157 => ?_)
                        · omega
                        · -- 157 f
                          refine EV.l (lv' := [(0, _), (1, _), (2, _), (3, _)]) r_X11_court_160 rfl ?_
                          refine EV.cu r_X11_court_161 (aV0 mt_189 la_106) (m_sets (w := S.η.wk) (κ := (ctsS S.tp n 60 (zer κ) (scp isB S.tp n 0)).1) (by have z := mcx; unfold MCd at z ⊢; rw [show IB 106 18 = I8 106 18 from by rw [eB]; rfl, show IB 106 19 = I8 106 19 from by rw [eB]; rfl, show IB 106 20 = I8 106 20 from by rw [eB]; rfl, show IB 106 21 = I8 106 21 from by rw [eB]; rfl, show IB 109 = I8 109 from by rw [eB]; rfl, show IB 110 = I8 110 from by rw [eB]; rfl, show IB 111 = I8 111 from by rw [eB]; rfl, show IB 112 = I8 112 from by rw [eB]; rfl]; exact z) cbx (by omega)) (fun IC hC => ?_)
                          obtain ⟨C1, C2, C3, C4, C5, C6⟩ := hC
                          refine EV.l (lv' := [(0, _), (1, _), (2, _), (3, _)]) r_X11_court_164 rfl ?_
                          exact EV.ri r_X11_court_165 (⟨mcx.ns, ⟨C1, C2, Or.inr ⟨C3.1, rfl, rfl, rfl⟩, by rw [C6 2 (by decide), eB, wr_ne (Or.inr (by decide))]; exact mgx.ln, by rw [C6 8 (by decide), eB]; exact wr_same, tp_fm h.tp ((C5 108 (by decide) (by decide) (by decide) (by decide)).trans ((by rw [eB]; exact wr_row (by decide) : IB 108 = I8 108).trans (fo 108 (by decide) (by decide)))), C3.2.2.2.2, by rw [C5 107 (by decide) (by decide) (by decide) (by decide), eB, wr_row (by decide), fo 107 (by decide) (by decide)]; exact h.r0, by rw [C5 107 (by decide) (by decide) (by decide) (by decide), eB, wr_row (by decide), fo 107 (by decide) (by decide)]; exact h.r1, C3.2.1.trans (congrArg nI (by decide +kernel : 0 = pc9 0)), fun j hj => by rw [C4 j hj]; show _ = if Nat.testBit 0 j = true then _ else _; rw [Nat.zero_testBit]; rfl, C3.2.2.1, C3.2.2.2.1, fun k hk => absurd hk (Nat.not_lt_zero k), fun i hi => absurd hi (Nat.not_lt_zero i), fun i hi => absurd hi (Nat.not_lt_zero i), fun i k hi => absurd hi (Nat.not_lt_zero i)⟩, fun o ho => by rw [C5 o (by omega) (by omega) (by omega) (by omega), eB, wr_row (by omega), fo o (by omega) (by omega)], by rw [C6 0 (by decide), eB, wr_ne (Or.inr (by decide))]; exact f0⟩)
                · omega
        have h0 := L44 (0, .inl (scp isB S.tp n 0), zer κ, I3)
        try dsimp only at h0
        refine EV.sub ?_ rfl ?_ (h0 ?_)
        · (try dsimp only) <;> (rfl)
        · (try dsimp only) <;> (rfl)
        · (try dsimp only) <;> (exact ⟨MF.rf, mg3, by decide, mc3, cu.zer, rfl, rfl⟩)
      · omega
