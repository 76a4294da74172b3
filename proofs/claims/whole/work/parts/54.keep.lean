/-! What is kept: UNDO, IMAGE, RESTORE. -/
theorem cpy_at {I : Nat → Nat → Int32} {q p o f n j : Nat} (h : j < n) : cpy I q p o f n q (p + j) = I o (f + j) := by
  unfold cpy
  rw [if_pos ⟨rfl, by omega, by omega⟩, show p + j - p = j by omega]
theorem cpy_out {I : Nat → Nat → Int32} {q p o f n k : Nat} (h : k < p ∨ p + n ≤ k) : cpy I q p o f n q k = I q k := by
  unfold cpy
  rw [if_neg (fun z => by omega)]
theorem cpy_at0 {I : Nat → Nat → Int32} {q o f n j : Nat} (h : j < n) : cpy I q 0 o f n q j = I o (f + j) := by
  have := cpy_at (I := I) (q := q) (p := 0) (o := o) (f := f) h
  rwa [Nat.zero_add] at this
/-- a state that is brought back: the walks of now stand till they are measured -/
def ldS (η : HS) (w : Nat → Nat) : HS := HS.mk η.mi η.nt η.sa η.be η.le w η.cr
def bck (κ : CT) (l : LW) (η : HS) (w : Nat → Nat) : HS := ms κ l (ldS η w) κ.nb
theorem HB.ld {κ : CT} {η : HS} {w : Nat → Nat} (h : HB κ η) (hw : ∀ j, w j ≤ 40) : HB κ (ldS η w) := ⟨h.mi, h.nt, h.sa, h.be, hw, h.cr⟩
theorem CS.ext {a b a2 b2 : Nat} {η : HS} {I I' : Nat → Nat → Int32} (h : CS a b η I) (e : ∀ j, j < 23 → I' a2 (b2 + j) = I a (b + j)) : CS a2 b2 η I' := by
  unfold CS at h ⊢
  obtain ⟨h1, h2, h3, h4, h5, h6⟩ := h
  refine ⟨?_, ?_, fun j hj => ?_, fun j hj => ?_, fun j hj => ?_, fun j hj => ?_⟩
  · have := e 0 (by decide); rw [Nat.add_zero, Nat.add_zero] at this; exact this.trans h1
  · exact (e 1 (by decide)).trans h2
  · rw [Nat.add_assoc, e (2 + j) (by omega), ← Nat.add_assoc]; exact h3 j hj
  · rw [Nat.add_assoc, e (11 + j) (by omega), ← Nat.add_assoc]; exact h4 j hj
  · rw [Nat.add_assoc, e (15 + j) (by omega), ← Nat.add_assoc]; exact h5 j hj
  · rw [Nat.add_assoc, e (19 + j) (by omega), ← Nat.add_assoc]; exact h6 j hj
def undS (S : STT) : STT := STT.mk S.κ S.l (bck S.κ S.l (S.ps (S.w - 1)) S.η.wk) S.tl S.tp 0 S.bt S.br S.fp (S.w - 1) S.ps S.im S.iw S.ip S.r0 S.r1
def imgS (S : STT) : STT := STT.mk S.κ S.l S.η S.tl S.tp S.rf S.bt S.br S.fp S.w S.ps (S.im + 1) (fun i => if i = S.im then S.w else S.iw i) (fun i k => if i = S.im then (if k = S.w then S.η else S.ps k) else S.ip i k) S.r0 S.r1
def resS (S : STT) : STT := STT.mk S.κ S.l (bck S.κ S.l (S.ip (S.im - 1) (S.iw (S.im - 1))) S.η.wk) S.tl S.tp 0 S.bt S.br S.fp (S.iw (S.im - 1)) (S.ip (S.im - 1)) (S.im - 1) S.iw S.ip S.r0 S.r1
theorem SB.und {S : STT} (h : SB S) (hw : 0 < S.w) : SB (undS S) :=
  ⟨h.cb, ((h.ps (S.w - 1) (by omega)).ld h.hb.wk).ms, ms_wm, h.lb, h.tl, h.tp, Nat.zero_le _, h.bt, h.br, (show S.w - 1 ≤ 16 by have := h.w; omega), fun k hk => h.ps k (by have hk : k < S.w - 1 := hk; omega), h.im, h.iw, h.ip, h.pm (S.w - 1) (by omega), fun k hk => h.pm k (by have hk : k < S.w - 1 := hk; omega), h.qm⟩
theorem SB.img {S : STT} (h : SB S) (hi : S.im < 3) : SB (imgS S) := by
  refine ⟨h.cb, h.hb, h.wm, h.lb, h.tl, h.tp, h.rf, h.bt, h.br, h.w, h.ps, hi, fun i hi2 => ?_, fun i k hi2 hk => ?_, h.m4, h.pm, fun i k hi2 hk => ?_⟩
  · show (if i = S.im then S.w else S.iw i) ≤ 16
    split
    · exact h.w
    · exact h.iw i (by have hi2 : i < S.im + 1 := hi2; omega)
  · have hk : k ≤ (if i = S.im then S.w else S.iw i) := hk
    have hi2 : i < S.im + 1 := hi2
    show HB S.κ (if i = S.im then (if k = S.w then S.η else S.ps k) else S.ip i k)
    by_cases e : i = S.im
    · rw [if_pos e] at hk ⊢
      split
      · exact h.hb
      · exact h.ps k (by omega)
    · rw [if_neg e] at hk ⊢
      exact h.ip i k (by omega) hk
  · have hk : k ≤ (if i = S.im then S.w else S.iw i) := hk
    have hi2 : i < S.im + 1 := hi2
    show HS.mi (if i = S.im then (if k = S.w then S.η else S.ps k) else S.ip i k) ≤ 400
    by_cases e : i = S.im
    · rw [if_pos e] at hk ⊢
      split
      · exact h.m4
      · exact h.pm k (by omega)
    · rw [if_neg e] at hk ⊢
      exact h.qm i k (by omega) hk
theorem SB.res {S : STT} (h : SB S) (hi : 0 < S.im) : SB (resS S) :=
  ⟨h.cb, ((h.ip (S.im - 1) (S.iw (S.im - 1)) (by omega) (Nat.le_refl _)).ld h.hb.wk).ms, ms_wm, h.lb, h.tl, h.tp, Nat.zero_le _, h.bt, h.br, h.iw (S.im - 1) (by omega), fun k hk => h.ip (S.im - 1) k (by omega) (Nat.le_of_lt hk), (show S.im - 1 ≤ 3 by have := h.im; omega), fun i hi2 => h.iw i (by have hi2 : i < S.im - 1 := hi2; omega), fun i k hi2 hk => h.ip i k (by have hi2 : i < S.im - 1 := hi2; omega) hk, h.qm (S.im - 1) (S.iw (S.im - 1)) (by omega) (Nat.le_refl _), fun k hk => h.qm (S.im - 1) k (by omega) (Nat.le_of_lt hk), fun i k hi2 hk => h.qm i k (by have hi2 : i < S.im - 1 := hi2; omega) hk⟩
theorem imulC {x y : Nat} {st : List Value} : stk .imul (.int (nI y) :: .int (nI x) :: st) = some (.int (nI (y * x)) :: st) := by rw [Nat.mul_comm]; exact imulN
/-- the class's part behind an undo or a restore: hearing, past and images' counts new -/
theorem CIn.bk {S S' : STT} {I I' : Nat → Nat → Int32} (h : CIn S I) (e1 : S'.κ = S.κ) (e2 : S'.l = S.l) (e3 : S'.tl = S.tl) (e4 : S'.tp = S.tp) (e5 : S'.bt = S.bt) (e6 : S'.br = S.br) (e7 : S'.fp = S.fp) (e8 : S'.r0 = S.r0) (e9 : S'.r1 = S.r1) (hh : HH 71 S'.η I') (hf : ∀ x, x ≠ 50 → x ≠ 52 → x ≠ 82 → x ≠ 84 → x ≠ 0 → (x < 71 ∨ 88 < x) → I' x = I x) (h0 : ∀ j, j ≠ 12 → I' 0 j = I 0 j) (rf : I' 0 12 = nI S'.rf) (w : I' 82 3 = nI S'.w) (im : I' 82 4 = nI S'.im) (ps : ∀ k, k < S'.w → CS 84 (23 * k) (S'.ps k) I') (iw : ∀ i, i < S'.im → I' 88 i = nI (S'.iw i)) (ip : ∀ i k, i < S'.im → k ≤ S'.iw i → CS 86 (391 * i + 23 * k) (S'.ip i k) I') : CIn S' I' :=
  ⟨by rw [e1]; exact h.hc.fr (fun x a b => hf x (by omega) (by omega) (by omega) (by omega) (by omega) (by omega)), hh, by rw [e2]; exact h.hl.fr (hf 46 (by decide) (by decide) (by decide) (by decide) (by decide) (by omega)) (hf 48 (by decide) (by decide) (by decide) (by decide) (by decide) (by omega)), by rw [e3, hf 1 (by decide) (by decide) (by decide) (by decide) (by decide) (by omega)]; exact h.tl, by rw [e7, hf 1 (by decide) (by decide) (by decide) (by decide) (by decide) (by omega)]; exact h.fp, by rw [e4, hf 3 (by decide) (by decide) (by decide) (by decide) (by decide) (by omega)]; exact h.tp, rf, by rw [e8, h0 13 (by decide)]; exact h.r0, by rw [e9, h0 14 (by decide)]; exact h.r1, by rw [e5, hf 60 (by decide) (by decide) (by decide) (by decide) (by decide) (by omega)]; exact h.bt, by rw [e6, hf 60 (by decide) (by decide) (by decide) (by decide) (by decide) (by omega)]; exact h.br, w, im, ps, iw, ip, h.sk.fr (fun x a b => hf x (by omega) (by omega) (by omega) (by omega) (by omega) (by omega))⟩
theorem r_X10_undo_0 : RW M_X10_undo 0 (.aload_n 0) 1 0 0 1 := ⟨rfl, rfl⟩
theorem r_X10_undo_1 : RW M_X10_undo 1 (.getfield 65) 3 10 9 4 := ⟨rfl, rfl⟩
theorem r_X10_undo_4 : RW M_X10_undo 4 (.getfield 131) 3 4 3 7 := ⟨rfl, rfl⟩
theorem r_X10_undo_7 : RW M_X10_undo 7 (.ifCond .ne 5) 3 12 0 10 := ⟨rfl, rfl⟩
theorem r_X10_undo_10 : RW M_X10_undo 10 (.iconst (-1)) 1 0 0 11 := ⟨rfl, rfl⟩
theorem r_X10_undo_11 : RW M_X10_undo 11 (.ireturn) 1 0 0 12 := ⟨rfl, rfl⟩
theorem r_X10_undo_12 : RW M_X10_undo 12 (.aload_n 0) 1 0 0 13 := ⟨rfl, rfl⟩
theorem r_X10_undo_13 : RW M_X10_undo 13 (.getfield 65) 3 10 9 16 := ⟨rfl, rfl⟩
theorem r_X10_undo_16 : RW M_X10_undo 16 (.aload_n 0) 1 0 0 17 := ⟨rfl, rfl⟩
theorem r_X10_undo_17 : RW M_X10_undo 17 (.getfield 58) 3 10 8 20 := ⟨rfl, rfl⟩
theorem r_X10_undo_20 : RW M_X10_undo 20 (.invokevirtual 172) 3 62 0 23 := ⟨rfl, rfl⟩
theorem r_X10_undo_23 : RW M_X10_undo 23 (.aload_n 0) 1 0 0 24 := ⟨rfl, rfl⟩
theorem r_X10_undo_24 : RW M_X10_undo 24 (.iconst 0) 1 0 0 25 := ⟨rfl, rfl⟩
theorem r_X10_undo_25 : RW M_X10_undo 25 (.putfield 115) 3 10 12 28 := ⟨rfl, rfl⟩
theorem r_X10_undo_28 : RW M_X10_undo 28 (.aload_n 0) 1 0 0 29 := ⟨rfl, rfl⟩
theorem r_X10_undo_29 : RW M_X10_undo 29 (.getfield 65) 3 10 9 32 := ⟨rfl, rfl⟩
theorem r_X10_undo_32 : RW M_X10_undo 32 (.getfield 131) 3 4 3 35 := ⟨rfl, rfl⟩
theorem r_X10_undo_35 : RW M_X10_undo 35 (.ireturn) 1 0 0 36 := ⟨rfl, rfl⟩
theorem r_X2_load_0 : RW M_X2_load 0 (.aload_n 0) 1 0 0 1 := ⟨rfl, rfl⟩
theorem r_X2_load_1 : RW M_X2_load 1 (.aload_n 1) 1 0 0 2 := ⟨rfl, rfl⟩
theorem r_X2_load_2 : RW M_X2_load 2 (.iload_n 2) 1 0 0 3 := ⟨rfl, rfl⟩
theorem r_X2_load_3 : RW M_X2_load 3 (.invokevirtual 69) 3 92 0 6 := ⟨rfl, rfl⟩
theorem r_X2_load_6 : RW M_X2_load 6 (.putfield 40) 3 2 7 9 := ⟨rfl, rfl⟩
theorem r_X2_load_9 : RW M_X2_load 9 (.aload_n 0) 1 0 0 10 := ⟨rfl, rfl⟩
theorem r_X2_load_10 : RW M_X2_load 10 (.aload_n 1) 1 0 0 11 := ⟨rfl, rfl⟩
theorem r_X2_load_11 : RW M_X2_load 11 (.iload_n 2) 1 0 0 12 := ⟨rfl, rfl⟩
theorem r_X2_load_12 : RW M_X2_load 12 (.iconst 1) 1 0 0 13 := ⟨rfl, rfl⟩
theorem r_X2_load_13 : RW M_X2_load 13 (.iadd) 1 0 0 14 := ⟨rfl, rfl⟩
theorem r_X2_load_14 : RW M_X2_load 14 (.invokevirtual 69) 3 92 0 17 := ⟨rfl, rfl⟩
theorem r_X2_load_17 : RW M_X2_load 17 (.putfield 44) 3 2 8 20 := ⟨rfl, rfl⟩
theorem r_X2_load_20 : RW M_X2_load 20 (.aload_n 0) 1 0 0 21 := ⟨rfl, rfl⟩
theorem r_X2_load_21 : RW M_X2_load 21 (.getfield 16) 3 2 2 24 := ⟨rfl, rfl⟩
theorem r_X2_load_24 : RW M_X2_load 24 (.iconst 0) 1 0 0 25 := ⟨rfl, rfl⟩
theorem r_X2_load_25 : RW M_X2_load 25 (.aload_n 1) 1 0 0 26 := ⟨rfl, rfl⟩
theorem r_X2_load_26 : RW M_X2_load 26 (.iload_n 2) 1 0 0 27 := ⟨rfl, rfl⟩
theorem r_X2_load_27 : RW M_X2_load 27 (.iconst 2) 1 0 0 28 := ⟨rfl, rfl⟩
theorem r_X2_load_28 : RW M_X2_load 28 (.iadd) 1 0 0 29 := ⟨rfl, rfl⟩
theorem r_X2_load_29 : RW M_X2_load 29 (.bipush 9) 2 0 0 31 := ⟨rfl, rfl⟩
theorem r_X2_load_31 : RW M_X2_load 31 (.invokevirtual 52) 3 94 0 34 := ⟨rfl, rfl⟩
theorem r_X2_load_34 : RW M_X2_load 34 (.aload_n 0) 1 0 0 35 := ⟨rfl, rfl⟩
theorem r_X2_load_35 : RW M_X2_load 35 (.getfield 20) 3 2 3 38 := ⟨rfl, rfl⟩
theorem r_X2_load_38 : RW M_X2_load 38 (.iconst 0) 1 0 0 39 := ⟨rfl, rfl⟩
theorem r_X2_load_39 : RW M_X2_load 39 (.aload_n 1) 1 0 0 40 := ⟨rfl, rfl⟩
theorem r_X2_load_40 : RW M_X2_load 40 (.iload_n 2) 1 0 0 41 := ⟨rfl, rfl⟩
theorem r_X2_load_41 : RW M_X2_load 41 (.bipush 11) 2 0 0 43 := ⟨rfl, rfl⟩
theorem r_X2_load_43 : RW M_X2_load 43 (.iadd) 1 0 0 44 := ⟨rfl, rfl⟩
theorem r_X2_load_44 : RW M_X2_load 44 (.iconst 4) 1 0 0 45 := ⟨rfl, rfl⟩
theorem r_X2_load_45 : RW M_X2_load 45 (.invokevirtual 52) 3 94 0 48 := ⟨rfl, rfl⟩
theorem r_X2_load_48 : RW M_X2_load 48 (.aload_n 0) 1 0 0 49 := ⟨rfl, rfl⟩
theorem r_X2_load_49 : RW M_X2_load 49 (.getfield 23) 3 2 4 52 := ⟨rfl, rfl⟩
theorem r_X2_load_52 : RW M_X2_load 52 (.iconst 0) 1 0 0 53 := ⟨rfl, rfl⟩
theorem r_X2_load_53 : RW M_X2_load 53 (.aload_n 1) 1 0 0 54 := ⟨rfl, rfl⟩
theorem r_X2_load_54 : RW M_X2_load 54 (.iload_n 2) 1 0 0 55 := ⟨rfl, rfl⟩
theorem r_X2_load_55 : RW M_X2_load 55 (.bipush 15) 2 0 0 57 := ⟨rfl, rfl⟩
theorem r_X2_load_57 : RW M_X2_load 57 (.iadd) 1 0 0 58 := ⟨rfl, rfl⟩
theorem r_X2_load_58 : RW M_X2_load 58 (.iconst 4) 1 0 0 59 := ⟨rfl, rfl⟩
theorem r_X2_load_59 : RW M_X2_load 59 (.invokevirtual 52) 3 94 0 62 := ⟨rfl, rfl⟩
theorem r_X2_load_62 : RW M_X2_load 62 (.aload_n 0) 1 0 0 63 := ⟨rfl, rfl⟩
theorem r_X2_load_63 : RW M_X2_load 63 (.getfield 29) 3 2 6 66 := ⟨rfl, rfl⟩
theorem r_X2_load_66 : RW M_X2_load 66 (.iconst 0) 1 0 0 67 := ⟨rfl, rfl⟩
theorem r_X2_load_67 : RW M_X2_load 67 (.aload_n 1) 1 0 0 68 := ⟨rfl, rfl⟩
theorem r_X2_load_68 : RW M_X2_load 68 (.iload_n 2) 1 0 0 69 := ⟨rfl, rfl⟩
theorem r_X2_load_69 : RW M_X2_load 69 (.bipush 19) 2 0 0 71 := ⟨rfl, rfl⟩
theorem r_X2_load_71 : RW M_X2_load 71 (.iadd) 1 0 0 72 := ⟨rfl, rfl⟩
theorem r_X2_load_72 : RW M_X2_load 72 (.iconst 4) 1 0 0 73 := ⟨rfl, rfl⟩
theorem r_X2_load_73 : RW M_X2_load 73 (.invokevirtual 52) 3 94 0 76 := ⟨rfl, rfl⟩
theorem r_X2_load_76 : RW M_X2_load 76 (.aload_n 0) 1 0 0 77 := ⟨rfl, rfl⟩
theorem r_X2_load_77 : RW M_X2_load 77 (.invokevirtual 66) 3 28 0 80 := ⟨rfl, rfl⟩
theorem r_X2_load_80 : RW M_X2_load 80 (.return_) 1 0 0 81 := ⟨rfl, rfl⟩
theorem r_X2_save_0 : RW M_X2_save 0 (.aload_n 1) 1 0 0 1 := ⟨rfl, rfl⟩
theorem r_X2_save_1 : RW M_X2_save 1 (.iload_n 2) 1 0 0 2 := ⟨rfl, rfl⟩
theorem r_X2_save_2 : RW M_X2_save 2 (.aload_n 0) 1 0 0 3 := ⟨rfl, rfl⟩
theorem r_X2_save_3 : RW M_X2_save 3 (.getfield 40) 3 2 7 6 := ⟨rfl, rfl⟩
theorem r_X2_save_6 : RW M_X2_save 6 (.invokevirtual 59) 3 93 0 9 := ⟨rfl, rfl⟩
theorem r_X2_save_9 : RW M_X2_save 9 (.aload_n 1) 1 0 0 10 := ⟨rfl, rfl⟩
theorem r_X2_save_10 : RW M_X2_save 10 (.iload_n 2) 1 0 0 11 := ⟨rfl, rfl⟩
theorem r_X2_save_11 : RW M_X2_save 11 (.iconst 1) 1 0 0 12 := ⟨rfl, rfl⟩
theorem r_X2_save_12 : RW M_X2_save 12 (.iadd) 1 0 0 13 := ⟨rfl, rfl⟩
theorem r_X2_save_13 : RW M_X2_save 13 (.aload_n 0) 1 0 0 14 := ⟨rfl, rfl⟩
theorem r_X2_save_14 : RW M_X2_save 14 (.getfield 44) 3 2 8 17 := ⟨rfl, rfl⟩
theorem r_X2_save_17 : RW M_X2_save 17 (.invokevirtual 59) 3 93 0 20 := ⟨rfl, rfl⟩
theorem r_X2_save_20 : RW M_X2_save 20 (.aload_n 1) 1 0 0 21 := ⟨rfl, rfl⟩
theorem r_X2_save_21 : RW M_X2_save 21 (.iload_n 2) 1 0 0 22 := ⟨rfl, rfl⟩
theorem r_X2_save_22 : RW M_X2_save 22 (.iconst 2) 1 0 0 23 := ⟨rfl, rfl⟩
theorem r_X2_save_23 : RW M_X2_save 23 (.iadd) 1 0 0 24 := ⟨rfl, rfl⟩
theorem r_X2_save_24 : RW M_X2_save 24 (.aload_n 0) 1 0 0 25 := ⟨rfl, rfl⟩
theorem r_X2_save_25 : RW M_X2_save 25 (.getfield 16) 3 2 2 28 := ⟨rfl, rfl⟩
theorem r_X2_save_28 : RW M_X2_save 28 (.iconst 0) 1 0 0 29 := ⟨rfl, rfl⟩
theorem r_X2_save_29 : RW M_X2_save 29 (.bipush 9) 2 0 0 31 := ⟨rfl, rfl⟩
theorem r_X2_save_31 : RW M_X2_save 31 (.invokevirtual 52) 3 94 0 34 := ⟨rfl, rfl⟩
theorem r_X2_save_34 : RW M_X2_save 34 (.aload_n 1) 1 0 0 35 := ⟨rfl, rfl⟩
theorem r_X2_save_35 : RW M_X2_save 35 (.iload_n 2) 1 0 0 36 := ⟨rfl, rfl⟩
theorem r_X2_save_36 : RW M_X2_save 36 (.bipush 11) 2 0 0 38 := ⟨rfl, rfl⟩
theorem r_X2_save_38 : RW M_X2_save 38 (.iadd) 1 0 0 39 := ⟨rfl, rfl⟩
theorem r_X2_save_39 : RW M_X2_save 39 (.aload_n 0) 1 0 0 40 := ⟨rfl, rfl⟩
theorem r_X2_save_40 : RW M_X2_save 40 (.getfield 20) 3 2 3 43 := ⟨rfl, rfl⟩
theorem r_X2_save_43 : RW M_X2_save 43 (.iconst 0) 1 0 0 44 := ⟨rfl, rfl⟩
theorem r_X2_save_44 : RW M_X2_save 44 (.iconst 4) 1 0 0 45 := ⟨rfl, rfl⟩
theorem r_X2_save_45 : RW M_X2_save 45 (.invokevirtual 52) 3 94 0 48 := ⟨rfl, rfl⟩
theorem r_X2_save_48 : RW M_X2_save 48 (.aload_n 1) 1 0 0 49 := ⟨rfl, rfl⟩
theorem r_X2_save_49 : RW M_X2_save 49 (.iload_n 2) 1 0 0 50 := ⟨rfl, rfl⟩
theorem r_X2_save_50 : RW M_X2_save 50 (.bipush 15) 2 0 0 52 := ⟨rfl, rfl⟩
theorem r_X2_save_52 : RW M_X2_save 52 (.iadd) 1 0 0 53 := ⟨rfl, rfl⟩
theorem r_X2_save_53 : RW M_X2_save 53 (.aload_n 0) 1 0 0 54 := ⟨rfl, rfl⟩
theorem r_X2_save_54 : RW M_X2_save 54 (.getfield 23) 3 2 4 57 := ⟨rfl, rfl⟩
theorem r_X2_save_57 : RW M_X2_save 57 (.iconst 0) 1 0 0 58 := ⟨rfl, rfl⟩
theorem r_X2_save_58 : RW M_X2_save 58 (.iconst 4) 1 0 0 59 := ⟨rfl, rfl⟩
theorem r_X2_save_59 : RW M_X2_save 59 (.invokevirtual 52) 3 94 0 62 := ⟨rfl, rfl⟩
theorem r_X2_save_62 : RW M_X2_save 62 (.aload_n 1) 1 0 0 63 := ⟨rfl, rfl⟩
theorem r_X2_save_63 : RW M_X2_save 63 (.iload_n 2) 1 0 0 64 := ⟨rfl, rfl⟩
theorem r_X2_save_64 : RW M_X2_save 64 (.bipush 19) 2 0 0 66 := ⟨rfl, rfl⟩
theorem r_X2_save_66 : RW M_X2_save 66 (.iadd) 1 0 0 67 := ⟨rfl, rfl⟩
theorem r_X2_save_67 : RW M_X2_save 67 (.aload_n 0) 1 0 0 68 := ⟨rfl, rfl⟩
theorem r_X2_save_68 : RW M_X2_save 68 (.getfield 29) 3 2 6 71 := ⟨rfl, rfl⟩
theorem r_X2_save_71 : RW M_X2_save 71 (.iconst 0) 1 0 0 72 := ⟨rfl, rfl⟩
theorem r_X2_save_72 : RW M_X2_save 72 (.iconst 4) 1 0 0 73 := ⟨rfl, rfl⟩
theorem r_X2_save_73 : RW M_X2_save 73 (.invokevirtual 52) 3 94 0 76 := ⟨rfl, rfl⟩
theorem r_X2_save_76 : RW M_X2_save 76 (.return_) 1 0 0 77 := ⟨rfl, rfl⟩
theorem r_X4_pop_0 : RW M_X4_pop 0 (.aload_n 0) 1 0 0 1 := ⟨rfl, rfl⟩
theorem r_X4_pop_1 : RW M_X4_pop 1 (.dup) 1 0 0 2 := ⟨rfl, rfl⟩
theorem r_X4_pop_2 : RW M_X4_pop 2 (.getfield 28) 3 4 3 5 := ⟨rfl, rfl⟩
theorem r_X4_pop_5 : RW M_X4_pop 5 (.iconst 1) 1 0 0 6 := ⟨rfl, rfl⟩
theorem r_X4_pop_6 : RW M_X4_pop 6 (.isub) 1 0 0 7 := ⟨rfl, rfl⟩
theorem r_X4_pop_7 : RW M_X4_pop 7 (.putfield 28) 3 4 3 10 := ⟨rfl, rfl⟩
theorem r_X4_pop_10 : RW M_X4_pop 10 (.aload_n 1) 1 0 0 11 := ⟨rfl, rfl⟩
theorem r_X4_pop_11 : RW M_X4_pop 11 (.aload_n 0) 1 0 0 12 := ⟨rfl, rfl⟩
theorem r_X4_pop_12 : RW M_X4_pop 12 (.getfield 18) 3 4 0 15 := ⟨rfl, rfl⟩
theorem r_X4_pop_15 : RW M_X4_pop 15 (.aload_n 0) 1 0 0 16 := ⟨rfl, rfl⟩
theorem r_X4_pop_16 : RW M_X4_pop 16 (.getfield 28) 3 4 3 19 := ⟨rfl, rfl⟩
theorem r_X4_pop_19 : RW M_X4_pop 19 (.bipush 23) 2 0 0 21 := ⟨rfl, rfl⟩
theorem r_X4_pop_21 : RW M_X4_pop 21 (.imul) 1 0 0 22 := ⟨rfl, rfl⟩
theorem r_X4_pop_22 : RW M_X4_pop 22 (.invokevirtual 39) 3 27 0 25 := ⟨rfl, rfl⟩
theorem r_X4_pop_25 : RW M_X4_pop 25 (.return_) 1 0 0 26 := ⟨rfl, rfl⟩
theorem r_X4_push_0 : RW M_X4_push 0 (.aload_n 1) 1 0 0 1 := ⟨rfl, rfl⟩
theorem r_X4_push_1 : RW M_X4_push 1 (.aload_n 0) 1 0 0 2 := ⟨rfl, rfl⟩
theorem r_X4_push_2 : RW M_X4_push 2 (.getfield 18) 3 4 0 5 := ⟨rfl, rfl⟩
theorem r_X4_push_5 : RW M_X4_push 5 (.aload_n 0) 1 0 0 6 := ⟨rfl, rfl⟩
theorem r_X4_push_6 : RW M_X4_push 6 (.getfield 28) 3 4 3 9 := ⟨rfl, rfl⟩
theorem r_X4_push_9 : RW M_X4_push 9 (.bipush 23) 2 0 0 11 := ⟨rfl, rfl⟩
theorem r_X4_push_11 : RW M_X4_push 11 (.imul) 1 0 0 12 := ⟨rfl, rfl⟩
theorem r_X4_push_12 : RW M_X4_push 12 (.invokevirtual 35) 3 26 0 15 := ⟨rfl, rfl⟩
theorem r_X4_push_15 : RW M_X4_push 15 (.aload_n 0) 1 0 0 16 := ⟨rfl, rfl⟩
theorem r_X4_push_16 : RW M_X4_push 16 (.dup) 1 0 0 17 := ⟨rfl, rfl⟩
theorem r_X4_push_17 : RW M_X4_push 17 (.getfield 28) 3 4 3 20 := ⟨rfl, rfl⟩
theorem r_X4_push_20 : RW M_X4_push 20 (.iconst 1) 1 0 0 21 := ⟨rfl, rfl⟩
theorem r_X4_push_21 : RW M_X4_push 21 (.iadd) 1 0 0 22 := ⟨rfl, rfl⟩
theorem r_X4_push_22 : RW M_X4_push 22 (.putfield 28) 3 4 3 25 := ⟨rfl, rfl⟩
theorem r_X4_push_25 : RW M_X4_push 25 (.return_) 1 0 0 26 := ⟨rfl, rfl⟩
theorem c_save {d : Nat} {I : Nat → Nat → Int32} {J : Nat → Nat → Int64} {η : HS} (hh : HH 71 η I) {f : Nat} (hf : f + 23 ≤ 391)  (hd : 4 ≤ d) : RU d 26 [.ref 71, .ref 83, .int (nI f)] I J (fun I' => CS 84 f η I' ∧ (∀ x, x ≠ 84 → I' x = I x) ∧ ∀ k, (k < f ∨ f + 23 ≤ k) → I' 84 k = I 84 k) := by
  refine RU.in (d0 := 3) hd mt_26 (Nat.le_of_ble_eq_true rfl) (fun d' hd' => ?_)
  show EV none M_X2_save d' 0 [(0, .ref 71), (1, .ref 83), (2, .int (nI f))] [] (hp I J) _
  refine EV.l (lv' := [(0, _), (1, _), (2, _)]) r_X2_save_0 rfl ?_
  refine EV.l (lv' := [(0, _), (1, _), (2, _)]) r_X2_save_1 rfl ?_
  refine EV.l (lv' := [(0, _), (1, _), (2, _)]) r_X2_save_2 rfl ?_
  refine EV.getV r_X2_save_3 la_71 (hh.mi) ?_
  refine EV.cu r_X2_save_6 (aV2 mt_93 la_83) (c_set la_83 la_84 (by decide) (by decide) (by omega) (by omega)) (fun K1 eK1 => ?_)
  have g1 : ∀ x, x ≠ 84 → K1 x = I x := fun x hx => by rw [eK1]; exact wr_row hx
  have o1 : ∀ k, k ≠ f → K1 84 k = I 84 k := fun k hk => by rw [eK1]; exact wr_ne (Or.inr hk)
  have v1 : K1 84 f = nI η.mi := by rw [eK1]; exact wr_same
  refine EV.l (lv' := [(0, _), (1, _), (2, _)]) r_X2_save_9 rfl ?_
  refine EV.l (lv' := [(0, _), (1, _), (2, _)]) r_X2_save_10 rfl ?_
  refine EV.o r_X2_save_11 (icN (1) (v := 1)) ?_
  refine EV.o r_X2_save_12 iaddN ?_
  refine EV.l (lv' := [(0, _), (1, _), (2, _)]) r_X2_save_13 rfl ?_
  refine EV.getV r_X2_save_14 la_71 ((congrFun (g1 71 (by decide)) 8).trans hh.nt) ?_
  refine EV.cu r_X2_save_17 (aV2 mt_93 la_83) (c_set la_83 la_84 (by decide) (by decide) (by omega) (by omega)) (fun K2 eK2 => ?_)
  have g2 : ∀ x, x ≠ 84 → K2 x = K1 x := fun x hx => by rw [eK2]; exact wr_row hx
  have o2 : ∀ k, k ≠ (f + 1) → K2 84 k = K1 84 k := fun k hk => by rw [eK2]; exact wr_ne (Or.inr hk)
  have v2 : K2 84 (f + 1) = nI η.nt := by rw [eK2]; exact wr_same
  refine EV.l (lv' := [(0, _), (1, _), (2, _)]) r_X2_save_20 rfl ?_
  refine EV.l (lv' := [(0, _), (1, _), (2, _)]) r_X2_save_21 rfl ?_
  refine EV.o r_X2_save_22 (icN (2) (v := 2)) ?_
  refine EV.o r_X2_save_23 iaddN ?_
  refine EV.l (lv' := [(0, _), (1, _), (2, _)]) r_X2_save_24 rfl ?_
  refine EV.gR r_X2_save_25 la_71 ?_
  refine EV.o r_X2_save_28 (icN (0) (v := 0)) ?_
  refine EV.o r_X2_save_29 (bpN (9) 9) ?_
  refine EV.cu r_X2_save_31 (aV4 mt_94 la_83) (c_copy la_83 la_84 (by decide) (by decide) la_72 la_73 (by decide) (by decide) (by decide) (by omega) (by omega) (by omega)) (fun K3 eK3 => ?_)
  have g3 : ∀ x, x ≠ 84 → K3 x = K2 x := fun x hx => by rw [eK3]; exact cpy_row hx
  have o3 : ∀ k, (k < f + 2 ∨ f + 2 + 9 ≤ k) → K3 84 k = K2 84 k := fun k hk => by rw [eK3]; exact cpy_out hk
  have v3 : ∀ j, j < 9 → K3 84 (f + 2 + j) = K2 73 (0 + j) := fun j hj => by rw [eK3]; exact cpy_at hj
  refine EV.l (lv' := [(0, _), (1, _), (2, _)]) r_X2_save_34 rfl ?_
  refine EV.l (lv' := [(0, _), (1, _), (2, _)]) r_X2_save_35 rfl ?_
  refine EV.o r_X2_save_36 (bpN (11) 11) ?_
  refine EV.o r_X2_save_38 iaddN ?_
  refine EV.l (lv' := [(0, _), (1, _), (2, _)]) r_X2_save_39 rfl ?_
  refine EV.gR r_X2_save_40 la_71 ?_
  refine EV.o r_X2_save_43 (icN (0) (v := 0)) ?_
  refine EV.o r_X2_save_44 (icN (4) (v := 4)) ?_
  refine EV.cu r_X2_save_45 (aV4 mt_94 la_83) (c_copy la_83 la_84 (by decide) (by decide) la_74 la_75 (by decide) (by decide) (by decide) (by omega) (by omega) (by omega)) (fun K4 eK4 => ?_)
  have g4 : ∀ x, x ≠ 84 → K4 x = K3 x := fun x hx => by rw [eK4]; exact cpy_row hx
  have o4 : ∀ k, (k < f + 11 ∨ f + 11 + 4 ≤ k) → K4 84 k = K3 84 k := fun k hk => by rw [eK4]; exact cpy_out hk
  have v4 : ∀ j, j < 4 → K4 84 (f + 11 + j) = K3 75 (0 + j) := fun j hj => by rw [eK4]; exact cpy_at hj
  refine EV.l (lv' := [(0, _), (1, _), (2, _)]) r_X2_save_48 rfl ?_
  refine EV.l (lv' := [(0, _), (1, _), (2, _)]) r_X2_save_49 rfl ?_
  refine EV.o r_X2_save_50 (bpN (15) 15) ?_
  refine EV.o r_X2_save_52 iaddN ?_
  refine EV.l (lv' := [(0, _), (1, _), (2, _)]) r_X2_save_53 rfl ?_
  refine EV.gR r_X2_save_54 la_71 ?_
  refine EV.o r_X2_save_57 (icN (0) (v := 0)) ?_
  refine EV.o r_X2_save_58 (icN (4) (v := 4)) ?_
  refine EV.cu r_X2_save_59 (aV4 mt_94 la_83) (c_copy la_83 la_84 (by decide) (by decide) la_76 la_77 (by decide) (by decide) (by decide) (by omega) (by omega) (by omega)) (fun K5 eK5 => ?_)
  have g5 : ∀ x, x ≠ 84 → K5 x = K4 x := fun x hx => by rw [eK5]; exact cpy_row hx
  have o5 : ∀ k, (k < f + 15 ∨ f + 15 + 4 ≤ k) → K5 84 k = K4 84 k := fun k hk => by rw [eK5]; exact cpy_out hk
  have v5 : ∀ j, j < 4 → K5 84 (f + 15 + j) = K4 77 (0 + j) := fun j hj => by rw [eK5]; exact cpy_at hj
  refine EV.l (lv' := [(0, _), (1, _), (2, _)]) r_X2_save_62 rfl ?_
  refine EV.l (lv' := [(0, _), (1, _), (2, _)]) r_X2_save_63 rfl ?_
  refine EV.o r_X2_save_64 (bpN (19) 19) ?_
  refine EV.o r_X2_save_66 iaddN ?_
  refine EV.l (lv' := [(0, _), (1, _), (2, _)]) r_X2_save_67 rfl ?_
  refine EV.gR r_X2_save_68 la_71 ?_
  refine EV.o r_X2_save_71 (icN (0) (v := 0)) ?_
  refine EV.o r_X2_save_72 (icN (4) (v := 4)) ?_
  refine EV.cu r_X2_save_73 (aV4 mt_94 la_83) (c_copy la_83 la_84 (by decide) (by decide) la_80 la_81 (by decide) (by decide) (by decide) (by omega) (by omega) (by omega)) (fun K6 eK6 => ?_)
  have g6 : ∀ x, x ≠ 84 → K6 x = K5 x := fun x hx => by rw [eK6]; exact cpy_row hx
  have o6 : ∀ k, (k < f + 19 ∨ f + 19 + 4 ≤ k) → K6 84 k = K5 84 k := fun k hk => by rw [eK6]; exact cpy_out hk
  have v6 : ∀ j, j < 4 → K6 84 (f + 19 + j) = K5 81 (0 + j) := fun j hj => by rw [eK6]; exact cpy_at hj
  exact EV.ru r_X2_save_76 (⟨⟨by rw [o6 _ (by omega), o5 _ (by omega), o4 _ (by omega), o3 _ (by omega), o2 _ (by omega)]; exact v1, by rw [o6 _ (by omega), o5 _ (by omega), o4 _ (by omega), o3 _ (by omega)]; exact v2, fun j hj => by rw [o6 _ (by omega), o5 _ (by omega), o4 _ (by omega), v3 j hj, g2 73 (by decide), g1 73 (by decide), Nat.zero_add]; exact hh.sa j hj, fun j hj => by rw [o6 _ (by omega), o5 _ (by omega), v4 j hj, g3 75 (by decide), g2 75 (by decide), g1 75 (by decide), Nat.zero_add]; exact hh.be j hj, fun j hj => by rw [o6 _ (by omega), v5 j hj, g4 77 (by decide), g3 77 (by decide), g2 77 (by decide), g1 77 (by decide), Nat.zero_add]; exact hh.le j hj, fun j hj => by rw [v6 j hj, g5 81 (by decide), g4 81 (by decide), g3 81 (by decide), g2 81 (by decide), g1 81 (by decide), Nat.zero_add]; exact hh.cr j hj⟩, fun x hx => by rw [g6 x hx, g5 x hx, g4 x hx, g3 x hx, g2 x hx, g1 x hx], fun k hk => by rw [o6 k (by omega), o5 k (by omega), o4 k (by omega), o3 k (by omega), o2 k (by omega), o1 k (by omega)]⟩)
theorem c_load {d : Nat} {I : Nat → Nat → Int32} {J : Nat → Nat → Int64} {κ : CT} {l : LW} {η η2 : HS} (hc_ : HC 4 κ I) (cb : CB κ) (hh : HH 71 η I) (hb_ : HB κ η) (hb2 : HB κ η2) (hl : HL 46 l I) (lb : LB l) {f : Nat} (hf : f + 23 ≤ 391) (cs : CS 84 f η2 I)  (hd : 6 ≤ d) : RU d 27 [.ref 71, .ref 83, .int (nI f)] I J (fun I' => HH 71 (bck κ l η2 η.wk) I' ∧ ∀ x, x ≠ 50 → x ≠ 52 → (x < 71 ∨ 81 < x) → I' x = I x) := by
  refine RU.in (d0 := 5) hd mt_27 (Nat.le_of_ble_eq_true rfl) (fun d' hd' => ?_)
  obtain ⟨c1, c2, c3, c4, c5, c6⟩ := cs
  show EV none M_X2_load d' 0 [(0, .ref 71), (1, .ref 83), (2, .int (nI f))] [] (hp I J) _
  refine EV.l (lv' := [(0, _), (1, _), (2, _)]) r_X2_load_0 rfl ?_
  refine EV.l (lv' := [(0, _), (1, _), (2, _)]) r_X2_load_1 rfl ?_
  refine EV.l (lv' := [(0, _), (1, _), (2, _)]) r_X2_load_2 rfl ?_
  refine EV.cv r_X2_load_3 (aV1 mt_92 la_83) (c_getN (by omega) la_83 la_84 (c1) (by decide) (by decide) (by omega)) ?_
  refine EV.pIn r_X2_load_6 la_71 (fun J1 e1 => ?_)
  refine EV.l (lv' := [(0, _), (1, _), (2, _)]) r_X2_load_9 rfl ?_
  refine EV.l (lv' := [(0, _), (1, _), (2, _)]) r_X2_load_10 rfl ?_
  refine EV.l (lv' := [(0, _), (1, _), (2, _)]) r_X2_load_11 rfl ?_
  refine EV.o r_X2_load_12 (icN (1) (v := 1)) ?_
  refine EV.o r_X2_load_13 iaddN ?_
  refine EV.cv r_X2_load_14 (aV1 mt_92 la_83) (c_getN (by omega) la_83 la_84 ((show J1 84 (f + 1) = I 84 (f + 1) from by rw [e1]; exact wr_ne (Or.inl (by decide))).trans c2) (by decide) (by decide) (by omega)) ?_
  refine EV.pIn r_X2_load_17 la_71 (fun K0 e0 => ?_)
  have g0 : ∀ x, x ≠ 71 → K0 x = I x := fun x hx => by rw [e0, wr_row hx, e1]; exact wr_row hx
  have k7 : K0 71 7 = nI η2.mi := by rw [e0, wr_ne (Or.inr (by decide)), e1]; exact wr_same
  have k8 : K0 71 8 = nI η2.nt := by rw [e0]; exact wr_same
  refine EV.l (lv' := [(0, _), (1, _), (2, _)]) r_X2_load_20 rfl ?_
  refine EV.gR r_X2_load_21 la_71 ?_
  refine EV.o r_X2_load_24 (icN (0) (v := 0)) ?_
  refine EV.l (lv' := [(0, _), (1, _), (2, _)]) r_X2_load_25 rfl ?_
  refine EV.l (lv' := [(0, _), (1, _), (2, _)]) r_X2_load_26 rfl ?_
  refine EV.o r_X2_load_27 (icN (2) (v := 2)) ?_
  refine EV.o r_X2_load_28 iaddN ?_
  refine EV.o r_X2_load_29 (bpN (9) 9) ?_
  refine EV.cu r_X2_load_31 (aV4 mt_94 la_72) (c_copy la_72 la_73 (by decide) (by decide) la_83 la_84 (by decide) (by decide) (by decide) (by omega) (by omega) (by omega)) (fun K1 eK1 => ?_)
  have g1 : ∀ x, x ≠ 73 → K1 x = K0 x := fun x hx => by rw [eK1]; exact cpy_row hx
  have v1 : ∀ j, j < 9 → K1 73 j = K0 84 (f + 2 + j) := fun j hj => by rw [eK1]; exact cpy_at0 hj
  refine EV.l (lv' := [(0, _), (1, _), (2, _)]) r_X2_load_34 rfl ?_
  refine EV.gR r_X2_load_35 la_71 ?_
  refine EV.o r_X2_load_38 (icN (0) (v := 0)) ?_
  refine EV.l (lv' := [(0, _), (1, _), (2, _)]) r_X2_load_39 rfl ?_
  refine EV.l (lv' := [(0, _), (1, _), (2, _)]) r_X2_load_40 rfl ?_
  refine EV.o r_X2_load_41 (bpN (11) 11) ?_
  refine EV.o r_X2_load_43 iaddN ?_
  refine EV.o r_X2_load_44 (icN (4) (v := 4)) ?_
  refine EV.cu r_X2_load_45 (aV4 mt_94 la_74) (c_copy la_74 la_75 (by decide) (by decide) la_83 la_84 (by decide) (by decide) (by decide) (by omega) (by omega) (by omega)) (fun K2 eK2 => ?_)
  have g2 : ∀ x, x ≠ 75 → K2 x = K1 x := fun x hx => by rw [eK2]; exact cpy_row hx
  have v2 : ∀ j, j < 4 → K2 75 j = K1 84 (f + 11 + j) := fun j hj => by rw [eK2]; exact cpy_at0 hj
  refine EV.l (lv' := [(0, _), (1, _), (2, _)]) r_X2_load_48 rfl ?_
  refine EV.gR r_X2_load_49 la_71 ?_
  refine EV.o r_X2_load_52 (icN (0) (v := 0)) ?_
  refine EV.l (lv' := [(0, _), (1, _), (2, _)]) r_X2_load_53 rfl ?_
  refine EV.l (lv' := [(0, _), (1, _), (2, _)]) r_X2_load_54 rfl ?_
  refine EV.o r_X2_load_55 (bpN (15) 15) ?_
  refine EV.o r_X2_load_57 iaddN ?_
  refine EV.o r_X2_load_58 (icN (4) (v := 4)) ?_
  refine EV.cu r_X2_load_59 (aV4 mt_94 la_76) (c_copy la_76 la_77 (by decide) (by decide) la_83 la_84 (by decide) (by decide) (by decide) (by omega) (by omega) (by omega)) (fun K3 eK3 => ?_)
  have g3 : ∀ x, x ≠ 77 → K3 x = K2 x := fun x hx => by rw [eK3]; exact cpy_row hx
  have v3 : ∀ j, j < 4 → K3 77 j = K2 84 (f + 15 + j) := fun j hj => by rw [eK3]; exact cpy_at0 hj
  refine EV.l (lv' := [(0, _), (1, _), (2, _)]) r_X2_load_62 rfl ?_
  refine EV.gR r_X2_load_63 la_71 ?_
  refine EV.o r_X2_load_66 (icN (0) (v := 0)) ?_
  refine EV.l (lv' := [(0, _), (1, _), (2, _)]) r_X2_load_67 rfl ?_
  refine EV.l (lv' := [(0, _), (1, _), (2, _)]) r_X2_load_68 rfl ?_
  refine EV.o r_X2_load_69 (bpN (19) 19) ?_
  refine EV.o r_X2_load_71 iaddN ?_
  refine EV.o r_X2_load_72 (icN (4) (v := 4)) ?_
  refine EV.cu r_X2_load_73 (aV4 mt_94 la_80) (c_copy la_80 la_81 (by decide) (by decide) la_83 la_84 (by decide) (by decide) (by decide) (by omega) (by omega) (by omega)) (fun K4 eK4 => ?_)
  have g4 : ∀ x, x ≠ 81 → K4 x = K3 x := fun x hx => by rw [eK4]; exact cpy_row hx
  have v4 : ∀ j, j < 4 → K4 81 j = K3 84 (f + 19 + j) := fun j hj => by rw [eK4]; exact cpy_at0 hj
  have z0 : ∀ x, (x < 71 ∨ 81 < x) → K4 x = I x := fun x hx => by rw [g4 x (by omega), g3 x (by omega), g2 x (by omega), g1 x (by omega)]; exact g0 x (by omega)
  have hh4 : HH 71 (ldS η2 η.wk) K4 := ⟨by rw [g4 71 (by decide), g3 71 (by decide), g2 71 (by decide), g1 71 (by decide)]; exact k7, by rw [g4 71 (by decide), g3 71 (by decide), g2 71 (by decide), g1 71 (by decide)]; exact k8, fun j hj => by rw [g4 73 (by decide), g3 73 (by decide), g2 73 (by decide), v1 j hj, g0 84 (by decide)]; exact c3 j hj, fun j hj => by rw [g4 75 (by decide), g3 75 (by decide), v2 j hj, g1 84 (by decide), g0 84 (by decide)]; exact c4 j hj, fun j hj => by rw [g4 77 (by decide), v3 j hj, g2 84 (by decide), g1 84 (by decide), g0 84 (by decide)]; exact c5 j hj, fun j hj => by rw [g4 79 (by decide), g3 79 (by decide), g2 79 (by decide), g1 79 (by decide), g0 79 (by decide)]; exact hh.wk j hj, fun j hj => by rw [v4 j hj, g3 84 (by decide), g2 84 (by decide), g1 84 (by decide), g0 84 (by decide)]; exact c6 j hj⟩
  refine EV.l (lv' := [(0, _), (1, _), (2, _)]) r_X2_load_76 rfl ?_
  refine EV.cu r_X2_load_77 (aV0 mt_28 la_71) (c71_measure (hc_.fr (fun x a1 a2 => z0 x (by omega))) cb hh4 (hb2.ld hb_.wk) (hl.fr (z0 46 (by omega)) (z0 48 (by omega))) lb (by omega)) (fun I9 h9 => ?_)
  obtain ⟨h9a, h9b⟩ := h9
  exact EV.ru r_X2_load_80 (⟨h9a, fun x a1 a2 a3 => (h9b x a1 a2 (by omega)).trans (z0 x a3)⟩)
theorem c_push {d : Nat} {I : Nat → Nat → Int32} {J : Nat → Nat → Int64} {η : HS} (hh : HH 71 η I) {w : Nat} (hw : I 82 3 = nI w) (hw2 : w ≤ 16)  (hd : 6 ≤ d) : RU d 61 [.ref 82, .ref 71] I J (fun I' => CS 84 (23 * w) η I' ∧ I' 82 3 = nI (w + 1) ∧ (∀ x, x ≠ 84 → x ≠ 82 → I' x = I x) ∧ (∀ j, j ≠ 3 → I' 82 j = I 82 j) ∧ ∀ k, (k < 23 * w ∨ 23 * w + 23 ≤ k) → I' 84 k = I 84 k) := by
  refine RU.in (d0 := 5) hd mt_61 (Nat.le_of_ble_eq_true rfl) (fun d' hd' => ?_)
  show EV none M_X4_push d' 0 [(0, .ref 82), (1, .ref 71)] [] (hp I J) _
  refine EV.l (lv' := [(0, _), (1, _)]) r_X4_push_0 rfl ?_
  refine EV.l (lv' := [(0, _), (1, _)]) r_X4_push_1 rfl ?_
  refine EV.gR r_X4_push_2 la_82 ?_
  refine EV.l (lv' := [(0, _), (1, _)]) r_X4_push_5 rfl ?_
  refine EV.getV r_X4_push_6 la_82 (hw) ?_
  refine EV.o r_X4_push_9 (bpN (23) 23) ?_
  refine EV.o r_X4_push_11 (imulC) ?_
  refine EV.cu r_X4_push_12 (aV2 mt_26 la_71) (c_save hh (by omega) (by omega)) (fun I2 h2 => ?_)
  obtain ⟨h2a, h2b, h2c⟩ := h2
  refine EV.l (lv' := [(0, _), (1, _)]) r_X4_push_15 rfl ?_
  refine EV.o r_X4_push_16 rfl ?_
  refine EV.getV r_X4_push_17 la_82 ((congrFun (h2b 82 (by decide)) 3).trans hw) ?_
  refine EV.o r_X4_push_20 (icN (1) (v := 1)) ?_
  refine EV.o r_X4_push_21 iaddN ?_
  refine EV.pIn r_X4_push_22 la_82 (fun I3 e3 => ?_)
  exact EV.ru r_X4_push_25 (⟨h2a.ext (fun j hj => by rw [e3, wr_row (by decide)]), by rw [e3]; exact wr_same, fun x a1 a2 => by rw [e3, wr_row a2]; exact h2b x a1, fun j hj => by rw [e3, wr_ne (Or.inr hj), h2b 82 (by decide)], fun k hk => by rw [e3, wr_row (by decide)]; exact h2c k hk⟩)
theorem c_pop {d : Nat} {I : Nat → Nat → Int32} {J : Nat → Nat → Int64} {S : STT} (sb : SB S) (ci : CIn S I) (hw : 0 < S.w)  (hd : 9 ≤ d) : RU d 62 [.ref 82, .ref 71] I J (fun I' => HH 71 (bck S.κ S.l (S.ps (S.w - 1)) S.η.wk) I' ∧ I' 82 3 = nI (S.w - 1) ∧ (∀ j, j ≠ 3 → I' 82 j = I 82 j) ∧ ∀ x, x ≠ 50 → x ≠ 52 → x ≠ 82 → (x < 71 ∨ 81 < x) → I' x = I x) := by
  refine RU.in (d0 := 8) hd mt_62 (Nat.le_of_ble_eq_true rfl) (fun d' hd' => ?_)
  have w16 := sb.w
  show EV none M_X4_pop d' 0 [(0, .ref 82), (1, .ref 71)] [] (hp I J) _
  refine EV.l (lv' := [(0, _), (1, _)]) r_X4_pop_0 rfl ?_
  refine EV.o r_X4_pop_1 rfl ?_
  refine EV.getV r_X4_pop_2 la_82 (ci.w) ?_
  refine EV.o r_X4_pop_5 (icN (1) (v := 1)) ?_
  refine EV.o r_X4_pop_6 (isubN) ?_
  refine EV.pIn r_X4_pop_7 la_82 (fun I3 e3 => ?_)
  refine EV.l (lv' := [(0, _), (1, _)]) r_X4_pop_10 rfl ?_
  refine EV.l (lv' := [(0, _), (1, _)]) r_X4_pop_11 rfl ?_
  refine EV.gR r_X4_pop_12 la_82 ?_
  refine EV.l (lv' := [(0, _), (1, _)]) r_X4_pop_15 rfl ?_
  refine EV.getV r_X4_pop_16 la_82 ((show I3 82 3 = nI (S.w - 1) from by rw [e3]; exact wr_same)) ?_
  refine EV.o r_X4_pop_19 (bpN (23) 23) ?_
  refine EV.o r_X4_pop_21 (imulC) ?_
  refine EV.cu r_X4_pop_22 (aV2 mt_27 la_71) (c_load (ci.hc.fr (fun x a1 a2 => by rw [e3]; exact wr_row (by omega))) sb.cb (ci.hh.fr (fun x a1 a2 => by rw [e3]; exact wr_row (by omega))) sb.hb (sb.ps (S.w - 1) (by omega)) (ci.hl.fr (by rw [e3]; exact wr_row (by decide)) (by rw [e3]; exact wr_row (by decide))) sb.lb (by omega) ((ci.ps (S.w - 1) (by omega)).ext (fun j hj => by rw [e3, wr_row (by decide)])) (by omega)) (fun I4 h4 => ?_)
  obtain ⟨h4a, h4b⟩ := h4
  exact EV.ru r_X4_pop_25 (⟨h4a, by rw [h4b 82 (by decide) (by decide) (by omega), e3]; exact wr_same, fun j hj => by rw [h4b 82 (by decide) (by decide) (by omega), e3]; exact wr_ne (Or.inr hj), fun x a1 a2 a3 a4 => by rw [h4b x a1 a2 a4, e3]; exact wr_row a3⟩)
theorem c_undo {d : Nat} {I : Nat → Nat → Int32} {J : Nat → Nat → Int64} {S : STT} (sb : SB S) (ci : CIn S I) (hw : 0 < S.w)  (hd : 11 ≤ d) : RI d 119 [.ref 0] I J (fun v I' => v = nI (S.w - 1) ∧ CIn (undS S) I' ∧ LOf I I') := by
  refine RI.in (d0 := 10) hd mt_119 (Nat.le_of_ble_eq_true rfl) (fun d' hd' => ?_)
  have w16 := sb.w
  show EV none M_X10_undo d' 0 [(0, .ref 0)] [] (hp I J) _
  refine EV.l (lv' := [(0, _)]) r_X10_undo_0 rfl ?_
  refine EV.gR r_X10_undo_1 la_0 ?_
  refine EV.getV r_X10_undo_4 la_82 (ci.w) ?_
  refine EV.n0_ne r_X10_undo_7 (fun h7 => ?_) (fun h7 => ?_)
  · -- 7 t
    refine EV.l (lv' := [(0, _)]) r_X10_undo_12 rfl ?_
    refine EV.gR r_X10_undo_13 la_0 ?_
    refine EV.l (lv' := [(0, _)]) r_X10_undo_16 rfl ?_
    refine EV.gR r_X10_undo_17 la_0 ?_
    refine EV.cu r_X10_undo_20 (aV1 mt_62 la_82) (c_pop sb ci hw (by omega)) (fun I4 h4 => ?_)
    obtain ⟨h4a, h4w, h4j, h4b⟩ := h4
    refine EV.l (lv' := [(0, _)]) r_X10_undo_23 rfl ?_
    refine EV.o r_X10_undo_24 (icN (0) (v := 0)) ?_
    refine EV.pIn r_X10_undo_25 la_0 (fun I5 e5 => ?_)
    refine EV.l (lv' := [(0, _)]) r_X10_undo_28 rfl ?_
    refine EV.gR r_X10_undo_29 la_0 ?_
    refine EV.getV r_X10_undo_32 la_82 ((show I5 82 3 = nI (S.w - 1) from by rw [e5, wr_row (by decide)]; exact h4w)) ?_
    exact EV.ri r_X10_undo_35 (⟨rfl, ci.bk rfl rfl rfl rfl rfl rfl rfl rfl rfl (h4a.fr (fun x a1 a2 => by rw [e5]; exact wr_row (by omega))) (fun x a1 a2 a3 a4 a5 a6 => by rw [e5, wr_row a5]; exact h4b x a1 a2 a3 (by omega)) (fun j hj => by rw [e5, wr_ne (Or.inr hj), h4b 0 (by decide) (by decide) (by decide) (by omega)]) (by rw [e5]; exact wr_same) (by rw [e5, wr_row (by decide)]; exact h4w) (by rw [e5, wr_row (by decide), h4j 4 (by decide)]; exact ci.im) (fun k hk => (ci.ps k (by have hk : k < S.w - 1 := hk; omega)).ext (fun j hj => by rw [e5, wr_row (by decide), h4b 84 (by decide) (by decide) (by decide) (by omega)])) (fun i hi => by rw [e5, wr_row (by decide), h4b 88 (by decide) (by decide) (by decide) (by omega)]; exact ci.iw i hi) (fun i k hi hk => (ci.ip i k hi hk).ext (fun j hj => by rw [e5, wr_row (by decide), h4b 86 (by decide) (by decide) (by decide) (by omega)])), fun o ho => by rw [e5, wr_row (by omega)]; exact h4b o (by omega) (by omega) (by omega) (by omega)⟩)
  · omega
theorem c_undo0 {d : Nat} {I : Nat → Nat → Int32} {J : Nat → Nat → Int64} (h : I 82 3 = nI 0)  (hd : 11 ≤ d) : RV d 119 [.ref 0] I J (zI (-1)) := by
  refine RV.in (d0 := 10) hd mt_119 (Nat.le_of_ble_eq_true rfl) (fun d' hd' => ?_)
  show EV none M_X10_undo d' 0 [(0, .ref 0)] [] (hp I J) _
  refine EV.l (lv' := [(0, _)]) r_X10_undo_0 rfl ?_
  refine EV.gR r_X10_undo_1 la_0 ?_
  refine EV.getV r_X10_undo_4 la_82 (h) ?_
  refine EV.n0_ne r_X10_undo_7 (fun h7 => ?_) (fun h7 => ?_)
  · omega
  · -- 7 f
    refine EV.o r_X10_undo_10 (icZ (-1)) ?_
    exact EV.rv r_X10_undo_11 (rfl)
