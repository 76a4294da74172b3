/-! feed. -/
/-- a byte of a number -/
def by8 (x : Int32) (s : Nat) : Nat := x.toBitVec.toNat / 2 ^ s % 256
theorem by8_n (x : BitVec 32) (s : Nat) : (x >>> s) &&& 255#32 = BitVec.ofNat 32 (x.toNat / 2 ^ s % 256) := by
  apply BitVec.eq_of_toNat_eq
  rw [BitVec.toNat_and, BitVec.toNat_ushiftRight, BitVec.toNat_ofNat, BitVec.toNat_ofNat, Nat.shiftRight_eq_div_pow]
  have h := Nat.and_two_pow_sub_one_eq_mod (x.toNat / 2 ^ s) 8
  have e : (255 : Nat) % 2 ^ 32 = 2 ^ 8 - 1 := by decide
  rw [e, h, Nat.mod_eq_of_lt (Nat.lt_of_lt_of_le (Nat.mod_lt _ (by decide)) (by decide : 2 ^ 8 ≤ 2 ^ 32))]
theorem by8_r (x : BitVec 32) {s : Nat} (hs : s ≤ 24) : x.sshiftRight s &&& 255#32 = (x >>> s) &&& 255#32 := by
  apply BitVec.eq_of_getLsbD_eq
  intro i hi
  rw [BitVec.getLsbD_and, BitVec.getLsbD_and]
  by_cases h8 : i < 8
  · rw [BitVec.getLsbD_sshiftRight, BitVec.getLsbD_ushiftRight]
    simp [show s + i < 32 by omega, show ¬ 32 ≤ i by omega]
  · have h : (255#32).getLsbD i = false := (by decide : ∀ i, i < 32 → 8 ≤ i → (255#32).getLsbD i = false) i hi (by omega)
    rw [h, Bool.and_false, Bool.and_false]
section B8
variable {st : List Value} {x : Int32} {s : Nat}
theorem by8_u (h : s = 0 ∨ s = 8 ∨ s = 16 ∨ s = 24) : stk .iand (.int (nI 255) :: .int (x.toUInt32 >>> ((nI s).toUInt32 &&& Int32.toUInt32 31)).toInt32 :: st) = some (.int (nI (by8 x s)) :: st) := by
  have e : (x.toUInt32 >>> ((nI s).toUInt32 &&& Int32.toUInt32 31)).toInt32 &&& nI 255 = nI (by8 x s) := by
    apply Int32.toBitVec_inj.mp
    refine Eq.trans ?_ (by8_n x.toBitVec s)
    obtain rfl | rfl | rfl | rfl := h <;> rfl
  rw [← e]; rfl
theorem by8_s (h : s = 0 ∨ s = 8 ∨ s = 16 ∨ s = 24) : stk .iand (.int (nI 255) :: .int (x >>> (nI s &&& 31)) :: st) = some (.int (nI (by8 x s)) :: st) := by
  have e : x >>> (nI s &&& 31) &&& nI 255 = nI (by8 x s) := by
    apply Int32.toBitVec_inj.mp
    refine Eq.trans ?_ ((by8_r x.toBitVec (by omega)).trans (by8_n x.toBitVec s))
    obtain rfl | rfl | rfl | rfl := h <;> rfl
  rw [← e]; rfl
end B8
def ad1 (I : Nat → Nat → Int32) (t : Nat) (x : Int32) (s : Nat) : Nat → Nat → Int32 := wr (wr I 3 t (nI (by8 x s))) 1 1 (nI (t + 1))
def ad4 (I : Nat → Nat → Int32) (t : Nat) (x : Int32) : Nat → Nat → Int32 := ad1 (ad1 (ad1 (ad1 I t x 24) (t + 1) x 16) (t + 1 + 1) x 8) (t + 1 + 1 + 1) x 0
section AD
variable {I : Nat → Nat → Int32} {t : Nat} {x : Int32} {s : Nat}
theorem ad1_o {o : Nat} (h1 : o ≠ 1) (h3 : o ≠ 3) : ad1 I t x s o = I o := (wr_row h1).trans (wr_row h3)
theorem ad1_j {j : Nat} (h : j ≠ 1) : ad1 I t x s 1 j = I 1 j := (wr_ne (Or.inr h)).trans (wr_ne (Or.inl (by decide)))
theorem ad1_3 {j : Nat} : ad1 I t x s 3 j = if j = t then nI (by8 x s) else I 3 j := by
  refine (wr_ne (Or.inl (by decide))).trans ?_
  by_cases h : j = t
  · rw [if_pos h, h]; exact wr_same
  · rw [if_neg h]; exact wr_ne (Or.inr h)
theorem ad4_o {o : Nat} (h1 : o ≠ 1) (h3 : o ≠ 3) : ad4 I t x o = I o := (ad1_o h1 h3).trans ((ad1_o h1 h3).trans ((ad1_o h1 h3).trans (ad1_o h1 h3)))
theorem ad4_j {j : Nat} (h : j ≠ 1) : ad4 I t x 1 j = I 1 j := (ad1_j h).trans ((ad1_j h).trans ((ad1_j h).trans (ad1_j h)))
theorem ad4_1 : ad4 I t x 1 1 = nI (t + 4) := by unfold ad4; unfold ad1; exact wr_same (v := nI (t + 1 + 1 + 1 + 1))
theorem ad4_3 {j : Nat} : ad4 I t x 3 j = if t ≤ j ∧ j < t + 4 then nI (by8 x (24 - 8 * (j - t))) else I 3 j := by
  unfold ad4
  rw [ad1_3, ad1_3, ad1_3, ad1_3]
  (repeat' split) <;> first | rfl | omega | exact congrArg (fun s => nI (by8 x s)) (by omega)
end AD
def fdA (a b c e f : Int32) (i : Nat) : Int32 := if i < 4 then a else if i < 8 then b else if i < 12 then c else if i < 16 then e else f
/-- the tape behind i more bytes -/
def fdT (g : Nat → Nat) (t : Nat) (a b c e f : Int32) (i j : Nat) : Nat := if t ≤ j ∧ j < t + i then by8 (fdA a b c e f (j - t)) (24 - 8 * ((j - t) % 4)) else g j
def fedS (S : STT) (a b c e f : Int32) : STT := STT.mk S.κ S.l S.η (S.tl + 20) (fdT S.tp S.tl a b c e f 20) S.rf S.bt S.br S.fp S.w S.ps S.im S.iw S.ip S.r0 S.r1
theorem SB.fed {S : STT} (h : SB S) {a b c e f : Int32} (ht : S.tl + 20 ≤ 600) : SB (fedS S a b c e f) :=
  ⟨h.cb, h.hb, h.wm, h.lb, ht, fun j => by
    show fdT S.tp S.tl a b c e f 20 j < 256
    unfold fdT
    split
    · exact Nat.mod_lt _ (by decide)
    · exact h.tp j, h.rf, h.bt, h.br, h.w, h.ps, h.im, h.iw, h.ip, h.m4, h.pm, h.qm⟩
theorem CIn.fed {S : STT} {I I' : Nat → Nat → Int32} {a b c e f : Int32} (h : CIn S I) (h1 : I' 1 1 = nI (S.tl + 20)) (h8 : ∀ j, j ≠ 1 → I' 1 j = I 1 j) (h3 : ∀ j, j < 600 → I' 3 j = nI (fdT S.tp S.tl a b c e f 20 j)) (g : ∀ o, o ≠ 1 → o ≠ 3 → I' o = I o) : CIn (fedS S a b c e f) I' :=
  ⟨h.hc.fr (fun x p q => g x (by omega) (by omega)), h.hh.fr (fun x p q => g x (by omega) (by omega)), h.hl.fr (g _ (by decide) (by decide)) (g _ (by decide) (by decide)), h1, (h8 8 (by decide)).trans h.fp, h3, by rw [g 0 (by decide) (by decide)]; exact h.rf, by rw [g 0 (by decide) (by decide)]; exact h.r0, by rw [g 0 (by decide) (by decide)]; exact h.r1, by rw [g 60 (by decide) (by decide)]; exact h.bt, by rw [g 60 (by decide) (by decide)]; exact h.br, by rw [g 82 (by decide) (by decide)]; exact h.w, by rw [g 82 (by decide) (by decide)]; exact h.im,
   fun k hk => by have := h.ps k hk; unfold CS at this ⊢; rw [g 84 (by decide) (by decide)]; exact this, by rw [g 88 (by decide) (by decide)]; exact h.iw, fun i k hi hk => by have := h.ip i k hi hk; unfold CS at this ⊢; rw [g 86 (by decide) (by decide)]; exact this, h.sk.fr (fun o p q => g o (by omega) (by omega))⟩
theorem MIn.fed {S : STT} {I I' : Nat → Nat → Int32} {a b c e f : Int32} (h : MIn S I) (h2 : I' 106 2 = nI (S.tl + 20)) (h6 : ∀ j, j ≠ 0 → j ≠ 2 → I' 106 j = I 106 j) (h3 : ∀ j, j < 600 → I' 108 j = nI (fdT S.tp S.tl a b c e f 20 j)) (g : ∀ o, o ≠ 106 → o ≠ 108 → I' o = I o) : MIn (fedS S a b c e f) I' := by
  exact ⟨by have z := h.mc; unfold MC at z ⊢; rw [h6 22 (by decide) (by decide), h6 23 (by decide) (by decide), h6 24 (by decide) (by decide), h6 25 (by decide) (by decide), g 113 (by decide) (by decide), g 114 (by decide) (by decide), g 115 (by decide) (by decide), g 116 (by decide) (by decide)]; exact z,
    h.mr.fr (g _ (by decide) (by decide)), h.ml.fr9 (h6 32 (by decide) (by decide)) (g _ (by decide) (by decide)) (g _ (by decide) (by decide)), h2, (h6 8 (by decide) (by decide)).trans h.fp, h3, (h6 38 (by decide) (by decide)).trans h.rf, by rw [g 107 (by decide) (by decide)]; exact h.r0, by rw [g 107 (by decide) (by decide)]; exact h.r1, (h6 47 (by decide) (by decide)).trans h.wt, by rw [g 129 (by decide) (by decide)]; exact h.bk, (h6 37 (by decide) (by decide)).trans h.w, (h6 55 (by decide) (by decide)).trans h.im,
    fun k hk => by have := h.ps k hk; unfold MS at this ⊢; rw [g 127 (by decide) (by decide)]; exact this, by rw [g 134 (by decide) (by decide)]; exact h.iw, fun i hi => by have := h.ic i hi; unfold MS at this ⊢; rw [g 134 (by decide) (by decide)]; exact this, fun i k hi hk => by have := h.ip i k hi hk; unfold MS at this ⊢; rw [g 134 (by decide) (by decide)]; exact this⟩
theorem fd_step {I : Nat → Nat → Int32} {g : Nat → Nat} {t i : Nat} {a b c e f v w : Int32} (h : ∀ j, j < 600 → I 108 j = nI (fdT g t a b c e f i j)) (hv : v = nI (by8 (fdA a b c e f i) (24 - 8 * (i % 4)))) : ∀ j, j < 600 → wr (wr I 108 (t + i) v) 106 2 w 108 j = nI (fdT g t a b c e f (i + 1) j) := by
  intro j hj
  refine (wr_ne (Or.inl (by decide))).trans ?_
  by_cases z : j = t + i
  · subst z
    rw [wr_same, hv]
    unfold fdT
    rw [if_pos (by omega), show t + i - t = i by omega]
  · rw [wr_ne (Or.inr z), h j hj]
    unfold fdT
    by_cases y : t ≤ j ∧ j < t + i
    · rw [if_pos y, if_pos (by omega)]
    · rw [if_neg y, if_neg (by omega)]
theorem fd_all {I : Nat → Nat → Int32} {g : Nat → Nat} {t : Nat} {a b c e f : Int32} (h : ∀ j, j < 600 → I 3 j = nI (g j)) : ∀ j, j < 600 → ad4 (ad4 (ad4 (ad4 (ad4 I t a) (t + 4) b) (t + 4 + 4) c) (t + 4 + 4 + 4) e) (t + 4 + 4 + 4 + 4) f 3 j = nI (fdT g t a b c e f 20 j) := by
  intro j hj
  rw [ad4_3, ad4_3, ad4_3, ad4_3, ad4_3, h j hj]
  unfold fdT fdA
  (repeat' split) <;> first | rfl | omega | exact congrArg (fun s => nI (by8 _ s)) (by omega)
theorem r_X10_feed_0 : RW M_X10_feed 0 (.aload_n 0) 1 0 0 1 := ⟨rfl, rfl⟩
theorem r_X10_feed_1 : RW M_X10_feed 1 (.getfield 10) 3 10 0 4 := ⟨rfl, rfl⟩
theorem r_X10_feed_4 : RW M_X10_feed 4 (.getfield 87) 3 6 1 7 := ⟨rfl, rfl⟩
theorem r_X10_feed_7 : RW M_X10_feed 7 (.bipush 20) 2 0 0 9 := ⟨rfl, rfl⟩
theorem r_X10_feed_9 : RW M_X10_feed 9 (.iadd) 1 0 0 10 := ⟨rfl, rfl⟩
theorem r_X10_feed_10 : RW M_X10_feed 10 (.sipush 600) 3 0 0 13 := ⟨rfl, rfl⟩
theorem r_X10_feed_13 : RW M_X10_feed 13 (.if_icmp .le 5) 3 18 0 16 := ⟨rfl, rfl⟩
theorem r_X10_feed_16 : RW M_X10_feed 16 (.iconst (-1)) 1 0 0 17 := ⟨rfl, rfl⟩
theorem r_X10_feed_17 : RW M_X10_feed 17 (.ireturn) 1 0 0 18 := ⟨rfl, rfl⟩
theorem r_X10_feed_18 : RW M_X10_feed 18 (.aload_n 0) 1 0 0 19 := ⟨rfl, rfl⟩
theorem r_X10_feed_19 : RW M_X10_feed 19 (.getfield 10) 3 10 0 22 := ⟨rfl, rfl⟩
theorem r_X10_feed_22 : RW M_X10_feed 22 (.iload_n 1) 1 0 0 23 := ⟨rfl, rfl⟩
theorem r_X10_feed_23 : RW M_X10_feed 23 (.invokevirtual 91) 3 76 0 26 := ⟨rfl, rfl⟩
theorem r_X10_feed_26 : RW M_X10_feed 26 (.aload_n 0) 1 0 0 27 := ⟨rfl, rfl⟩
theorem r_X10_feed_27 : RW M_X10_feed 27 (.getfield 10) 3 10 0 30 := ⟨rfl, rfl⟩
theorem r_X10_feed_30 : RW M_X10_feed 30 (.iload_n 2) 1 0 0 31 := ⟨rfl, rfl⟩
theorem r_X10_feed_31 : RW M_X10_feed 31 (.invokevirtual 91) 3 76 0 34 := ⟨rfl, rfl⟩
theorem r_X10_feed_34 : RW M_X10_feed 34 (.aload_n 0) 1 0 0 35 := ⟨rfl, rfl⟩
theorem r_X10_feed_35 : RW M_X10_feed 35 (.getfield 10) 3 10 0 38 := ⟨rfl, rfl⟩
theorem r_X10_feed_38 : RW M_X10_feed 38 (.iload_n 3) 1 0 0 39 := ⟨rfl, rfl⟩
theorem r_X10_feed_39 : RW M_X10_feed 39 (.invokevirtual 91) 3 76 0 42 := ⟨rfl, rfl⟩
theorem r_X10_feed_42 : RW M_X10_feed 42 (.aload_n 0) 1 0 0 43 := ⟨rfl, rfl⟩
theorem r_X10_feed_43 : RW M_X10_feed 43 (.getfield 10) 3 10 0 46 := ⟨rfl, rfl⟩
theorem r_X10_feed_46 : RW M_X10_feed 46 (.iload 4) 2 0 0 48 := ⟨rfl, rfl⟩
theorem r_X10_feed_48 : RW M_X10_feed 48 (.invokevirtual 91) 3 76 0 51 := ⟨rfl, rfl⟩
theorem r_X10_feed_51 : RW M_X10_feed 51 (.aload_n 0) 1 0 0 52 := ⟨rfl, rfl⟩
theorem r_X10_feed_52 : RW M_X10_feed 52 (.getfield 10) 3 10 0 55 := ⟨rfl, rfl⟩
theorem r_X10_feed_55 : RW M_X10_feed 55 (.iload 5) 2 0 0 57 := ⟨rfl, rfl⟩
theorem r_X10_feed_57 : RW M_X10_feed 57 (.invokevirtual 91) 3 76 0 60 := ⟨rfl, rfl⟩
theorem r_X10_feed_60 : RW M_X10_feed 60 (.aload_n 0) 1 0 0 61 := ⟨rfl, rfl⟩
theorem r_X10_feed_61 : RW M_X10_feed 61 (.getfield 10) 3 10 0 64 := ⟨rfl, rfl⟩
theorem r_X10_feed_64 : RW M_X10_feed 64 (.getfield 87) 3 6 1 67 := ⟨rfl, rfl⟩
theorem r_X10_feed_67 : RW M_X10_feed 67 (.ireturn) 1 0 0 68 := ⟨rfl, rfl⟩
theorem r_X11_feed_0 : RW M_X11_feed 0 (.aload_n 0) 1 0 0 1 := ⟨rfl, rfl⟩
theorem r_X11_feed_1 : RW M_X11_feed 1 (.iconst 0) 1 0 0 2 := ⟨rfl, rfl⟩
theorem r_X11_feed_2 : RW M_X11_feed 2 (.putfield 3) 3 11 0 5 := ⟨rfl, rfl⟩
theorem r_X11_feed_5 : RW M_X11_feed 5 (.aload_n 0) 1 0 0 6 := ⟨rfl, rfl⟩
theorem r_X11_feed_6 : RW M_X11_feed 6 (.getfield 108) 3 11 2 9 := ⟨rfl, rfl⟩
theorem r_X11_feed_9 : RW M_X11_feed 9 (.bipush 20) 2 0 0 11 := ⟨rfl, rfl⟩
theorem r_X11_feed_11 : RW M_X11_feed 11 (.iadd) 1 0 0 12 := ⟨rfl, rfl⟩
theorem r_X11_feed_12 : RW M_X11_feed 12 (.sipush 600) 3 0 0 15 := ⟨rfl, rfl⟩
theorem r_X11_feed_15 : RW M_X11_feed 15 (.if_icmp .le 5) 3 20 0 18 := ⟨rfl, rfl⟩
theorem r_X11_feed_18 : RW M_X11_feed 18 (.iconst (-1)) 1 0 0 19 := ⟨rfl, rfl⟩
theorem r_X11_feed_19 : RW M_X11_feed 19 (.ireturn) 1 0 0 20 := ⟨rfl, rfl⟩
theorem r_X11_feed_20 : RW M_X11_feed 20 (.iconst 0) 1 0 0 21 := ⟨rfl, rfl⟩
theorem r_X11_feed_21 : RW M_X11_feed 21 (.istore 6) 2 0 0 23 := ⟨rfl, rfl⟩
theorem r_X11_feed_23 : RW M_X11_feed 23 (.iload 6) 2 0 7 25 := ⟨rfl, rfl⟩
theorem r_X11_feed_25 : RW M_X11_feed 25 (.bipush 20) 2 0 0 27 := ⟨rfl, rfl⟩
theorem r_X11_feed_27 : RW M_X11_feed 27 (.if_icmp .ge 93) 3 120 0 30 := ⟨rfl, rfl⟩
theorem r_X11_feed_30 : RW M_X11_feed 30 (.iload 6) 2 0 0 32 := ⟨rfl, rfl⟩
theorem r_X11_feed_32 : RW M_X11_feed 32 (.iconst 4) 1 0 0 33 := ⟨rfl, rfl⟩
theorem r_X11_feed_33 : RW M_X11_feed 33 (.if_icmp .ge 7) 3 40 0 36 := ⟨rfl, rfl⟩
theorem r_X11_feed_36 : RW M_X11_feed 36 (.iload_n 1) 1 0 0 37 := ⟨rfl, rfl⟩
theorem r_X11_feed_37 : RW M_X11_feed 37 (.goto 39) 3 76 0 40 := ⟨rfl, rfl⟩
theorem r_X11_feed_40 : RW M_X11_feed 40 (.iload 6) 2 0 0 42 := ⟨rfl, rfl⟩
theorem r_X11_feed_42 : RW M_X11_feed 42 (.bipush 8) 2 0 0 44 := ⟨rfl, rfl⟩
theorem r_X11_feed_44 : RW M_X11_feed 44 (.if_icmp .ge 7) 3 51 0 47 := ⟨rfl, rfl⟩
theorem r_X11_feed_47 : RW M_X11_feed 47 (.iload_n 2) 1 0 0 48 := ⟨rfl, rfl⟩
theorem r_X11_feed_48 : RW M_X11_feed 48 (.goto 28) 3 76 0 51 := ⟨rfl, rfl⟩
theorem r_X11_feed_51 : RW M_X11_feed 51 (.iload 6) 2 0 0 53 := ⟨rfl, rfl⟩
theorem r_X11_feed_53 : RW M_X11_feed 53 (.bipush 12) 2 0 0 55 := ⟨rfl, rfl⟩
theorem r_X11_feed_55 : RW M_X11_feed 55 (.if_icmp .ge 7) 3 62 0 58 := ⟨rfl, rfl⟩
theorem r_X11_feed_58 : RW M_X11_feed 58 (.iload_n 3) 1 0 0 59 := ⟨rfl, rfl⟩
theorem r_X11_feed_59 : RW M_X11_feed 59 (.goto 17) 3 76 0 62 := ⟨rfl, rfl⟩
theorem r_X11_feed_62 : RW M_X11_feed 62 (.iload 6) 2 0 0 64 := ⟨rfl, rfl⟩
theorem r_X11_feed_64 : RW M_X11_feed 64 (.bipush 16) 2 0 0 66 := ⟨rfl, rfl⟩
theorem r_X11_feed_66 : RW M_X11_feed 66 (.if_icmp .ge 8) 3 74 0 69 := ⟨rfl, rfl⟩
theorem r_X11_feed_69 : RW M_X11_feed 69 (.iload 4) 2 0 0 71 := ⟨rfl, rfl⟩
theorem r_X11_feed_71 : RW M_X11_feed 71 (.goto 5) 3 76 0 74 := ⟨rfl, rfl⟩
theorem r_X11_feed_74 : RW M_X11_feed 74 (.iload 5) 2 0 0 76 := ⟨rfl, rfl⟩
theorem r_X11_feed_76 : RW M_X11_feed 76 (.istore 7) 2 0 0 78 := ⟨rfl, rfl⟩
theorem r_X11_feed_78 : RW M_X11_feed 78 (.aload_n 0) 1 0 0 79 := ⟨rfl, rfl⟩
theorem r_X11_feed_79 : RW M_X11_feed 79 (.getfield 20) 3 11 9 82 := ⟨rfl, rfl⟩
theorem r_X11_feed_82 : RW M_X11_feed 82 (.aload_n 0) 1 0 0 83 := ⟨rfl, rfl⟩
theorem r_X11_feed_83 : RW M_X11_feed 83 (.getfield 108) 3 11 2 86 := ⟨rfl, rfl⟩
theorem r_X11_feed_86 : RW M_X11_feed 86 (.iload 7) 2 0 0 88 := ⟨rfl, rfl⟩
theorem r_X11_feed_88 : RW M_X11_feed 88 (.bipush 24) 2 0 0 90 := ⟨rfl, rfl⟩
theorem r_X11_feed_90 : RW M_X11_feed 90 (.bipush 8) 2 0 0 92 := ⟨rfl, rfl⟩
theorem r_X11_feed_92 : RW M_X11_feed 92 (.iload 6) 2 0 0 94 := ⟨rfl, rfl⟩
theorem r_X11_feed_94 : RW M_X11_feed 94 (.iconst 4) 1 0 0 95 := ⟨rfl, rfl⟩
theorem r_X11_feed_95 : RW M_X11_feed 95 (.irem) 1 0 0 96 := ⟨rfl, rfl⟩
theorem r_X11_feed_96 : RW M_X11_feed 96 (.imul) 1 0 0 97 := ⟨rfl, rfl⟩
theorem r_X11_feed_97 : RW M_X11_feed 97 (.isub) 1 0 0 98 := ⟨rfl, rfl⟩
theorem r_X11_feed_98 : RW M_X11_feed 98 (.ishr) 1 0 0 99 := ⟨rfl, rfl⟩
theorem r_X11_feed_99 : RW M_X11_feed 99 (.sipush 255) 3 0 0 102 := ⟨rfl, rfl⟩
theorem r_X11_feed_102 : RW M_X11_feed 102 (.iand) 1 0 0 103 := ⟨rfl, rfl⟩
theorem r_X11_feed_103 : RW M_X11_feed 103 (.iastore) 1 0 0 104 := ⟨rfl, rfl⟩
theorem r_X11_feed_104 : RW M_X11_feed 104 (.aload_n 0) 1 0 0 105 := ⟨rfl, rfl⟩
theorem r_X11_feed_105 : RW M_X11_feed 105 (.dup) 1 0 0 106 := ⟨rfl, rfl⟩
theorem r_X11_feed_106 : RW M_X11_feed 106 (.getfield 108) 3 11 2 109 := ⟨rfl, rfl⟩
theorem r_X11_feed_109 : RW M_X11_feed 109 (.iconst 1) 1 0 0 110 := ⟨rfl, rfl⟩
theorem r_X11_feed_110 : RW M_X11_feed 110 (.iadd) 1 0 0 111 := ⟨rfl, rfl⟩
theorem r_X11_feed_111 : RW M_X11_feed 111 (.putfield 108) 3 11 2 114 := ⟨rfl, rfl⟩
theorem r_X11_feed_114 : RW M_X11_feed 114 (.iinc 6 1) 3 0 0 117 := ⟨rfl, rfl⟩
theorem r_X11_feed_117 : RW M_X11_feed 117 (.goto (-94)) 3 23 0 120 := ⟨rfl, rfl⟩
theorem r_X11_feed_120 : RW M_X11_feed 120 (.aload_n 0) 1 0 0 121 := ⟨rfl, rfl⟩
theorem r_X11_feed_121 : RW M_X11_feed 121 (.getfield 108) 3 11 2 124 := ⟨rfl, rfl⟩
theorem r_X11_feed_124 : RW M_X11_feed 124 (.ireturn) 1 0 0 125 := ⟨rfl, rfl⟩
theorem r_X6_addNumber_0 : RW M_X6_addNumber 0 (.bipush 24) 2 0 0 2 := ⟨rfl, rfl⟩
theorem r_X6_addNumber_2 : RW M_X6_addNumber 2 (.istore_n 2) 1 0 0 3 := ⟨rfl, rfl⟩
theorem r_X6_addNumber_3 : RW M_X6_addNumber 3 (.iload_n 2) 1 0 0 4 := ⟨rfl, rfl⟩
theorem r_X6_addNumber_4 : RW M_X6_addNumber 4 (.ifCond .lt 37) 3 41 0 7 := ⟨rfl, rfl⟩
theorem r_X6_addNumber_7 : RW M_X6_addNumber 7 (.aload_n 0) 1 0 0 8 := ⟨rfl, rfl⟩
theorem r_X6_addNumber_8 : RW M_X6_addNumber 8 (.getfield 14) 3 6 0 11 := ⟨rfl, rfl⟩
theorem r_X6_addNumber_11 : RW M_X6_addNumber 11 (.aload_n 0) 1 0 0 12 := ⟨rfl, rfl⟩
theorem r_X6_addNumber_12 : RW M_X6_addNumber 12 (.getfield 24) 3 6 1 15 := ⟨rfl, rfl⟩
theorem r_X6_addNumber_15 : RW M_X6_addNumber 15 (.iload_n 1) 1 0 0 16 := ⟨rfl, rfl⟩
theorem r_X6_addNumber_16 : RW M_X6_addNumber 16 (.iload_n 2) 1 0 0 17 := ⟨rfl, rfl⟩
theorem r_X6_addNumber_17 : RW M_X6_addNumber 17 (.iushr) 1 0 0 18 := ⟨rfl, rfl⟩
theorem r_X6_addNumber_18 : RW M_X6_addNumber 18 (.sipush 255) 3 0 0 21 := ⟨rfl, rfl⟩
theorem r_X6_addNumber_21 : RW M_X6_addNumber 21 (.iand) 1 0 0 22 := ⟨rfl, rfl⟩
theorem r_X6_addNumber_22 : RW M_X6_addNumber 22 (.invokevirtual 27) 3 93 0 25 := ⟨rfl, rfl⟩
theorem r_X6_addNumber_25 : RW M_X6_addNumber 25 (.aload_n 0) 1 0 0 26 := ⟨rfl, rfl⟩
theorem r_X6_addNumber_26 : RW M_X6_addNumber 26 (.dup) 1 0 0 27 := ⟨rfl, rfl⟩
theorem r_X6_addNumber_27 : RW M_X6_addNumber 27 (.getfield 24) 3 6 1 30 := ⟨rfl, rfl⟩
theorem r_X6_addNumber_30 : RW M_X6_addNumber 30 (.iconst 1) 1 0 0 31 := ⟨rfl, rfl⟩
theorem r_X6_addNumber_31 : RW M_X6_addNumber 31 (.iadd) 1 0 0 32 := ⟨rfl, rfl⟩
theorem r_X6_addNumber_32 : RW M_X6_addNumber 32 (.putfield 24) 3 6 1 35 := ⟨rfl, rfl⟩
theorem r_X6_addNumber_35 : RW M_X6_addNumber 35 (.iinc 2 (-8)) 3 0 0 38 := ⟨rfl, rfl⟩
theorem r_X6_addNumber_38 : RW M_X6_addNumber 38 (.goto (-35)) 3 3 0 41 := ⟨rfl, rfl⟩
theorem r_X6_addNumber_41 : RW M_X6_addNumber 41 (.return_) 1 0 0 42 := ⟨rfl, rfl⟩
theorem c_addNum {d : Nat} {I : Nat → Nat → Int32} {J : Nat → Nat → Int64} {t : Nat} {x : Int32} (h1 : I 1 1 = nI t) (ht : t + 4 ≤ 600) (hd : 2 ≤ d) : RU d 76 [.ref 1, .int x] I J (fun I' => I' = ad4 I t x) := by
  refine RU.in (d0 := 1) hd mt_76 (Nat.le_of_ble_eq_true rfl) (fun d' hd' => ?_)
  show EV none M_X6_addNumber d' 0 [(0, .ref 1), (1, .int x)] [] (hp I J) _
  refine EV.o r_X6_addNumber_0 (bpN (24) 24) ?_
  refine EV.l (lv' := [(0, _), (1, _), (2, _)]) r_X6_addNumber_2 rfl ?_
  refine EV.l (lv' := [(0, _), (1, _), (2, _)]) r_X6_addNumber_3 rfl ?_
  refine EV.n0_lt r_X6_addNumber_4 (fun h4 => ?_) (fun h4 => ?_)
  · omega
  · -- 4 f
    refine EV.l (lv' := [(0, _), (1, _), (2, _)]) r_X6_addNumber_7 rfl ?_
    refine EV.gR r_X6_addNumber_8 la_1 ?_
    refine EV.l (lv' := [(0, _), (1, _), (2, _)]) r_X6_addNumber_11 rfl ?_
    refine EV.getV r_X6_addNumber_12 la_1 (h1) ?_
    refine EV.l (lv' := [(0, _), (1, _), (2, _)]) r_X6_addNumber_15 rfl ?_
    refine EV.l (lv' := [(0, _), (1, _), (2, _)]) r_X6_addNumber_16 rfl ?_
    refine EV.o r_X6_addNumber_17 (rfl) ?_
    refine EV.o r_X6_addNumber_18 (spN (255) 255) ?_
    refine EV.o r_X6_addNumber_21 (by8_u (by omega)) ?_
    refine EV.cu r_X6_addNumber_22 (aV2 mt_93 la_2) (c_set la_2 la_3 (by decide) (by decide) (by omega) (by omega)) (fun I2 e2 => ?_)
    subst e2
    refine EV.l (lv' := [(0, _), (1, _), (2, _)]) r_X6_addNumber_25 rfl ?_
    refine EV.o r_X6_addNumber_26 rfl ?_
    refine EV.getV r_X6_addNumber_27 la_1 ((wr_ne (Or.inl (by decide))).trans (h1)) ?_
    refine EV.o r_X6_addNumber_30 (icN (1) (v := 1)) ?_
    refine EV.o r_X6_addNumber_31 iaddN ?_
    refine EV.pI r_X6_addNumber_32 la_1 ?_
    refine EV.l (lv' := [(0, _), (1, _), (2, _)]) r_X6_addNumber_35 rfl ?_
    rw [show nI 24 + Int32.ofInt (-8) = nI (16) from by decide]
    refine EV.g r_X6_addNumber_38 ?_
    refine EV.l (lv' := [(0, _), (1, _), (2, _)]) r_X6_addNumber_3 rfl ?_
    refine EV.n0_lt r_X6_addNumber_4 (fun h4 => ?_) (fun h4 => ?_)
    · omega
    · -- 4 f
      refine EV.l (lv' := [(0, _), (1, _), (2, _)]) r_X6_addNumber_7 rfl ?_
      refine EV.gR r_X6_addNumber_8 la_1 ?_
      refine EV.l (lv' := [(0, _), (1, _), (2, _)]) r_X6_addNumber_11 rfl ?_
      refine EV.getV r_X6_addNumber_12 la_1 (wr_same) ?_
      refine EV.l (lv' := [(0, _), (1, _), (2, _)]) r_X6_addNumber_15 rfl ?_
      refine EV.l (lv' := [(0, _), (1, _), (2, _)]) r_X6_addNumber_16 rfl ?_
      refine EV.o r_X6_addNumber_17 (rfl) ?_
      refine EV.o r_X6_addNumber_18 (spN (255) 255) ?_
      refine EV.o r_X6_addNumber_21 (by8_u (by omega)) ?_
      refine EV.cu r_X6_addNumber_22 (aV2 mt_93 la_2) (c_set la_2 la_3 (by decide) (by decide) (by omega) (by omega)) (fun I2 e2 => ?_)
      subst e2
      refine EV.l (lv' := [(0, _), (1, _), (2, _)]) r_X6_addNumber_25 rfl ?_
      refine EV.o r_X6_addNumber_26 rfl ?_
      refine EV.getV r_X6_addNumber_27 la_1 ((wr_ne (Or.inl (by decide))).trans (wr_same)) ?_
      refine EV.o r_X6_addNumber_30 (icN (1) (v := 1)) ?_
      refine EV.o r_X6_addNumber_31 iaddN ?_
      refine EV.pI r_X6_addNumber_32 la_1 ?_
      refine EV.l (lv' := [(0, _), (1, _), (2, _)]) r_X6_addNumber_35 rfl ?_
      rw [show nI 16 + Int32.ofInt (-8) = nI (8) from by decide]
      refine EV.g r_X6_addNumber_38 ?_
      refine EV.l (lv' := [(0, _), (1, _), (2, _)]) r_X6_addNumber_3 rfl ?_
      refine EV.n0_lt r_X6_addNumber_4 (fun h4 => ?_) (fun h4 => ?_)
      · omega
      · -- 4 f
        refine EV.l (lv' := [(0, _), (1, _), (2, _)]) r_X6_addNumber_7 rfl ?_
        refine EV.gR r_X6_addNumber_8 la_1 ?_
        refine EV.l (lv' := [(0, _), (1, _), (2, _)]) r_X6_addNumber_11 rfl ?_
        refine EV.getV r_X6_addNumber_12 la_1 (wr_same) ?_
        refine EV.l (lv' := [(0, _), (1, _), (2, _)]) r_X6_addNumber_15 rfl ?_
        refine EV.l (lv' := [(0, _), (1, _), (2, _)]) r_X6_addNumber_16 rfl ?_
        refine EV.o r_X6_addNumber_17 (rfl) ?_
        refine EV.o r_X6_addNumber_18 (spN (255) 255) ?_
        refine EV.o r_X6_addNumber_21 (by8_u (by omega)) ?_
        refine EV.cu r_X6_addNumber_22 (aV2 mt_93 la_2) (c_set la_2 la_3 (by decide) (by decide) (by omega) (by omega)) (fun I2 e2 => ?_)
        subst e2
        refine EV.l (lv' := [(0, _), (1, _), (2, _)]) r_X6_addNumber_25 rfl ?_
        refine EV.o r_X6_addNumber_26 rfl ?_
        refine EV.getV r_X6_addNumber_27 la_1 ((wr_ne (Or.inl (by decide))).trans (wr_same)) ?_
        refine EV.o r_X6_addNumber_30 (icN (1) (v := 1)) ?_
        refine EV.o r_X6_addNumber_31 iaddN ?_
        refine EV.pI r_X6_addNumber_32 la_1 ?_
        refine EV.l (lv' := [(0, _), (1, _), (2, _)]) r_X6_addNumber_35 rfl ?_
        rw [show nI 8 + Int32.ofInt (-8) = nI (0) from by decide]
        refine EV.g r_X6_addNumber_38 ?_
        refine EV.l (lv' := [(0, _), (1, _), (2, _)]) r_X6_addNumber_3 rfl ?_
        refine EV.n0_lt r_X6_addNumber_4 (fun h4 => ?_) (fun h4 => ?_)
        · omega
        · -- 4 f
          refine EV.l (lv' := [(0, _), (1, _), (2, _)]) r_X6_addNumber_7 rfl ?_
          refine EV.gR r_X6_addNumber_8 la_1 ?_
          refine EV.l (lv' := [(0, _), (1, _), (2, _)]) r_X6_addNumber_11 rfl ?_
          refine EV.getV r_X6_addNumber_12 la_1 (wr_same) ?_
          refine EV.l (lv' := [(0, _), (1, _), (2, _)]) r_X6_addNumber_15 rfl ?_
          refine EV.l (lv' := [(0, _), (1, _), (2, _)]) r_X6_addNumber_16 rfl ?_
          refine EV.o r_X6_addNumber_17 (rfl) ?_
          refine EV.o r_X6_addNumber_18 (spN (255) 255) ?_
          refine EV.o r_X6_addNumber_21 (by8_u (by omega)) ?_
          refine EV.cu r_X6_addNumber_22 (aV2 mt_93 la_2) (c_set la_2 la_3 (by decide) (by decide) (by omega) (by omega)) (fun I2 e2 => ?_)
          subst e2
          refine EV.l (lv' := [(0, _), (1, _), (2, _)]) r_X6_addNumber_25 rfl ?_
          refine EV.o r_X6_addNumber_26 rfl ?_
          refine EV.getV r_X6_addNumber_27 la_1 ((wr_ne (Or.inl (by decide))).trans (wr_same)) ?_
          refine EV.o r_X6_addNumber_30 (icN (1) (v := 1)) ?_
          refine EV.o r_X6_addNumber_31 iaddN ?_
          refine EV.pI r_X6_addNumber_32 la_1 ?_
          refine EV.l (lv' := [(0, _), (1, _), (2, _)]) r_X6_addNumber_35 rfl ?_
          rw [show nI 0 + Int32.ofInt (-8) = zI (-8) from by decide]
          refine EV.g r_X6_addNumber_38 ?_
          refine EV.l (lv' := [(0, _), (1, _), (2, _)]) r_X6_addNumber_3 rfl ?_
          refine EV.z0_lt r_X6_addNumber_4 (fun h4 => ?_) (fun h4 => ?_)
          · -- 4 t
            exact EV.ru r_X6_addNumber_41 (rfl)
          · omega
theorem c_feed {d : Nat} {I : Nat → Nat → Int32} {J : Nat → Nat → Int64} {S : STT} (h : CIn S I) (ht : S.tl + 20 ≤ 600) {a b c e f : Int32}  (hd : 3 ≤ d) : RI d 113 [.ref 0, .int a, .int b, .int c, .int e, .int f] I J (fun v I' => v = nI (S.tl + 20) ∧ CIn (fedS S a b c e f) I' ∧ LOf I I') := by
  refine RI.in (d0 := 2) hd mt_113 (Nat.le_of_ble_eq_true rfl) (fun d' hd' => ?_)
  show EV none M_X10_feed d' 0 [(0, .ref 0), (1, .int a), (2, .int b), (3, .int c), (4, .int e), (5, .int f)] [] (hp I J) _
  refine EV.l (lv' := [(0, _), (1, _), (2, _), (3, _), (4, _), (5, _)]) r_X10_feed_0 rfl ?_
  refine EV.gR r_X10_feed_1 la_0 ?_
  refine EV.getV r_X10_feed_4 la_1 (h.tl) ?_
  refine EV.o r_X10_feed_7 (bpN (20) 20) ?_
  refine EV.o r_X10_feed_9 iaddN ?_
  refine EV.o r_X10_feed_10 (spN (600) 600) ?_
  refine EV.n2_le r_X10_feed_13 (fun h13 => ?_) (fun h13 => ?_)
  · -- 13 t
    refine EV.l (lv' := [(0, _), (1, _), (2, _), (3, _), (4, _), (5, _)]) r_X10_feed_18 rfl ?_
    refine EV.gR r_X10_feed_19 la_0 ?_
    refine EV.l (lv' := [(0, _), (1, _), (2, _), (3, _), (4, _), (5, _)]) r_X10_feed_22 rfl ?_
    refine EV.cu r_X10_feed_23 (aV1 mt_76 la_1) (c_addNum (h.tl) (by omega) (by omega)) (fun I2 e2 => ?_)
    subst e2
    refine EV.l (lv' := [(0, _), (1, _), (2, _), (3, _), (4, _), (5, _)]) r_X10_feed_26 rfl ?_
    refine EV.gR r_X10_feed_27 la_0 ?_
    refine EV.l (lv' := [(0, _), (1, _), (2, _), (3, _), (4, _), (5, _)]) r_X10_feed_30 rfl ?_
    refine EV.cu r_X10_feed_31 (aV1 mt_76 la_1) (c_addNum (ad4_1) (by omega) (by omega)) (fun I2 e2 => ?_)
    subst e2
    refine EV.l (lv' := [(0, _), (1, _), (2, _), (3, _), (4, _), (5, _)]) r_X10_feed_34 rfl ?_
    refine EV.gR r_X10_feed_35 la_0 ?_
    refine EV.l (lv' := [(0, _), (1, _), (2, _), (3, _), (4, _), (5, _)]) r_X10_feed_38 rfl ?_
    refine EV.cu r_X10_feed_39 (aV1 mt_76 la_1) (c_addNum (ad4_1) (by omega) (by omega)) (fun I2 e2 => ?_)
    subst e2
    refine EV.l (lv' := [(0, _), (1, _), (2, _), (3, _), (4, _), (5, _)]) r_X10_feed_42 rfl ?_
    refine EV.gR r_X10_feed_43 la_0 ?_
    refine EV.l (lv' := [(0, _), (1, _), (2, _), (3, _), (4, _), (5, _)]) r_X10_feed_46 rfl ?_
    refine EV.cu r_X10_feed_48 (aV1 mt_76 la_1) (c_addNum (ad4_1) (by omega) (by omega)) (fun I2 e2 => ?_)
    subst e2
    refine EV.l (lv' := [(0, _), (1, _), (2, _), (3, _), (4, _), (5, _)]) r_X10_feed_51 rfl ?_
    refine EV.gR r_X10_feed_52 la_0 ?_
    refine EV.l (lv' := [(0, _), (1, _), (2, _), (3, _), (4, _), (5, _)]) r_X10_feed_55 rfl ?_
    refine EV.cu r_X10_feed_57 (aV1 mt_76 la_1) (c_addNum (ad4_1) (by omega) (by omega)) (fun I2 e2 => ?_)
    subst e2
    refine EV.l (lv' := [(0, _), (1, _), (2, _), (3, _), (4, _), (5, _)]) r_X10_feed_60 rfl ?_
    refine EV.gR r_X10_feed_61 la_0 ?_
    refine EV.getV r_X10_feed_64 la_1 (ad4_1) ?_
    exact EV.ri r_X10_feed_67 (⟨rfl, h.fed ad4_1 (fun j hj => (ad4_j hj).trans ((ad4_j hj).trans ((ad4_j hj).trans ((ad4_j hj).trans (ad4_j hj))))) (fd_all h.tp) (fun o z1 z3 => (ad4_o z1 z3).trans ((ad4_o z1 z3).trans ((ad4_o z1 z3).trans ((ad4_o z1 z3).trans (ad4_o z1 z3))))), fun o ho => (ad4_o (by omega) (by omega)).trans ((ad4_o (by omega) (by omega)).trans ((ad4_o (by omega) (by omega)).trans ((ad4_o (by omega) (by omega)).trans (ad4_o (by omega) (by omega)))))⟩)
  · omega
theorem c_feed0 {d : Nat} {I : Nat → Nat → Int32} {J : Nat → Nat → Int64} {S : STT} (h : CIn S I) (tl6 : S.tl ≤ 600) (ht : 600 < S.tl + 20) {a b c e f : Int32}  (hd : 1 ≤ d) : RV d 113 [.ref 0, .int a, .int b, .int c, .int e, .int f] I J (zI (-1)) := by
  refine RV.in (d0 := 0) hd mt_113 (Nat.le_of_ble_eq_true rfl) (fun d' hd' => ?_)
  show EV none M_X10_feed d' 0 [(0, .ref 0), (1, .int a), (2, .int b), (3, .int c), (4, .int e), (5, .int f)] [] (hp I J) _
  refine EV.l (lv' := [(0, _), (1, _), (2, _), (3, _), (4, _), (5, _)]) r_X10_feed_0 rfl ?_
  refine EV.gR r_X10_feed_1 la_0 ?_
  refine EV.getV r_X10_feed_4 la_1 (h.tl) ?_
  refine EV.o r_X10_feed_7 (bpN (20) 20) ?_
  refine EV.o r_X10_feed_9 iaddN ?_
  refine EV.o r_X10_feed_10 (spN (600) 600) ?_
  refine EV.n2_le r_X10_feed_13 (fun h13 => ?_) (fun h13 => ?_)
  · omega
  · -- 13 f
    refine EV.o r_X10_feed_16 (icZ (-1)) ?_
    exact EV.rv r_X10_feed_17 (rfl)
theorem m_feed {d : Nat} {I : Nat → Nat → Int32} {J : Nat → Nat → Int64} {S : STT} (h : MIn S I) (ht : S.tl + 20 ≤ 600) {a b c e f : Int32}  (hd : 1 ≤ d) : RI d 172 [.ref 106, .int a, .int b, .int c, .int e, .int f] I J (fun v I' => v = nI (S.tl + 20) ∧ MIn (fedS S a b c e f) I' ∧ HIf I I' ∧ I' 106 0 = nI 0) := by
  refine RI.in (d0 := 0) hd mt_172 (Nat.le_of_ble_eq_true rfl) (fun d' hd' => ?_)
  show EV none M_X11_feed d' 0 [(0, .ref 106), (1, .int a), (2, .int b), (3, .int c), (4, .int e), (5, .int f)] [] (hp I J) _
  refine EV.l (lv' := [(0, _), (1, _), (2, _), (3, _), (4, _), (5, _)]) r_X11_feed_0 rfl ?_
  refine EV.o r_X11_feed_1 (icN (0) (v := 0)) ?_
  refine EV.pI r_X11_feed_2 la_106 ?_
  refine EV.l (lv' := [(0, _), (1, _), (2, _), (3, _), (4, _), (5, _)]) r_X11_feed_5 rfl ?_
  refine EV.getV r_X11_feed_6 la_106 ((wr_ne (Or.inr (by decide))).trans h.tl) ?_
  refine EV.o r_X11_feed_9 (bpN (20) 20) ?_
  refine EV.o r_X11_feed_11 iaddN ?_
  refine EV.o r_X11_feed_12 (spN (600) 600) ?_
  refine EV.n2_le r_X11_feed_15 (fun h15 => ?_) (fun h15 => ?_)
  · -- 15 t
    refine EV.o r_X11_feed_20 (icN (0) (v := 0)) ?_
    refine EV.l (lv' := [(0, _), (1, _), (2, _), (3, _), (4, _), (5, _), (6, _)]) r_X11_feed_21 rfl ?_
    have L23 : ∀ y_ : Nat × (Nat → Nat → Int32), (fun y => (y.1 ≤ 20 ∧ (∀ o, o ≠ 106 → o ≠ 108 → y.2 o = I o) ∧ (∀ j, j ≠ 0 → j ≠ 2 → y.2 106 j = I 106 j) ∧ y.2 106 0 = nI 0 ∧ y.2 106 2 = nI (S.tl + y.1) ∧ ∀ j, j < 600 → y.2 108 j = nI (fdT S.tp S.tl a b c e f y.1 j)) → EV none M_X11_feed d' 23 [(0, .ref 106), (1, .int a), (2, .int b), (3, .int c), (4, .int e), (5, .int f), (6, .int (nI y.1))] [] (hp y.2 J) (QI J (fun v I' => v = nI (S.tl + 20) ∧ MIn (fedS S a b c e f) I' ∧ HIf I I' ∧ I' 106 0 = nI 0))) y_ := by
      refine ev_loop (fun y => 20 - y.1) ?_
      intro ⟨i, I1⟩ ih23 hx23
      try dsimp only at ih23
      try dsimp only at hx23
      try dsimp only
      refine EV.l (lv' := [(0, _), (1, _), (2, _), (3, _), (4, _), (5, _), (6, _)]) r_X11_feed_23 rfl ?_
      refine EV.o r_X11_feed_25 (bpN (20) 20) ?_
      refine EV.n2_ge r_X11_feed_27 (fun h27 => ?_) (fun h27 => ?_)
      · -- 27 t
        have i20 : i = 20 := by omega
        rw [i20] at hx23
        refine EV.l (lv' := [(0, _), (1, _), (2, _), (3, _), (4, _), (5, _), (6, _)]) r_X11_feed_120 rfl ?_
        refine EV.getV r_X11_feed_121 la_106 (hx23.2.2.2.2.1) ?_
        exact EV.ri r_X11_feed_124 (⟨rfl, h.fed hx23.2.2.2.2.1 hx23.2.2.1 hx23.2.2.2.2.2 hx23.2.1, fun o ho => hx23.2.1 o (by omega) (by omega), hx23.2.2.2.1⟩)
      · -- 27 f
        refine EV.l (lv' := [(0, _), (1, _), (2, _), (3, _), (4, _), (5, _), (6, _)]) r_X11_feed_30 rfl ?_
        refine EV.o r_X11_feed_32 (icN (4) (v := 4)) ?_
        refine EV.n2_ge r_X11_feed_33 (fun h33 => ?_) (fun h33 => ?_)
        · -- 33 t
          refine EV.l (lv' := [(0, _), (1, _), (2, _), (3, _), (4, _), (5, _), (6, _)]) r_X11_feed_40 rfl ?_
          refine EV.o r_X11_feed_42 (bpN (8) 8) ?_
          refine EV.n2_ge r_X11_feed_44 (fun h44 => ?_) (fun h44 => ?_)
          · -- 44 t
            refine EV.l (lv' := [(0, _), (1, _), (2, _), (3, _), (4, _), (5, _), (6, _)]) r_X11_feed_51 rfl ?_
            refine EV.o r_X11_feed_53 (bpN (12) 12) ?_
            refine EV.n2_ge r_X11_feed_55 (fun h55 => ?_) (fun h55 => ?_)
            · -- 55 t
              refine EV.l (lv' := [(0, _), (1, _), (2, _), (3, _), (4, _), (5, _), (6, _)]) r_X11_feed_62 rfl ?_
              refine EV.o r_X11_feed_64 (bpN (16) 16) ?_
              refine EV.n2_ge r_X11_feed_66 (fun h66 => ?_) (fun h66 => ?_)
              · -- 66 t
                refine EV.l (lv' := [(0, _), (1, _), (2, _), (3, _), (4, _), (5, _), (6, _)]) r_X11_feed_74 rfl ?_
                refine EV.l (lv' := [(0, _), (1, _), (2, _), (3, _), (4, _), (5, _), (6, _), (7, _)]) r_X11_feed_76 rfl ?_
                refine EV.l (lv' := [(0, _), (1, _), (2, _), (3, _), (4, _), (5, _), (6, _), (7, _)]) r_X11_feed_78 rfl ?_
                refine EV.gR r_X11_feed_79 la_106 ?_
                refine EV.l (lv' := [(0, _), (1, _), (2, _), (3, _), (4, _), (5, _), (6, _), (7, _)]) r_X11_feed_82 rfl ?_
                refine EV.getV r_X11_feed_83 la_106 (hx23.2.2.2.2.1) ?_
                refine EV.l (lv' := [(0, _), (1, _), (2, _), (3, _), (4, _), (5, _), (6, _), (7, _)]) r_X11_feed_86 rfl ?_
                refine EV.o r_X11_feed_88 (bpN (24) 24) ?_
                refine EV.o r_X11_feed_90 (bpN (8) 8) ?_
                refine EV.l (lv' := [(0, _), (1, _), (2, _), (3, _), (4, _), (5, _), (6, _), (7, _)]) r_X11_feed_92 rfl ?_
                refine EV.o r_X11_feed_94 (icN (4) (v := 4)) ?_
                refine EV.o r_X11_feed_95 (iremN) ?_
                refine EV.o r_X11_feed_96 imulN ?_
                refine EV.o r_X11_feed_97 (isubN) ?_
                refine EV.o r_X11_feed_98 (rfl) ?_
                refine EV.o r_X11_feed_99 (spN (255) 255) ?_
                refine EV.o r_X11_feed_102 (by8_s (by omega)) ?_
                refine EV.iaS r_X11_feed_103 la_108 ?_
                refine EV.l (lv' := [(0, _), (1, _), (2, _), (3, _), (4, _), (5, _), (6, _), (7, _)]) r_X11_feed_104 rfl ?_
                refine EV.o r_X11_feed_105 rfl ?_
                refine EV.getV r_X11_feed_106 la_106 ((wr_ne (Or.inl (by decide))).trans hx23.2.2.2.2.1) ?_
                refine EV.o r_X11_feed_109 (icN (1) (v := 1)) ?_
                refine EV.o r_X11_feed_110 iaddN ?_
                refine EV.pIn r_X11_feed_111 la_106 (fun I3 e3 => ?_)
                refine EV.l (lv' := [(0, _), (1, _), (2, _), (3, _), (4, _), (5, _), (6, _), (7, _)]) r_X11_feed_114 rfl ?_
                rw [inc_nI]
                refine EV.g r_X11_feed_117 ?_
                refine EV.fg (lv' := [(0, _), (1, _), (2, _), (3, _), (4, _), (5, _), (6, _)]) r_X11_feed_23 rfl rfl rfl ?_
                refine EV.sub ?_ rfl ?_ (ih23 (i + 1, I3) ?_ ?_)
                · (try dsimp only) <;> (rfl)
                · (try dsimp only) <;> (rfl)
                · (try dsimp only) <;> (omega)
                · (try dsimp only) <;> (subst e3; exact ⟨by omega, fun o h1 h2 => (wr_row h1).trans ((wr_row h2).trans (hx23.2.1 o h1 h2)), fun j h1 h2 => (wr_ne (Or.inr h2)).trans ((wr_ne (Or.inl (by decide))).trans (hx23.2.2.1 j h1 h2)), (wr_ne (Or.inr (by decide))).trans ((wr_ne (Or.inl (by decide))).trans hx23.2.2.2.1), wr_same, fd_step hx23.2.2.2.2.2 (by unfold fdA; (repeat' split) <;> first | rfl | omega)⟩)
              · -- 66 f
                refine EV.l (lv' := [(0, _), (1, _), (2, _), (3, _), (4, _), (5, _), (6, _)]) r_X11_feed_69 rfl ?_
                refine EV.g r_X11_feed_71 ?_
                refine EV.l (lv' := [(0, _), (1, _), (2, _), (3, _), (4, _), (5, _), (6, _), (7, _)]) r_X11_feed_76 rfl ?_
                refine EV.l (lv' := [(0, _), (1, _), (2, _), (3, _), (4, _), (5, _), (6, _), (7, _)]) r_X11_feed_78 rfl ?_
                refine EV.gR r_X11_feed_79 la_106 ?_
                refine EV.l (lv' := [(0, _), (1, _), (2, _), (3, _), (4, _), (5, _), (6, _), (7, _)]) r_X11_feed_82 rfl ?_
                refine EV.getV r_X11_feed_83 la_106 (hx23.2.2.2.2.1) ?_
                refine EV.l (lv' := [(0, _), (1, _), (2, _), (3, _), (4, _), (5, _), (6, _), (7, _)]) r_X11_feed_86 rfl ?_
                refine EV.o r_X11_feed_88 (bpN (24) 24) ?_
                refine EV.o r_X11_feed_90 (bpN (8) 8) ?_
                refine EV.l (lv' := [(0, _), (1, _), (2, _), (3, _), (4, _), (5, _), (6, _), (7, _)]) r_X11_feed_92 rfl ?_
                refine EV.o r_X11_feed_94 (icN (4) (v := 4)) ?_
                refine EV.o r_X11_feed_95 (iremN) ?_
                refine EV.o r_X11_feed_96 imulN ?_
                refine EV.o r_X11_feed_97 (isubN) ?_
                refine EV.o r_X11_feed_98 (rfl) ?_
                refine EV.o r_X11_feed_99 (spN (255) 255) ?_
                refine EV.o r_X11_feed_102 (by8_s (by omega)) ?_
                refine EV.iaS r_X11_feed_103 la_108 ?_
                refine EV.l (lv' := [(0, _), (1, _), (2, _), (3, _), (4, _), (5, _), (6, _), (7, _)]) r_X11_feed_104 rfl ?_
                refine EV.o r_X11_feed_105 rfl ?_
                refine EV.getV r_X11_feed_106 la_106 ((wr_ne (Or.inl (by decide))).trans hx23.2.2.2.2.1) ?_
                refine EV.o r_X11_feed_109 (icN (1) (v := 1)) ?_
                refine EV.o r_X11_feed_110 iaddN ?_
                refine EV.pIn r_X11_feed_111 la_106 (fun I3 e3 => ?_)
                refine EV.l (lv' := [(0, _), (1, _), (2, _), (3, _), (4, _), (5, _), (6, _), (7, _)]) r_X11_feed_114 rfl ?_
                rw [inc_nI]
                refine EV.g r_X11_feed_117 ?_
                refine EV.fg (lv' := [(0, _), (1, _), (2, _), (3, _), (4, _), (5, _), (6, _)]) r_X11_feed_23 rfl rfl rfl ?_
                refine EV.sub ?_ rfl ?_ (ih23 (i + 1, I3) ?_ ?_)
                · (try dsimp only) <;> (rfl)
                · (try dsimp only) <;> (rfl)
                · (try dsimp only) <;> (omega)
                · (try dsimp only) <;> (subst e3; exact ⟨by omega, fun o h1 h2 => (wr_row h1).trans ((wr_row h2).trans (hx23.2.1 o h1 h2)), fun j h1 h2 => (wr_ne (Or.inr h2)).trans ((wr_ne (Or.inl (by decide))).trans (hx23.2.2.1 j h1 h2)), (wr_ne (Or.inr (by decide))).trans ((wr_ne (Or.inl (by decide))).trans hx23.2.2.2.1), wr_same, fd_step hx23.2.2.2.2.2 (by unfold fdA; (repeat' split) <;> first | rfl | omega)⟩)
            · -- 55 f
              refine EV.l (lv' := [(0, _), (1, _), (2, _), (3, _), (4, _), (5, _), (6, _)]) r_X11_feed_58 rfl ?_
              refine EV.g r_X11_feed_59 ?_
              refine EV.l (lv' := [(0, _), (1, _), (2, _), (3, _), (4, _), (5, _), (6, _), (7, _)]) r_X11_feed_76 rfl ?_
              refine EV.l (lv' := [(0, _), (1, _), (2, _), (3, _), (4, _), (5, _), (6, _), (7, _)]) r_X11_feed_78 rfl ?_
              refine EV.gR r_X11_feed_79 la_106 ?_
              refine EV.l (lv' := [(0, _), (1, _), (2, _), (3, _), (4, _), (5, _), (6, _), (7, _)]) r_X11_feed_82 rfl ?_
              refine EV.getV r_X11_feed_83 la_106 (hx23.2.2.2.2.1) ?_
              refine EV.l (lv' := [(0, _), (1, _), (2, _), (3, _), (4, _), (5, _), (6, _), (7, _)]) r_X11_feed_86 rfl ?_
              refine EV.o r_X11_feed_88 (bpN (24) 24) ?_
              refine EV.o r_X11_feed_90 (bpN (8) 8) ?_
              refine EV.l (lv' := [(0, _), (1, _), (2, _), (3, _), (4, _), (5, _), (6, _), (7, _)]) r_X11_feed_92 rfl ?_
              refine EV.o r_X11_feed_94 (icN (4) (v := 4)) ?_
              refine EV.o r_X11_feed_95 (iremN) ?_
              refine EV.o r_X11_feed_96 imulN ?_
              refine EV.o r_X11_feed_97 (isubN) ?_
              refine EV.o r_X11_feed_98 (rfl) ?_
              refine EV.o r_X11_feed_99 (spN (255) 255) ?_
              refine EV.o r_X11_feed_102 (by8_s (by omega)) ?_
              refine EV.iaS r_X11_feed_103 la_108 ?_
              refine EV.l (lv' := [(0, _), (1, _), (2, _), (3, _), (4, _), (5, _), (6, _), (7, _)]) r_X11_feed_104 rfl ?_
              refine EV.o r_X11_feed_105 rfl ?_
              refine EV.getV r_X11_feed_106 la_106 ((wr_ne (Or.inl (by decide))).trans hx23.2.2.2.2.1) ?_
              refine EV.o r_X11_feed_109 (icN (1) (v := 1)) ?_
              refine EV.o r_X11_feed_110 iaddN ?_
              refine EV.pIn r_X11_feed_111 la_106 (fun I3 e3 => ?_)
              refine EV.l (lv' := [(0, _), (1, _), (2, _), (3, _), (4, _), (5, _), (6, _), (7, _)]) r_X11_feed_114 rfl ?_
              rw [inc_nI]
              refine EV.g r_X11_feed_117 ?_
              refine EV.fg (lv' := [(0, _), (1, _), (2, _), (3, _), (4, _), (5, _), (6, _)]) r_X11_feed_23 rfl rfl rfl ?_
              refine EV.sub ?_ rfl ?_ (ih23 (i + 1, I3) ?_ ?_)
              · (try dsimp only) <;> (rfl)
              · (try dsimp only) <;> (rfl)
              · (try dsimp only) <;> (omega)
              · (try dsimp only) <;> (subst e3; exact ⟨by omega, fun o h1 h2 => (wr_row h1).trans ((wr_row h2).trans (hx23.2.1 o h1 h2)), fun j h1 h2 => (wr_ne (Or.inr h2)).trans ((wr_ne (Or.inl (by decide))).trans (hx23.2.2.1 j h1 h2)), (wr_ne (Or.inr (by decide))).trans ((wr_ne (Or.inl (by decide))).trans hx23.2.2.2.1), wr_same, fd_step hx23.2.2.2.2.2 (by unfold fdA; (repeat' split) <;> first | rfl | omega)⟩)
          · -- 44 f
            refine EV.l (lv' := [(0, _), (1, _), (2, _), (3, _), (4, _), (5, _), (6, _)]) r_X11_feed_47 rfl ?_
            refine EV.g r_X11_feed_48 ?_
            refine EV.l (lv' := [(0, _), (1, _), (2, _), (3, _), (4, _), (5, _), (6, _), (7, _)]) r_X11_feed_76 rfl ?_
            refine EV.l (lv' := [(0, _), (1, _), (2, _), (3, _), (4, _), (5, _), (6, _), (7, _)]) r_X11_feed_78 rfl ?_
            refine EV.gR r_X11_feed_79 la_106 ?_
            refine EV.l (lv' := [(0, _), (1, _), (2, _), (3, _), (4, _), (5, _), (6, _), (7, _)]) r_X11_feed_82 rfl ?_
            refine EV.getV r_X11_feed_83 la_106 (hx23.2.2.2.2.1) ?_
            refine EV.l (lv' := [(0, _), (1, _), (2, _), (3, _), (4, _), (5, _), (6, _), (7, _)]) r_X11_feed_86 rfl ?_
            refine EV.o r_X11_feed_88 (bpN (24) 24) ?_
            refine EV.o r_X11_feed_90 (bpN (8) 8) ?_
            refine EV.l (lv' := [(0, _), (1, _), (2, _), (3, _), (4, _), (5, _), (6, _), (7, _)]) r_X11_feed_92 rfl ?_
            refine EV.o r_X11_feed_94 (icN (4) (v := 4)) ?_
            refine EV.o r_X11_feed_95 (iremN) ?_
            refine EV.o r_X11_feed_96 imulN ?_
            refine EV.o r_X11_feed_97 (isubN) ?_
            refine EV.o r_X11_feed_98 (rfl) ?_
            refine EV.o r_X11_feed_99 (spN (255) 255) ?_
            refine EV.o r_X11_feed_102 (by8_s (by omega)) ?_
            refine EV.iaS r_X11_feed_103 la_108 ?_
            refine EV.l (lv' := [(0, _), (1, _), (2, _), (3, _), (4, _), (5, _), (6, _), (7, _)]) r_X11_feed_104 rfl ?_
            refine EV.o r_X11_feed_105 rfl ?_
            refine EV.getV r_X11_feed_106 la_106 ((wr_ne (Or.inl (by decide))).trans hx23.2.2.2.2.1) ?_
            refine EV.o r_X11_feed_109 (icN (1) (v := 1)) ?_
            refine EV.o r_X11_feed_110 iaddN ?_
            refine EV.pIn r_X11_feed_111 la_106 (fun I3 e3 => ?_)
            refine EV.l (lv' := [(0, _), (1, _), (2, _), (3, _), (4, _), (5, _), (6, _), (7, _)]) r_X11_feed_114 rfl ?_
            rw [inc_nI]
            refine EV.g r_X11_feed_117 ?_
            refine EV.fg (lv' := [(0, _), (1, _), (2, _), (3, _), (4, _), (5, _), (6, _)]) r_X11_feed_23 rfl rfl rfl ?_
            refine EV.sub ?_ rfl ?_ (ih23 (i + 1, I3) ?_ ?_)
            · (try dsimp only) <;> (rfl)
            · (try dsimp only) <;> (rfl)
            · (try dsimp only) <;> (omega)
            · (try dsimp only) <;> (subst e3; exact ⟨by omega, fun o h1 h2 => (wr_row h1).trans ((wr_row h2).trans (hx23.2.1 o h1 h2)), fun j h1 h2 => (wr_ne (Or.inr h2)).trans ((wr_ne (Or.inl (by decide))).trans (hx23.2.2.1 j h1 h2)), (wr_ne (Or.inr (by decide))).trans ((wr_ne (Or.inl (by decide))).trans hx23.2.2.2.1), wr_same, fd_step hx23.2.2.2.2.2 (by unfold fdA; (repeat' split) <;> first | rfl | omega)⟩)
        · -- 33 f
          refine EV.l (lv' := [(0, _), (1, _), (2, _), (3, _), (4, _), (5, _), (6, _)]) r_X11_feed_36 rfl ?_
          refine EV.g r_X11_feed_37 ?_
          refine EV.l (lv' := [(0, _), (1, _), (2, _), (3, _), (4, _), (5, _), (6, _), (7, _)]) r_X11_feed_76 rfl ?_
          refine EV.l (lv' := [(0, _), (1, _), (2, _), (3, _), (4, _), (5, _), (6, _), (7, _)]) r_X11_feed_78 rfl ?_
          refine EV.gR r_X11_feed_79 la_106 ?_
          refine EV.l (lv' := [(0, _), (1, _), (2, _), (3, _), (4, _), (5, _), (6, _), (7, _)]) r_X11_feed_82 rfl ?_
          refine EV.getV r_X11_feed_83 la_106 (hx23.2.2.2.2.1) ?_
          refine EV.l (lv' := [(0, _), (1, _), (2, _), (3, _), (4, _), (5, _), (6, _), (7, _)]) r_X11_feed_86 rfl ?_
          refine EV.o r_X11_feed_88 (bpN (24) 24) ?_
          refine EV.o r_X11_feed_90 (bpN (8) 8) ?_
          refine EV.l (lv' := [(0, _), (1, _), (2, _), (3, _), (4, _), (5, _), (6, _), (7, _)]) r_X11_feed_92 rfl ?_
          refine EV.o r_X11_feed_94 (icN (4) (v := 4)) ?_
          refine EV.o r_X11_feed_95 (iremN) ?_
          refine EV.o r_X11_feed_96 imulN ?_
          refine EV.o r_X11_feed_97 (isubN) ?_
          refine EV.o r_X11_feed_98 (rfl) ?_
          refine EV.o r_X11_feed_99 (spN (255) 255) ?_
          refine EV.o r_X11_feed_102 (by8_s (by omega)) ?_
          refine EV.iaS r_X11_feed_103 la_108 ?_
          refine EV.l (lv' := [(0, _), (1, _), (2, _), (3, _), (4, _), (5, _), (6, _), (7, _)]) r_X11_feed_104 rfl ?_
          refine EV.o r_X11_feed_105 rfl ?_
          refine EV.getV r_X11_feed_106 la_106 ((wr_ne (Or.inl (by decide))).trans hx23.2.2.2.2.1) ?_
          refine EV.o r_X11_feed_109 (icN (1) (v := 1)) ?_
          refine EV.o r_X11_feed_110 iaddN ?_
          refine EV.pIn r_X11_feed_111 la_106 (fun I3 e3 => ?_)
          refine EV.l (lv' := [(0, _), (1, _), (2, _), (3, _), (4, _), (5, _), (6, _), (7, _)]) r_X11_feed_114 rfl ?_
          rw [inc_nI]
          refine EV.g r_X11_feed_117 ?_
          refine EV.fg (lv' := [(0, _), (1, _), (2, _), (3, _), (4, _), (5, _), (6, _)]) r_X11_feed_23 rfl rfl rfl ?_
          refine EV.sub ?_ rfl ?_ (ih23 (i + 1, I3) ?_ ?_)
          · (try dsimp only) <;> (rfl)
          · (try dsimp only) <;> (rfl)
          · (try dsimp only) <;> (omega)
          · (try dsimp only) <;> (subst e3; exact ⟨by omega, fun o h1 h2 => (wr_row h1).trans ((wr_row h2).trans (hx23.2.1 o h1 h2)), fun j h1 h2 => (wr_ne (Or.inr h2)).trans ((wr_ne (Or.inl (by decide))).trans (hx23.2.2.1 j h1 h2)), (wr_ne (Or.inr (by decide))).trans ((wr_ne (Or.inl (by decide))).trans hx23.2.2.2.1), wr_same, fd_step hx23.2.2.2.2.2 (by unfold fdA; (repeat' split) <;> first | rfl | omega)⟩)
    have h0 := L23 ((0, wr I 106 0 (nI 0)))
    try dsimp only at h0
    refine EV.sub ?_ rfl ?_ (h0 ?_)
    · (try dsimp only) <;> (rfl)
    · (try dsimp only) <;> (rfl)
    · (try dsimp only) <;> (exact ⟨by omega, fun o h1 _ => wr_row h1, fun j h1 _ => wr_ne (Or.inr h1), wr_same, (wr_ne (Or.inr (by decide))).trans h.tl, fun j hj => (wr_ne (Or.inl (by decide))).trans ((h.tp j hj).trans (by unfold fdT; rw [if_neg (by omega)]))⟩)
  · omega
theorem m_feed0 {d : Nat} {I : Nat → Nat → Int32} {J : Nat → Nat → Int64} {S : STT} (h : MIn S I) (tl6 : S.tl ≤ 600) (ht : 600 < S.tl + 20) {a b c e f : Int32}  (hd : 1 ≤ d) : RI d 172 [.ref 106, .int a, .int b, .int c, .int e, .int f] I J (fun v I' => v = zI (-1) ∧ FR I I' ∧ I' 106 0 = nI 0) := by
  refine RI.in (d0 := 0) hd mt_172 (Nat.le_of_ble_eq_true rfl) (fun d' hd' => ?_)
  show EV none M_X11_feed d' 0 [(0, .ref 106), (1, .int a), (2, .int b), (3, .int c), (4, .int e), (5, .int f)] [] (hp I J) _
  refine EV.l (lv' := [(0, _), (1, _), (2, _), (3, _), (4, _), (5, _)]) r_X11_feed_0 rfl ?_
  refine EV.o r_X11_feed_1 (icN (0) (v := 0)) ?_
  refine EV.pI r_X11_feed_2 la_106 ?_
  refine EV.l (lv' := [(0, _), (1, _), (2, _), (3, _), (4, _), (5, _)]) r_X11_feed_5 rfl ?_
  refine EV.getV r_X11_feed_6 la_106 ((wr_ne (Or.inr (by decide))).trans h.tl) ?_
  refine EV.o r_X11_feed_9 (bpN (20) 20) ?_
  refine EV.o r_X11_feed_11 iaddN ?_
  refine EV.o r_X11_feed_12 (spN (600) 600) ?_
  refine EV.n2_le r_X11_feed_15 (fun h15 => ?_) (fun h15 => ?_)
  · omega
  · -- 15 f
    refine EV.o r_X11_feed_18 (icZ (-1)) ?_
    exact EV.ri r_X11_feed_19 (⟨rfl, ⟨fun j hj => wr_ne (Or.inr (fun z => by subst z; exact absurd hj (by decide))), fun o ho _ => wr_row ho⟩, wr_same⟩)
