/-! IMAGE and RESTORE; the model's UNDO, IMAGE, RESTORE. -/
theorem MS.ext {a b a2 b2 : Nat} {κ : CT} {η : HS} {I I' : Nat → Nat → Int32} (cb : CB κ) (h : MS a b κ η I) (e : ∀ j, j < 31 → I' a2 (b2 + j) = I a (b + j)) : MS a2 b2 κ η I' := by
  have h1 := cb.ns; have h2 := cb.nb; have h3 := cb.nc
  unfold MS at h ⊢
  obtain ⟨c1, c2, c3, c4, c5, c6⟩ := h
  exact ⟨fun j hj => (e j (by omega)).trans (c1 j hj), fun j hj => (e (9 + j) (by omega)).trans (c2 j hj), fun j hj => (e (18 + j) (by omega)).trans (c3 j hj), fun j hj => (e (22 + j) (by omega)).trans (c4 j hj), fun j hj => (e (26 + j) (by omega)).trans (c5 j hj), (e 30 (by omega)).trans c6⟩
theorem MR.sto {a b a2 : Nat} {κ : CT} {η : HS} {I I' : Nat → Nat → Int32} (cb : CB κ) (h : MR a κ η I) (e : ∀ j, j < 31 → I' a2 (b + j) = I a j) : MS a2 b κ η I' := by
  have h1 := cb.ns; have h2 := cb.nb; have h3 := cb.nc
  exact ⟨fun j hj => (e j (by omega)).trans (by have := h.sa j hj; rwa [Nat.zero_add] at this), fun j hj => (e (9 + j) (by omega)).trans (h.nt j hj), fun j hj => (e (18 + j) (by omega)).trans (h.be j hj), fun j hj => (e (22 + j) (by omega)).trans (h.le j hj), fun j hj => (e (26 + j) (by omega)).trans (h.cr j hj), (e 30 (by omega)).trans h.mi⟩
theorem MS.lod {a b a2 : Nat} {κ : CT} {η : HS} {I I' : Nat → Nat → Int32} (cb : CB κ) (h : MS a b κ η I) (e : ∀ j, j < 31 → I' a2 j = I a (b + j)) : MR a2 κ η I' := by
  have h1 := cb.ns; have h2 := cb.nb; have h3 := cb.nc
  unfold MS at h
  obtain ⟨c1, c2, c3, c4, c5, c6⟩ := h
  exact ⟨fun j hj => by rw [Nat.zero_add]; exact (e j (by omega)).trans (c1 j hj), fun j hj => (e (9 + j) (by omega)).trans (c2 j hj), fun j hj => (e (18 + j) (by omega)).trans (c3 j hj), fun j hj => (e (22 + j) (by omega)).trans (c4 j hj), fun j hj => (e (26 + j) (by omega)).trans (c5 j hj), (e 30 (by omega)).trans c6⟩
theorem MR.bck {a : Nat} {κ : CT} {l : LW} {η : HS} {w : Nat → Nat} {I : Nat → Nat → Int32} (h : MR a κ η I) : MR a κ (bck κ l η w) I := h
/-- the model's part behind an undo or a restore -/
theorem MIn.bak {S S' : STT} {I I' : Nat → Nat → Int32} (h : MIn S I) (e1 : S'.κ = S.κ) (e2 : S'.l = S.l) (e3 : S'.tl = S.tl) (e4 : S'.tp = S.tp) (e5 : S'.bt = S.bt) (e6 : S'.br = S.br) (e7 : S'.fp = S.fp) (e8 : S'.r0 = S.r0) (e9 : S'.r1 = S.r1) (hf : ∀ x, x ≠ 106 → x ≠ 125 → x ≠ 127 → x ≠ 134 → I' x = I x) (h0 : ∀ j, j ≠ 0 → j ≠ 37 → j ≠ 38 → j ≠ 55 → I' 106 j = I 106 j) (mr : MR 125 S'.κ S'.η I') (rf : I' 106 38 = nI S'.rf) (w : I' 106 37 = nI S'.w) (im : I' 106 55 = nI S'.im) (ps : ∀ k, k < S'.w → MS 127 (31 * k) S'.κ (S'.ps k) I') (iw : ∀ i, i < S'.im → I' 134 (528 * i + 527) = nI (S'.iw i)) (ic : ∀ i, i < S'.im → MS 134 (528 * i) S'.κ (S'.ip i (S'.iw i)) I') (ip : ∀ i k, i < S'.im → k < S'.iw i → MS 134 (528 * i + 31 + 31 * k) S'.κ (S'.ip i k) I') : MIn S' I' := by
  have g : ∀ x, x ≠ 106 → x ≠ 125 → x ≠ 127 → x ≠ 134 → I' x = I x := hf
  have hmc : MC S.κ I' := by
    have := h.mc
    unfold MC at this ⊢
    rw [h0 22 (by decide) (by decide) (by decide) (by decide), h0 23 (by decide) (by decide) (by decide) (by decide), h0 24 (by decide) (by decide) (by decide) (by decide), h0 25 (by decide) (by decide) (by decide) (by decide), g 113 (by decide) (by decide) (by decide) (by decide), g 114 (by decide) (by decide) (by decide) (by decide), g 115 (by decide) (by decide) (by decide) (by decide), g 116 (by decide) (by decide) (by decide) (by decide)]
    exact this
  exact ⟨by rw [e1]; exact hmc, mr, by rw [e2]; exact h.ml.fr9 (h0 32 (by decide) (by decide) (by decide) (by decide)) (g 119 (by decide) (by decide) (by decide) (by decide)) (g 120 (by decide) (by decide) (by decide) (by decide)), by rw [e3, h0 2 (by decide) (by decide) (by decide) (by decide)]; exact h.tl, by rw [e7, h0 8 (by decide) (by decide) (by decide) (by decide)]; exact h.fp, by rw [e4, g 108 (by decide) (by decide) (by decide) (by decide)]; exact h.tp, rf, by rw [e8, g 107 (by decide) (by decide) (by decide) (by decide)]; exact h.r0, by rw [e9, g 107 (by decide) (by decide) (by decide) (by decide)]; exact h.r1, by rw [e5, h0 47 (by decide) (by decide) (by decide) (by decide)]; exact h.wt, by rw [e5, e6, g 129 (by decide) (by decide) (by decide) (by decide)]; exact h.bk, w, im, ps, iw, ic, ip⟩
theorem img_iw {S : STT} {I I' : Nat → Nat → Int32} (t2 : I' 88 S.im = nI S.w) (t9 : ∀ i, i ≠ S.im → I' 88 i = I 88 i) (h : ∀ i, i < S.im → I 88 i = nI (S.iw i)) (i : Nat) (hi : i < (imgS S).im) : I' 88 i = nI ((imgS S).iw i) := by
  have hi : i < S.im + 1 := hi
  show I' 88 i = nI (if i = S.im then S.w else S.iw i)
  by_cases e : i = S.im
  · rw [if_pos e, e]; exact t2
  · rw [if_neg e, t9 i e]; exact h i (by omega)
theorem img_ip {S : STT} {I I' : Nat → Nat → Int32} (w16 : S.w ≤ 16) (t3 : ∀ j, j < 391 → I' 86 (391 * S.im + j) = I' 84 j) (t4 : CS 84 (23 * S.w) S.η I') (t5 : ∀ k, (k < 23 * S.w ∨ 23 * S.w + 23 ≤ k) → I' 84 k = I 84 k) (t8 : ∀ k, k < 391 * S.im → I' 86 k = I 86 k) (hp : ∀ k, k < S.w → CS 84 (23 * k) (S.ps k) I) (h : ∀ i k, i < S.im → k ≤ S.iw i → CS 86 (391 * i + 23 * k) (S.ip i k) I) (i k : Nat) (hi : i < (imgS S).im) (hk : k ≤ (imgS S).iw i) (hw : ∀ i, i < S.im → S.iw i ≤ 16) : CS 86 (391 * i + 23 * k) ((imgS S).ip i k) I' := by
  have hi : i < S.im + 1 := hi
  have hk : k ≤ (if i = S.im then S.w else S.iw i) := hk
  show CS 86 (391 * i + 23 * k) (if i = S.im then (if k = S.w then S.η else S.ps k) else S.ip i k) I'
  by_cases e : i = S.im
  · rw [if_pos e] at hk ⊢
    rw [e]
    by_cases e2 : k = S.w
    · rw [if_pos e2, e2]
      exact t4.ext (fun j hj => by rw [Nat.add_assoc, t3 _ (by omega)])
    · rw [if_neg e2]
      exact (hp k (by omega)).ext (fun j hj => by rw [Nat.add_assoc, t3 _ (by omega), t5 _ (Or.inl (by omega))])
  · rw [if_neg e] at hk ⊢
    have h16 := hw i (by omega)
    exact (h i k (by omega) hk).ext (fun j hj => t8 _ (by omega))
theorem cpy0f {I : Nat → Nat → Int32} {q o f n : Nat} (h : o ≠ q) : wr (cpy I q 0 o f n) q n (cpy I q 0 o f n o (f + n)) = cpy I q 0 o f (n + 1) := by
  have := cpy_succ (I := I) (q := q) (p := 0) (o := o) (f := f) (n := n) h
  rwa [Nat.zero_add] at this
theorem cpy_sucz {I : Nat → Nat → Int32} {q p o n : Nat} (h : o ≠ q) : wr (cpy I q p o 0 n) q (p + n) (cpy I q p o 0 n o n) = cpy I q p o 0 (n + 1) := by
  have := cpy_succ (I := I) (q := q) (p := p) (o := o) (f := 0) (n := n) h
  rwa [Nat.zero_add] at this
theorem wr_at {I : Nat → Nat → Int32} {o j k : Nat} {v : Int32} (h : k = j) : wr I o j v o k = v := by rw [h]; exact wr_same
theorem img_ic {S : STT} {I I' : Nat → Nat → Int32} (cb : CB S.κ) (mr : MR 125 S.κ S.η I) (t1 : ∀ j, j < 31 → I' 134 (528 * S.im + j) = I 125 j) (t4 : ∀ k, (k < 528 * S.im ∨ 528 * S.im + 528 ≤ k) → I' 134 k = I 134 k) (h : ∀ i, i < S.im → MS 134 (528 * i) S.κ (S.ip i (S.iw i)) I) (i : Nat) (hi : i < (imgS S).im) : MS 134 (528 * i) S.κ ((imgS S).ip i ((imgS S).iw i)) I' := by
  have hi : i < S.im + 1 := hi
  show MS 134 (528 * i) S.κ (if i = S.im then (if (if i = S.im then S.w else S.iw i) = S.w then S.η else S.ps (if i = S.im then S.w else S.iw i)) else S.ip i (if i = S.im then S.w else S.iw i)) I'
  by_cases e : i = S.im
  · rw [if_pos e, if_pos e, if_pos rfl, e]
    exact mr.sto cb t1
  · rw [if_neg e, if_neg e]
    exact (h i (by omega)).ext cb (fun j hj => t4 _ (by omega))
theorem img_iwm {S : STT} {I I' : Nat → Nat → Int32} (t3 : I' 134 (528 * S.im + 527) = nI S.w) (t4 : ∀ k, (k < 528 * S.im ∨ 528 * S.im + 528 ≤ k) → I' 134 k = I 134 k) (h : ∀ i, i < S.im → I 134 (528 * i + 527) = nI (S.iw i)) (i : Nat) (hi : i < (imgS S).im) : I' 134 (528 * i + 527) = nI ((imgS S).iw i) := by
  have hi : i < S.im + 1 := hi
  show _ = nI (if i = S.im then S.w else S.iw i)
  by_cases e : i = S.im
  · rw [if_pos e, e]; exact t3
  · rw [if_neg e, t4 _ (by omega)]; exact h i (by omega)
theorem img_ipm {S : STT} {I I' : Nat → Nat → Int32} (cb : CB S.κ) (w16 : S.w ≤ 16) (hw : ∀ i, i < S.im → S.iw i ≤ 16) (t2 : ∀ j, j < 496 → I' 134 (528 * S.im + 31 + j) = I 127 j) (t4 : ∀ k, (k < 528 * S.im ∨ 528 * S.im + 528 ≤ k) → I' 134 k = I 134 k) (hp : ∀ k, k < S.w → MS 127 (31 * k) S.κ (S.ps k) I) (h : ∀ i k, i < S.im → k < S.iw i → MS 134 (528 * i + 31 + 31 * k) S.κ (S.ip i k) I) (i k : Nat) (hi : i < (imgS S).im) (hk : k < (imgS S).iw i) : MS 134 (528 * i + 31 + 31 * k) S.κ ((imgS S).ip i k) I' := by
  have hi : i < S.im + 1 := hi
  have hk : k < (if i = S.im then S.w else S.iw i) := hk
  show MS 134 (528 * i + 31 + 31 * k) S.κ (if i = S.im then (if k = S.w then S.η else S.ps k) else S.ip i k) I'
  by_cases e : i = S.im
  · rw [if_pos e] at hk ⊢
    rw [if_neg (by omega), e]
    exact (hp k hk).ext cb (fun j hj => by rw [Nat.add_assoc, t2 _ (by omega)])
  · rw [if_neg e] at hk ⊢
    have h16 := hw i (by omega)
    exact (h i k (by omega) hk).ext cb (fun j hj => t4 _ (by omega))
theorem r_X10_image_0 : RW M_X10_image 0 (.aload_n 0) 1 0 0 1 := ⟨rfl, rfl⟩
theorem r_X10_image_1 : RW M_X10_image 1 (.getfield 65) 3 10 9 4 := ⟨rfl, rfl⟩
theorem r_X10_image_4 : RW M_X10_image 4 (.getfield 367) 3 4 4 7 := ⟨rfl, rfl⟩
theorem r_X10_image_7 : RW M_X10_image 7 (.iconst 3) 1 0 0 8 := ⟨rfl, rfl⟩
theorem r_X10_image_8 : RW M_X10_image 8 (.if_icmp .lt 5) 3 13 0 11 := ⟨rfl, rfl⟩
theorem r_X10_image_11 : RW M_X10_image 11 (.iconst (-1)) 1 0 0 12 := ⟨rfl, rfl⟩
theorem r_X10_image_12 : RW M_X10_image 12 (.ireturn) 1 0 0 13 := ⟨rfl, rfl⟩
theorem r_X10_image_13 : RW M_X10_image 13 (.aload_n 0) 1 0 0 14 := ⟨rfl, rfl⟩
theorem r_X10_image_14 : RW M_X10_image 14 (.getfield 65) 3 10 9 17 := ⟨rfl, rfl⟩
theorem r_X10_image_17 : RW M_X10_image 17 (.aload_n 0) 1 0 0 18 := ⟨rfl, rfl⟩
theorem r_X10_image_18 : RW M_X10_image 18 (.getfield 58) 3 10 8 21 := ⟨rfl, rfl⟩
theorem r_X10_image_21 : RW M_X10_image 21 (.invokevirtual 370) 3 63 0 24 := ⟨rfl, rfl⟩
theorem r_X10_image_24 : RW M_X10_image 24 (.aload_n 0) 1 0 0 25 := ⟨rfl, rfl⟩
theorem r_X10_image_25 : RW M_X10_image 25 (.getfield 65) 3 10 9 28 := ⟨rfl, rfl⟩
theorem r_X10_image_28 : RW M_X10_image 28 (.getfield 367) 3 4 4 31 := ⟨rfl, rfl⟩
theorem r_X10_image_31 : RW M_X10_image 31 (.ireturn) 1 0 0 32 := ⟨rfl, rfl⟩
theorem r_X10_restore_0 : RW M_X10_restore 0 (.aload_n 0) 1 0 0 1 := ⟨rfl, rfl⟩
theorem r_X10_restore_1 : RW M_X10_restore 1 (.getfield 65) 3 10 9 4 := ⟨rfl, rfl⟩
theorem r_X10_restore_4 : RW M_X10_restore 4 (.getfield 367) 3 4 4 7 := ⟨rfl, rfl⟩
theorem r_X10_restore_7 : RW M_X10_restore 7 (.ifCond .ne 5) 3 12 0 10 := ⟨rfl, rfl⟩
theorem r_X10_restore_10 : RW M_X10_restore 10 (.iconst (-1)) 1 0 0 11 := ⟨rfl, rfl⟩
theorem r_X10_restore_11 : RW M_X10_restore 11 (.ireturn) 1 0 0 12 := ⟨rfl, rfl⟩
theorem r_X10_restore_12 : RW M_X10_restore 12 (.aload_n 0) 1 0 0 13 := ⟨rfl, rfl⟩
theorem r_X10_restore_13 : RW M_X10_restore 13 (.getfield 65) 3 10 9 16 := ⟨rfl, rfl⟩
theorem r_X10_restore_16 : RW M_X10_restore 16 (.aload_n 0) 1 0 0 17 := ⟨rfl, rfl⟩
theorem r_X10_restore_17 : RW M_X10_restore 17 (.getfield 58) 3 10 8 20 := ⟨rfl, rfl⟩
theorem r_X10_restore_20 : RW M_X10_restore 20 (.invokevirtual 373) 3 64 0 23 := ⟨rfl, rfl⟩
theorem r_X10_restore_23 : RW M_X10_restore 23 (.aload_n 0) 1 0 0 24 := ⟨rfl, rfl⟩
theorem r_X10_restore_24 : RW M_X10_restore 24 (.iconst 0) 1 0 0 25 := ⟨rfl, rfl⟩
theorem r_X10_restore_25 : RW M_X10_restore 25 (.putfield 115) 3 10 12 28 := ⟨rfl, rfl⟩
theorem r_X10_restore_28 : RW M_X10_restore 28 (.aload_n 0) 1 0 0 29 := ⟨rfl, rfl⟩
theorem r_X10_restore_29 : RW M_X10_restore 29 (.getfield 65) 3 10 9 32 := ⟨rfl, rfl⟩
theorem r_X10_restore_32 : RW M_X10_restore 32 (.getfield 367) 3 4 4 35 := ⟨rfl, rfl⟩
theorem r_X10_restore_35 : RW M_X10_restore 35 (.ireturn) 1 0 0 36 := ⟨rfl, rfl⟩
theorem r_X11_image_0 : RW M_X11_image 0 (.aload_n 0) 1 0 0 1 := ⟨rfl, rfl⟩
theorem r_X11_image_1 : RW M_X11_image 1 (.iconst 0) 1 0 0 2 := ⟨rfl, rfl⟩
theorem r_X11_image_2 : RW M_X11_image 2 (.putfield 3) 3 11 0 5 := ⟨rfl, rfl⟩
theorem r_X11_image_5 : RW M_X11_image 5 (.aload_n 0) 1 0 0 6 := ⟨rfl, rfl⟩
theorem r_X11_image_6 : RW M_X11_image 6 (.getfield 191) 3 11 55 9 := ⟨rfl, rfl⟩
theorem r_X11_image_9 : RW M_X11_image 9 (.iconst 3) 1 0 0 10 := ⟨rfl, rfl⟩
theorem r_X11_image_10 : RW M_X11_image 10 (.if_icmp .ne 5) 3 15 0 13 := ⟨rfl, rfl⟩
theorem r_X11_image_13 : RW M_X11_image 13 (.iconst (-1)) 1 0 0 14 := ⟨rfl, rfl⟩
theorem r_X11_image_14 : RW M_X11_image 14 (.ireturn) 1 0 0 15 := ⟨rfl, rfl⟩
theorem r_X11_image_15 : RW M_X11_image 15 (.aload_n 0) 1 0 0 16 := ⟨rfl, rfl⟩
theorem r_X11_image_16 : RW M_X11_image 16 (.aload_n 0) 1 0 0 17 := ⟨rfl, rfl⟩
theorem r_X11_image_17 : RW M_X11_image 17 (.getfield 191) 3 11 55 20 := ⟨rfl, rfl⟩
theorem r_X11_image_20 : RW M_X11_image 20 (.iconst 1) 1 0 0 21 := ⟨rfl, rfl⟩
theorem r_X11_image_21 : RW M_X11_image 21 (.invokevirtual 476) 3 286 0 24 := ⟨rfl, rfl⟩
theorem r_X11_image_24 : RW M_X11_image 24 (.aload_n 0) 1 0 0 25 := ⟨rfl, rfl⟩
theorem r_X11_image_25 : RW M_X11_image 25 (.dup) 1 0 0 26 := ⟨rfl, rfl⟩
theorem r_X11_image_26 : RW M_X11_image 26 (.getfield 191) 3 11 55 29 := ⟨rfl, rfl⟩
theorem r_X11_image_29 : RW M_X11_image 29 (.iconst 1) 1 0 0 30 := ⟨rfl, rfl⟩
theorem r_X11_image_30 : RW M_X11_image 30 (.iadd) 1 0 0 31 := ⟨rfl, rfl⟩
theorem r_X11_image_31 : RW M_X11_image 31 (.putfield 191) 3 11 55 34 := ⟨rfl, rfl⟩
theorem r_X11_image_34 : RW M_X11_image 34 (.aload_n 0) 1 0 0 35 := ⟨rfl, rfl⟩
theorem r_X11_image_35 : RW M_X11_image 35 (.getfield 191) 3 11 55 38 := ⟨rfl, rfl⟩
theorem r_X11_image_38 : RW M_X11_image 38 (.ireturn) 1 0 0 39 := ⟨rfl, rfl⟩
theorem r_X11_keepsAll_0 : RW M_X11_keepsAll 0 (.aload_n 0) 1 0 0 1 := ⟨rfl, rfl⟩
theorem r_X11_keepsAll_1 : RW M_X11_keepsAll 1 (.sipush 528) 3 0 0 4 := ⟨rfl, rfl⟩
theorem r_X11_keepsAll_4 : RW M_X11_keepsAll 4 (.iload_n 1) 1 0 0 5 := ⟨rfl, rfl⟩
theorem r_X11_keepsAll_5 : RW M_X11_keepsAll 5 (.imul) 1 0 0 6 := ⟨rfl, rfl⟩
theorem r_X11_keepsAll_6 : RW M_X11_keepsAll 6 (.aload_n 0) 1 0 0 7 := ⟨rfl, rfl⟩
theorem r_X11_keepsAll_7 : RW M_X11_keepsAll 7 (.getfield 71) 3 11 42 10 := ⟨rfl, rfl⟩
theorem r_X11_keepsAll_10 : RW M_X11_keepsAll 10 (.bipush 31) 2 0 0 12 := ⟨rfl, rfl⟩
theorem r_X11_keepsAll_12 : RW M_X11_keepsAll 12 (.iload_n 2) 1 0 0 13 := ⟨rfl, rfl⟩
theorem r_X11_keepsAll_13 : RW M_X11_keepsAll 13 (.invokevirtual 472) 3 285 0 16 := ⟨rfl, rfl⟩
theorem r_X11_keepsAll_16 : RW M_X11_keepsAll 16 (.istore_n 3) 1 0 0 17 := ⟨rfl, rfl⟩
theorem r_X11_keepsAll_17 : RW M_X11_keepsAll 17 (.aload_n 0) 1 0 0 18 := ⟨rfl, rfl⟩
theorem r_X11_keepsAll_18 : RW M_X11_keepsAll 18 (.iload_n 3) 1 0 0 19 := ⟨rfl, rfl⟩
theorem r_X11_keepsAll_19 : RW M_X11_keepsAll 19 (.aload_n 0) 1 0 0 20 := ⟨rfl, rfl⟩
theorem r_X11_keepsAll_20 : RW M_X11_keepsAll 20 (.getfield 77) 3 11 44 23 := ⟨rfl, rfl⟩
theorem r_X11_keepsAll_23 : RW M_X11_keepsAll 23 (.sipush 496) 3 0 0 26 := ⟨rfl, rfl⟩
theorem r_X11_keepsAll_26 : RW M_X11_keepsAll 26 (.iload_n 2) 1 0 0 27 := ⟨rfl, rfl⟩
theorem r_X11_keepsAll_27 : RW M_X11_keepsAll 27 (.invokevirtual 472) 3 285 0 30 := ⟨rfl, rfl⟩
theorem r_X11_keepsAll_30 : RW M_X11_keepsAll 30 (.istore_n 3) 1 0 0 31 := ⟨rfl, rfl⟩
theorem r_X11_keepsAll_31 : RW M_X11_keepsAll 31 (.iload_n 2) 1 0 0 32 := ⟨rfl, rfl⟩
theorem r_X11_keepsAll_32 : RW M_X11_keepsAll 32 (.ifCond .eq 16) 3 48 0 35 := ⟨rfl, rfl⟩
theorem r_X11_keepsAll_35 : RW M_X11_keepsAll 35 (.aload_n 0) 1 0 0 36 := ⟨rfl, rfl⟩
theorem r_X11_keepsAll_36 : RW M_X11_keepsAll 36 (.getfield 99) 3 11 54 39 := ⟨rfl, rfl⟩
theorem r_X11_keepsAll_39 : RW M_X11_keepsAll 39 (.iload_n 3) 1 0 0 40 := ⟨rfl, rfl⟩
theorem r_X11_keepsAll_40 : RW M_X11_keepsAll 40 (.aload_n 0) 1 0 0 41 := ⟨rfl, rfl⟩
theorem r_X11_keepsAll_41 : RW M_X11_keepsAll 41 (.getfield 188) 3 11 37 44 := ⟨rfl, rfl⟩
theorem r_X11_keepsAll_44 : RW M_X11_keepsAll 44 (.iastore) 1 0 0 45 := ⟨rfl, rfl⟩
theorem r_X11_keepsAll_45 : RW M_X11_keepsAll 45 (.goto 13) 3 58 0 48 := ⟨rfl, rfl⟩
theorem r_X11_keepsAll_48 : RW M_X11_keepsAll 48 (.aload_n 0) 1 0 0 49 := ⟨rfl, rfl⟩
theorem r_X11_keepsAll_49 : RW M_X11_keepsAll 49 (.aload_n 0) 1 0 0 50 := ⟨rfl, rfl⟩
theorem r_X11_keepsAll_50 : RW M_X11_keepsAll 50 (.getfield 99) 3 11 54 53 := ⟨rfl, rfl⟩
theorem r_X11_keepsAll_53 : RW M_X11_keepsAll 53 (.iload_n 3) 1 0 0 54 := ⟨rfl, rfl⟩
theorem r_X11_keepsAll_54 : RW M_X11_keepsAll 54 (.iaload) 1 0 0 55 := ⟨rfl, rfl⟩
theorem r_X11_keepsAll_55 : RW M_X11_keepsAll 55 (.putfield 188) 3 11 37 58 := ⟨rfl, rfl⟩
theorem r_X11_keepsAll_58 : RW M_X11_keepsAll 58 (.return_) 1 0 0 59 := ⟨rfl, rfl⟩
theorem r_X11_keepsRow_0 : RW M_X11_keepsRow 0 (.iconst 0) 1 0 0 1 := ⟨rfl, rfl⟩
theorem r_X11_keepsRow_1 : RW M_X11_keepsRow 1 (.istore 5) 2 0 0 3 := ⟨rfl, rfl⟩
theorem r_X11_keepsRow_3 : RW M_X11_keepsRow 3 (.iload 5) 2 0 0 5 := ⟨rfl, rfl⟩
theorem r_X11_keepsRow_5 : RW M_X11_keepsRow 5 (.iload_n 3) 1 0 0 6 := ⟨rfl, rfl⟩
theorem r_X11_keepsRow_6 : RW M_X11_keepsRow 6 (.if_icmp .ge 43) 3 49 0 9 := ⟨rfl, rfl⟩
theorem r_X11_keepsRow_9 : RW M_X11_keepsRow 9 (.iload 4) 2 0 0 11 := ⟨rfl, rfl⟩
theorem r_X11_keepsRow_11 : RW M_X11_keepsRow 11 (.ifCond .eq 19) 3 30 0 14 := ⟨rfl, rfl⟩
theorem r_X11_keepsRow_14 : RW M_X11_keepsRow 14 (.aload_n 0) 1 0 0 15 := ⟨rfl, rfl⟩
theorem r_X11_keepsRow_15 : RW M_X11_keepsRow 15 (.getfield 99) 3 11 54 18 := ⟨rfl, rfl⟩
theorem r_X11_keepsRow_18 : RW M_X11_keepsRow 18 (.iload_n 1) 1 0 0 19 := ⟨rfl, rfl⟩
theorem r_X11_keepsRow_19 : RW M_X11_keepsRow 19 (.iload 5) 2 0 0 21 := ⟨rfl, rfl⟩
theorem r_X11_keepsRow_21 : RW M_X11_keepsRow 21 (.iadd) 1 0 0 22 := ⟨rfl, rfl⟩
theorem r_X11_keepsRow_22 : RW M_X11_keepsRow 22 (.aload_n 2) 1 0 0 23 := ⟨rfl, rfl⟩
theorem r_X11_keepsRow_23 : RW M_X11_keepsRow 23 (.iload 5) 2 0 0 25 := ⟨rfl, rfl⟩
theorem r_X11_keepsRow_25 : RW M_X11_keepsRow 25 (.iaload) 1 0 0 26 := ⟨rfl, rfl⟩
theorem r_X11_keepsRow_26 : RW M_X11_keepsRow 26 (.iastore) 1 0 0 27 := ⟨rfl, rfl⟩
theorem r_X11_keepsRow_27 : RW M_X11_keepsRow 27 (.goto 16) 3 43 0 30 := ⟨rfl, rfl⟩
theorem r_X11_keepsRow_30 : RW M_X11_keepsRow 30 (.aload_n 2) 1 0 0 31 := ⟨rfl, rfl⟩
theorem r_X11_keepsRow_31 : RW M_X11_keepsRow 31 (.iload 5) 2 0 0 33 := ⟨rfl, rfl⟩
theorem r_X11_keepsRow_33 : RW M_X11_keepsRow 33 (.aload_n 0) 1 0 0 34 := ⟨rfl, rfl⟩
theorem r_X11_keepsRow_34 : RW M_X11_keepsRow 34 (.getfield 99) 3 11 54 37 := ⟨rfl, rfl⟩
theorem r_X11_keepsRow_37 : RW M_X11_keepsRow 37 (.iload_n 1) 1 0 0 38 := ⟨rfl, rfl⟩
theorem r_X11_keepsRow_38 : RW M_X11_keepsRow 38 (.iload 5) 2 0 0 40 := ⟨rfl, rfl⟩
theorem r_X11_keepsRow_40 : RW M_X11_keepsRow 40 (.iadd) 1 0 0 41 := ⟨rfl, rfl⟩
theorem r_X11_keepsRow_41 : RW M_X11_keepsRow 41 (.iaload) 1 0 0 42 := ⟨rfl, rfl⟩
theorem r_X11_keepsRow_42 : RW M_X11_keepsRow 42 (.iastore) 1 0 0 43 := ⟨rfl, rfl⟩
theorem r_X11_keepsRow_43 : RW M_X11_keepsRow 43 (.iinc 5 1) 3 0 0 46 := ⟨rfl, rfl⟩
theorem r_X11_keepsRow_46 : RW M_X11_keepsRow 46 (.goto (-43)) 3 3 0 49 := ⟨rfl, rfl⟩
theorem r_X11_keepsRow_49 : RW M_X11_keepsRow 49 (.iload_n 1) 1 0 0 50 := ⟨rfl, rfl⟩
theorem r_X11_keepsRow_50 : RW M_X11_keepsRow 50 (.iload_n 3) 1 0 0 51 := ⟨rfl, rfl⟩
theorem r_X11_keepsRow_51 : RW M_X11_keepsRow 51 (.iadd) 1 0 0 52 := ⟨rfl, rfl⟩
theorem r_X11_keepsRow_52 : RW M_X11_keepsRow 52 (.ireturn) 1 0 0 53 := ⟨rfl, rfl⟩
theorem r_X11_restore_0 : RW M_X11_restore 0 (.aload_n 0) 1 0 0 1 := ⟨rfl, rfl⟩
theorem r_X11_restore_1 : RW M_X11_restore 1 (.iconst 0) 1 0 0 2 := ⟨rfl, rfl⟩
theorem r_X11_restore_2 : RW M_X11_restore 2 (.putfield 3) 3 11 0 5 := ⟨rfl, rfl⟩
theorem r_X11_restore_5 : RW M_X11_restore 5 (.aload_n 0) 1 0 0 6 := ⟨rfl, rfl⟩
theorem r_X11_restore_6 : RW M_X11_restore 6 (.getfield 191) 3 11 55 9 := ⟨rfl, rfl⟩
theorem r_X11_restore_9 : RW M_X11_restore 9 (.ifCond .ne 5) 3 14 0 12 := ⟨rfl, rfl⟩
theorem r_X11_restore_12 : RW M_X11_restore 12 (.iconst (-1)) 1 0 0 13 := ⟨rfl, rfl⟩
theorem r_X11_restore_13 : RW M_X11_restore 13 (.ireturn) 1 0 0 14 := ⟨rfl, rfl⟩
theorem r_X11_restore_14 : RW M_X11_restore 14 (.aload_n 0) 1 0 0 15 := ⟨rfl, rfl⟩
theorem r_X11_restore_15 : RW M_X11_restore 15 (.dup) 1 0 0 16 := ⟨rfl, rfl⟩
theorem r_X11_restore_16 : RW M_X11_restore 16 (.getfield 191) 3 11 55 19 := ⟨rfl, rfl⟩
theorem r_X11_restore_19 : RW M_X11_restore 19 (.iconst 1) 1 0 0 20 := ⟨rfl, rfl⟩
theorem r_X11_restore_20 : RW M_X11_restore 20 (.isub) 1 0 0 21 := ⟨rfl, rfl⟩
theorem r_X11_restore_21 : RW M_X11_restore 21 (.putfield 191) 3 11 55 24 := ⟨rfl, rfl⟩
theorem r_X11_restore_24 : RW M_X11_restore 24 (.aload_n 0) 1 0 0 25 := ⟨rfl, rfl⟩
theorem r_X11_restore_25 : RW M_X11_restore 25 (.aload_n 0) 1 0 0 26 := ⟨rfl, rfl⟩
theorem r_X11_restore_26 : RW M_X11_restore 26 (.getfield 191) 3 11 55 29 := ⟨rfl, rfl⟩
theorem r_X11_restore_29 : RW M_X11_restore 29 (.iconst 0) 1 0 0 30 := ⟨rfl, rfl⟩
theorem r_X11_restore_30 : RW M_X11_restore 30 (.invokevirtual 476) 3 286 0 33 := ⟨rfl, rfl⟩
theorem r_X11_restore_33 : RW M_X11_restore 33 (.aload_n 0) 1 0 0 34 := ⟨rfl, rfl⟩
theorem r_X11_restore_34 : RW M_X11_restore 34 (.iconst 0) 1 0 0 35 := ⟨rfl, rfl⟩
theorem r_X11_restore_35 : RW M_X11_restore 35 (.putfield 194) 3 11 38 38 := ⟨rfl, rfl⟩
theorem r_X11_restore_38 : RW M_X11_restore 38 (.aload_n 0) 1 0 0 39 := ⟨rfl, rfl⟩
theorem r_X11_restore_39 : RW M_X11_restore 39 (.getfield 191) 3 11 55 42 := ⟨rfl, rfl⟩
theorem r_X11_restore_42 : RW M_X11_restore 42 (.ireturn) 1 0 0 43 := ⟨rfl, rfl⟩
theorem r_X11_undo_0 : RW M_X11_undo 0 (.aload_n 0) 1 0 0 1 := ⟨rfl, rfl⟩
theorem r_X11_undo_1 : RW M_X11_undo 1 (.iconst 0) 1 0 0 2 := ⟨rfl, rfl⟩
theorem r_X11_undo_2 : RW M_X11_undo 2 (.putfield 3) 3 11 0 5 := ⟨rfl, rfl⟩
theorem r_X11_undo_5 : RW M_X11_undo 5 (.aload_n 0) 1 0 0 6 := ⟨rfl, rfl⟩
theorem r_X11_undo_6 : RW M_X11_undo 6 (.getfield 188) 3 11 37 9 := ⟨rfl, rfl⟩
theorem r_X11_undo_9 : RW M_X11_undo 9 (.ifCond .ne 5) 3 14 0 12 := ⟨rfl, rfl⟩
theorem r_X11_undo_12 : RW M_X11_undo 12 (.iconst (-1)) 1 0 0 13 := ⟨rfl, rfl⟩
theorem r_X11_undo_13 : RW M_X11_undo 13 (.ireturn) 1 0 0 14 := ⟨rfl, rfl⟩
theorem r_X11_undo_14 : RW M_X11_undo 14 (.aload_n 0) 1 0 0 15 := ⟨rfl, rfl⟩
theorem r_X11_undo_15 : RW M_X11_undo 15 (.dup) 1 0 0 16 := ⟨rfl, rfl⟩
theorem r_X11_undo_16 : RW M_X11_undo 16 (.getfield 188) 3 11 37 19 := ⟨rfl, rfl⟩
theorem r_X11_undo_19 : RW M_X11_undo 19 (.iconst 1) 1 0 0 20 := ⟨rfl, rfl⟩
theorem r_X11_undo_20 : RW M_X11_undo 20 (.isub) 1 0 0 21 := ⟨rfl, rfl⟩
theorem r_X11_undo_21 : RW M_X11_undo 21 (.putfield 188) 3 11 37 24 := ⟨rfl, rfl⟩
theorem r_X11_undo_24 : RW M_X11_undo 24 (.iconst 0) 1 0 0 25 := ⟨rfl, rfl⟩
theorem r_X11_undo_25 : RW M_X11_undo 25 (.istore_n 1) 1 0 0 26 := ⟨rfl, rfl⟩
theorem r_X11_undo_26 : RW M_X11_undo 26 (.iload_n 1) 1 0 0 27 := ⟨rfl, rfl⟩
theorem r_X11_undo_27 : RW M_X11_undo 27 (.bipush 31) 2 0 0 29 := ⟨rfl, rfl⟩
theorem r_X11_undo_29 : RW M_X11_undo 29 (.if_icmp .ge 29) 3 58 0 32 := ⟨rfl, rfl⟩
theorem r_X11_undo_32 : RW M_X11_undo 32 (.aload_n 0) 1 0 0 33 := ⟨rfl, rfl⟩
theorem r_X11_undo_33 : RW M_X11_undo 33 (.getfield 71) 3 11 42 36 := ⟨rfl, rfl⟩
theorem r_X11_undo_36 : RW M_X11_undo 36 (.iload_n 1) 1 0 0 37 := ⟨rfl, rfl⟩
theorem r_X11_undo_37 : RW M_X11_undo 37 (.aload_n 0) 1 0 0 38 := ⟨rfl, rfl⟩
theorem r_X11_undo_38 : RW M_X11_undo 38 (.getfield 77) 3 11 44 41 := ⟨rfl, rfl⟩
theorem r_X11_undo_41 : RW M_X11_undo 41 (.bipush 31) 2 0 0 43 := ⟨rfl, rfl⟩
theorem r_X11_undo_43 : RW M_X11_undo 43 (.aload_n 0) 1 0 0 44 := ⟨rfl, rfl⟩
theorem r_X11_undo_44 : RW M_X11_undo 44 (.getfield 188) 3 11 37 47 := ⟨rfl, rfl⟩
theorem r_X11_undo_47 : RW M_X11_undo 47 (.imul) 1 0 0 48 := ⟨rfl, rfl⟩
theorem r_X11_undo_48 : RW M_X11_undo 48 (.iload_n 1) 1 0 0 49 := ⟨rfl, rfl⟩
theorem r_X11_undo_49 : RW M_X11_undo 49 (.iadd) 1 0 0 50 := ⟨rfl, rfl⟩
theorem r_X11_undo_50 : RW M_X11_undo 50 (.iaload) 1 0 0 51 := ⟨rfl, rfl⟩
theorem r_X11_undo_51 : RW M_X11_undo 51 (.iastore) 1 0 0 52 := ⟨rfl, rfl⟩
theorem r_X11_undo_52 : RW M_X11_undo 52 (.iinc 1 1) 3 0 0 55 := ⟨rfl, rfl⟩
theorem r_X11_undo_55 : RW M_X11_undo 55 (.goto (-29)) 3 26 0 58 := ⟨rfl, rfl⟩
theorem r_X11_undo_58 : RW M_X11_undo 58 (.aload_n 0) 1 0 0 59 := ⟨rfl, rfl⟩
theorem r_X11_undo_59 : RW M_X11_undo 59 (.iconst 0) 1 0 0 60 := ⟨rfl, rfl⟩
theorem r_X11_undo_60 : RW M_X11_undo 60 (.putfield 194) 3 11 38 63 := ⟨rfl, rfl⟩
theorem r_X11_undo_63 : RW M_X11_undo 63 (.aload_n 0) 1 0 0 64 := ⟨rfl, rfl⟩
theorem r_X11_undo_64 : RW M_X11_undo 64 (.getfield 188) 3 11 37 67 := ⟨rfl, rfl⟩
theorem r_X11_undo_67 : RW M_X11_undo 67 (.ireturn) 1 0 0 68 := ⟨rfl, rfl⟩
theorem r_X4_bringImage_0 : RW M_X4_bringImage 0 (.aload_n 0) 1 0 0 1 := ⟨rfl, rfl⟩
theorem r_X4_bringImage_1 : RW M_X4_bringImage 1 (.dup) 1 0 0 2 := ⟨rfl, rfl⟩
theorem r_X4_bringImage_2 : RW M_X4_bringImage 2 (.getfield 32) 3 4 4 5 := ⟨rfl, rfl⟩
theorem r_X4_bringImage_5 : RW M_X4_bringImage 5 (.iconst 1) 1 0 0 6 := ⟨rfl, rfl⟩
theorem r_X4_bringImage_6 : RW M_X4_bringImage 6 (.isub) 1 0 0 7 := ⟨rfl, rfl⟩
theorem r_X4_bringImage_7 : RW M_X4_bringImage 7 (.putfield 32) 3 4 4 10 := ⟨rfl, rfl⟩
theorem r_X4_bringImage_10 : RW M_X4_bringImage 10 (.aload_n 0) 1 0 0 11 := ⟨rfl, rfl⟩
theorem r_X4_bringImage_11 : RW M_X4_bringImage 11 (.aload_n 0) 1 0 0 12 := ⟨rfl, rfl⟩
theorem r_X4_bringImage_12 : RW M_X4_bringImage 12 (.getfield 25) 3 4 2 15 := ⟨rfl, rfl⟩
theorem r_X4_bringImage_15 : RW M_X4_bringImage 15 (.aload_n 0) 1 0 0 16 := ⟨rfl, rfl⟩
theorem r_X4_bringImage_16 : RW M_X4_bringImage 16 (.getfield 32) 3 4 4 19 := ⟨rfl, rfl⟩
theorem r_X4_bringImage_19 : RW M_X4_bringImage 19 (.invokevirtual 50) 3 92 0 22 := ⟨rfl, rfl⟩
theorem r_X4_bringImage_22 : RW M_X4_bringImage 22 (.putfield 28) 3 4 3 25 := ⟨rfl, rfl⟩
theorem r_X4_bringImage_25 : RW M_X4_bringImage 25 (.aload_n 0) 1 0 0 26 := ⟨rfl, rfl⟩
theorem r_X4_bringImage_26 : RW M_X4_bringImage 26 (.getfield 18) 3 4 0 29 := ⟨rfl, rfl⟩
theorem r_X4_bringImage_29 : RW M_X4_bringImage 29 (.iconst 0) 1 0 0 30 := ⟨rfl, rfl⟩
theorem r_X4_bringImage_30 : RW M_X4_bringImage 30 (.aload_n 0) 1 0 0 31 := ⟨rfl, rfl⟩
theorem r_X4_bringImage_31 : RW M_X4_bringImage 31 (.getfield 22) 3 4 1 34 := ⟨rfl, rfl⟩
theorem r_X4_bringImage_34 : RW M_X4_bringImage 34 (.aload_n 0) 1 0 0 35 := ⟨rfl, rfl⟩
theorem r_X4_bringImage_35 : RW M_X4_bringImage 35 (.getfield 32) 3 4 4 38 := ⟨rfl, rfl⟩
theorem r_X4_bringImage_38 : RW M_X4_bringImage 38 (.sipush 391) 3 0 0 41 := ⟨rfl, rfl⟩
theorem r_X4_bringImage_41 : RW M_X4_bringImage 41 (.imul) 1 0 0 42 := ⟨rfl, rfl⟩
theorem r_X4_bringImage_42 : RW M_X4_bringImage 42 (.sipush 391) 3 0 0 45 := ⟨rfl, rfl⟩
theorem r_X4_bringImage_45 : RW M_X4_bringImage 45 (.invokevirtual 42) 3 94 0 48 := ⟨rfl, rfl⟩
theorem r_X4_bringImage_48 : RW M_X4_bringImage 48 (.aload_n 1) 1 0 0 49 := ⟨rfl, rfl⟩
theorem r_X4_bringImage_49 : RW M_X4_bringImage 49 (.aload_n 0) 1 0 0 50 := ⟨rfl, rfl⟩
theorem r_X4_bringImage_50 : RW M_X4_bringImage 50 (.getfield 18) 3 4 0 53 := ⟨rfl, rfl⟩
theorem r_X4_bringImage_53 : RW M_X4_bringImage 53 (.aload_n 0) 1 0 0 54 := ⟨rfl, rfl⟩
theorem r_X4_bringImage_54 : RW M_X4_bringImage 54 (.getfield 28) 3 4 3 57 := ⟨rfl, rfl⟩
theorem r_X4_bringImage_57 : RW M_X4_bringImage 57 (.bipush 23) 2 0 0 59 := ⟨rfl, rfl⟩
theorem r_X4_bringImage_59 : RW M_X4_bringImage 59 (.imul) 1 0 0 60 := ⟨rfl, rfl⟩
theorem r_X4_bringImage_60 : RW M_X4_bringImage 60 (.invokevirtual 39) 3 27 0 63 := ⟨rfl, rfl⟩
theorem r_X4_bringImage_63 : RW M_X4_bringImage 63 (.return_) 1 0 0 64 := ⟨rfl, rfl⟩
theorem r_X4_takeImage_0 : RW M_X4_takeImage 0 (.aload_n 1) 1 0 0 1 := ⟨rfl, rfl⟩
theorem r_X4_takeImage_1 : RW M_X4_takeImage 1 (.aload_n 0) 1 0 0 2 := ⟨rfl, rfl⟩
theorem r_X4_takeImage_2 : RW M_X4_takeImage 2 (.getfield 18) 3 4 0 5 := ⟨rfl, rfl⟩
theorem r_X4_takeImage_5 : RW M_X4_takeImage 5 (.aload_n 0) 1 0 0 6 := ⟨rfl, rfl⟩
theorem r_X4_takeImage_6 : RW M_X4_takeImage 6 (.getfield 28) 3 4 3 9 := ⟨rfl, rfl⟩
theorem r_X4_takeImage_9 : RW M_X4_takeImage 9 (.bipush 23) 2 0 0 11 := ⟨rfl, rfl⟩
theorem r_X4_takeImage_11 : RW M_X4_takeImage 11 (.imul) 1 0 0 12 := ⟨rfl, rfl⟩
theorem r_X4_takeImage_12 : RW M_X4_takeImage 12 (.invokevirtual 35) 3 26 0 15 := ⟨rfl, rfl⟩
theorem r_X4_takeImage_15 : RW M_X4_takeImage 15 (.aload_n 0) 1 0 0 16 := ⟨rfl, rfl⟩
theorem r_X4_takeImage_16 : RW M_X4_takeImage 16 (.getfield 22) 3 4 1 19 := ⟨rfl, rfl⟩
theorem r_X4_takeImage_19 : RW M_X4_takeImage 19 (.aload_n 0) 1 0 0 20 := ⟨rfl, rfl⟩
theorem r_X4_takeImage_20 : RW M_X4_takeImage 20 (.getfield 32) 3 4 4 23 := ⟨rfl, rfl⟩
theorem r_X4_takeImage_23 : RW M_X4_takeImage 23 (.sipush 391) 3 0 0 26 := ⟨rfl, rfl⟩
theorem r_X4_takeImage_26 : RW M_X4_takeImage 26 (.imul) 1 0 0 27 := ⟨rfl, rfl⟩
theorem r_X4_takeImage_27 : RW M_X4_takeImage 27 (.aload_n 0) 1 0 0 28 := ⟨rfl, rfl⟩
theorem r_X4_takeImage_28 : RW M_X4_takeImage 28 (.getfield 18) 3 4 0 31 := ⟨rfl, rfl⟩
theorem r_X4_takeImage_31 : RW M_X4_takeImage 31 (.iconst 0) 1 0 0 32 := ⟨rfl, rfl⟩
theorem r_X4_takeImage_32 : RW M_X4_takeImage 32 (.sipush 391) 3 0 0 35 := ⟨rfl, rfl⟩
theorem r_X4_takeImage_35 : RW M_X4_takeImage 35 (.invokevirtual 42) 3 94 0 38 := ⟨rfl, rfl⟩
theorem r_X4_takeImage_38 : RW M_X4_takeImage 38 (.aload_n 0) 1 0 0 39 := ⟨rfl, rfl⟩
theorem r_X4_takeImage_39 : RW M_X4_takeImage 39 (.getfield 25) 3 4 2 42 := ⟨rfl, rfl⟩
theorem r_X4_takeImage_42 : RW M_X4_takeImage 42 (.aload_n 0) 1 0 0 43 := ⟨rfl, rfl⟩
theorem r_X4_takeImage_43 : RW M_X4_takeImage 43 (.getfield 32) 3 4 4 46 := ⟨rfl, rfl⟩
theorem r_X4_takeImage_46 : RW M_X4_takeImage 46 (.aload_n 0) 1 0 0 47 := ⟨rfl, rfl⟩
theorem r_X4_takeImage_47 : RW M_X4_takeImage 47 (.getfield 28) 3 4 3 50 := ⟨rfl, rfl⟩
theorem r_X4_takeImage_50 : RW M_X4_takeImage 50 (.invokevirtual 46) 3 93 0 53 := ⟨rfl, rfl⟩
theorem r_X4_takeImage_53 : RW M_X4_takeImage 53 (.aload_n 0) 1 0 0 54 := ⟨rfl, rfl⟩
theorem r_X4_takeImage_54 : RW M_X4_takeImage 54 (.dup) 1 0 0 55 := ⟨rfl, rfl⟩
theorem r_X4_takeImage_55 : RW M_X4_takeImage 55 (.getfield 32) 3 4 4 58 := ⟨rfl, rfl⟩
theorem r_X4_takeImage_58 : RW M_X4_takeImage 58 (.iconst 1) 1 0 0 59 := ⟨rfl, rfl⟩
theorem r_X4_takeImage_59 : RW M_X4_takeImage 59 (.iadd) 1 0 0 60 := ⟨rfl, rfl⟩
theorem r_X4_takeImage_60 : RW M_X4_takeImage 60 (.putfield 32) 3 4 4 63 := ⟨rfl, rfl⟩
theorem r_X4_takeImage_63 : RW M_X4_takeImage 63 (.return_) 1 0 0 64 := ⟨rfl, rfl⟩
theorem c_takeI {d : Nat} {I : Nat → Nat → Int32} {J : Nat → Nat → Int64} {S : STT} (sb : SB S) (ci : CIn S I) (hi : S.im < 3)  (hd : 9 ≤ d) : RU d 63 [.ref 82, .ref 71] I J (fun I' => I' 82 4 = nI (S.im + 1) ∧ I' 88 S.im = nI S.w ∧ (∀ j, j < 391 → I' 86 (391 * S.im + j) = I' 84 j) ∧ CS 84 (23 * S.w) S.η I' ∧ (∀ k, (k < 23 * S.w ∨ 23 * S.w + 23 ≤ k) → I' 84 k = I 84 k) ∧ (∀ x, x ≠ 82 → x ≠ 84 → x ≠ 86 → x ≠ 88 → I' x = I x) ∧ (∀ j, j ≠ 4 → I' 82 j = I 82 j) ∧ (∀ k, k < 391 * S.im → I' 86 k = I 86 k) ∧ ∀ i, i ≠ S.im → I' 88 i = I 88 i) := by
  refine RU.in (d0 := 8) hd mt_63 (Nat.le_of_ble_eq_true rfl) (fun d' hd' => ?_)
  have w16 := sb.w
  show EV none M_X4_takeImage d' 0 [(0, .ref 82), (1, .ref 71)] [] (hp I J) _
  refine EV.l (lv' := [(0, _), (1, _)]) r_X4_takeImage_0 rfl ?_
  refine EV.l (lv' := [(0, _), (1, _)]) r_X4_takeImage_1 rfl ?_
  refine EV.gR r_X4_takeImage_2 la_82 ?_
  refine EV.l (lv' := [(0, _), (1, _)]) r_X4_takeImage_5 rfl ?_
  refine EV.getV r_X4_takeImage_6 la_82 (ci.w) ?_
  refine EV.o r_X4_takeImage_9 (bpN (23) 23) ?_
  refine EV.o r_X4_takeImage_11 (imulC) ?_
  refine EV.cu r_X4_takeImage_12 (aV2 mt_26 la_71) (c_save ci.hh (by omega) (by omega)) (fun I2 h2 => ?_)
  obtain ⟨h2a, h2b, h2c⟩ := h2
  refine EV.l (lv' := [(0, _), (1, _)]) r_X4_takeImage_15 rfl ?_
  refine EV.gR r_X4_takeImage_16 la_82 ?_
  refine EV.l (lv' := [(0, _), (1, _)]) r_X4_takeImage_19 rfl ?_
  refine EV.getV r_X4_takeImage_20 la_82 ((congrFun (h2b 82 (by decide)) 4).trans ci.im) ?_
  refine EV.o r_X4_takeImage_23 (spN (391) 391) ?_
  refine EV.o r_X4_takeImage_26 (imulC) ?_
  refine EV.l (lv' := [(0, _), (1, _)]) r_X4_takeImage_27 rfl ?_
  refine EV.gR r_X4_takeImage_28 la_82 ?_
  refine EV.o r_X4_takeImage_31 (icN (0) (v := 0)) ?_
  refine EV.o r_X4_takeImage_32 (spN (391) 391) ?_
  refine EV.cu r_X4_takeImage_35 (aV4 mt_94 la_85) (c_copy la_85 la_86 (by decide) (by decide) la_83 la_84 (by decide) (by decide) (by decide) (by omega) (by omega) (by omega)) (fun I3 e3 => ?_)
  have g3 : ∀ x, x ≠ 86 → I3 x = I2 x := fun x hx => by rw [e3]; exact cpy_row hx
  refine EV.l (lv' := [(0, _), (1, _)]) r_X4_takeImage_38 rfl ?_
  refine EV.gR r_X4_takeImage_39 la_82 ?_
  refine EV.l (lv' := [(0, _), (1, _)]) r_X4_takeImage_42 rfl ?_
  refine EV.getV r_X4_takeImage_43 la_82 ((congrFun (g3 82 (by decide)) 4).trans ((congrFun (h2b 82 (by decide)) 4).trans ci.im)) ?_
  refine EV.l (lv' := [(0, _), (1, _)]) r_X4_takeImage_46 rfl ?_
  refine EV.getV r_X4_takeImage_47 la_82 ((congrFun (g3 82 (by decide)) 3).trans ((congrFun (h2b 82 (by decide)) 3).trans ci.w)) ?_
  refine EV.cu r_X4_takeImage_50 (aV2 mt_93 la_87) (c_set la_87 la_88 (by decide) (by decide) (by omega) (by omega)) (fun I4 e4 => ?_)
  have g4 : ∀ x, x ≠ 88 → I4 x = I3 x := fun x hx => by rw [e4]; exact wr_row hx
  refine EV.l (lv' := [(0, _), (1, _)]) r_X4_takeImage_53 rfl ?_
  refine EV.o r_X4_takeImage_54 rfl ?_
  refine EV.getV r_X4_takeImage_55 la_82 ((congrFun (g4 82 (by decide)) 4).trans ((congrFun (g3 82 (by decide)) 4).trans ((congrFun (h2b 82 (by decide)) 4).trans ci.im))) ?_
  refine EV.o r_X4_takeImage_58 (icN (1) (v := 1)) ?_
  refine EV.o r_X4_takeImage_59 iaddN ?_
  refine EV.pIn r_X4_takeImage_60 la_82 (fun I5 e5 => ?_)
  have g5 : ∀ x, x ≠ 82 → I5 x = I4 x := fun x hx => by rw [e5]; exact wr_row hx
  exact EV.ru r_X4_takeImage_63 (⟨by rw [e5]; exact wr_same, by rw [g5 88 (by decide), e4]; exact wr_same, fun j hj => by rw [g5 86 (by decide), g4 86 (by decide), g5 84 (by decide), g4 84 (by decide), g3 84 (by decide), e3, cpy_at hj, Nat.zero_add], h2a.ext (fun j hj => by rw [g5 84 (by decide), g4 84 (by decide), g3 84 (by decide)]), fun k hk => by rw [g5 84 (by decide), g4 84 (by decide), g3 84 (by decide)]; exact h2c k hk, fun x a1 a2 a3 a4 => by rw [g5 x a1, g4 x a4, g3 x a3]; exact h2b x a2, fun j hj => by rw [e5, wr_ne (Or.inr hj), g4 82 (by decide), g3 82 (by decide), h2b 82 (by decide)], fun k hk => by rw [g5 86 (by decide), g4 86 (by decide), e3, cpy_out (Or.inl hk), h2b 86 (by decide)], fun i hi2 => by rw [g5 88 (by decide), e4, wr_ne (Or.inr hi2), g3 88 (by decide), h2b 88 (by decide)]⟩)
theorem c_image {d : Nat} {I : Nat → Nat → Int32} {J : Nat → Nat → Int64} {S : STT} (sb : SB S) (ci : CIn S I) (hi : S.im < 3)  (hd : 11 ≤ d) : RI d 152 [.ref 0] I J (fun v I' => v = nI (S.im + 1) ∧ CIn (imgS S) I' ∧ LOf I I') := by
  refine RI.in (d0 := 10) hd mt_152 (Nat.le_of_ble_eq_true rfl) (fun d' hd' => ?_)
  have w16 := sb.w
  show EV none M_X10_image d' 0 [(0, .ref 0)] [] (hp I J) _
  refine EV.l (lv' := [(0, _)]) r_X10_image_0 rfl ?_
  refine EV.gR r_X10_image_1 la_0 ?_
  refine EV.getV r_X10_image_4 la_82 (ci.im) ?_
  refine EV.o r_X10_image_7 (icN (3) (v := 3)) ?_
  refine EV.n2_lt r_X10_image_8 (fun h8 => ?_) (fun h8 => ?_)
  · -- 8 t
    refine EV.l (lv' := [(0, _)]) r_X10_image_13 rfl ?_
    refine EV.gR r_X10_image_14 la_0 ?_
    refine EV.l (lv' := [(0, _)]) r_X10_image_17 rfl ?_
    refine EV.gR r_X10_image_18 la_0 ?_
    refine EV.cu r_X10_image_21 (aV1 mt_63 la_82) (c_takeI sb ci hi (by omega)) (fun I4 h4 => ?_)
    obtain ⟨t1, t2, t3, t4, t5, t6, t7, t8, t9⟩ := h4
    refine EV.l (lv' := [(0, _)]) r_X10_image_24 rfl ?_
    refine EV.gR r_X10_image_25 la_0 ?_
    refine EV.getV r_X10_image_28 la_82 (t1) ?_
    exact EV.ri r_X10_image_31 (⟨rfl, ci.bk rfl rfl rfl rfl rfl rfl rfl rfl rfl (ci.hh.fr (fun x a1 a2 => t6 x (by omega) (by omega) (by omega) (by omega))) (fun x a1 a2 a3 a4 a5 a6 => t6 x a3 a4 (by omega) (by omega)) (fun j hj => by rw [t6 0 (by decide) (by decide) (by decide) (by decide)]) (by rw [t6 0 (by decide) (by decide) (by decide) (by decide)]; exact ci.rf) (by rw [t7 3 (by decide)]; exact ci.w) t1 (fun k hk => (ci.ps k hk).ext (fun j hj => t5 _ (Or.inl (by have hk : k < S.w := hk; omega)))) (fun i hi2 => img_iw t2 t9 ci.iw i hi2) (fun i k hi2 hk => img_ip sb.w t3 t4 t5 t8 ci.ps ci.ip i k hi2 hk sb.iw), fun o ho => t6 o (by omega) (by omega) (by omega) (by omega)⟩)
  · omega
theorem c_image0 {d : Nat} {I : Nat → Nat → Int32} {J : Nat → Nat → Int64} (h : I 82 4 = nI 3)  (hd : 11 ≤ d) : RV d 152 [.ref 0] I J (zI (-1)) := by
  refine RV.in (d0 := 10) hd mt_152 (Nat.le_of_ble_eq_true rfl) (fun d' hd' => ?_)
  show EV none M_X10_image d' 0 [(0, .ref 0)] [] (hp I J) _
  refine EV.l (lv' := [(0, _)]) r_X10_image_0 rfl ?_
  refine EV.gR r_X10_image_1 la_0 ?_
  refine EV.getV r_X10_image_4 la_82 (h) ?_
  refine EV.o r_X10_image_7 (icN (3) (v := 3)) ?_
  refine EV.n2_lt r_X10_image_8 (fun h8 => ?_) (fun h8 => ?_)
  · omega
  · -- 8 f
    refine EV.o r_X10_image_11 (icZ (-1)) ?_
    exact EV.rv r_X10_image_12 (rfl)
theorem c_bring {d : Nat} {I : Nat → Nat → Int32} {J : Nat → Nat → Int64} {S : STT} (sb : SB S) (ci : CIn S I) (hi : 0 < S.im)  (hd : 9 ≤ d) : RU d 64 [.ref 82, .ref 71] I J (fun I' => HH 71 (bck S.κ S.l (S.ip (S.im - 1) (S.iw (S.im - 1))) S.η.wk) I' ∧ I' 82 3 = nI (S.iw (S.im - 1)) ∧ I' 82 4 = nI (S.im - 1) ∧ (∀ j, j < 391 → I' 84 j = I 86 (391 * (S.im - 1) + j)) ∧ ∀ x, x ≠ 50 → x ≠ 52 → x ≠ 82 → x ≠ 84 → (x < 71 ∨ 81 < x) → I' x = I x) := by
  refine RU.in (d0 := 8) hd mt_64 (Nat.le_of_ble_eq_true rfl) (fun d' hd' => ?_)
  have i3 := sb.im
  have w16 := sb.iw (S.im - 1) (by omega)
  show EV none M_X4_bringImage d' 0 [(0, .ref 82), (1, .ref 71)] [] (hp I J) _
  refine EV.l (lv' := [(0, _), (1, _)]) r_X4_bringImage_0 rfl ?_
  refine EV.o r_X4_bringImage_1 rfl ?_
  refine EV.getV r_X4_bringImage_2 la_82 (ci.im) ?_
  refine EV.o r_X4_bringImage_5 (icN (1) (v := 1)) ?_
  refine EV.o r_X4_bringImage_6 (isubN) ?_
  refine EV.pIn r_X4_bringImage_7 la_82 (fun I3 e3 => ?_)
  refine EV.l (lv' := [(0, _), (1, _)]) r_X4_bringImage_10 rfl ?_
  refine EV.l (lv' := [(0, _), (1, _)]) r_X4_bringImage_11 rfl ?_
  refine EV.gR r_X4_bringImage_12 la_82 ?_
  refine EV.l (lv' := [(0, _), (1, _)]) r_X4_bringImage_15 rfl ?_
  refine EV.getV r_X4_bringImage_16 la_82 ((show I3 82 4 = nI (S.im - 1) from by rw [e3]; exact wr_same)) ?_
  refine EV.cv r_X4_bringImage_19 (aV1 mt_92 la_87) (c_getN (by omega) la_87 la_88 ((show I3 88 (S.im - 1) = I 88 (S.im - 1) from by rw [e3]; exact wr_ne (Or.inl (by decide))).trans (ci.iw (S.im - 1) (by omega))) (by decide) (by decide) (by omega)) ?_
  refine EV.pIn r_X4_bringImage_22 la_82 (fun I4 e4 => ?_)
  refine EV.l (lv' := [(0, _), (1, _)]) r_X4_bringImage_25 rfl ?_
  refine EV.gR r_X4_bringImage_26 la_82 ?_
  refine EV.o r_X4_bringImage_29 (icN (0) (v := 0)) ?_
  refine EV.l (lv' := [(0, _), (1, _)]) r_X4_bringImage_30 rfl ?_
  refine EV.gR r_X4_bringImage_31 la_82 ?_
  refine EV.l (lv' := [(0, _), (1, _)]) r_X4_bringImage_34 rfl ?_
  refine EV.getV r_X4_bringImage_35 la_82 ((show I4 82 4 = nI (S.im - 1) from by rw [e4, wr_ne (Or.inr (by decide)), e3]; exact wr_same)) ?_
  refine EV.o r_X4_bringImage_38 (spN (391) 391) ?_
  refine EV.o r_X4_bringImage_41 (imulC) ?_
  refine EV.o r_X4_bringImage_42 (spN (391) 391) ?_
  refine EV.cu r_X4_bringImage_45 (aV4 mt_94 la_83) (c_copy la_83 la_84 (by decide) (by decide) la_85 la_86 (by decide) (by decide) (by decide) (by omega) (by omega) (by omega)) (fun I5 e5 => ?_)
  have g5 : ∀ x, x ≠ 84 → I5 x = I4 x := fun x hx => by rw [e5]; exact cpy_row hx
  have c5 : ∀ j, j < 391 → I5 84 j = I 86 (391 * (S.im - 1) + j) := fun j hj => by rw [e5, cpy_at0 hj, e4, wr_row (by decide), e3, wr_row (by decide)]
  have z5 : ∀ x, x ≠ 82 → x ≠ 84 → I5 x = I x := fun x a1 a2 => by rw [g5 x a2, e4, wr_row a1, e3, wr_row a1]
  refine EV.l (lv' := [(0, _), (1, _)]) r_X4_bringImage_48 rfl ?_
  refine EV.l (lv' := [(0, _), (1, _)]) r_X4_bringImage_49 rfl ?_
  refine EV.gR r_X4_bringImage_50 la_82 ?_
  refine EV.l (lv' := [(0, _), (1, _)]) r_X4_bringImage_53 rfl ?_
  refine EV.getV r_X4_bringImage_54 la_82 ((show I5 82 3 = nI (S.iw (S.im - 1)) from by rw [g5 82 (by decide), e4]; exact wr_same)) ?_
  refine EV.o r_X4_bringImage_57 (bpN (23) 23) ?_
  refine EV.o r_X4_bringImage_59 (imulC) ?_
  refine EV.cu r_X4_bringImage_60 (aV2 mt_27 la_71) (c_load (ci.hc.fr (fun x a1 a2 => z5 x (by omega) (by omega))) sb.cb (ci.hh.fr (fun x a1 a2 => z5 x (by omega) (by omega))) sb.hb (sb.ip (S.im - 1) (S.iw (S.im - 1)) (by omega) (Nat.le_refl _)) (ci.hl.fr (z5 46 (by decide) (by decide)) (z5 48 (by decide) (by decide))) sb.lb (by omega) ((ci.ip (S.im - 1) (S.iw (S.im - 1)) (by omega) (Nat.le_refl _)).ext (fun j hj => by rw [c5 _ (by omega), Nat.add_assoc])) (by omega)) (fun I6 h6 => ?_)
  obtain ⟨h6a, h6b⟩ := h6
  exact EV.ru r_X4_bringImage_63 (⟨h6a, by rw [h6b 82 (by decide) (by decide) (by omega), g5 82 (by decide), e4]; exact wr_same, by rw [h6b 82 (by decide) (by decide) (by omega), g5 82 (by decide), e4, wr_ne (Or.inr (by decide)), e3]; exact wr_same, fun j hj => by rw [h6b 84 (by decide) (by decide) (by omega)]; exact c5 j hj, fun x a1 a2 a3 a4 a5 => (h6b x a1 a2 a5).trans (z5 x a3 a4)⟩)
theorem c_restore {d : Nat} {I : Nat → Nat → Int32} {J : Nat → Nat → Int64} {S : STT} (sb : SB S) (ci : CIn S I) (hi : 0 < S.im)  (hd : 11 ≤ d) : RI d 153 [.ref 0] I J (fun v I' => v = nI (S.im - 1) ∧ CIn (resS S) I' ∧ LOf I I') := by
  refine RI.in (d0 := 10) hd mt_153 (Nat.le_of_ble_eq_true rfl) (fun d' hd' => ?_)
  have i3 := sb.im
  have w16 := sb.iw (S.im - 1) (by omega)
  show EV none M_X10_restore d' 0 [(0, .ref 0)] [] (hp I J) _
  refine EV.l (lv' := [(0, _)]) r_X10_restore_0 rfl ?_
  refine EV.gR r_X10_restore_1 la_0 ?_
  refine EV.getV r_X10_restore_4 la_82 (ci.im) ?_
  refine EV.n0_ne r_X10_restore_7 (fun h7 => ?_) (fun h7 => ?_)
  · -- 7 t
    refine EV.l (lv' := [(0, _)]) r_X10_restore_12 rfl ?_
    refine EV.gR r_X10_restore_13 la_0 ?_
    refine EV.l (lv' := [(0, _)]) r_X10_restore_16 rfl ?_
    refine EV.gR r_X10_restore_17 la_0 ?_
    refine EV.cu r_X10_restore_20 (aV1 mt_64 la_82) (c_bring sb ci hi (by omega)) (fun I4 h4 => ?_)
    obtain ⟨t1, t2, t3, t4, t5⟩ := h4
    refine EV.l (lv' := [(0, _)]) r_X10_restore_23 rfl ?_
    refine EV.o r_X10_restore_24 (icN (0) (v := 0)) ?_
    refine EV.pIn r_X10_restore_25 la_0 (fun I5 e5 => ?_)
    refine EV.l (lv' := [(0, _)]) r_X10_restore_28 rfl ?_
    refine EV.gR r_X10_restore_29 la_0 ?_
    refine EV.getV r_X10_restore_32 la_82 ((show I5 82 4 = nI (S.im - 1) from by rw [e5, wr_row (by decide)]; exact t3)) ?_
    exact EV.ri r_X10_restore_35 (⟨rfl, ci.bk rfl rfl rfl rfl rfl rfl rfl rfl rfl (t1.fr (fun x a1 a2 => by rw [e5]; exact wr_row (by omega))) (fun x a1 a2 a3 a4 a5 a6 => by rw [e5, wr_row a5]; exact t5 x a1 a2 a3 a4 (by omega)) (fun j hj => by rw [e5, wr_ne (Or.inr hj), t5 0 (by decide) (by decide) (by decide) (by decide) (by omega)]) (by rw [e5]; exact wr_same) (by rw [e5, wr_row (by decide)]; exact t2) (by rw [e5, wr_row (by decide)]; exact t3) (fun k hk => (ci.ip (S.im - 1) k (by omega) (Nat.le_of_lt hk)).ext (fun j hj => by rw [e5, wr_row (by decide), t4 _ (by have hk : k < S.iw (S.im - 1) := hk; omega), Nat.add_assoc])) (fun i hi2 => by rw [e5, wr_row (by decide), t5 88 (by decide) (by decide) (by decide) (by decide) (by omega)]; exact ci.iw i (by have hi2 : i < S.im - 1 := hi2; omega)) (fun i k hi2 hk => (ci.ip i k (by have hi2 : i < S.im - 1 := hi2; omega) hk).ext (fun j hj => by rw [e5, wr_row (by decide), t5 86 (by decide) (by decide) (by decide) (by decide) (by omega)])), fun o ho => by rw [e5, wr_row (by omega)]; exact t5 o (by omega) (by omega) (by omega) (by omega) (by omega)⟩)
  · omega
theorem c_restore0 {d : Nat} {I : Nat → Nat → Int32} {J : Nat → Nat → Int64} (h : I 82 4 = nI 0)  (hd : 11 ≤ d) : RV d 153 [.ref 0] I J (zI (-1)) := by
  refine RV.in (d0 := 10) hd mt_153 (Nat.le_of_ble_eq_true rfl) (fun d' hd' => ?_)
  show EV none M_X10_restore d' 0 [(0, .ref 0)] [] (hp I J) _
  refine EV.l (lv' := [(0, _)]) r_X10_restore_0 rfl ?_
  refine EV.gR r_X10_restore_1 la_0 ?_
  refine EV.getV r_X10_restore_4 la_82 (h) ?_
  refine EV.n0_ne r_X10_restore_7 (fun h7 => ?_) (fun h7 => ?_)
  · omega
  · -- 7 f
    refine EV.o r_X10_restore_10 (icZ (-1)) ?_
    exact EV.rv r_X10_restore_11 (rfl)
theorem m_undo {d : Nat} {I : Nat → Nat → Int32} {J : Nat → Nat → Int64} {S : STT} (sb : SB S) (mi : MIn S I) (hw : 0 < S.w)  (hd : 4 ≤ d) : RI d 234 [.ref 106] I J (fun v I' => v = nI (S.w - 1) ∧ MIn (undS S) I' ∧ HIf I I' ∧ I' 106 0 = nI 0) := by
  refine RI.in (d0 := 3) hd mt_234 (Nat.le_of_ble_eq_true rfl) (fun d' hd' => ?_)
  have w16 := sb.w
  show EV none M_X11_undo d' 0 [(0, .ref 106)] [] (hp I J) _
  refine EV.l (lv' := [(0, _)]) r_X11_undo_0 rfl ?_
  refine EV.o r_X11_undo_1 (icN (0) (v := 0)) ?_
  refine EV.pIn r_X11_undo_2 la_106 (fun I2 e2 => ?_)
  refine EV.l (lv' := [(0, _)]) r_X11_undo_5 rfl ?_
  refine EV.getV r_X11_undo_6 la_106 ((show I2 106 37 = nI S.w from by rw [e2, wr_ne (Or.inr (by decide))]; exact mi.w)) ?_
  refine EV.n0_ne r_X11_undo_9 (fun h9 => ?_) (fun h9 => ?_)
  · -- 9 t
    refine EV.l (lv' := [(0, _)]) r_X11_undo_14 rfl ?_
    refine EV.o r_X11_undo_15 rfl ?_
    refine EV.getV r_X11_undo_16 la_106 ((show I2 106 37 = nI S.w from by rw [e2, wr_ne (Or.inr (by decide))]; exact mi.w)) ?_
    refine EV.o r_X11_undo_19 (icN (1) (v := 1)) ?_
    refine EV.o r_X11_undo_20 (isubN) ?_
    refine EV.pIn r_X11_undo_21 la_106 (fun I3 e3 => ?_)
    have w3 : I3 106 37 = nI (S.w - 1) := by rw [e3]; exact wr_same
    refine EV.o r_X11_undo_24 (icN (0) (v := 0)) ?_
    refine EV.l (lv' := [(0, _), (1, _)]) r_X11_undo_25 rfl ?_
    have L26 : ∀ y_ : Nat, (fun k => k ≤ 31 → EV none M_X11_undo d' 26 [(0, .ref 106), (1, .int (nI k))] [] (hp (cpy I3 125 0 127 (31 * (S.w - 1)) k) J) (QI J (fun v I' => v = nI (S.w - 1) ∧ MIn (undS S) I' ∧ HIf I I' ∧ I' 106 0 = nI 0))) y_ := by
      refine ev_loop (fun k => 31 - k) ?_
      intro k ih26 hx26
      try dsimp only at ih26
      try dsimp only at hx26
      try dsimp only
      refine EV.l (lv' := [(0, _), (1, _)]) r_X11_undo_26 rfl ?_
      refine EV.o r_X11_undo_27 (bpN (31) 31) ?_
      refine EV.n2_ge r_X11_undo_29 (fun h29 => ?_) (fun h29 => ?_)
      · -- 29 t
        obtain rfl : k = 31 := by omega
        refine EV.l (lv' := [(0, _), (1, _)]) r_X11_undo_58 rfl ?_
        refine EV.o r_X11_undo_59 (icN (0) (v := 0)) ?_
        refine EV.pIn r_X11_undo_60 la_106 (fun I5 e5 => ?_)
        refine EV.l (lv' := [(0, _), (1, _)]) r_X11_undo_63 rfl ?_
        refine EV.getV r_X11_undo_64 la_106 ((show I5 106 37 = nI (S.w - 1) from by rw [e5, wr_ne (Or.inr (by decide)), cpy_row (by decide)]; exact w3)) ?_
        have z3 : ∀ x, x ≠ 106 → I3 x = I x := fun x hx => by rw [e3, wr_row hx, e2, wr_row hx]
        have z5 : ∀ x, x ≠ 106 → x ≠ 125 → I5 x = I x := fun x a1 a2 => by rw [e5, wr_row a1, cpy_row a2]; exact z3 x a1
        exact EV.ri r_X11_undo_67 (⟨rfl, mi.bak rfl rfl rfl rfl rfl rfl rfl rfl rfl (fun x a1 a2 a3 a4 => z5 x a1 a2) (fun j a0 a1 a2 a3 => by rw [e5, wr_ne (Or.inr a2), cpy_row (by decide), e3, wr_ne (Or.inr a1), e2, wr_ne (Or.inr a0)]) (MR.bck ((mi.ps (S.w - 1) (by omega)).lod sb.cb (fun j hj => by rw [e5, wr_row (by decide), cpy_at0 hj, z3 127 (by decide)]))) (by rw [e5]; exact wr_same) (by rw [e5, wr_ne (Or.inr (by decide)), cpy_row (by decide)]; exact w3) (by rw [e5, wr_ne (Or.inr (by decide)), cpy_row (by decide), e3, wr_ne (Or.inr (by decide)), e2, wr_ne (Or.inr (by decide))]; exact mi.im) (fun k hk => (mi.ps k (by have hk : k < S.w - 1 := hk; omega)).ext sb.cb (fun j hj => by rw [z5 127 (by decide) (by decide)])) (fun i hi => by rw [z5 134 (by decide) (by decide)]; exact mi.iw i hi) (fun i hi => (mi.ic i hi).ext sb.cb (fun j hj => by rw [z5 134 (by decide) (by decide)])) (fun i k hi hk => (mi.ip i k hi hk).ext sb.cb (fun j hj => by rw [z5 134 (by decide) (by decide)])), fun o ho => z5 o (by omega) (by omega), by rw [e5, wr_ne (Or.inr (by decide)), cpy_row (by decide), e3, wr_ne (Or.inr (by decide)), e2]; exact wr_same⟩)
      · -- 29 f
        refine EV.l (lv' := [(0, _), (1, _)]) r_X11_undo_32 rfl ?_
        refine EV.gR r_X11_undo_33 la_106 ?_
        refine EV.l (lv' := [(0, _), (1, _)]) r_X11_undo_36 rfl ?_
        refine EV.l (lv' := [(0, _), (1, _)]) r_X11_undo_37 rfl ?_
        refine EV.gR r_X11_undo_38 la_106 ?_
        refine EV.o r_X11_undo_41 (bpN (31) 31) ?_
        refine EV.l (lv' := [(0, _), (1, _)]) r_X11_undo_43 rfl ?_
        refine EV.getV r_X11_undo_44 la_106 ((show cpy I3 125 0 127 (31 * (S.w - 1)) k 106 37 = nI (S.w - 1) from by rw [cpy_row (by decide)]; exact w3)) ?_
        refine EV.o r_X11_undo_47 imulN ?_
        refine EV.l (lv' := [(0, _), (1, _)]) r_X11_undo_48 rfl ?_
        refine EV.o r_X11_undo_49 iaddN ?_
        refine EV.iaN r_X11_undo_50 la_127 rfl ?_
        refine EV.iaSn r_X11_undo_51 la_125 (fun I9 e51 => ?_)
        refine EV.l (lv' := [(0, _), (1, _)]) r_X11_undo_52 rfl ?_
        rw [inc_nI]
        refine EV.g r_X11_undo_55 ?_
        refine EV.sub ?_ rfl ?_ (ih26 (k + 1) ?_ ?_)
        · rfl
        · rw [e51, cpy0f (by decide)]
        · omega
        · omega
    have h0 := L26 (0)
    try dsimp only at h0
    refine EV.sub ?_ rfl ?_ (h0 ?_)
    · rfl
    · rw [cpy_zero]
    · omega
  · omega
theorem m_undo0 {d : Nat} {I : Nat → Nat → Int32} {J : Nat → Nat → Int64} (h : I 106 37 = nI 0)  (hd : 4 ≤ d) : RI d 234 [.ref 106] I J (fun v I' => v = zI (-1) ∧ FR I I' ∧ I' 106 0 = nI 0) := by
  refine RI.in (d0 := 3) hd mt_234 (Nat.le_of_ble_eq_true rfl) (fun d' hd' => ?_)
  show EV none M_X11_undo d' 0 [(0, .ref 106)] [] (hp I J) _
  refine EV.l (lv' := [(0, _)]) r_X11_undo_0 rfl ?_
  refine EV.o r_X11_undo_1 (icN (0) (v := 0)) ?_
  refine EV.pI r_X11_undo_2 la_106 ?_
  refine EV.l (lv' := [(0, _)]) r_X11_undo_5 rfl ?_
  refine EV.getV r_X11_undo_6 la_106 ((wr_ne (Or.inr (by decide))).trans h) ?_
  refine EV.n0_ne r_X11_undo_9 (fun h9 => ?_) (fun h9 => ?_)
  · omega
  · -- 9 f
    refine EV.o r_X11_undo_12 (icZ (-1)) ?_
    exact EV.ri r_X11_undo_13 (⟨rfl, FM_0.fr, wr_same⟩)
theorem m_keepT {d : Nat} {I : Nat → Nat → Int32} {J : Nat → Nat → Int64} {r n : Nat} (hr : LAYO[r]? = some (.inl n)) (hn : n < 100000) (hs : r < spc) (h134 : r ≠ 134) {q m : Nat} (hm : m ≤ n) (hq : q + m ≤ 1584)  (hd : 2 ≤ d) : RI d 285 [.ref 106, .int (nI q), .ref r, .int (nI m), .int (nI 1)] I J (fun v I' => v = nI (q + m) ∧ I' = cpy I 134 q r 0 m) := by
  refine RI.in (d0 := 1) hd mt_285 (Nat.le_of_ble_eq_true rfl) (fun d' hd' => ?_)
  show EV none M_X11_keepsRow d' 0 [(0, .ref 106), (1, .int (nI q)), (2, .ref r), (3, .int (nI m)), (4, .int (nI 1))] [] (hp I J) _
  refine EV.o r_X11_keepsRow_0 (icN (0) (v := 0)) ?_
  refine EV.l (lv' := [(0, _), (1, _), (2, _), (3, _), (4, _), (5, _)]) r_X11_keepsRow_1 rfl ?_
  have L3 : ∀ y_ : Nat, (fun i => i ≤ m → EV none M_X11_keepsRow d' 3 [(0, .ref 106), (1, .int (nI q)), (2, .ref r), (3, .int (nI m)), (4, .int (nI 1)), (5, .int (nI i))] [] (hp (cpy I 134 q r 0 i) J) (QI J (fun v I' => v = nI (q + m) ∧ I' = cpy I 134 q r 0 m))) y_ := by
    refine ev_loop (fun i => m - i) ?_
    intro i ih3 hx3
    try dsimp only at ih3
    try dsimp only at hx3
    try dsimp only
    refine EV.l (lv' := [(0, _), (1, _), (2, _), (3, _), (4, _), (5, _)]) r_X11_keepsRow_3 rfl ?_
    refine EV.l (lv' := [(0, _), (1, _), (2, _), (3, _), (4, _), (5, _)]) r_X11_keepsRow_5 rfl ?_
    refine EV.n2_ge r_X11_keepsRow_6 (fun h6 => ?_) (fun h6 => ?_)
    · -- 6 t
      refine EV.l (lv' := [(0, _), (1, _), (2, _), (3, _), (4, _), (5, _)]) r_X11_keepsRow_49 rfl ?_
      refine EV.l (lv' := [(0, _), (1, _), (2, _), (3, _), (4, _), (5, _)]) r_X11_keepsRow_50 rfl ?_
      refine EV.o r_X11_keepsRow_51 iaddN ?_
      exact EV.ri r_X11_keepsRow_52 (⟨rfl, by rw [show m = i by omega]⟩)
    · -- 6 f
      refine EV.l (lv' := [(0, _), (1, _), (2, _), (3, _), (4, _), (5, _)]) r_X11_keepsRow_9 rfl ?_
      refine EV.n0_eq r_X11_keepsRow_11 (fun h11 => ?_) (fun h11 => ?_)
      · omega
      · -- 11 f
        refine EV.l (lv' := [(0, _), (1, _), (2, _), (3, _), (4, _), (5, _)]) r_X11_keepsRow_14 rfl ?_
        refine EV.gR r_X11_keepsRow_15 la_106 ?_
        refine EV.l (lv' := [(0, _), (1, _), (2, _), (3, _), (4, _), (5, _)]) r_X11_keepsRow_18 rfl ?_
        refine EV.l (lv' := [(0, _), (1, _), (2, _), (3, _), (4, _), (5, _)]) r_X11_keepsRow_19 rfl ?_
        refine EV.o r_X11_keepsRow_21 iaddN ?_
        refine EV.l (lv' := [(0, _), (1, _), (2, _), (3, _), (4, _), (5, _)]) r_X11_keepsRow_22 rfl ?_
        refine EV.l (lv' := [(0, _), (1, _), (2, _), (3, _), (4, _), (5, _)]) r_X11_keepsRow_23 rfl ?_
        refine EV.iaN r_X11_keepsRow_25 hr rfl ?_ (by omega) (by omega) (hs)
        refine EV.iaSn r_X11_keepsRow_26 la_134 (fun I2 e26 => ?_)
        refine EV.g r_X11_keepsRow_27 ?_
        refine EV.l (lv' := [(0, _), (1, _), (2, _), (3, _), (4, _), (5, _)]) r_X11_keepsRow_43 rfl ?_
        rw [inc_nI]
        refine EV.g r_X11_keepsRow_46 ?_
        refine EV.sub ?_ rfl ?_ (ih3 (i + 1) ?_ ?_)
        · rfl
        · rw [e26, cpy_sucz h134]
        · omega
        · omega
  have h0 := L3 (0)
  try dsimp only at h0
  refine EV.sub ?_ rfl ?_ (h0 ?_)
  · rfl
  · rw [cpy_zero]
  · omega
theorem m_keepF {d : Nat} {I : Nat → Nat → Int32} {J : Nat → Nat → Int64} {r n : Nat} (hr : LAYO[r]? = some (.inl n)) (hn : n < 100000) (hs : r < spc) (h134 : r ≠ 134) {q m : Nat} (hm : m ≤ n) (hq : q + m ≤ 1584)  (hd : 2 ≤ d) : RI d 285 [.ref 106, .int (nI q), .ref r, .int (nI m), .int (nI 0)] I J (fun v I' => v = nI (q + m) ∧ I' = cpy I r 0 134 q m) := by
  refine RI.in (d0 := 1) hd mt_285 (Nat.le_of_ble_eq_true rfl) (fun d' hd' => ?_)
  show EV none M_X11_keepsRow d' 0 [(0, .ref 106), (1, .int (nI q)), (2, .ref r), (3, .int (nI m)), (4, .int (nI 0))] [] (hp I J) _
  refine EV.o r_X11_keepsRow_0 (icN (0) (v := 0)) ?_
  refine EV.l (lv' := [(0, _), (1, _), (2, _), (3, _), (4, _), (5, _)]) r_X11_keepsRow_1 rfl ?_
  have L3 : ∀ y_ : Nat, (fun i => i ≤ m → EV none M_X11_keepsRow d' 3 [(0, .ref 106), (1, .int (nI q)), (2, .ref r), (3, .int (nI m)), (4, .int (nI 0)), (5, .int (nI i))] [] (hp (cpy I r 0 134 q i) J) (QI J (fun v I' => v = nI (q + m) ∧ I' = cpy I r 0 134 q m))) y_ := by
    refine ev_loop (fun i => m - i) ?_
    intro i ih3 hx3
    try dsimp only at ih3
    try dsimp only at hx3
    try dsimp only
    refine EV.l (lv' := [(0, _), (1, _), (2, _), (3, _), (4, _), (5, _)]) r_X11_keepsRow_3 rfl ?_
    refine EV.l (lv' := [(0, _), (1, _), (2, _), (3, _), (4, _), (5, _)]) r_X11_keepsRow_5 rfl ?_
    refine EV.n2_ge r_X11_keepsRow_6 (fun h6 => ?_) (fun h6 => ?_)
    · -- 6 t
      refine EV.l (lv' := [(0, _), (1, _), (2, _), (3, _), (4, _), (5, _)]) r_X11_keepsRow_49 rfl ?_
      refine EV.l (lv' := [(0, _), (1, _), (2, _), (3, _), (4, _), (5, _)]) r_X11_keepsRow_50 rfl ?_
      refine EV.o r_X11_keepsRow_51 iaddN ?_
      exact EV.ri r_X11_keepsRow_52 (⟨rfl, by rw [show m = i by omega]⟩)
    · -- 6 f
      refine EV.l (lv' := [(0, _), (1, _), (2, _), (3, _), (4, _), (5, _)]) r_X11_keepsRow_9 rfl ?_
      refine EV.n0_eq r_X11_keepsRow_11 (fun h11 => ?_) (fun h11 => ?_)
      · -- 11 t
        refine EV.l (lv' := [(0, _), (1, _), (2, _), (3, _), (4, _), (5, _)]) r_X11_keepsRow_30 rfl ?_
        refine EV.l (lv' := [(0, _), (1, _), (2, _), (3, _), (4, _), (5, _)]) r_X11_keepsRow_31 rfl ?_
        refine EV.l (lv' := [(0, _), (1, _), (2, _), (3, _), (4, _), (5, _)]) r_X11_keepsRow_33 rfl ?_
        refine EV.gR r_X11_keepsRow_34 la_106 ?_
        refine EV.l (lv' := [(0, _), (1, _), (2, _), (3, _), (4, _), (5, _)]) r_X11_keepsRow_37 rfl ?_
        refine EV.l (lv' := [(0, _), (1, _), (2, _), (3, _), (4, _), (5, _)]) r_X11_keepsRow_38 rfl ?_
        refine EV.o r_X11_keepsRow_40 iaddN ?_
        refine EV.iaN r_X11_keepsRow_41 la_134 rfl ?_
        refine EV.iaSn r_X11_keepsRow_42 hr (fun I2 e42 => ?_)
        refine EV.l (lv' := [(0, _), (1, _), (2, _), (3, _), (4, _), (5, _)]) r_X11_keepsRow_43 rfl ?_
        rw [inc_nI]
        refine EV.g r_X11_keepsRow_46 ?_
        refine EV.sub ?_ rfl ?_ (ih3 (i + 1) ?_ ?_)
        · rfl
        · rw [e42, cpy0f (Ne.symm h134)]
        · omega
        · omega
      · omega
  have h0 := L3 (0)
  try dsimp only at h0
  refine EV.sub ?_ rfl ?_ (h0 ?_)
  · rfl
  · rw [cpy_zero]
  · omega
theorem m_keepsT {d : Nat} {I : Nat → Nat → Int32} {J : Nat → Nat → Int64} {i w : Nat} (hi : i < 3) (hw : I 106 37 = nI w)  (hd : 3 ≤ d) : RU d 286 [.ref 106, .int (nI i), .int (nI 1)] I J (fun I' => (∀ j, j < 31 → I' 134 (528 * i + j) = I 125 j) ∧ (∀ j, j < 496 → I' 134 (528 * i + 31 + j) = I 127 j) ∧ I' 134 (528 * i + 527) = nI w ∧ (∀ k, (k < 528 * i ∨ 528 * i + 528 ≤ k) → I' 134 k = I 134 k) ∧ ∀ x, x ≠ 134 → I' x = I x) := by
  refine RU.in (d0 := 2) hd mt_286 (Nat.le_of_ble_eq_true rfl) (fun d' hd' => ?_)
  show EV none M_X11_keepsAll d' 0 [(0, .ref 106), (1, .int (nI i)), (2, .int (nI 1))] [] (hp I J) _
  refine EV.l (lv' := [(0, _), (1, _), (2, _)]) r_X11_keepsAll_0 rfl ?_
  refine EV.o r_X11_keepsAll_1 (spN (528) 528) ?_
  refine EV.l (lv' := [(0, _), (1, _), (2, _)]) r_X11_keepsAll_4 rfl ?_
  refine EV.o r_X11_keepsAll_5 imulN ?_
  refine EV.l (lv' := [(0, _), (1, _), (2, _)]) r_X11_keepsAll_6 rfl ?_
  refine EV.gR r_X11_keepsAll_7 la_106 ?_
  refine EV.o r_X11_keepsAll_10 (bpN (31) 31) ?_
  refine EV.l (lv' := [(0, _), (1, _), (2, _)]) r_X11_keepsAll_12 rfl ?_
  refine EV.ci r_X11_keepsAll_13 (aV4 mt_285 la_106) (m_keepT la_125 (by decide) (by decide) (by decide) (by decide) (by omega) (by omega)) (fun v1 K1 h1 => ?_)
  obtain ⟨e, eK1⟩ := h1
  subst e
  refine EV.l (lv' := [(0, _), (1, _), (2, _), (3, _)]) r_X11_keepsAll_16 rfl ?_
  refine EV.l (lv' := [(0, _), (1, _), (2, _), (3, _)]) r_X11_keepsAll_17 rfl ?_
  refine EV.l (lv' := [(0, _), (1, _), (2, _), (3, _)]) r_X11_keepsAll_18 rfl ?_
  refine EV.l (lv' := [(0, _), (1, _), (2, _), (3, _)]) r_X11_keepsAll_19 rfl ?_
  refine EV.gR r_X11_keepsAll_20 la_106 ?_
  refine EV.o r_X11_keepsAll_23 (spN (496) 496) ?_
  refine EV.l (lv' := [(0, _), (1, _), (2, _), (3, _)]) r_X11_keepsAll_26 rfl ?_
  refine EV.ci r_X11_keepsAll_27 (aV4 mt_285 la_106) (m_keepT la_127 (by decide) (by decide) (by decide) (by decide) (by omega) (by omega)) (fun v2 K2 h2 => ?_)
  obtain ⟨e, eK2⟩ := h2
  subst e
  have k7 : K2 106 37 = nI w := by rw [eK2, cpy_row (by decide), eK1, cpy_row (by decide)]; exact hw
  refine EV.l (lv' := [(0, _), (1, _), (2, _), (3, _)]) r_X11_keepsAll_30 rfl ?_
  refine EV.l (lv' := [(0, _), (1, _), (2, _), (3, _)]) r_X11_keepsAll_31 rfl ?_
  refine EV.n0_eq r_X11_keepsAll_32 (fun h32 => ?_) (fun h32 => ?_)
  · omega
  · -- 32 f
    refine EV.l (lv' := [(0, _), (1, _), (2, _), (3, _)]) r_X11_keepsAll_35 rfl ?_
    refine EV.gR r_X11_keepsAll_36 la_106 ?_
    refine EV.l (lv' := [(0, _), (1, _), (2, _), (3, _)]) r_X11_keepsAll_39 rfl ?_
    refine EV.l (lv' := [(0, _), (1, _), (2, _), (3, _)]) r_X11_keepsAll_40 rfl ?_
    refine EV.getV r_X11_keepsAll_41 la_106 (k7) ?_
    refine EV.iaSn r_X11_keepsAll_44 la_134 (fun K3 eK3 => ?_)
    refine EV.g r_X11_keepsAll_45 ?_
    exact EV.ru r_X11_keepsAll_58 (⟨fun j hj => by rw [eK3, wr_ne (Or.inr (by omega)), eK2, cpy_out (Or.inl (by omega)), eK1, cpy_at hj, Nat.zero_add], fun j hj => by rw [eK3, wr_ne (Or.inr (by omega)), eK2, cpy_at hj, Nat.zero_add, eK1, cpy_row (by decide)], by rw [eK3]; exact wr_at (by omega), fun k hk => by rw [eK3, wr_ne (Or.inr (by omega)), eK2, cpy_out (by omega), eK1, cpy_out (by omega)], fun x hx => by rw [eK3, wr_row hx, eK2, cpy_row hx, eK1, cpy_row hx]⟩)
theorem m_keepsF {d : Nat} {I : Nat → Nat → Int32} {J : Nat → Nat → Int64} {i w : Nat} (hi : i < 3) (hw : I 134 (528 * i + 527) = nI w)  (hd : 3 ≤ d) : RU d 286 [.ref 106, .int (nI i), .int (nI 0)] I J (fun I' => (∀ j, j < 31 → I' 125 j = I 134 (528 * i + j)) ∧ (∀ j, j < 496 → I' 127 j = I 134 (528 * i + 31 + j)) ∧ I' 106 37 = nI w ∧ (∀ j, j ≠ 37 → I' 106 j = I 106 j) ∧ ∀ x, x ≠ 106 → x ≠ 125 → x ≠ 127 → I' x = I x) := by
  refine RU.in (d0 := 2) hd mt_286 (Nat.le_of_ble_eq_true rfl) (fun d' hd' => ?_)
  show EV none M_X11_keepsAll d' 0 [(0, .ref 106), (1, .int (nI i)), (2, .int (nI 0))] [] (hp I J) _
  refine EV.l (lv' := [(0, _), (1, _), (2, _)]) r_X11_keepsAll_0 rfl ?_
  refine EV.o r_X11_keepsAll_1 (spN (528) 528) ?_
  refine EV.l (lv' := [(0, _), (1, _), (2, _)]) r_X11_keepsAll_4 rfl ?_
  refine EV.o r_X11_keepsAll_5 imulN ?_
  refine EV.l (lv' := [(0, _), (1, _), (2, _)]) r_X11_keepsAll_6 rfl ?_
  refine EV.gR r_X11_keepsAll_7 la_106 ?_
  refine EV.o r_X11_keepsAll_10 (bpN (31) 31) ?_
  refine EV.l (lv' := [(0, _), (1, _), (2, _)]) r_X11_keepsAll_12 rfl ?_
  refine EV.ci r_X11_keepsAll_13 (aV4 mt_285 la_106) (m_keepF la_125 (by decide) (by decide) (by decide) (by decide) (by omega) (by omega)) (fun v1 K1 h1 => ?_)
  obtain ⟨e, eK1⟩ := h1
  subst e
  refine EV.l (lv' := [(0, _), (1, _), (2, _), (3, _)]) r_X11_keepsAll_16 rfl ?_
  refine EV.l (lv' := [(0, _), (1, _), (2, _), (3, _)]) r_X11_keepsAll_17 rfl ?_
  refine EV.l (lv' := [(0, _), (1, _), (2, _), (3, _)]) r_X11_keepsAll_18 rfl ?_
  refine EV.l (lv' := [(0, _), (1, _), (2, _), (3, _)]) r_X11_keepsAll_19 rfl ?_
  refine EV.gR r_X11_keepsAll_20 la_106 ?_
  refine EV.o r_X11_keepsAll_23 (spN (496) 496) ?_
  refine EV.l (lv' := [(0, _), (1, _), (2, _), (3, _)]) r_X11_keepsAll_26 rfl ?_
  refine EV.ci r_X11_keepsAll_27 (aV4 mt_285 la_106) (m_keepF la_127 (by decide) (by decide) (by decide) (by decide) (by omega) (by omega)) (fun v2 K2 h2 => ?_)
  obtain ⟨e, eK2⟩ := h2
  subst e
  refine EV.l (lv' := [(0, _), (1, _), (2, _), (3, _)]) r_X11_keepsAll_30 rfl ?_
  refine EV.l (lv' := [(0, _), (1, _), (2, _), (3, _)]) r_X11_keepsAll_31 rfl ?_
  refine EV.n0_eq r_X11_keepsAll_32 (fun h32 => ?_) (fun h32 => ?_)
  · -- 32 t
    refine EV.l (lv' := [(0, _), (1, _), (2, _), (3, _)]) r_X11_keepsAll_48 rfl ?_
    refine EV.l (lv' := [(0, _), (1, _), (2, _), (3, _)]) r_X11_keepsAll_49 rfl ?_
    refine EV.gR r_X11_keepsAll_50 la_106 ?_
    refine EV.l (lv' := [(0, _), (1, _), (2, _), (3, _)]) r_X11_keepsAll_53 rfl ?_
    refine EV.iaN r_X11_keepsAll_54 la_134 ((show K2 134 (528 * i + 31 + 496) = nI w from by rw [eK2, cpy_row (by decide), eK1, cpy_row (by decide)]; exact hw)) ?_
    refine EV.pIn r_X11_keepsAll_55 la_106 (fun K3 eK3 => ?_)
    exact EV.ru r_X11_keepsAll_58 (⟨fun j hj => by rw [eK3, wr_row (by decide), eK2, cpy_row (by decide), eK1, cpy_at0 hj], fun j hj => by rw [eK3, wr_row (by decide), eK2, cpy_at0 hj, eK1, cpy_row (by decide)], by rw [eK3]; exact wr_same, fun j hj => by rw [eK3, wr_ne (Or.inr hj), eK2, cpy_row (by decide), eK1, cpy_row (by decide)], fun x a1 a2 a3 => by rw [eK3, wr_row a1, eK2, cpy_row a3, eK1, cpy_row a2]⟩)
  · omega
theorem m_image {d : Nat} {I : Nat → Nat → Int32} {J : Nat → Nat → Int64} {S : STT} (sb : SB S) (mi : MIn S I) (hi : S.im < 3)  (hd : 5 ≤ d) : RI d 287 [.ref 106] I J (fun v I' => v = nI (S.im + 1) ∧ MIn (imgS S) I' ∧ HIf I I' ∧ I' 106 0 = nI 0) := by
  refine RI.in (d0 := 4) hd mt_287 (Nat.le_of_ble_eq_true rfl) (fun d' hd' => ?_)
  show EV none M_X11_image d' 0 [(0, .ref 106)] [] (hp I J) _
  refine EV.l (lv' := [(0, _)]) r_X11_image_0 rfl ?_
  refine EV.o r_X11_image_1 (icN (0) (v := 0)) ?_
  refine EV.pI r_X11_image_2 la_106 ?_
  refine EV.l (lv' := [(0, _)]) r_X11_image_5 rfl ?_
  refine EV.getV r_X11_image_6 la_106 ((show (wr I 106 0 (nI 0)) 106 55 = nI S.im from (wr_ne (Or.inr (by decide))).trans mi.im)) ?_
  refine EV.o r_X11_image_9 (icN (3) (v := 3)) ?_
  refine EV.n2_ne r_X11_image_10 (fun h10 => ?_) (fun h10 => ?_)
  · -- 10 t
    refine EV.l (lv' := [(0, _)]) r_X11_image_15 rfl ?_
    refine EV.l (lv' := [(0, _)]) r_X11_image_16 rfl ?_
    refine EV.getV r_X11_image_17 la_106 ((show (wr I 106 0 (nI 0)) 106 55 = nI S.im from (wr_ne (Or.inr (by decide))).trans mi.im)) ?_
    refine EV.o r_X11_image_20 (icN (1) (v := 1)) ?_
    refine EV.cu r_X11_image_21 (aV2 mt_286 la_106) (m_keepsT hi ((wr_ne (Or.inr (by decide))).trans mi.w) (by omega)) (fun I4 h4 => ?_)
    obtain ⟨t1, t2, t3, t4, t5⟩ := h4
    refine EV.l (lv' := [(0, _)]) r_X11_image_24 rfl ?_
    refine EV.o r_X11_image_25 rfl ?_
    refine EV.getV r_X11_image_26 la_106 ((congrFun (t5 106 (by decide)) 55).trans ((wr_ne (Or.inr (by decide))).trans mi.im)) ?_
    refine EV.o r_X11_image_29 (icN (1) (v := 1)) ?_
    refine EV.o r_X11_image_30 iaddN ?_
    refine EV.pIn r_X11_image_31 la_106 (fun I5 e5 => ?_)
    refine EV.l (lv' := [(0, _)]) r_X11_image_34 rfl ?_
    refine EV.getV r_X11_image_35 la_106 ((show I5 106 55 = nI (S.im + 1) from by rw [e5]; exact wr_same)) ?_
    have z5 : ∀ x, x ≠ 106 → x ≠ 134 → I5 x = I x := fun x a1 a2 => by rw [e5, wr_row a1, t5 x a2]; exact wr_row a1
    have y5 : ∀ k, I5 134 k = I4 134 k := fun k => by rw [e5, wr_row (by decide)]
    exact EV.ri r_X11_image_38 (⟨rfl, mi.bak rfl rfl rfl rfl rfl rfl rfl rfl rfl (fun x a1 a2 a3 a4 => z5 x a1 a4) (fun j a0 a1 a2 a3 => by rw [e5, wr_ne (Or.inr a3), t5 106 (by decide)]; exact wr_ne (Or.inr a0)) (mi.mr.fr (z5 125 (by decide) (by decide))) (by rw [e5, wr_ne (Or.inr (by decide)), t5 106 (by decide)]; exact (wr_ne (Or.inr (by decide))).trans mi.rf) (by rw [e5, wr_ne (Or.inr (by decide)), t5 106 (by decide)]; exact (wr_ne (Or.inr (by decide))).trans mi.w) (by rw [e5]; exact wr_same) (fun k hk => (mi.ps k hk).ext sb.cb (fun j hj => by rw [z5 127 (by decide) (by decide)])) (img_iwm ((y5 _).trans t3) (fun k hk => (y5 k).trans ((t4 k hk).trans (wr_ne (Or.inl (by decide))))) mi.iw) (img_ic sb.cb mi.mr (fun j hj => (y5 _).trans ((t1 j hj).trans (wr_ne (Or.inl (by decide))))) (fun k hk => (y5 k).trans ((t4 k hk).trans (wr_ne (Or.inl (by decide))))) mi.ic) (img_ipm sb.cb sb.w sb.iw (fun j hj => (y5 _).trans ((t2 j hj).trans (wr_ne (Or.inl (by decide))))) (fun k hk => (y5 k).trans ((t4 k hk).trans (wr_ne (Or.inl (by decide))))) mi.ps mi.ip), fun o ho => z5 o (by omega) (by omega), by rw [e5, wr_ne (Or.inr (by decide)), t5 106 (by decide)]; exact wr_same⟩)
  · omega
theorem m_image0 {d : Nat} {I : Nat → Nat → Int32} {J : Nat → Nat → Int64} (h : I 106 55 = nI 3)  (hd : 4 ≤ d) : RI d 287 [.ref 106] I J (fun v I' => v = zI (-1) ∧ FR I I' ∧ I' 106 0 = nI 0) := by
  refine RI.in (d0 := 3) hd mt_287 (Nat.le_of_ble_eq_true rfl) (fun d' hd' => ?_)
  show EV none M_X11_image d' 0 [(0, .ref 106)] [] (hp I J) _
  refine EV.l (lv' := [(0, _)]) r_X11_image_0 rfl ?_
  refine EV.o r_X11_image_1 (icN (0) (v := 0)) ?_
  refine EV.pI r_X11_image_2 la_106 ?_
  refine EV.l (lv' := [(0, _)]) r_X11_image_5 rfl ?_
  refine EV.getV r_X11_image_6 la_106 ((wr_ne (Or.inr (by decide))).trans h) ?_
  refine EV.o r_X11_image_9 (icN (3) (v := 3)) ?_
  refine EV.n2_ne r_X11_image_10 (fun h10 => ?_) (fun h10 => ?_)
  · omega
  · -- 10 f
    refine EV.o r_X11_image_13 (icZ (-1)) ?_
    exact EV.ri r_X11_image_14 (⟨rfl, FM_0.fr, wr_same⟩)
theorem m_restore {d : Nat} {I : Nat → Nat → Int32} {J : Nat → Nat → Int64} {S : STT} (sb : SB S) (mi : MIn S I) (hi : 0 < S.im)  (hd : 5 ≤ d) : RI d 288 [.ref 106] I J (fun v I' => v = nI (S.im - 1) ∧ MIn (resS S) I' ∧ HIf I I' ∧ I' 106 0 = nI 0) := by
  refine RI.in (d0 := 4) hd mt_288 (Nat.le_of_ble_eq_true rfl) (fun d' hd' => ?_)
  have i3 := sb.im
  have w16 := sb.iw (S.im - 1) (by omega)
  show EV none M_X11_restore d' 0 [(0, .ref 106)] [] (hp I J) _
  refine EV.l (lv' := [(0, _)]) r_X11_restore_0 rfl ?_
  refine EV.o r_X11_restore_1 (icN (0) (v := 0)) ?_
  refine EV.pI r_X11_restore_2 la_106 ?_
  refine EV.l (lv' := [(0, _)]) r_X11_restore_5 rfl ?_
  refine EV.getV r_X11_restore_6 la_106 ((show (wr I 106 0 (nI 0)) 106 55 = nI S.im from (wr_ne (Or.inr (by decide))).trans mi.im)) ?_
  refine EV.n0_ne r_X11_restore_9 (fun h9 => ?_) (fun h9 => ?_)
  · -- 9 t
    refine EV.l (lv' := [(0, _)]) r_X11_restore_14 rfl ?_
    refine EV.o r_X11_restore_15 rfl ?_
    refine EV.getV r_X11_restore_16 la_106 ((show (wr I 106 0 (nI 0)) 106 55 = nI S.im from (wr_ne (Or.inr (by decide))).trans mi.im)) ?_
    refine EV.o r_X11_restore_19 (icN (1) (v := 1)) ?_
    refine EV.o r_X11_restore_20 (isubN) ?_
    refine EV.pIn r_X11_restore_21 la_106 (fun I3 e3 => ?_)
    refine EV.l (lv' := [(0, _)]) r_X11_restore_24 rfl ?_
    refine EV.l (lv' := [(0, _)]) r_X11_restore_25 rfl ?_
    refine EV.getV r_X11_restore_26 la_106 ((show I3 106 55 = nI (S.im - 1) from by rw [e3]; exact wr_same)) ?_
    refine EV.o r_X11_restore_29 (icN (0) (v := 0)) ?_
    refine EV.cu r_X11_restore_30 (aV2 mt_286 la_106) (m_keepsF (by omega) ((show I3 134 (528 * (S.im - 1) + 527) = I 134 (528 * (S.im - 1) + 527) from by rw [e3, wr_row (by decide), wr_row (by decide)]).trans (mi.iw (S.im - 1) (by omega))) (by omega)) (fun I4 h4 => ?_)
    obtain ⟨t1, t2, t3, t4, t5⟩ := h4
    refine EV.l (lv' := [(0, _)]) r_X11_restore_33 rfl ?_
    refine EV.o r_X11_restore_34 (icN (0) (v := 0)) ?_
    refine EV.pIn r_X11_restore_35 la_106 (fun I5 e5 => ?_)
    refine EV.l (lv' := [(0, _)]) r_X11_restore_38 rfl ?_
    refine EV.getV r_X11_restore_39 la_106 ((show I5 106 55 = nI (S.im - 1) from by rw [e5, wr_ne (Or.inr (by decide)), t4 55 (by decide), e3]; exact wr_same)) ?_
    have z3 : ∀ x, x ≠ 106 → I3 x = I x := fun x a1 => by rw [e3, wr_row a1, wr_row a1]
    have z5 : ∀ x, x ≠ 106 → x ≠ 125 → x ≠ 127 → I5 x = I x := fun x a1 a2 a3 => by rw [e5, wr_row a1, t5 x a1 a2 a3]; exact z3 x a1
    exact EV.ri r_X11_restore_42 (⟨rfl, mi.bak rfl rfl rfl rfl rfl rfl rfl rfl rfl (fun x a1 a2 a3 a4 => z5 x a1 a2 a3) (fun j a0 a1 a2 a3 => by rw [e5, wr_ne (Or.inr a2), t4 j a1, e3, wr_ne (Or.inr a3), wr_ne (Or.inr a0)]) (MR.bck ((mi.ic (S.im - 1) (by omega)).lod sb.cb (fun j hj => by rw [e5, wr_row (by decide), t1 j hj, z3 134 (by decide)]))) (by rw [e5]; exact wr_same) (by rw [e5, wr_ne (Or.inr (by decide))]; exact t3) (by rw [e5, wr_ne (Or.inr (by decide)), t4 55 (by decide), e3]; exact wr_same) (fun k hk => (mi.ip (S.im - 1) k (by omega) hk).ext sb.cb (fun j hj => by rw [e5, wr_row (by decide), t2 _ (by have hk : k < S.iw (S.im - 1) := hk; omega), z3 134 (by decide)]; exact congrArg (I 134) (by omega))) (fun i hi2 => by rw [z5 134 (by decide) (by decide) (by decide)]; exact mi.iw i (by have hi2 : i < S.im - 1 := hi2; omega)) (fun i hi2 => (mi.ic i (by have hi2 : i < S.im - 1 := hi2; omega)).ext sb.cb (fun j hj => by rw [z5 134 (by decide) (by decide) (by decide)])) (fun i k hi2 hk => (mi.ip i k (by have hi2 : i < S.im - 1 := hi2; omega) hk).ext sb.cb (fun j hj => by rw [z5 134 (by decide) (by decide) (by decide)])), fun o ho => z5 o (by omega) (by omega) (by omega), by rw [e5, wr_ne (Or.inr (by decide)), t4 0 (by decide), e3, wr_ne (Or.inr (by decide))]; exact wr_same⟩)
  · omega
theorem m_restore0 {d : Nat} {I : Nat → Nat → Int32} {J : Nat → Nat → Int64} (h : I 106 55 = nI 0)  (hd : 4 ≤ d) : RI d 288 [.ref 106] I J (fun v I' => v = zI (-1) ∧ FR I I' ∧ I' 106 0 = nI 0) := by
  refine RI.in (d0 := 3) hd mt_288 (Nat.le_of_ble_eq_true rfl) (fun d' hd' => ?_)
  show EV none M_X11_restore d' 0 [(0, .ref 106)] [] (hp I J) _
  refine EV.l (lv' := [(0, _)]) r_X11_restore_0 rfl ?_
  refine EV.o r_X11_restore_1 (icN (0) (v := 0)) ?_
  refine EV.pI r_X11_restore_2 la_106 ?_
  refine EV.l (lv' := [(0, _)]) r_X11_restore_5 rfl ?_
  refine EV.getV r_X11_restore_6 la_106 ((wr_ne (Or.inr (by decide))).trans h) ?_
  refine EV.n0_ne r_X11_restore_9 (fun h9 => ?_) (fun h9 => ?_)
  · omega
  · -- 9 f
    refine EV.o r_X11_restore_12 (icZ (-1)) ?_
    exact EV.ri r_X11_restore_13 (⟨rfl, FM_0.fr, wr_same⟩)
