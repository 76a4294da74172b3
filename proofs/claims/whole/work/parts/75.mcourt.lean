/-! A COURT is read: the model. -/
def MCd (κ : CT) (I : Nat → Nat → Int32) : Prop := (I 106 18 = nI κ.ns) ∧ (I 106 19 = nI κ.nr) ∧ (I 106 20 = nI κ.nb) ∧ (I 106 21 = nI κ.nc) ∧ (∀ j, j < κ.ns → I 109 (3 * j) = nI (κ.sm j)) ∧ (∀ j, j < κ.ns → I 109 (3 * j + 1) = nI (κ.ss j)) ∧ (∀ j, j < κ.ns → I 109 (3 * j + 2) = nI (κ.sw j)) ∧ (∀ j, j < κ.nr → I 110 (3 * j) = nI (κ.r1 j)) ∧ (∀ j, j < κ.nr → I 110 (3 * j + 1) = nI (κ.r2 j)) ∧ (∀ j, j < κ.nr → I 110 (3 * j + 2) = nI (κ.r3 j)) ∧ (∀ j, j < κ.nb → I 111 (2 * j) = nI (κ.bm j)) ∧ (∀ j, j < κ.nb → I 111 (2 * j + 1) = nI (κ.bs j)) ∧ (∀ j, j < κ.nc → I 112 (2 * j) = nI (κ.cc j)) ∧ (∀ j, j < κ.nc → I 112 (2 * j + 1) = nI (κ.cs j))
theorem MCd.ns {κ : CT} {I : Nat → Nat → Int32} (h_ : MCd κ I) : I 106 18 = nI κ.ns := h_.1
theorem MCd.nr {κ : CT} {I : Nat → Nat → Int32} (h_ : MCd κ I) : I 106 19 = nI κ.nr := h_.2.1
theorem MCd.nb {κ : CT} {I : Nat → Nat → Int32} (h_ : MCd κ I) : I 106 20 = nI κ.nb := h_.2.2.1
theorem MCd.nc {κ : CT} {I : Nat → Nat → Int32} (h_ : MCd κ I) : I 106 21 = nI κ.nc := h_.2.2.2.1
theorem MCd.sm {κ : CT} {I : Nat → Nat → Int32} (h_ : MCd κ I) : ∀ j, j < κ.ns → I 109 (3 * j) = nI (κ.sm j) := h_.2.2.2.2.1
theorem MCd.ss {κ : CT} {I : Nat → Nat → Int32} (h_ : MCd κ I) : ∀ j, j < κ.ns → I 109 (3 * j + 1) = nI (κ.ss j) := h_.2.2.2.2.2.1
theorem MCd.sw {κ : CT} {I : Nat → Nat → Int32} (h_ : MCd κ I) : ∀ j, j < κ.ns → I 109 (3 * j + 2) = nI (κ.sw j) := h_.2.2.2.2.2.2.1
theorem MCd.r1 {κ : CT} {I : Nat → Nat → Int32} (h_ : MCd κ I) : ∀ j, j < κ.nr → I 110 (3 * j) = nI (κ.r1 j) := h_.2.2.2.2.2.2.2.1
theorem MCd.r2 {κ : CT} {I : Nat → Nat → Int32} (h_ : MCd κ I) : ∀ j, j < κ.nr → I 110 (3 * j + 1) = nI (κ.r2 j) := h_.2.2.2.2.2.2.2.2.1
theorem MCd.r3 {κ : CT} {I : Nat → Nat → Int32} (h_ : MCd κ I) : ∀ j, j < κ.nr → I 110 (3 * j + 2) = nI (κ.r3 j) := h_.2.2.2.2.2.2.2.2.2.1
theorem MCd.bm {κ : CT} {I : Nat → Nat → Int32} (h_ : MCd κ I) : ∀ j, j < κ.nb → I 111 (2 * j) = nI (κ.bm j) := h_.2.2.2.2.2.2.2.2.2.2.1
theorem MCd.bs {κ : CT} {I : Nat → Nat → Int32} (h_ : MCd κ I) : ∀ j, j < κ.nb → I 111 (2 * j + 1) = nI (κ.bs j) := h_.2.2.2.2.2.2.2.2.2.2.2.1
theorem MCd.cc {κ : CT} {I : Nat → Nat → Int32} (h_ : MCd κ I) : ∀ j, j < κ.nc → I 112 (2 * j) = nI (κ.cc j) := h_.2.2.2.2.2.2.2.2.2.2.2.2.1
theorem MCd.cs {κ : CT} {I : Nat → Nat → Int32} (h_ : MCd κ I) : ∀ j, j < κ.nc → I 112 (2 * j + 1) = nI (κ.cs j) := h_.2.2.2.2.2.2.2.2.2.2.2.2.2
/-- the model's reading and its scratch court alone were at work -/
def MF (I I' : Nat → Nat → Int32) : Prop := (∀ j, j ≠ 4 → j ≠ 5 → j ≠ 6 → (j < 18 ∨ 21 < j) → I' 106 j = I 106 j) ∧ ∀ o, o ≠ 106 → (o < 109 ∨ 112 < o) → I' o = I o
theorem MF.rf {I : Nat → Nat → Int32} : MF I I := ⟨fun _ _ _ _ _ => rfl, fun _ _ _ => rfl⟩
theorem MF.tr {I I1 I2 : Nat → Nat → Int32} (h : MF I I1) (h2 : MF I1 I2) : MF I I2 := ⟨fun j a b c e => (h2.1 j a b c e).trans (h.1 j a b c e), fun o a b => (h2.2 o a b).trans (h.2 o a b)⟩
theorem MO.mf {I I' : Nat → Nat → Int32} (h : MO I I') : MF I I' := ⟨fun j a b c _ => h.2 j a b c, fun o a _ => h.1 o a⟩
theorem MD.fr {g : Nat → Nat} {n : Nat} {r : RST} {I I' : Nat → Nat → Int32} (h : MD g n r I) (e : I' 106 = I 106) : MD g n r I' := by
  cases r with
  | inl s =>
    have h2 : MG g n s I := h
    show MG g n s I'
    unfold MG at h2 ⊢
    rw [e]
    exact h2
  | inr q =>
    obtain ⟨k, f⟩ := q
    have h2 : MB n k f I := h
    show MB n k f I'
    unfold MB at h2 ⊢
    rw [e]
    exact h2
theorem MD.w {g : Nat → Nat} {n j : Nat} {r : RST} {I : Nat → Nat → Int32} {v : Int32} (h : MD g n r I) (hj : 7 ≤ j) : MD g n r (wr I 106 j v) := by
  have e : ∀ i, i < 7 → wr I 106 j v 106 i = I 106 i := fun i hi => wr_ne (Or.inr (by omega))
  cases r with
  | inl s =>
    have h2 : MG g n s I := h
    show MG g n s _
    unfold MG at h2 ⊢
    rw [e 3 (by decide), e 2 (by decide), e 5 (by decide), e 4 (by decide)]
    exact h2
  | inr q =>
    obtain ⟨k, f⟩ := q
    have h2 : MB n k f I := h
    show MB n k f _
    unfold MB at h2 ⊢
    rw [e 3 (by decide), e 2 (by decide), e 5 (by decide), e 6 (by decide)]
    exact h2
section MCA
variable {κ : CT} {I I' : Nat → Nat → Int32} {x y z : Nat}
theorem MCd.say (h : MCd κ I) (c : I' 106 18 = nI (κ.ns + 1)) (c2 : ∀ j, 19 ≤ j → j ≤ 21 → I' 106 j = I 106 j) (a : I' 109 = wr (wr (wr I 109 (3 * κ.ns) (nI x)) 109 (3 * κ.ns + 1) (nI y)) 109 (3 * κ.ns + 2) (nI z) 109) (f : ∀ o, 110 ≤ o → o ≤ 112 → I' o = I o) : MCd (addSay κ x y z) I' := by
  refine ⟨c, (c2 19 (by decide) (by decide)).trans h.nr, (c2 20 (by decide) (by decide)).trans h.nb, (c2 21 (by decide) (by decide)).trans h.nc, fun j hj => ?_, fun j hj => ?_, fun j hj => ?_, fun j hj => ?_, fun j hj => ?_, fun j hj => ?_, fun j hj => ?_, fun j hj => ?_, fun j hj => ?_, fun j hj => ?_⟩
  · have hj : j < κ.ns + 1 := hj
    rw [a]
    show wr _ _ _ _ _ _ = nI (put κ.sm κ.ns x j)
    by_cases e : j = κ.ns
    · subst e; rw [put_s, wr_ne (Or.inr (by omega)), wr_ne (Or.inr (by omega))]; exact wr_same
    · rw [put_n e, wr_ne (Or.inr (by omega)), wr_ne (Or.inr (by omega)), wr_ne (Or.inr (by omega))]; exact h.sm j (by omega)
  · have hj : j < κ.ns + 1 := hj
    rw [a]
    show wr _ _ _ _ _ _ = nI (put κ.ss κ.ns y j)
    by_cases e : j = κ.ns
    · subst e; rw [put_s, wr_ne (Or.inr (by omega))]; exact wr_same
    · rw [put_n e, wr_ne (Or.inr (by omega)), wr_ne (Or.inr (by omega)), wr_ne (Or.inr (by omega))]; exact h.ss j (by omega)
  · have hj : j < κ.ns + 1 := hj
    rw [a]
    show wr _ _ _ _ _ _ = nI (put κ.sw κ.ns z j)
    by_cases e : j = κ.ns
    · subst e; rw [put_s]; exact wr_same
    · rw [put_n e, wr_ne (Or.inr (by omega)), wr_ne (Or.inr (by omega)), wr_ne (Or.inr (by omega))]; exact h.sw j (by omega)
  · rw [f 110 (by decide) (by decide)]; exact h.r1 j hj
  · rw [f 110 (by decide) (by decide)]; exact h.r2 j hj
  · rw [f 110 (by decide) (by decide)]; exact h.r3 j hj
  · rw [f 111 (by decide) (by decide)]; exact h.bm j hj
  · rw [f 111 (by decide) (by decide)]; exact h.bs j hj
  · rw [f 112 (by decide) (by decide)]; exact h.cc j hj
  · rw [f 112 (by decide) (by decide)]; exact h.cs j hj
theorem MCd.rul (h : MCd κ I) (c : I' 106 19 = nI (κ.nr + 1)) (c2 : ∀ j, 18 ≤ j → j ≤ 21 → j ≠ 19 → I' 106 j = I 106 j) (a : I' 110 = wr (wr (wr I 110 (3 * κ.nr) (nI x)) 110 (3 * κ.nr + 1) (nI y)) 110 (3 * κ.nr + 2) (nI z) 110) (f : ∀ o, 109 ≤ o → o ≤ 112 → o ≠ 110 → I' o = I o) : MCd (addRul κ x y z) I' := by
  refine ⟨(c2 18 (by decide) (by decide) (by decide)).trans h.ns, c, (c2 20 (by decide) (by decide) (by decide)).trans h.nb, (c2 21 (by decide) (by decide) (by decide)).trans h.nc, fun j hj => ?_, fun j hj => ?_, fun j hj => ?_, fun j hj => ?_, fun j hj => ?_, fun j hj => ?_, fun j hj => ?_, fun j hj => ?_, fun j hj => ?_, fun j hj => ?_⟩
  · rw [f 109 (by decide) (by decide) (by decide)]; exact h.sm j hj
  · rw [f 109 (by decide) (by decide) (by decide)]; exact h.ss j hj
  · rw [f 109 (by decide) (by decide) (by decide)]; exact h.sw j hj
  · have hj : j < κ.nr + 1 := hj
    rw [a]
    show wr _ _ _ _ _ _ = nI (put κ.r1 κ.nr x j)
    by_cases e : j = κ.nr
    · subst e; rw [put_s, wr_ne (Or.inr (by omega)), wr_ne (Or.inr (by omega))]; exact wr_same
    · rw [put_n e, wr_ne (Or.inr (by omega)), wr_ne (Or.inr (by omega)), wr_ne (Or.inr (by omega))]; exact h.r1 j (by omega)
  · have hj : j < κ.nr + 1 := hj
    rw [a]
    show wr _ _ _ _ _ _ = nI (put κ.r2 κ.nr y j)
    by_cases e : j = κ.nr
    · subst e; rw [put_s, wr_ne (Or.inr (by omega))]; exact wr_same
    · rw [put_n e, wr_ne (Or.inr (by omega)), wr_ne (Or.inr (by omega)), wr_ne (Or.inr (by omega))]; exact h.r2 j (by omega)
  · have hj : j < κ.nr + 1 := hj
    rw [a]
    show wr _ _ _ _ _ _ = nI (put κ.r3 κ.nr z j)
    by_cases e : j = κ.nr
    · subst e; rw [put_s]; exact wr_same
    · rw [put_n e, wr_ne (Or.inr (by omega)), wr_ne (Or.inr (by omega)), wr_ne (Or.inr (by omega))]; exact h.r3 j (by omega)
  · rw [f 111 (by decide) (by decide) (by decide)]; exact h.bm j hj
  · rw [f 111 (by decide) (by decide) (by decide)]; exact h.bs j hj
  · rw [f 112 (by decide) (by decide) (by decide)]; exact h.cc j hj
  · rw [f 112 (by decide) (by decide) (by decide)]; exact h.cs j hj
theorem MCd.bir (h : MCd κ I) (c : I' 106 20 = nI (κ.nb + 1)) (c2 : ∀ j, 18 ≤ j → j ≤ 21 → j ≠ 20 → I' 106 j = I 106 j) (a : I' 111 = wr (wr I 111 (2 * κ.nb) (nI x)) 111 (2 * κ.nb + 1) (nI y) 111) (f : ∀ o, 109 ≤ o → o ≤ 112 → o ≠ 111 → I' o = I o) : MCd (addBir κ x y) I' := by
  refine ⟨(c2 18 (by decide) (by decide) (by decide)).trans h.ns, (c2 19 (by decide) (by decide) (by decide)).trans h.nr, c, (c2 21 (by decide) (by decide) (by decide)).trans h.nc, fun j hj => ?_, fun j hj => ?_, fun j hj => ?_, fun j hj => ?_, fun j hj => ?_, fun j hj => ?_, fun j hj => ?_, fun j hj => ?_, fun j hj => ?_, fun j hj => ?_⟩
  · rw [f 109 (by decide) (by decide) (by decide)]; exact h.sm j hj
  · rw [f 109 (by decide) (by decide) (by decide)]; exact h.ss j hj
  · rw [f 109 (by decide) (by decide) (by decide)]; exact h.sw j hj
  · rw [f 110 (by decide) (by decide) (by decide)]; exact h.r1 j hj
  · rw [f 110 (by decide) (by decide) (by decide)]; exact h.r2 j hj
  · rw [f 110 (by decide) (by decide) (by decide)]; exact h.r3 j hj
  · have hj : j < κ.nb + 1 := hj
    rw [a]
    show wr _ _ _ _ _ _ = nI (put κ.bm κ.nb x j)
    by_cases e : j = κ.nb
    · subst e; rw [put_s, wr_ne (Or.inr (by omega))]; exact wr_same
    · rw [put_n e, wr_ne (Or.inr (by omega)), wr_ne (Or.inr (by omega))]; exact h.bm j (by omega)
  · have hj : j < κ.nb + 1 := hj
    rw [a]
    show wr _ _ _ _ _ _ = nI (put κ.bs κ.nb y j)
    by_cases e : j = κ.nb
    · subst e; rw [put_s]; exact wr_same
    · rw [put_n e, wr_ne (Or.inr (by omega)), wr_ne (Or.inr (by omega))]; exact h.bs j (by omega)
  · rw [f 112 (by decide) (by decide) (by decide)]; exact h.cc j hj
  · rw [f 112 (by decide) (by decide) (by decide)]; exact h.cs j hj
theorem MCd.cou (h : MCd κ I) (c : I' 106 21 = nI (κ.nc + 1)) (c2 : ∀ j, 18 ≤ j → j ≤ 21 → j ≠ 21 → I' 106 j = I 106 j) (a : I' 112 = wr (wr I 112 (2 * κ.nc) (nI x)) 112 (2 * κ.nc + 1) (nI y) 112) (f : ∀ o, 109 ≤ o → o ≤ 112 → o ≠ 112 → I' o = I o) : MCd (addCou κ x y) I' := by
  refine ⟨(c2 18 (by decide) (by decide) (by decide)).trans h.ns, (c2 19 (by decide) (by decide) (by decide)).trans h.nr, (c2 20 (by decide) (by decide) (by decide)).trans h.nb, c, fun j hj => ?_, fun j hj => ?_, fun j hj => ?_, fun j hj => ?_, fun j hj => ?_, fun j hj => ?_, fun j hj => ?_, fun j hj => ?_, fun j hj => ?_, fun j hj => ?_⟩
  · rw [f 109 (by decide) (by decide) (by decide)]; exact h.sm j hj
  · rw [f 109 (by decide) (by decide) (by decide)]; exact h.ss j hj
  · rw [f 109 (by decide) (by decide) (by decide)]; exact h.sw j hj
  · rw [f 110 (by decide) (by decide) (by decide)]; exact h.r1 j hj
  · rw [f 110 (by decide) (by decide) (by decide)]; exact h.r2 j hj
  · rw [f 110 (by decide) (by decide) (by decide)]; exact h.r3 j hj
  · rw [f 111 (by decide) (by decide) (by decide)]; exact h.bm j hj
  · rw [f 111 (by decide) (by decide) (by decide)]; exact h.bs j hj
  · have hj : j < κ.nc + 1 := hj
    rw [a]
    show wr _ _ _ _ _ _ = nI (put κ.cc κ.nc x j)
    by_cases e : j = κ.nc
    · subst e; rw [put_s, wr_ne (Or.inr (by omega))]; exact wr_same
    · rw [put_n e, wr_ne (Or.inr (by omega)), wr_ne (Or.inr (by omega))]; exact h.cc j (by omega)
  · have hj : j < κ.nc + 1 := hj
    rw [a]
    show wr _ _ _ _ _ _ = nI (put κ.cs κ.nc y j)
    by_cases e : j = κ.nc
    · subst e; rw [put_s]; exact wr_same
    · rw [put_n e, wr_ne (Or.inr (by omega)), wr_ne (Or.inr (by omega))]; exact h.cs j (by omega)
end MCA
theorem MCd.mo {κ : CT} {I I' : Nat → Nat → Int32} (h : MCd κ I) (f : MO I I') : MCd κ I' := by
  unfold MCd at h ⊢
  rw [f.2 18 (by decide) (by decide) (by decide), f.2 19 (by decide) (by decide) (by decide), f.2 20 (by decide) (by decide) (by decide), f.2 21 (by decide) (by decide) (by decide), f.1 109 (by decide), f.1 110 (by decide), f.1 111 (by decide), f.1 112 (by decide)]
  exact h
theorem r_X11_readRow_0 : RW M_X11_readRow 0 (.iload_n 1) 1 0 0 1 := ⟨rfl, rfl⟩
theorem r_X11_readRow_1 : RW M_X11_readRow 1 (.iconst 1) 1 0 0 2 := ⟨rfl, rfl⟩
theorem r_X11_readRow_2 : RW M_X11_readRow 2 (.if_icmp .ne 73) 3 75 0 5 := ⟨rfl, rfl⟩
theorem r_X11_readRow_5 : RW M_X11_readRow 5 (.aload_n 0) 1 0 0 6 := ⟨rfl, rfl⟩
theorem r_X11_readRow_6 : RW M_X11_readRow 6 (.getfield 23) 3 11 10 9 := ⟨rfl, rfl⟩
theorem r_X11_readRow_9 : RW M_X11_readRow 9 (.iconst 3) 1 0 0 10 := ⟨rfl, rfl⟩
theorem r_X11_readRow_10 : RW M_X11_readRow 10 (.aload_n 0) 1 0 0 11 := ⟨rfl, rfl⟩
theorem r_X11_readRow_11 : RW M_X11_readRow 11 (.getfield 154) 3 11 18 14 := ⟨rfl, rfl⟩
theorem r_X11_readRow_14 : RW M_X11_readRow 14 (.imul) 1 0 0 15 := ⟨rfl, rfl⟩
theorem r_X11_readRow_15 : RW M_X11_readRow 15 (.aload_n 0) 1 0 0 16 := ⟨rfl, rfl⟩
theorem r_X11_readRow_16 : RW M_X11_readRow 16 (.iconst 0) 1 0 0 17 := ⟨rfl, rfl⟩
theorem r_X11_readRow_17 : RW M_X11_readRow 17 (.bipush 99) 2 0 0 19 := ⟨rfl, rfl⟩
theorem r_X11_readRow_19 : RW M_X11_readRow 19 (.invokevirtual 206) 3 181 0 22 := ⟨rfl, rfl⟩
theorem r_X11_readRow_22 : RW M_X11_readRow 22 (.iastore) 1 0 0 23 := ⟨rfl, rfl⟩
theorem r_X11_readRow_23 : RW M_X11_readRow 23 (.aload_n 0) 1 0 0 24 := ⟨rfl, rfl⟩
theorem r_X11_readRow_24 : RW M_X11_readRow 24 (.getfield 23) 3 11 10 27 := ⟨rfl, rfl⟩
theorem r_X11_readRow_27 : RW M_X11_readRow 27 (.iconst 3) 1 0 0 28 := ⟨rfl, rfl⟩
theorem r_X11_readRow_28 : RW M_X11_readRow 28 (.aload_n 0) 1 0 0 29 := ⟨rfl, rfl⟩
theorem r_X11_readRow_29 : RW M_X11_readRow 29 (.getfield 154) 3 11 18 32 := ⟨rfl, rfl⟩
theorem r_X11_readRow_32 : RW M_X11_readRow 32 (.imul) 1 0 0 33 := ⟨rfl, rfl⟩
theorem r_X11_readRow_33 : RW M_X11_readRow 33 (.iconst 1) 1 0 0 34 := ⟨rfl, rfl⟩
theorem r_X11_readRow_34 : RW M_X11_readRow 34 (.iadd) 1 0 0 35 := ⟨rfl, rfl⟩
theorem r_X11_readRow_35 : RW M_X11_readRow 35 (.aload_n 0) 1 0 0 36 := ⟨rfl, rfl⟩
theorem r_X11_readRow_36 : RW M_X11_readRow 36 (.iconst 0) 1 0 0 37 := ⟨rfl, rfl⟩
theorem r_X11_readRow_37 : RW M_X11_readRow 37 (.iconst 1) 1 0 0 38 := ⟨rfl, rfl⟩
theorem r_X11_readRow_38 : RW M_X11_readRow 38 (.invokevirtual 206) 3 181 0 41 := ⟨rfl, rfl⟩
theorem r_X11_readRow_41 : RW M_X11_readRow 41 (.iastore) 1 0 0 42 := ⟨rfl, rfl⟩
theorem r_X11_readRow_42 : RW M_X11_readRow 42 (.aload_n 0) 1 0 0 43 := ⟨rfl, rfl⟩
theorem r_X11_readRow_43 : RW M_X11_readRow 43 (.getfield 23) 3 11 10 46 := ⟨rfl, rfl⟩
theorem r_X11_readRow_46 : RW M_X11_readRow 46 (.iconst 3) 1 0 0 47 := ⟨rfl, rfl⟩
theorem r_X11_readRow_47 : RW M_X11_readRow 47 (.aload_n 0) 1 0 0 48 := ⟨rfl, rfl⟩
theorem r_X11_readRow_48 : RW M_X11_readRow 48 (.getfield 154) 3 11 18 51 := ⟨rfl, rfl⟩
theorem r_X11_readRow_51 : RW M_X11_readRow 51 (.imul) 1 0 0 52 := ⟨rfl, rfl⟩
theorem r_X11_readRow_52 : RW M_X11_readRow 52 (.iconst 2) 1 0 0 53 := ⟨rfl, rfl⟩
theorem r_X11_readRow_53 : RW M_X11_readRow 53 (.iadd) 1 0 0 54 := ⟨rfl, rfl⟩
theorem r_X11_readRow_54 : RW M_X11_readRow 54 (.aload_n 0) 1 0 0 55 := ⟨rfl, rfl⟩
theorem r_X11_readRow_55 : RW M_X11_readRow 55 (.iconst 0) 1 0 0 56 := ⟨rfl, rfl⟩
theorem r_X11_readRow_56 : RW M_X11_readRow 56 (.bipush 60) 2 0 0 58 := ⟨rfl, rfl⟩
theorem r_X11_readRow_58 : RW M_X11_readRow 58 (.invokevirtual 206) 3 181 0 61 := ⟨rfl, rfl⟩
theorem r_X11_readRow_61 : RW M_X11_readRow 61 (.iastore) 1 0 0 62 := ⟨rfl, rfl⟩
theorem r_X11_readRow_62 : RW M_X11_readRow 62 (.aload_n 0) 1 0 0 63 := ⟨rfl, rfl⟩
theorem r_X11_readRow_63 : RW M_X11_readRow 63 (.dup) 1 0 0 64 := ⟨rfl, rfl⟩
theorem r_X11_readRow_64 : RW M_X11_readRow 64 (.getfield 154) 3 11 18 67 := ⟨rfl, rfl⟩
theorem r_X11_readRow_67 : RW M_X11_readRow 67 (.iconst 1) 1 0 0 68 := ⟨rfl, rfl⟩
theorem r_X11_readRow_68 : RW M_X11_readRow 68 (.iadd) 1 0 0 69 := ⟨rfl, rfl⟩
theorem r_X11_readRow_69 : RW M_X11_readRow 69 (.putfield 154) 3 11 18 72 := ⟨rfl, rfl⟩
theorem r_X11_readRow_72 : RW M_X11_readRow 72 (.goto 162) 3 234 0 75 := ⟨rfl, rfl⟩
theorem r_X11_readRow_75 : RW M_X11_readRow 75 (.iload_n 1) 1 0 0 76 := ⟨rfl, rfl⟩
theorem r_X11_readRow_76 : RW M_X11_readRow 76 (.iconst 2) 1 0 0 77 := ⟨rfl, rfl⟩
theorem r_X11_readRow_77 : RW M_X11_readRow 77 (.if_icmp .ne 53) 3 130 0 80 := ⟨rfl, rfl⟩
theorem r_X11_readRow_80 : RW M_X11_readRow 80 (.iconst 0) 1 0 0 81 := ⟨rfl, rfl⟩
theorem r_X11_readRow_81 : RW M_X11_readRow 81 (.istore_n 2) 1 0 0 82 := ⟨rfl, rfl⟩
theorem r_X11_readRow_82 : RW M_X11_readRow 82 (.iload_n 2) 1 0 0 83 := ⟨rfl, rfl⟩
theorem r_X11_readRow_83 : RW M_X11_readRow 83 (.iconst 3) 1 0 0 84 := ⟨rfl, rfl⟩
theorem r_X11_readRow_84 : RW M_X11_readRow 84 (.if_icmp .ge 33) 3 117 0 87 := ⟨rfl, rfl⟩
theorem r_X11_readRow_87 : RW M_X11_readRow 87 (.aload_n 0) 1 0 0 88 := ⟨rfl, rfl⟩
theorem r_X11_readRow_88 : RW M_X11_readRow 88 (.getfield 26) 3 11 11 91 := ⟨rfl, rfl⟩
theorem r_X11_readRow_91 : RW M_X11_readRow 91 (.iconst 3) 1 0 0 92 := ⟨rfl, rfl⟩
theorem r_X11_readRow_92 : RW M_X11_readRow 92 (.aload_n 0) 1 0 0 93 := ⟨rfl, rfl⟩
theorem r_X11_readRow_93 : RW M_X11_readRow 93 (.getfield 157) 3 11 19 96 := ⟨rfl, rfl⟩
theorem r_X11_readRow_96 : RW M_X11_readRow 96 (.imul) 1 0 0 97 := ⟨rfl, rfl⟩
theorem r_X11_readRow_97 : RW M_X11_readRow 97 (.iload_n 2) 1 0 0 98 := ⟨rfl, rfl⟩
theorem r_X11_readRow_98 : RW M_X11_readRow 98 (.iadd) 1 0 0 99 := ⟨rfl, rfl⟩
theorem r_X11_readRow_99 : RW M_X11_readRow 99 (.aload_n 0) 1 0 0 100 := ⟨rfl, rfl⟩
theorem r_X11_readRow_100 : RW M_X11_readRow 100 (.iconst 0) 1 0 0 101 := ⟨rfl, rfl⟩
theorem r_X11_readRow_101 : RW M_X11_readRow 101 (.aload_n 0) 1 0 0 102 := ⟨rfl, rfl⟩
theorem r_X11_readRow_102 : RW M_X11_readRow 102 (.getfield 154) 3 11 18 105 := ⟨rfl, rfl⟩
theorem r_X11_readRow_105 : RW M_X11_readRow 105 (.iconst 1) 1 0 0 106 := ⟨rfl, rfl⟩
theorem r_X11_readRow_106 : RW M_X11_readRow 106 (.isub) 1 0 0 107 := ⟨rfl, rfl⟩
theorem r_X11_readRow_107 : RW M_X11_readRow 107 (.invokevirtual 206) 3 181 0 110 := ⟨rfl, rfl⟩
theorem r_X11_readRow_110 : RW M_X11_readRow 110 (.iastore) 1 0 0 111 := ⟨rfl, rfl⟩
theorem r_X11_readRow_111 : RW M_X11_readRow 111 (.iinc 2 1) 3 0 0 114 := ⟨rfl, rfl⟩
theorem r_X11_readRow_114 : RW M_X11_readRow 114 (.goto (-32)) 3 82 0 117 := ⟨rfl, rfl⟩
theorem r_X11_readRow_117 : RW M_X11_readRow 117 (.aload_n 0) 1 0 0 118 := ⟨rfl, rfl⟩
theorem r_X11_readRow_118 : RW M_X11_readRow 118 (.dup) 1 0 0 119 := ⟨rfl, rfl⟩
theorem r_X11_readRow_119 : RW M_X11_readRow 119 (.getfield 157) 3 11 19 122 := ⟨rfl, rfl⟩
theorem r_X11_readRow_122 : RW M_X11_readRow 122 (.iconst 1) 1 0 0 123 := ⟨rfl, rfl⟩
theorem r_X11_readRow_123 : RW M_X11_readRow 123 (.iadd) 1 0 0 124 := ⟨rfl, rfl⟩
theorem r_X11_readRow_124 : RW M_X11_readRow 124 (.putfield 157) 3 11 19 127 := ⟨rfl, rfl⟩
theorem r_X11_readRow_127 : RW M_X11_readRow 127 (.goto 107) 3 234 0 130 := ⟨rfl, rfl⟩
theorem r_X11_readRow_130 : RW M_X11_readRow 130 (.iload_n 1) 1 0 0 131 := ⟨rfl, rfl⟩
theorem r_X11_readRow_131 : RW M_X11_readRow 131 (.iconst 3) 1 0 0 132 := ⟨rfl, rfl⟩
theorem r_X11_readRow_132 : RW M_X11_readRow 132 (.if_icmp .ne 54) 3 186 0 135 := ⟨rfl, rfl⟩
theorem r_X11_readRow_135 : RW M_X11_readRow 135 (.aload_n 0) 1 0 0 136 := ⟨rfl, rfl⟩
theorem r_X11_readRow_136 : RW M_X11_readRow 136 (.getfield 29) 3 11 12 139 := ⟨rfl, rfl⟩
theorem r_X11_readRow_139 : RW M_X11_readRow 139 (.iconst 2) 1 0 0 140 := ⟨rfl, rfl⟩
theorem r_X11_readRow_140 : RW M_X11_readRow 140 (.aload_n 0) 1 0 0 141 := ⟨rfl, rfl⟩
theorem r_X11_readRow_141 : RW M_X11_readRow 141 (.getfield 160) 3 11 20 144 := ⟨rfl, rfl⟩
theorem r_X11_readRow_144 : RW M_X11_readRow 144 (.imul) 1 0 0 145 := ⟨rfl, rfl⟩
theorem r_X11_readRow_145 : RW M_X11_readRow 145 (.aload_n 0) 1 0 0 146 := ⟨rfl, rfl⟩
theorem r_X11_readRow_146 : RW M_X11_readRow 146 (.iconst 0) 1 0 0 147 := ⟨rfl, rfl⟩
theorem r_X11_readRow_147 : RW M_X11_readRow 147 (.bipush 99) 2 0 0 149 := ⟨rfl, rfl⟩
theorem r_X11_readRow_149 : RW M_X11_readRow 149 (.invokevirtual 206) 3 181 0 152 := ⟨rfl, rfl⟩
theorem r_X11_readRow_152 : RW M_X11_readRow 152 (.iastore) 1 0 0 153 := ⟨rfl, rfl⟩
theorem r_X11_readRow_153 : RW M_X11_readRow 153 (.aload_n 0) 1 0 0 154 := ⟨rfl, rfl⟩
theorem r_X11_readRow_154 : RW M_X11_readRow 154 (.getfield 29) 3 11 12 157 := ⟨rfl, rfl⟩
theorem r_X11_readRow_157 : RW M_X11_readRow 157 (.iconst 2) 1 0 0 158 := ⟨rfl, rfl⟩
theorem r_X11_readRow_158 : RW M_X11_readRow 158 (.aload_n 0) 1 0 0 159 := ⟨rfl, rfl⟩
theorem r_X11_readRow_159 : RW M_X11_readRow 159 (.getfield 160) 3 11 20 162 := ⟨rfl, rfl⟩
theorem r_X11_readRow_162 : RW M_X11_readRow 162 (.imul) 1 0 0 163 := ⟨rfl, rfl⟩
theorem r_X11_readRow_163 : RW M_X11_readRow 163 (.iconst 1) 1 0 0 164 := ⟨rfl, rfl⟩
theorem r_X11_readRow_164 : RW M_X11_readRow 164 (.iadd) 1 0 0 165 := ⟨rfl, rfl⟩
theorem r_X11_readRow_165 : RW M_X11_readRow 165 (.aload_n 0) 1 0 0 166 := ⟨rfl, rfl⟩
theorem r_X11_readRow_166 : RW M_X11_readRow 166 (.iconst 1) 1 0 0 167 := ⟨rfl, rfl⟩
theorem r_X11_readRow_167 : RW M_X11_readRow 167 (.bipush 20) 2 0 0 169 := ⟨rfl, rfl⟩
theorem r_X11_readRow_169 : RW M_X11_readRow 169 (.invokevirtual 206) 3 181 0 172 := ⟨rfl, rfl⟩
theorem r_X11_readRow_172 : RW M_X11_readRow 172 (.iastore) 1 0 0 173 := ⟨rfl, rfl⟩
theorem r_X11_readRow_173 : RW M_X11_readRow 173 (.aload_n 0) 1 0 0 174 := ⟨rfl, rfl⟩
theorem r_X11_readRow_174 : RW M_X11_readRow 174 (.dup) 1 0 0 175 := ⟨rfl, rfl⟩
theorem r_X11_readRow_175 : RW M_X11_readRow 175 (.getfield 160) 3 11 20 178 := ⟨rfl, rfl⟩
theorem r_X11_readRow_178 : RW M_X11_readRow 178 (.iconst 1) 1 0 0 179 := ⟨rfl, rfl⟩
theorem r_X11_readRow_179 : RW M_X11_readRow 179 (.iadd) 1 0 0 180 := ⟨rfl, rfl⟩
theorem r_X11_readRow_180 : RW M_X11_readRow 180 (.putfield 160) 3 11 20 183 := ⟨rfl, rfl⟩
theorem r_X11_readRow_183 : RW M_X11_readRow 183 (.goto 51) 3 234 0 186 := ⟨rfl, rfl⟩
theorem r_X11_readRow_186 : RW M_X11_readRow 186 (.aload_n 0) 1 0 0 187 := ⟨rfl, rfl⟩
theorem r_X11_readRow_187 : RW M_X11_readRow 187 (.getfield 32) 3 11 13 190 := ⟨rfl, rfl⟩
theorem r_X11_readRow_190 : RW M_X11_readRow 190 (.iconst 2) 1 0 0 191 := ⟨rfl, rfl⟩
theorem r_X11_readRow_191 : RW M_X11_readRow 191 (.aload_n 0) 1 0 0 192 := ⟨rfl, rfl⟩
theorem r_X11_readRow_192 : RW M_X11_readRow 192 (.getfield 163) 3 11 21 195 := ⟨rfl, rfl⟩
theorem r_X11_readRow_195 : RW M_X11_readRow 195 (.imul) 1 0 0 196 := ⟨rfl, rfl⟩
theorem r_X11_readRow_196 : RW M_X11_readRow 196 (.aload_n 0) 1 0 0 197 := ⟨rfl, rfl⟩
theorem r_X11_readRow_197 : RW M_X11_readRow 197 (.iconst 0) 1 0 0 198 := ⟨rfl, rfl⟩
theorem r_X11_readRow_198 : RW M_X11_readRow 198 (.bipush 40) 2 0 0 200 := ⟨rfl, rfl⟩
theorem r_X11_readRow_200 : RW M_X11_readRow 200 (.invokevirtual 206) 3 181 0 203 := ⟨rfl, rfl⟩
theorem r_X11_readRow_203 : RW M_X11_readRow 203 (.iastore) 1 0 0 204 := ⟨rfl, rfl⟩
theorem r_X11_readRow_204 : RW M_X11_readRow 204 (.aload_n 0) 1 0 0 205 := ⟨rfl, rfl⟩
theorem r_X11_readRow_205 : RW M_X11_readRow 205 (.getfield 32) 3 11 13 208 := ⟨rfl, rfl⟩
theorem r_X11_readRow_208 : RW M_X11_readRow 208 (.iconst 2) 1 0 0 209 := ⟨rfl, rfl⟩
theorem r_X11_readRow_209 : RW M_X11_readRow 209 (.aload_n 0) 1 0 0 210 := ⟨rfl, rfl⟩
theorem r_X11_readRow_210 : RW M_X11_readRow 210 (.getfield 163) 3 11 21 213 := ⟨rfl, rfl⟩
theorem r_X11_readRow_213 : RW M_X11_readRow 213 (.imul) 1 0 0 214 := ⟨rfl, rfl⟩
theorem r_X11_readRow_214 : RW M_X11_readRow 214 (.iconst 1) 1 0 0 215 := ⟨rfl, rfl⟩
theorem r_X11_readRow_215 : RW M_X11_readRow 215 (.iadd) 1 0 0 216 := ⟨rfl, rfl⟩
theorem r_X11_readRow_216 : RW M_X11_readRow 216 (.aload_n 0) 1 0 0 217 := ⟨rfl, rfl⟩
theorem r_X11_readRow_217 : RW M_X11_readRow 217 (.iconst 0) 1 0 0 218 := ⟨rfl, rfl⟩
theorem r_X11_readRow_218 : RW M_X11_readRow 218 (.bipush 9) 2 0 0 220 := ⟨rfl, rfl⟩
theorem r_X11_readRow_220 : RW M_X11_readRow 220 (.invokevirtual 206) 3 181 0 223 := ⟨rfl, rfl⟩
theorem r_X11_readRow_223 : RW M_X11_readRow 223 (.iastore) 1 0 0 224 := ⟨rfl, rfl⟩
theorem r_X11_readRow_224 : RW M_X11_readRow 224 (.aload_n 0) 1 0 0 225 := ⟨rfl, rfl⟩
theorem r_X11_readRow_225 : RW M_X11_readRow 225 (.dup) 1 0 0 226 := ⟨rfl, rfl⟩
theorem r_X11_readRow_226 : RW M_X11_readRow 226 (.getfield 163) 3 11 21 229 := ⟨rfl, rfl⟩
theorem r_X11_readRow_229 : RW M_X11_readRow 229 (.iconst 1) 1 0 0 230 := ⟨rfl, rfl⟩
theorem r_X11_readRow_230 : RW M_X11_readRow 230 (.iadd) 1 0 0 231 := ⟨rfl, rfl⟩
theorem r_X11_readRow_231 : RW M_X11_readRow 231 (.putfield 163) 3 11 21 234 := ⟨rfl, rfl⟩
theorem r_X11_readRow_234 : RW M_X11_readRow 234 (.return_) 1 0 0 235 := ⟨rfl, rfl⟩
theorem m_row1 {d : Nat} {I : Nat → Nat → Int32} {J : Nat → Nat → Int64} {g : Nat → Nat} {n s : Nat} {κ : CT} (tp : ∀ j, j < 600 → I 108 j = nI (g j)) (gb : ∀ j, g j < 256) (hn : n ≤ 600) (mg : MG g n (nxp g n s) I) (mc_ : MCd κ I) (cb : CB κ) (hw : kcl g n s = 1) (hk : κ.ns < 9)  (hd : 5 ≤ d) : RU d 193 [.ref 106, .int (nI 1)] I J (fun I' => MD g n (clsT g n κ s).2 I' ∧ (∀ s2, (clsT g n κ s).2 = .inl s2 → MCd (clsT g n κ s).1 I') ∧ MF I I') := by
  refine RU.in (d0 := 4) hd mt_193 (Nat.le_of_ble_eq_true rfl) (fun d' hd' => ?_)
  have bns := cb.ns; have bnr := cb.nr; have bnb := cb.nb; have bnc := cb.nc
  show EV none M_X11_readRow d' 0 [(0, .ref 106), (1, .int (nI 1))] [] (hp I J) _
  refine EV.l (lv' := [(0, _), (1, _)]) r_X11_readRow_0 rfl ?_
  refine EV.o r_X11_readRow_1 (icN (1) (v := 1)) ?_
  refine EV.n2_ne r_X11_readRow_2 (fun h2 => ?_) (fun h2 => ?_)
  · omega
  · -- 2 f
    refine EV.l (lv' := [(0, _), (1, _)]) r_X11_readRow_5 rfl ?_
    refine EV.gR r_X11_readRow_6 la_106 ?_
    refine EV.o r_X11_readRow_9 (icN (3) (v := 3)) ?_
    refine EV.l (lv' := [(0, _), (1, _)]) r_X11_readRow_10 rfl ?_
    refine EV.getV r_X11_readRow_11 la_106 (mc_.ns) ?_
    refine EV.o r_X11_readRow_14 imulN ?_
    refine EV.l (lv' := [(0, _), (1, _)]) r_X11_readRow_15 rfl ?_
    refine EV.o r_X11_readRow_16 (icN (0) (v := 0)) ?_
    refine EV.o r_X11_readRow_17 (bpN (99) 99) ?_
    refine EV.ci r_X11_readRow_19 (aV2 mt_181 la_106) (m_numN tp gb hn (show MD g n (.inl (nxp g n s)) I from mg) (by omega) (by omega) (by omega)) (fun v2 I2 h2 => ?_)
    obtain ⟨md2, xe2, mo2⟩ := h2
    refine EV.iaSn r_X11_readRow_22 la_109 (fun I3 e3 => ?_)
    refine EV.l (lv' := [(0, _), (1, _)]) r_X11_readRow_23 rfl ?_
    refine EV.gR r_X11_readRow_24 la_106 ?_
    refine EV.o r_X11_readRow_27 (icN (3) (v := 3)) ?_
    refine EV.l (lv' := [(0, _), (1, _)]) r_X11_readRow_28 rfl ?_
    refine EV.getV r_X11_readRow_29 la_106 ((((congrFun ((congrFun e3 106).trans (wr_row (by decide))) 18).trans (mo2.2 18 (by decide) (by decide) (by decide))).trans mc_.ns)) ?_
    refine EV.o r_X11_readRow_32 imulN ?_
    refine EV.o r_X11_readRow_33 (icN (1) (v := 1)) ?_
    refine EV.o r_X11_readRow_34 iaddN ?_
    refine EV.l (lv' := [(0, _), (1, _)]) r_X11_readRow_35 rfl ?_
    refine EV.o r_X11_readRow_36 (icN (0) (v := 0)) ?_
    refine EV.o r_X11_readRow_37 (icN (1) (v := 1)) ?_
    refine EV.ci r_X11_readRow_38 (aV2 mt_181 la_106) (m_numN (tp_fm tp (((congrFun e3 108).trans (wr_row (by decide))).trans (mo2.1 108 (by decide)))) gb hn (md2.fr ((congrFun e3 106).trans (wr_row (by decide)))) (by omega) (by omega) (by omega)) (fun v4 I4 h4 => ?_)
    obtain ⟨md4, xe4, mo4⟩ := h4
    refine EV.iaSn r_X11_readRow_41 la_109 (fun I5 e5 => ?_)
    refine EV.l (lv' := [(0, _), (1, _)]) r_X11_readRow_42 rfl ?_
    refine EV.gR r_X11_readRow_43 la_106 ?_
    refine EV.o r_X11_readRow_46 (icN (3) (v := 3)) ?_
    refine EV.l (lv' := [(0, _), (1, _)]) r_X11_readRow_47 rfl ?_
    refine EV.getV r_X11_readRow_48 la_106 ((((congrFun ((congrFun e5 106).trans (wr_row (by decide))) 18).trans ((mo4.2 18 (by decide) (by decide) (by decide)).trans ((congrFun ((congrFun e3 106).trans (wr_row (by decide))) 18).trans (mo2.2 18 (by decide) (by decide) (by decide))))).trans mc_.ns)) ?_
    refine EV.o r_X11_readRow_51 imulN ?_
    refine EV.o r_X11_readRow_52 (icN (2) (v := 2)) ?_
    refine EV.o r_X11_readRow_53 iaddN ?_
    refine EV.l (lv' := [(0, _), (1, _)]) r_X11_readRow_54 rfl ?_
    refine EV.o r_X11_readRow_55 (icN (0) (v := 0)) ?_
    refine EV.o r_X11_readRow_56 (bpN (60) 60) ?_
    refine EV.ci r_X11_readRow_58 (aV2 mt_181 la_106) (m_numN (tp_fm tp (((congrFun e5 108).trans (wr_row (by decide))).trans ((mo4.1 108 (by decide)).trans (((congrFun e3 108).trans (wr_row (by decide))).trans (mo2.1 108 (by decide)))))) gb hn (md4.fr ((congrFun e5 106).trans (wr_row (by decide)))) (by omega) (by omega) (by omega)) (fun v6 I6 h6 => ?_)
    obtain ⟨md6, xe6, mo6⟩ := h6
    refine EV.iaSn r_X11_readRow_61 la_109 (fun I7 e7 => ?_)
    refine EV.l (lv' := [(0, _), (1, _)]) r_X11_readRow_62 rfl ?_
    refine EV.o r_X11_readRow_63 rfl ?_
    refine EV.getV r_X11_readRow_64 la_106 ((((congrFun ((congrFun e7 106).trans (wr_row (by decide))) 18).trans ((mo6.2 18 (by decide) (by decide) (by decide)).trans ((congrFun ((congrFun e5 106).trans (wr_row (by decide))) 18).trans ((mo4.2 18 (by decide) (by decide) (by decide)).trans ((congrFun ((congrFun e3 106).trans (wr_row (by decide))) 18).trans (mo2.2 18 (by decide) (by decide) (by decide))))))).trans mc_.ns)) ?_
    refine EV.o r_X11_readRow_67 (icN (1) (v := 1)) ?_
    refine EV.o r_X11_readRow_68 iaddN ?_
    refine EV.pIn r_X11_readRow_69 la_106 (fun I8 e8 => ?_)
    refine EV.g r_X11_readRow_72 ?_
    exact EV.ru r_X11_readRow_234 (by have t := clsT_1 (g := g) (n := n) (s := s) (κ := κ) hw hk; rw [t]; exact ⟨(e8 ▸ (md6.fr ((congrFun e7 106).trans (wr_row (by decide)))).w (by decide)), fun s2 z => by have z3 : (tkN g n 0 ((60 : Nat) : Int) (tkN g n 0 ((1 : Nat) : Int) (tkN g n 0 ((99 : Nat) : Int) (.inl (nxp g n s))).2).2).2 = .inl s2 := z; obtain ⟨sy, hy⟩ := tkN_ok z3; obtain ⟨sx, hx⟩ := tkN_ok hy; have y1 := xe2 sx hx; have y2 := xe4 sy hy; have y3 := xe6 s2 z3; subst y1; subst y2; subst y3; exact mc_.say ((congrFun (congrFun e8 106) 18).trans wr_same) (fun j p1 p2 => (((congrFun (congrFun e8 106) j).trans (wr_ne (Or.inr (by omega)))).trans ((congrFun ((congrFun e7 106).trans (wr_row (by decide))) j).trans ((mo6.2 j (by omega) (by omega) (by omega)).trans ((congrFun ((congrFun e5 106).trans (wr_row (by decide))) j).trans ((mo4.2 j (by omega) (by omega) (by omega)).trans ((congrFun ((congrFun e3 106).trans (wr_row (by decide))) j).trans (mo2.2 j (by omega) (by omega) (by omega))))))))) (((congrFun e8 109).trans (wr_row (by decide))).trans ((congrFun e7 109).trans (wr_cg ((mo6.1 109 (by decide)).trans ((congrFun e5 109).trans (wr_cg ((mo4.1 109 (by decide)).trans ((congrFun e3 109).trans (wr_cg (mo2.1 109 (by decide))))))))))) (fun o p1 p2 => (((congrFun e8 o).trans (wr_row (by omega))).trans (((congrFun e7 o).trans (wr_row (by omega))).trans ((mo6.1 o (by omega)).trans (((congrFun e5 o).trans (wr_row (by omega))).trans ((mo4.1 o (by omega)).trans (((congrFun e3 o).trans (wr_row (by omega))).trans (mo2.1 o (by omega))))))))), ⟨fun j p1 p2 p3 p4 => (((congrFun (congrFun e8 106) j).trans (wr_ne (Or.inr (by omega)))).trans ((congrFun ((congrFun e7 106).trans (wr_row (by decide))) j).trans ((mo6.2 j (by omega) (by omega) (by omega)).trans ((congrFun ((congrFun e5 106).trans (wr_row (by decide))) j).trans ((mo4.2 j (by omega) (by omega) (by omega)).trans ((congrFun ((congrFun e3 106).trans (wr_row (by decide))) j).trans (mo2.2 j (by omega) (by omega) (by omega)))))))), fun o p1 p2 => (((congrFun e8 o).trans (wr_row (by omega))).trans (((congrFun e7 o).trans (wr_row (by omega))).trans ((mo6.1 o (by omega)).trans (((congrFun e5 o).trans (wr_row (by omega))).trans ((mo4.1 o (by omega)).trans (((congrFun e3 o).trans (wr_row (by omega))).trans (mo2.1 o (by omega))))))))⟩⟩)
theorem m_row2 {d : Nat} {I : Nat → Nat → Int32} {J : Nat → Nat → Int64} {g : Nat → Nat} {n s : Nat} {κ : CT} (tp : ∀ j, j < 600 → I 108 j = nI (g j)) (gb : ∀ j, g j < 256) (hn : n ≤ 600) (mg : MG g n (nxp g n s) I) (mc_ : MCd κ I) (cb : CB κ) (hw : kcl g n s = 2) (hk : κ.nr < 12)  (hd : 5 ≤ d) : RU d 193 [.ref 106, .int (nI 2)] I J (fun I' => MD g n (clsT g n κ s).2 I' ∧ (∀ s2, (clsT g n κ s).2 = .inl s2 → MCd (clsT g n κ s).1 I') ∧ MF I I') := by
  refine RU.in (d0 := 4) hd mt_193 (Nat.le_of_ble_eq_true rfl) (fun d' hd' => ?_)
  have bns := cb.ns; have bnr := cb.nr; have bnb := cb.nb; have bnc := cb.nc
  show EV none M_X11_readRow d' 0 [(0, .ref 106), (1, .int (nI 2))] [] (hp I J) _
  refine EV.l (lv' := [(0, _), (1, _)]) r_X11_readRow_0 rfl ?_
  refine EV.o r_X11_readRow_1 (icN (1) (v := 1)) ?_
  refine EV.n2_ne r_X11_readRow_2 (fun h2 => ?_) (fun h2 => ?_)
  · -- 2 t
    refine EV.l (lv' := [(0, _), (1, _)]) r_X11_readRow_75 rfl ?_
    refine EV.o r_X11_readRow_76 (icN (2) (v := 2)) ?_
    refine EV.n2_ne r_X11_readRow_77 (fun h77 => ?_) (fun h77 => ?_)
    · omega
    · -- 77 f
      refine EV.o r_X11_readRow_80 (icN (0) (v := 0)) ?_
      refine EV.l (lv' := [(0, _), (1, _), (2, _)]) r_X11_readRow_81 rfl ?_
      refine EV.l (lv' := [(0, _), (1, _), (2, _)]) r_X11_readRow_82 rfl ?_
      refine EV.o r_X11_readRow_83 (icN (3) (v := 3)) ?_
      refine EV.n2_ge r_X11_readRow_84 (fun h84 => ?_) (fun h84 => ?_)
      · omega
      · -- 84 f
        refine EV.l (lv' := [(0, _), (1, _), (2, _)]) r_X11_readRow_87 rfl ?_
        refine EV.gR r_X11_readRow_88 la_106 ?_
        refine EV.o r_X11_readRow_91 (icN (3) (v := 3)) ?_
        refine EV.l (lv' := [(0, _), (1, _), (2, _)]) r_X11_readRow_92 rfl ?_
        refine EV.getV r_X11_readRow_93 la_106 (mc_.nr) ?_
        refine EV.o r_X11_readRow_96 imulN ?_
        refine EV.l (lv' := [(0, _), (1, _), (2, _)]) r_X11_readRow_97 rfl ?_
        refine EV.o r_X11_readRow_98 iaddN ?_
        refine EV.l (lv' := [(0, _), (1, _), (2, _)]) r_X11_readRow_99 rfl ?_
        refine EV.o r_X11_readRow_100 (icN (0) (v := 0)) ?_
        refine EV.l (lv' := [(0, _), (1, _), (2, _)]) r_X11_readRow_101 rfl ?_
        refine EV.getV r_X11_readRow_102 la_106 (mc_.ns) ?_
        refine EV.o r_X11_readRow_105 (icN (1) (v := 1)) ?_
        refine EV.o r_X11_readRow_106 (isubNZ) ?_
        refine EV.ci r_X11_readRow_107 (aV2 mt_181 la_106) (m_num (lo := 0) tp gb hn (show MD g n (.inl (nxp g n s)) I from mg) (by omega) (by omega) (by omega) (by omega)) (fun v2 I2 h2 => ?_)
        obtain ⟨md2, xe2, mo2⟩ := h2
        refine EV.iaSn r_X11_readRow_110 la_110 (fun I3 e3 => ?_)
        refine EV.l (lv' := [(0, _), (1, _), (2, _)]) r_X11_readRow_111 rfl ?_
        rw [inc_lit (m := 1) rfl]
        refine EV.g r_X11_readRow_114 ?_
        refine EV.l (lv' := [(0, _), (1, _), (2, _)]) r_X11_readRow_82 rfl ?_
        refine EV.o r_X11_readRow_83 (icN (3) (v := 3)) ?_
        refine EV.n2_ge r_X11_readRow_84 (fun h84 => ?_) (fun h84 => ?_)
        · omega
        · -- 84 f
          refine EV.l (lv' := [(0, _), (1, _), (2, _)]) r_X11_readRow_87 rfl ?_
          refine EV.gR r_X11_readRow_88 la_106 ?_
          refine EV.o r_X11_readRow_91 (icN (3) (v := 3)) ?_
          refine EV.l (lv' := [(0, _), (1, _), (2, _)]) r_X11_readRow_92 rfl ?_
          refine EV.getV r_X11_readRow_93 la_106 ((((congrFun ((congrFun e3 106).trans (wr_row (by decide))) 19).trans (mo2.2 19 (by decide) (by decide) (by decide))).trans mc_.nr)) ?_
          refine EV.o r_X11_readRow_96 imulN ?_
          refine EV.l (lv' := [(0, _), (1, _), (2, _)]) r_X11_readRow_97 rfl ?_
          refine EV.o r_X11_readRow_98 iaddN ?_
          refine EV.l (lv' := [(0, _), (1, _), (2, _)]) r_X11_readRow_99 rfl ?_
          refine EV.o r_X11_readRow_100 (icN (0) (v := 0)) ?_
          refine EV.l (lv' := [(0, _), (1, _), (2, _)]) r_X11_readRow_101 rfl ?_
          refine EV.getV r_X11_readRow_102 la_106 ((((congrFun ((congrFun e3 106).trans (wr_row (by decide))) 18).trans (mo2.2 18 (by decide) (by decide) (by decide))).trans mc_.ns)) ?_
          refine EV.o r_X11_readRow_105 (icN (1) (v := 1)) ?_
          refine EV.o r_X11_readRow_106 (isubNZ) ?_
          refine EV.ci r_X11_readRow_107 (aV2 mt_181 la_106) (m_num (lo := 0) (tp_fm tp (((congrFun e3 108).trans (wr_row (by decide))).trans (mo2.1 108 (by decide)))) gb hn (md2.fr ((congrFun e3 106).trans (wr_row (by decide)))) (by omega) (by omega) (by omega) (by omega)) (fun v4 I4 h4 => ?_)
          obtain ⟨md4, xe4, mo4⟩ := h4
          refine EV.iaSn r_X11_readRow_110 la_110 (fun I5 e5 => ?_)
          refine EV.l (lv' := [(0, _), (1, _), (2, _)]) r_X11_readRow_111 rfl ?_
          rw [inc_lit (m := 2) rfl]
          refine EV.g r_X11_readRow_114 ?_
          refine EV.l (lv' := [(0, _), (1, _), (2, _)]) r_X11_readRow_82 rfl ?_
          refine EV.o r_X11_readRow_83 (icN (3) (v := 3)) ?_
          refine EV.n2_ge r_X11_readRow_84 (fun h84 => ?_) (fun h84 => ?_)
          · omega
          · -- 84 f
            refine EV.l (lv' := [(0, _), (1, _), (2, _)]) r_X11_readRow_87 rfl ?_
            refine EV.gR r_X11_readRow_88 la_106 ?_
            refine EV.o r_X11_readRow_91 (icN (3) (v := 3)) ?_
            refine EV.l (lv' := [(0, _), (1, _), (2, _)]) r_X11_readRow_92 rfl ?_
            refine EV.getV r_X11_readRow_93 la_106 ((((congrFun ((congrFun e5 106).trans (wr_row (by decide))) 19).trans ((mo4.2 19 (by decide) (by decide) (by decide)).trans ((congrFun ((congrFun e3 106).trans (wr_row (by decide))) 19).trans (mo2.2 19 (by decide) (by decide) (by decide))))).trans mc_.nr)) ?_
            refine EV.o r_X11_readRow_96 imulN ?_
            refine EV.l (lv' := [(0, _), (1, _), (2, _)]) r_X11_readRow_97 rfl ?_
            refine EV.o r_X11_readRow_98 iaddN ?_
            refine EV.l (lv' := [(0, _), (1, _), (2, _)]) r_X11_readRow_99 rfl ?_
            refine EV.o r_X11_readRow_100 (icN (0) (v := 0)) ?_
            refine EV.l (lv' := [(0, _), (1, _), (2, _)]) r_X11_readRow_101 rfl ?_
            refine EV.getV r_X11_readRow_102 la_106 ((((congrFun ((congrFun e5 106).trans (wr_row (by decide))) 18).trans ((mo4.2 18 (by decide) (by decide) (by decide)).trans ((congrFun ((congrFun e3 106).trans (wr_row (by decide))) 18).trans (mo2.2 18 (by decide) (by decide) (by decide))))).trans mc_.ns)) ?_
            refine EV.o r_X11_readRow_105 (icN (1) (v := 1)) ?_
            refine EV.o r_X11_readRow_106 (isubNZ) ?_
            refine EV.ci r_X11_readRow_107 (aV2 mt_181 la_106) (m_num (lo := 0) (tp_fm tp (((congrFun e5 108).trans (wr_row (by decide))).trans ((mo4.1 108 (by decide)).trans (((congrFun e3 108).trans (wr_row (by decide))).trans (mo2.1 108 (by decide)))))) gb hn (md4.fr ((congrFun e5 106).trans (wr_row (by decide)))) (by omega) (by omega) (by omega) (by omega)) (fun v6 I6 h6 => ?_)
            obtain ⟨md6, xe6, mo6⟩ := h6
            refine EV.iaSn r_X11_readRow_110 la_110 (fun I7 e7 => ?_)
            refine EV.l (lv' := [(0, _), (1, _), (2, _)]) r_X11_readRow_111 rfl ?_
            rw [inc_lit (m := 3) rfl]
            refine EV.g r_X11_readRow_114 ?_
            refine EV.l (lv' := [(0, _), (1, _), (2, _)]) r_X11_readRow_82 rfl ?_
            refine EV.o r_X11_readRow_83 (icN (3) (v := 3)) ?_
            refine EV.n2_ge r_X11_readRow_84 (fun h84 => ?_) (fun h84 => ?_)
            · -- 84 t
              refine EV.l (lv' := [(0, _), (1, _), (2, _)]) r_X11_readRow_117 rfl ?_
              refine EV.o r_X11_readRow_118 rfl ?_
              refine EV.getV r_X11_readRow_119 la_106 ((((congrFun ((congrFun e7 106).trans (wr_row (by decide))) 19).trans ((mo6.2 19 (by decide) (by decide) (by decide)).trans ((congrFun ((congrFun e5 106).trans (wr_row (by decide))) 19).trans ((mo4.2 19 (by decide) (by decide) (by decide)).trans ((congrFun ((congrFun e3 106).trans (wr_row (by decide))) 19).trans (mo2.2 19 (by decide) (by decide) (by decide))))))).trans mc_.nr)) ?_
              refine EV.o r_X11_readRow_122 (icN (1) (v := 1)) ?_
              refine EV.o r_X11_readRow_123 iaddN ?_
              refine EV.pIn r_X11_readRow_124 la_106 (fun I8 e8 => ?_)
              refine EV.g r_X11_readRow_127 ?_
              exact EV.ru r_X11_readRow_234 (by have t := clsT_2 (g := g) (n := n) (s := s) (κ := κ) hw hk; rw [t]; exact ⟨(e8 ▸ (md6.fr ((congrFun e7 106).trans (wr_row (by decide)))).w (by decide)), fun s2 z => by have z3 : (tkN g n 0 ((κ.ns : Int) - ((1 : Nat) : Int)) (tkN g n 0 ((κ.ns : Int) - ((1 : Nat) : Int)) (tkN g n 0 ((κ.ns : Int) - ((1 : Nat) : Int)) (.inl (nxp g n s))).2).2).2 = .inl s2 := z; obtain ⟨sy, hy⟩ := tkN_ok z3; obtain ⟨sx, hx⟩ := tkN_ok hy; have y1 := xe2 sx hx; have y2 := xe4 sy hy; have y3 := xe6 s2 z3; subst y1; subst y2; subst y3; exact mc_.rul ((congrFun (congrFun e8 106) 19).trans wr_same) (fun j p1 p2 p3 => (((congrFun (congrFun e8 106) j).trans (wr_ne (Or.inr (by omega)))).trans ((congrFun ((congrFun e7 106).trans (wr_row (by decide))) j).trans ((mo6.2 j (by omega) (by omega) (by omega)).trans ((congrFun ((congrFun e5 106).trans (wr_row (by decide))) j).trans ((mo4.2 j (by omega) (by omega) (by omega)).trans ((congrFun ((congrFun e3 106).trans (wr_row (by decide))) j).trans (mo2.2 j (by omega) (by omega) (by omega))))))))) (((congrFun e8 110).trans (wr_row (by decide))).trans ((congrFun e7 110).trans (wr_cg ((mo6.1 110 (by decide)).trans ((congrFun e5 110).trans (wr_cg ((mo4.1 110 (by decide)).trans ((congrFun e3 110).trans (wr_cg (mo2.1 110 (by decide))))))))))) (fun o p1 p2 p3 => (((congrFun e8 o).trans (wr_row (by omega))).trans (((congrFun e7 o).trans (wr_row (by omega))).trans ((mo6.1 o (by omega)).trans (((congrFun e5 o).trans (wr_row (by omega))).trans ((mo4.1 o (by omega)).trans (((congrFun e3 o).trans (wr_row (by omega))).trans (mo2.1 o (by omega))))))))), ⟨fun j p1 p2 p3 p4 => (((congrFun (congrFun e8 106) j).trans (wr_ne (Or.inr (by omega)))).trans ((congrFun ((congrFun e7 106).trans (wr_row (by decide))) j).trans ((mo6.2 j (by omega) (by omega) (by omega)).trans ((congrFun ((congrFun e5 106).trans (wr_row (by decide))) j).trans ((mo4.2 j (by omega) (by omega) (by omega)).trans ((congrFun ((congrFun e3 106).trans (wr_row (by decide))) j).trans (mo2.2 j (by omega) (by omega) (by omega)))))))), fun o p1 p2 => (((congrFun e8 o).trans (wr_row (by omega))).trans (((congrFun e7 o).trans (wr_row (by omega))).trans ((mo6.1 o (by omega)).trans (((congrFun e5 o).trans (wr_row (by omega))).trans ((mo4.1 o (by omega)).trans (((congrFun e3 o).trans (wr_row (by omega))).trans (mo2.1 o (by omega))))))))⟩⟩)
            · omega
  · omega
theorem m_row3 {d : Nat} {I : Nat → Nat → Int32} {J : Nat → Nat → Int64} {g : Nat → Nat} {n s : Nat} {κ : CT} (tp : ∀ j, j < 600 → I 108 j = nI (g j)) (gb : ∀ j, g j < 256) (hn : n ≤ 600) (mg : MG g n (nxp g n s) I) (mc_ : MCd κ I) (cb : CB κ) (hw : kcl g n s = 3) (hk : κ.nb < 4)  (hd : 5 ≤ d) : RU d 193 [.ref 106, .int (nI 3)] I J (fun I' => MD g n (clsT g n κ s).2 I' ∧ (∀ s2, (clsT g n κ s).2 = .inl s2 → MCd (clsT g n κ s).1 I') ∧ MF I I') := by
  refine RU.in (d0 := 4) hd mt_193 (Nat.le_of_ble_eq_true rfl) (fun d' hd' => ?_)
  have bns := cb.ns; have bnr := cb.nr; have bnb := cb.nb; have bnc := cb.nc
  show EV none M_X11_readRow d' 0 [(0, .ref 106), (1, .int (nI 3))] [] (hp I J) _
  refine EV.l (lv' := [(0, _), (1, _)]) r_X11_readRow_0 rfl ?_
  refine EV.o r_X11_readRow_1 (icN (1) (v := 1)) ?_
  refine EV.n2_ne r_X11_readRow_2 (fun h2 => ?_) (fun h2 => ?_)
  · -- 2 t
    refine EV.l (lv' := [(0, _), (1, _)]) r_X11_readRow_75 rfl ?_
    refine EV.o r_X11_readRow_76 (icN (2) (v := 2)) ?_
    refine EV.n2_ne r_X11_readRow_77 (fun h77 => ?_) (fun h77 => ?_)
    · -- 77 t
      refine EV.l (lv' := [(0, _), (1, _)]) r_X11_readRow_130 rfl ?_
      refine EV.o r_X11_readRow_131 (icN (3) (v := 3)) ?_
      refine EV.n2_ne r_X11_readRow_132 (fun h132 => ?_) (fun h132 => ?_)
      · omega
      · -- 132 f
        refine EV.l (lv' := [(0, _), (1, _)]) r_X11_readRow_135 rfl ?_
        refine EV.gR r_X11_readRow_136 la_106 ?_
        refine EV.o r_X11_readRow_139 (icN (2) (v := 2)) ?_
        refine EV.l (lv' := [(0, _), (1, _)]) r_X11_readRow_140 rfl ?_
        refine EV.getV r_X11_readRow_141 la_106 (mc_.nb) ?_
        refine EV.o r_X11_readRow_144 imulN ?_
        refine EV.l (lv' := [(0, _), (1, _)]) r_X11_readRow_145 rfl ?_
        refine EV.o r_X11_readRow_146 (icN (0) (v := 0)) ?_
        refine EV.o r_X11_readRow_147 (bpN (99) 99) ?_
        refine EV.ci r_X11_readRow_149 (aV2 mt_181 la_106) (m_numN tp gb hn (show MD g n (.inl (nxp g n s)) I from mg) (by omega) (by omega) (by omega)) (fun v2 I2 h2 => ?_)
        obtain ⟨md2, xe2, mo2⟩ := h2
        refine EV.iaSn r_X11_readRow_152 la_111 (fun I3 e3 => ?_)
        refine EV.l (lv' := [(0, _), (1, _)]) r_X11_readRow_153 rfl ?_
        refine EV.gR r_X11_readRow_154 la_106 ?_
        refine EV.o r_X11_readRow_157 (icN (2) (v := 2)) ?_
        refine EV.l (lv' := [(0, _), (1, _)]) r_X11_readRow_158 rfl ?_
        refine EV.getV r_X11_readRow_159 la_106 ((((congrFun ((congrFun e3 106).trans (wr_row (by decide))) 20).trans (mo2.2 20 (by decide) (by decide) (by decide))).trans mc_.nb)) ?_
        refine EV.o r_X11_readRow_162 imulN ?_
        refine EV.o r_X11_readRow_163 (icN (1) (v := 1)) ?_
        refine EV.o r_X11_readRow_164 iaddN ?_
        refine EV.l (lv' := [(0, _), (1, _)]) r_X11_readRow_165 rfl ?_
        refine EV.o r_X11_readRow_166 (icN (1) (v := 1)) ?_
        refine EV.o r_X11_readRow_167 (bpN (20) 20) ?_
        refine EV.ci r_X11_readRow_169 (aV2 mt_181 la_106) (m_numN (tp_fm tp (((congrFun e3 108).trans (wr_row (by decide))).trans (mo2.1 108 (by decide)))) gb hn (md2.fr ((congrFun e3 106).trans (wr_row (by decide)))) (by omega) (by omega) (by omega)) (fun v4 I4 h4 => ?_)
        obtain ⟨md4, xe4, mo4⟩ := h4
        refine EV.iaSn r_X11_readRow_172 la_111 (fun I5 e5 => ?_)
        refine EV.l (lv' := [(0, _), (1, _)]) r_X11_readRow_173 rfl ?_
        refine EV.o r_X11_readRow_174 rfl ?_
        refine EV.getV r_X11_readRow_175 la_106 ((((congrFun ((congrFun e5 106).trans (wr_row (by decide))) 20).trans ((mo4.2 20 (by decide) (by decide) (by decide)).trans ((congrFun ((congrFun e3 106).trans (wr_row (by decide))) 20).trans (mo2.2 20 (by decide) (by decide) (by decide))))).trans mc_.nb)) ?_
        refine EV.o r_X11_readRow_178 (icN (1) (v := 1)) ?_
        refine EV.o r_X11_readRow_179 iaddN ?_
        refine EV.pIn r_X11_readRow_180 la_106 (fun I6 e6 => ?_)
        refine EV.g r_X11_readRow_183 ?_
        exact EV.ru r_X11_readRow_234 (by have t := clsT_3 (g := g) (n := n) (s := s) (κ := κ) hw hk; rw [t]; exact ⟨(e6 ▸ (md4.fr ((congrFun e5 106).trans (wr_row (by decide)))).w (by decide)), fun s2 z => by have z3 : (tkN g n 1 ((20 : Nat) : Int) (tkN g n 0 ((99 : Nat) : Int) (.inl (nxp g n s))).2).2 = .inl s2 := z; obtain ⟨sx, hx⟩ := tkN_ok z3; have y1 := xe2 sx hx; have y2 := xe4 s2 z3; subst y1; subst y2; exact mc_.bir ((congrFun (congrFun e6 106) 20).trans wr_same) (fun j p1 p2 p3 => (((congrFun (congrFun e6 106) j).trans (wr_ne (Or.inr (by omega)))).trans ((congrFun ((congrFun e5 106).trans (wr_row (by decide))) j).trans ((mo4.2 j (by omega) (by omega) (by omega)).trans ((congrFun ((congrFun e3 106).trans (wr_row (by decide))) j).trans (mo2.2 j (by omega) (by omega) (by omega))))))) (((congrFun e6 111).trans (wr_row (by decide))).trans ((congrFun e5 111).trans (wr_cg ((mo4.1 111 (by decide)).trans ((congrFun e3 111).trans (wr_cg (mo2.1 111 (by decide)))))))) (fun o p1 p2 p3 => (((congrFun e6 o).trans (wr_row (by omega))).trans (((congrFun e5 o).trans (wr_row (by omega))).trans ((mo4.1 o (by omega)).trans (((congrFun e3 o).trans (wr_row (by omega))).trans (mo2.1 o (by omega))))))), ⟨fun j p1 p2 p3 p4 => (((congrFun (congrFun e6 106) j).trans (wr_ne (Or.inr (by omega)))).trans ((congrFun ((congrFun e5 106).trans (wr_row (by decide))) j).trans ((mo4.2 j (by omega) (by omega) (by omega)).trans ((congrFun ((congrFun e3 106).trans (wr_row (by decide))) j).trans (mo2.2 j (by omega) (by omega) (by omega)))))), fun o p1 p2 => (((congrFun e6 o).trans (wr_row (by omega))).trans (((congrFun e5 o).trans (wr_row (by omega))).trans ((mo4.1 o (by omega)).trans (((congrFun e3 o).trans (wr_row (by omega))).trans (mo2.1 o (by omega))))))⟩⟩)
    · omega
  · omega
theorem m_row4 {d : Nat} {I : Nat → Nat → Int32} {J : Nat → Nat → Int64} {g : Nat → Nat} {n s : Nat} {κ : CT} (tp : ∀ j, j < 600 → I 108 j = nI (g j)) (gb : ∀ j, g j < 256) (hn : n ≤ 600) (mg : MG g n (nxp g n s) I) (mc_ : MCd κ I) (cb : CB κ) (hw : kcl g n s = 4) (hk : κ.nc < 4)  (hd : 5 ≤ d) : RU d 193 [.ref 106, .int (nI 4)] I J (fun I' => MD g n (clsT g n κ s).2 I' ∧ (∀ s2, (clsT g n κ s).2 = .inl s2 → MCd (clsT g n κ s).1 I') ∧ MF I I') := by
  refine RU.in (d0 := 4) hd mt_193 (Nat.le_of_ble_eq_true rfl) (fun d' hd' => ?_)
  have bns := cb.ns; have bnr := cb.nr; have bnb := cb.nb; have bnc := cb.nc
  show EV none M_X11_readRow d' 0 [(0, .ref 106), (1, .int (nI 4))] [] (hp I J) _
  refine EV.l (lv' := [(0, _), (1, _)]) r_X11_readRow_0 rfl ?_
  refine EV.o r_X11_readRow_1 (icN (1) (v := 1)) ?_
  refine EV.n2_ne r_X11_readRow_2 (fun h2 => ?_) (fun h2 => ?_)
  · -- 2 t
    refine EV.l (lv' := [(0, _), (1, _)]) r_X11_readRow_75 rfl ?_
    refine EV.o r_X11_readRow_76 (icN (2) (v := 2)) ?_
    refine EV.n2_ne r_X11_readRow_77 (fun h77 => ?_) (fun h77 => ?_)
    · -- 77 t
      refine EV.l (lv' := [(0, _), (1, _)]) r_X11_readRow_130 rfl ?_
      refine EV.o r_X11_readRow_131 (icN (3) (v := 3)) ?_
      refine EV.n2_ne r_X11_readRow_132 (fun h132 => ?_) (fun h132 => ?_)
      · -- 132 t
        refine EV.l (lv' := [(0, _), (1, _)]) r_X11_readRow_186 rfl ?_
        refine EV.gR r_X11_readRow_187 la_106 ?_
        refine EV.o r_X11_readRow_190 (icN (2) (v := 2)) ?_
        refine EV.l (lv' := [(0, _), (1, _)]) r_X11_readRow_191 rfl ?_
        refine EV.getV r_X11_readRow_192 la_106 (mc_.nc) ?_
        refine EV.o r_X11_readRow_195 imulN ?_
        refine EV.l (lv' := [(0, _), (1, _)]) r_X11_readRow_196 rfl ?_
        refine EV.o r_X11_readRow_197 (icN (0) (v := 0)) ?_
        refine EV.o r_X11_readRow_198 (bpN (40) 40) ?_
        refine EV.ci r_X11_readRow_200 (aV2 mt_181 la_106) (m_numN tp gb hn (show MD g n (.inl (nxp g n s)) I from mg) (by omega) (by omega) (by omega)) (fun v2 I2 h2 => ?_)
        obtain ⟨md2, xe2, mo2⟩ := h2
        refine EV.iaSn r_X11_readRow_203 la_112 (fun I3 e3 => ?_)
        refine EV.l (lv' := [(0, _), (1, _)]) r_X11_readRow_204 rfl ?_
        refine EV.gR r_X11_readRow_205 la_106 ?_
        refine EV.o r_X11_readRow_208 (icN (2) (v := 2)) ?_
        refine EV.l (lv' := [(0, _), (1, _)]) r_X11_readRow_209 rfl ?_
        refine EV.getV r_X11_readRow_210 la_106 ((((congrFun ((congrFun e3 106).trans (wr_row (by decide))) 21).trans (mo2.2 21 (by decide) (by decide) (by decide))).trans mc_.nc)) ?_
        refine EV.o r_X11_readRow_213 imulN ?_
        refine EV.o r_X11_readRow_214 (icN (1) (v := 1)) ?_
        refine EV.o r_X11_readRow_215 iaddN ?_
        refine EV.l (lv' := [(0, _), (1, _)]) r_X11_readRow_216 rfl ?_
        refine EV.o r_X11_readRow_217 (icN (0) (v := 0)) ?_
        refine EV.o r_X11_readRow_218 (bpN (9) 9) ?_
        refine EV.ci r_X11_readRow_220 (aV2 mt_181 la_106) (m_numN (tp_fm tp (((congrFun e3 108).trans (wr_row (by decide))).trans (mo2.1 108 (by decide)))) gb hn (md2.fr ((congrFun e3 106).trans (wr_row (by decide)))) (by omega) (by omega) (by omega)) (fun v4 I4 h4 => ?_)
        obtain ⟨md4, xe4, mo4⟩ := h4
        refine EV.iaSn r_X11_readRow_223 la_112 (fun I5 e5 => ?_)
        refine EV.l (lv' := [(0, _), (1, _)]) r_X11_readRow_224 rfl ?_
        refine EV.o r_X11_readRow_225 rfl ?_
        refine EV.getV r_X11_readRow_226 la_106 ((((congrFun ((congrFun e5 106).trans (wr_row (by decide))) 21).trans ((mo4.2 21 (by decide) (by decide) (by decide)).trans ((congrFun ((congrFun e3 106).trans (wr_row (by decide))) 21).trans (mo2.2 21 (by decide) (by decide) (by decide))))).trans mc_.nc)) ?_
        refine EV.o r_X11_readRow_229 (icN (1) (v := 1)) ?_
        refine EV.o r_X11_readRow_230 iaddN ?_
        refine EV.pIn r_X11_readRow_231 la_106 (fun I6 e6 => ?_)
        exact EV.ru r_X11_readRow_234 (by have t := clsT_4 (g := g) (n := n) (s := s) (κ := κ) hw hk; rw [t]; exact ⟨(e6 ▸ (md4.fr ((congrFun e5 106).trans (wr_row (by decide)))).w (by decide)), fun s2 z => by have z3 : (tkN g n 0 ((9 : Nat) : Int) (tkN g n 0 ((40 : Nat) : Int) (.inl (nxp g n s))).2).2 = .inl s2 := z; obtain ⟨sx, hx⟩ := tkN_ok z3; have y1 := xe2 sx hx; have y2 := xe4 s2 z3; subst y1; subst y2; exact mc_.cou ((congrFun (congrFun e6 106) 21).trans wr_same) (fun j p1 p2 p3 => (((congrFun (congrFun e6 106) j).trans (wr_ne (Or.inr (by omega)))).trans ((congrFun ((congrFun e5 106).trans (wr_row (by decide))) j).trans ((mo4.2 j (by omega) (by omega) (by omega)).trans ((congrFun ((congrFun e3 106).trans (wr_row (by decide))) j).trans (mo2.2 j (by omega) (by omega) (by omega))))))) (((congrFun e6 112).trans (wr_row (by decide))).trans ((congrFun e5 112).trans (wr_cg ((mo4.1 112 (by decide)).trans ((congrFun e3 112).trans (wr_cg (mo2.1 112 (by decide)))))))) (fun o p1 p2 p3 => (((congrFun e6 o).trans (wr_row (by omega))).trans (((congrFun e5 o).trans (wr_row (by omega))).trans ((mo4.1 o (by omega)).trans (((congrFun e3 o).trans (wr_row (by omega))).trans (mo2.1 o (by omega))))))), ⟨fun j p1 p2 p3 p4 => (((congrFun (congrFun e6 106) j).trans (wr_ne (Or.inr (by omega)))).trans ((congrFun ((congrFun e5 106).trans (wr_row (by decide))) j).trans ((mo4.2 j (by omega) (by omega) (by omega)).trans ((congrFun ((congrFun e3 106).trans (wr_row (by decide))) j).trans (mo2.2 j (by omega) (by omega) (by omega)))))), fun o p1 p2 => (((congrFun e6 o).trans (wr_row (by omega))).trans (((congrFun e5 o).trans (wr_row (by omega))).trans ((mo4.1 o (by omega)).trans (((congrFun e3 o).trans (wr_row (by omega))).trans (mo2.1 o (by omega))))))⟩⟩)
      · omega
    · omega
  · omega
