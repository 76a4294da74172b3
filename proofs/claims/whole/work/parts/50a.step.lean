/-! Steps: what they change. -/
def un (f : Nat → Nat) (k v : Nat) : Nat → Nat := fun j => if j = k then v else f j
theorem un_same {f : Nat → Nat} {k v : Nat} : un f k v k = v := if_pos rfl
theorem un_le {f : Nat → Nat} {k v m : Nat} (h : ∀ j, f j ≤ m) (hv : v ≤ m) : ∀ j, un f k v j ≤ m := fun j => by
  unfold un
  split
  · exact hv
  · exact h j
theorem un_put {f : Nat → Nat} {k v n a : Nat} {I : Nat → Nat → Int32} (h : ∀ j, j < n → I a j = nI (f j)) : ∀ j, j < n → wr I a k (nI v) a j = nI (un f k v j) := fun j hj => by
  unfold un
  by_cases e : j = k
  · rw [if_pos e, e]; exact wr_same
  · rw [if_neg e, wr_ne (Or.inr e)]; exact h j hj
theorem un_row {f : Nat → Nat} {k v n a b : Nat} {I : Nat → Nat → Int32} (h : ∀ j, j < n → I a (b + j) = nI (f j)) : ∀ j, j < n → wr I a (b + k) (nI v) a (b + j) = nI (un f k v j) := fun j hj => by
  unfold un
  by_cases e : j = k
  · rw [if_pos e, e]; exact wr_same
  · rw [if_neg e, wr_ne (Or.inr (by omega))]; exact h j hj
def HS.scr (η : HS) (f : Nat → Nat) : HS := HS.mk η.mi η.nt η.sa η.be η.le η.wk f
def HS.sbe (η : HS) (f : Nat → Nat) : HS := HS.mk η.mi η.nt η.sa f η.le η.wk η.cr
def HS.sle (η : HS) (f : Nat → Nat) : HS := HS.mk η.mi η.nt η.sa η.be f η.wk η.cr
def HS.ssa (η : HS) (f : Nat → Nat) : HS := HS.mk η.mi η.nt f η.be η.le η.wk η.cr
def HS.snt (η : HS) (x : Nat) : HS := HS.mk η.mi x η.sa η.be η.le η.wk η.cr
def HS.smi (η : HS) (x : Nat) : HS := HS.mk x η.nt η.sa η.be η.le η.wk η.cr
section HHP
variable {o k v : Nat} {η : HS} {I : Nat → Nat → Int32}
theorem HH.pcr (h : HH o η I) : HH o (η.scr (un η.cr k v)) (wr I (o + 10) k (nI v)) := ⟨(wr_ne (Or.inl (by omega))).trans h.mi, (wr_ne (Or.inl (by omega))).trans h.nt, fun j hj => (wr_ne (Or.inl (by omega))).trans (h.sa j hj), fun j hj => (wr_ne (Or.inl (by omega))).trans (h.be j hj), fun j hj => (wr_ne (Or.inl (by omega))).trans (h.le j hj), fun j hj => (wr_ne (Or.inl (by omega))).trans (h.wk j hj), un_put h.cr⟩
theorem HH.pbe (h : HH o η I) : HH o (η.sbe (un η.be k v)) (wr I (o + 4) k (nI v)) := ⟨(wr_ne (Or.inl (by omega))).trans h.mi, (wr_ne (Or.inl (by omega))).trans h.nt, fun j hj => (wr_ne (Or.inl (by omega))).trans (h.sa j hj), un_put h.be, fun j hj => (wr_ne (Or.inl (by omega))).trans (h.le j hj), fun j hj => (wr_ne (Or.inl (by omega))).trans (h.wk j hj), fun j hj => (wr_ne (Or.inl (by omega))).trans (h.cr j hj)⟩
theorem HH.ple (h : HH o η I) : HH o (η.sle (un η.le k v)) (wr I (o + 6) k (nI v)) := ⟨(wr_ne (Or.inl (by omega))).trans h.mi, (wr_ne (Or.inl (by omega))).trans h.nt, fun j hj => (wr_ne (Or.inl (by omega))).trans (h.sa j hj), fun j hj => (wr_ne (Or.inl (by omega))).trans (h.be j hj), un_put h.le, fun j hj => (wr_ne (Or.inl (by omega))).trans (h.wk j hj), fun j hj => (wr_ne (Or.inl (by omega))).trans (h.cr j hj)⟩
theorem HH.psa (h : HH o η I) : HH o (η.ssa (un η.sa k v)) (wr I (o + 2) k (nI v)) := ⟨(wr_ne (Or.inl (by omega))).trans h.mi, (wr_ne (Or.inl (by omega))).trans h.nt, un_put h.sa, fun j hj => (wr_ne (Or.inl (by omega))).trans (h.be j hj), fun j hj => (wr_ne (Or.inl (by omega))).trans (h.le j hj), fun j hj => (wr_ne (Or.inl (by omega))).trans (h.wk j hj), fun j hj => (wr_ne (Or.inl (by omega))).trans (h.cr j hj)⟩
theorem HH.pnt (h : HH o η I) : HH o (η.snt v) (wr I o 8 (nI v)) := ⟨(wr_ne (Or.inr (by omega))).trans h.mi, wr_same, fun j hj => (wr_ne (Or.inl (by omega))).trans (h.sa j hj), fun j hj => (wr_ne (Or.inl (by omega))).trans (h.be j hj), fun j hj => (wr_ne (Or.inl (by omega))).trans (h.le j hj), fun j hj => (wr_ne (Or.inl (by omega))).trans (h.wk j hj), fun j hj => (wr_ne (Or.inl (by omega))).trans (h.cr j hj)⟩
theorem HH.pmi (h : HH o η I) : HH o (η.smi v) (wr I o 7 (nI v)) := ⟨wr_same, (wr_ne (Or.inr (by omega))).trans h.nt, fun j hj => (wr_ne (Or.inl (by omega))).trans (h.sa j hj), fun j hj => (wr_ne (Or.inl (by omega))).trans (h.be j hj), fun j hj => (wr_ne (Or.inl (by omega))).trans (h.le j hj), fun j hj => (wr_ne (Or.inl (by omega))).trans (h.wk j hj), fun j hj => (wr_ne (Or.inl (by omega))).trans (h.cr j hj)⟩
end HHP
section MRP
variable {a k v : Nat} {κ : CT} {η : HS} {I : Nat → Nat → Int32}
theorem MR.pcr (cb : CB κ) (h : MR a κ η I) (hk : k < κ.nc) : MR a κ (η.scr (un η.cr k v)) (wr I a (26 + k) (nI v)) := by
  have h1 := cb.ns; have h2 := cb.nb; have h3 := cb.nc
  exact ⟨fun j hj => (wr_ne (Or.inr (by omega))).trans (h.sa j hj), fun j hj => (wr_ne (Or.inr (by omega))).trans (h.nt j hj), fun j hj => (wr_ne (Or.inr (by omega))).trans (h.be j hj), fun j hj => (wr_ne (Or.inr (by omega))).trans (h.le j hj), un_row h.cr, (wr_ne (Or.inr (by omega))).trans h.mi⟩
theorem MR.pbe (cb : CB κ) (h : MR a κ η I) (hk : k < κ.nb) : MR a κ (η.sbe (un η.be k v)) (wr I a (18 + k) (nI v)) := by
  have h1 := cb.ns; have h2 := cb.nb; have h3 := cb.nc
  exact ⟨fun j hj => (wr_ne (Or.inr (by omega))).trans (h.sa j hj), fun j hj => (wr_ne (Or.inr (by omega))).trans (h.nt j hj), un_row h.be, fun j hj => (wr_ne (Or.inr (by omega))).trans (h.le j hj), fun j hj => (wr_ne (Or.inr (by omega))).trans (h.cr j hj), (wr_ne (Or.inr (by omega))).trans h.mi⟩
theorem MR.ple (cb : CB κ) (h : MR a κ η I) (hk : k < κ.nb) : MR a κ (η.sle (un η.le k v)) (wr I a (22 + k) (nI v)) := by
  have h1 := cb.ns; have h2 := cb.nb; have h3 := cb.nc
  exact ⟨fun j hj => (wr_ne (Or.inr (by omega))).trans (h.sa j hj), fun j hj => (wr_ne (Or.inr (by omega))).trans (h.nt j hj), fun j hj => (wr_ne (Or.inr (by omega))).trans (h.be j hj), un_row h.le, fun j hj => (wr_ne (Or.inr (by omega))).trans (h.cr j hj), (wr_ne (Or.inr (by omega))).trans h.mi⟩
theorem MR.psa (cb : CB κ) (h : MR a κ η I) (hk : k < κ.ns) : MR a κ (η.ssa (un η.sa k v)) (wr I a (0 + k) (nI v)) := by
  have h1 := cb.ns; have h2 := cb.nb; have h3 := cb.nc
  exact ⟨un_row h.sa, fun j hj => (wr_ne (Or.inr (by omega))).trans (h.nt j hj), fun j hj => (wr_ne (Or.inr (by omega))).trans (h.be j hj), fun j hj => (wr_ne (Or.inr (by omega))).trans (h.le j hj), fun j hj => (wr_ne (Or.inr (by omega))).trans (h.cr j hj), (wr_ne (Or.inr (by omega))).trans h.mi⟩
theorem MR.pnt (cb : CB κ) (h : MR a κ η I) (hk : k < κ.ns) : MR a κ (η.snt (η.nt ^^^ 2 ^ k)) (wr I a (9 + k) (nI (1 - (η.nt.testBit k).toNat))) := by
  have h1 := cb.ns; have h2 := cb.nb; have h3 := cb.nc
  refine ⟨fun j hj => (wr_ne (Or.inr (by omega))).trans (h.sa j hj), fun j hj => ?_, fun j hj => (wr_ne (Or.inr (by omega))).trans (h.be j hj), fun j hj => (wr_ne (Or.inr (by omega))).trans (h.le j hj), fun j hj => (wr_ne (Or.inr (by omega))).trans (h.cr j hj), (wr_ne (Or.inr (by omega))).trans h.mi⟩
  show _ = nI ((η.nt ^^^ 2 ^ k).testBit j).toNat
  rw [Nat.testBit_xor, Nat.testBit_two_pow]
  by_cases e : j = k
  · rw [e, wr_same]
    cases η.nt.testBit k <;> simp
  · rw [wr_ne (Or.inr (by omega)), h.nt j hj, decide_eq_false (fun z : k = j => e z.symm)]
    cases η.nt.testBit j <;> rfl
theorem MR.pmi (cb : CB κ) (h : MR a κ η I) : MR a κ (η.smi v) (wr I a 30 (nI v)) := by
  have h1 := cb.ns; have h2 := cb.nb; have h3 := cb.nc
  exact ⟨fun j hj => (wr_ne (Or.inr (by omega))).trans (h.sa j hj), fun j hj => (wr_ne (Or.inr (by omega))).trans (h.nt j hj), fun j hj => (wr_ne (Or.inr (by omega))).trans (h.be j hj), fun j hj => (wr_ne (Or.inr (by omega))).trans (h.le j hj), fun j hj => (wr_ne (Or.inr (by omega))).trans (h.cr j hj), wr_same⟩
end MRP
def hCall (η : HS) (k b : Nat) : HS := (η.scr (un η.cr k (η.cr k - 1))).sbe (un η.be b η.mi)
def hLead (η : HS) (k b n : Nat) : HS := ((η.scr (un η.cr k (η.cr k - n))).sbe (un η.be b (min 400 (η.be b + n)))).sle (un η.le b (η.le b + n))
def hPut (η : HS) (i n : Nat) : HS := η.ssa (un η.sa i (min 400 (η.sa i + n)))
def hNote (η : HS) (i : Nat) : HS := η.snt (η.nt ^^^ 2 ^ i)
def hMin (η : HS) : HS := η.smi (η.mi + 1)
def qCall (η : HS) (k b : Nat) : Bool := decide (1 ≤ η.cr k ∧ η.mi < η.be b)
def qPut (κ : CT) (η : HS) (k i n : Nat) : Bool := decide (n ≤ κ.cs k ∧ η.mi ≤ η.sa i)
def qNote (κ : CT) (η : HS) (i : Nat) : Bool := η.nt.testBit i || (decide (η.sa i ≤ η.mi) && !(doesC κ η i))
def qMin (η : HS) : Bool := decide (η.mi < 400)
section HBP
variable {κ : CT} {l : LW} {η : HS} {k b i n : Nat}
theorem HB.call (h : HB κ η) (hc_ : η.mi < η.be b) : HB κ (hCall η k b) := ⟨h.mi, h.nt, h.sa, un_le h.be (by have := h.be b; omega), h.wk, un_le h.cr (by have := h.cr k; omega)⟩
theorem HB.lead (h : HB κ η) : HB κ (hLead η k b n) := ⟨h.mi, h.nt, h.sa, un_le h.be (Nat.min_le_left _ _), h.wk, un_le h.cr (by have := h.cr k; omega)⟩
theorem HB.put (h : HB κ η) : HB κ (hPut η i n) := ⟨h.mi, h.nt, un_le h.sa (Nat.min_le_left _ _), h.be, h.wk, h.cr⟩
theorem HB.note (h : HB κ η) (hi : i < κ.ns) : HB κ (hNote η i) := ⟨h.mi, Nat.xor_lt_two_pow h.nt (Nat.pow_lt_pow_right (by decide) hi), h.sa, h.be, h.wk, h.cr⟩
theorem HB.min1 (h : HB κ η) (hm : η.mi < 448) : HB κ (hMin η) := ⟨show η.mi + 1 ≤ 448 by omega, h.nt, h.sa, h.be, h.wk, h.cr⟩
theorem HB.ms (h : HB κ η) : HB κ (ms κ l η n) := ⟨h.mi, h.nt, h.sa, h.be, fun j => (by show (if j < n then _ else _) ≤ 40; split; exact (wlk_le _ _ _ _ _ _).2; exact h.wk j), h.cr⟩
theorem WM.put (h : WM κ l η) : WM κ l (hPut η i n) := ⟨h.e, trivial⟩
theorem WM.min1 (h : WM κ l η) : WM κ l (hMin η) := ⟨h.e, trivial⟩
end HBP
theorem nt_f {κ : CT} {η : HS} {i : Nat} (h : η.nt.testBit i = false) (h2 : η.mi < η.sa i ∨ doesC κ η i = true) : qNote κ η i = false := by
  unfold qNote
  rw [h, Bool.false_or]
  rcases h2 with h2 | h2
  · rw [decide_eq_false (by omega)]; rfl
  · rw [h2]; exact Bool.and_false _
theorem nt_t1 {κ : CT} {η : HS} {i : Nat} (h : η.nt.testBit i = true) : qNote κ η i = true := by unfold qNote; rw [h]; rfl
theorem nt_t2 {κ : CT} {η : HS} {i : Nat} (h : η.sa i ≤ η.mi) (h2 : doesC κ η i = false) : qNote κ η i = true := by unfold qNote; rw [decide_eq_true h, h2]; exact Bool.or_true _
theorem r_X11_isCalled_0 : RW M_X11_isCalled 0 (.aload_n 0) 1 0 0 1 := ⟨rfl, rfl⟩
theorem r_X11_isCalled_1 : RW M_X11_isCalled 1 (.getfield 74) 3 11 43 4 := ⟨rfl, rfl⟩
theorem r_X11_isCalled_4 : RW M_X11_isCalled 4 (.bipush 26) 2 0 0 6 := ⟨rfl, rfl⟩
theorem r_X11_isCalled_6 : RW M_X11_isCalled 6 (.iload_n 1) 1 0 0 7 := ⟨rfl, rfl⟩
theorem r_X11_isCalled_7 : RW M_X11_isCalled 7 (.iadd) 1 0 0 8 := ⟨rfl, rfl⟩
theorem r_X11_isCalled_8 : RW M_X11_isCalled 8 (.iaload) 1 0 0 9 := ⟨rfl, rfl⟩
theorem r_X11_isCalled_9 : RW M_X11_isCalled 9 (.ifCond .eq 22) 3 31 0 12 := ⟨rfl, rfl⟩
theorem r_X11_isCalled_12 : RW M_X11_isCalled 12 (.aload_n 0) 1 0 0 13 := ⟨rfl, rfl⟩
theorem r_X11_isCalled_13 : RW M_X11_isCalled 13 (.getfield 74) 3 11 43 16 := ⟨rfl, rfl⟩
theorem r_X11_isCalled_16 : RW M_X11_isCalled 16 (.bipush 18) 2 0 0 18 := ⟨rfl, rfl⟩
theorem r_X11_isCalled_18 : RW M_X11_isCalled 18 (.iload_n 2) 1 0 0 19 := ⟨rfl, rfl⟩
theorem r_X11_isCalled_19 : RW M_X11_isCalled 19 (.iadd) 1 0 0 20 := ⟨rfl, rfl⟩
theorem r_X11_isCalled_20 : RW M_X11_isCalled 20 (.iaload) 1 0 0 21 := ⟨rfl, rfl⟩
theorem r_X11_isCalled_21 : RW M_X11_isCalled 21 (.aload_n 0) 1 0 0 22 := ⟨rfl, rfl⟩
theorem r_X11_isCalled_22 : RW M_X11_isCalled 22 (.getfield 74) 3 11 43 25 := ⟨rfl, rfl⟩
theorem r_X11_isCalled_25 : RW M_X11_isCalled 25 (.bipush 30) 2 0 0 27 := ⟨rfl, rfl⟩
theorem r_X11_isCalled_27 : RW M_X11_isCalled 27 (.iaload) 1 0 0 28 := ⟨rfl, rfl⟩
theorem r_X11_isCalled_28 : RW M_X11_isCalled 28 (.if_icmp .gt 5) 3 33 0 31 := ⟨rfl, rfl⟩
theorem r_X11_isCalled_31 : RW M_X11_isCalled 31 (.iconst 0) 1 0 0 32 := ⟨rfl, rfl⟩
theorem r_X11_isCalled_32 : RW M_X11_isCalled 32 (.ireturn) 1 0 0 33 := ⟨rfl, rfl⟩
theorem r_X11_isCalled_33 : RW M_X11_isCalled 33 (.aload_n 0) 1 0 0 34 := ⟨rfl, rfl⟩
theorem r_X11_isCalled_34 : RW M_X11_isCalled 34 (.getfield 74) 3 11 43 37 := ⟨rfl, rfl⟩
theorem r_X11_isCalled_37 : RW M_X11_isCalled 37 (.bipush 26) 2 0 0 39 := ⟨rfl, rfl⟩
theorem r_X11_isCalled_39 : RW M_X11_isCalled 39 (.iload_n 1) 1 0 0 40 := ⟨rfl, rfl⟩
theorem r_X11_isCalled_40 : RW M_X11_isCalled 40 (.iadd) 1 0 0 41 := ⟨rfl, rfl⟩
theorem r_X11_isCalled_41 : RW M_X11_isCalled 41 (.dup2) 1 0 0 42 := ⟨rfl, rfl⟩
theorem r_X11_isCalled_42 : RW M_X11_isCalled 42 (.iaload) 1 0 0 43 := ⟨rfl, rfl⟩
theorem r_X11_isCalled_43 : RW M_X11_isCalled 43 (.iconst 1) 1 0 0 44 := ⟨rfl, rfl⟩
theorem r_X11_isCalled_44 : RW M_X11_isCalled 44 (.isub) 1 0 0 45 := ⟨rfl, rfl⟩
theorem r_X11_isCalled_45 : RW M_X11_isCalled 45 (.iastore) 1 0 0 46 := ⟨rfl, rfl⟩
theorem r_X11_isCalled_46 : RW M_X11_isCalled 46 (.aload_n 0) 1 0 0 47 := ⟨rfl, rfl⟩
theorem r_X11_isCalled_47 : RW M_X11_isCalled 47 (.getfield 74) 3 11 43 50 := ⟨rfl, rfl⟩
theorem r_X11_isCalled_50 : RW M_X11_isCalled 50 (.bipush 18) 2 0 0 52 := ⟨rfl, rfl⟩
theorem r_X11_isCalled_52 : RW M_X11_isCalled 52 (.iload_n 2) 1 0 0 53 := ⟨rfl, rfl⟩
theorem r_X11_isCalled_53 : RW M_X11_isCalled 53 (.iadd) 1 0 0 54 := ⟨rfl, rfl⟩
theorem r_X11_isCalled_54 : RW M_X11_isCalled 54 (.aload_n 0) 1 0 0 55 := ⟨rfl, rfl⟩
theorem r_X11_isCalled_55 : RW M_X11_isCalled 55 (.getfield 74) 3 11 43 58 := ⟨rfl, rfl⟩
theorem r_X11_isCalled_58 : RW M_X11_isCalled 58 (.bipush 30) 2 0 0 60 := ⟨rfl, rfl⟩
theorem r_X11_isCalled_60 : RW M_X11_isCalled 60 (.iaload) 1 0 0 61 := ⟨rfl, rfl⟩
theorem r_X11_isCalled_61 : RW M_X11_isCalled 61 (.iastore) 1 0 0 62 := ⟨rfl, rfl⟩
theorem r_X11_isCalled_62 : RW M_X11_isCalled 62 (.iconst 1) 1 0 0 63 := ⟨rfl, rfl⟩
theorem r_X11_isCalled_63 : RW M_X11_isCalled 63 (.ireturn) 1 0 0 64 := ⟨rfl, rfl⟩
theorem r_X11_isLed_0 : RW M_X11_isLed 0 (.aload_n 0) 1 0 0 1 := ⟨rfl, rfl⟩
theorem r_X11_isLed_1 : RW M_X11_isLed 1 (.iload_n 1) 1 0 0 2 := ⟨rfl, rfl⟩
theorem r_X11_isLed_2 : RW M_X11_isLed 2 (.iload_n 2) 1 0 0 3 := ⟨rfl, rfl⟩
theorem r_X11_isLed_3 : RW M_X11_isLed 3 (.iload_n 3) 1 0 0 4 := ⟨rfl, rfl⟩
theorem r_X11_isLed_4 : RW M_X11_isLed 4 (.invokevirtual 376) 3 228 0 7 := ⟨rfl, rfl⟩
theorem r_X11_isLed_7 : RW M_X11_isLed 7 (.ifCond .ne 5) 3 12 0 10 := ⟨rfl, rfl⟩
theorem r_X11_isLed_10 : RW M_X11_isLed 10 (.iconst 0) 1 0 0 11 := ⟨rfl, rfl⟩
theorem r_X11_isLed_11 : RW M_X11_isLed 11 (.ireturn) 1 0 0 12 := ⟨rfl, rfl⟩
theorem r_X11_isLed_12 : RW M_X11_isLed 12 (.aload_n 0) 1 0 0 13 := ⟨rfl, rfl⟩
theorem r_X11_isLed_13 : RW M_X11_isLed 13 (.getfield 74) 3 11 43 16 := ⟨rfl, rfl⟩
theorem r_X11_isLed_16 : RW M_X11_isLed 16 (.bipush 26) 2 0 0 18 := ⟨rfl, rfl⟩
theorem r_X11_isLed_18 : RW M_X11_isLed 18 (.iload_n 1) 1 0 0 19 := ⟨rfl, rfl⟩
theorem r_X11_isLed_19 : RW M_X11_isLed 19 (.iadd) 1 0 0 20 := ⟨rfl, rfl⟩
theorem r_X11_isLed_20 : RW M_X11_isLed 20 (.dup2) 1 0 0 21 := ⟨rfl, rfl⟩
theorem r_X11_isLed_21 : RW M_X11_isLed 21 (.iaload) 1 0 0 22 := ⟨rfl, rfl⟩
theorem r_X11_isLed_22 : RW M_X11_isLed 22 (.iload_n 3) 1 0 0 23 := ⟨rfl, rfl⟩
theorem r_X11_isLed_23 : RW M_X11_isLed 23 (.isub) 1 0 0 24 := ⟨rfl, rfl⟩
theorem r_X11_isLed_24 : RW M_X11_isLed 24 (.iastore) 1 0 0 25 := ⟨rfl, rfl⟩
theorem r_X11_isLed_25 : RW M_X11_isLed 25 (.aload_n 0) 1 0 0 26 := ⟨rfl, rfl⟩
theorem r_X11_isLed_26 : RW M_X11_isLed 26 (.getfield 74) 3 11 43 29 := ⟨rfl, rfl⟩
theorem r_X11_isLed_29 : RW M_X11_isLed 29 (.bipush 18) 2 0 0 31 := ⟨rfl, rfl⟩
theorem r_X11_isLed_31 : RW M_X11_isLed 31 (.iload_n 2) 1 0 0 32 := ⟨rfl, rfl⟩
theorem r_X11_isLed_32 : RW M_X11_isLed 32 (.iadd) 1 0 0 33 := ⟨rfl, rfl⟩
theorem r_X11_isLed_33 : RW M_X11_isLed 33 (.aload_n 0) 1 0 0 34 := ⟨rfl, rfl⟩
theorem r_X11_isLed_34 : RW M_X11_isLed 34 (.getfield 74) 3 11 43 37 := ⟨rfl, rfl⟩
theorem r_X11_isLed_37 : RW M_X11_isLed 37 (.bipush 18) 2 0 0 39 := ⟨rfl, rfl⟩
theorem r_X11_isLed_39 : RW M_X11_isLed 39 (.iload_n 2) 1 0 0 40 := ⟨rfl, rfl⟩
theorem r_X11_isLed_40 : RW M_X11_isLed 40 (.iadd) 1 0 0 41 := ⟨rfl, rfl⟩
theorem r_X11_isLed_41 : RW M_X11_isLed 41 (.iaload) 1 0 0 42 := ⟨rfl, rfl⟩
theorem r_X11_isLed_42 : RW M_X11_isLed 42 (.iload_n 3) 1 0 0 43 := ⟨rfl, rfl⟩
theorem r_X11_isLed_43 : RW M_X11_isLed 43 (.iadd) 1 0 0 44 := ⟨rfl, rfl⟩
theorem r_X11_isLed_44 : RW M_X11_isLed 44 (.invokestatic 351) 3 215 0 47 := ⟨rfl, rfl⟩
theorem r_X11_isLed_47 : RW M_X11_isLed 47 (.iastore) 1 0 0 48 := ⟨rfl, rfl⟩
theorem r_X11_isLed_48 : RW M_X11_isLed 48 (.aload_n 0) 1 0 0 49 := ⟨rfl, rfl⟩
theorem r_X11_isLed_49 : RW M_X11_isLed 49 (.getfield 74) 3 11 43 52 := ⟨rfl, rfl⟩
theorem r_X11_isLed_52 : RW M_X11_isLed 52 (.bipush 22) 2 0 0 54 := ⟨rfl, rfl⟩
theorem r_X11_isLed_54 : RW M_X11_isLed 54 (.iload_n 2) 1 0 0 55 := ⟨rfl, rfl⟩
theorem r_X11_isLed_55 : RW M_X11_isLed 55 (.iadd) 1 0 0 56 := ⟨rfl, rfl⟩
theorem r_X11_isLed_56 : RW M_X11_isLed 56 (.dup2) 1 0 0 57 := ⟨rfl, rfl⟩
theorem r_X11_isLed_57 : RW M_X11_isLed 57 (.iaload) 1 0 0 58 := ⟨rfl, rfl⟩
theorem r_X11_isLed_58 : RW M_X11_isLed 58 (.iload_n 3) 1 0 0 59 := ⟨rfl, rfl⟩
theorem r_X11_isLed_59 : RW M_X11_isLed 59 (.iadd) 1 0 0 60 := ⟨rfl, rfl⟩
theorem r_X11_isLed_60 : RW M_X11_isLed 60 (.iastore) 1 0 0 61 := ⟨rfl, rfl⟩
theorem r_X11_isLed_61 : RW M_X11_isLed 61 (.iconst 1) 1 0 0 62 := ⟨rfl, rfl⟩
theorem r_X11_isLed_62 : RW M_X11_isLed 62 (.ireturn) 1 0 0 63 := ⟨rfl, rfl⟩
theorem r_X11_isNoted_0 : RW M_X11_isNoted 0 (.aload_n 0) 1 0 0 1 := ⟨rfl, rfl⟩
theorem r_X11_isNoted_1 : RW M_X11_isNoted 1 (.getfield 74) 3 11 43 4 := ⟨rfl, rfl⟩
theorem r_X11_isNoted_4 : RW M_X11_isNoted 4 (.bipush 9) 2 0 0 6 := ⟨rfl, rfl⟩
theorem r_X11_isNoted_6 : RW M_X11_isNoted 6 (.iload_n 1) 1 0 0 7 := ⟨rfl, rfl⟩
theorem r_X11_isNoted_7 : RW M_X11_isNoted 7 (.iadd) 1 0 0 8 := ⟨rfl, rfl⟩
theorem r_X11_isNoted_8 : RW M_X11_isNoted 8 (.iaload) 1 0 0 9 := ⟨rfl, rfl⟩
theorem r_X11_isNoted_9 : RW M_X11_isNoted 9 (.ifCond .ne 35) 3 44 0 12 := ⟨rfl, rfl⟩
theorem r_X11_isNoted_12 : RW M_X11_isNoted 12 (.aload_n 0) 1 0 0 13 := ⟨rfl, rfl⟩
theorem r_X11_isNoted_13 : RW M_X11_isNoted 13 (.getfield 74) 3 11 43 16 := ⟨rfl, rfl⟩
theorem r_X11_isNoted_16 : RW M_X11_isNoted 16 (.iconst 0) 1 0 0 17 := ⟨rfl, rfl⟩
theorem r_X11_isNoted_17 : RW M_X11_isNoted 17 (.iload_n 1) 1 0 0 18 := ⟨rfl, rfl⟩
theorem r_X11_isNoted_18 : RW M_X11_isNoted 18 (.iadd) 1 0 0 19 := ⟨rfl, rfl⟩
theorem r_X11_isNoted_19 : RW M_X11_isNoted 19 (.iaload) 1 0 0 20 := ⟨rfl, rfl⟩
theorem r_X11_isNoted_20 : RW M_X11_isNoted 20 (.aload_n 0) 1 0 0 21 := ⟨rfl, rfl⟩
theorem r_X11_isNoted_21 : RW M_X11_isNoted 21 (.getfield 74) 3 11 43 24 := ⟨rfl, rfl⟩
theorem r_X11_isNoted_24 : RW M_X11_isNoted 24 (.bipush 30) 2 0 0 26 := ⟨rfl, rfl⟩
theorem r_X11_isNoted_26 : RW M_X11_isNoted 26 (.iaload) 1 0 0 27 := ⟨rfl, rfl⟩
theorem r_X11_isNoted_27 : RW M_X11_isNoted 27 (.if_icmp .gt 15) 3 42 0 30 := ⟨rfl, rfl⟩
theorem r_X11_isNoted_30 : RW M_X11_isNoted 30 (.aload_n 0) 1 0 0 31 := ⟨rfl, rfl⟩
theorem r_X11_isNoted_31 : RW M_X11_isNoted 31 (.invokevirtual 370) 3 221 0 34 := ⟨rfl, rfl⟩
theorem r_X11_isNoted_34 : RW M_X11_isNoted 34 (.iload_n 1) 1 0 0 35 := ⟨rfl, rfl⟩
theorem r_X11_isNoted_35 : RW M_X11_isNoted 35 (.ishr) 1 0 0 36 := ⟨rfl, rfl⟩
theorem r_X11_isNoted_36 : RW M_X11_isNoted 36 (.iconst 1) 1 0 0 37 := ⟨rfl, rfl⟩
theorem r_X11_isNoted_37 : RW M_X11_isNoted 37 (.iand) 1 0 0 38 := ⟨rfl, rfl⟩
theorem r_X11_isNoted_38 : RW M_X11_isNoted 38 (.iconst 1) 1 0 0 39 := ⟨rfl, rfl⟩
theorem r_X11_isNoted_39 : RW M_X11_isNoted 39 (.if_icmp .ne 5) 3 44 0 42 := ⟨rfl, rfl⟩
theorem r_X11_isNoted_42 : RW M_X11_isNoted 42 (.iconst 0) 1 0 0 43 := ⟨rfl, rfl⟩
theorem r_X11_isNoted_43 : RW M_X11_isNoted 43 (.ireturn) 1 0 0 44 := ⟨rfl, rfl⟩
theorem r_X11_isNoted_44 : RW M_X11_isNoted 44 (.aload_n 0) 1 0 0 45 := ⟨rfl, rfl⟩
theorem r_X11_isNoted_45 : RW M_X11_isNoted 45 (.getfield 74) 3 11 43 48 := ⟨rfl, rfl⟩
theorem r_X11_isNoted_48 : RW M_X11_isNoted 48 (.bipush 9) 2 0 0 50 := ⟨rfl, rfl⟩
theorem r_X11_isNoted_50 : RW M_X11_isNoted 50 (.iload_n 1) 1 0 0 51 := ⟨rfl, rfl⟩
theorem r_X11_isNoted_51 : RW M_X11_isNoted 51 (.iadd) 1 0 0 52 := ⟨rfl, rfl⟩
theorem r_X11_isNoted_52 : RW M_X11_isNoted 52 (.iconst 1) 1 0 0 53 := ⟨rfl, rfl⟩
theorem r_X11_isNoted_53 : RW M_X11_isNoted 53 (.aload_n 0) 1 0 0 54 := ⟨rfl, rfl⟩
theorem r_X11_isNoted_54 : RW M_X11_isNoted 54 (.getfield 74) 3 11 43 57 := ⟨rfl, rfl⟩
theorem r_X11_isNoted_57 : RW M_X11_isNoted 57 (.bipush 9) 2 0 0 59 := ⟨rfl, rfl⟩
theorem r_X11_isNoted_59 : RW M_X11_isNoted 59 (.iload_n 1) 1 0 0 60 := ⟨rfl, rfl⟩
theorem r_X11_isNoted_60 : RW M_X11_isNoted 60 (.iadd) 1 0 0 61 := ⟨rfl, rfl⟩
theorem r_X11_isNoted_61 : RW M_X11_isNoted 61 (.iaload) 1 0 0 62 := ⟨rfl, rfl⟩
theorem r_X11_isNoted_62 : RW M_X11_isNoted 62 (.isub) 1 0 0 63 := ⟨rfl, rfl⟩
theorem r_X11_isNoted_63 : RW M_X11_isNoted 63 (.iastore) 1 0 0 64 := ⟨rfl, rfl⟩
theorem r_X11_isNoted_64 : RW M_X11_isNoted 64 (.iconst 1) 1 0 0 65 := ⟨rfl, rfl⟩
theorem r_X11_isNoted_65 : RW M_X11_isNoted 65 (.ireturn) 1 0 0 66 := ⟨rfl, rfl⟩
theorem r_X11_isPut_0 : RW M_X11_isPut 0 (.iload_n 3) 1 0 0 1 := ⟨rfl, rfl⟩
theorem r_X11_isPut_1 : RW M_X11_isPut 1 (.aload_n 0) 1 0 0 2 := ⟨rfl, rfl⟩
theorem r_X11_isPut_2 : RW M_X11_isPut 2 (.getfield 44) 3 11 17 5 := ⟨rfl, rfl⟩
theorem r_X11_isPut_5 : RW M_X11_isPut 5 (.iconst 2) 1 0 0 6 := ⟨rfl, rfl⟩
theorem r_X11_isPut_6 : RW M_X11_isPut 6 (.iload_n 1) 1 0 0 7 := ⟨rfl, rfl⟩
theorem r_X11_isPut_7 : RW M_X11_isPut 7 (.imul) 1 0 0 8 := ⟨rfl, rfl⟩
theorem r_X11_isPut_8 : RW M_X11_isPut 8 (.iconst 1) 1 0 0 9 := ⟨rfl, rfl⟩
theorem r_X11_isPut_9 : RW M_X11_isPut 9 (.iadd) 1 0 0 10 := ⟨rfl, rfl⟩
theorem r_X11_isPut_10 : RW M_X11_isPut 10 (.iaload) 1 0 0 11 := ⟨rfl, rfl⟩
theorem r_X11_isPut_11 : RW M_X11_isPut 11 (.if_icmp .gt 21) 3 32 0 14 := ⟨rfl, rfl⟩
theorem r_X11_isPut_14 : RW M_X11_isPut 14 (.aload_n 0) 1 0 0 15 := ⟨rfl, rfl⟩
theorem r_X11_isPut_15 : RW M_X11_isPut 15 (.getfield 74) 3 11 43 18 := ⟨rfl, rfl⟩
theorem r_X11_isPut_18 : RW M_X11_isPut 18 (.iconst 0) 1 0 0 19 := ⟨rfl, rfl⟩
theorem r_X11_isPut_19 : RW M_X11_isPut 19 (.iload_n 2) 1 0 0 20 := ⟨rfl, rfl⟩
theorem r_X11_isPut_20 : RW M_X11_isPut 20 (.iadd) 1 0 0 21 := ⟨rfl, rfl⟩
theorem r_X11_isPut_21 : RW M_X11_isPut 21 (.iaload) 1 0 0 22 := ⟨rfl, rfl⟩
theorem r_X11_isPut_22 : RW M_X11_isPut 22 (.aload_n 0) 1 0 0 23 := ⟨rfl, rfl⟩
theorem r_X11_isPut_23 : RW M_X11_isPut 23 (.getfield 74) 3 11 43 26 := ⟨rfl, rfl⟩
theorem r_X11_isPut_26 : RW M_X11_isPut 26 (.bipush 30) 2 0 0 28 := ⟨rfl, rfl⟩
theorem r_X11_isPut_28 : RW M_X11_isPut 28 (.iaload) 1 0 0 29 := ⟨rfl, rfl⟩
theorem r_X11_isPut_29 : RW M_X11_isPut 29 (.if_icmp .ge 5) 3 34 0 32 := ⟨rfl, rfl⟩
theorem r_X11_isPut_32 : RW M_X11_isPut 32 (.iconst 0) 1 0 0 33 := ⟨rfl, rfl⟩
theorem r_X11_isPut_33 : RW M_X11_isPut 33 (.ireturn) 1 0 0 34 := ⟨rfl, rfl⟩
theorem r_X11_isPut_34 : RW M_X11_isPut 34 (.aload_n 0) 1 0 0 35 := ⟨rfl, rfl⟩
theorem r_X11_isPut_35 : RW M_X11_isPut 35 (.getfield 74) 3 11 43 38 := ⟨rfl, rfl⟩
theorem r_X11_isPut_38 : RW M_X11_isPut 38 (.iconst 0) 1 0 0 39 := ⟨rfl, rfl⟩
theorem r_X11_isPut_39 : RW M_X11_isPut 39 (.iload_n 2) 1 0 0 40 := ⟨rfl, rfl⟩
theorem r_X11_isPut_40 : RW M_X11_isPut 40 (.iadd) 1 0 0 41 := ⟨rfl, rfl⟩
theorem r_X11_isPut_41 : RW M_X11_isPut 41 (.aload_n 0) 1 0 0 42 := ⟨rfl, rfl⟩
theorem r_X11_isPut_42 : RW M_X11_isPut 42 (.getfield 74) 3 11 43 45 := ⟨rfl, rfl⟩
theorem r_X11_isPut_45 : RW M_X11_isPut 45 (.iconst 0) 1 0 0 46 := ⟨rfl, rfl⟩
theorem r_X11_isPut_46 : RW M_X11_isPut 46 (.iload_n 2) 1 0 0 47 := ⟨rfl, rfl⟩
theorem r_X11_isPut_47 : RW M_X11_isPut 47 (.iadd) 1 0 0 48 := ⟨rfl, rfl⟩
theorem r_X11_isPut_48 : RW M_X11_isPut 48 (.iaload) 1 0 0 49 := ⟨rfl, rfl⟩
theorem r_X11_isPut_49 : RW M_X11_isPut 49 (.iload_n 3) 1 0 0 50 := ⟨rfl, rfl⟩
theorem r_X11_isPut_50 : RW M_X11_isPut 50 (.iadd) 1 0 0 51 := ⟨rfl, rfl⟩
theorem r_X11_isPut_51 : RW M_X11_isPut 51 (.invokestatic 351) 3 215 0 54 := ⟨rfl, rfl⟩
theorem r_X11_isPut_54 : RW M_X11_isPut 54 (.iastore) 1 0 0 55 := ⟨rfl, rfl⟩
theorem r_X11_isPut_55 : RW M_X11_isPut 55 (.iconst 1) 1 0 0 56 := ⟨rfl, rfl⟩
theorem r_X11_isPut_56 : RW M_X11_isPut 56 (.ireturn) 1 0 0 57 := ⟨rfl, rfl⟩
theorem r_X2_callBird_0 : RW M_X2_callBird 0 (.aload_n 0) 1 0 0 1 := ⟨rfl, rfl⟩
theorem r_X2_callBird_1 : RW M_X2_callBird 1 (.getfield 29) 3 2 6 4 := ⟨rfl, rfl⟩
theorem r_X2_callBird_4 : RW M_X2_callBird 4 (.iload_n 1) 1 0 0 5 := ⟨rfl, rfl⟩
theorem r_X2_callBird_5 : RW M_X2_callBird 5 (.invokevirtual 69) 3 92 0 8 := ⟨rfl, rfl⟩
theorem r_X2_callBird_8 : RW M_X2_callBird 8 (.iconst 1) 1 0 0 9 := ⟨rfl, rfl⟩
theorem r_X2_callBird_9 : RW M_X2_callBird 9 (.if_icmp .lt 18) 3 27 0 12 := ⟨rfl, rfl⟩
theorem r_X2_callBird_12 : RW M_X2_callBird 12 (.aload_n 0) 1 0 0 13 := ⟨rfl, rfl⟩
theorem r_X2_callBird_13 : RW M_X2_callBird 13 (.getfield 20) 3 2 3 16 := ⟨rfl, rfl⟩
theorem r_X2_callBird_16 : RW M_X2_callBird 16 (.iload_n 2) 1 0 0 17 := ⟨rfl, rfl⟩
theorem r_X2_callBird_17 : RW M_X2_callBird 17 (.invokevirtual 69) 3 92 0 20 := ⟨rfl, rfl⟩
theorem r_X2_callBird_20 : RW M_X2_callBird 20 (.aload_n 0) 1 0 0 21 := ⟨rfl, rfl⟩
theorem r_X2_callBird_21 : RW M_X2_callBird 21 (.getfield 40) 3 2 7 24 := ⟨rfl, rfl⟩
theorem r_X2_callBird_24 : RW M_X2_callBird 24 (.if_icmp .gt 5) 3 29 0 27 := ⟨rfl, rfl⟩
theorem r_X2_callBird_27 : RW M_X2_callBird 27 (.iconst 0) 1 0 0 28 := ⟨rfl, rfl⟩
theorem r_X2_callBird_28 : RW M_X2_callBird 28 (.ireturn) 1 0 0 29 := ⟨rfl, rfl⟩
theorem r_X2_callBird_29 : RW M_X2_callBird 29 (.aload_n 0) 1 0 0 30 := ⟨rfl, rfl⟩
theorem r_X2_callBird_30 : RW M_X2_callBird 30 (.getfield 29) 3 2 6 33 := ⟨rfl, rfl⟩
theorem r_X2_callBird_33 : RW M_X2_callBird 33 (.iload_n 1) 1 0 0 34 := ⟨rfl, rfl⟩
theorem r_X2_callBird_34 : RW M_X2_callBird 34 (.aload_n 0) 1 0 0 35 := ⟨rfl, rfl⟩
theorem r_X2_callBird_35 : RW M_X2_callBird 35 (.getfield 29) 3 2 6 38 := ⟨rfl, rfl⟩
theorem r_X2_callBird_38 : RW M_X2_callBird 38 (.iload_n 1) 1 0 0 39 := ⟨rfl, rfl⟩
theorem r_X2_callBird_39 : RW M_X2_callBird 39 (.invokevirtual 69) 3 92 0 42 := ⟨rfl, rfl⟩
theorem r_X2_callBird_42 : RW M_X2_callBird 42 (.iconst 1) 1 0 0 43 := ⟨rfl, rfl⟩
theorem r_X2_callBird_43 : RW M_X2_callBird 43 (.isub) 1 0 0 44 := ⟨rfl, rfl⟩
theorem r_X2_callBird_44 : RW M_X2_callBird 44 (.invokevirtual 59) 3 93 0 47 := ⟨rfl, rfl⟩
theorem r_X2_callBird_47 : RW M_X2_callBird 47 (.aload_n 0) 1 0 0 48 := ⟨rfl, rfl⟩
theorem r_X2_callBird_48 : RW M_X2_callBird 48 (.getfield 20) 3 2 3 51 := ⟨rfl, rfl⟩
theorem r_X2_callBird_51 : RW M_X2_callBird 51 (.iload_n 2) 1 0 0 52 := ⟨rfl, rfl⟩
theorem r_X2_callBird_52 : RW M_X2_callBird 52 (.aload_n 0) 1 0 0 53 := ⟨rfl, rfl⟩
theorem r_X2_callBird_53 : RW M_X2_callBird 53 (.getfield 40) 3 2 7 56 := ⟨rfl, rfl⟩
theorem r_X2_callBird_56 : RW M_X2_callBird 56 (.invokevirtual 59) 3 93 0 59 := ⟨rfl, rfl⟩
theorem r_X2_callBird_59 : RW M_X2_callBird 59 (.aload_n 0) 1 0 0 60 := ⟨rfl, rfl⟩
theorem r_X2_callBird_60 : RW M_X2_callBird 60 (.invokevirtual 66) 3 28 0 63 := ⟨rfl, rfl⟩
theorem r_X2_callBird_63 : RW M_X2_callBird 63 (.iconst 1) 1 0 0 64 := ⟨rfl, rfl⟩
theorem r_X2_callBird_64 : RW M_X2_callBird 64 (.ireturn) 1 0 0 65 := ⟨rfl, rfl⟩
theorem r_X2_leadBird_0 : RW M_X2_leadBird 0 (.aload_n 0) 1 0 0 1 := ⟨rfl, rfl⟩
theorem r_X2_leadBird_1 : RW M_X2_leadBird 1 (.iload_n 1) 1 0 0 2 := ⟨rfl, rfl⟩
theorem r_X2_leadBird_2 : RW M_X2_leadBird 2 (.iload_n 2) 1 0 0 3 := ⟨rfl, rfl⟩
theorem r_X2_leadBird_3 : RW M_X2_leadBird 3 (.iload_n 3) 1 0 0 4 := ⟨rfl, rfl⟩
theorem r_X2_leadBird_4 : RW M_X2_leadBird 4 (.invokevirtual 138) 3 41 0 7 := ⟨rfl, rfl⟩
theorem r_X2_leadBird_7 : RW M_X2_leadBird 7 (.ifCond .ne 5) 3 12 0 10 := ⟨rfl, rfl⟩
theorem r_X2_leadBird_10 : RW M_X2_leadBird 10 (.iconst 0) 1 0 0 11 := ⟨rfl, rfl⟩
theorem r_X2_leadBird_11 : RW M_X2_leadBird 11 (.ireturn) 1 0 0 12 := ⟨rfl, rfl⟩
theorem r_X2_leadBird_12 : RW M_X2_leadBird 12 (.aload_n 0) 1 0 0 13 := ⟨rfl, rfl⟩
theorem r_X2_leadBird_13 : RW M_X2_leadBird 13 (.getfield 29) 3 2 6 16 := ⟨rfl, rfl⟩
theorem r_X2_leadBird_16 : RW M_X2_leadBird 16 (.iload_n 1) 1 0 0 17 := ⟨rfl, rfl⟩
theorem r_X2_leadBird_17 : RW M_X2_leadBird 17 (.aload_n 0) 1 0 0 18 := ⟨rfl, rfl⟩
theorem r_X2_leadBird_18 : RW M_X2_leadBird 18 (.getfield 29) 3 2 6 21 := ⟨rfl, rfl⟩
theorem r_X2_leadBird_21 : RW M_X2_leadBird 21 (.iload_n 1) 1 0 0 22 := ⟨rfl, rfl⟩
theorem r_X2_leadBird_22 : RW M_X2_leadBird 22 (.invokevirtual 69) 3 92 0 25 := ⟨rfl, rfl⟩
theorem r_X2_leadBird_25 : RW M_X2_leadBird 25 (.iload_n 3) 1 0 0 26 := ⟨rfl, rfl⟩
theorem r_X2_leadBird_26 : RW M_X2_leadBird 26 (.isub) 1 0 0 27 := ⟨rfl, rfl⟩
theorem r_X2_leadBird_27 : RW M_X2_leadBird 27 (.invokevirtual 59) 3 93 0 30 := ⟨rfl, rfl⟩
theorem r_X2_leadBird_30 : RW M_X2_leadBird 30 (.aload_n 0) 1 0 0 31 := ⟨rfl, rfl⟩
theorem r_X2_leadBird_31 : RW M_X2_leadBird 31 (.getfield 20) 3 2 3 34 := ⟨rfl, rfl⟩
theorem r_X2_leadBird_34 : RW M_X2_leadBird 34 (.iload_n 2) 1 0 0 35 := ⟨rfl, rfl⟩
theorem r_X2_leadBird_35 : RW M_X2_leadBird 35 (.aload_n 0) 1 0 0 36 := ⟨rfl, rfl⟩
theorem r_X2_leadBird_36 : RW M_X2_leadBird 36 (.iload_n 2) 1 0 0 37 := ⟨rfl, rfl⟩
theorem r_X2_leadBird_37 : RW M_X2_leadBird 37 (.iload_n 3) 1 0 0 38 := ⟨rfl, rfl⟩
theorem r_X2_leadBird_38 : RW M_X2_leadBird 38 (.invokevirtual 90) 3 30 0 41 := ⟨rfl, rfl⟩
theorem r_X2_leadBird_41 : RW M_X2_leadBird 41 (.invokevirtual 59) 3 93 0 44 := ⟨rfl, rfl⟩
theorem r_X2_leadBird_44 : RW M_X2_leadBird 44 (.aload_n 0) 1 0 0 45 := ⟨rfl, rfl⟩
theorem r_X2_leadBird_45 : RW M_X2_leadBird 45 (.getfield 23) 3 2 4 48 := ⟨rfl, rfl⟩
theorem r_X2_leadBird_48 : RW M_X2_leadBird 48 (.iload_n 2) 1 0 0 49 := ⟨rfl, rfl⟩
theorem r_X2_leadBird_49 : RW M_X2_leadBird 49 (.aload_n 0) 1 0 0 50 := ⟨rfl, rfl⟩
theorem r_X2_leadBird_50 : RW M_X2_leadBird 50 (.getfield 23) 3 2 4 53 := ⟨rfl, rfl⟩
theorem r_X2_leadBird_53 : RW M_X2_leadBird 53 (.iload_n 2) 1 0 0 54 := ⟨rfl, rfl⟩
theorem r_X2_leadBird_54 : RW M_X2_leadBird 54 (.invokevirtual 69) 3 92 0 57 := ⟨rfl, rfl⟩
theorem r_X2_leadBird_57 : RW M_X2_leadBird 57 (.iload_n 3) 1 0 0 58 := ⟨rfl, rfl⟩
theorem r_X2_leadBird_58 : RW M_X2_leadBird 58 (.iadd) 1 0 0 59 := ⟨rfl, rfl⟩
theorem r_X2_leadBird_59 : RW M_X2_leadBird 59 (.invokevirtual 59) 3 93 0 62 := ⟨rfl, rfl⟩
theorem r_X2_leadBird_62 : RW M_X2_leadBird 62 (.aload_n 0) 1 0 0 63 := ⟨rfl, rfl⟩
theorem r_X2_leadBird_63 : RW M_X2_leadBird 63 (.invokevirtual 66) 3 28 0 66 := ⟨rfl, rfl⟩
theorem r_X2_leadBird_66 : RW M_X2_leadBird 66 (.iconst 1) 1 0 0 67 := ⟨rfl, rfl⟩
theorem r_X2_leadBird_67 : RW M_X2_leadBird 67 (.ireturn) 1 0 0 68 := ⟨rfl, rfl⟩
theorem r_X2_noteSaying_0 : RW M_X2_noteSaying 0 (.aload_n 0) 1 0 0 1 := ⟨rfl, rfl⟩
theorem r_X2_noteSaying_1 : RW M_X2_noteSaying 1 (.iload_n 1) 1 0 0 2 := ⟨rfl, rfl⟩
theorem r_X2_noteSaying_2 : RW M_X2_noteSaying 2 (.invokevirtual 145) 3 40 0 5 := ⟨rfl, rfl⟩
theorem r_X2_noteSaying_5 : RW M_X2_noteSaying 5 (.ifCond .ne 28) 3 33 0 8 := ⟨rfl, rfl⟩
theorem r_X2_noteSaying_8 : RW M_X2_noteSaying 8 (.aload_n 0) 1 0 0 9 := ⟨rfl, rfl⟩
theorem r_X2_noteSaying_9 : RW M_X2_noteSaying 9 (.getfield 16) 3 2 2 12 := ⟨rfl, rfl⟩
theorem r_X2_noteSaying_12 : RW M_X2_noteSaying 12 (.iload_n 1) 1 0 0 13 := ⟨rfl, rfl⟩
theorem r_X2_noteSaying_13 : RW M_X2_noteSaying 13 (.invokevirtual 69) 3 92 0 16 := ⟨rfl, rfl⟩
theorem r_X2_noteSaying_16 : RW M_X2_noteSaying 16 (.aload_n 0) 1 0 0 17 := ⟨rfl, rfl⟩
theorem r_X2_noteSaying_17 : RW M_X2_noteSaying 17 (.getfield 40) 3 2 7 20 := ⟨rfl, rfl⟩
theorem r_X2_noteSaying_20 : RW M_X2_noteSaying 20 (.if_icmp .gt 11) 3 31 0 23 := ⟨rfl, rfl⟩
theorem r_X2_noteSaying_23 : RW M_X2_noteSaying 23 (.aload_n 0) 1 0 0 24 := ⟨rfl, rfl⟩
theorem r_X2_noteSaying_24 : RW M_X2_noteSaying 24 (.iload_n 1) 1 0 0 25 := ⟨rfl, rfl⟩
theorem r_X2_noteSaying_25 : RW M_X2_noteSaying 25 (.invokevirtual 131) 3 35 0 28 := ⟨rfl, rfl⟩
theorem r_X2_noteSaying_28 : RW M_X2_noteSaying 28 (.ifCond .eq 5) 3 33 0 31 := ⟨rfl, rfl⟩
theorem r_X2_noteSaying_31 : RW M_X2_noteSaying 31 (.iconst 0) 1 0 0 32 := ⟨rfl, rfl⟩
theorem r_X2_noteSaying_32 : RW M_X2_noteSaying 32 (.ireturn) 1 0 0 33 := ⟨rfl, rfl⟩
theorem r_X2_noteSaying_33 : RW M_X2_noteSaying 33 (.aload_n 0) 1 0 0 34 := ⟨rfl, rfl⟩
theorem r_X2_noteSaying_34 : RW M_X2_noteSaying 34 (.dup) 1 0 0 35 := ⟨rfl, rfl⟩
theorem r_X2_noteSaying_35 : RW M_X2_noteSaying 35 (.getfield 44) 3 2 8 38 := ⟨rfl, rfl⟩
theorem r_X2_noteSaying_38 : RW M_X2_noteSaying 38 (.iload_n 1) 1 0 0 39 := ⟨rfl, rfl⟩
theorem r_X2_noteSaying_39 : RW M_X2_noteSaying 39 (.invokestatic 122) 3 162 0 42 := ⟨rfl, rfl⟩
theorem r_X2_noteSaying_42 : RW M_X2_noteSaying 42 (.ixor) 1 0 0 43 := ⟨rfl, rfl⟩
theorem r_X2_noteSaying_43 : RW M_X2_noteSaying 43 (.putfield 44) 3 2 8 46 := ⟨rfl, rfl⟩
theorem r_X2_noteSaying_46 : RW M_X2_noteSaying 46 (.aload_n 0) 1 0 0 47 := ⟨rfl, rfl⟩
theorem r_X2_noteSaying_47 : RW M_X2_noteSaying 47 (.invokevirtual 66) 3 28 0 50 := ⟨rfl, rfl⟩
theorem r_X2_noteSaying_50 : RW M_X2_noteSaying 50 (.iconst 1) 1 0 0 51 := ⟨rfl, rfl⟩
theorem r_X2_noteSaying_51 : RW M_X2_noteSaying 51 (.ireturn) 1 0 0 52 := ⟨rfl, rfl⟩
theorem r_X2_passMinute_0 : RW M_X2_passMinute 0 (.aload_n 0) 1 0 0 1 := ⟨rfl, rfl⟩
theorem r_X2_passMinute_1 : RW M_X2_passMinute 1 (.getfield 40) 3 2 7 4 := ⟨rfl, rfl⟩
theorem r_X2_passMinute_4 : RW M_X2_passMinute 4 (.sipush 400) 3 0 0 7 := ⟨rfl, rfl⟩
theorem r_X2_passMinute_7 : RW M_X2_passMinute 7 (.if_icmp .lt 5) 3 12 0 10 := ⟨rfl, rfl⟩
theorem r_X2_passMinute_10 : RW M_X2_passMinute 10 (.iconst 0) 1 0 0 11 := ⟨rfl, rfl⟩
theorem r_X2_passMinute_11 : RW M_X2_passMinute 11 (.ireturn) 1 0 0 12 := ⟨rfl, rfl⟩
theorem r_X2_passMinute_12 : RW M_X2_passMinute 12 (.aload_n 0) 1 0 0 13 := ⟨rfl, rfl⟩
theorem r_X2_passMinute_13 : RW M_X2_passMinute 13 (.dup) 1 0 0 14 := ⟨rfl, rfl⟩
theorem r_X2_passMinute_14 : RW M_X2_passMinute 14 (.getfield 40) 3 2 7 17 := ⟨rfl, rfl⟩
theorem r_X2_passMinute_17 : RW M_X2_passMinute 17 (.iconst 1) 1 0 0 18 := ⟨rfl, rfl⟩
theorem r_X2_passMinute_18 : RW M_X2_passMinute 18 (.iadd) 1 0 0 19 := ⟨rfl, rfl⟩
theorem r_X2_passMinute_19 : RW M_X2_passMinute 19 (.putfield 40) 3 2 7 22 := ⟨rfl, rfl⟩
theorem r_X2_passMinute_22 : RW M_X2_passMinute 22 (.iconst 1) 1 0 0 23 := ⟨rfl, rfl⟩
theorem r_X2_passMinute_23 : RW M_X2_passMinute 23 (.ireturn) 1 0 0 24 := ⟨rfl, rfl⟩
theorem r_X2_putOff_0 : RW M_X2_putOff 0 (.iload_n 3) 1 0 0 1 := ⟨rfl, rfl⟩
theorem r_X2_putOff_1 : RW M_X2_putOff 1 (.aload_n 0) 1 0 0 2 := ⟨rfl, rfl⟩
theorem r_X2_putOff_2 : RW M_X2_putOff 2 (.getfield 32) 3 2 0 5 := ⟨rfl, rfl⟩
theorem r_X2_putOff_5 : RW M_X2_putOff 5 (.getfield 142) 3 1 9 8 := ⟨rfl, rfl⟩
theorem r_X2_putOff_8 : RW M_X2_putOff 8 (.iload_n 1) 1 0 0 9 := ⟨rfl, rfl⟩
theorem r_X2_putOff_9 : RW M_X2_putOff 9 (.invokevirtual 69) 3 92 0 12 := ⟨rfl, rfl⟩
theorem r_X2_putOff_12 : RW M_X2_putOff 12 (.if_icmp .gt 18) 3 30 0 15 := ⟨rfl, rfl⟩
theorem r_X2_putOff_15 : RW M_X2_putOff 15 (.aload_n 0) 1 0 0 16 := ⟨rfl, rfl⟩
theorem r_X2_putOff_16 : RW M_X2_putOff 16 (.getfield 16) 3 2 2 19 := ⟨rfl, rfl⟩
theorem r_X2_putOff_19 : RW M_X2_putOff 19 (.iload_n 2) 1 0 0 20 := ⟨rfl, rfl⟩
theorem r_X2_putOff_20 : RW M_X2_putOff 20 (.invokevirtual 69) 3 92 0 23 := ⟨rfl, rfl⟩
theorem r_X2_putOff_23 : RW M_X2_putOff 23 (.aload_n 0) 1 0 0 24 := ⟨rfl, rfl⟩
theorem r_X2_putOff_24 : RW M_X2_putOff 24 (.getfield 40) 3 2 7 27 := ⟨rfl, rfl⟩
theorem r_X2_putOff_27 : RW M_X2_putOff 27 (.if_icmp .ge 5) 3 32 0 30 := ⟨rfl, rfl⟩
theorem r_X2_putOff_30 : RW M_X2_putOff 30 (.iconst 0) 1 0 0 31 := ⟨rfl, rfl⟩
theorem r_X2_putOff_31 : RW M_X2_putOff 31 (.ireturn) 1 0 0 32 := ⟨rfl, rfl⟩
theorem r_X2_putOff_32 : RW M_X2_putOff 32 (.aload_n 0) 1 0 0 33 := ⟨rfl, rfl⟩
theorem r_X2_putOff_33 : RW M_X2_putOff 33 (.getfield 16) 3 2 2 36 := ⟨rfl, rfl⟩
theorem r_X2_putOff_36 : RW M_X2_putOff 36 (.iload_n 2) 1 0 0 37 := ⟨rfl, rfl⟩
theorem r_X2_putOff_37 : RW M_X2_putOff 37 (.sipush 400) 3 0 0 40 := ⟨rfl, rfl⟩
theorem r_X2_putOff_40 : RW M_X2_putOff 40 (.aload_n 0) 1 0 0 41 := ⟨rfl, rfl⟩
theorem r_X2_putOff_41 : RW M_X2_putOff 41 (.getfield 16) 3 2 2 44 := ⟨rfl, rfl⟩
theorem r_X2_putOff_44 : RW M_X2_putOff 44 (.iload_n 2) 1 0 0 45 := ⟨rfl, rfl⟩
theorem r_X2_putOff_45 : RW M_X2_putOff 45 (.invokevirtual 69) 3 92 0 48 := ⟨rfl, rfl⟩
theorem r_X2_putOff_48 : RW M_X2_putOff 48 (.iload_n 3) 1 0 0 49 := ⟨rfl, rfl⟩
theorem r_X2_putOff_49 : RW M_X2_putOff 49 (.iadd) 1 0 0 50 := ⟨rfl, rfl⟩
theorem r_X2_putOff_50 : RW M_X2_putOff 50 (.invokestatic 104) 3 900 0 53 := ⟨rfl, rfl⟩
theorem r_X2_putOff_53 : RW M_X2_putOff 53 (.invokevirtual 59) 3 93 0 56 := ⟨rfl, rfl⟩
theorem r_X2_putOff_56 : RW M_X2_putOff 56 (.iconst 1) 1 0 0 57 := ⟨rfl, rfl⟩
theorem r_X2_putOff_57 : RW M_X2_putOff 57 (.ireturn) 1 0 0 58 := ⟨rfl, rfl⟩
theorem c71_call {d : Nat} {I : Nat → Nat → Int32} {J : Nat → Nat → Int64} {κ : CT} {l : LW} {η : HS} (hc_ : HC 4 κ I) (cb : CB κ) (hh : HH 71 η I) (hb_ : HB κ η) (hl : HL 46 l I) (lb : LB l) {k b : Nat} (hk : k < 4) (hb2 : b < 4)  (hd : 6 ≤ d) : RI d 42 [.ref 71, .int (nI k), .int (nI b)] I J (fun v I' => v = bI (qCall η k b) ∧ HH 71 (if qCall η k b = true then ms κ l (hCall η k b) κ.nb else η) I' ∧ ∀ x, x ≠ 50 → x ≠ 52 → (x < 71 ∨ 81 < x) → I' x = I x) := by
  refine RI.in (d0 := 5) hd mt_42 (Nat.le_of_ble_eq_true rfl) (fun d' hd' => ?_)
  have bns := cb.ns; have bnb := cb.nb; have bnc := cb.nc; have bnr := cb.nr
  have bm_ := hb_.mi
  show EV none M_X2_callBird d' 0 [(0, .ref 71), (1, .int (nI k)), (2, .int (nI b))] [] (hp I J) _
  refine EV.l (lv' := [(0, _), (1, _), (2, _)]) r_X2_callBird_0 rfl ?_
  refine EV.gR r_X2_callBird_1 la_71 ?_
  have b1 := hb_.cr k; have b2 := hb_.be b
  refine EV.l (lv' := [(0, _), (1, _), (2, _)]) r_X2_callBird_4 rfl ?_
  refine EV.cv r_X2_callBird_5 (aV1 mt_92 la_80) (c_getN (by omega) la_80 la_81 (hh.cr _ (by omega))) ?_
  refine EV.o r_X2_callBird_8 (icN (1) (v := 1)) ?_
  refine EV.n2_lt r_X2_callBird_9 (fun h9 => ?_) (fun h9 => ?_)
  · -- 9 t
    refine EV.o r_X2_callBird_27 (icN (0) (v := 0)) ?_
    exact EV.ri r_X2_callBird_28 (⟨by rw [show qCall η k b = false from decide_eq_false (by omega)]; rfl, by rw [if_neg (by rw [show qCall η k b = false from decide_eq_false (by omega)]; decide)]; exact hh, fun _ _ _ _ => rfl⟩)
  · -- 9 f
    refine EV.l (lv' := [(0, _), (1, _), (2, _)]) r_X2_callBird_12 rfl ?_
    refine EV.gR r_X2_callBird_13 la_71 ?_
    refine EV.l (lv' := [(0, _), (1, _), (2, _)]) r_X2_callBird_16 rfl ?_
    refine EV.cv r_X2_callBird_17 (aV1 mt_92 la_74) (c_getN (by omega) la_74 la_75 (hh.be _ (by omega))) ?_
    refine EV.l (lv' := [(0, _), (1, _), (2, _)]) r_X2_callBird_20 rfl ?_
    refine EV.getV r_X2_callBird_21 la_71 (hh.mi) ?_
    refine EV.n2_gt r_X2_callBird_24 (fun h24 => ?_) (fun h24 => ?_)
    · -- 24 t
      refine EV.l (lv' := [(0, _), (1, _), (2, _)]) r_X2_callBird_29 rfl ?_
      refine EV.gR r_X2_callBird_30 la_71 ?_
      refine EV.l (lv' := [(0, _), (1, _), (2, _)]) r_X2_callBird_33 rfl ?_
      refine EV.l (lv' := [(0, _), (1, _), (2, _)]) r_X2_callBird_34 rfl ?_
      refine EV.gR r_X2_callBird_35 la_71 ?_
      refine EV.l (lv' := [(0, _), (1, _), (2, _)]) r_X2_callBird_38 rfl ?_
      refine EV.cv r_X2_callBird_39 (aV1 mt_92 la_80) (c_getN (by omega) la_80 la_81 (hh.cr _ (by omega))) ?_
      refine EV.o r_X2_callBird_42 (icN (1) (v := 1)) ?_
      refine EV.o r_X2_callBird_43 (isubN) ?_
      refine EV.cu r_X2_callBird_44 (aV2 mt_93 la_80) (c_set la_80 la_81 (by decide) (by decide) (by omega) (by omega)) (fun I2 eI2 => ?_)
      have hh2 : HH 71 (η.scr (un η.cr k (η.cr k - 1))) I2 := by subst eI2; exact hh.pcr
      refine EV.l (lv' := [(0, _), (1, _), (2, _)]) r_X2_callBird_47 rfl ?_
      refine EV.gR r_X2_callBird_48 la_71 ?_
      refine EV.l (lv' := [(0, _), (1, _), (2, _)]) r_X2_callBird_51 rfl ?_
      refine EV.l (lv' := [(0, _), (1, _), (2, _)]) r_X2_callBird_52 rfl ?_
      refine EV.getV r_X2_callBird_53 la_71 (hh2.mi) ?_
      refine EV.cu r_X2_callBird_56 (aV2 mt_93 la_74) (c_set la_74 la_75 (by decide) (by decide) (by omega) (by omega)) (fun I3 eI3 => ?_)
      have hh3 : HH 71 (hCall η k b) I3 := by subst eI3; exact hh2.pbe
      refine EV.l (lv' := [(0, _), (1, _), (2, _)]) r_X2_callBird_59 rfl ?_
      refine EV.cu r_X2_callBird_60 (aV0 mt_28 la_71) (c71_measure (hc_.fr (fun x a1 a2 => (by subst eI3; subst eI2; (repeat rw [wr_row (by omega)])))) cb hh3 (hb_.call (by omega)) (hl.fr (by subst eI3; subst eI2; (repeat rw [wr_row (by omega)])) (by subst eI3; subst eI2; (repeat rw [wr_row (by omega)]))) lb (by omega)) (fun I9 h9 => ?_)
      obtain ⟨h9a, h9b⟩ := h9
      refine EV.o r_X2_callBird_63 (icN (1) (v := 1)) ?_
      exact EV.ri r_X2_callBird_64 (⟨by rw [show qCall η k b = true from decide_eq_true (by omega)]; rfl, by rw [if_pos (show qCall η k b = true from decide_eq_true (by omega))]; exact h9a, fun x a1 a2 a3 => (h9b x a1 a2 (by omega)).trans (by subst eI3; subst eI2; (repeat rw [wr_row (by omega)]))⟩)
    · -- 24 f
      refine EV.o r_X2_callBird_27 (icN (0) (v := 0)) ?_
      exact EV.ri r_X2_callBird_28 (⟨by rw [show qCall η k b = false from decide_eq_false (by omega)]; rfl, by rw [if_neg (by rw [show qCall η k b = false from decide_eq_false (by omega)]; decide)]; exact hh, fun _ _ _ _ => rfl⟩)
theorem c71_lead {d : Nat} {I : Nat → Nat → Int32} {J : Nat → Nat → Int64} {κ : CT} {l : LW} {η : HS} (hc_ : HC 4 κ I) (cb : CB κ) (hh : HH 71 η I) (hb_ : HB κ η) (hl : HL 46 l I) (lb : LB l) {k b n : Nat} (hk : k < 4) (hb2 : b < 4) (hn : n < 100)  (hd : 6 ≤ d) : RI d 43 [.ref 71, .int (nI k), .int (nI b), .int (nI n)] I J (fun v I' => v = bI (canL η k b n) ∧ HH 71 (if canL η k b n = true then ms κ l (hLead η k b n) κ.nb else η) I' ∧ ∀ x, x ≠ 50 → x ≠ 52 → (x < 71 ∨ 81 < x) → I' x = I x) := by
  refine RI.in (d0 := 5) hd mt_43 (Nat.le_of_ble_eq_true rfl) (fun d' hd' => ?_)
  have bns := cb.ns; have bnb := cb.nb; have bnc := cb.nc; have bnr := cb.nr
  have bm_ := hb_.mi
  show EV none M_X2_leadBird d' 0 [(0, .ref 71), (1, .int (nI k)), (2, .int (nI b)), (3, .int (nI n))] [] (hp I J) _
  refine EV.l (lv' := [(0, _), (1, _), (2, _), (3, _)]) r_X2_leadBird_0 rfl ?_
  refine EV.l (lv' := [(0, _), (1, _), (2, _), (3, _)]) r_X2_leadBird_1 rfl ?_
  refine EV.l (lv' := [(0, _), (1, _), (2, _), (3, _)]) r_X2_leadBird_2 rfl ?_
  refine EV.l (lv' := [(0, _), (1, _), (2, _), (3, _)]) r_X2_leadBird_3 rfl ?_
  refine EV.cv r_X2_leadBird_4 (aV3 mt_41 la_71) (c71_canLead hc_ cb hh hb_ (by omega) (by omega) (by omega) (by omega)) ?_
  refine EV.b0_ne r_X2_leadBird_7 (fun h7 => ?_) (fun h7 => ?_)
  · -- 7 t
    have cl9 : n ≤ η.cr k ∧ η.mi ≤ η.be b := of_decide_eq_true h7
    have b1 := hb_.cr k; have b2 := hb_.be b
    refine EV.l (lv' := [(0, _), (1, _), (2, _), (3, _)]) r_X2_leadBird_12 rfl ?_
    refine EV.gR r_X2_leadBird_13 la_71 ?_
    refine EV.l (lv' := [(0, _), (1, _), (2, _), (3, _)]) r_X2_leadBird_16 rfl ?_
    refine EV.l (lv' := [(0, _), (1, _), (2, _), (3, _)]) r_X2_leadBird_17 rfl ?_
    refine EV.gR r_X2_leadBird_18 la_71 ?_
    refine EV.l (lv' := [(0, _), (1, _), (2, _), (3, _)]) r_X2_leadBird_21 rfl ?_
    refine EV.cv r_X2_leadBird_22 (aV1 mt_92 la_80) (c_getN (by omega) la_80 la_81 (hh.cr _ (by omega))) ?_
    refine EV.l (lv' := [(0, _), (1, _), (2, _), (3, _)]) r_X2_leadBird_25 rfl ?_
    refine EV.o r_X2_leadBird_26 (isubN) ?_
    refine EV.cu r_X2_leadBird_27 (aV2 mt_93 la_80) (c_set la_80 la_81 (by decide) (by decide) (by omega) (by omega)) (fun I2 eI2 => ?_)
    have hh2 : HH 71 (η.scr (un η.cr k (η.cr k - n))) I2 := by subst eI2; exact hh.pcr
    refine EV.l (lv' := [(0, _), (1, _), (2, _), (3, _)]) r_X2_leadBird_30 rfl ?_
    refine EV.gR r_X2_leadBird_31 la_71 ?_
    refine EV.l (lv' := [(0, _), (1, _), (2, _), (3, _)]) r_X2_leadBird_34 rfl ?_
    refine EV.l (lv' := [(0, _), (1, _), (2, _), (3, _)]) r_X2_leadBird_35 rfl ?_
    refine EV.l (lv' := [(0, _), (1, _), (2, _), (3, _)]) r_X2_leadBird_36 rfl ?_
    refine EV.l (lv' := [(0, _), (1, _), (2, _), (3, _)]) r_X2_leadBird_37 rfl ?_
    refine EV.cv r_X2_leadBird_38 (aV2 mt_30 la_71) (c71_beginIf (hc_.fr (fun x a1 a2 => (by subst eI2; exact wr_row (by omega)))) cb hh2 (show HB κ (η.scr (un η.cr k (η.cr k - n))) from ⟨hb_.mi, hb_.nt, hb_.sa, hb_.be, hb_.wk, un_le hb_.cr (by omega)⟩) (by omega) (by omega) (by omega)) ?_
    refine EV.cu r_X2_leadBird_41 (aV2 mt_93 la_74) (c_set la_74 la_75 (by decide) (by decide) (by omega) (by omega)) (fun I3 eI3 => ?_)
    have hh3 : HH 71 ((η.scr (un η.cr k (η.cr k - n))).sbe (un η.be b (min 400 (η.be b + n)))) I3 := by subst eI3; exact hh2.pbe
    refine EV.l (lv' := [(0, _), (1, _), (2, _), (3, _)]) r_X2_leadBird_44 rfl ?_
    refine EV.gR r_X2_leadBird_45 la_71 ?_
    refine EV.l (lv' := [(0, _), (1, _), (2, _), (3, _)]) r_X2_leadBird_48 rfl ?_
    refine EV.l (lv' := [(0, _), (1, _), (2, _), (3, _)]) r_X2_leadBird_49 rfl ?_
    refine EV.gR r_X2_leadBird_50 la_71 ?_
    refine EV.l (lv' := [(0, _), (1, _), (2, _), (3, _)]) r_X2_leadBird_53 rfl ?_
    refine EV.cv r_X2_leadBird_54 (aV1 mt_92 la_76) (c_getN (by omega) la_76 la_77 (hh3.le _ (by omega))) ?_
    refine EV.l (lv' := [(0, _), (1, _), (2, _), (3, _)]) r_X2_leadBird_57 rfl ?_
    refine EV.o r_X2_leadBird_58 iaddN ?_
    refine EV.cu r_X2_leadBird_59 (aV2 mt_93 la_76) (c_set la_76 la_77 (by decide) (by decide) (by omega) (by omega)) (fun I4 eI4 => ?_)
    have hh4 : HH 71 (hLead η k b n) I4 := by subst eI4; exact hh3.ple
    refine EV.l (lv' := [(0, _), (1, _), (2, _), (3, _)]) r_X2_leadBird_62 rfl ?_
    refine EV.cu r_X2_leadBird_63 (aV0 mt_28 la_71) (c71_measure (hc_.fr (fun x a1 a2 => (by subst eI4; subst eI3; subst eI2; (repeat rw [wr_row (by omega)])))) cb hh4 (hb_.lead) (hl.fr (by subst eI4; subst eI3; subst eI2; (repeat rw [wr_row (by omega)])) (by subst eI4; subst eI3; subst eI2; (repeat rw [wr_row (by omega)]))) lb (by omega)) (fun I9 h9 => ?_)
    obtain ⟨h9a, h9b⟩ := h9
    refine EV.o r_X2_leadBird_66 (icN (1) (v := 1)) ?_
    exact EV.ri r_X2_leadBird_67 (⟨by rw [h7]; rfl, by rw [if_pos h7]; exact h9a, fun x a1 a2 a3 => (h9b x a1 a2 (by omega)).trans (by subst eI4; subst eI3; subst eI2; (repeat rw [wr_row (by omega)]))⟩)
  · -- 7 f
    refine EV.o r_X2_leadBird_10 (icN (0) (v := 0)) ?_
    exact EV.ri r_X2_leadBird_11 (⟨by rw [h7]; rfl, by rw [if_neg (by rw [h7]; decide)]; exact hh, fun _ _ _ _ => rfl⟩)
theorem c71_note {d : Nat} {I : Nat → Nat → Int32} {J : Nat → Nat → Int64} {κ : CT} {l : LW} {η : HS} (hc_ : HC 4 κ I) (cb : CB κ) (hh : HH 71 η I) (hb_ : HB κ η) (hl : HL 46 l I) (lb : LB l) (hw : HW κ η) {i : Nat} (hi : i < κ.ns)  (hd : 6 ≤ d) : RI d 45 [.ref 71, .int (nI i)] I J (fun v I' => v = bI (qNote κ η i) ∧ HH 71 (if qNote κ η i = true then ms κ l (hNote η i) κ.nb else η) I' ∧ ∀ x, x ≠ 50 → x ≠ 52 → (x < 71 ∨ 81 < x) → I' x = I x) := by
  refine RI.in (d0 := 5) hd mt_45 (Nat.le_of_ble_eq_true rfl) (fun d' hd' => ?_)
  have bns := cb.ns; have bnb := cb.nb; have bnc := cb.nc; have bnr := cb.nr
  have bm_ := hb_.mi
  show EV none M_X2_noteSaying d' 0 [(0, .ref 71), (1, .int (nI i))] [] (hp I J) _
  refine EV.l (lv' := [(0, _), (1, _)]) r_X2_noteSaying_0 rfl ?_
  refine EV.l (lv' := [(0, _), (1, _)]) r_X2_noteSaying_1 rfl ?_
  refine EV.cv r_X2_noteSaying_2 (aV1 mt_40 la_71) (c71_isNoted hc_ cb hh hb_ (by omega) (by omega)) ?_
  refine EV.b0_ne r_X2_noteSaying_5 (fun h5 => ?_) (fun h5 => ?_)
  · -- 5 t
    refine EV.l (lv' := [(0, _), (1, _)]) r_X2_noteSaying_33 rfl ?_
    refine EV.o r_X2_noteSaying_34 rfl ?_
    refine EV.getV r_X2_noteSaying_35 la_71 (hh.nt) ?_
    refine EV.l (lv' := [(0, _), (1, _)]) r_X2_noteSaying_38 rfl ?_
    refine EV.cv r_X2_noteSaying_39 (aS1 mt_162) (c_bit (by omega) (by omega)) ?_
    refine EV.o r_X2_noteSaying_42 ixorN ?_
    refine EV.pIn r_X2_noteSaying_43 la_71 (fun I2 eI2 => ?_)
    have hh2 : HH 71 (hNote η i) I2 := by subst eI2; exact hh.pnt
    refine EV.l (lv' := [(0, _), (1, _)]) r_X2_noteSaying_46 rfl ?_
    refine EV.cu r_X2_noteSaying_47 (aV0 mt_28 la_71) (c71_measure (hc_.fr (fun x a1 a2 => (by subst eI2; (repeat rw [wr_row (by omega)])))) cb hh2 (hb_.note hi) (hl.fr (by subst eI2; (repeat rw [wr_row (by omega)])) (by subst eI2; (repeat rw [wr_row (by omega)]))) lb (by omega)) (fun I9 h9 => ?_)
    obtain ⟨h9a, h9b⟩ := h9
    refine EV.o r_X2_noteSaying_50 (icN (1) (v := 1)) ?_
    exact EV.ri r_X2_noteSaying_51 (⟨by rw [show qNote κ η i = true from by first | exact nt_t1 h5 | exact nt_t2 (by omega) h28]; rfl, by rw [if_pos (show qNote κ η i = true from by first | exact nt_t1 h5 | exact nt_t2 (by omega) h28)]; exact h9a, fun x a1 a2 a3 => (h9b x a1 a2 (by omega)).trans (by subst eI2; (repeat rw [wr_row (by omega)]))⟩)
  · -- 5 f
    refine EV.l (lv' := [(0, _), (1, _)]) r_X2_noteSaying_8 rfl ?_
    refine EV.gR r_X2_noteSaying_9 la_71 ?_
    refine EV.l (lv' := [(0, _), (1, _)]) r_X2_noteSaying_12 rfl ?_
    refine EV.cv r_X2_noteSaying_13 (aV1 mt_92 la_72) (c_getN (by omega) la_72 la_73 (hh.sa _ (by omega))) ?_
    refine EV.l (lv' := [(0, _), (1, _)]) r_X2_noteSaying_16 rfl ?_
    refine EV.getV r_X2_noteSaying_17 la_71 (hh.mi) ?_
    have b1 := hb_.sa i
    refine EV.n2_gt r_X2_noteSaying_20 (fun h20 => ?_) (fun h20 => ?_)
    · -- 20 t
      refine EV.o r_X2_noteSaying_31 (icN (0) (v := 0)) ?_
      exact EV.ri r_X2_noteSaying_32 (⟨by rw [nt_f h5 (by first | exact Or.inl (by omega) | exact Or.inr h28)]; rfl, by rw [if_neg (by rw [nt_f h5 (by first | exact Or.inl (by omega) | exact Or.inr h28)]; decide)]; exact hh, fun _ _ _ _ => rfl⟩)
    · -- 20 f
      refine EV.l (lv' := [(0, _), (1, _)]) r_X2_noteSaying_23 rfl ?_
      refine EV.l (lv' := [(0, _), (1, _)]) r_X2_noteSaying_24 rfl ?_
      refine EV.cv r_X2_noteSaying_25 (aV1 mt_35 la_71) (c71_does hc_ cb hh hb_ hw (by omega) (by omega)) ?_
      refine EV.b0_eq r_X2_noteSaying_28 (fun h28 => ?_) (fun h28 => ?_)
      · -- 28 t
        refine EV.l (lv' := [(0, _), (1, _)]) r_X2_noteSaying_33 rfl ?_
        refine EV.o r_X2_noteSaying_34 rfl ?_
        refine EV.getV r_X2_noteSaying_35 la_71 (hh.nt) ?_
        refine EV.l (lv' := [(0, _), (1, _)]) r_X2_noteSaying_38 rfl ?_
        refine EV.cv r_X2_noteSaying_39 (aS1 mt_162) (c_bit (by omega) (by omega)) ?_
        refine EV.o r_X2_noteSaying_42 ixorN ?_
        refine EV.pIn r_X2_noteSaying_43 la_71 (fun I2 eI2 => ?_)
        have hh2 : HH 71 (hNote η i) I2 := by subst eI2; exact hh.pnt
        refine EV.l (lv' := [(0, _), (1, _)]) r_X2_noteSaying_46 rfl ?_
        refine EV.cu r_X2_noteSaying_47 (aV0 mt_28 la_71) (c71_measure (hc_.fr (fun x a1 a2 => (by subst eI2; (repeat rw [wr_row (by omega)])))) cb hh2 (hb_.note hi) (hl.fr (by subst eI2; (repeat rw [wr_row (by omega)])) (by subst eI2; (repeat rw [wr_row (by omega)]))) lb (by omega)) (fun I9 h9 => ?_)
        obtain ⟨h9a, h9b⟩ := h9
        refine EV.o r_X2_noteSaying_50 (icN (1) (v := 1)) ?_
        exact EV.ri r_X2_noteSaying_51 (⟨by rw [show qNote κ η i = true from by first | exact nt_t1 h5 | exact nt_t2 (by omega) h28]; rfl, by rw [if_pos (show qNote κ η i = true from by first | exact nt_t1 h5 | exact nt_t2 (by omega) h28)]; exact h9a, fun x a1 a2 a3 => (h9b x a1 a2 (by omega)).trans (by subst eI2; (repeat rw [wr_row (by omega)]))⟩)
      · -- 28 f
        refine EV.o r_X2_noteSaying_31 (icN (0) (v := 0)) ?_
        exact EV.ri r_X2_noteSaying_32 (⟨by rw [nt_f h5 (by first | exact Or.inl (by omega) | exact Or.inr h28)]; rfl, by rw [if_neg (by rw [nt_f h5 (by first | exact Or.inl (by omega) | exact Or.inr h28)]; decide)]; exact hh, fun _ _ _ _ => rfl⟩)
theorem c95_call {d : Nat} {I : Nat → Nat → Int32} {J : Nat → Nat → Int64} {κ : CT} {l : LW} {η : HS} (hc_ : HC 4 κ I) (cb : CB κ) (hh : HH 95 η I) (hb_ : HB κ η) (hl : HL 46 l I) (lb : LB l) {k b : Nat} (hk : k < 4) (hb2 : b < 4)  (hd : 6 ≤ d) : RI d 42 [.ref 95, .int (nI k), .int (nI b)] I J (fun v I' => v = bI (qCall η k b) ∧ HH 95 (if qCall η k b = true then ms κ l (hCall η k b) κ.nb else η) I' ∧ ∀ x, x ≠ 50 → x ≠ 52 → (x < 95 ∨ 105 < x) → I' x = I x) := by
  refine RI.in (d0 := 5) hd mt_42 (Nat.le_of_ble_eq_true rfl) (fun d' hd' => ?_)
  have bns := cb.ns; have bnb := cb.nb; have bnc := cb.nc; have bnr := cb.nr
  have bm_ := hb_.mi
  show EV none M_X2_callBird d' 0 [(0, .ref 95), (1, .int (nI k)), (2, .int (nI b))] [] (hp I J) _
  refine EV.l (lv' := [(0, _), (1, _), (2, _)]) r_X2_callBird_0 rfl ?_
  refine EV.gR r_X2_callBird_1 la_95 ?_
  have b1 := hb_.cr k; have b2 := hb_.be b
  refine EV.l (lv' := [(0, _), (1, _), (2, _)]) r_X2_callBird_4 rfl ?_
  refine EV.cv r_X2_callBird_5 (aV1 mt_92 la_104) (c_getN (by omega) la_104 la_105 (hh.cr _ (by omega))) ?_
  refine EV.o r_X2_callBird_8 (icN (1) (v := 1)) ?_
  refine EV.n2_lt r_X2_callBird_9 (fun h9 => ?_) (fun h9 => ?_)
  · -- 9 t
    refine EV.o r_X2_callBird_27 (icN (0) (v := 0)) ?_
    exact EV.ri r_X2_callBird_28 (⟨by rw [show qCall η k b = false from decide_eq_false (by omega)]; rfl, by rw [if_neg (by rw [show qCall η k b = false from decide_eq_false (by omega)]; decide)]; exact hh, fun _ _ _ _ => rfl⟩)
  · -- 9 f
    refine EV.l (lv' := [(0, _), (1, _), (2, _)]) r_X2_callBird_12 rfl ?_
    refine EV.gR r_X2_callBird_13 la_95 ?_
    refine EV.l (lv' := [(0, _), (1, _), (2, _)]) r_X2_callBird_16 rfl ?_
    refine EV.cv r_X2_callBird_17 (aV1 mt_92 la_98) (c_getN (by omega) la_98 la_99 (hh.be _ (by omega))) ?_
    refine EV.l (lv' := [(0, _), (1, _), (2, _)]) r_X2_callBird_20 rfl ?_
    refine EV.getV r_X2_callBird_21 la_95 (hh.mi) ?_
    refine EV.n2_gt r_X2_callBird_24 (fun h24 => ?_) (fun h24 => ?_)
    · -- 24 t
      refine EV.l (lv' := [(0, _), (1, _), (2, _)]) r_X2_callBird_29 rfl ?_
      refine EV.gR r_X2_callBird_30 la_95 ?_
      refine EV.l (lv' := [(0, _), (1, _), (2, _)]) r_X2_callBird_33 rfl ?_
      refine EV.l (lv' := [(0, _), (1, _), (2, _)]) r_X2_callBird_34 rfl ?_
      refine EV.gR r_X2_callBird_35 la_95 ?_
      refine EV.l (lv' := [(0, _), (1, _), (2, _)]) r_X2_callBird_38 rfl ?_
      refine EV.cv r_X2_callBird_39 (aV1 mt_92 la_104) (c_getN (by omega) la_104 la_105 (hh.cr _ (by omega))) ?_
      refine EV.o r_X2_callBird_42 (icN (1) (v := 1)) ?_
      refine EV.o r_X2_callBird_43 (isubN) ?_
      refine EV.cu r_X2_callBird_44 (aV2 mt_93 la_104) (c_set la_104 la_105 (by decide) (by decide) (by omega) (by omega)) (fun I2 eI2 => ?_)
      have hh2 : HH 95 (η.scr (un η.cr k (η.cr k - 1))) I2 := by subst eI2; exact hh.pcr
      refine EV.l (lv' := [(0, _), (1, _), (2, _)]) r_X2_callBird_47 rfl ?_
      refine EV.gR r_X2_callBird_48 la_95 ?_
      refine EV.l (lv' := [(0, _), (1, _), (2, _)]) r_X2_callBird_51 rfl ?_
      refine EV.l (lv' := [(0, _), (1, _), (2, _)]) r_X2_callBird_52 rfl ?_
      refine EV.getV r_X2_callBird_53 la_95 (hh2.mi) ?_
      refine EV.cu r_X2_callBird_56 (aV2 mt_93 la_98) (c_set la_98 la_99 (by decide) (by decide) (by omega) (by omega)) (fun I3 eI3 => ?_)
      have hh3 : HH 95 (hCall η k b) I3 := by subst eI3; exact hh2.pbe
      refine EV.l (lv' := [(0, _), (1, _), (2, _)]) r_X2_callBird_59 rfl ?_
      refine EV.cu r_X2_callBird_60 (aV0 mt_28 la_95) (c95_measure (hc_.fr (fun x a1 a2 => (by subst eI3; subst eI2; (repeat rw [wr_row (by omega)])))) cb hh3 (hb_.call (by omega)) (hl.fr (by subst eI3; subst eI2; (repeat rw [wr_row (by omega)])) (by subst eI3; subst eI2; (repeat rw [wr_row (by omega)]))) lb (by omega)) (fun I9 h9 => ?_)
      obtain ⟨h9a, h9b⟩ := h9
      refine EV.o r_X2_callBird_63 (icN (1) (v := 1)) ?_
      exact EV.ri r_X2_callBird_64 (⟨by rw [show qCall η k b = true from decide_eq_true (by omega)]; rfl, by rw [if_pos (show qCall η k b = true from decide_eq_true (by omega))]; exact h9a, fun x a1 a2 a3 => (h9b x a1 a2 (by omega)).trans (by subst eI3; subst eI2; (repeat rw [wr_row (by omega)]))⟩)
    · -- 24 f
      refine EV.o r_X2_callBird_27 (icN (0) (v := 0)) ?_
      exact EV.ri r_X2_callBird_28 (⟨by rw [show qCall η k b = false from decide_eq_false (by omega)]; rfl, by rw [if_neg (by rw [show qCall η k b = false from decide_eq_false (by omega)]; decide)]; exact hh, fun _ _ _ _ => rfl⟩)
theorem c95_lead {d : Nat} {I : Nat → Nat → Int32} {J : Nat → Nat → Int64} {κ : CT} {l : LW} {η : HS} (hc_ : HC 4 κ I) (cb : CB κ) (hh : HH 95 η I) (hb_ : HB κ η) (hl : HL 46 l I) (lb : LB l) {k b n : Nat} (hk : k < 4) (hb2 : b < 4) (hn : n < 100)  (hd : 6 ≤ d) : RI d 43 [.ref 95, .int (nI k), .int (nI b), .int (nI n)] I J (fun v I' => v = bI (canL η k b n) ∧ HH 95 (if canL η k b n = true then ms κ l (hLead η k b n) κ.nb else η) I' ∧ ∀ x, x ≠ 50 → x ≠ 52 → (x < 95 ∨ 105 < x) → I' x = I x) := by
  refine RI.in (d0 := 5) hd mt_43 (Nat.le_of_ble_eq_true rfl) (fun d' hd' => ?_)
  have bns := cb.ns; have bnb := cb.nb; have bnc := cb.nc; have bnr := cb.nr
  have bm_ := hb_.mi
  show EV none M_X2_leadBird d' 0 [(0, .ref 95), (1, .int (nI k)), (2, .int (nI b)), (3, .int (nI n))] [] (hp I J) _
  refine EV.l (lv' := [(0, _), (1, _), (2, _), (3, _)]) r_X2_leadBird_0 rfl ?_
  refine EV.l (lv' := [(0, _), (1, _), (2, _), (3, _)]) r_X2_leadBird_1 rfl ?_
  refine EV.l (lv' := [(0, _), (1, _), (2, _), (3, _)]) r_X2_leadBird_2 rfl ?_
  refine EV.l (lv' := [(0, _), (1, _), (2, _), (3, _)]) r_X2_leadBird_3 rfl ?_
  refine EV.cv r_X2_leadBird_4 (aV3 mt_41 la_95) (c95_canLead hc_ cb hh hb_ (by omega) (by omega) (by omega) (by omega)) ?_
  refine EV.b0_ne r_X2_leadBird_7 (fun h7 => ?_) (fun h7 => ?_)
  · -- 7 t
    have cl9 : n ≤ η.cr k ∧ η.mi ≤ η.be b := of_decide_eq_true h7
    have b1 := hb_.cr k; have b2 := hb_.be b
    refine EV.l (lv' := [(0, _), (1, _), (2, _), (3, _)]) r_X2_leadBird_12 rfl ?_
    refine EV.gR r_X2_leadBird_13 la_95 ?_
    refine EV.l (lv' := [(0, _), (1, _), (2, _), (3, _)]) r_X2_leadBird_16 rfl ?_
    refine EV.l (lv' := [(0, _), (1, _), (2, _), (3, _)]) r_X2_leadBird_17 rfl ?_
    refine EV.gR r_X2_leadBird_18 la_95 ?_
    refine EV.l (lv' := [(0, _), (1, _), (2, _), (3, _)]) r_X2_leadBird_21 rfl ?_
    refine EV.cv r_X2_leadBird_22 (aV1 mt_92 la_104) (c_getN (by omega) la_104 la_105 (hh.cr _ (by omega))) ?_
    refine EV.l (lv' := [(0, _), (1, _), (2, _), (3, _)]) r_X2_leadBird_25 rfl ?_
    refine EV.o r_X2_leadBird_26 (isubN) ?_
    refine EV.cu r_X2_leadBird_27 (aV2 mt_93 la_104) (c_set la_104 la_105 (by decide) (by decide) (by omega) (by omega)) (fun I2 eI2 => ?_)
    have hh2 : HH 95 (η.scr (un η.cr k (η.cr k - n))) I2 := by subst eI2; exact hh.pcr
    refine EV.l (lv' := [(0, _), (1, _), (2, _), (3, _)]) r_X2_leadBird_30 rfl ?_
    refine EV.gR r_X2_leadBird_31 la_95 ?_
    refine EV.l (lv' := [(0, _), (1, _), (2, _), (3, _)]) r_X2_leadBird_34 rfl ?_
    refine EV.l (lv' := [(0, _), (1, _), (2, _), (3, _)]) r_X2_leadBird_35 rfl ?_
    refine EV.l (lv' := [(0, _), (1, _), (2, _), (3, _)]) r_X2_leadBird_36 rfl ?_
    refine EV.l (lv' := [(0, _), (1, _), (2, _), (3, _)]) r_X2_leadBird_37 rfl ?_
    refine EV.cv r_X2_leadBird_38 (aV2 mt_30 la_95) (c95_beginIf (hc_.fr (fun x a1 a2 => (by subst eI2; exact wr_row (by omega)))) cb hh2 (show HB κ (η.scr (un η.cr k (η.cr k - n))) from ⟨hb_.mi, hb_.nt, hb_.sa, hb_.be, hb_.wk, un_le hb_.cr (by omega)⟩) (by omega) (by omega) (by omega)) ?_
    refine EV.cu r_X2_leadBird_41 (aV2 mt_93 la_98) (c_set la_98 la_99 (by decide) (by decide) (by omega) (by omega)) (fun I3 eI3 => ?_)
    have hh3 : HH 95 ((η.scr (un η.cr k (η.cr k - n))).sbe (un η.be b (min 400 (η.be b + n)))) I3 := by subst eI3; exact hh2.pbe
    refine EV.l (lv' := [(0, _), (1, _), (2, _), (3, _)]) r_X2_leadBird_44 rfl ?_
    refine EV.gR r_X2_leadBird_45 la_95 ?_
    refine EV.l (lv' := [(0, _), (1, _), (2, _), (3, _)]) r_X2_leadBird_48 rfl ?_
    refine EV.l (lv' := [(0, _), (1, _), (2, _), (3, _)]) r_X2_leadBird_49 rfl ?_
    refine EV.gR r_X2_leadBird_50 la_95 ?_
    refine EV.l (lv' := [(0, _), (1, _), (2, _), (3, _)]) r_X2_leadBird_53 rfl ?_
    refine EV.cv r_X2_leadBird_54 (aV1 mt_92 la_100) (c_getN (by omega) la_100 la_101 (hh3.le _ (by omega))) ?_
    refine EV.l (lv' := [(0, _), (1, _), (2, _), (3, _)]) r_X2_leadBird_57 rfl ?_
    refine EV.o r_X2_leadBird_58 iaddN ?_
    refine EV.cu r_X2_leadBird_59 (aV2 mt_93 la_100) (c_set la_100 la_101 (by decide) (by decide) (by omega) (by omega)) (fun I4 eI4 => ?_)
    have hh4 : HH 95 (hLead η k b n) I4 := by subst eI4; exact hh3.ple
    refine EV.l (lv' := [(0, _), (1, _), (2, _), (3, _)]) r_X2_leadBird_62 rfl ?_
    refine EV.cu r_X2_leadBird_63 (aV0 mt_28 la_95) (c95_measure (hc_.fr (fun x a1 a2 => (by subst eI4; subst eI3; subst eI2; (repeat rw [wr_row (by omega)])))) cb hh4 (hb_.lead) (hl.fr (by subst eI4; subst eI3; subst eI2; (repeat rw [wr_row (by omega)])) (by subst eI4; subst eI3; subst eI2; (repeat rw [wr_row (by omega)]))) lb (by omega)) (fun I9 h9 => ?_)
    obtain ⟨h9a, h9b⟩ := h9
    refine EV.o r_X2_leadBird_66 (icN (1) (v := 1)) ?_
    exact EV.ri r_X2_leadBird_67 (⟨by rw [h7]; rfl, by rw [if_pos h7]; exact h9a, fun x a1 a2 a3 => (h9b x a1 a2 (by omega)).trans (by subst eI4; subst eI3; subst eI2; (repeat rw [wr_row (by omega)]))⟩)
  · -- 7 f
    refine EV.o r_X2_leadBird_10 (icN (0) (v := 0)) ?_
    exact EV.ri r_X2_leadBird_11 (⟨by rw [h7]; rfl, by rw [if_neg (by rw [h7]; decide)]; exact hh, fun _ _ _ _ => rfl⟩)
theorem c95_note {d : Nat} {I : Nat → Nat → Int32} {J : Nat → Nat → Int64} {κ : CT} {l : LW} {η : HS} (hc_ : HC 4 κ I) (cb : CB κ) (hh : HH 95 η I) (hb_ : HB κ η) (hl : HL 46 l I) (lb : LB l) (hw : HW κ η) {i : Nat} (hi : i < κ.ns)  (hd : 6 ≤ d) : RI d 45 [.ref 95, .int (nI i)] I J (fun v I' => v = bI (qNote κ η i) ∧ HH 95 (if qNote κ η i = true then ms κ l (hNote η i) κ.nb else η) I' ∧ ∀ x, x ≠ 50 → x ≠ 52 → (x < 95 ∨ 105 < x) → I' x = I x) := by
  refine RI.in (d0 := 5) hd mt_45 (Nat.le_of_ble_eq_true rfl) (fun d' hd' => ?_)
  have bns := cb.ns; have bnb := cb.nb; have bnc := cb.nc; have bnr := cb.nr
  have bm_ := hb_.mi
  show EV none M_X2_noteSaying d' 0 [(0, .ref 95), (1, .int (nI i))] [] (hp I J) _
  refine EV.l (lv' := [(0, _), (1, _)]) r_X2_noteSaying_0 rfl ?_
  refine EV.l (lv' := [(0, _), (1, _)]) r_X2_noteSaying_1 rfl ?_
  refine EV.cv r_X2_noteSaying_2 (aV1 mt_40 la_95) (c95_isNoted hc_ cb hh hb_ (by omega) (by omega)) ?_
  refine EV.b0_ne r_X2_noteSaying_5 (fun h5 => ?_) (fun h5 => ?_)
  · -- 5 t
    refine EV.l (lv' := [(0, _), (1, _)]) r_X2_noteSaying_33 rfl ?_
    refine EV.o r_X2_noteSaying_34 rfl ?_
    refine EV.getV r_X2_noteSaying_35 la_95 (hh.nt) ?_
    refine EV.l (lv' := [(0, _), (1, _)]) r_X2_noteSaying_38 rfl ?_
    refine EV.cv r_X2_noteSaying_39 (aS1 mt_162) (c_bit (by omega) (by omega)) ?_
    refine EV.o r_X2_noteSaying_42 ixorN ?_
    refine EV.pIn r_X2_noteSaying_43 la_95 (fun I2 eI2 => ?_)
    have hh2 : HH 95 (hNote η i) I2 := by subst eI2; exact hh.pnt
    refine EV.l (lv' := [(0, _), (1, _)]) r_X2_noteSaying_46 rfl ?_
    refine EV.cu r_X2_noteSaying_47 (aV0 mt_28 la_95) (c95_measure (hc_.fr (fun x a1 a2 => (by subst eI2; (repeat rw [wr_row (by omega)])))) cb hh2 (hb_.note hi) (hl.fr (by subst eI2; (repeat rw [wr_row (by omega)])) (by subst eI2; (repeat rw [wr_row (by omega)]))) lb (by omega)) (fun I9 h9 => ?_)
    obtain ⟨h9a, h9b⟩ := h9
    refine EV.o r_X2_noteSaying_50 (icN (1) (v := 1)) ?_
    exact EV.ri r_X2_noteSaying_51 (⟨by rw [show qNote κ η i = true from by first | exact nt_t1 h5 | exact nt_t2 (by omega) h28]; rfl, by rw [if_pos (show qNote κ η i = true from by first | exact nt_t1 h5 | exact nt_t2 (by omega) h28)]; exact h9a, fun x a1 a2 a3 => (h9b x a1 a2 (by omega)).trans (by subst eI2; (repeat rw [wr_row (by omega)]))⟩)
  · -- 5 f
    refine EV.l (lv' := [(0, _), (1, _)]) r_X2_noteSaying_8 rfl ?_
    refine EV.gR r_X2_noteSaying_9 la_95 ?_
    refine EV.l (lv' := [(0, _), (1, _)]) r_X2_noteSaying_12 rfl ?_
    refine EV.cv r_X2_noteSaying_13 (aV1 mt_92 la_96) (c_getN (by omega) la_96 la_97 (hh.sa _ (by omega))) ?_
    refine EV.l (lv' := [(0, _), (1, _)]) r_X2_noteSaying_16 rfl ?_
    refine EV.getV r_X2_noteSaying_17 la_95 (hh.mi) ?_
    have b1 := hb_.sa i
    refine EV.n2_gt r_X2_noteSaying_20 (fun h20 => ?_) (fun h20 => ?_)
    · -- 20 t
      refine EV.o r_X2_noteSaying_31 (icN (0) (v := 0)) ?_
      exact EV.ri r_X2_noteSaying_32 (⟨by rw [nt_f h5 (by first | exact Or.inl (by omega) | exact Or.inr h28)]; rfl, by rw [if_neg (by rw [nt_f h5 (by first | exact Or.inl (by omega) | exact Or.inr h28)]; decide)]; exact hh, fun _ _ _ _ => rfl⟩)
    · -- 20 f
      refine EV.l (lv' := [(0, _), (1, _)]) r_X2_noteSaying_23 rfl ?_
      refine EV.l (lv' := [(0, _), (1, _)]) r_X2_noteSaying_24 rfl ?_
      refine EV.cv r_X2_noteSaying_25 (aV1 mt_35 la_95) (c95_does hc_ cb hh hb_ hw (by omega) (by omega)) ?_
      refine EV.b0_eq r_X2_noteSaying_28 (fun h28 => ?_) (fun h28 => ?_)
      · -- 28 t
        refine EV.l (lv' := [(0, _), (1, _)]) r_X2_noteSaying_33 rfl ?_
        refine EV.o r_X2_noteSaying_34 rfl ?_
        refine EV.getV r_X2_noteSaying_35 la_95 (hh.nt) ?_
        refine EV.l (lv' := [(0, _), (1, _)]) r_X2_noteSaying_38 rfl ?_
        refine EV.cv r_X2_noteSaying_39 (aS1 mt_162) (c_bit (by omega) (by omega)) ?_
        refine EV.o r_X2_noteSaying_42 ixorN ?_
        refine EV.pIn r_X2_noteSaying_43 la_95 (fun I2 eI2 => ?_)
        have hh2 : HH 95 (hNote η i) I2 := by subst eI2; exact hh.pnt
        refine EV.l (lv' := [(0, _), (1, _)]) r_X2_noteSaying_46 rfl ?_
        refine EV.cu r_X2_noteSaying_47 (aV0 mt_28 la_95) (c95_measure (hc_.fr (fun x a1 a2 => (by subst eI2; (repeat rw [wr_row (by omega)])))) cb hh2 (hb_.note hi) (hl.fr (by subst eI2; (repeat rw [wr_row (by omega)])) (by subst eI2; (repeat rw [wr_row (by omega)]))) lb (by omega)) (fun I9 h9 => ?_)
        obtain ⟨h9a, h9b⟩ := h9
        refine EV.o r_X2_noteSaying_50 (icN (1) (v := 1)) ?_
        exact EV.ri r_X2_noteSaying_51 (⟨by rw [show qNote κ η i = true from by first | exact nt_t1 h5 | exact nt_t2 (by omega) h28]; rfl, by rw [if_pos (show qNote κ η i = true from by first | exact nt_t1 h5 | exact nt_t2 (by omega) h28)]; exact h9a, fun x a1 a2 a3 => (h9b x a1 a2 (by omega)).trans (by subst eI2; (repeat rw [wr_row (by omega)]))⟩)
      · -- 28 f
        refine EV.o r_X2_noteSaying_31 (icN (0) (v := 0)) ?_
        exact EV.ri r_X2_noteSaying_32 (⟨by rw [nt_f h5 (by first | exact Or.inl (by omega) | exact Or.inr h28)]; rfl, by rw [if_neg (by rw [nt_f h5 (by first | exact Or.inl (by omega) | exact Or.inr h28)]; decide)]; exact hh, fun _ _ _ _ => rfl⟩)
theorem c71_put {d : Nat} {I : Nat → Nat → Int32} {J : Nat → Nat → Int64} {κ : CT} {l : LW} {η : HS} (hc_ : HC 4 κ I) (cb : CB κ) (hh : HH 71 η I) (hb_ : HB κ η) (hl : HL 46 l I) (lb : LB l) {k i n : Nat} (hk : k < 4) (hi : i < 9) (hn : n < 100)  (hd : 4 ≤ d) : RI d 44 [.ref 71, .int (nI k), .int (nI i), .int (nI n)] I J (fun v I' => v = bI (qPut κ η k i n) ∧ HH 71 (if qPut κ η k i n = true then hPut η i n else η) I' ∧ ∀ x, (x < 71 ∨ 81 < x) → I' x = I x) := by
  refine RI.in (d0 := 3) hd mt_44 (Nat.le_of_ble_eq_true rfl) (fun d' hd' => ?_)
  have bns := cb.ns; have bnb := cb.nb; have bnc := cb.nc; have bnr := cb.nr
  have bm_ := hb_.mi; have b1 := cb.cs k; have b2 := hb_.sa i
  show EV none M_X2_putOff d' 0 [(0, .ref 71), (1, .int (nI k)), (2, .int (nI i)), (3, .int (nI n))] [] (hp I J) _
  refine EV.l (lv' := [(0, _), (1, _), (2, _), (3, _)]) r_X2_putOff_0 rfl ?_
  refine EV.l (lv' := [(0, _), (1, _), (2, _), (3, _)]) r_X2_putOff_1 rfl ?_
  refine EV.gR r_X2_putOff_2 la_71 ?_
  refine EV.gR r_X2_putOff_5 la_4 ?_
  refine EV.l (lv' := [(0, _), (1, _), (2, _), (3, _)]) r_X2_putOff_8 rfl ?_
  refine EV.cv r_X2_putOff_9 (aV1 mt_92 la_23) (c_getN (by omega) la_23 la_24 (hc_.cs _ (by omega))) ?_
  refine EV.n2_gt r_X2_putOff_12 (fun h12 => ?_) (fun h12 => ?_)
  · -- 12 t
    refine EV.o r_X2_putOff_30 (icN (0) (v := 0)) ?_
    exact EV.ri r_X2_putOff_31 (⟨by rw [show qPut κ η k i n = false from decide_eq_false (by omega)]; rfl, by rw [if_neg (by rw [show qPut κ η k i n = false from decide_eq_false (by omega)]; decide)]; exact hh, fun _ _ => rfl⟩)
  · -- 12 f
    refine EV.l (lv' := [(0, _), (1, _), (2, _), (3, _)]) r_X2_putOff_15 rfl ?_
    refine EV.gR r_X2_putOff_16 la_71 ?_
    refine EV.l (lv' := [(0, _), (1, _), (2, _), (3, _)]) r_X2_putOff_19 rfl ?_
    refine EV.cv r_X2_putOff_20 (aV1 mt_92 la_72) (c_getN (by omega) la_72 la_73 (hh.sa _ (by omega))) ?_
    refine EV.l (lv' := [(0, _), (1, _), (2, _), (3, _)]) r_X2_putOff_23 rfl ?_
    refine EV.getV r_X2_putOff_24 la_71 (hh.mi) ?_
    refine EV.n2_ge r_X2_putOff_27 (fun h27 => ?_) (fun h27 => ?_)
    · -- 27 t
      refine EV.l (lv' := [(0, _), (1, _), (2, _), (3, _)]) r_X2_putOff_32 rfl ?_
      refine EV.gR r_X2_putOff_33 la_71 ?_
      refine EV.l (lv' := [(0, _), (1, _), (2, _), (3, _)]) r_X2_putOff_36 rfl ?_
      refine EV.o r_X2_putOff_37 (spN (400) 400) ?_
      refine EV.l (lv' := [(0, _), (1, _), (2, _), (3, _)]) r_X2_putOff_40 rfl ?_
      refine EV.gR r_X2_putOff_41 la_71 ?_
      refine EV.l (lv' := [(0, _), (1, _), (2, _), (3, _)]) r_X2_putOff_44 rfl ?_
      refine EV.cv r_X2_putOff_45 (aV1 mt_92 la_72) (c_getN (by omega) la_72 la_73 (hh.sa _ (by omega))) ?_
      refine EV.l (lv' := [(0, _), (1, _), (2, _), (3, _)]) r_X2_putOff_48 rfl ?_
      refine EV.o r_X2_putOff_49 iaddN ?_
      refine EV.pmin r_X2_putOff_50 ?_
      refine EV.cu r_X2_putOff_53 (aV2 mt_93 la_72) (c_set la_72 la_73 (by decide) (by decide) (by omega) (by omega)) (fun I2 eI2 => ?_)
      have hh2 : HH 71 (hPut η i n) I2 := by subst eI2; exact hh.psa
      refine EV.o r_X2_putOff_56 (icN (1) (v := 1)) ?_
      exact EV.ri r_X2_putOff_57 (⟨by rw [show qPut κ η k i n = true from decide_eq_true (by omega)]; rfl, by rw [if_pos (show qPut κ η k i n = true from decide_eq_true (by omega))]; exact hh2, fun x a1 => by subst eI2; exact wr_row (by omega)⟩)
    · -- 27 f
      refine EV.o r_X2_putOff_30 (icN (0) (v := 0)) ?_
      exact EV.ri r_X2_putOff_31 (⟨by rw [show qPut κ η k i n = false from decide_eq_false (by omega)]; rfl, by rw [if_neg (by rw [show qPut κ η k i n = false from decide_eq_false (by omega)]; decide)]; exact hh, fun _ _ => rfl⟩)
theorem c71_min {d : Nat} {I : Nat → Nat → Int32} {J : Nat → Nat → Int64} {κ : CT} {η : HS} (hh : HH 71 η I) (hb_ : HB κ η)  (hd : 2 ≤ d) : RI d 46 [.ref 71] I J (fun v I' => v = bI (qMin η) ∧ HH 71 (if qMin η = true then hMin η else η) I' ∧ ∀ x, (x < 71 ∨ 81 < x) → I' x = I x) := by
  refine RI.in (d0 := 1) hd mt_46 (Nat.le_of_ble_eq_true rfl) (fun d' hd' => ?_)
  have bm_ := hb_.mi
  show EV none M_X2_passMinute d' 0 [(0, .ref 71)] [] (hp I J) _
  refine EV.l (lv' := [(0, _)]) r_X2_passMinute_0 rfl ?_
  refine EV.getV r_X2_passMinute_1 la_71 (hh.mi) ?_
  refine EV.o r_X2_passMinute_4 (spN (400) 400) ?_
  refine EV.n2_lt r_X2_passMinute_7 (fun h7 => ?_) (fun h7 => ?_)
  · -- 7 t
    refine EV.l (lv' := [(0, _)]) r_X2_passMinute_12 rfl ?_
    refine EV.o r_X2_passMinute_13 rfl ?_
    refine EV.getV r_X2_passMinute_14 la_71 (hh.mi) ?_
    refine EV.o r_X2_passMinute_17 (icN (1) (v := 1)) ?_
    refine EV.o r_X2_passMinute_18 iaddN ?_
    refine EV.pIn r_X2_passMinute_19 la_71 (fun I2 eI2 => ?_)
    refine EV.o r_X2_passMinute_22 (icN (1) (v := 1)) ?_
    exact EV.ri r_X2_passMinute_23 (⟨by rw [show qMin η = true from decide_eq_true (by omega)]; rfl, by rw [if_pos (show qMin η = true from decide_eq_true (by omega))]; subst eI2; exact hh.pmi, fun x a1 => by subst eI2; exact wr_row (by omega)⟩)
  · -- 7 f
    refine EV.o r_X2_passMinute_10 (icN (0) (v := 0)) ?_
    exact EV.ri r_X2_passMinute_11 (⟨by rw [show qMin η = false from decide_eq_false (by omega)]; rfl, by rw [if_neg (by rw [show qMin η = false from decide_eq_false (by omega)]; decide)]; exact hh, fun _ _ => rfl⟩)
theorem m_called {d : Nat} {I : Nat → Nat → Int32} {J : Nat → Nat → Int64} {κ : CT} {η : HS} (cb : CB κ) (mr : MR 126 κ η I) (hb_ : HB κ η) {k b : Nat} (hk : k < κ.nc) (hb2 : b < κ.nb)  (hd : 3 ≤ d) : RI d 227 [.ref 106, .int (nI k), .int (nI b)] I J (fun v I' => v = bI (qCall η k b) ∧ MR 126 κ (if qCall η k b = true then hCall η k b else η) I' ∧ ∀ x, x ≠ 126 → I' x = I x) := by
  refine RI.in (d0 := 2) hd mt_227 (Nat.le_of_ble_eq_true rfl) (fun d' hd' => ?_)
  have bns := cb.ns; have bnb := cb.nb; have bnc := cb.nc; have bnr := cb.nr
  have bm_ := hb_.mi
  show EV none M_X11_isCalled d' 0 [(0, .ref 106), (1, .int (nI k)), (2, .int (nI b))] [] (hp I J) _
  refine EV.l (lv' := [(0, _), (1, _), (2, _)]) r_X11_isCalled_0 rfl ?_
  refine EV.gR r_X11_isCalled_1 la_106 ?_
  refine EV.o r_X11_isCalled_4 (bpN (26) 26) ?_
  refine EV.l (lv' := [(0, _), (1, _), (2, _)]) r_X11_isCalled_6 rfl ?_
  refine EV.o r_X11_isCalled_7 iaddN ?_
  have b1 := hb_.cr k; have b2 := hb_.be b
  refine EV.iaN r_X11_isCalled_8 la_126 (mr.cr _ (by omega)) ?_
  refine EV.n0_eq r_X11_isCalled_9 (fun h9 => ?_) (fun h9 => ?_)
  · -- 9 t
    refine EV.o r_X11_isCalled_31 (icN (0) (v := 0)) ?_
    exact EV.ri r_X11_isCalled_32 (⟨by rw [show qCall η k b = false from decide_eq_false (by omega)]; rfl, by rw [if_neg (by rw [show qCall η k b = false from decide_eq_false (by omega)]; decide)]; exact mr, fun _ _ => rfl⟩)
  · -- 9 f
    refine EV.l (lv' := [(0, _), (1, _), (2, _)]) r_X11_isCalled_12 rfl ?_
    refine EV.gR r_X11_isCalled_13 la_106 ?_
    refine EV.o r_X11_isCalled_16 (bpN (18) 18) ?_
    refine EV.l (lv' := [(0, _), (1, _), (2, _)]) r_X11_isCalled_18 rfl ?_
    refine EV.o r_X11_isCalled_19 iaddN ?_
    refine EV.iaN r_X11_isCalled_20 la_126 (mr.be _ (by omega)) ?_
    refine EV.l (lv' := [(0, _), (1, _), (2, _)]) r_X11_isCalled_21 rfl ?_
    refine EV.gR r_X11_isCalled_22 la_106 ?_
    refine EV.o r_X11_isCalled_25 (bpN (30) 30) ?_
    refine EV.iaN r_X11_isCalled_27 la_126 (mr.mi) ?_
    refine EV.n2_gt r_X11_isCalled_28 (fun h28 => ?_) (fun h28 => ?_)
    · -- 28 t
      refine EV.l (lv' := [(0, _), (1, _), (2, _)]) r_X11_isCalled_33 rfl ?_
      refine EV.gR r_X11_isCalled_34 la_106 ?_
      refine EV.o r_X11_isCalled_37 (bpN (26) 26) ?_
      refine EV.l (lv' := [(0, _), (1, _), (2, _)]) r_X11_isCalled_39 rfl ?_
      refine EV.o r_X11_isCalled_40 iaddN ?_
      refine EV.o r_X11_isCalled_41 rfl ?_
      refine EV.iaN r_X11_isCalled_42 la_126 (mr.cr _ (by omega)) ?_
      refine EV.o r_X11_isCalled_43 (icN (1) (v := 1)) ?_
      refine EV.o r_X11_isCalled_44 (isubN) ?_
      refine EV.iaSn r_X11_isCalled_45 la_126 (fun I2 eI2 => ?_)
      have mr2 : MR 126 κ (η.scr (un η.cr k (η.cr k - 1))) I2 := by subst eI2; exact mr.pcr cb hk
      refine EV.l (lv' := [(0, _), (1, _), (2, _)]) r_X11_isCalled_46 rfl ?_
      refine EV.gR r_X11_isCalled_47 la_106 ?_
      refine EV.o r_X11_isCalled_50 (bpN (18) 18) ?_
      refine EV.l (lv' := [(0, _), (1, _), (2, _)]) r_X11_isCalled_52 rfl ?_
      refine EV.o r_X11_isCalled_53 iaddN ?_
      refine EV.l (lv' := [(0, _), (1, _), (2, _)]) r_X11_isCalled_54 rfl ?_
      refine EV.gR r_X11_isCalled_55 la_106 ?_
      refine EV.o r_X11_isCalled_58 (bpN (30) 30) ?_
      refine EV.iaN r_X11_isCalled_60 la_126 (mr2.mi) ?_
      refine EV.iaSn r_X11_isCalled_61 la_126 (fun I3 eI3 => ?_)
      have mr3 : MR 126 κ (hCall η k b) I3 := by subst eI3; exact mr2.pbe cb hb2
      refine EV.o r_X11_isCalled_62 (icN (1) (v := 1)) ?_
      exact EV.ri r_X11_isCalled_63 (⟨by rw [show qCall η k b = true from decide_eq_true (by omega)]; rfl, by rw [if_pos (show qCall η k b = true from decide_eq_true (by omega))]; exact mr3, fun x a1 => by subst eI3; subst eI2; (repeat rw [wr_row a1])⟩)
    · -- 28 f
      refine EV.o r_X11_isCalled_31 (icN (0) (v := 0)) ?_
      exact EV.ri r_X11_isCalled_32 (⟨by rw [show qCall η k b = false from decide_eq_false (by omega)]; rfl, by rw [if_neg (by rw [show qCall η k b = false from decide_eq_false (by omega)]; decide)]; exact mr, fun _ _ => rfl⟩)
theorem m_led {d : Nat} {I : Nat → Nat → Int32} {J : Nat → Nat → Int64} {κ : CT} {η : HS} (cb : CB κ) (mr : MR 126 κ η I) (hb_ : HB κ η) {k b n : Nat} (hk : k < κ.nc) (hb2 : b < κ.nb) (hn : n < 100)  (hd : 3 ≤ d) : RI d 229 [.ref 106, .int (nI k), .int (nI b), .int (nI n)] I J (fun v I' => v = bI (canL η k b n) ∧ MR 126 κ (if canL η k b n = true then hLead η k b n else η) I' ∧ ∀ x, x ≠ 126 → I' x = I x) := by
  refine RI.in (d0 := 2) hd mt_229 (Nat.le_of_ble_eq_true rfl) (fun d' hd' => ?_)
  have bns := cb.ns; have bnb := cb.nb; have bnc := cb.nc; have bnr := cb.nr
  have bm_ := hb_.mi
  show EV none M_X11_isLed d' 0 [(0, .ref 106), (1, .int (nI k)), (2, .int (nI b)), (3, .int (nI n))] [] (hp I J) _
  refine EV.l (lv' := [(0, _), (1, _), (2, _), (3, _)]) r_X11_isLed_0 rfl ?_
  refine EV.l (lv' := [(0, _), (1, _), (2, _), (3, _)]) r_X11_isLed_1 rfl ?_
  refine EV.l (lv' := [(0, _), (1, _), (2, _), (3, _)]) r_X11_isLed_2 rfl ?_
  refine EV.l (lv' := [(0, _), (1, _), (2, _), (3, _)]) r_X11_isLed_3 rfl ?_
  refine EV.cv r_X11_isLed_4 (aV3 mt_228 la_106) (m_mayLead mr cb hb_ hk hb2 (by omega) (by omega)) ?_
  refine EV.b0_ne r_X11_isLed_7 (fun h7 => ?_) (fun h7 => ?_)
  · -- 7 t
    have cl9 : n ≤ η.cr k ∧ η.mi ≤ η.be b := of_decide_eq_true h7
    have b1 := hb_.cr k; have b2 := hb_.be b
    refine EV.l (lv' := [(0, _), (1, _), (2, _), (3, _)]) r_X11_isLed_12 rfl ?_
    refine EV.gR r_X11_isLed_13 la_106 ?_
    refine EV.o r_X11_isLed_16 (bpN (26) 26) ?_
    refine EV.l (lv' := [(0, _), (1, _), (2, _), (3, _)]) r_X11_isLed_18 rfl ?_
    refine EV.o r_X11_isLed_19 iaddN ?_
    refine EV.o r_X11_isLed_20 rfl ?_
    refine EV.iaN r_X11_isLed_21 la_126 (mr.cr _ (by omega)) ?_
    refine EV.l (lv' := [(0, _), (1, _), (2, _), (3, _)]) r_X11_isLed_22 rfl ?_
    refine EV.o r_X11_isLed_23 (isubN) ?_
    refine EV.iaSn r_X11_isLed_24 la_126 (fun I2 eI2 => ?_)
    have mr2 : MR 126 κ (η.scr (un η.cr k (η.cr k - n))) I2 := by subst eI2; exact mr.pcr cb hk
    refine EV.l (lv' := [(0, _), (1, _), (2, _), (3, _)]) r_X11_isLed_25 rfl ?_
    refine EV.gR r_X11_isLed_26 la_106 ?_
    refine EV.o r_X11_isLed_29 (bpN (18) 18) ?_
    refine EV.l (lv' := [(0, _), (1, _), (2, _), (3, _)]) r_X11_isLed_31 rfl ?_
    refine EV.o r_X11_isLed_32 iaddN ?_
    refine EV.l (lv' := [(0, _), (1, _), (2, _), (3, _)]) r_X11_isLed_33 rfl ?_
    refine EV.gR r_X11_isLed_34 la_106 ?_
    refine EV.o r_X11_isLed_37 (bpN (18) 18) ?_
    refine EV.l (lv' := [(0, _), (1, _), (2, _), (3, _)]) r_X11_isLed_39 rfl ?_
    refine EV.o r_X11_isLed_40 iaddN ?_
    refine EV.iaN r_X11_isLed_41 la_126 (mr2.be _ (by omega)) ?_
    refine EV.l (lv' := [(0, _), (1, _), (2, _), (3, _)]) r_X11_isLed_42 rfl ?_
    refine EV.o r_X11_isLed_43 iaddN ?_
    change EV _ _ _ _ _ (.int (nI (η.be b + n)) :: _) _ _
    refine EV.cv r_X11_isLed_44 (aS1 mt_215) (m_held (by omega) (by omega)) ?_
    refine EV.iaSn r_X11_isLed_47 la_126 (fun I3 eI3 => ?_)
    have mr3 : MR 126 κ ((η.scr (un η.cr k (η.cr k - n))).sbe (un η.be b (min 400 (η.be b + n)))) I3 := by subst eI3; exact mr2.pbe cb hb2
    refine EV.l (lv' := [(0, _), (1, _), (2, _), (3, _)]) r_X11_isLed_48 rfl ?_
    refine EV.gR r_X11_isLed_49 la_106 ?_
    refine EV.o r_X11_isLed_52 (bpN (22) 22) ?_
    refine EV.l (lv' := [(0, _), (1, _), (2, _), (3, _)]) r_X11_isLed_54 rfl ?_
    refine EV.o r_X11_isLed_55 iaddN ?_
    refine EV.o r_X11_isLed_56 rfl ?_
    refine EV.iaN r_X11_isLed_57 la_126 (mr3.le _ (by omega)) ?_
    refine EV.l (lv' := [(0, _), (1, _), (2, _), (3, _)]) r_X11_isLed_58 rfl ?_
    refine EV.o r_X11_isLed_59 iaddN ?_
    refine EV.iaSn r_X11_isLed_60 la_126 (fun I4 eI4 => ?_)
    have mr4 : MR 126 κ (hLead η k b n) I4 := by subst eI4; exact mr3.ple cb hb2
    refine EV.o r_X11_isLed_61 (icN (1) (v := 1)) ?_
    exact EV.ri r_X11_isLed_62 (⟨by rw [h7]; rfl, by rw [if_pos h7]; exact mr4, fun x a1 => by subst eI4; subst eI3; subst eI2; (repeat rw [wr_row a1])⟩)
  · -- 7 f
    refine EV.o r_X11_isLed_10 (icN (0) (v := 0)) ?_
    exact EV.ri r_X11_isLed_11 (⟨by rw [h7]; rfl, by rw [if_neg (by rw [h7]; decide)]; exact mr, fun _ _ => rfl⟩)
theorem m_put {d : Nat} {I : Nat → Nat → Int32} {J : Nat → Nat → Int64} {κ : CT} {η : HS} (cb : CB κ) (mr : MR 126 κ η I) (hb_ : HB κ η) (mc_ : MC κ I) {k i n : Nat} (hk : k < κ.nc) (hi : i < κ.ns) (hn : n < 100)  (hd : 3 ≤ d) : RI d 230 [.ref 106, .int (nI k), .int (nI i), .int (nI n)] I J (fun v I' => v = bI (qPut κ η k i n) ∧ MR 126 κ (if qPut κ η k i n = true then hPut η i n else η) I' ∧ ∀ x, x ≠ 126 → I' x = I x) := by
  refine RI.in (d0 := 2) hd mt_230 (Nat.le_of_ble_eq_true rfl) (fun d' hd' => ?_)
  have bns := cb.ns; have bnb := cb.nb; have bnc := cb.nc; have bnr := cb.nr
  have bm_ := hb_.mi
  show EV none M_X11_isPut d' 0 [(0, .ref 106), (1, .int (nI k)), (2, .int (nI i)), (3, .int (nI n))] [] (hp I J) _
  refine EV.l (lv' := [(0, _), (1, _), (2, _), (3, _)]) r_X11_isPut_0 rfl ?_
  refine EV.l (lv' := [(0, _), (1, _), (2, _), (3, _)]) r_X11_isPut_1 rfl ?_
  refine EV.gR r_X11_isPut_2 la_106 ?_
  refine EV.o r_X11_isPut_5 (icN (2) (v := 2)) ?_
  refine EV.l (lv' := [(0, _), (1, _), (2, _), (3, _)]) r_X11_isPut_6 rfl ?_
  refine EV.o r_X11_isPut_7 imulN ?_
  refine EV.o r_X11_isPut_8 (icN (1) (v := 1)) ?_
  refine EV.o r_X11_isPut_9 iaddN ?_
  have b1 := cb.cs k; have b2 := hb_.sa i
  refine EV.iaN r_X11_isPut_10 la_116 (mc_.cs _ (by omega)) ?_
  refine EV.n2_gt r_X11_isPut_11 (fun h11 => ?_) (fun h11 => ?_)
  · -- 11 t
    refine EV.o r_X11_isPut_32 (icN (0) (v := 0)) ?_
    exact EV.ri r_X11_isPut_33 (⟨by rw [show qPut κ η k i n = false from decide_eq_false (by omega)]; rfl, by rw [if_neg (by rw [show qPut κ η k i n = false from decide_eq_false (by omega)]; decide)]; exact mr, fun _ _ => rfl⟩)
  · -- 11 f
    refine EV.l (lv' := [(0, _), (1, _), (2, _), (3, _)]) r_X11_isPut_14 rfl ?_
    refine EV.gR r_X11_isPut_15 la_106 ?_
    refine EV.o r_X11_isPut_18 (icN (0) (v := 0)) ?_
    refine EV.l (lv' := [(0, _), (1, _), (2, _), (3, _)]) r_X11_isPut_19 rfl ?_
    refine EV.o r_X11_isPut_20 iaddN ?_
    refine EV.iaN r_X11_isPut_21 la_126 (mr.sa _ (by omega)) ?_
    refine EV.l (lv' := [(0, _), (1, _), (2, _), (3, _)]) r_X11_isPut_22 rfl ?_
    refine EV.gR r_X11_isPut_23 la_106 ?_
    refine EV.o r_X11_isPut_26 (bpN (30) 30) ?_
    refine EV.iaN r_X11_isPut_28 la_126 (mr.mi) ?_
    refine EV.n2_ge r_X11_isPut_29 (fun h29 => ?_) (fun h29 => ?_)
    · -- 29 t
      refine EV.l (lv' := [(0, _), (1, _), (2, _), (3, _)]) r_X11_isPut_34 rfl ?_
      refine EV.gR r_X11_isPut_35 la_106 ?_
      refine EV.o r_X11_isPut_38 (icN (0) (v := 0)) ?_
      refine EV.l (lv' := [(0, _), (1, _), (2, _), (3, _)]) r_X11_isPut_39 rfl ?_
      refine EV.o r_X11_isPut_40 iaddN ?_
      refine EV.l (lv' := [(0, _), (1, _), (2, _), (3, _)]) r_X11_isPut_41 rfl ?_
      refine EV.gR r_X11_isPut_42 la_106 ?_
      refine EV.o r_X11_isPut_45 (icN (0) (v := 0)) ?_
      refine EV.l (lv' := [(0, _), (1, _), (2, _), (3, _)]) r_X11_isPut_46 rfl ?_
      refine EV.o r_X11_isPut_47 iaddN ?_
      refine EV.iaN r_X11_isPut_48 la_126 (mr.sa _ (by omega)) ?_
      refine EV.l (lv' := [(0, _), (1, _), (2, _), (3, _)]) r_X11_isPut_49 rfl ?_
      refine EV.o r_X11_isPut_50 iaddN ?_
      refine EV.cv r_X11_isPut_51 (aS1 mt_215) (m_held (by omega) (by omega)) ?_
      refine EV.iaSn r_X11_isPut_54 la_126 (fun I2 eI2 => ?_)
      have mr2 : MR 126 κ (hPut η i n) I2 := by subst eI2; exact mr.psa cb hi
      refine EV.o r_X11_isPut_55 (icN (1) (v := 1)) ?_
      exact EV.ri r_X11_isPut_56 (⟨by rw [show qPut κ η k i n = true from decide_eq_true (by omega)]; rfl, by rw [if_pos (show qPut κ η k i n = true from decide_eq_true (by omega))]; exact mr2, fun x a1 => by subst eI2; (repeat rw [wr_row a1])⟩)
    · -- 29 f
      refine EV.o r_X11_isPut_32 (icN (0) (v := 0)) ?_
      exact EV.ri r_X11_isPut_33 (⟨by rw [show qPut κ η k i n = false from decide_eq_false (by omega)]; rfl, by rw [if_neg (by rw [show qPut κ η k i n = false from decide_eq_false (by omega)]; decide)]; exact mr, fun _ _ => rfl⟩)
