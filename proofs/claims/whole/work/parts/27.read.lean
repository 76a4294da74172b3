/-! The state as it is thought of; what the class reads of it. -/
def CT : Type := (Nat) × (Nat) × (Nat) × (Nat) × (Nat → Nat) × (Nat → Nat) × (Nat → Nat) × (Nat → Nat) × (Nat → Nat) × (Nat → Nat) × (Nat → Nat) × (Nat → Nat) × (Nat → Nat) × (Nat → Nat)
def CT.ns (x : CT) : Nat := x.1
def CT.nr (x : CT) : Nat := x.2.1
def CT.nb (x : CT) : Nat := x.2.2.1
def CT.nc (x : CT) : Nat := x.2.2.2.1
def CT.sm (x : CT) : Nat → Nat := x.2.2.2.2.1
def CT.ss (x : CT) : Nat → Nat := x.2.2.2.2.2.1
def CT.sw (x : CT) : Nat → Nat := x.2.2.2.2.2.2.1
def CT.r1 (x : CT) : Nat → Nat := x.2.2.2.2.2.2.2.1
def CT.r2 (x : CT) : Nat → Nat := x.2.2.2.2.2.2.2.2.1
def CT.r3 (x : CT) : Nat → Nat := x.2.2.2.2.2.2.2.2.2.1
def CT.bm (x : CT) : Nat → Nat := x.2.2.2.2.2.2.2.2.2.2.1
def CT.bs (x : CT) : Nat → Nat := x.2.2.2.2.2.2.2.2.2.2.2.1
def CT.cc (x : CT) : Nat → Nat := x.2.2.2.2.2.2.2.2.2.2.2.2.1
def CT.cs (x : CT) : Nat → Nat := x.2.2.2.2.2.2.2.2.2.2.2.2.2
def CT.mk (ns : Nat) (nr : Nat) (nb : Nat) (nc : Nat) (sm : Nat → Nat) (ss : Nat → Nat) (sw : Nat → Nat) (r1 : Nat → Nat) (r2 : Nat → Nat) (r3 : Nat → Nat) (bm : Nat → Nat) (bs : Nat → Nat) (cc : Nat → Nat) (cs : Nat → Nat) : CT := (ns, nr, nb, nc, sm, ss, sw, r1, r2, r3, bm, bs, cc, cs)
def HS : Type := (Nat) × (Nat) × (Nat → Nat) × (Nat → Nat) × (Nat → Nat) × (Nat → Nat) × (Nat → Nat)
def HS.mi (x : HS) : Nat := x.1
def HS.nt (x : HS) : Nat := x.2.1
def HS.sa (x : HS) : Nat → Nat := x.2.2.1
def HS.be (x : HS) : Nat → Nat := x.2.2.2.1
def HS.le (x : HS) : Nat → Nat := x.2.2.2.2.1
def HS.wk (x : HS) : Nat → Nat := x.2.2.2.2.2.1
def HS.cr (x : HS) : Nat → Nat := x.2.2.2.2.2.2
def HS.mk (mi : Nat) (nt : Nat) (sa : Nat → Nat) (be : Nat → Nat) (le : Nat → Nat) (wk : Nat → Nat) (cr : Nat → Nat) : HS := (mi, nt, sa, be, le, wk, cr)
def HC (o : Nat) (κ : CT) (I : Nat → Nat → Int32) : Prop := (I o 10 = nI κ.ns) ∧ (I o 11 = nI κ.nr) ∧ (I o 12 = nI κ.nb) ∧ (I o 13 = nI κ.nc) ∧ (∀ j, j < 9 → I (o + 2) j = nI (κ.sm j)) ∧ (∀ j, j < 9 → I (o + 4) j = nI (κ.ss j)) ∧ (∀ j, j < 9 → I (o + 6) j = nI (κ.sw j)) ∧ (∀ j, j < 12 → I (o + 8) j = nI (κ.r1 j)) ∧ (∀ j, j < 12 → I (o + 10) j = nI (κ.r2 j)) ∧ (∀ j, j < 12 → I (o + 12) j = nI (κ.r3 j)) ∧ (∀ j, j < 4 → I (o + 14) j = nI (κ.bm j)) ∧ (∀ j, j < 4 → I (o + 16) j = nI (κ.bs j)) ∧ (∀ j, j < 4 → I (o + 18) j = nI (κ.cc j)) ∧ (∀ j, j < 4 → I (o + 20) j = nI (κ.cs j))
theorem HC.ns {o : Nat} {κ : CT} {I : Nat → Nat → Int32} (h_ : HC o κ I) : I o 10 = nI κ.ns := h_.1
theorem HC.nr {o : Nat} {κ : CT} {I : Nat → Nat → Int32} (h_ : HC o κ I) : I o 11 = nI κ.nr := h_.2.1
theorem HC.nb {o : Nat} {κ : CT} {I : Nat → Nat → Int32} (h_ : HC o κ I) : I o 12 = nI κ.nb := h_.2.2.1
theorem HC.nc {o : Nat} {κ : CT} {I : Nat → Nat → Int32} (h_ : HC o κ I) : I o 13 = nI κ.nc := h_.2.2.2.1
theorem HC.sm {o : Nat} {κ : CT} {I : Nat → Nat → Int32} (h_ : HC o κ I) : ∀ j, j < 9 → I (o + 2) j = nI (κ.sm j) := h_.2.2.2.2.1
theorem HC.ss {o : Nat} {κ : CT} {I : Nat → Nat → Int32} (h_ : HC o κ I) : ∀ j, j < 9 → I (o + 4) j = nI (κ.ss j) := h_.2.2.2.2.2.1
theorem HC.sw {o : Nat} {κ : CT} {I : Nat → Nat → Int32} (h_ : HC o κ I) : ∀ j, j < 9 → I (o + 6) j = nI (κ.sw j) := h_.2.2.2.2.2.2.1
theorem HC.r1 {o : Nat} {κ : CT} {I : Nat → Nat → Int32} (h_ : HC o κ I) : ∀ j, j < 12 → I (o + 8) j = nI (κ.r1 j) := h_.2.2.2.2.2.2.2.1
theorem HC.r2 {o : Nat} {κ : CT} {I : Nat → Nat → Int32} (h_ : HC o κ I) : ∀ j, j < 12 → I (o + 10) j = nI (κ.r2 j) := h_.2.2.2.2.2.2.2.2.1
theorem HC.r3 {o : Nat} {κ : CT} {I : Nat → Nat → Int32} (h_ : HC o κ I) : ∀ j, j < 12 → I (o + 12) j = nI (κ.r3 j) := h_.2.2.2.2.2.2.2.2.2.1
theorem HC.bm {o : Nat} {κ : CT} {I : Nat → Nat → Int32} (h_ : HC o κ I) : ∀ j, j < 4 → I (o + 14) j = nI (κ.bm j) := h_.2.2.2.2.2.2.2.2.2.2.1
theorem HC.bs {o : Nat} {κ : CT} {I : Nat → Nat → Int32} (h_ : HC o κ I) : ∀ j, j < 4 → I (o + 16) j = nI (κ.bs j) := h_.2.2.2.2.2.2.2.2.2.2.2.1
theorem HC.cc {o : Nat} {κ : CT} {I : Nat → Nat → Int32} (h_ : HC o κ I) : ∀ j, j < 4 → I (o + 18) j = nI (κ.cc j) := h_.2.2.2.2.2.2.2.2.2.2.2.2.1
theorem HC.cs {o : Nat} {κ : CT} {I : Nat → Nat → Int32} (h_ : HC o κ I) : ∀ j, j < 4 → I (o + 20) j = nI (κ.cs j) := h_.2.2.2.2.2.2.2.2.2.2.2.2.2
def CB (κ : CT) : Prop := (κ.ns ≤ 9) ∧ (κ.nr ≤ 12) ∧ (κ.nb ≤ 4) ∧ (κ.nc ≤ 4) ∧ (∀ j, κ.sm j ≤ 99) ∧ (∀ j, κ.ss j ≤ 1) ∧ (∀ j, κ.sw j ≤ 60) ∧ (∀ j, j < κ.nr → κ.r1 j < κ.ns) ∧ (∀ j, j < κ.nr → κ.r2 j < κ.ns) ∧ (∀ j, j < κ.nr → κ.r3 j < κ.ns) ∧ (∀ j, κ.bm j ≤ 99) ∧ (∀ j, κ.bs j ≤ 20) ∧ (∀ j, j < κ.nb → 1 ≤ κ.bs j) ∧ (∀ j, κ.cc j ≤ 40) ∧ (∀ j, κ.cs j ≤ 9)
theorem CB.ns {κ : CT} (h_ : CB κ) : κ.ns ≤ 9 := h_.1
theorem CB.nr {κ : CT} (h_ : CB κ) : κ.nr ≤ 12 := h_.2.1
theorem CB.nb {κ : CT} (h_ : CB κ) : κ.nb ≤ 4 := h_.2.2.1
theorem CB.nc {κ : CT} (h_ : CB κ) : κ.nc ≤ 4 := h_.2.2.2.1
theorem CB.sm {κ : CT} (h_ : CB κ) : ∀ j, κ.sm j ≤ 99 := h_.2.2.2.2.1
theorem CB.ss {κ : CT} (h_ : CB κ) : ∀ j, κ.ss j ≤ 1 := h_.2.2.2.2.2.1
theorem CB.sw {κ : CT} (h_ : CB κ) : ∀ j, κ.sw j ≤ 60 := h_.2.2.2.2.2.2.1
theorem CB.r1 {κ : CT} (h_ : CB κ) : ∀ j, j < κ.nr → κ.r1 j < κ.ns := h_.2.2.2.2.2.2.2.1
theorem CB.r2 {κ : CT} (h_ : CB κ) : ∀ j, j < κ.nr → κ.r2 j < κ.ns := h_.2.2.2.2.2.2.2.2.1
theorem CB.r3 {κ : CT} (h_ : CB κ) : ∀ j, j < κ.nr → κ.r3 j < κ.ns := h_.2.2.2.2.2.2.2.2.2.1
theorem CB.bm {κ : CT} (h_ : CB κ) : ∀ j, κ.bm j ≤ 99 := h_.2.2.2.2.2.2.2.2.2.2.1
theorem CB.bs {κ : CT} (h_ : CB κ) : ∀ j, κ.bs j ≤ 20 := h_.2.2.2.2.2.2.2.2.2.2.2.1
theorem CB.bs1 {κ : CT} (h_ : CB κ) : ∀ j, j < κ.nb → 1 ≤ κ.bs j := h_.2.2.2.2.2.2.2.2.2.2.2.2.1
theorem CB.cc {κ : CT} (h_ : CB κ) : ∀ j, κ.cc j ≤ 40 := h_.2.2.2.2.2.2.2.2.2.2.2.2.2.1
theorem CB.cs {κ : CT} (h_ : CB κ) : ∀ j, κ.cs j ≤ 9 := h_.2.2.2.2.2.2.2.2.2.2.2.2.2.2
def HH (o : Nat) (η : HS) (I : Nat → Nat → Int32) : Prop := (I o 7 = nI η.mi) ∧ (I o 8 = nI η.nt) ∧ (∀ j, j < 9 → I (o + 2) j = nI (η.sa j)) ∧ (∀ j, j < 4 → I (o + 4) j = nI (η.be j)) ∧ (∀ j, j < 4 → I (o + 6) j = nI (η.le j)) ∧ (∀ j, j < 4 → I (o + 8) j = nI (η.wk j)) ∧ (∀ j, j < 4 → I (o + 10) j = nI (η.cr j))
theorem HH.mi {o : Nat} {η : HS} {I : Nat → Nat → Int32} (h_ : HH o η I) : I o 7 = nI η.mi := h_.1
theorem HH.nt {o : Nat} {η : HS} {I : Nat → Nat → Int32} (h_ : HH o η I) : I o 8 = nI η.nt := h_.2.1
theorem HH.sa {o : Nat} {η : HS} {I : Nat → Nat → Int32} (h_ : HH o η I) : ∀ j, j < 9 → I (o + 2) j = nI (η.sa j) := h_.2.2.1
theorem HH.be {o : Nat} {η : HS} {I : Nat → Nat → Int32} (h_ : HH o η I) : ∀ j, j < 4 → I (o + 4) j = nI (η.be j) := h_.2.2.2.1
theorem HH.le {o : Nat} {η : HS} {I : Nat → Nat → Int32} (h_ : HH o η I) : ∀ j, j < 4 → I (o + 6) j = nI (η.le j) := h_.2.2.2.2.1
theorem HH.wk {o : Nat} {η : HS} {I : Nat → Nat → Int32} (h_ : HH o η I) : ∀ j, j < 4 → I (o + 8) j = nI (η.wk j) := h_.2.2.2.2.2.1
theorem HH.cr {o : Nat} {η : HS} {I : Nat → Nat → Int32} (h_ : HH o η I) : ∀ j, j < 4 → I (o + 10) j = nI (η.cr j) := h_.2.2.2.2.2.2
def HB (κ : CT) (η : HS) : Prop := (η.mi ≤ 448) ∧ (η.nt < 2 ^ κ.ns) ∧ (∀ j, η.sa j ≤ 400) ∧ (∀ j, η.be j ≤ 400) ∧ (∀ j, η.wk j ≤ 40) ∧ (∀ j, η.cr j ≤ 40)
theorem HB.mi {κ : CT} {η : HS} (h_ : HB κ η) : η.mi ≤ 448 := h_.1
theorem HB.nt {κ : CT} {η : HS} (h_ : HB κ η) : η.nt < 2 ^ κ.ns := h_.2.1
theorem HB.sa {κ : CT} {η : HS} (h_ : HB κ η) : ∀ j, η.sa j ≤ 400 := h_.2.2.1
theorem HB.be {κ : CT} {η : HS} (h_ : HB κ η) : ∀ j, η.be j ≤ 400 := h_.2.2.2.1
theorem HB.wk {κ : CT} {η : HS} (h_ : HB κ η) : ∀ j, η.wk j ≤ 40 := h_.2.2.2.2.1
theorem HB.cr {κ : CT} {η : HS} (h_ : HB κ η) : ∀ j, η.cr j ≤ 40 := h_.2.2.2.2.2
def HW (κ : CT) (η : HS) : Prop := (∀ j, j < κ.nb → 1 ≤ η.wk j) ∧ (True)
theorem HW.wk1 {κ : CT} {η : HS} (h_ : HW κ η) : ∀ j, j < κ.nb → 1 ≤ η.wk j := h_.1
theorem HW.t {κ : CT} {η : HS} (h_ : HW κ η) : True := h_.2
def onB (η : HS) (b m : Nat) : Bool := decide (η.be b ≤ m ∧ m < η.be b + η.wk b)
def birds (κ : CT) (η : HS) (m : Nat) : Nat := mk (fun b => onB η b m) κ.nb
def doesC (κ : CT) (η : HS) (i : Nat) : Bool := decide (birds κ η (η.sa i) = 0)
def cnt (κ : CT) (η : HS) : Nat := mk (doesC κ η) κ.ns
def sdB (κ : CT) (η : HS) (a b : Nat) : Nat := mk (fun i => decide (a ≤ η.sa i ∧ η.sa i ≤ b)) κ.ns
def heard (κ : CT) (η : HS) (m : Nat) : Nat := cnt κ η &&& sdB κ η 0 m
def crumb (κ : CT) (η : HS) (all bound : Nat) : Nat → Nat
  | 0 => 0
  | k + 1 => crumb κ η all bound k + if all.testBit k = true then min bound (η.cr k) else 0
def canL (η : HS) (k b n : Nat) : Bool := decide (n ≤ η.cr k ∧ η.mi ≤ η.be b)
def ofSd (κ : CT) (s : Nat) : Nat := mk (fun i => decide (κ.ss i = s)) κ.ns
def wtOf (κ : CT) (x : Nat) : Nat → Nat
  | 0 => 0
  | k + 1 => wtOf κ x k + if x.testBit k = true then κ.sw k else 0
theorem pow_ns {κ : CT} (c : CB κ) : 2 ^ κ.ns ≤ 512 := Nat.pow_le_pow_right (by decide) c.ns
theorem pow_nc {κ : CT} (c : CB κ) : 2 ^ κ.nc ≤ 16 := Nat.pow_le_pow_right (by decide) c.nc
theorem pow_nb {κ : CT} (c : CB κ) : 2 ^ κ.nb ≤ 16 := Nat.pow_le_pow_right (by decide) c.nb
theorem mk_ns {κ : CT} (c : CB κ) (p : Nat → Bool) : mk p κ.ns < 512 := mk_512 p c.ns
theorem mk_nb {κ : CT} (c : CB κ) (p : Nat → Bool) : mk p κ.nb < 16 := mk_16 p c.nb
theorem mk_nc {κ : CT} (c : CB κ) (p : Nat → Bool) : mk p κ.nc < 16 := mk_16 p c.nc
theorem crumb_le {κ : CT} {η : HS} {all bound : Nat} (hb : ∀ j, η.cr j ≤ 40) : ∀ k, crumb κ η all bound k ≤ 40 * k
  | 0 => Nat.le_refl _
  | k + 1 => by
    have ih := crumb_le (κ := κ) (η := η) (all := all) (bound := bound) hb k
    have := hb k
    unfold crumb
    split <;> omega
theorem wtOf_le {κ : CT} {x : Nat} (hb : ∀ j, κ.sw j ≤ 60) : ∀ k, wtOf κ x k ≤ 60 * k
  | 0 => Nat.le_refl _
  | k + 1 => by
    have ih := wtOf_le (κ := κ) (x := x) hb k
    have := hb k
    unfold wtOf
    split <;> omega
/-- a cell of a Row that is known -/
theorem c_getN {d : Nat} {I : Nat → Nat → Int32} {J : Nat → Nat → Int64} {r n j : Nat} {v : Int32} (hd : 1 ≤ d) (hr : LAYO[r]? = some (.inr (.inr (7, [some (r + 1)])))) (hc : LAYO[r + 1]? = some (.inl n)) (hv : I (r + 1) j = v) (hn : n < 100000 := by decide) (hs : r < 1000 := by decide) (hj : j < n := by omega) : RV d 92 [.ref r, .int (nI j)] I J v := by
  subst hv
  exact c_get hr hc hn hs hj hd
theorem r_X2_beginIfLed_0 : RW M_X2_beginIfLed 0 (.sipush 400) 3 0 0 3 := ⟨rfl, rfl⟩
theorem r_X2_beginIfLed_3 : RW M_X2_beginIfLed 3 (.aload_n 0) 1 0 0 4 := ⟨rfl, rfl⟩
theorem r_X2_beginIfLed_4 : RW M_X2_beginIfLed 4 (.getfield 20) 3 2 3 7 := ⟨rfl, rfl⟩
theorem r_X2_beginIfLed_7 : RW M_X2_beginIfLed 7 (.iload_n 1) 1 0 0 8 := ⟨rfl, rfl⟩
theorem r_X2_beginIfLed_8 : RW M_X2_beginIfLed 8 (.invokevirtual 69) 3 92 0 11 := ⟨rfl, rfl⟩
theorem r_X2_beginIfLed_11 : RW M_X2_beginIfLed 11 (.iload_n 2) 1 0 0 12 := ⟨rfl, rfl⟩
theorem r_X2_beginIfLed_12 : RW M_X2_beginIfLed 12 (.iadd) 1 0 0 13 := ⟨rfl, rfl⟩
theorem r_X2_beginIfLed_13 : RW M_X2_beginIfLed 13 (.invokestatic 104) 3 900 0 16 := ⟨rfl, rfl⟩
theorem r_X2_beginIfLed_16 : RW M_X2_beginIfLed 16 (.ireturn) 1 0 0 17 := ⟨rfl, rfl⟩
theorem r_X2_birdsOn_0 : RW M_X2_birdsOn 0 (.iconst 0) 1 0 0 1 := ⟨rfl, rfl⟩
theorem r_X2_birdsOn_1 : RW M_X2_birdsOn 1 (.istore_n 2) 1 0 0 2 := ⟨rfl, rfl⟩
theorem r_X2_birdsOn_2 : RW M_X2_birdsOn 2 (.iconst 0) 1 0 0 3 := ⟨rfl, rfl⟩
theorem r_X2_birdsOn_3 : RW M_X2_birdsOn 3 (.istore_n 3) 1 0 0 4 := ⟨rfl, rfl⟩
theorem r_X2_birdsOn_4 : RW M_X2_birdsOn 4 (.iload_n 3) 1 0 0 5 := ⟨rfl, rfl⟩
theorem r_X2_birdsOn_5 : RW M_X2_birdsOn 5 (.aload_n 0) 1 0 0 6 := ⟨rfl, rfl⟩
theorem r_X2_birdsOn_6 : RW M_X2_birdsOn 6 (.getfield 32) 3 2 0 9 := ⟨rfl, rfl⟩
theorem r_X2_birdsOn_9 : RW M_X2_birdsOn 9 (.getfield 73) 3 1 12 12 := ⟨rfl, rfl⟩
theorem r_X2_birdsOn_12 : RW M_X2_birdsOn 12 (.if_icmp .ge 37) 3 49 0 15 := ⟨rfl, rfl⟩
theorem r_X2_birdsOn_15 : RW M_X2_birdsOn 15 (.iload_n 1) 1 0 0 16 := ⟨rfl, rfl⟩
theorem r_X2_birdsOn_16 : RW M_X2_birdsOn 16 (.aload_n 0) 1 0 0 17 := ⟨rfl, rfl⟩
theorem r_X2_birdsOn_17 : RW M_X2_birdsOn 17 (.getfield 20) 3 2 3 20 := ⟨rfl, rfl⟩
theorem r_X2_birdsOn_20 : RW M_X2_birdsOn 20 (.iload_n 3) 1 0 0 21 := ⟨rfl, rfl⟩
theorem r_X2_birdsOn_21 : RW M_X2_birdsOn 21 (.invokevirtual 69) 3 92 0 24 := ⟨rfl, rfl⟩
theorem r_X2_birdsOn_24 : RW M_X2_birdsOn 24 (.if_icmp .lt 19) 3 43 0 27 := ⟨rfl, rfl⟩
theorem r_X2_birdsOn_27 : RW M_X2_birdsOn 27 (.iload_n 1) 1 0 0 28 := ⟨rfl, rfl⟩
theorem r_X2_birdsOn_28 : RW M_X2_birdsOn 28 (.aload_n 0) 1 0 0 29 := ⟨rfl, rfl⟩
theorem r_X2_birdsOn_29 : RW M_X2_birdsOn 29 (.iload_n 3) 1 0 0 30 := ⟨rfl, rfl⟩
theorem r_X2_birdsOn_30 : RW M_X2_birdsOn 30 (.invokevirtual 119) 3 33 0 33 := ⟨rfl, rfl⟩
theorem r_X2_birdsOn_33 : RW M_X2_birdsOn 33 (.if_icmp .gt 10) 3 43 0 36 := ⟨rfl, rfl⟩
theorem r_X2_birdsOn_36 : RW M_X2_birdsOn 36 (.iload_n 2) 1 0 0 37 := ⟨rfl, rfl⟩
theorem r_X2_birdsOn_37 : RW M_X2_birdsOn 37 (.iload_n 3) 1 0 0 38 := ⟨rfl, rfl⟩
theorem r_X2_birdsOn_38 : RW M_X2_birdsOn 38 (.invokestatic 122) 3 162 0 41 := ⟨rfl, rfl⟩
theorem r_X2_birdsOn_41 : RW M_X2_birdsOn 41 (.ior) 1 0 0 42 := ⟨rfl, rfl⟩
theorem r_X2_birdsOn_42 : RW M_X2_birdsOn 42 (.istore_n 2) 1 0 0 43 := ⟨rfl, rfl⟩
theorem r_X2_birdsOn_43 : RW M_X2_birdsOn 43 (.iinc 3 1) 3 0 0 46 := ⟨rfl, rfl⟩
theorem r_X2_birdsOn_46 : RW M_X2_birdsOn 46 (.goto (-42)) 3 4 0 49 := ⟨rfl, rfl⟩
theorem r_X2_birdsOn_49 : RW M_X2_birdsOn 49 (.iload_n 2) 1 0 0 50 := ⟨rfl, rfl⟩
theorem r_X2_birdsOn_50 : RW M_X2_birdsOn 50 (.ireturn) 1 0 0 51 := ⟨rfl, rfl⟩
theorem r_X2_canLead_0 : RW M_X2_canLead 0 (.aload_n 0) 1 0 0 1 := ⟨rfl, rfl⟩
theorem r_X2_canLead_1 : RW M_X2_canLead 1 (.getfield 29) 3 2 6 4 := ⟨rfl, rfl⟩
theorem r_X2_canLead_4 : RW M_X2_canLead 4 (.iload_n 1) 1 0 0 5 := ⟨rfl, rfl⟩
theorem r_X2_canLead_5 : RW M_X2_canLead 5 (.invokevirtual 69) 3 92 0 8 := ⟨rfl, rfl⟩
theorem r_X2_canLead_8 : RW M_X2_canLead 8 (.iload_n 3) 1 0 0 9 := ⟨rfl, rfl⟩
theorem r_X2_canLead_9 : RW M_X2_canLead 9 (.if_icmp .lt 22) 3 31 0 12 := ⟨rfl, rfl⟩
theorem r_X2_canLead_12 : RW M_X2_canLead 12 (.aload_n 0) 1 0 0 13 := ⟨rfl, rfl⟩
theorem r_X2_canLead_13 : RW M_X2_canLead 13 (.getfield 20) 3 2 3 16 := ⟨rfl, rfl⟩
theorem r_X2_canLead_16 : RW M_X2_canLead 16 (.iload_n 2) 1 0 0 17 := ⟨rfl, rfl⟩
theorem r_X2_canLead_17 : RW M_X2_canLead 17 (.invokevirtual 69) 3 92 0 20 := ⟨rfl, rfl⟩
theorem r_X2_canLead_20 : RW M_X2_canLead 20 (.aload_n 0) 1 0 0 21 := ⟨rfl, rfl⟩
theorem r_X2_canLead_21 : RW M_X2_canLead 21 (.getfield 40) 3 2 7 24 := ⟨rfl, rfl⟩
theorem r_X2_canLead_24 : RW M_X2_canLead 24 (.if_icmp .lt 7) 3 31 0 27 := ⟨rfl, rfl⟩
theorem r_X2_canLead_27 : RW M_X2_canLead 27 (.iconst 1) 1 0 0 28 := ⟨rfl, rfl⟩
theorem r_X2_canLead_28 : RW M_X2_canLead 28 (.goto 4) 3 32 0 31 := ⟨rfl, rfl⟩
theorem r_X2_canLead_31 : RW M_X2_canLead 31 (.iconst 0) 1 0 0 32 := ⟨rfl, rfl⟩
theorem r_X2_canLead_32 : RW M_X2_canLead 32 (.ireturn) 1 0 0 33 := ⟨rfl, rfl⟩
theorem r_X2_counting_0 : RW M_X2_counting 0 (.iconst 0) 1 0 0 1 := ⟨rfl, rfl⟩
theorem r_X2_counting_1 : RW M_X2_counting 1 (.istore_n 1) 1 0 0 2 := ⟨rfl, rfl⟩
theorem r_X2_counting_2 : RW M_X2_counting 2 (.iconst 0) 1 0 0 3 := ⟨rfl, rfl⟩
theorem r_X2_counting_3 : RW M_X2_counting 3 (.istore_n 2) 1 0 0 4 := ⟨rfl, rfl⟩
theorem r_X2_counting_4 : RW M_X2_counting 4 (.iload_n 2) 1 0 0 5 := ⟨rfl, rfl⟩
theorem r_X2_counting_5 : RW M_X2_counting 5 (.aload_n 0) 1 0 0 6 := ⟨rfl, rfl⟩
theorem r_X2_counting_6 : RW M_X2_counting 6 (.getfield 32) 3 2 0 9 := ⟨rfl, rfl⟩
theorem r_X2_counting_9 : RW M_X2_counting 9 (.getfield 128) 3 1 10 12 := ⟨rfl, rfl⟩
theorem r_X2_counting_12 : RW M_X2_counting 12 (.if_icmp .ge 24) 3 36 0 15 := ⟨rfl, rfl⟩
theorem r_X2_counting_15 : RW M_X2_counting 15 (.aload_n 0) 1 0 0 16 := ⟨rfl, rfl⟩
theorem r_X2_counting_16 : RW M_X2_counting 16 (.iload_n 2) 1 0 0 17 := ⟨rfl, rfl⟩
theorem r_X2_counting_17 : RW M_X2_counting 17 (.invokevirtual 131) 3 35 0 20 := ⟨rfl, rfl⟩
theorem r_X2_counting_20 : RW M_X2_counting 20 (.ifCond .eq 10) 3 30 0 23 := ⟨rfl, rfl⟩
theorem r_X2_counting_23 : RW M_X2_counting 23 (.iload_n 1) 1 0 0 24 := ⟨rfl, rfl⟩
theorem r_X2_counting_24 : RW M_X2_counting 24 (.iload_n 2) 1 0 0 25 := ⟨rfl, rfl⟩
theorem r_X2_counting_25 : RW M_X2_counting 25 (.invokestatic 122) 3 162 0 28 := ⟨rfl, rfl⟩
theorem r_X2_counting_28 : RW M_X2_counting 28 (.ior) 1 0 0 29 := ⟨rfl, rfl⟩
theorem r_X2_counting_29 : RW M_X2_counting 29 (.istore_n 1) 1 0 0 30 := ⟨rfl, rfl⟩
theorem r_X2_counting_30 : RW M_X2_counting 30 (.iinc 2 1) 3 0 0 33 := ⟨rfl, rfl⟩
theorem r_X2_counting_33 : RW M_X2_counting 33 (.goto (-29)) 3 4 0 36 := ⟨rfl, rfl⟩
theorem r_X2_counting_36 : RW M_X2_counting 36 (.iload_n 1) 1 0 0 37 := ⟨rfl, rfl⟩
theorem r_X2_counting_37 : RW M_X2_counting 37 (.ireturn) 1 0 0 38 := ⟨rfl, rfl⟩
theorem r_X2_crumbsOf_0 : RW M_X2_crumbsOf 0 (.iconst 0) 1 0 0 1 := ⟨rfl, rfl⟩
theorem r_X2_crumbsOf_1 : RW M_X2_crumbsOf 1 (.istore_n 3) 1 0 0 2 := ⟨rfl, rfl⟩
theorem r_X2_crumbsOf_2 : RW M_X2_crumbsOf 2 (.iconst 0) 1 0 0 3 := ⟨rfl, rfl⟩
theorem r_X2_crumbsOf_3 : RW M_X2_crumbsOf 3 (.istore 4) 2 0 0 5 := ⟨rfl, rfl⟩
theorem r_X2_crumbsOf_5 : RW M_X2_crumbsOf 5 (.iload 4) 2 0 0 7 := ⟨rfl, rfl⟩
theorem r_X2_crumbsOf_7 : RW M_X2_crumbsOf 7 (.aload_n 0) 1 0 0 8 := ⟨rfl, rfl⟩
theorem r_X2_crumbsOf_8 : RW M_X2_crumbsOf 8 (.getfield 32) 3 2 0 11 := ⟨rfl, rfl⟩
theorem r_X2_crumbsOf_11 : RW M_X2_crumbsOf 11 (.getfield 112) 3 1 13 14 := ⟨rfl, rfl⟩
theorem r_X2_crumbsOf_14 : RW M_X2_crumbsOf 14 (.if_icmp .ge 34) 3 48 0 17 := ⟨rfl, rfl⟩
theorem r_X2_crumbsOf_17 : RW M_X2_crumbsOf 17 (.iload_n 1) 1 0 0 18 := ⟨rfl, rfl⟩
theorem r_X2_crumbsOf_18 : RW M_X2_crumbsOf 18 (.iload 4) 2 0 0 20 := ⟨rfl, rfl⟩
theorem r_X2_crumbsOf_20 : RW M_X2_crumbsOf 20 (.invokestatic 115) 3 163 0 23 := ⟨rfl, rfl⟩
theorem r_X2_crumbsOf_23 : RW M_X2_crumbsOf 23 (.ifCond .eq 19) 3 42 0 26 := ⟨rfl, rfl⟩
theorem r_X2_crumbsOf_26 : RW M_X2_crumbsOf 26 (.iload_n 3) 1 0 0 27 := ⟨rfl, rfl⟩
theorem r_X2_crumbsOf_27 : RW M_X2_crumbsOf 27 (.iload_n 2) 1 0 0 28 := ⟨rfl, rfl⟩
theorem r_X2_crumbsOf_28 : RW M_X2_crumbsOf 28 (.aload_n 0) 1 0 0 29 := ⟨rfl, rfl⟩
theorem r_X2_crumbsOf_29 : RW M_X2_crumbsOf 29 (.getfield 29) 3 2 6 32 := ⟨rfl, rfl⟩
theorem r_X2_crumbsOf_32 : RW M_X2_crumbsOf 32 (.iload 4) 2 0 0 34 := ⟨rfl, rfl⟩
theorem r_X2_crumbsOf_34 : RW M_X2_crumbsOf 34 (.invokevirtual 69) 3 92 0 37 := ⟨rfl, rfl⟩
theorem r_X2_crumbsOf_37 : RW M_X2_crumbsOf 37 (.invokestatic 104) 3 900 0 40 := ⟨rfl, rfl⟩
theorem r_X2_crumbsOf_40 : RW M_X2_crumbsOf 40 (.iadd) 1 0 0 41 := ⟨rfl, rfl⟩
theorem r_X2_crumbsOf_41 : RW M_X2_crumbsOf 41 (.istore_n 3) 1 0 0 42 := ⟨rfl, rfl⟩
theorem r_X2_crumbsOf_42 : RW M_X2_crumbsOf 42 (.iinc 4 1) 3 0 0 45 := ⟨rfl, rfl⟩
theorem r_X2_crumbsOf_45 : RW M_X2_crumbsOf 45 (.goto (-40)) 3 5 0 48 := ⟨rfl, rfl⟩
theorem r_X2_crumbsOf_48 : RW M_X2_crumbsOf 48 (.iload_n 3) 1 0 0 49 := ⟨rfl, rfl⟩
theorem r_X2_crumbsOf_49 : RW M_X2_crumbsOf 49 (.ireturn) 1 0 0 50 := ⟨rfl, rfl⟩
theorem r_X2_doesCount_0 : RW M_X2_doesCount 0 (.aload_n 0) 1 0 0 1 := ⟨rfl, rfl⟩
theorem r_X2_doesCount_1 : RW M_X2_doesCount 1 (.aload_n 0) 1 0 0 2 := ⟨rfl, rfl⟩
theorem r_X2_doesCount_2 : RW M_X2_doesCount 2 (.getfield 16) 3 2 2 5 := ⟨rfl, rfl⟩
theorem r_X2_doesCount_5 : RW M_X2_doesCount 5 (.iload_n 1) 1 0 0 6 := ⟨rfl, rfl⟩
theorem r_X2_doesCount_6 : RW M_X2_doesCount 6 (.invokevirtual 69) 3 92 0 9 := ⟨rfl, rfl⟩
theorem r_X2_doesCount_9 : RW M_X2_doesCount 9 (.invokevirtual 125) 3 34 0 12 := ⟨rfl, rfl⟩
theorem r_X2_doesCount_12 : RW M_X2_doesCount 12 (.ifCond .ne 7) 3 19 0 15 := ⟨rfl, rfl⟩
theorem r_X2_doesCount_15 : RW M_X2_doesCount 15 (.iconst 1) 1 0 0 16 := ⟨rfl, rfl⟩
theorem r_X2_doesCount_16 : RW M_X2_doesCount 16 (.goto 4) 3 20 0 19 := ⟨rfl, rfl⟩
theorem r_X2_doesCount_19 : RW M_X2_doesCount 19 (.iconst 0) 1 0 0 20 := ⟨rfl, rfl⟩
theorem r_X2_doesCount_20 : RW M_X2_doesCount 20 (.ireturn) 1 0 0 21 := ⟨rfl, rfl⟩
theorem r_X2_heardBy_0 : RW M_X2_heardBy 0 (.aload_n 0) 1 0 0 1 := ⟨rfl, rfl⟩
theorem r_X2_heardBy_1 : RW M_X2_heardBy 1 (.invokevirtual 135) 3 36 0 4 := ⟨rfl, rfl⟩
theorem r_X2_heardBy_4 : RW M_X2_heardBy 4 (.aload_n 0) 1 0 0 5 := ⟨rfl, rfl⟩
theorem r_X2_heardBy_5 : RW M_X2_heardBy 5 (.iconst 0) 1 0 0 6 := ⟨rfl, rfl⟩
theorem r_X2_heardBy_6 : RW M_X2_heardBy 6 (.iload_n 1) 1 0 0 7 := ⟨rfl, rfl⟩
theorem r_X2_heardBy_7 : RW M_X2_heardBy 7 (.invokevirtual 109) 3 37 0 10 := ⟨rfl, rfl⟩
theorem r_X2_heardBy_10 : RW M_X2_heardBy 10 (.iand) 1 0 0 11 := ⟨rfl, rfl⟩
theorem r_X2_heardBy_11 : RW M_X2_heardBy 11 (.ireturn) 1 0 0 12 := ⟨rfl, rfl⟩
theorem r_X2_isNoted_0 : RW M_X2_isNoted 0 (.aload_n 0) 1 0 0 1 := ⟨rfl, rfl⟩
theorem r_X2_isNoted_1 : RW M_X2_isNoted 1 (.getfield 44) 3 2 8 4 := ⟨rfl, rfl⟩
theorem r_X2_isNoted_4 : RW M_X2_isNoted 4 (.iload_n 1) 1 0 0 5 := ⟨rfl, rfl⟩
theorem r_X2_isNoted_5 : RW M_X2_isNoted 5 (.invokestatic 115) 3 163 0 8 := ⟨rfl, rfl⟩
theorem r_X2_isNoted_8 : RW M_X2_isNoted 8 (.ireturn) 1 0 0 9 := ⟨rfl, rfl⟩
theorem r_X2_lastOn_0 : RW M_X2_lastOn 0 (.aload_n 0) 1 0 0 1 := ⟨rfl, rfl⟩
theorem r_X2_lastOn_1 : RW M_X2_lastOn 1 (.getfield 20) 3 2 3 4 := ⟨rfl, rfl⟩
theorem r_X2_lastOn_4 : RW M_X2_lastOn 4 (.iload_n 1) 1 0 0 5 := ⟨rfl, rfl⟩
theorem r_X2_lastOn_5 : RW M_X2_lastOn 5 (.invokevirtual 69) 3 92 0 8 := ⟨rfl, rfl⟩
theorem r_X2_lastOn_8 : RW M_X2_lastOn 8 (.aload_n 0) 1 0 0 9 := ⟨rfl, rfl⟩
theorem r_X2_lastOn_9 : RW M_X2_lastOn 9 (.getfield 26) 3 2 5 12 := ⟨rfl, rfl⟩
theorem r_X2_lastOn_12 : RW M_X2_lastOn 12 (.iload_n 1) 1 0 0 13 := ⟨rfl, rfl⟩
theorem r_X2_lastOn_13 : RW M_X2_lastOn 13 (.invokevirtual 69) 3 92 0 16 := ⟨rfl, rfl⟩
theorem r_X2_lastOn_16 : RW M_X2_lastOn 16 (.iadd) 1 0 0 17 := ⟨rfl, rfl⟩
theorem r_X2_lastOn_17 : RW M_X2_lastOn 17 (.iconst 1) 1 0 0 18 := ⟨rfl, rfl⟩
theorem r_X2_lastOn_18 : RW M_X2_lastOn 18 (.isub) 1 0 0 19 := ⟨rfl, rfl⟩
theorem r_X2_lastOn_19 : RW M_X2_lastOn 19 (.ireturn) 1 0 0 20 := ⟨rfl, rfl⟩
theorem r_X2_saidBetween_0 : RW M_X2_saidBetween 0 (.iconst 0) 1 0 0 1 := ⟨rfl, rfl⟩
theorem r_X2_saidBetween_1 : RW M_X2_saidBetween 1 (.istore_n 3) 1 0 0 2 := ⟨rfl, rfl⟩
theorem r_X2_saidBetween_2 : RW M_X2_saidBetween 2 (.iconst 0) 1 0 0 3 := ⟨rfl, rfl⟩
theorem r_X2_saidBetween_3 : RW M_X2_saidBetween 3 (.istore 4) 2 0 0 5 := ⟨rfl, rfl⟩
theorem r_X2_saidBetween_5 : RW M_X2_saidBetween 5 (.iload 4) 2 0 0 7 := ⟨rfl, rfl⟩
theorem r_X2_saidBetween_7 : RW M_X2_saidBetween 7 (.aload_n 0) 1 0 0 8 := ⟨rfl, rfl⟩
theorem r_X2_saidBetween_8 : RW M_X2_saidBetween 8 (.getfield 32) 3 2 0 11 := ⟨rfl, rfl⟩
theorem r_X2_saidBetween_11 : RW M_X2_saidBetween 11 (.getfield 128) 3 1 10 14 := ⟨rfl, rfl⟩
theorem r_X2_saidBetween_14 : RW M_X2_saidBetween 14 (.if_icmp .ge 43) 3 57 0 17 := ⟨rfl, rfl⟩
theorem r_X2_saidBetween_17 : RW M_X2_saidBetween 17 (.aload_n 0) 1 0 0 18 := ⟨rfl, rfl⟩
theorem r_X2_saidBetween_18 : RW M_X2_saidBetween 18 (.getfield 16) 3 2 2 21 := ⟨rfl, rfl⟩
theorem r_X2_saidBetween_21 : RW M_X2_saidBetween 21 (.iload 4) 2 0 0 23 := ⟨rfl, rfl⟩
theorem r_X2_saidBetween_23 : RW M_X2_saidBetween 23 (.invokevirtual 69) 3 92 0 26 := ⟨rfl, rfl⟩
theorem r_X2_saidBetween_26 : RW M_X2_saidBetween 26 (.iload_n 1) 1 0 0 27 := ⟨rfl, rfl⟩
theorem r_X2_saidBetween_27 : RW M_X2_saidBetween 27 (.if_icmp .lt 24) 3 51 0 30 := ⟨rfl, rfl⟩
theorem r_X2_saidBetween_30 : RW M_X2_saidBetween 30 (.aload_n 0) 1 0 0 31 := ⟨rfl, rfl⟩
theorem r_X2_saidBetween_31 : RW M_X2_saidBetween 31 (.getfield 16) 3 2 2 34 := ⟨rfl, rfl⟩
theorem r_X2_saidBetween_34 : RW M_X2_saidBetween 34 (.iload 4) 2 0 0 36 := ⟨rfl, rfl⟩
theorem r_X2_saidBetween_36 : RW M_X2_saidBetween 36 (.invokevirtual 69) 3 92 0 39 := ⟨rfl, rfl⟩
theorem r_X2_saidBetween_39 : RW M_X2_saidBetween 39 (.iload_n 2) 1 0 0 40 := ⟨rfl, rfl⟩
theorem r_X2_saidBetween_40 : RW M_X2_saidBetween 40 (.if_icmp .gt 11) 3 51 0 43 := ⟨rfl, rfl⟩
theorem r_X2_saidBetween_43 : RW M_X2_saidBetween 43 (.iload_n 3) 1 0 0 44 := ⟨rfl, rfl⟩
theorem r_X2_saidBetween_44 : RW M_X2_saidBetween 44 (.iload 4) 2 0 0 46 := ⟨rfl, rfl⟩
theorem r_X2_saidBetween_46 : RW M_X2_saidBetween 46 (.invokestatic 122) 3 162 0 49 := ⟨rfl, rfl⟩
theorem r_X2_saidBetween_49 : RW M_X2_saidBetween 49 (.ior) 1 0 0 50 := ⟨rfl, rfl⟩
theorem r_X2_saidBetween_50 : RW M_X2_saidBetween 50 (.istore_n 3) 1 0 0 51 := ⟨rfl, rfl⟩
theorem r_X2_saidBetween_51 : RW M_X2_saidBetween 51 (.iinc 4 1) 3 0 0 54 := ⟨rfl, rfl⟩
theorem r_X2_saidBetween_54 : RW M_X2_saidBetween 54 (.goto (-49)) 3 5 0 57 := ⟨rfl, rfl⟩
theorem r_X2_saidBetween_57 : RW M_X2_saidBetween 57 (.iload_n 3) 1 0 0 58 := ⟨rfl, rfl⟩
theorem r_X2_saidBetween_58 : RW M_X2_saidBetween 58 (.ireturn) 1 0 0 59 := ⟨rfl, rfl⟩
theorem crumb_t {κ : CT} {η : HS} {all bound k : Nat} (h : all.testBit k = true) : crumb κ η all bound k + min bound (η.cr k) = crumb κ η all bound (k + 1) := by show _ = _ + ite _ _ _; rw [if_pos h]
theorem crumb_f {κ : CT} {η : HS} {all bound k : Nat} (h : all.testBit k = false) : crumb κ η all bound k = crumb κ η all bound (k + 1) := by show _ = _ + ite _ _ _; rw [if_neg (by rw [h]; decide)]; rfl
theorem c71_lastOn {d : Nat} {I : Nat → Nat → Int32} {J : Nat → Nat → Int64} {κ : CT} {η : HS} (hc : HC 4 κ I) (cb : CB κ) (hh : HH 71 η I) (hb : HB κ η) (hw : HW κ η) {b : Nat} (h : b < κ.nb)  (hd : 2 ≤ d) : RV d 33 [.ref 71, .int (nI b)] I J (nI (η.be b + η.wk b - 1)) := by
  refine RV.in (d0 := 1) hd mt_33 (Nat.le_of_ble_eq_true rfl) (fun d' hd' => ?_)
  have bns := cb.ns; have bnb := cb.nb; have bnc := cb.nc; have bnr := cb.nr
  have w1 := hw.wk1 b h
  show EV none M_X2_lastOn d' 0 [(0, .ref 71), (1, .int (nI b))] [] (hp I J) _
  refine EV.l (lv' := [(0, _), (1, _)]) r_X2_lastOn_0 rfl ?_
  refine EV.gR r_X2_lastOn_1 la_71 ?_
  refine EV.l (lv' := [(0, _), (1, _)]) r_X2_lastOn_4 rfl ?_
  refine EV.cv r_X2_lastOn_5 (aV1 mt_92 la_74) (c_getN (by omega) la_74 la_75 (hh.be _ (by omega))) ?_
  refine EV.l (lv' := [(0, _), (1, _)]) r_X2_lastOn_8 rfl ?_
  refine EV.gR r_X2_lastOn_9 la_71 ?_
  refine EV.l (lv' := [(0, _), (1, _)]) r_X2_lastOn_12 rfl ?_
  refine EV.cv r_X2_lastOn_13 (aV1 mt_92 la_78) (c_getN (by omega) la_78 la_79 (hh.wk _ (by omega))) ?_
  refine EV.o r_X2_lastOn_16 iaddN ?_
  refine EV.o r_X2_lastOn_17 (icN (1) (v := 1)) ?_
  refine EV.o r_X2_lastOn_18 (isubN) ?_
  exact EV.rv r_X2_lastOn_19 (rfl)
theorem c71_birdsOn {d : Nat} {I : Nat → Nat → Int32} {J : Nat → Nat → Int64} {κ : CT} {η : HS} (hc : HC 4 κ I) (cb : CB κ) (hh : HH 71 η I) (hb : HB κ η) (hw : HW κ η) {m : Nat} (hm : m < 1000)  (hd : 3 ≤ d) : RV d 34 [.ref 71, .int (nI m)] I J (nI (birds κ η m)) := by
  refine RV.in (d0 := 2) hd mt_34 (Nat.le_of_ble_eq_true rfl) (fun d' hd' => ?_)
  have bns := cb.ns; have bnb := cb.nb; have bnc := cb.nc; have bnr := cb.nr
  show EV none M_X2_birdsOn d' 0 [(0, .ref 71), (1, .int (nI m))] [] (hp I J) _
  refine EV.o r_X2_birdsOn_0 (icN (0) (v := 0)) ?_
  refine EV.l (lv' := [(0, _), (1, _), (2, _)]) r_X2_birdsOn_1 rfl ?_
  refine EV.o r_X2_birdsOn_2 (icN (0) (v := 0)) ?_
  refine EV.l (lv' := [(0, _), (1, _), (2, _), (3, _)]) r_X2_birdsOn_3 rfl ?_
  have L4 : ∀ y_ : Nat, (fun i => i ≤ κ.nb → EV none M_X2_birdsOn d' 4 [(0, .ref 71), (1, .int (nI m)), (2, .int (nI (mk (fun b => onB η b m) i))), (3, .int (nI i))] [] (hp I J) (QV I J (nI (birds κ η m)))) y_ := by
    refine ev_loop (fun i => κ.nb - i) ?_
    intro i ih4 hx4
    try dsimp only at ih4
    try dsimp only at hx4
    try dsimp only
    refine EV.l (lv' := [(0, _), (1, _), (2, _), (3, _)]) r_X2_birdsOn_4 rfl ?_
    refine EV.l (lv' := [(0, _), (1, _), (2, _), (3, _)]) r_X2_birdsOn_5 rfl ?_
    refine EV.gR r_X2_birdsOn_6 la_71 ?_
    refine EV.getV r_X2_birdsOn_9 la_4 (hc.nb) ?_
    refine EV.n2_ge r_X2_birdsOn_12 (fun h12 => ?_) (fun h12 => ?_)
    · -- 12 t
      refine EV.l (lv' := [(0, _), (1, _), (2, _), (3, _)]) r_X2_birdsOn_49 rfl ?_
      exact EV.rv r_X2_birdsOn_50 (by rw [show i = κ.nb by omega]; rfl)
    · -- 12 f
      have b1 := hb.be i; have b2 := hb.wk i; have b3 := hw.wk1 i (by omega)
      refine EV.l (lv' := [(0, _), (1, _), (2, _), (3, _)]) r_X2_birdsOn_15 rfl ?_
      refine EV.l (lv' := [(0, _), (1, _), (2, _), (3, _)]) r_X2_birdsOn_16 rfl ?_
      refine EV.gR r_X2_birdsOn_17 la_71 ?_
      refine EV.l (lv' := [(0, _), (1, _), (2, _), (3, _)]) r_X2_birdsOn_20 rfl ?_
      refine EV.cv r_X2_birdsOn_21 (aV1 mt_92 la_74) (c_getN (by omega) la_74 la_75 (hh.be _ (by omega))) ?_
      refine EV.n2_lt r_X2_birdsOn_24 (fun h24 => ?_) (fun h24 => ?_)
      · -- 24 t
        refine EV.l (lv' := [(0, _), (1, _), (2, _), (3, _)]) r_X2_birdsOn_43 rfl ?_
        rw [inc_nI]
        refine EV.g r_X2_birdsOn_46 ?_
        refine EV.sub ?_ rfl ?_ (ih4 (i + 1) ?_ ?_)
        · first | rw [mk_t (p := fun b => onB η b m) (decide_eq_true (by omega))] | rw [mk_f (p := fun b => onB η b m) (decide_eq_false (by omega))] | rw [mk_t (p := fun b => onB η b m) (by assumption)] | rw [mk_f (p := fun b => onB η b m) (by assumption)]
        · rfl
        · omega
        · omega
      · -- 24 f
        refine EV.l (lv' := [(0, _), (1, _), (2, _), (3, _)]) r_X2_birdsOn_27 rfl ?_
        refine EV.l (lv' := [(0, _), (1, _), (2, _), (3, _)]) r_X2_birdsOn_28 rfl ?_
        refine EV.l (lv' := [(0, _), (1, _), (2, _), (3, _)]) r_X2_birdsOn_29 rfl ?_
        refine EV.cv r_X2_birdsOn_30 (aV1 mt_33 la_71) (c71_lastOn hc cb hh hb hw (by omega) (by omega)) ?_
        refine EV.n2_gt r_X2_birdsOn_33 (fun h33 => ?_) (fun h33 => ?_)
        · -- 33 t
          refine EV.l (lv' := [(0, _), (1, _), (2, _), (3, _)]) r_X2_birdsOn_43 rfl ?_
          rw [inc_nI]
          refine EV.g r_X2_birdsOn_46 ?_
          refine EV.sub ?_ rfl ?_ (ih4 (i + 1) ?_ ?_)
          · first | rw [mk_t (p := fun b => onB η b m) (decide_eq_true (by omega))] | rw [mk_f (p := fun b => onB η b m) (decide_eq_false (by omega))] | rw [mk_t (p := fun b => onB η b m) (by assumption)] | rw [mk_f (p := fun b => onB η b m) (by assumption)]
          · rfl
          · omega
          · omega
        · -- 33 f
          refine EV.l (lv' := [(0, _), (1, _), (2, _), (3, _)]) r_X2_birdsOn_36 rfl ?_
          refine EV.l (lv' := [(0, _), (1, _), (2, _), (3, _)]) r_X2_birdsOn_37 rfl ?_
          refine EV.cv r_X2_birdsOn_38 (aS1 mt_162) (c_bit (by omega) (by omega)) ?_
          refine EV.o r_X2_birdsOn_41 iorN ?_
          refine EV.l (lv' := [(0, _), (1, _), (2, _), (3, _)]) r_X2_birdsOn_42 rfl ?_
          refine EV.l (lv' := [(0, _), (1, _), (2, _), (3, _)]) r_X2_birdsOn_43 rfl ?_
          rw [inc_nI]
          refine EV.g r_X2_birdsOn_46 ?_
          refine EV.sub ?_ rfl ?_ (ih4 (i + 1) ?_ ?_)
          · first | rw [mk_t (p := fun b => onB η b m) (decide_eq_true (by omega))] | rw [mk_f (p := fun b => onB η b m) (decide_eq_false (by omega))] | rw [mk_t (p := fun b => onB η b m) (by assumption)] | rw [mk_f (p := fun b => onB η b m) (by assumption)]
          · rfl
          · omega
          · omega
  have h0 := L4 (0)
  try dsimp only at h0
  refine EV.sub ?_ rfl ?_ (h0 ?_)
  · rfl
  · rfl
  · omega
theorem c71_does {d : Nat} {I : Nat → Nat → Int32} {J : Nat → Nat → Int64} {κ : CT} {η : HS} (hc : HC 4 κ I) (cb : CB κ) (hh : HH 71 η I) (hb : HB κ η) (hw : HW κ η) {i : Nat} (hi : i < 9)  (hd : 4 ≤ d) : RV d 35 [.ref 71, .int (nI i)] I J (bI (doesC κ η i)) := by
  refine RV.in (d0 := 3) hd mt_35 (Nat.le_of_ble_eq_true rfl) (fun d' hd' => ?_)
  have bns := cb.ns; have bnb := cb.nb; have bnc := cb.nc; have bnr := cb.nr
  have b1 := hb.sa i
  have b2 : birds κ η (η.sa i) < 16 := mk_nb cb _
  show EV none M_X2_doesCount d' 0 [(0, .ref 71), (1, .int (nI i))] [] (hp I J) _
  refine EV.l (lv' := [(0, _), (1, _)]) r_X2_doesCount_0 rfl ?_
  refine EV.l (lv' := [(0, _), (1, _)]) r_X2_doesCount_1 rfl ?_
  refine EV.gR r_X2_doesCount_2 la_71 ?_
  refine EV.l (lv' := [(0, _), (1, _)]) r_X2_doesCount_5 rfl ?_
  refine EV.cv r_X2_doesCount_6 (aV1 mt_92 la_72) (c_getN (by omega) la_72 la_73 (hh.sa _ (by omega))) ?_
  refine EV.cv r_X2_doesCount_9 (aV1 mt_34 la_71) (c71_birdsOn hc cb hh hb hw (by omega) (by omega)) ?_
  refine EV.n0_ne r_X2_doesCount_12 (fun h12 => ?_) (fun h12 => ?_)
  · -- 12 t
    refine EV.o r_X2_doesCount_19 (icN (0) (v := 0)) ?_
    exact EV.rv r_X2_doesCount_20 (by first | (rw [show doesC κ η i = true from decide_eq_true (by omega)]; rfl) | (rw [show doesC κ η i = false from decide_eq_false (by omega)]; rfl))
  · -- 12 f
    refine EV.o r_X2_doesCount_15 (icN (1) (v := 1)) ?_
    refine EV.g r_X2_doesCount_16 ?_
    exact EV.rv r_X2_doesCount_20 (by first | (rw [show doesC κ η i = true from decide_eq_true (by omega)]; rfl) | (rw [show doesC κ η i = false from decide_eq_false (by omega)]; rfl))
theorem c71_counting {d : Nat} {I : Nat → Nat → Int32} {J : Nat → Nat → Int64} {κ : CT} {η : HS} (hc : HC 4 κ I) (cb : CB κ) (hh : HH 71 η I) (hb : HB κ η) (hw : HW κ η)  (hd : 5 ≤ d) : RV d 36 [.ref 71] I J (nI (cnt κ η)) := by
  refine RV.in (d0 := 4) hd mt_36 (Nat.le_of_ble_eq_true rfl) (fun d' hd' => ?_)
  have bns := cb.ns; have bnb := cb.nb; have bnc := cb.nc; have bnr := cb.nr
  show EV none M_X2_counting d' 0 [(0, .ref 71)] [] (hp I J) _
  refine EV.o r_X2_counting_0 (icN (0) (v := 0)) ?_
  refine EV.l (lv' := [(0, _), (1, _)]) r_X2_counting_1 rfl ?_
  refine EV.o r_X2_counting_2 (icN (0) (v := 0)) ?_
  refine EV.l (lv' := [(0, _), (1, _), (2, _)]) r_X2_counting_3 rfl ?_
  have L4 : ∀ y_ : Nat, (fun i => i ≤ κ.ns → EV none M_X2_counting d' 4 [(0, .ref 71), (1, .int (nI (mk (doesC κ η) i))), (2, .int (nI i))] [] (hp I J) (QV I J (nI (cnt κ η)))) y_ := by
    refine ev_loop (fun i => κ.ns - i) ?_
    intro i ih4 hx4
    try dsimp only at ih4
    try dsimp only at hx4
    try dsimp only
    refine EV.l (lv' := [(0, _), (1, _), (2, _)]) r_X2_counting_4 rfl ?_
    refine EV.l (lv' := [(0, _), (1, _), (2, _)]) r_X2_counting_5 rfl ?_
    refine EV.gR r_X2_counting_6 la_71 ?_
    refine EV.getV r_X2_counting_9 la_4 (hc.ns) ?_
    refine EV.n2_ge r_X2_counting_12 (fun h12 => ?_) (fun h12 => ?_)
    · -- 12 t
      refine EV.l (lv' := [(0, _), (1, _), (2, _)]) r_X2_counting_36 rfl ?_
      exact EV.rv r_X2_counting_37 (by rw [show i = κ.ns by omega]; rfl)
    · -- 12 f
      refine EV.l (lv' := [(0, _), (1, _), (2, _)]) r_X2_counting_15 rfl ?_
      refine EV.l (lv' := [(0, _), (1, _), (2, _)]) r_X2_counting_16 rfl ?_
      refine EV.cv r_X2_counting_17 (aV1 mt_35 la_71) (c71_does hc cb hh hb hw (by omega) (by omega)) ?_
      refine EV.b0_eq r_X2_counting_20 (fun h20 => ?_) (fun h20 => ?_)
      · -- 20 t
        refine EV.l (lv' := [(0, _), (1, _), (2, _)]) r_X2_counting_30 rfl ?_
        rw [inc_nI]
        refine EV.g r_X2_counting_33 ?_
        refine EV.sub ?_ rfl ?_ (ih4 (i + 1) ?_ ?_)
        · first | rw [mk_t (p := doesC κ η) (decide_eq_true (by omega))] | rw [mk_f (p := doesC κ η) (decide_eq_false (by omega))] | rw [mk_t (p := doesC κ η) (by assumption)] | rw [mk_f (p := doesC κ η) (by assumption)]
        · rfl
        · omega
        · omega
      · -- 20 f
        refine EV.l (lv' := [(0, _), (1, _), (2, _)]) r_X2_counting_23 rfl ?_
        refine EV.l (lv' := [(0, _), (1, _), (2, _)]) r_X2_counting_24 rfl ?_
        refine EV.cv r_X2_counting_25 (aS1 mt_162) (c_bit (by omega) (by omega)) ?_
        refine EV.o r_X2_counting_28 iorN ?_
        refine EV.l (lv' := [(0, _), (1, _), (2, _)]) r_X2_counting_29 rfl ?_
        refine EV.l (lv' := [(0, _), (1, _), (2, _)]) r_X2_counting_30 rfl ?_
        rw [inc_nI]
        refine EV.g r_X2_counting_33 ?_
        refine EV.sub ?_ rfl ?_ (ih4 (i + 1) ?_ ?_)
        · first | rw [mk_t (p := doesC κ η) (decide_eq_true (by omega))] | rw [mk_f (p := doesC κ η) (decide_eq_false (by omega))] | rw [mk_t (p := doesC κ η) (by assumption)] | rw [mk_f (p := doesC κ η) (by assumption)]
        · rfl
        · omega
        · omega
  have h0 := L4 (0)
  try dsimp only at h0
  refine EV.sub ?_ rfl ?_ (h0 ?_)
  · rfl
  · rfl
  · omega
theorem c71_said {d : Nat} {I : Nat → Nat → Int32} {J : Nat → Nat → Int64} {κ : CT} {η : HS} (hc : HC 4 κ I) (cb : CB κ) (hh : HH 71 η I) (hb : HB κ η) {a b : Nat} (ha : a < 100000) (hb2 : b < 100000)  (hd : 2 ≤ d) : RV d 37 [.ref 71, .int (nI a), .int (nI b)] I J (nI (sdB κ η a b)) := by
  refine RV.in (d0 := 1) hd mt_37 (Nat.le_of_ble_eq_true rfl) (fun d' hd' => ?_)
  have bns := cb.ns; have bnb := cb.nb; have bnc := cb.nc; have bnr := cb.nr
  show EV none M_X2_saidBetween d' 0 [(0, .ref 71), (1, .int (nI a)), (2, .int (nI b))] [] (hp I J) _
  refine EV.o r_X2_saidBetween_0 (icN (0) (v := 0)) ?_
  refine EV.l (lv' := [(0, _), (1, _), (2, _), (3, _)]) r_X2_saidBetween_1 rfl ?_
  refine EV.o r_X2_saidBetween_2 (icN (0) (v := 0)) ?_
  refine EV.l (lv' := [(0, _), (1, _), (2, _), (3, _), (4, _)]) r_X2_saidBetween_3 rfl ?_
  have L5 : ∀ y_ : Nat, (fun i => i ≤ κ.ns → EV none M_X2_saidBetween d' 5 [(0, .ref 71), (1, .int (nI a)), (2, .int (nI b)), (3, .int (nI (mk (fun i => decide (a ≤ η.sa i ∧ η.sa i ≤ b)) i))), (4, .int (nI i))] [] (hp I J) (QV I J (nI (sdB κ η a b)))) y_ := by
    refine ev_loop (fun i => κ.ns - i) ?_
    intro i ih5 hx5
    try dsimp only at ih5
    try dsimp only at hx5
    try dsimp only
    refine EV.l (lv' := [(0, _), (1, _), (2, _), (3, _), (4, _)]) r_X2_saidBetween_5 rfl ?_
    refine EV.l (lv' := [(0, _), (1, _), (2, _), (3, _), (4, _)]) r_X2_saidBetween_7 rfl ?_
    refine EV.gR r_X2_saidBetween_8 la_71 ?_
    refine EV.getV r_X2_saidBetween_11 la_4 (hc.ns) ?_
    refine EV.n2_ge r_X2_saidBetween_14 (fun h14 => ?_) (fun h14 => ?_)
    · -- 14 t
      refine EV.l (lv' := [(0, _), (1, _), (2, _), (3, _), (4, _)]) r_X2_saidBetween_57 rfl ?_
      exact EV.rv r_X2_saidBetween_58 (by rw [show i = κ.ns by omega]; rfl)
    · -- 14 f
      have b1 := hb.sa i
      refine EV.l (lv' := [(0, _), (1, _), (2, _), (3, _), (4, _)]) r_X2_saidBetween_17 rfl ?_
      refine EV.gR r_X2_saidBetween_18 la_71 ?_
      refine EV.l (lv' := [(0, _), (1, _), (2, _), (3, _), (4, _)]) r_X2_saidBetween_21 rfl ?_
      refine EV.cv r_X2_saidBetween_23 (aV1 mt_92 la_72) (c_getN (by omega) la_72 la_73 (hh.sa _ (by omega))) ?_
      refine EV.l (lv' := [(0, _), (1, _), (2, _), (3, _), (4, _)]) r_X2_saidBetween_26 rfl ?_
      refine EV.n2_lt r_X2_saidBetween_27 (fun h27 => ?_) (fun h27 => ?_)
      · -- 27 t
        refine EV.l (lv' := [(0, _), (1, _), (2, _), (3, _), (4, _)]) r_X2_saidBetween_51 rfl ?_
        rw [inc_nI]
        refine EV.g r_X2_saidBetween_54 ?_
        refine EV.sub ?_ rfl ?_ (ih5 (i + 1) ?_ ?_)
        · first | rw [mk_t (p := fun i => decide (a ≤ η.sa i ∧ η.sa i ≤ b)) (decide_eq_true (by omega))] | rw [mk_f (p := fun i => decide (a ≤ η.sa i ∧ η.sa i ≤ b)) (decide_eq_false (by omega))] | rw [mk_t (p := fun i => decide (a ≤ η.sa i ∧ η.sa i ≤ b)) (by assumption)] | rw [mk_f (p := fun i => decide (a ≤ η.sa i ∧ η.sa i ≤ b)) (by assumption)]
        · rfl
        · omega
        · omega
      · -- 27 f
        refine EV.l (lv' := [(0, _), (1, _), (2, _), (3, _), (4, _)]) r_X2_saidBetween_30 rfl ?_
        refine EV.gR r_X2_saidBetween_31 la_71 ?_
        refine EV.l (lv' := [(0, _), (1, _), (2, _), (3, _), (4, _)]) r_X2_saidBetween_34 rfl ?_
        refine EV.cv r_X2_saidBetween_36 (aV1 mt_92 la_72) (c_getN (by omega) la_72 la_73 (hh.sa _ (by omega))) ?_
        refine EV.l (lv' := [(0, _), (1, _), (2, _), (3, _), (4, _)]) r_X2_saidBetween_39 rfl ?_
        refine EV.n2_gt r_X2_saidBetween_40 (fun h40 => ?_) (fun h40 => ?_)
        · -- 40 t
          refine EV.l (lv' := [(0, _), (1, _), (2, _), (3, _), (4, _)]) r_X2_saidBetween_51 rfl ?_
          rw [inc_nI]
          refine EV.g r_X2_saidBetween_54 ?_
          refine EV.sub ?_ rfl ?_ (ih5 (i + 1) ?_ ?_)
          · first | rw [mk_t (p := fun i => decide (a ≤ η.sa i ∧ η.sa i ≤ b)) (decide_eq_true (by omega))] | rw [mk_f (p := fun i => decide (a ≤ η.sa i ∧ η.sa i ≤ b)) (decide_eq_false (by omega))] | rw [mk_t (p := fun i => decide (a ≤ η.sa i ∧ η.sa i ≤ b)) (by assumption)] | rw [mk_f (p := fun i => decide (a ≤ η.sa i ∧ η.sa i ≤ b)) (by assumption)]
          · rfl
          · omega
          · omega
        · -- 40 f
          refine EV.l (lv' := [(0, _), (1, _), (2, _), (3, _), (4, _)]) r_X2_saidBetween_43 rfl ?_
          refine EV.l (lv' := [(0, _), (1, _), (2, _), (3, _), (4, _)]) r_X2_saidBetween_44 rfl ?_
          refine EV.cv r_X2_saidBetween_46 (aS1 mt_162) (c_bit (by omega) (by omega)) ?_
          refine EV.o r_X2_saidBetween_49 iorN ?_
          refine EV.l (lv' := [(0, _), (1, _), (2, _), (3, _), (4, _)]) r_X2_saidBetween_50 rfl ?_
          refine EV.l (lv' := [(0, _), (1, _), (2, _), (3, _), (4, _)]) r_X2_saidBetween_51 rfl ?_
          rw [inc_nI]
          refine EV.g r_X2_saidBetween_54 ?_
          refine EV.sub ?_ rfl ?_ (ih5 (i + 1) ?_ ?_)
          · first | rw [mk_t (p := fun i => decide (a ≤ η.sa i ∧ η.sa i ≤ b)) (decide_eq_true (by omega))] | rw [mk_f (p := fun i => decide (a ≤ η.sa i ∧ η.sa i ≤ b)) (decide_eq_false (by omega))] | rw [mk_t (p := fun i => decide (a ≤ η.sa i ∧ η.sa i ≤ b)) (by assumption)] | rw [mk_f (p := fun i => decide (a ≤ η.sa i ∧ η.sa i ≤ b)) (by assumption)]
          · rfl
          · omega
          · omega
  have h0 := L5 (0)
  try dsimp only at h0
  refine EV.sub ?_ rfl ?_ (h0 ?_)
  · rfl
  · rfl
  · omega
theorem c71_heard {d : Nat} {I : Nat → Nat → Int32} {J : Nat → Nat → Int64} {κ : CT} {η : HS} (hc : HC 4 κ I) (cb : CB κ) (hh : HH 71 η I) (hb : HB κ η) (hw : HW κ η) {m : Nat} (hm : m < 100000)  (hd : 6 ≤ d) : RV d 38 [.ref 71, .int (nI m)] I J (nI (heard κ η m)) := by
  refine RV.in (d0 := 5) hd mt_38 (Nat.le_of_ble_eq_true rfl) (fun d' hd' => ?_)
  have bns := cb.ns; have bnb := cb.nb; have bnc := cb.nc; have bnr := cb.nr
  show EV none M_X2_heardBy d' 0 [(0, .ref 71), (1, .int (nI m))] [] (hp I J) _
  refine EV.l (lv' := [(0, _), (1, _)]) r_X2_heardBy_0 rfl ?_
  refine EV.cv r_X2_heardBy_1 (aV0 mt_36 la_71) (c71_counting hc cb hh hb hw (by omega)) ?_
  refine EV.l (lv' := [(0, _), (1, _)]) r_X2_heardBy_4 rfl ?_
  refine EV.o r_X2_heardBy_5 (icN (0) (v := 0)) ?_
  refine EV.l (lv' := [(0, _), (1, _)]) r_X2_heardBy_6 rfl ?_
  refine EV.cv r_X2_heardBy_7 (aV2 mt_37 la_71) (c71_said hc cb hh hb (by omega) (by omega) (by omega)) ?_
  refine EV.o r_X2_heardBy_10 iandN ?_
  exact EV.rv r_X2_heardBy_11 (rfl)
theorem c71_isNoted {d : Nat} {I : Nat → Nat → Int32} {J : Nat → Nat → Int64} {κ : CT} {η : HS} (hc : HC 4 κ I) (cb : CB κ) (hh : HH 71 η I) (hb : HB κ η) {i : Nat} (hi : i < 9)  (hd : 2 ≤ d) : RV d 40 [.ref 71, .int (nI i)] I J (bI (η.nt.testBit i)) := by
  refine RV.in (d0 := 1) hd mt_40 (Nat.le_of_ble_eq_true rfl) (fun d' hd' => ?_)
  have bns := cb.ns; have bnb := cb.nb; have bnc := cb.nc; have bnr := cb.nr
  have b1 := hb.nt
  have b2 := pow_ns cb
  show EV none M_X2_isNoted d' 0 [(0, .ref 71), (1, .int (nI i))] [] (hp I J) _
  refine EV.l (lv' := [(0, _), (1, _)]) r_X2_isNoted_0 rfl ?_
  refine EV.getV r_X2_isNoted_1 la_71 (hh.nt) ?_
  refine EV.l (lv' := [(0, _), (1, _)]) r_X2_isNoted_4 rfl ?_
  refine EV.cv r_X2_isNoted_5 (aS2 mt_163) (c_has (by omega) (by omega) (by omega)) ?_
  exact EV.rv r_X2_isNoted_8 (rfl) ret_b
theorem c71_canLead {d : Nat} {I : Nat → Nat → Int32} {J : Nat → Nat → Int64} {κ : CT} {η : HS} (hc : HC 4 κ I) (cb : CB κ) (hh : HH 71 η I) (hb : HB κ η) {k b n : Nat} (hk : k < 4) (hb2 : b < 4) (hn : n < 100000)  (hd : 2 ≤ d) : RV d 41 [.ref 71, .int (nI k), .int (nI b), .int (nI n)] I J (bI (canL η k b n)) := by
  refine RV.in (d0 := 1) hd mt_41 (Nat.le_of_ble_eq_true rfl) (fun d' hd' => ?_)
  have bns := cb.ns; have bnb := cb.nb; have bnc := cb.nc; have bnr := cb.nr
  have b1 := hb.cr k; have b2 := hb.be b; have b3 := hb.mi
  show EV none M_X2_canLead d' 0 [(0, .ref 71), (1, .int (nI k)), (2, .int (nI b)), (3, .int (nI n))] [] (hp I J) _
  refine EV.l (lv' := [(0, _), (1, _), (2, _), (3, _)]) r_X2_canLead_0 rfl ?_
  refine EV.gR r_X2_canLead_1 la_71 ?_
  refine EV.l (lv' := [(0, _), (1, _), (2, _), (3, _)]) r_X2_canLead_4 rfl ?_
  refine EV.cv r_X2_canLead_5 (aV1 mt_92 la_80) (c_getN (by omega) la_80 la_81 (hh.cr _ (by omega))) ?_
  refine EV.l (lv' := [(0, _), (1, _), (2, _), (3, _)]) r_X2_canLead_8 rfl ?_
  refine EV.n2_lt r_X2_canLead_9 (fun h9 => ?_) (fun h9 => ?_)
  · -- 9 t
    refine EV.o r_X2_canLead_31 (icN (0) (v := 0)) ?_
    exact EV.rv r_X2_canLead_32 (by first | (rw [show canL η k b n = true from decide_eq_true (by omega)]; rfl) | (rw [show canL η k b n = false from decide_eq_false (by omega)]; rfl))
  · -- 9 f
    refine EV.l (lv' := [(0, _), (1, _), (2, _), (3, _)]) r_X2_canLead_12 rfl ?_
    refine EV.gR r_X2_canLead_13 la_71 ?_
    refine EV.l (lv' := [(0, _), (1, _), (2, _), (3, _)]) r_X2_canLead_16 rfl ?_
    refine EV.cv r_X2_canLead_17 (aV1 mt_92 la_74) (c_getN (by omega) la_74 la_75 (hh.be _ (by omega))) ?_
    refine EV.l (lv' := [(0, _), (1, _), (2, _), (3, _)]) r_X2_canLead_20 rfl ?_
    refine EV.getV r_X2_canLead_21 la_71 (hh.mi) ?_
    refine EV.n2_lt r_X2_canLead_24 (fun h24 => ?_) (fun h24 => ?_)
    · -- 24 t
      refine EV.o r_X2_canLead_31 (icN (0) (v := 0)) ?_
      exact EV.rv r_X2_canLead_32 (by first | (rw [show canL η k b n = true from decide_eq_true (by omega)]; rfl) | (rw [show canL η k b n = false from decide_eq_false (by omega)]; rfl))
    · -- 24 f
      refine EV.o r_X2_canLead_27 (icN (1) (v := 1)) ?_
      refine EV.g r_X2_canLead_28 ?_
      exact EV.rv r_X2_canLead_32 (by first | (rw [show canL η k b n = true from decide_eq_true (by omega)]; rfl) | (rw [show canL η k b n = false from decide_eq_false (by omega)]; rfl))
theorem c71_beginIf {d : Nat} {I : Nat → Nat → Int32} {J : Nat → Nat → Int64} {κ : CT} {η : HS} (hc : HC 4 κ I) (cb : CB κ) (hh : HH 71 η I) (hb : HB κ η) {b n : Nat} (hb2 : b < 4) (hn : n < 100000)  (hd : 2 ≤ d) : RV d 30 [.ref 71, .int (nI b), .int (nI n)] I J (nI (min 400 (η.be b + n))) := by
  refine RV.in (d0 := 1) hd mt_30 (Nat.le_of_ble_eq_true rfl) (fun d' hd' => ?_)
  have bns := cb.ns; have bnb := cb.nb; have bnc := cb.nc; have bnr := cb.nr
  have b2 := hb.be b
  show EV none M_X2_beginIfLed d' 0 [(0, .ref 71), (1, .int (nI b)), (2, .int (nI n))] [] (hp I J) _
  refine EV.o r_X2_beginIfLed_0 (spN (400) 400) ?_
  refine EV.l (lv' := [(0, _), (1, _), (2, _)]) r_X2_beginIfLed_3 rfl ?_
  refine EV.gR r_X2_beginIfLed_4 la_71 ?_
  refine EV.l (lv' := [(0, _), (1, _), (2, _)]) r_X2_beginIfLed_7 rfl ?_
  refine EV.cv r_X2_beginIfLed_8 (aV1 mt_92 la_74) (c_getN (by omega) la_74 la_75 (hh.be _ (by omega))) ?_
  refine EV.l (lv' := [(0, _), (1, _), (2, _)]) r_X2_beginIfLed_11 rfl ?_
  refine EV.o r_X2_beginIfLed_12 iaddN ?_
  refine EV.pmin r_X2_beginIfLed_13 ?_
  exact EV.rv r_X2_beginIfLed_16 (rfl)
theorem c71_crumbs {d : Nat} {I : Nat → Nat → Int32} {J : Nat → Nat → Int64} {κ : CT} {η : HS} (hc : HC 4 κ I) (cb : CB κ) (hh : HH 71 η I) (hb : HB κ η) {all bound : Nat} (ha : all < 16) (hb2 : bound < 100000)  (hd : 2 ≤ d) : RV d 32 [.ref 71, .int (nI all), .int (nI bound)] I J (nI (crumb κ η all bound κ.nc)) := by
  refine RV.in (d0 := 1) hd mt_32 (Nat.le_of_ble_eq_true rfl) (fun d' hd' => ?_)
  have bns := cb.ns; have bnb := cb.nb; have bnc := cb.nc; have bnr := cb.nr
  show EV none M_X2_crumbsOf d' 0 [(0, .ref 71), (1, .int (nI all)), (2, .int (nI bound))] [] (hp I J) _
  refine EV.o r_X2_crumbsOf_0 (icN (0) (v := 0)) ?_
  refine EV.l (lv' := [(0, _), (1, _), (2, _), (3, _)]) r_X2_crumbsOf_1 rfl ?_
  refine EV.o r_X2_crumbsOf_2 (icN (0) (v := 0)) ?_
  refine EV.l (lv' := [(0, _), (1, _), (2, _), (3, _), (4, _)]) r_X2_crumbsOf_3 rfl ?_
  have L5 : ∀ y_ : Nat, (fun i => i ≤ κ.nc → EV none M_X2_crumbsOf d' 5 [(0, .ref 71), (1, .int (nI all)), (2, .int (nI bound)), (3, .int (nI (crumb κ η all bound i))), (4, .int (nI i))] [] (hp I J) (QV I J (nI (crumb κ η all bound κ.nc)))) y_ := by
    refine ev_loop (fun i => κ.nc - i) ?_
    intro i ih5 hx5
    try dsimp only at ih5
    try dsimp only at hx5
    try dsimp only
    refine EV.l (lv' := [(0, _), (1, _), (2, _), (3, _), (4, _)]) r_X2_crumbsOf_5 rfl ?_
    refine EV.l (lv' := [(0, _), (1, _), (2, _), (3, _), (4, _)]) r_X2_crumbsOf_7 rfl ?_
    refine EV.gR r_X2_crumbsOf_8 la_71 ?_
    refine EV.getV r_X2_crumbsOf_11 la_4 (hc.nc) ?_
    refine EV.n2_ge r_X2_crumbsOf_14 (fun h14 => ?_) (fun h14 => ?_)
    · -- 14 t
      refine EV.l (lv' := [(0, _), (1, _), (2, _), (3, _), (4, _)]) r_X2_crumbsOf_48 rfl ?_
      exact EV.rv r_X2_crumbsOf_49 (by rw [show i = κ.nc by omega])
    · -- 14 f
      have b1 := hb.cr i; have b2 := crumb_le (κ := κ) (η := η) (all := all) (bound := bound) hb.cr i
      refine EV.l (lv' := [(0, _), (1, _), (2, _), (3, _), (4, _)]) r_X2_crumbsOf_17 rfl ?_
      refine EV.l (lv' := [(0, _), (1, _), (2, _), (3, _), (4, _)]) r_X2_crumbsOf_18 rfl ?_
      refine EV.cv r_X2_crumbsOf_20 (aS2 mt_163) (c_has (by omega) (by omega) (by omega)) ?_
      refine EV.b0_eq r_X2_crumbsOf_23 (fun h23 => ?_) (fun h23 => ?_)
      · -- 23 t
        refine EV.l (lv' := [(0, _), (1, _), (2, _), (3, _), (4, _)]) r_X2_crumbsOf_42 rfl ?_
        rw [inc_nI]
        refine EV.g r_X2_crumbsOf_45 ?_
        refine EV.sub ?_ rfl ?_ (ih5 (i + 1) ?_ ?_)
        · first | rw [crumb_t (by assumption)] | rw [crumb_f (by assumption)]
        · rfl
        · omega
        · omega
      · -- 23 f
        refine EV.l (lv' := [(0, _), (1, _), (2, _), (3, _), (4, _)]) r_X2_crumbsOf_26 rfl ?_
        refine EV.l (lv' := [(0, _), (1, _), (2, _), (3, _), (4, _)]) r_X2_crumbsOf_27 rfl ?_
        refine EV.l (lv' := [(0, _), (1, _), (2, _), (3, _), (4, _)]) r_X2_crumbsOf_28 rfl ?_
        refine EV.gR r_X2_crumbsOf_29 la_71 ?_
        refine EV.l (lv' := [(0, _), (1, _), (2, _), (3, _), (4, _)]) r_X2_crumbsOf_32 rfl ?_
        refine EV.cv r_X2_crumbsOf_34 (aV1 mt_92 la_80) (c_getN (by omega) la_80 la_81 (hh.cr _ (by omega))) ?_
        refine EV.pmin r_X2_crumbsOf_37 ?_
        refine EV.o r_X2_crumbsOf_40 iaddN ?_
        refine EV.l (lv' := [(0, _), (1, _), (2, _), (3, _), (4, _)]) r_X2_crumbsOf_41 rfl ?_
        refine EV.l (lv' := [(0, _), (1, _), (2, _), (3, _), (4, _)]) r_X2_crumbsOf_42 rfl ?_
        rw [inc_nI]
        refine EV.g r_X2_crumbsOf_45 ?_
        refine EV.sub ?_ rfl ?_ (ih5 (i + 1) ?_ ?_)
        · first | rw [crumb_t (by assumption)] | rw [crumb_f (by assumption)]
        · rfl
        · omega
        · omega
  have h0 := L5 (0)
  try dsimp only at h0
  refine EV.sub ?_ rfl ?_ (h0 ?_)
  · rfl
  · rfl
  · omega
theorem c95_lastOn {d : Nat} {I : Nat → Nat → Int32} {J : Nat → Nat → Int64} {κ : CT} {η : HS} (hc : HC 4 κ I) (cb : CB κ) (hh : HH 95 η I) (hb : HB κ η) (hw : HW κ η) {b : Nat} (h : b < κ.nb)  (hd : 2 ≤ d) : RV d 33 [.ref 95, .int (nI b)] I J (nI (η.be b + η.wk b - 1)) := by
  refine RV.in (d0 := 1) hd mt_33 (Nat.le_of_ble_eq_true rfl) (fun d' hd' => ?_)
  have bns := cb.ns; have bnb := cb.nb; have bnc := cb.nc; have bnr := cb.nr
  have w1 := hw.wk1 b h
  show EV none M_X2_lastOn d' 0 [(0, .ref 95), (1, .int (nI b))] [] (hp I J) _
  refine EV.l (lv' := [(0, _), (1, _)]) r_X2_lastOn_0 rfl ?_
  refine EV.gR r_X2_lastOn_1 la_95 ?_
  refine EV.l (lv' := [(0, _), (1, _)]) r_X2_lastOn_4 rfl ?_
  refine EV.cv r_X2_lastOn_5 (aV1 mt_92 la_98) (c_getN (by omega) la_98 la_99 (hh.be _ (by omega))) ?_
  refine EV.l (lv' := [(0, _), (1, _)]) r_X2_lastOn_8 rfl ?_
  refine EV.gR r_X2_lastOn_9 la_95 ?_
  refine EV.l (lv' := [(0, _), (1, _)]) r_X2_lastOn_12 rfl ?_
  refine EV.cv r_X2_lastOn_13 (aV1 mt_92 la_102) (c_getN (by omega) la_102 la_103 (hh.wk _ (by omega))) ?_
  refine EV.o r_X2_lastOn_16 iaddN ?_
  refine EV.o r_X2_lastOn_17 (icN (1) (v := 1)) ?_
  refine EV.o r_X2_lastOn_18 (isubN) ?_
  exact EV.rv r_X2_lastOn_19 (rfl)
theorem c95_birdsOn {d : Nat} {I : Nat → Nat → Int32} {J : Nat → Nat → Int64} {κ : CT} {η : HS} (hc : HC 4 κ I) (cb : CB κ) (hh : HH 95 η I) (hb : HB κ η) (hw : HW κ η) {m : Nat} (hm : m < 1000)  (hd : 3 ≤ d) : RV d 34 [.ref 95, .int (nI m)] I J (nI (birds κ η m)) := by
  refine RV.in (d0 := 2) hd mt_34 (Nat.le_of_ble_eq_true rfl) (fun d' hd' => ?_)
  have bns := cb.ns; have bnb := cb.nb; have bnc := cb.nc; have bnr := cb.nr
  show EV none M_X2_birdsOn d' 0 [(0, .ref 95), (1, .int (nI m))] [] (hp I J) _
  refine EV.o r_X2_birdsOn_0 (icN (0) (v := 0)) ?_
  refine EV.l (lv' := [(0, _), (1, _), (2, _)]) r_X2_birdsOn_1 rfl ?_
  refine EV.o r_X2_birdsOn_2 (icN (0) (v := 0)) ?_
  refine EV.l (lv' := [(0, _), (1, _), (2, _), (3, _)]) r_X2_birdsOn_3 rfl ?_
  have L4 : ∀ y_ : Nat, (fun i => i ≤ κ.nb → EV none M_X2_birdsOn d' 4 [(0, .ref 95), (1, .int (nI m)), (2, .int (nI (mk (fun b => onB η b m) i))), (3, .int (nI i))] [] (hp I J) (QV I J (nI (birds κ η m)))) y_ := by
    refine ev_loop (fun i => κ.nb - i) ?_
    intro i ih4 hx4
    try dsimp only at ih4
    try dsimp only at hx4
    try dsimp only
    refine EV.l (lv' := [(0, _), (1, _), (2, _), (3, _)]) r_X2_birdsOn_4 rfl ?_
    refine EV.l (lv' := [(0, _), (1, _), (2, _), (3, _)]) r_X2_birdsOn_5 rfl ?_
    refine EV.gR r_X2_birdsOn_6 la_95 ?_
    refine EV.getV r_X2_birdsOn_9 la_4 (hc.nb) ?_
    refine EV.n2_ge r_X2_birdsOn_12 (fun h12 => ?_) (fun h12 => ?_)
    · -- 12 t
      refine EV.l (lv' := [(0, _), (1, _), (2, _), (3, _)]) r_X2_birdsOn_49 rfl ?_
      exact EV.rv r_X2_birdsOn_50 (by rw [show i = κ.nb by omega]; rfl)
    · -- 12 f
      have b1 := hb.be i; have b2 := hb.wk i; have b3 := hw.wk1 i (by omega)
      refine EV.l (lv' := [(0, _), (1, _), (2, _), (3, _)]) r_X2_birdsOn_15 rfl ?_
      refine EV.l (lv' := [(0, _), (1, _), (2, _), (3, _)]) r_X2_birdsOn_16 rfl ?_
      refine EV.gR r_X2_birdsOn_17 la_95 ?_
      refine EV.l (lv' := [(0, _), (1, _), (2, _), (3, _)]) r_X2_birdsOn_20 rfl ?_
      refine EV.cv r_X2_birdsOn_21 (aV1 mt_92 la_98) (c_getN (by omega) la_98 la_99 (hh.be _ (by omega))) ?_
      refine EV.n2_lt r_X2_birdsOn_24 (fun h24 => ?_) (fun h24 => ?_)
      · -- 24 t
        refine EV.l (lv' := [(0, _), (1, _), (2, _), (3, _)]) r_X2_birdsOn_43 rfl ?_
        rw [inc_nI]
        refine EV.g r_X2_birdsOn_46 ?_
        refine EV.sub ?_ rfl ?_ (ih4 (i + 1) ?_ ?_)
        · first | rw [mk_t (p := fun b => onB η b m) (decide_eq_true (by omega))] | rw [mk_f (p := fun b => onB η b m) (decide_eq_false (by omega))] | rw [mk_t (p := fun b => onB η b m) (by assumption)] | rw [mk_f (p := fun b => onB η b m) (by assumption)]
        · rfl
        · omega
        · omega
      · -- 24 f
        refine EV.l (lv' := [(0, _), (1, _), (2, _), (3, _)]) r_X2_birdsOn_27 rfl ?_
        refine EV.l (lv' := [(0, _), (1, _), (2, _), (3, _)]) r_X2_birdsOn_28 rfl ?_
        refine EV.l (lv' := [(0, _), (1, _), (2, _), (3, _)]) r_X2_birdsOn_29 rfl ?_
        refine EV.cv r_X2_birdsOn_30 (aV1 mt_33 la_95) (c95_lastOn hc cb hh hb hw (by omega) (by omega)) ?_
        refine EV.n2_gt r_X2_birdsOn_33 (fun h33 => ?_) (fun h33 => ?_)
        · -- 33 t
          refine EV.l (lv' := [(0, _), (1, _), (2, _), (3, _)]) r_X2_birdsOn_43 rfl ?_
          rw [inc_nI]
          refine EV.g r_X2_birdsOn_46 ?_
          refine EV.sub ?_ rfl ?_ (ih4 (i + 1) ?_ ?_)
          · first | rw [mk_t (p := fun b => onB η b m) (decide_eq_true (by omega))] | rw [mk_f (p := fun b => onB η b m) (decide_eq_false (by omega))] | rw [mk_t (p := fun b => onB η b m) (by assumption)] | rw [mk_f (p := fun b => onB η b m) (by assumption)]
          · rfl
          · omega
          · omega
        · -- 33 f
          refine EV.l (lv' := [(0, _), (1, _), (2, _), (3, _)]) r_X2_birdsOn_36 rfl ?_
          refine EV.l (lv' := [(0, _), (1, _), (2, _), (3, _)]) r_X2_birdsOn_37 rfl ?_
          refine EV.cv r_X2_birdsOn_38 (aS1 mt_162) (c_bit (by omega) (by omega)) ?_
          refine EV.o r_X2_birdsOn_41 iorN ?_
          refine EV.l (lv' := [(0, _), (1, _), (2, _), (3, _)]) r_X2_birdsOn_42 rfl ?_
          refine EV.l (lv' := [(0, _), (1, _), (2, _), (3, _)]) r_X2_birdsOn_43 rfl ?_
          rw [inc_nI]
          refine EV.g r_X2_birdsOn_46 ?_
          refine EV.sub ?_ rfl ?_ (ih4 (i + 1) ?_ ?_)
          · first | rw [mk_t (p := fun b => onB η b m) (decide_eq_true (by omega))] | rw [mk_f (p := fun b => onB η b m) (decide_eq_false (by omega))] | rw [mk_t (p := fun b => onB η b m) (by assumption)] | rw [mk_f (p := fun b => onB η b m) (by assumption)]
          · rfl
          · omega
          · omega
  have h0 := L4 (0)
  try dsimp only at h0
  refine EV.sub ?_ rfl ?_ (h0 ?_)
  · rfl
  · rfl
  · omega
theorem c95_does {d : Nat} {I : Nat → Nat → Int32} {J : Nat → Nat → Int64} {κ : CT} {η : HS} (hc : HC 4 κ I) (cb : CB κ) (hh : HH 95 η I) (hb : HB κ η) (hw : HW κ η) {i : Nat} (hi : i < 9)  (hd : 4 ≤ d) : RV d 35 [.ref 95, .int (nI i)] I J (bI (doesC κ η i)) := by
  refine RV.in (d0 := 3) hd mt_35 (Nat.le_of_ble_eq_true rfl) (fun d' hd' => ?_)
  have bns := cb.ns; have bnb := cb.nb; have bnc := cb.nc; have bnr := cb.nr
  have b1 := hb.sa i
  have b2 : birds κ η (η.sa i) < 16 := mk_nb cb _
  show EV none M_X2_doesCount d' 0 [(0, .ref 95), (1, .int (nI i))] [] (hp I J) _
  refine EV.l (lv' := [(0, _), (1, _)]) r_X2_doesCount_0 rfl ?_
  refine EV.l (lv' := [(0, _), (1, _)]) r_X2_doesCount_1 rfl ?_
  refine EV.gR r_X2_doesCount_2 la_95 ?_
  refine EV.l (lv' := [(0, _), (1, _)]) r_X2_doesCount_5 rfl ?_
  refine EV.cv r_X2_doesCount_6 (aV1 mt_92 la_96) (c_getN (by omega) la_96 la_97 (hh.sa _ (by omega))) ?_
  refine EV.cv r_X2_doesCount_9 (aV1 mt_34 la_95) (c95_birdsOn hc cb hh hb hw (by omega) (by omega)) ?_
  refine EV.n0_ne r_X2_doesCount_12 (fun h12 => ?_) (fun h12 => ?_)
  · -- 12 t
    refine EV.o r_X2_doesCount_19 (icN (0) (v := 0)) ?_
    exact EV.rv r_X2_doesCount_20 (by first | (rw [show doesC κ η i = true from decide_eq_true (by omega)]; rfl) | (rw [show doesC κ η i = false from decide_eq_false (by omega)]; rfl))
  · -- 12 f
    refine EV.o r_X2_doesCount_15 (icN (1) (v := 1)) ?_
    refine EV.g r_X2_doesCount_16 ?_
    exact EV.rv r_X2_doesCount_20 (by first | (rw [show doesC κ η i = true from decide_eq_true (by omega)]; rfl) | (rw [show doesC κ η i = false from decide_eq_false (by omega)]; rfl))
theorem c95_counting {d : Nat} {I : Nat → Nat → Int32} {J : Nat → Nat → Int64} {κ : CT} {η : HS} (hc : HC 4 κ I) (cb : CB κ) (hh : HH 95 η I) (hb : HB κ η) (hw : HW κ η)  (hd : 5 ≤ d) : RV d 36 [.ref 95] I J (nI (cnt κ η)) := by
  refine RV.in (d0 := 4) hd mt_36 (Nat.le_of_ble_eq_true rfl) (fun d' hd' => ?_)
  have bns := cb.ns; have bnb := cb.nb; have bnc := cb.nc; have bnr := cb.nr
  show EV none M_X2_counting d' 0 [(0, .ref 95)] [] (hp I J) _
  refine EV.o r_X2_counting_0 (icN (0) (v := 0)) ?_
  refine EV.l (lv' := [(0, _), (1, _)]) r_X2_counting_1 rfl ?_
  refine EV.o r_X2_counting_2 (icN (0) (v := 0)) ?_
  refine EV.l (lv' := [(0, _), (1, _), (2, _)]) r_X2_counting_3 rfl ?_
  have L4 : ∀ y_ : Nat, (fun i => i ≤ κ.ns → EV none M_X2_counting d' 4 [(0, .ref 95), (1, .int (nI (mk (doesC κ η) i))), (2, .int (nI i))] [] (hp I J) (QV I J (nI (cnt κ η)))) y_ := by
    refine ev_loop (fun i => κ.ns - i) ?_
    intro i ih4 hx4
    try dsimp only at ih4
    try dsimp only at hx4
    try dsimp only
    refine EV.l (lv' := [(0, _), (1, _), (2, _)]) r_X2_counting_4 rfl ?_
    refine EV.l (lv' := [(0, _), (1, _), (2, _)]) r_X2_counting_5 rfl ?_
    refine EV.gR r_X2_counting_6 la_95 ?_
    refine EV.getV r_X2_counting_9 la_4 (hc.ns) ?_
    refine EV.n2_ge r_X2_counting_12 (fun h12 => ?_) (fun h12 => ?_)
    · -- 12 t
      refine EV.l (lv' := [(0, _), (1, _), (2, _)]) r_X2_counting_36 rfl ?_
      exact EV.rv r_X2_counting_37 (by rw [show i = κ.ns by omega]; rfl)
    · -- 12 f
      refine EV.l (lv' := [(0, _), (1, _), (2, _)]) r_X2_counting_15 rfl ?_
      refine EV.l (lv' := [(0, _), (1, _), (2, _)]) r_X2_counting_16 rfl ?_
      refine EV.cv r_X2_counting_17 (aV1 mt_35 la_95) (c95_does hc cb hh hb hw (by omega) (by omega)) ?_
      refine EV.b0_eq r_X2_counting_20 (fun h20 => ?_) (fun h20 => ?_)
      · -- 20 t
        refine EV.l (lv' := [(0, _), (1, _), (2, _)]) r_X2_counting_30 rfl ?_
        rw [inc_nI]
        refine EV.g r_X2_counting_33 ?_
        refine EV.sub ?_ rfl ?_ (ih4 (i + 1) ?_ ?_)
        · first | rw [mk_t (p := doesC κ η) (decide_eq_true (by omega))] | rw [mk_f (p := doesC κ η) (decide_eq_false (by omega))] | rw [mk_t (p := doesC κ η) (by assumption)] | rw [mk_f (p := doesC κ η) (by assumption)]
        · rfl
        · omega
        · omega
      · -- 20 f
        refine EV.l (lv' := [(0, _), (1, _), (2, _)]) r_X2_counting_23 rfl ?_
        refine EV.l (lv' := [(0, _), (1, _), (2, _)]) r_X2_counting_24 rfl ?_
        refine EV.cv r_X2_counting_25 (aS1 mt_162) (c_bit (by omega) (by omega)) ?_
        refine EV.o r_X2_counting_28 iorN ?_
        refine EV.l (lv' := [(0, _), (1, _), (2, _)]) r_X2_counting_29 rfl ?_
        refine EV.l (lv' := [(0, _), (1, _), (2, _)]) r_X2_counting_30 rfl ?_
        rw [inc_nI]
        refine EV.g r_X2_counting_33 ?_
        refine EV.sub ?_ rfl ?_ (ih4 (i + 1) ?_ ?_)
        · first | rw [mk_t (p := doesC κ η) (decide_eq_true (by omega))] | rw [mk_f (p := doesC κ η) (decide_eq_false (by omega))] | rw [mk_t (p := doesC κ η) (by assumption)] | rw [mk_f (p := doesC κ η) (by assumption)]
        · rfl
        · omega
        · omega
  have h0 := L4 (0)
  try dsimp only at h0
  refine EV.sub ?_ rfl ?_ (h0 ?_)
  · rfl
  · rfl
  · omega
theorem c95_said {d : Nat} {I : Nat → Nat → Int32} {J : Nat → Nat → Int64} {κ : CT} {η : HS} (hc : HC 4 κ I) (cb : CB κ) (hh : HH 95 η I) (hb : HB κ η) {a b : Nat} (ha : a < 100000) (hb2 : b < 100000)  (hd : 2 ≤ d) : RV d 37 [.ref 95, .int (nI a), .int (nI b)] I J (nI (sdB κ η a b)) := by
  refine RV.in (d0 := 1) hd mt_37 (Nat.le_of_ble_eq_true rfl) (fun d' hd' => ?_)
  have bns := cb.ns; have bnb := cb.nb; have bnc := cb.nc; have bnr := cb.nr
  show EV none M_X2_saidBetween d' 0 [(0, .ref 95), (1, .int (nI a)), (2, .int (nI b))] [] (hp I J) _
  refine EV.o r_X2_saidBetween_0 (icN (0) (v := 0)) ?_
  refine EV.l (lv' := [(0, _), (1, _), (2, _), (3, _)]) r_X2_saidBetween_1 rfl ?_
  refine EV.o r_X2_saidBetween_2 (icN (0) (v := 0)) ?_
  refine EV.l (lv' := [(0, _), (1, _), (2, _), (3, _), (4, _)]) r_X2_saidBetween_3 rfl ?_
  have L5 : ∀ y_ : Nat, (fun i => i ≤ κ.ns → EV none M_X2_saidBetween d' 5 [(0, .ref 95), (1, .int (nI a)), (2, .int (nI b)), (3, .int (nI (mk (fun i => decide (a ≤ η.sa i ∧ η.sa i ≤ b)) i))), (4, .int (nI i))] [] (hp I J) (QV I J (nI (sdB κ η a b)))) y_ := by
    refine ev_loop (fun i => κ.ns - i) ?_
    intro i ih5 hx5
    try dsimp only at ih5
    try dsimp only at hx5
    try dsimp only
    refine EV.l (lv' := [(0, _), (1, _), (2, _), (3, _), (4, _)]) r_X2_saidBetween_5 rfl ?_
    refine EV.l (lv' := [(0, _), (1, _), (2, _), (3, _), (4, _)]) r_X2_saidBetween_7 rfl ?_
    refine EV.gR r_X2_saidBetween_8 la_95 ?_
    refine EV.getV r_X2_saidBetween_11 la_4 (hc.ns) ?_
    refine EV.n2_ge r_X2_saidBetween_14 (fun h14 => ?_) (fun h14 => ?_)
    · -- 14 t
      refine EV.l (lv' := [(0, _), (1, _), (2, _), (3, _), (4, _)]) r_X2_saidBetween_57 rfl ?_
      exact EV.rv r_X2_saidBetween_58 (by rw [show i = κ.ns by omega]; rfl)
    · -- 14 f
      have b1 := hb.sa i
      refine EV.l (lv' := [(0, _), (1, _), (2, _), (3, _), (4, _)]) r_X2_saidBetween_17 rfl ?_
      refine EV.gR r_X2_saidBetween_18 la_95 ?_
      refine EV.l (lv' := [(0, _), (1, _), (2, _), (3, _), (4, _)]) r_X2_saidBetween_21 rfl ?_
      refine EV.cv r_X2_saidBetween_23 (aV1 mt_92 la_96) (c_getN (by omega) la_96 la_97 (hh.sa _ (by omega))) ?_
      refine EV.l (lv' := [(0, _), (1, _), (2, _), (3, _), (4, _)]) r_X2_saidBetween_26 rfl ?_
      refine EV.n2_lt r_X2_saidBetween_27 (fun h27 => ?_) (fun h27 => ?_)
      · -- 27 t
        refine EV.l (lv' := [(0, _), (1, _), (2, _), (3, _), (4, _)]) r_X2_saidBetween_51 rfl ?_
        rw [inc_nI]
        refine EV.g r_X2_saidBetween_54 ?_
        refine EV.sub ?_ rfl ?_ (ih5 (i + 1) ?_ ?_)
        · first | rw [mk_t (p := fun i => decide (a ≤ η.sa i ∧ η.sa i ≤ b)) (decide_eq_true (by omega))] | rw [mk_f (p := fun i => decide (a ≤ η.sa i ∧ η.sa i ≤ b)) (decide_eq_false (by omega))] | rw [mk_t (p := fun i => decide (a ≤ η.sa i ∧ η.sa i ≤ b)) (by assumption)] | rw [mk_f (p := fun i => decide (a ≤ η.sa i ∧ η.sa i ≤ b)) (by assumption)]
        · rfl
        · omega
        · omega
      · -- 27 f
        refine EV.l (lv' := [(0, _), (1, _), (2, _), (3, _), (4, _)]) r_X2_saidBetween_30 rfl ?_
        refine EV.gR r_X2_saidBetween_31 la_95 ?_
        refine EV.l (lv' := [(0, _), (1, _), (2, _), (3, _), (4, _)]) r_X2_saidBetween_34 rfl ?_
        refine EV.cv r_X2_saidBetween_36 (aV1 mt_92 la_96) (c_getN (by omega) la_96 la_97 (hh.sa _ (by omega))) ?_
        refine EV.l (lv' := [(0, _), (1, _), (2, _), (3, _), (4, _)]) r_X2_saidBetween_39 rfl ?_
        refine EV.n2_gt r_X2_saidBetween_40 (fun h40 => ?_) (fun h40 => ?_)
        · -- 40 t
          refine EV.l (lv' := [(0, _), (1, _), (2, _), (3, _), (4, _)]) r_X2_saidBetween_51 rfl ?_
          rw [inc_nI]
          refine EV.g r_X2_saidBetween_54 ?_
          refine EV.sub ?_ rfl ?_ (ih5 (i + 1) ?_ ?_)
          · first | rw [mk_t (p := fun i => decide (a ≤ η.sa i ∧ η.sa i ≤ b)) (decide_eq_true (by omega))] | rw [mk_f (p := fun i => decide (a ≤ η.sa i ∧ η.sa i ≤ b)) (decide_eq_false (by omega))] | rw [mk_t (p := fun i => decide (a ≤ η.sa i ∧ η.sa i ≤ b)) (by assumption)] | rw [mk_f (p := fun i => decide (a ≤ η.sa i ∧ η.sa i ≤ b)) (by assumption)]
          · rfl
          · omega
          · omega
        · -- 40 f
          refine EV.l (lv' := [(0, _), (1, _), (2, _), (3, _), (4, _)]) r_X2_saidBetween_43 rfl ?_
          refine EV.l (lv' := [(0, _), (1, _), (2, _), (3, _), (4, _)]) r_X2_saidBetween_44 rfl ?_
          refine EV.cv r_X2_saidBetween_46 (aS1 mt_162) (c_bit (by omega) (by omega)) ?_
          refine EV.o r_X2_saidBetween_49 iorN ?_
          refine EV.l (lv' := [(0, _), (1, _), (2, _), (3, _), (4, _)]) r_X2_saidBetween_50 rfl ?_
          refine EV.l (lv' := [(0, _), (1, _), (2, _), (3, _), (4, _)]) r_X2_saidBetween_51 rfl ?_
          rw [inc_nI]
          refine EV.g r_X2_saidBetween_54 ?_
          refine EV.sub ?_ rfl ?_ (ih5 (i + 1) ?_ ?_)
          · first | rw [mk_t (p := fun i => decide (a ≤ η.sa i ∧ η.sa i ≤ b)) (decide_eq_true (by omega))] | rw [mk_f (p := fun i => decide (a ≤ η.sa i ∧ η.sa i ≤ b)) (decide_eq_false (by omega))] | rw [mk_t (p := fun i => decide (a ≤ η.sa i ∧ η.sa i ≤ b)) (by assumption)] | rw [mk_f (p := fun i => decide (a ≤ η.sa i ∧ η.sa i ≤ b)) (by assumption)]
          · rfl
          · omega
          · omega
  have h0 := L5 (0)
  try dsimp only at h0
  refine EV.sub ?_ rfl ?_ (h0 ?_)
  · rfl
  · rfl
  · omega
theorem c95_heard {d : Nat} {I : Nat → Nat → Int32} {J : Nat → Nat → Int64} {κ : CT} {η : HS} (hc : HC 4 κ I) (cb : CB κ) (hh : HH 95 η I) (hb : HB κ η) (hw : HW κ η) {m : Nat} (hm : m < 100000)  (hd : 6 ≤ d) : RV d 38 [.ref 95, .int (nI m)] I J (nI (heard κ η m)) := by
  refine RV.in (d0 := 5) hd mt_38 (Nat.le_of_ble_eq_true rfl) (fun d' hd' => ?_)
  have bns := cb.ns; have bnb := cb.nb; have bnc := cb.nc; have bnr := cb.nr
  show EV none M_X2_heardBy d' 0 [(0, .ref 95), (1, .int (nI m))] [] (hp I J) _
  refine EV.l (lv' := [(0, _), (1, _)]) r_X2_heardBy_0 rfl ?_
  refine EV.cv r_X2_heardBy_1 (aV0 mt_36 la_95) (c95_counting hc cb hh hb hw (by omega)) ?_
  refine EV.l (lv' := [(0, _), (1, _)]) r_X2_heardBy_4 rfl ?_
  refine EV.o r_X2_heardBy_5 (icN (0) (v := 0)) ?_
  refine EV.l (lv' := [(0, _), (1, _)]) r_X2_heardBy_6 rfl ?_
  refine EV.cv r_X2_heardBy_7 (aV2 mt_37 la_95) (c95_said hc cb hh hb (by omega) (by omega) (by omega)) ?_
  refine EV.o r_X2_heardBy_10 iandN ?_
  exact EV.rv r_X2_heardBy_11 (rfl)
theorem c95_isNoted {d : Nat} {I : Nat → Nat → Int32} {J : Nat → Nat → Int64} {κ : CT} {η : HS} (hc : HC 4 κ I) (cb : CB κ) (hh : HH 95 η I) (hb : HB κ η) {i : Nat} (hi : i < 9)  (hd : 2 ≤ d) : RV d 40 [.ref 95, .int (nI i)] I J (bI (η.nt.testBit i)) := by
  refine RV.in (d0 := 1) hd mt_40 (Nat.le_of_ble_eq_true rfl) (fun d' hd' => ?_)
  have bns := cb.ns; have bnb := cb.nb; have bnc := cb.nc; have bnr := cb.nr
  have b1 := hb.nt
  have b2 := pow_ns cb
  show EV none M_X2_isNoted d' 0 [(0, .ref 95), (1, .int (nI i))] [] (hp I J) _
  refine EV.l (lv' := [(0, _), (1, _)]) r_X2_isNoted_0 rfl ?_
  refine EV.getV r_X2_isNoted_1 la_95 (hh.nt) ?_
  refine EV.l (lv' := [(0, _), (1, _)]) r_X2_isNoted_4 rfl ?_
  refine EV.cv r_X2_isNoted_5 (aS2 mt_163) (c_has (by omega) (by omega) (by omega)) ?_
  exact EV.rv r_X2_isNoted_8 (rfl) ret_b
theorem c95_canLead {d : Nat} {I : Nat → Nat → Int32} {J : Nat → Nat → Int64} {κ : CT} {η : HS} (hc : HC 4 κ I) (cb : CB κ) (hh : HH 95 η I) (hb : HB κ η) {k b n : Nat} (hk : k < 4) (hb2 : b < 4) (hn : n < 100000)  (hd : 2 ≤ d) : RV d 41 [.ref 95, .int (nI k), .int (nI b), .int (nI n)] I J (bI (canL η k b n)) := by
  refine RV.in (d0 := 1) hd mt_41 (Nat.le_of_ble_eq_true rfl) (fun d' hd' => ?_)
  have bns := cb.ns; have bnb := cb.nb; have bnc := cb.nc; have bnr := cb.nr
  have b1 := hb.cr k; have b2 := hb.be b; have b3 := hb.mi
  show EV none M_X2_canLead d' 0 [(0, .ref 95), (1, .int (nI k)), (2, .int (nI b)), (3, .int (nI n))] [] (hp I J) _
  refine EV.l (lv' := [(0, _), (1, _), (2, _), (3, _)]) r_X2_canLead_0 rfl ?_
  refine EV.gR r_X2_canLead_1 la_95 ?_
  refine EV.l (lv' := [(0, _), (1, _), (2, _), (3, _)]) r_X2_canLead_4 rfl ?_
  refine EV.cv r_X2_canLead_5 (aV1 mt_92 la_104) (c_getN (by omega) la_104 la_105 (hh.cr _ (by omega))) ?_
  refine EV.l (lv' := [(0, _), (1, _), (2, _), (3, _)]) r_X2_canLead_8 rfl ?_
  refine EV.n2_lt r_X2_canLead_9 (fun h9 => ?_) (fun h9 => ?_)
  · -- 9 t
    refine EV.o r_X2_canLead_31 (icN (0) (v := 0)) ?_
    exact EV.rv r_X2_canLead_32 (by first | (rw [show canL η k b n = true from decide_eq_true (by omega)]; rfl) | (rw [show canL η k b n = false from decide_eq_false (by omega)]; rfl))
  · -- 9 f
    refine EV.l (lv' := [(0, _), (1, _), (2, _), (3, _)]) r_X2_canLead_12 rfl ?_
    refine EV.gR r_X2_canLead_13 la_95 ?_
    refine EV.l (lv' := [(0, _), (1, _), (2, _), (3, _)]) r_X2_canLead_16 rfl ?_
    refine EV.cv r_X2_canLead_17 (aV1 mt_92 la_98) (c_getN (by omega) la_98 la_99 (hh.be _ (by omega))) ?_
    refine EV.l (lv' := [(0, _), (1, _), (2, _), (3, _)]) r_X2_canLead_20 rfl ?_
    refine EV.getV r_X2_canLead_21 la_95 (hh.mi) ?_
    refine EV.n2_lt r_X2_canLead_24 (fun h24 => ?_) (fun h24 => ?_)
    · -- 24 t
      refine EV.o r_X2_canLead_31 (icN (0) (v := 0)) ?_
      exact EV.rv r_X2_canLead_32 (by first | (rw [show canL η k b n = true from decide_eq_true (by omega)]; rfl) | (rw [show canL η k b n = false from decide_eq_false (by omega)]; rfl))
    · -- 24 f
      refine EV.o r_X2_canLead_27 (icN (1) (v := 1)) ?_
      refine EV.g r_X2_canLead_28 ?_
      exact EV.rv r_X2_canLead_32 (by first | (rw [show canL η k b n = true from decide_eq_true (by omega)]; rfl) | (rw [show canL η k b n = false from decide_eq_false (by omega)]; rfl))
theorem c95_beginIf {d : Nat} {I : Nat → Nat → Int32} {J : Nat → Nat → Int64} {κ : CT} {η : HS} (hc : HC 4 κ I) (cb : CB κ) (hh : HH 95 η I) (hb : HB κ η) {b n : Nat} (hb2 : b < 4) (hn : n < 100000)  (hd : 2 ≤ d) : RV d 30 [.ref 95, .int (nI b), .int (nI n)] I J (nI (min 400 (η.be b + n))) := by
  refine RV.in (d0 := 1) hd mt_30 (Nat.le_of_ble_eq_true rfl) (fun d' hd' => ?_)
  have bns := cb.ns; have bnb := cb.nb; have bnc := cb.nc; have bnr := cb.nr
  have b2 := hb.be b
  show EV none M_X2_beginIfLed d' 0 [(0, .ref 95), (1, .int (nI b)), (2, .int (nI n))] [] (hp I J) _
  refine EV.o r_X2_beginIfLed_0 (spN (400) 400) ?_
  refine EV.l (lv' := [(0, _), (1, _), (2, _)]) r_X2_beginIfLed_3 rfl ?_
  refine EV.gR r_X2_beginIfLed_4 la_95 ?_
  refine EV.l (lv' := [(0, _), (1, _), (2, _)]) r_X2_beginIfLed_7 rfl ?_
  refine EV.cv r_X2_beginIfLed_8 (aV1 mt_92 la_98) (c_getN (by omega) la_98 la_99 (hh.be _ (by omega))) ?_
  refine EV.l (lv' := [(0, _), (1, _), (2, _)]) r_X2_beginIfLed_11 rfl ?_
  refine EV.o r_X2_beginIfLed_12 iaddN ?_
  refine EV.pmin r_X2_beginIfLed_13 ?_
  exact EV.rv r_X2_beginIfLed_16 (rfl)
theorem c95_crumbs {d : Nat} {I : Nat → Nat → Int32} {J : Nat → Nat → Int64} {κ : CT} {η : HS} (hc : HC 4 κ I) (cb : CB κ) (hh : HH 95 η I) (hb : HB κ η) {all bound : Nat} (ha : all < 16) (hb2 : bound < 100000)  (hd : 2 ≤ d) : RV d 32 [.ref 95, .int (nI all), .int (nI bound)] I J (nI (crumb κ η all bound κ.nc)) := by
  refine RV.in (d0 := 1) hd mt_32 (Nat.le_of_ble_eq_true rfl) (fun d' hd' => ?_)
  have bns := cb.ns; have bnb := cb.nb; have bnc := cb.nc; have bnr := cb.nr
  show EV none M_X2_crumbsOf d' 0 [(0, .ref 95), (1, .int (nI all)), (2, .int (nI bound))] [] (hp I J) _
  refine EV.o r_X2_crumbsOf_0 (icN (0) (v := 0)) ?_
  refine EV.l (lv' := [(0, _), (1, _), (2, _), (3, _)]) r_X2_crumbsOf_1 rfl ?_
  refine EV.o r_X2_crumbsOf_2 (icN (0) (v := 0)) ?_
  refine EV.l (lv' := [(0, _), (1, _), (2, _), (3, _), (4, _)]) r_X2_crumbsOf_3 rfl ?_
  have L5 : ∀ y_ : Nat, (fun i => i ≤ κ.nc → EV none M_X2_crumbsOf d' 5 [(0, .ref 95), (1, .int (nI all)), (2, .int (nI bound)), (3, .int (nI (crumb κ η all bound i))), (4, .int (nI i))] [] (hp I J) (QV I J (nI (crumb κ η all bound κ.nc)))) y_ := by
    refine ev_loop (fun i => κ.nc - i) ?_
    intro i ih5 hx5
    try dsimp only at ih5
    try dsimp only at hx5
    try dsimp only
    refine EV.l (lv' := [(0, _), (1, _), (2, _), (3, _), (4, _)]) r_X2_crumbsOf_5 rfl ?_
    refine EV.l (lv' := [(0, _), (1, _), (2, _), (3, _), (4, _)]) r_X2_crumbsOf_7 rfl ?_
    refine EV.gR r_X2_crumbsOf_8 la_95 ?_
    refine EV.getV r_X2_crumbsOf_11 la_4 (hc.nc) ?_
    refine EV.n2_ge r_X2_crumbsOf_14 (fun h14 => ?_) (fun h14 => ?_)
    · -- 14 t
      refine EV.l (lv' := [(0, _), (1, _), (2, _), (3, _), (4, _)]) r_X2_crumbsOf_48 rfl ?_
      exact EV.rv r_X2_crumbsOf_49 (by rw [show i = κ.nc by omega])
    · -- 14 f
      have b1 := hb.cr i; have b2 := crumb_le (κ := κ) (η := η) (all := all) (bound := bound) hb.cr i
      refine EV.l (lv' := [(0, _), (1, _), (2, _), (3, _), (4, _)]) r_X2_crumbsOf_17 rfl ?_
      refine EV.l (lv' := [(0, _), (1, _), (2, _), (3, _), (4, _)]) r_X2_crumbsOf_18 rfl ?_
      refine EV.cv r_X2_crumbsOf_20 (aS2 mt_163) (c_has (by omega) (by omega) (by omega)) ?_
      refine EV.b0_eq r_X2_crumbsOf_23 (fun h23 => ?_) (fun h23 => ?_)
      · -- 23 t
        refine EV.l (lv' := [(0, _), (1, _), (2, _), (3, _), (4, _)]) r_X2_crumbsOf_42 rfl ?_
        rw [inc_nI]
        refine EV.g r_X2_crumbsOf_45 ?_
        refine EV.sub ?_ rfl ?_ (ih5 (i + 1) ?_ ?_)
        · first | rw [crumb_t (by assumption)] | rw [crumb_f (by assumption)]
        · rfl
        · omega
        · omega
      · -- 23 f
        refine EV.l (lv' := [(0, _), (1, _), (2, _), (3, _), (4, _)]) r_X2_crumbsOf_26 rfl ?_
        refine EV.l (lv' := [(0, _), (1, _), (2, _), (3, _), (4, _)]) r_X2_crumbsOf_27 rfl ?_
        refine EV.l (lv' := [(0, _), (1, _), (2, _), (3, _), (4, _)]) r_X2_crumbsOf_28 rfl ?_
        refine EV.gR r_X2_crumbsOf_29 la_95 ?_
        refine EV.l (lv' := [(0, _), (1, _), (2, _), (3, _), (4, _)]) r_X2_crumbsOf_32 rfl ?_
        refine EV.cv r_X2_crumbsOf_34 (aV1 mt_92 la_104) (c_getN (by omega) la_104 la_105 (hh.cr _ (by omega))) ?_
        refine EV.pmin r_X2_crumbsOf_37 ?_
        refine EV.o r_X2_crumbsOf_40 iaddN ?_
        refine EV.l (lv' := [(0, _), (1, _), (2, _), (3, _), (4, _)]) r_X2_crumbsOf_41 rfl ?_
        refine EV.l (lv' := [(0, _), (1, _), (2, _), (3, _), (4, _)]) r_X2_crumbsOf_42 rfl ?_
        rw [inc_nI]
        refine EV.g r_X2_crumbsOf_45 ?_
        refine EV.sub ?_ rfl ?_ (ih5 (i + 1) ?_ ?_)
        · first | rw [crumb_t (by assumption)] | rw [crumb_f (by assumption)]
        · rfl
        · omega
        · omega
  have h0 := L5 (0)
  try dsimp only at h0
  refine EV.sub ?_ rfl ?_ (h0 ?_)
  · rfl
  · rfl
  · omega
