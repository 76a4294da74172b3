/-! What the class's Reader takes. -/
/-- a place behind blanks; or a fault: its kind, its place -/
abbrev RST : Type := Nat ⊕ (Nat × Nat)
def RG (g : Nat → Nat) (n : Nat) (s : Nat) (I : Nat → Nat → Int32) : Prop := (s ≤ n) ∧ (I 1 2 = nI n) ∧ (I 1 1 = nI 0) ∧ (I 1 7 = nI 0) ∧ (I 1 8 = zI (-1)) ∧ (RCp g n s I)
theorem RG.sn {g : Nat → Nat} {n : Nat} {s : Nat} {I : Nat → Nat → Int32} (h_ : RG g n s I) : s ≤ n := h_.1
theorem RG.en {g : Nat → Nat} {n : Nat} {s : Nat} {I : Nat → Nat → Int32} (h_ : RG g n s I) : I 1 2 = nI n := h_.2.1
theorem RG.ln {g : Nat → Nat} {n : Nat} {s : Nat} {I : Nat → Nat → Int32} (h_ : RG g n s I) : I 1 1 = nI 0 := h_.2.2.1
theorem RG.fk {g : Nat → Nat} {n : Nat} {s : Nat} {I : Nat → Nat → Int32} (h_ : RG g n s I) : I 1 7 = nI 0 := h_.2.2.2.1
theorem RG.fp {g : Nat → Nat} {n : Nat} {s : Nat} {I : Nat → Nat → Int32} (h_ : RG g n s I) : I 1 8 = zI (-1) := h_.2.2.2.2.1
theorem RG.rc {g : Nat → Nat} {n : Nat} {s : Nat} {I : Nat → Nat → Int32} (h_ : RG g n s I) : RCp g n s I := h_.2.2.2.2.2
def RB (n : Nat) (k : Nat) (f : Nat) (I : Nat → Nat → Int32) : Prop := (1 ≤ k) ∧ (k ≤ 3) ∧ (f ≤ n) ∧ (I 1 2 = nI n) ∧ (I 1 1 = nI 0) ∧ (I 1 7 = nI k) ∧ (I 1 8 = nI f) ∧ (I 1 3 = nI 0)
theorem RB.k1 {n : Nat} {k : Nat} {f : Nat} {I : Nat → Nat → Int32} (h_ : RB n k f I) : 1 ≤ k := h_.1
theorem RB.k3 {n : Nat} {k : Nat} {f : Nat} {I : Nat → Nat → Int32} (h_ : RB n k f I) : k ≤ 3 := h_.2.1
theorem RB.fn {n : Nat} {k : Nat} {f : Nat} {I : Nat → Nat → Int32} (h_ : RB n k f I) : f ≤ n := h_.2.2.1
theorem RB.en {n : Nat} {k : Nat} {f : Nat} {I : Nat → Nat → Int32} (h_ : RB n k f I) : I 1 2 = nI n := h_.2.2.2.1
theorem RB.ln {n : Nat} {k : Nat} {f : Nat} {I : Nat → Nat → Int32} (h_ : RB n k f I) : I 1 1 = nI 0 := h_.2.2.2.2.1
theorem RB.fk {n : Nat} {k : Nat} {f : Nat} {I : Nat → Nat → Int32} (h_ : RB n k f I) : I 1 7 = nI k := h_.2.2.2.2.2.1
theorem RB.fp {n : Nat} {k : Nat} {f : Nat} {I : Nat → Nat → Int32} (h_ : RB n k f I) : I 1 8 = nI f := h_.2.2.2.2.2.2.1
theorem RB.kd {n : Nat} {k : Nat} {f : Nat} {I : Nat → Nat → Int32} (h_ : RB n k f I) : I 1 3 = nI 0 := h_.2.2.2.2.2.2.2
def RD (g : Nat → Nat) (n : Nat) (r : RST) (I : Nat → Nat → Int32) : Prop := match r with
  | .inl s => RG g n s I
  | .inr (k, f) => RB n k f I
def rfail (k : Nat) (r : RST) : RST := match r with
  | .inl s => .inr (k, s)
  | .inr q => .inr q
/-- behind the piece at s -/
def nxp (g : Nat → Nat) (n s : Nat) : Nat := scp isB g n (pep g n s)
def tkN (g : Nat → Nat) (n lo : Nat) (hi : Int) (r : RST) : Nat × RST := match r with
  | .inl s => if kdp g n s = 1 then (if nvl g n s < lo ∨ hi < (nvl g n s : Int) then (0, .inr (2, s)) else (nvl g n s, .inl (nxp g n s))) else (0, .inr (1, s))
  | .inr q => (0, .inr q)
def tkS (g : Nat → Nat) (n c : Nat) (r : RST) : RST := match r with
  | .inl s => if kdp g n s = 3 ∧ g s = c then .inl (nxp g n s) else .inr (1, s)
  | .inr q => .inr q
theorem RCp.st {g : Nat → Nat} {n s : Nat} {I : Nat → Nat → Int32} (h : RCp g n s I) : I 1 4 = nI s := h.1
theorem RCp.kd {g : Nat → Nat} {n s : Nat} {I : Nat → Nat → Int32} (h : RCp g n s I) : I 1 3 = nI (kdp g n s) := h.2.1
theorem RCp.pe {g : Nat → Nat} {n s : Nat} {I : Nat → Nat → Int32} (h : RCp g n s I) : I 1 5 = nI (pep g n s) := h.2.2.1
theorem RCp.vl {g : Nat → Nat} {n s : Nat} {I : Nat → Nat → Int32} (h : RCp g n s I) (k : kdp g n s = 1) : ∃ c, cvr c (nvl g n s) ∧ I 1 6 = nI c := h.2.2.2.1 k
theorem RCp.sg {g : Nat → Nat} {n s : Nat} {I : Nat → Nat → Int32} (h : RCp g n s I) (k : kdp g n s = 3) : I 1 6 = nI (g s) := h.2.2.2.2 k
theorem kdp_lt {g : Nat → Nat} {n s : Nat} : kdp g n s < 4 := by unfold kdp; (repeat' split) <;> decide
theorem nxp_le {g : Nat → Nat} {n s : Nat} (h : s ≤ n) : nxp g n s ≤ n := scp_le (pep_le h)
/-- the Reader alone was at work -/
def RO (I I' : Nat → Nat → Int32) : Prop := ∀ o, o ≠ 1 → I' o = I o
theorem RG.ad {g : Nat → Nat} {n s : Nat} {I I' : Nat → Nat → Int32} (h : RG g n s I) (rc : RCp g n (nxp g n s) I') (f : RFr I I') : RG g n (nxp g n s) I' := ⟨nxp_le h.sn, (f.2 2 (by decide) (by decide) (by decide) (by decide)).trans h.en, (f.2 1 (by decide) (by decide) (by decide) (by decide)).trans h.ln, (f.2 7 (by decide) (by decide) (by decide) (by decide)).trans h.fk, (f.2 8 (by decide) (by decide) (by decide) (by decide)).trans h.fp, rc⟩
theorem RG.bad {g : Nat → Nat} {n s k : Nat} {I : Nat → Nat → Int32} (h : RG g n s I) (hk : 1 ≤ k) (hk2 : k ≤ 3) : RB n k s (wr (wr (wr I 1 7 (nI k)) 1 8 (nI s)) 1 3 (nI 0)) :=
  ⟨hk, hk2, h.sn, (wr_ne (Or.inr (by decide))).trans ((wr_ne (Or.inr (by decide))).trans ((wr_ne (Or.inr (by decide))).trans h.en)), (wr_ne (Or.inr (by decide))).trans ((wr_ne (Or.inr (by decide))).trans ((wr_ne (Or.inr (by decide))).trans h.ln)), (wr_ne (Or.inr (by decide))).trans ((wr_ne (Or.inr (by decide))).trans wr_same), (wr_ne (Or.inr (by decide))).trans wr_same, wr_same⟩
theorem RO.rf {I : Nat → Nat → Int32} : RO I I := fun _ _ => rfl
theorem RO.tr {I I1 I2 : Nat → Nat → Int32} (h : RO I I1) (h2 : RO I1 I2) : RO I I2 := fun o ho => (h2 o ho).trans (h o ho)
theorem r_X6_fail_0 : RW M_X6_fail 0 (.aload_n 0) 1 0 0 1 := ⟨rfl, rfl⟩
theorem r_X6_fail_1 : RW M_X6_fail 1 (.getfield 34) 3 6 7 4 := ⟨rfl, rfl⟩
theorem r_X6_fail_4 : RW M_X6_fail 4 (.ifCond .ne 21) 3 25 0 7 := ⟨rfl, rfl⟩
theorem r_X6_fail_7 : RW M_X6_fail 7 (.aload_n 0) 1 0 0 8 := ⟨rfl, rfl⟩
theorem r_X6_fail_8 : RW M_X6_fail 8 (.iload_n 1) 1 0 0 9 := ⟨rfl, rfl⟩
theorem r_X6_fail_9 : RW M_X6_fail 9 (.putfield 34) 3 6 7 12 := ⟨rfl, rfl⟩
theorem r_X6_fail_12 : RW M_X6_fail 12 (.aload_n 0) 1 0 0 13 := ⟨rfl, rfl⟩
theorem r_X6_fail_13 : RW M_X6_fail 13 (.aload_n 0) 1 0 0 14 := ⟨rfl, rfl⟩
theorem r_X6_fail_14 : RW M_X6_fail 14 (.getfield 47) 3 6 4 17 := ⟨rfl, rfl⟩
theorem r_X6_fail_17 : RW M_X6_fail 17 (.putfield 20) 3 6 8 20 := ⟨rfl, rfl⟩
theorem r_X6_fail_20 : RW M_X6_fail 20 (.aload_n 0) 1 0 0 21 := ⟨rfl, rfl⟩
theorem r_X6_fail_21 : RW M_X6_fail 21 (.iconst 0) 1 0 0 22 := ⟨rfl, rfl⟩
theorem r_X6_fail_22 : RW M_X6_fail 22 (.putfield 53) 3 6 3 25 := ⟨rfl, rfl⟩
theorem r_X6_fail_25 : RW M_X6_fail 25 (.return_) 1 0 0 26 := ⟨rfl, rfl⟩
theorem r_X6_hasMore_0 : RW M_X6_hasMore 0 (.aload_n 0) 1 0 0 1 := ⟨rfl, rfl⟩
theorem r_X6_hasMore_1 : RW M_X6_hasMore 1 (.getfield 53) 3 6 3 4 := ⟨rfl, rfl⟩
theorem r_X6_hasMore_4 : RW M_X6_hasMore 4 (.ifCond .eq 7) 3 11 0 7 := ⟨rfl, rfl⟩
theorem r_X6_hasMore_7 : RW M_X6_hasMore 7 (.iconst 1) 1 0 0 8 := ⟨rfl, rfl⟩
theorem r_X6_hasMore_8 : RW M_X6_hasMore 8 (.goto 4) 3 12 0 11 := ⟨rfl, rfl⟩
theorem r_X6_hasMore_11 : RW M_X6_hasMore 11 (.iconst 0) 1 0 0 12 := ⟨rfl, rfl⟩
theorem r_X6_hasMore_12 : RW M_X6_hasMore 12 (.ireturn) 1 0 0 13 := ⟨rfl, rfl⟩
theorem r_X6_seesNumber_0 : RW M_X6_seesNumber 0 (.aload_n 0) 1 0 0 1 := ⟨rfl, rfl⟩
theorem r_X6_seesNumber_1 : RW M_X6_seesNumber 1 (.getfield 53) 3 6 3 4 := ⟨rfl, rfl⟩
theorem r_X6_seesNumber_4 : RW M_X6_seesNumber 4 (.iconst 1) 1 0 0 5 := ⟨rfl, rfl⟩
theorem r_X6_seesNumber_5 : RW M_X6_seesNumber 5 (.if_icmp .ne 7) 3 12 0 8 := ⟨rfl, rfl⟩
theorem r_X6_seesNumber_8 : RW M_X6_seesNumber 8 (.iconst 1) 1 0 0 9 := ⟨rfl, rfl⟩
theorem r_X6_seesNumber_9 : RW M_X6_seesNumber 9 (.goto 4) 3 13 0 12 := ⟨rfl, rfl⟩
theorem r_X6_seesNumber_12 : RW M_X6_seesNumber 12 (.iconst 0) 1 0 0 13 := ⟨rfl, rfl⟩
theorem r_X6_seesNumber_13 : RW M_X6_seesNumber 13 (.ireturn) 1 0 0 14 := ⟨rfl, rfl⟩
theorem r_X6_seesSign_0 : RW M_X6_seesSign 0 (.aload_n 0) 1 0 0 1 := ⟨rfl, rfl⟩
theorem r_X6_seesSign_1 : RW M_X6_seesSign 1 (.getfield 53) 3 6 3 4 := ⟨rfl, rfl⟩
theorem r_X6_seesSign_4 : RW M_X6_seesSign 4 (.iconst 3) 1 0 0 5 := ⟨rfl, rfl⟩
theorem r_X6_seesSign_5 : RW M_X6_seesSign 5 (.if_icmp .ne 15) 3 20 0 8 := ⟨rfl, rfl⟩
theorem r_X6_seesSign_8 : RW M_X6_seesSign 8 (.aload_n 0) 1 0 0 9 := ⟨rfl, rfl⟩
theorem r_X6_seesSign_9 : RW M_X6_seesSign 9 (.getfield 50) 3 6 6 12 := ⟨rfl, rfl⟩
theorem r_X6_seesSign_12 : RW M_X6_seesSign 12 (.iload_n 1) 1 0 0 13 := ⟨rfl, rfl⟩
theorem r_X6_seesSign_13 : RW M_X6_seesSign 13 (.if_icmp .ne 7) 3 20 0 16 := ⟨rfl, rfl⟩
theorem r_X6_seesSign_16 : RW M_X6_seesSign 16 (.iconst 1) 1 0 0 17 := ⟨rfl, rfl⟩
theorem r_X6_seesSign_17 : RW M_X6_seesSign 17 (.goto 4) 3 21 0 20 := ⟨rfl, rfl⟩
theorem r_X6_seesSign_20 : RW M_X6_seesSign 20 (.iconst 0) 1 0 0 21 := ⟨rfl, rfl⟩
theorem r_X6_seesSign_21 : RW M_X6_seesSign 21 (.ireturn) 1 0 0 22 := ⟨rfl, rfl⟩
theorem r_X6_start_0 : RW M_X6_start 0 (.aload_n 0) 1 0 0 1 := ⟨rfl, rfl⟩
theorem r_X6_start_1 : RW M_X6_start 1 (.iload_n 1) 1 0 0 2 := ⟨rfl, rfl⟩
theorem r_X6_start_2 : RW M_X6_start 2 (.putfield 31) 3 6 2 5 := ⟨rfl, rfl⟩
theorem r_X6_start_5 : RW M_X6_start 5 (.aload_n 0) 1 0 0 6 := ⟨rfl, rfl⟩
theorem r_X6_start_6 : RW M_X6_start 6 (.iconst 0) 1 0 0 7 := ⟨rfl, rfl⟩
theorem r_X6_start_7 : RW M_X6_start 7 (.putfield 24) 3 6 1 10 := ⟨rfl, rfl⟩
theorem r_X6_start_10 : RW M_X6_start 10 (.aload_n 0) 1 0 0 11 := ⟨rfl, rfl⟩
theorem r_X6_start_11 : RW M_X6_start 11 (.iconst 0) 1 0 0 12 := ⟨rfl, rfl⟩
theorem r_X6_start_12 : RW M_X6_start 12 (.putfield 34) 3 6 7 15 := ⟨rfl, rfl⟩
theorem r_X6_start_15 : RW M_X6_start 15 (.aload_n 0) 1 0 0 16 := ⟨rfl, rfl⟩
theorem r_X6_start_16 : RW M_X6_start 16 (.iconst (-1)) 1 0 0 17 := ⟨rfl, rfl⟩
theorem r_X6_start_17 : RW M_X6_start 17 (.putfield 20) 3 6 8 20 := ⟨rfl, rfl⟩
theorem r_X6_start_20 : RW M_X6_start 20 (.aload_n 0) 1 0 0 21 := ⟨rfl, rfl⟩
theorem r_X6_start_21 : RW M_X6_start 21 (.iconst 0) 1 0 0 22 := ⟨rfl, rfl⟩
theorem r_X6_start_22 : RW M_X6_start 22 (.putfield 37) 3 6 5 25 := ⟨rfl, rfl⟩
theorem r_X6_start_25 : RW M_X6_start 25 (.aload_n 0) 1 0 0 26 := ⟨rfl, rfl⟩
theorem r_X6_start_26 : RW M_X6_start 26 (.invokevirtual 40) 3 78 0 29 := ⟨rfl, rfl⟩
theorem r_X6_start_29 : RW M_X6_start 29 (.return_) 1 0 0 30 := ⟨rfl, rfl⟩
theorem r_X6_takeIfRoom_0 : RW M_X6_takeIfRoom 0 (.iload_n 1) 1 0 0 1 := ⟨rfl, rfl⟩
theorem r_X6_takeIfRoom_1 : RW M_X6_takeIfRoom 1 (.ifCond .eq 10) 3 11 0 4 := ⟨rfl, rfl⟩
theorem r_X6_takeIfRoom_4 : RW M_X6_takeIfRoom 4 (.aload_n 0) 1 0 0 5 := ⟨rfl, rfl⟩
theorem r_X6_takeIfRoom_5 : RW M_X6_takeIfRoom 5 (.invokevirtual 40) 3 78 0 8 := ⟨rfl, rfl⟩
theorem r_X6_takeIfRoom_8 : RW M_X6_takeIfRoom 8 (.goto 8) 3 16 0 11 := ⟨rfl, rfl⟩
theorem r_X6_takeIfRoom_11 : RW M_X6_takeIfRoom 11 (.aload_n 0) 1 0 0 12 := ⟨rfl, rfl⟩
theorem r_X6_takeIfRoom_12 : RW M_X6_takeIfRoom 12 (.iconst 3) 1 0 0 13 := ⟨rfl, rfl⟩
theorem r_X6_takeIfRoom_13 : RW M_X6_takeIfRoom 13 (.invokevirtual 79) 3 88 0 16 := ⟨rfl, rfl⟩
theorem r_X6_takeIfRoom_16 : RW M_X6_takeIfRoom 16 (.iload_n 1) 1 0 0 17 := ⟨rfl, rfl⟩
theorem r_X6_takeIfRoom_17 : RW M_X6_takeIfRoom 17 (.ireturn) 1 0 0 18 := ⟨rfl, rfl⟩
theorem r_X6_takeNumber_0 : RW M_X6_takeNumber 0 (.aload_n 0) 1 0 0 1 := ⟨rfl, rfl⟩
theorem r_X6_takeNumber_1 : RW M_X6_takeNumber 1 (.getfield 53) 3 6 3 4 := ⟨rfl, rfl⟩
theorem r_X6_takeNumber_4 : RW M_X6_takeNumber 4 (.iconst 1) 1 0 0 5 := ⟨rfl, rfl⟩
theorem r_X6_takeNumber_5 : RW M_X6_takeNumber 5 (.if_icmp .eq 10) 3 15 0 8 := ⟨rfl, rfl⟩
theorem r_X6_takeNumber_8 : RW M_X6_takeNumber 8 (.aload_n 0) 1 0 0 9 := ⟨rfl, rfl⟩
theorem r_X6_takeNumber_9 : RW M_X6_takeNumber 9 (.iconst 1) 1 0 0 10 := ⟨rfl, rfl⟩
theorem r_X6_takeNumber_10 : RW M_X6_takeNumber 10 (.invokevirtual 79) 3 88 0 13 := ⟨rfl, rfl⟩
theorem r_X6_takeNumber_13 : RW M_X6_takeNumber 13 (.iload_n 1) 1 0 0 14 := ⟨rfl, rfl⟩
theorem r_X6_takeNumber_14 : RW M_X6_takeNumber 14 (.ireturn) 1 0 0 15 := ⟨rfl, rfl⟩
theorem r_X6_takeNumber_15 : RW M_X6_takeNumber 15 (.aload_n 0) 1 0 0 16 := ⟨rfl, rfl⟩
theorem r_X6_takeNumber_16 : RW M_X6_takeNumber 16 (.getfield 50) 3 6 6 19 := ⟨rfl, rfl⟩
theorem r_X6_takeNumber_19 : RW M_X6_takeNumber 19 (.iload_n 1) 1 0 0 20 := ⟨rfl, rfl⟩
theorem r_X6_takeNumber_20 : RW M_X6_takeNumber 20 (.if_icmp .lt 11) 3 31 0 23 := ⟨rfl, rfl⟩
theorem r_X6_takeNumber_23 : RW M_X6_takeNumber 23 (.aload_n 0) 1 0 0 24 := ⟨rfl, rfl⟩
theorem r_X6_takeNumber_24 : RW M_X6_takeNumber 24 (.getfield 50) 3 6 6 27 := ⟨rfl, rfl⟩
theorem r_X6_takeNumber_27 : RW M_X6_takeNumber 27 (.iload_n 2) 1 0 0 28 := ⟨rfl, rfl⟩
theorem r_X6_takeNumber_28 : RW M_X6_takeNumber 28 (.if_icmp .le 10) 3 38 0 31 := ⟨rfl, rfl⟩
theorem r_X6_takeNumber_31 : RW M_X6_takeNumber 31 (.aload_n 0) 1 0 0 32 := ⟨rfl, rfl⟩
theorem r_X6_takeNumber_32 : RW M_X6_takeNumber 32 (.iconst 2) 1 0 0 33 := ⟨rfl, rfl⟩
theorem r_X6_takeNumber_33 : RW M_X6_takeNumber 33 (.invokevirtual 79) 3 88 0 36 := ⟨rfl, rfl⟩
theorem r_X6_takeNumber_36 : RW M_X6_takeNumber 36 (.iload_n 1) 1 0 0 37 := ⟨rfl, rfl⟩
theorem r_X6_takeNumber_37 : RW M_X6_takeNumber 37 (.ireturn) 1 0 0 38 := ⟨rfl, rfl⟩
theorem r_X6_takeNumber_38 : RW M_X6_takeNumber 38 (.aload_n 0) 1 0 0 39 := ⟨rfl, rfl⟩
theorem r_X6_takeNumber_39 : RW M_X6_takeNumber 39 (.getfield 50) 3 6 6 42 := ⟨rfl, rfl⟩
theorem r_X6_takeNumber_42 : RW M_X6_takeNumber 42 (.istore_n 3) 1 0 0 43 := ⟨rfl, rfl⟩
theorem r_X6_takeNumber_43 : RW M_X6_takeNumber 43 (.aload_n 0) 1 0 0 44 := ⟨rfl, rfl⟩
theorem r_X6_takeNumber_44 : RW M_X6_takeNumber 44 (.invokevirtual 40) 3 78 0 47 := ⟨rfl, rfl⟩
theorem r_X6_takeNumber_47 : RW M_X6_takeNumber 47 (.iload_n 3) 1 0 0 48 := ⟨rfl, rfl⟩
theorem r_X6_takeNumber_48 : RW M_X6_takeNumber 48 (.ireturn) 1 0 0 49 := ⟨rfl, rfl⟩
theorem r_X6_takeSign_0 : RW M_X6_takeSign 0 (.aload_n 0) 1 0 0 1 := ⟨rfl, rfl⟩
theorem r_X6_takeSign_1 : RW M_X6_takeSign 1 (.iload_n 1) 1 0 0 2 := ⟨rfl, rfl⟩
theorem r_X6_takeSign_2 : RW M_X6_takeSign 2 (.invokevirtual 82) 3 83 0 5 := ⟨rfl, rfl⟩
theorem r_X6_takeSign_5 : RW M_X6_takeSign 5 (.ifCond .eq 10) 3 15 0 8 := ⟨rfl, rfl⟩
theorem r_X6_takeSign_8 : RW M_X6_takeSign 8 (.aload_n 0) 1 0 0 9 := ⟨rfl, rfl⟩
theorem r_X6_takeSign_9 : RW M_X6_takeSign 9 (.invokevirtual 40) 3 78 0 12 := ⟨rfl, rfl⟩
theorem r_X6_takeSign_12 : RW M_X6_takeSign 12 (.goto 8) 3 20 0 15 := ⟨rfl, rfl⟩
theorem r_X6_takeSign_15 : RW M_X6_takeSign 15 (.aload_n 0) 1 0 0 16 := ⟨rfl, rfl⟩
theorem r_X6_takeSign_16 : RW M_X6_takeSign 16 (.iconst 1) 1 0 0 17 := ⟨rfl, rfl⟩
theorem r_X6_takeSign_17 : RW M_X6_takeSign 17 (.invokevirtual 79) 3 88 0 20 := ⟨rfl, rfl⟩
theorem r_X6_takeSign_20 : RW M_X6_takeSign 20 (.return_) 1 0 0 21 := ⟨rfl, rfl⟩
theorem c_failG {d : Nat} {I : Nat → Nat → Int32} {J : Nat → Nat → Int64} {g : Nat → Nat} {n s : Nat} (rg : RG g n s I) {k : Nat} (hk : 1 ≤ k) (hk3 : k ≤ 3) (hd : 1 ≤ d) : RU d 88 [.ref 1, .int (nI k)] I J (fun I' => RB n k s I' ∧ RO I I') := by
  refine RU.in (d0 := 0) hd mt_88 (Nat.le_of_ble_eq_true rfl) (fun d' hd' => ?_)
  have k4 := kdp_lt (g := g) (n := n) (s := s)
  have sn := rg.sn
  show EV none M_X6_fail d' 0 [(0, .ref 1), (1, .int (nI k))] [] (hp I J) _
  refine EV.l (lv' := [(0, _), (1, _)]) r_X6_fail_0 rfl ?_
  refine EV.getV r_X6_fail_1 la_1 (rg.fk) ?_
  refine EV.n0_ne r_X6_fail_4 (fun h4 => ?_) (fun h4 => ?_)
  · omega
  · -- 4 f
    refine EV.l (lv' := [(0, _), (1, _)]) r_X6_fail_7 rfl ?_
    refine EV.l (lv' := [(0, _), (1, _)]) r_X6_fail_8 rfl ?_
    refine EV.pI r_X6_fail_9 la_1 ?_
    refine EV.l (lv' := [(0, _), (1, _)]) r_X6_fail_12 rfl ?_
    refine EV.l (lv' := [(0, _), (1, _)]) r_X6_fail_13 rfl ?_
    refine EV.getV r_X6_fail_14 la_1 ((wr_ne (Or.inr (by decide))).trans rg.rc.st) ?_
    refine EV.pI r_X6_fail_17 la_1 ?_
    refine EV.l (lv' := [(0, _), (1, _)]) r_X6_fail_20 rfl ?_
    refine EV.o r_X6_fail_21 (icN (0) (v := 0)) ?_
    refine EV.pI r_X6_fail_22 la_1 ?_
    exact EV.ru r_X6_fail_25 (⟨rg.bad hk hk3, fun o ho => (wr_row ho).trans ((wr_row ho).trans (wr_row ho))⟩)
theorem c_failB {d : Nat} {I : Nat → Nat → Int32} {J : Nat → Nat → Int64} {n k f : Nat} (rb : RB n k f I) {x : Int32} (hd : 1 ≤ d) : RU d 88 [.ref 1, .int x] I J (fun I' => I' = I) := by
  refine RU.in (d0 := 0) hd mt_88 (Nat.le_of_ble_eq_true rfl) (fun d' hd' => ?_)
  have k1 := rb.k1; have k3 := rb.k3
  show EV none M_X6_fail d' 0 [(0, .ref 1), (1, .int x)] [] (hp I J) _
  refine EV.l (lv' := [(0, _), (1, _)]) r_X6_fail_0 rfl ?_
  refine EV.getV r_X6_fail_1 la_1 (rb.fk) ?_
  refine EV.n0_ne r_X6_fail_4 (fun h4 => ?_) (fun h4 => ?_)
  · -- 4 t
    exact EV.ru r_X6_fail_25 (rfl)
  · omega
theorem c_moreG {d : Nat} {I : Nat → Nat → Int32} {J : Nat → Nat → Int64} {g : Nat → Nat} {n s : Nat} (rg : RG g n s I)  (hd : 1 ≤ d) : RV d 81 [.ref 1] I J (bI (decide (s < n))) := by
  refine RV.in (d0 := 0) hd mt_81 (Nat.le_of_ble_eq_true rfl) (fun d' hd' => ?_)
  have k4 := kdp_lt (g := g) (n := n) (s := s)
  have sn := rg.sn
  have kz : kdp g n s = 0 ↔ n ≤ s := by unfold kdp; (repeat' split) <;> omega
  show EV none M_X6_hasMore d' 0 [(0, .ref 1)] [] (hp I J) _
  refine EV.l (lv' := [(0, _)]) r_X6_hasMore_0 rfl ?_
  refine EV.getV r_X6_hasMore_1 la_1 (rg.rc.kd) ?_
  refine EV.n0_eq r_X6_hasMore_4 (fun h4 => ?_) (fun h4 => ?_)
  · -- 4 t
    refine EV.o r_X6_hasMore_11 (icN (0) (v := 0)) ?_
    exact EV.rv r_X6_hasMore_12 (by first | rw [decide_eq_true (by omega)]; rfl | rw [decide_eq_false (by omega)]; rfl)
  · -- 4 f
    refine EV.o r_X6_hasMore_7 (icN (1) (v := 1)) ?_
    refine EV.g r_X6_hasMore_8 ?_
    exact EV.rv r_X6_hasMore_12 (by first | rw [decide_eq_true (by omega)]; rfl | rw [decide_eq_false (by omega)]; rfl)
theorem c_moreB {d : Nat} {I : Nat → Nat → Int32} {J : Nat → Nat → Int64} {n k f : Nat} (rb : RB n k f I)  (hd : 1 ≤ d) : RV d 81 [.ref 1] I J (bI false) := by
  refine RV.in (d0 := 0) hd mt_81 (Nat.le_of_ble_eq_true rfl) (fun d' hd' => ?_)
  show EV none M_X6_hasMore d' 0 [(0, .ref 1)] [] (hp I J) _
  refine EV.l (lv' := [(0, _)]) r_X6_hasMore_0 rfl ?_
  refine EV.getV r_X6_hasMore_1 la_1 (rb.kd) ?_
  refine EV.n0_eq r_X6_hasMore_4 (fun h4 => ?_) (fun h4 => ?_)
  · -- 4 t
    refine EV.o r_X6_hasMore_11 (icN (0) (v := 0)) ?_
    exact EV.rv r_X6_hasMore_12 (rfl)
  · omega
theorem c_seesNG {d : Nat} {I : Nat → Nat → Int32} {J : Nat → Nat → Int64} {g : Nat → Nat} {n s : Nat} (rg : RG g n s I)  (hd : 1 ≤ d) : RV d 82 [.ref 1] I J (bI (decide (kdp g n s = 1))) := by
  refine RV.in (d0 := 0) hd mt_82 (Nat.le_of_ble_eq_true rfl) (fun d' hd' => ?_)
  have k4 := kdp_lt (g := g) (n := n) (s := s)
  have sn := rg.sn
  show EV none M_X6_seesNumber d' 0 [(0, .ref 1)] [] (hp I J) _
  refine EV.l (lv' := [(0, _)]) r_X6_seesNumber_0 rfl ?_
  refine EV.getV r_X6_seesNumber_1 la_1 (rg.rc.kd) ?_
  refine EV.o r_X6_seesNumber_4 (icN (1) (v := 1)) ?_
  refine EV.n2_ne r_X6_seesNumber_5 (fun h5 => ?_) (fun h5 => ?_)
  · -- 5 t
    refine EV.o r_X6_seesNumber_12 (icN (0) (v := 0)) ?_
    exact EV.rv r_X6_seesNumber_13 (by first | rw [decide_eq_true (by omega)]; rfl | rw [decide_eq_false (by omega)]; rfl)
  · -- 5 f
    refine EV.o r_X6_seesNumber_8 (icN (1) (v := 1)) ?_
    refine EV.g r_X6_seesNumber_9 ?_
    exact EV.rv r_X6_seesNumber_13 (by first | rw [decide_eq_true (by omega)]; rfl | rw [decide_eq_false (by omega)]; rfl)
theorem c_seesNB {d : Nat} {I : Nat → Nat → Int32} {J : Nat → Nat → Int64} {n k f : Nat} (rb : RB n k f I)  (hd : 1 ≤ d) : RV d 82 [.ref 1] I J (bI false) := by
  refine RV.in (d0 := 0) hd mt_82 (Nat.le_of_ble_eq_true rfl) (fun d' hd' => ?_)
  show EV none M_X6_seesNumber d' 0 [(0, .ref 1)] [] (hp I J) _
  refine EV.l (lv' := [(0, _)]) r_X6_seesNumber_0 rfl ?_
  refine EV.getV r_X6_seesNumber_1 la_1 (rb.kd) ?_
  refine EV.o r_X6_seesNumber_4 (icN (1) (v := 1)) ?_
  refine EV.n2_ne r_X6_seesNumber_5 (fun h5 => ?_) (fun h5 => ?_)
  · -- 5 t
    refine EV.o r_X6_seesNumber_12 (icN (0) (v := 0)) ?_
    exact EV.rv r_X6_seesNumber_13 (rfl)
  · omega
theorem c_seesSG {d : Nat} {I : Nat → Nat → Int32} {J : Nat → Nat → Int64} {g : Nat → Nat} {n s : Nat} (rg : RG g n s I) (gb : ∀ j, g j < 256) {c : Nat} (hc_ : c < 256) (hd : 1 ≤ d) : RV d 83 [.ref 1, .int (nI c)] I J (bI (decide (kdp g n s = 3 ∧ g s = c))) := by
  refine RV.in (d0 := 0) hd mt_83 (Nat.le_of_ble_eq_true rfl) (fun d' hd' => ?_)
  have k4 := kdp_lt (g := g) (n := n) (s := s)
  have sn := rg.sn
  have gs := gb s
  show EV none M_X6_seesSign d' 0 [(0, .ref 1), (1, .int (nI c))] [] (hp I J) _
  refine EV.l (lv' := [(0, _), (1, _)]) r_X6_seesSign_0 rfl ?_
  refine EV.getV r_X6_seesSign_1 la_1 (rg.rc.kd) ?_
  refine EV.o r_X6_seesSign_4 (icN (3) (v := 3)) ?_
  refine EV.n2_ne r_X6_seesSign_5 (fun h5 => ?_) (fun h5 => ?_)
  · -- 5 t
    refine EV.o r_X6_seesSign_20 (icN (0) (v := 0)) ?_
    exact EV.rv r_X6_seesSign_21 (by first | rw [decide_eq_true (by omega)]; rfl | rw [decide_eq_false (by omega)]; rfl)
  · -- 5 f
    have e6 := rg.rc.sg (by omega)
    refine EV.l (lv' := [(0, _), (1, _)]) r_X6_seesSign_8 rfl ?_
    refine EV.getV r_X6_seesSign_9 la_1 (e6) ?_
    refine EV.l (lv' := [(0, _), (1, _)]) r_X6_seesSign_12 rfl ?_
    refine EV.n2_ne r_X6_seesSign_13 (fun h13 => ?_) (fun h13 => ?_)
    · -- 13 t
      refine EV.o r_X6_seesSign_20 (icN (0) (v := 0)) ?_
      exact EV.rv r_X6_seesSign_21 (by first | rw [decide_eq_true (by omega)]; rfl | rw [decide_eq_false (by omega)]; rfl)
    · -- 13 f
      refine EV.o r_X6_seesSign_16 (icN (1) (v := 1)) ?_
      refine EV.g r_X6_seesSign_17 ?_
      exact EV.rv r_X6_seesSign_21 (by first | rw [decide_eq_true (by omega)]; rfl | rw [decide_eq_false (by omega)]; rfl)
theorem c_seesSB {d : Nat} {I : Nat → Nat → Int32} {J : Nat → Nat → Int64} {n k f : Nat} (rb : RB n k f I) {x : Int32} (hd : 1 ≤ d) : RV d 83 [.ref 1, .int x] I J (bI false) := by
  refine RV.in (d0 := 0) hd mt_83 (Nat.le_of_ble_eq_true rfl) (fun d' hd' => ?_)
  show EV none M_X6_seesSign d' 0 [(0, .ref 1), (1, .int x)] [] (hp I J) _
  refine EV.l (lv' := [(0, _), (1, _)]) r_X6_seesSign_0 rfl ?_
  refine EV.getV r_X6_seesSign_1 la_1 (rb.kd) ?_
  refine EV.o r_X6_seesSign_4 (icN (3) (v := 3)) ?_
  refine EV.n2_ne r_X6_seesSign_5 (fun h5 => ?_) (fun h5 => ?_)
  · -- 5 t
    refine EV.o r_X6_seesSign_20 (icN (0) (v := 0)) ?_
    exact EV.rv r_X6_seesSign_21 (rfl)
  · omega
theorem c_numG {d : Nat} {I : Nat → Nat → Int32} {J : Nat → Nat → Int64} {g : Nat → Nat} {n s : Nat} (tp : ∀ j, j < 600 → I 3 j = nI (g j)) (gb : ∀ j, g j < 256) (hn : n ≤ 600) (rg : RG g n s I) {lo : Nat} {hi : Int} (hl : lo ≤ 9999) (h1 : -1 ≤ hi) (h2_ : hi ≤ 9999) (hd : 4 ≤ d) : RI d 85 [.ref 1, .int (nI lo), .int (zI hi)] I J (fun v I' => RD g n (tkN g n lo hi (.inl s)).2 I' ∧ (∀ s2, (tkN g n lo hi (.inl s)).2 = .inl s2 → v = nI (tkN g n lo hi (.inl s)).1) ∧ (∀ q, (tkN g n lo hi (.inl s)).2 = .inr q → v = nI lo) ∧ RO I I') := by
  refine RI.in (d0 := 3) hd mt_85 (Nat.le_of_ble_eq_true rfl) (fun d' hd' => ?_)
  have k4 := kdp_lt (g := g) (n := n) (s := s)
  have sn := rg.sn
  show EV none M_X6_takeNumber d' 0 [(0, .ref 1), (1, .int (nI lo)), (2, .int (zI hi))] [] (hp I J) _
  refine EV.l (lv' := [(0, _), (1, _), (2, _)]) r_X6_takeNumber_0 rfl ?_
  refine EV.getV r_X6_takeNumber_1 la_1 (rg.rc.kd) ?_
  refine EV.o r_X6_takeNumber_4 (icN (1) (v := 1)) ?_
  refine EV.n2_eq r_X6_takeNumber_5 (fun h5 => ?_) (fun h5 => ?_)
  · -- 5 t
    obtain ⟨c, cr, e6⟩ := rg.rc.vl (by omega)
    have cr1 := cr.1
    have cr2 := cr.2
    refine EV.l (lv' := [(0, _), (1, _), (2, _)]) r_X6_takeNumber_15 rfl ?_
    refine EV.getV r_X6_takeNumber_16 la_1 (e6) ?_
    refine EV.l (lv' := [(0, _), (1, _), (2, _)]) r_X6_takeNumber_19 rfl ?_
    refine EV.n2_lt r_X6_takeNumber_20 (fun h20 => ?_) (fun h20 => ?_)
    · -- 20 t
      refine EV.l (lv' := [(0, _), (1, _), (2, _)]) r_X6_takeNumber_31 rfl ?_
      refine EV.o r_X6_takeNumber_32 (icN (2) (v := 2)) ?_
      refine EV.cu r_X6_takeNumber_33 (aV1 mt_88 la_1) (c_failG rg (by decide) (by decide) (by omega)) (fun I2 h2 => ?_)
      obtain ⟨rb, fr_⟩ := h2
      refine EV.l (lv' := [(0, _), (1, _), (2, _)]) r_X6_takeNumber_36 rfl ?_
      exact EV.ri r_X6_takeNumber_37 (by have t : tkN g n lo hi (.inl s) = (0, .inr (2, s)) := (if_pos (by omega)).trans (if_pos (by omega)); rw [t]; exact ⟨rb, fun s2 z => absurd z (by simp), fun q z => rfl, fr_⟩)
    · -- 20 f
      refine EV.l (lv' := [(0, _), (1, _), (2, _)]) r_X6_takeNumber_23 rfl ?_
      refine EV.getV r_X6_takeNumber_24 la_1 (e6) ?_
      refine EV.l (lv' := [(0, _), (1, _), (2, _)]) r_X6_takeNumber_27 rfl ?_
      refine EV.nz2_le r_X6_takeNumber_28 (fun h28 => ?_) (fun h28 => ?_)
      · -- 28 t
        refine EV.l (lv' := [(0, _), (1, _), (2, _)]) r_X6_takeNumber_38 rfl ?_
        refine EV.getV r_X6_takeNumber_39 la_1 (e6) ?_
        refine EV.l (lv' := [(0, _), (1, _), (2, _), (3, _)]) r_X6_takeNumber_42 rfl ?_
        refine EV.l (lv' := [(0, _), (1, _), (2, _), (3, _)]) r_X6_takeNumber_43 rfl ?_
        refine EV.cu r_X6_takeNumber_44 (aV0 mt_78 la_1) (c_advance tp gb rg.en hn rg.rc.pe (pep_le rg.sn) (by omega)) (fun I2 h2 => ?_)
        obtain ⟨rc, fr_⟩ := h2
        refine EV.l (lv' := [(0, _), (1, _), (2, _), (3, _)]) r_X6_takeNumber_47 rfl ?_
        exact EV.ri r_X6_takeNumber_48 (by have t : tkN g n lo hi (.inl s) = (nvl g n s, .inl (nxp g n s)) := (if_pos (by omega)).trans (if_neg (by omega)); rw [t, show c = nvl g n s by omega]; exact ⟨rg.ad rc fr_, fun s2 z => rfl, fun q z => absurd z (by simp), fr_.1⟩)
      · -- 28 f
        refine EV.l (lv' := [(0, _), (1, _), (2, _)]) r_X6_takeNumber_31 rfl ?_
        refine EV.o r_X6_takeNumber_32 (icN (2) (v := 2)) ?_
        refine EV.cu r_X6_takeNumber_33 (aV1 mt_88 la_1) (c_failG rg (by decide) (by decide) (by omega)) (fun I2 h2 => ?_)
        obtain ⟨rb, fr_⟩ := h2
        refine EV.l (lv' := [(0, _), (1, _), (2, _)]) r_X6_takeNumber_36 rfl ?_
        exact EV.ri r_X6_takeNumber_37 (by have t : tkN g n lo hi (.inl s) = (0, .inr (2, s)) := (if_pos (by omega)).trans (if_pos (by omega)); rw [t]; exact ⟨rb, fun s2 z => absurd z (by simp), fun q z => rfl, fr_⟩)
  · -- 5 f
    refine EV.l (lv' := [(0, _), (1, _), (2, _)]) r_X6_takeNumber_8 rfl ?_
    refine EV.o r_X6_takeNumber_9 (icN (1) (v := 1)) ?_
    refine EV.cu r_X6_takeNumber_10 (aV1 mt_88 la_1) (c_failG rg (by decide) (by decide) (by omega)) (fun I2 h2 => ?_)
    obtain ⟨rb, fr_⟩ := h2
    refine EV.l (lv' := [(0, _), (1, _), (2, _)]) r_X6_takeNumber_13 rfl ?_
    exact EV.ri r_X6_takeNumber_14 (by have t : tkN g n lo hi (.inl s) = (0, .inr (1, s)) := if_neg (by omega); rw [t]; exact ⟨rb, fun s2 z => absurd z (by simp), fun q z => rfl, fr_⟩)
theorem c_numB {d : Nat} {I : Nat → Nat → Int32} {J : Nat → Nat → Int64} {n k f : Nat} (rb : RB n k f I) {lo hi : Int32} (hd : 2 ≤ d) : RV d 85 [.ref 1, .int lo, .int hi] I J (lo) := by
  refine RV.in (d0 := 1) hd mt_85 (Nat.le_of_ble_eq_true rfl) (fun d' hd' => ?_)
  show EV none M_X6_takeNumber d' 0 [(0, .ref 1), (1, .int lo), (2, .int hi)] [] (hp I J) _
  refine EV.l (lv' := [(0, _), (1, _), (2, _)]) r_X6_takeNumber_0 rfl ?_
  refine EV.getV r_X6_takeNumber_1 la_1 (rb.kd) ?_
  refine EV.o r_X6_takeNumber_4 (icN (1) (v := 1)) ?_
  refine EV.n2_eq r_X6_takeNumber_5 (fun h5 => ?_) (fun h5 => ?_)
  · omega
  · -- 5 f
    refine EV.l (lv' := [(0, _), (1, _), (2, _)]) r_X6_takeNumber_8 rfl ?_
    refine EV.o r_X6_takeNumber_9 (icN (1) (v := 1)) ?_
    refine EV.cu r_X6_takeNumber_10 (aV1 mt_88 la_1) (c_failB rb (by omega)) (fun I2 h2 => ?_)
    subst h2
    refine EV.l (lv' := [(0, _), (1, _), (2, _)]) r_X6_takeNumber_13 rfl ?_
    exact EV.rv r_X6_takeNumber_14 (rfl)
theorem c_signG {d : Nat} {I : Nat → Nat → Int32} {J : Nat → Nat → Int64} {g : Nat → Nat} {n s : Nat} (tp : ∀ j, j < 600 → I 3 j = nI (g j)) (gb : ∀ j, g j < 256) (hn : n ≤ 600) (rg : RG g n s I) {c : Nat} (hc_ : c < 256) (hd : 4 ≤ d) : RU d 86 [.ref 1, .int (nI c)] I J (fun I' => RD g n (tkS g n c (.inl s)) I' ∧ RO I I') := by
  refine RU.in (d0 := 3) hd mt_86 (Nat.le_of_ble_eq_true rfl) (fun d' hd' => ?_)
  have k4 := kdp_lt (g := g) (n := n) (s := s)
  have sn := rg.sn
  show EV none M_X6_takeSign d' 0 [(0, .ref 1), (1, .int (nI c))] [] (hp I J) _
  refine EV.l (lv' := [(0, _), (1, _)]) r_X6_takeSign_0 rfl ?_
  refine EV.l (lv' := [(0, _), (1, _)]) r_X6_takeSign_1 rfl ?_
  refine EV.cv r_X6_takeSign_2 (aV1 mt_83 la_1) (c_seesSG rg gb hc_ (by omega)) ?_
  refine EV.b0_eq r_X6_takeSign_5 (fun h5 => ?_) (fun h5 => ?_)
  · -- 5 t
    refine EV.l (lv' := [(0, _), (1, _)]) r_X6_takeSign_15 rfl ?_
    refine EV.o r_X6_takeSign_16 (icN (1) (v := 1)) ?_
    refine EV.cu r_X6_takeSign_17 (aV1 mt_88 la_1) (c_failG rg (by decide) (by decide) (by omega)) (fun I2 h2 => ?_)
    obtain ⟨rb, fr_⟩ := h2
    exact EV.ru r_X6_takeSign_20 (by first | (have t : tkS g n c (.inl s) = .inl (nxp g n s) := if_pos (of_decide_eq_true (by assumption)); rw [t]; exact ⟨rg.ad rc fr_, fr_.1⟩) | (have t : tkS g n c (.inl s) = .inr (1, s) := if_neg (of_decide_eq_false (by assumption)); rw [t]; exact ⟨rb, fr_⟩))
  · -- 5 f
    refine EV.l (lv' := [(0, _), (1, _)]) r_X6_takeSign_8 rfl ?_
    refine EV.cu r_X6_takeSign_9 (aV0 mt_78 la_1) (c_advance tp gb rg.en hn rg.rc.pe (pep_le rg.sn) (by omega)) (fun I2 h2 => ?_)
    obtain ⟨rc, fr_⟩ := h2
    refine EV.g r_X6_takeSign_12 ?_
    exact EV.ru r_X6_takeSign_20 (by first | (have t : tkS g n c (.inl s) = .inl (nxp g n s) := if_pos (of_decide_eq_true (by assumption)); rw [t]; exact ⟨rg.ad rc fr_, fr_.1⟩) | (have t : tkS g n c (.inl s) = .inr (1, s) := if_neg (of_decide_eq_false (by assumption)); rw [t]; exact ⟨rb, fr_⟩))
theorem c_signB {d : Nat} {I : Nat → Nat → Int32} {J : Nat → Nat → Int64} {n k f : Nat} (rb : RB n k f I) {x : Int32} (hd : 2 ≤ d) : RU d 86 [.ref 1, .int x] I J (fun I' => I' = I) := by
  refine RU.in (d0 := 1) hd mt_86 (Nat.le_of_ble_eq_true rfl) (fun d' hd' => ?_)
  show EV none M_X6_takeSign d' 0 [(0, .ref 1), (1, .int x)] [] (hp I J) _
  refine EV.l (lv' := [(0, _), (1, _)]) r_X6_takeSign_0 rfl ?_
  refine EV.l (lv' := [(0, _), (1, _)]) r_X6_takeSign_1 rfl ?_
  refine EV.cv r_X6_takeSign_2 (aV1 mt_83 la_1) (c_seesSB rb (by omega)) ?_
  refine EV.b0_eq r_X6_takeSign_5 (fun h5 => ?_) (fun h5 => ?_)
  · -- 5 t
    refine EV.l (lv' := [(0, _), (1, _)]) r_X6_takeSign_15 rfl ?_
    refine EV.o r_X6_takeSign_16 (icN (1) (v := 1)) ?_
    refine EV.cu r_X6_takeSign_17 (aV1 mt_88 la_1) (c_failB rb (by omega)) (fun I2 h2 => ?_)
    subst h2
    exact EV.ru r_X6_takeSign_20 (rfl)
  · exact absurd h5 (by decide)
theorem c_room1 {d : Nat} {I : Nat → Nat → Int32} {J : Nat → Nat → Int64} {g : Nat → Nat} {n s : Nat} (tp : ∀ j, j < 600 → I 3 j = nI (g j)) (gb : ∀ j, g j < 256) (hn : n ≤ 600) (rg : RG g n s I)  (hd : 4 ≤ d) : RI d 87 [.ref 1, .int (nI 1)] I J (fun v I' => v = nI 1 ∧ RG g n (nxp g n s) I' ∧ RO I I') := by
  refine RI.in (d0 := 3) hd mt_87 (Nat.le_of_ble_eq_true rfl) (fun d' hd' => ?_)
  have k4 := kdp_lt (g := g) (n := n) (s := s)
  have sn := rg.sn
  show EV none M_X6_takeIfRoom d' 0 [(0, .ref 1), (1, .int (nI 1))] [] (hp I J) _
  refine EV.l (lv' := [(0, _), (1, _)]) r_X6_takeIfRoom_0 rfl ?_
  refine EV.n0_eq r_X6_takeIfRoom_1 (fun h1 => ?_) (fun h1 => ?_)
  · omega
  · -- 1 f
    refine EV.l (lv' := [(0, _), (1, _)]) r_X6_takeIfRoom_4 rfl ?_
    refine EV.cu r_X6_takeIfRoom_5 (aV0 mt_78 la_1) (c_advance tp gb rg.en hn rg.rc.pe (pep_le rg.sn) (by omega)) (fun I2 h2 => ?_)
    obtain ⟨rc, fr_⟩ := h2
    refine EV.g r_X6_takeIfRoom_8 ?_
    refine EV.l (lv' := [(0, _), (1, _)]) r_X6_takeIfRoom_16 rfl ?_
    exact EV.ri r_X6_takeIfRoom_17 (⟨rfl, rg.ad rc fr_, fr_.1⟩)
theorem c_room0 {d : Nat} {I : Nat → Nat → Int32} {J : Nat → Nat → Int64} {g : Nat → Nat} {n s : Nat} (rg : RG g n s I)  (hd : 2 ≤ d) : RI d 87 [.ref 1, .int (nI 0)] I J (fun v I' => v = nI 0 ∧ RB n 3 s I' ∧ RO I I') := by
  refine RI.in (d0 := 1) hd mt_87 (Nat.le_of_ble_eq_true rfl) (fun d' hd' => ?_)
  have k4 := kdp_lt (g := g) (n := n) (s := s)
  have sn := rg.sn
  show EV none M_X6_takeIfRoom d' 0 [(0, .ref 1), (1, .int (nI 0))] [] (hp I J) _
  refine EV.l (lv' := [(0, _), (1, _)]) r_X6_takeIfRoom_0 rfl ?_
  refine EV.n0_eq r_X6_takeIfRoom_1 (fun h1 => ?_) (fun h1 => ?_)
  · -- 1 t
    refine EV.l (lv' := [(0, _), (1, _)]) r_X6_takeIfRoom_11 rfl ?_
    refine EV.o r_X6_takeIfRoom_12 (icN (3) (v := 3)) ?_
    refine EV.cu r_X6_takeIfRoom_13 (aV1 mt_88 la_1) (c_failG rg (by decide) (by decide) (by omega)) (fun I2 h2 => ?_)
    obtain ⟨rb, fr_⟩ := h2
    refine EV.l (lv' := [(0, _), (1, _)]) r_X6_takeIfRoom_16 rfl ?_
    exact EV.ri r_X6_takeIfRoom_17 (⟨rfl, rb, fr_⟩)
  · omega
theorem c_start {d : Nat} {I : Nat → Nat → Int32} {J : Nat → Nat → Int64} {g : Nat → Nat} {n : Nat} (tp : ∀ j, j < 600 → I 3 j = nI (g j)) (gb : ∀ j, g j < 256) (hn : n ≤ 600)  (hd : 4 ≤ d) : RU d 77 [.ref 1, .int (nI n)] I J (fun I' => RG g n (scp isB g n 0) I' ∧ RO I I') := by
  refine RU.in (d0 := 3) hd mt_77 (Nat.le_of_ble_eq_true rfl) (fun d' hd' => ?_)
  show EV none M_X6_start d' 0 [(0, .ref 1), (1, .int (nI n))] [] (hp I J) _
  refine EV.l (lv' := [(0, _), (1, _)]) r_X6_start_0 rfl ?_
  refine EV.l (lv' := [(0, _), (1, _)]) r_X6_start_1 rfl ?_
  refine EV.pI r_X6_start_2 la_1 ?_
  refine EV.l (lv' := [(0, _), (1, _)]) r_X6_start_5 rfl ?_
  refine EV.o r_X6_start_6 (icN (0) (v := 0)) ?_
  refine EV.pI r_X6_start_7 la_1 ?_
  refine EV.l (lv' := [(0, _), (1, _)]) r_X6_start_10 rfl ?_
  refine EV.o r_X6_start_11 (icN (0) (v := 0)) ?_
  refine EV.pI r_X6_start_12 la_1 ?_
  refine EV.l (lv' := [(0, _), (1, _)]) r_X6_start_15 rfl ?_
  refine EV.o r_X6_start_16 (icZ (-1)) ?_
  refine EV.pI r_X6_start_17 la_1 ?_
  refine EV.l (lv' := [(0, _), (1, _)]) r_X6_start_20 rfl ?_
  refine EV.o r_X6_start_21 (icN (0) (v := 0)) ?_
  refine EV.pIn r_X6_start_22 la_1 (fun I9 e9 => ?_)
  have q3 : ∀ j, j < 600 → I9 3 j = nI (g j) := fun j hj => by subst e9; exact tp j hj
  have q2 : I9 1 2 = nI n := by subst e9; rfl
  have q5 : I9 1 5 = nI 0 := by subst e9; rfl
  refine EV.l (lv' := [(0, _), (1, _)]) r_X6_start_25 rfl ?_
  refine EV.cu r_X6_start_26 (aV0 mt_78 la_1) (c_advance q3 gb q2 hn q5 (Nat.zero_le _) (by omega)) (fun I2 h2 => ?_)
  obtain ⟨rc, fr_⟩ := h2
  exact EV.ru r_X6_start_29 (⟨⟨scp_le (Nat.zero_le _), (fr_.2 2 (by decide) (by decide) (by decide) (by decide)).trans (by subst e9; rfl), (fr_.2 1 (by decide) (by decide) (by decide) (by decide)).trans (by subst e9; rfl), (fr_.2 7 (by decide) (by decide) (by decide) (by decide)).trans (by subst e9; rfl), (fr_.2 8 (by decide) (by decide) (by decide) (by decide)).trans (by subst e9; rfl), rc⟩, fun o ho => (fr_.1 o ho).trans (by rw [e9, wr_row ho, wr_row ho, wr_row ho, wr_row ho, wr_row ho])⟩)
