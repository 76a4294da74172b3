/-! The model's reading. -/
def MG (g : Nat → Nat) (n : Nat) (s : Nat) (I : Nat → Nat → Int32) : Prop := (s ≤ n) ∧ (I 106 3 = nI n) ∧ (I 106 2 = nI 0) ∧ (I 106 5 = zI (-1)) ∧ (∃ a, a ≤ n ∧ I 106 4 = nI a ∧ scp isB g n a = s)
theorem MG.sn {g : Nat → Nat} {n : Nat} {s : Nat} {I : Nat → Nat → Int32} (h_ : MG g n s I) : s ≤ n := h_.1
theorem MG.en {g : Nat → Nat} {n : Nat} {s : Nat} {I : Nat → Nat → Int32} (h_ : MG g n s I) : I 106 3 = nI n := h_.2.1
theorem MG.ln {g : Nat → Nat} {n : Nat} {s : Nat} {I : Nat → Nat → Int32} (h_ : MG g n s I) : I 106 2 = nI 0 := h_.2.2.1
theorem MG.fo {g : Nat → Nat} {n : Nat} {s : Nat} {I : Nat → Nat → Int32} (h_ : MG g n s I) : I 106 5 = zI (-1) := h_.2.2.2.1
theorem MG.pl {g : Nat → Nat} {n : Nat} {s : Nat} {I : Nat → Nat → Int32} (h_ : MG g n s I) : ∃ a, a ≤ n ∧ I 106 4 = nI a ∧ scp isB g n a = s := h_.2.2.2.2
def MB (n : Nat) (k : Nat) (f : Nat) (I : Nat → Nat → Int32) : Prop := (1 ≤ k) ∧ (k ≤ 3) ∧ (f ≤ n) ∧ (I 106 3 = nI n) ∧ (I 106 2 = nI 0) ∧ (I 106 5 = nI f) ∧ (I 106 6 = nI k)
theorem MB.k1 {n : Nat} {k : Nat} {f : Nat} {I : Nat → Nat → Int32} (h_ : MB n k f I) : 1 ≤ k := h_.1
theorem MB.k3 {n : Nat} {k : Nat} {f : Nat} {I : Nat → Nat → Int32} (h_ : MB n k f I) : k ≤ 3 := h_.2.1
theorem MB.fn {n : Nat} {k : Nat} {f : Nat} {I : Nat → Nat → Int32} (h_ : MB n k f I) : f ≤ n := h_.2.2.1
theorem MB.en {n : Nat} {k : Nat} {f : Nat} {I : Nat → Nat → Int32} (h_ : MB n k f I) : I 106 3 = nI n := h_.2.2.2.1
theorem MB.ln {n : Nat} {k : Nat} {f : Nat} {I : Nat → Nat → Int32} (h_ : MB n k f I) : I 106 2 = nI 0 := h_.2.2.2.2.1
theorem MB.fo {n : Nat} {k : Nat} {f : Nat} {I : Nat → Nat → Int32} (h_ : MB n k f I) : I 106 5 = nI f := h_.2.2.2.2.2.1
theorem MB.fk {n : Nat} {k : Nat} {f : Nat} {I : Nat → Nat → Int32} (h_ : MB n k f I) : I 106 6 = nI k := h_.2.2.2.2.2.2
def MD (g : Nat → Nat) (n : Nat) (r : RST) (I : Nat → Nat → Int32) : Prop := match r with
  | .inl s => MG g n s I
  | .inr (k, f) => MB n k f I
/-- the model's reading alone was at work -/
def MO (I I' : Nat → Nat → Int32) : Prop := (∀ o, o ≠ 106 → I' o = I o) ∧ ∀ j, j ≠ 4 → j ≠ 5 → j ≠ 6 → I' 106 j = I 106 j
theorem MO.rf {I : Nat → Nat → Int32} : MO I I := ⟨fun _ _ => rfl, fun _ _ _ _ => rfl⟩
theorem MO.tr {I I1 I2 : Nat → Nat → Int32} (h : MO I I1) (h2 : MO I1 I2) : MO I I2 := ⟨fun o ho => (h2.1 o ho).trans (h.1 o ho), fun j a4 a5 a6 => (h2.2 j a4 a5 a6).trans (h.2 j a4 a5 a6)⟩
/-- only the place is another -/
def MP (I I' : Nat → Nat → Int32) : Prop := (∀ o, o ≠ 106 → I' o = I o) ∧ ∀ j, j ≠ 4 → I' 106 j = I 106 j
theorem MP.rf {I : Nat → Nat → Int32} : MP I I := ⟨fun _ _ => rfl, fun _ _ => rfl⟩
theorem MP.mo {I I' : Nat → Nat → Int32} (h : MP I I') : MO I I' := ⟨h.1, fun j a4 _ _ => h.2 j a4⟩
theorem MP.wr {I I' : Nat → Nat → Int32} {v : Int32} (h : MP I I') : MP I (wr I' 106 4 v) := ⟨fun o ho => (wr_row ho).trans (h.1 o ho), fun j hj => (wr_ne (Or.inr hj)).trans (h.2 j hj)⟩
/-- the byte at a place, 0 behind the end -/
def cuc (g : Nat → Nat) (n s : Nat) : Nat := if s < n then g s else 0
theorem MG.mv {g : Nat → Nat} {n s a s2 : Nat} {I I' : Nat → Nat → Int32} (h : MG g n s I) (f : MP I I') (ha : a ≤ n) (e : I' 106 4 = nI a) (hs : scp isB g n a = s2) : MG g n s2 I' := ⟨by rw [← hs]; exact scp_le ha, (f.2 3 (by decide)).trans h.en, (f.2 2 (by decide)).trans h.ln, (f.2 5 (by decide)).trans h.fo, ⟨a, ha, e, hs⟩⟩
theorem MG.bd {g : Nat → Nat} {n s p k : Nat} {I : Nat → Nat → Int32} (h : MG g n s I) (hk : 1 ≤ k) (hk2 : k ≤ 3) (hp : p ≤ n) : MB n k p (wr (wr I 106 5 (nI p)) 106 6 (nI k)) := ⟨hk, hk2, hp, (wr_ne (Or.inr (by decide))).trans ((wr_ne (Or.inr (by decide))).trans h.en), (wr_ne (Or.inr (by decide))).trans ((wr_ne (Or.inr (by decide))).trans h.ln), (wr_ne (Or.inr (by decide))).trans wr_same, wr_same⟩
theorem kd3_lt {g : Nat → Nat} {n s : Nat} (h : kdp g n s = 3) : s < n := by
  unfold kdp at h
  by_cases z : n ≤ s
  · rw [if_pos z] at h; exact absurd h (by decide)
  · omega
theorem cuc_c {g : Nat → Nat} {n s c : Nat} (h : cuc g n s = c) (hc_ : 0 < c) : s < n ∧ g s = c := by
  unfold cuc at h
  by_cases z : s < n
  · rw [if_pos z] at h; exact ⟨z, h⟩
  · rw [if_neg z] at h; omega
theorem cuc_d {g : Nat → Nat} {n s : Nat} : kdp g n s = 1 ↔ isD (cuc g n s) = true := by
  by_cases z : n ≤ s
  · have e : cuc g n s = 0 := if_neg (by omega)
    rw [(kd_0 z).1, e]
    exact ⟨fun h => absurd h (by decide), fun h => absurd h (by decide)⟩
  · have e : cuc g n s = g s := if_pos (by omega)
    rw [e]
    cases h : isD (g s) with
    | true => exact ⟨fun _ => rfl, fun _ => (kd_1 (by omega) h).1⟩
    | false =>
      refine ⟨fun y => ?_, fun y => absurd y (by decide)⟩
      cases h2 : isL (g s) with
      | true => rw [(kd_2 (by omega) h h2).1] at y; exact absurd y (by decide)
      | false => rw [(kd_3 (by omega) h h2).1] at y; exact absurd y (by decide)
theorem kd1_lt {g : Nat → Nat} {n s : Nat} (h : kdp g n s = 1) : s < n ∧ pep g n s = scp isD g n s := by
  by_cases z : n ≤ s
  · rw [(kd_0 z).1] at h; exact absurd h (by decide)
  · refine ⟨by omega, ?_⟩
    have h2 := cuc_d.mp h
    unfold cuc at h2
    rw [if_pos (by omega)] at h2
    exact (kd_1 (by omega) h2).2
theorem r_X11_fine_0 : RW M_X11_fine 0 (.aload_n 0) 1 0 0 1 := ⟨rfl, rfl⟩
theorem r_X11_fine_1 : RW M_X11_fine 1 (.getfield 111) 3 11 5 4 := ⟨rfl, rfl⟩
theorem r_X11_fine_4 : RW M_X11_fine 4 (.iconst (-1)) 1 0 0 5 := ⟨rfl, rfl⟩
theorem r_X11_fine_5 : RW M_X11_fine 5 (.if_icmp .ne 7) 3 12 0 8 := ⟨rfl, rfl⟩
theorem r_X11_fine_8 : RW M_X11_fine 8 (.iconst 1) 1 0 0 9 := ⟨rfl, rfl⟩
theorem r_X11_fine_9 : RW M_X11_fine 9 (.goto 4) 3 13 0 12 := ⟨rfl, rfl⟩
theorem r_X11_fine_12 : RW M_X11_fine 12 (.iconst 0) 1 0 0 13 := ⟨rfl, rfl⟩
theorem r_X11_fine_13 : RW M_X11_fine 13 (.ireturn) 1 0 0 14 := ⟨rfl, rfl⟩
theorem r_X11_here_0 : RW M_X11_here 0 (.aload_n 0) 1 0 0 1 := ⟨rfl, rfl⟩
theorem r_X11_here_1 : RW M_X11_here 1 (.getfield 117) 3 11 4 4 := ⟨rfl, rfl⟩
theorem r_X11_here_4 : RW M_X11_here 4 (.aload_n 0) 1 0 0 5 := ⟨rfl, rfl⟩
theorem r_X11_here_5 : RW M_X11_here 5 (.getfield 120) 3 11 3 8 := ⟨rfl, rfl⟩
theorem r_X11_here_8 : RW M_X11_here 8 (.if_icmp .ge 30) 3 38 0 11 := ⟨rfl, rfl⟩
theorem r_X11_here_11 : RW M_X11_here 11 (.aload_n 0) 1 0 0 12 := ⟨rfl, rfl⟩
theorem r_X11_here_12 : RW M_X11_here 12 (.getfield 20) 3 11 9 15 := ⟨rfl, rfl⟩
theorem r_X11_here_15 : RW M_X11_here 15 (.aload_n 0) 1 0 0 16 := ⟨rfl, rfl⟩
theorem r_X11_here_16 : RW M_X11_here 16 (.getfield 117) 3 11 4 19 := ⟨rfl, rfl⟩
theorem r_X11_here_19 : RW M_X11_here 19 (.iaload) 1 0 0 20 := ⟨rfl, rfl⟩
theorem r_X11_here_20 : RW M_X11_here 20 (.bipush 32) 2 0 0 22 := ⟨rfl, rfl⟩
theorem r_X11_here_22 : RW M_X11_here 22 (.if_icmp .ne 16) 3 38 0 25 := ⟨rfl, rfl⟩
theorem r_X11_here_25 : RW M_X11_here 25 (.aload_n 0) 1 0 0 26 := ⟨rfl, rfl⟩
theorem r_X11_here_26 : RW M_X11_here 26 (.dup) 1 0 0 27 := ⟨rfl, rfl⟩
theorem r_X11_here_27 : RW M_X11_here 27 (.getfield 117) 3 11 4 30 := ⟨rfl, rfl⟩
theorem r_X11_here_30 : RW M_X11_here 30 (.iconst 1) 1 0 0 31 := ⟨rfl, rfl⟩
theorem r_X11_here_31 : RW M_X11_here 31 (.iadd) 1 0 0 32 := ⟨rfl, rfl⟩
theorem r_X11_here_32 : RW M_X11_here 32 (.putfield 117) 3 11 4 35 := ⟨rfl, rfl⟩
theorem r_X11_here_35 : RW M_X11_here 35 (.goto (-35)) 3 0 0 38 := ⟨rfl, rfl⟩
theorem r_X11_here_38 : RW M_X11_here 38 (.aload_n 0) 1 0 0 39 := ⟨rfl, rfl⟩
theorem r_X11_here_39 : RW M_X11_here 39 (.getfield 117) 3 11 4 42 := ⟨rfl, rfl⟩
theorem r_X11_here_42 : RW M_X11_here 42 (.aload_n 0) 1 0 0 43 := ⟨rfl, rfl⟩
theorem r_X11_here_43 : RW M_X11_here 43 (.getfield 120) 3 11 3 46 := ⟨rfl, rfl⟩
theorem r_X11_here_46 : RW M_X11_here 46 (.if_icmp .ge 15) 3 61 0 49 := ⟨rfl, rfl⟩
theorem r_X11_here_49 : RW M_X11_here 49 (.aload_n 0) 1 0 0 50 := ⟨rfl, rfl⟩
theorem r_X11_here_50 : RW M_X11_here 50 (.getfield 20) 3 11 9 53 := ⟨rfl, rfl⟩
theorem r_X11_here_53 : RW M_X11_here 53 (.aload_n 0) 1 0 0 54 := ⟨rfl, rfl⟩
theorem r_X11_here_54 : RW M_X11_here 54 (.getfield 117) 3 11 4 57 := ⟨rfl, rfl⟩
theorem r_X11_here_57 : RW M_X11_here 57 (.iaload) 1 0 0 58 := ⟨rfl, rfl⟩
theorem r_X11_here_58 : RW M_X11_here 58 (.goto 4) 3 62 0 61 := ⟨rfl, rfl⟩
theorem r_X11_here_61 : RW M_X11_here 61 (.iconst 0) 1 0 0 62 := ⟨rfl, rfl⟩
theorem r_X11_here_62 : RW M_X11_here 62 (.ireturn) 1 0 0 63 := ⟨rfl, rfl⟩
theorem r_X11_isDigit_0 : RW M_X11_isDigit 0 (.iload_n 0) 1 0 0 1 := ⟨rfl, rfl⟩
theorem r_X11_isDigit_1 : RW M_X11_isDigit 1 (.bipush 48) 2 0 0 3 := ⟨rfl, rfl⟩
theorem r_X11_isDigit_3 : RW M_X11_isDigit 3 (.if_icmp .lt 13) 3 16 0 6 := ⟨rfl, rfl⟩
theorem r_X11_isDigit_6 : RW M_X11_isDigit 6 (.iload_n 0) 1 0 0 7 := ⟨rfl, rfl⟩
theorem r_X11_isDigit_7 : RW M_X11_isDigit 7 (.bipush 57) 2 0 0 9 := ⟨rfl, rfl⟩
theorem r_X11_isDigit_9 : RW M_X11_isDigit 9 (.if_icmp .gt 7) 3 16 0 12 := ⟨rfl, rfl⟩
theorem r_X11_isDigit_12 : RW M_X11_isDigit 12 (.iconst 1) 1 0 0 13 := ⟨rfl, rfl⟩
theorem r_X11_isDigit_13 : RW M_X11_isDigit 13 (.goto 4) 3 17 0 16 := ⟨rfl, rfl⟩
theorem r_X11_isDigit_16 : RW M_X11_isDigit 16 (.iconst 0) 1 0 0 17 := ⟨rfl, rfl⟩
theorem r_X11_isDigit_17 : RW M_X11_isDigit 17 (.ireturn) 1 0 0 18 := ⟨rfl, rfl⟩
theorem r_X11_isMore_0 : RW M_X11_isMore 0 (.aload_n 0) 1 0 0 1 := ⟨rfl, rfl⟩
theorem r_X11_isMore_1 : RW M_X11_isMore 1 (.invokevirtual 123) 3 175 0 4 := ⟨rfl, rfl⟩
theorem r_X11_isMore_4 : RW M_X11_isMore 4 (.pop) 1 0 0 5 := ⟨rfl, rfl⟩
theorem r_X11_isMore_5 : RW M_X11_isMore 5 (.aload_n 0) 1 0 0 6 := ⟨rfl, rfl⟩
theorem r_X11_isMore_6 : RW M_X11_isMore 6 (.getfield 117) 3 11 4 9 := ⟨rfl, rfl⟩
theorem r_X11_isMore_9 : RW M_X11_isMore 9 (.aload_n 0) 1 0 0 10 := ⟨rfl, rfl⟩
theorem r_X11_isMore_10 : RW M_X11_isMore 10 (.getfield 120) 3 11 3 13 := ⟨rfl, rfl⟩
theorem r_X11_isMore_13 : RW M_X11_isMore 13 (.if_icmp .ge 7) 3 20 0 16 := ⟨rfl, rfl⟩
theorem r_X11_isMore_16 : RW M_X11_isMore 16 (.iconst 1) 1 0 0 17 := ⟨rfl, rfl⟩
theorem r_X11_isMore_17 : RW M_X11_isMore 17 (.goto 4) 3 21 0 20 := ⟨rfl, rfl⟩
theorem r_X11_isMore_20 : RW M_X11_isMore 20 (.iconst 0) 1 0 0 21 := ⟨rfl, rfl⟩
theorem r_X11_isMore_21 : RW M_X11_isMore 21 (.ireturn) 1 0 0 22 := ⟨rfl, rfl⟩
theorem r_X11_isSmall_0 : RW M_X11_isSmall 0 (.iload_n 0) 1 0 0 1 := ⟨rfl, rfl⟩
theorem r_X11_isSmall_1 : RW M_X11_isSmall 1 (.bipush 97) 2 0 0 3 := ⟨rfl, rfl⟩
theorem r_X11_isSmall_3 : RW M_X11_isSmall 3 (.if_icmp .lt 13) 3 16 0 6 := ⟨rfl, rfl⟩
theorem r_X11_isSmall_6 : RW M_X11_isSmall 6 (.iload_n 0) 1 0 0 7 := ⟨rfl, rfl⟩
theorem r_X11_isSmall_7 : RW M_X11_isSmall 7 (.bipush 122) 2 0 0 9 := ⟨rfl, rfl⟩
theorem r_X11_isSmall_9 : RW M_X11_isSmall 9 (.if_icmp .gt 7) 3 16 0 12 := ⟨rfl, rfl⟩
theorem r_X11_isSmall_12 : RW M_X11_isSmall 12 (.iconst 1) 1 0 0 13 := ⟨rfl, rfl⟩
theorem r_X11_isSmall_13 : RW M_X11_isSmall 13 (.goto 4) 3 17 0 16 := ⟨rfl, rfl⟩
theorem r_X11_isSmall_16 : RW M_X11_isSmall 16 (.iconst 0) 1 0 0 17 := ⟨rfl, rfl⟩
theorem r_X11_isSmall_17 : RW M_X11_isSmall 17 (.ireturn) 1 0 0 18 := ⟨rfl, rfl⟩
theorem r_X11_pass_0 : RW M_X11_pass 0 (.aload_n 0) 1 0 0 1 := ⟨rfl, rfl⟩
theorem r_X11_pass_1 : RW M_X11_pass 1 (.getfield 117) 3 11 4 4 := ⟨rfl, rfl⟩
theorem r_X11_pass_4 : RW M_X11_pass 4 (.aload_n 0) 1 0 0 5 := ⟨rfl, rfl⟩
theorem r_X11_pass_5 : RW M_X11_pass 5 (.getfield 120) 3 11 3 8 := ⟨rfl, rfl⟩
theorem r_X11_pass_8 : RW M_X11_pass 8 (.if_icmp .ge 31) 3 39 0 11 := ⟨rfl, rfl⟩
theorem r_X11_pass_11 : RW M_X11_pass 11 (.aload_n 0) 1 0 0 12 := ⟨rfl, rfl⟩
theorem r_X11_pass_12 : RW M_X11_pass 12 (.getfield 20) 3 11 9 15 := ⟨rfl, rfl⟩
theorem r_X11_pass_15 : RW M_X11_pass 15 (.aload_n 0) 1 0 0 16 := ⟨rfl, rfl⟩
theorem r_X11_pass_16 : RW M_X11_pass 16 (.getfield 117) 3 11 4 19 := ⟨rfl, rfl⟩
theorem r_X11_pass_19 : RW M_X11_pass 19 (.iaload) 1 0 0 20 := ⟨rfl, rfl⟩
theorem r_X11_pass_20 : RW M_X11_pass 20 (.invokestatic 127) 3 176 0 23 := ⟨rfl, rfl⟩
theorem r_X11_pass_23 : RW M_X11_pass 23 (.ifCond .eq 16) 3 39 0 26 := ⟨rfl, rfl⟩
theorem r_X11_pass_26 : RW M_X11_pass 26 (.aload_n 0) 1 0 0 27 := ⟨rfl, rfl⟩
theorem r_X11_pass_27 : RW M_X11_pass 27 (.dup) 1 0 0 28 := ⟨rfl, rfl⟩
theorem r_X11_pass_28 : RW M_X11_pass 28 (.getfield 117) 3 11 4 31 := ⟨rfl, rfl⟩
theorem r_X11_pass_31 : RW M_X11_pass 31 (.iconst 1) 1 0 0 32 := ⟨rfl, rfl⟩
theorem r_X11_pass_32 : RW M_X11_pass 32 (.iadd) 1 0 0 33 := ⟨rfl, rfl⟩
theorem r_X11_pass_33 : RW M_X11_pass 33 (.putfield 117) 3 11 4 36 := ⟨rfl, rfl⟩
theorem r_X11_pass_36 : RW M_X11_pass 36 (.goto (-36)) 3 0 0 39 := ⟨rfl, rfl⟩
theorem r_X11_pass_39 : RW M_X11_pass 39 (.return_) 1 0 0 40 := ⟨rfl, rfl⟩
theorem r_X11_readNumber_0 : RW M_X11_readNumber 0 (.aload_n 0) 1 0 0 1 := ⟨rfl, rfl⟩
theorem r_X11_readNumber_1 : RW M_X11_readNumber 1 (.invokevirtual 140) 3 173 0 4 := ⟨rfl, rfl⟩
theorem r_X11_readNumber_4 : RW M_X11_readNumber 4 (.ifCond .ne 5) 3 9 0 7 := ⟨rfl, rfl⟩
theorem r_X11_readNumber_7 : RW M_X11_readNumber 7 (.iconst 0) 1 0 0 8 := ⟨rfl, rfl⟩
theorem r_X11_readNumber_8 : RW M_X11_readNumber 8 (.ireturn) 1 0 0 9 := ⟨rfl, rfl⟩
theorem r_X11_readNumber_9 : RW M_X11_readNumber 9 (.aload_n 0) 1 0 0 10 := ⟨rfl, rfl⟩
theorem r_X11_readNumber_10 : RW M_X11_readNumber 10 (.invokevirtual 123) 3 175 0 13 := ⟨rfl, rfl⟩
theorem r_X11_readNumber_13 : RW M_X11_readNumber 13 (.istore_n 3) 1 0 0 14 := ⟨rfl, rfl⟩
theorem r_X11_readNumber_14 : RW M_X11_readNumber 14 (.aload_n 0) 1 0 0 15 := ⟨rfl, rfl⟩
theorem r_X11_readNumber_15 : RW M_X11_readNumber 15 (.getfield 117) 3 11 4 18 := ⟨rfl, rfl⟩
theorem r_X11_readNumber_18 : RW M_X11_readNumber 18 (.istore 4) 2 0 0 20 := ⟨rfl, rfl⟩
theorem r_X11_readNumber_20 : RW M_X11_readNumber 20 (.iconst 0) 1 0 0 21 := ⟨rfl, rfl⟩
theorem r_X11_readNumber_21 : RW M_X11_readNumber 21 (.istore 5) 2 0 0 23 := ⟨rfl, rfl⟩
theorem r_X11_readNumber_23 : RW M_X11_readNumber 23 (.iload_n 3) 1 0 0 24 := ⟨rfl, rfl⟩
theorem r_X11_readNumber_24 : RW M_X11_readNumber 24 (.invokestatic 144) 3 177 0 27 := ⟨rfl, rfl⟩
theorem r_X11_readNumber_27 : RW M_X11_readNumber 27 (.ifCond .ne 14) 3 41 0 30 := ⟨rfl, rfl⟩
theorem r_X11_readNumber_30 : RW M_X11_readNumber 30 (.aload_n 0) 1 0 0 31 := ⟨rfl, rfl⟩
theorem r_X11_readNumber_31 : RW M_X11_readNumber 31 (.iconst 1) 1 0 0 32 := ⟨rfl, rfl⟩
theorem r_X11_readNumber_32 : RW M_X11_readNumber 32 (.aload_n 0) 1 0 0 33 := ⟨rfl, rfl⟩
theorem r_X11_readNumber_33 : RW M_X11_readNumber 33 (.getfield 117) 3 11 4 36 := ⟨rfl, rfl⟩
theorem r_X11_readNumber_36 : RW M_X11_readNumber 36 (.invokevirtual 147) 3 174 0 39 := ⟨rfl, rfl⟩
theorem r_X11_readNumber_39 : RW M_X11_readNumber 39 (.iconst 0) 1 0 0 40 := ⟨rfl, rfl⟩
theorem r_X11_readNumber_40 : RW M_X11_readNumber 40 (.ireturn) 1 0 0 41 := ⟨rfl, rfl⟩
theorem r_X11_readNumber_41 : RW M_X11_readNumber 41 (.aload_n 0) 1 0 0 42 := ⟨rfl, rfl⟩
theorem r_X11_readNumber_42 : RW M_X11_readNumber 42 (.getfield 117) 3 11 4 45 := ⟨rfl, rfl⟩
theorem r_X11_readNumber_45 : RW M_X11_readNumber 45 (.aload_n 0) 1 0 0 46 := ⟨rfl, rfl⟩
theorem r_X11_readNumber_46 : RW M_X11_readNumber 46 (.getfield 120) 3 11 3 49 := ⟨rfl, rfl⟩
theorem r_X11_readNumber_49 : RW M_X11_readNumber 49 (.if_icmp .ge 65) 3 114 0 52 := ⟨rfl, rfl⟩
theorem r_X11_readNumber_52 : RW M_X11_readNumber 52 (.aload_n 0) 1 0 0 53 := ⟨rfl, rfl⟩
theorem r_X11_readNumber_53 : RW M_X11_readNumber 53 (.getfield 20) 3 11 9 56 := ⟨rfl, rfl⟩
theorem r_X11_readNumber_56 : RW M_X11_readNumber 56 (.aload_n 0) 1 0 0 57 := ⟨rfl, rfl⟩
theorem r_X11_readNumber_57 : RW M_X11_readNumber 57 (.getfield 117) 3 11 4 60 := ⟨rfl, rfl⟩
theorem r_X11_readNumber_60 : RW M_X11_readNumber 60 (.iaload) 1 0 0 61 := ⟨rfl, rfl⟩
theorem r_X11_readNumber_61 : RW M_X11_readNumber 61 (.invokestatic 144) 3 177 0 64 := ⟨rfl, rfl⟩
theorem r_X11_readNumber_64 : RW M_X11_readNumber 64 (.ifCond .eq 50) 3 114 0 67 := ⟨rfl, rfl⟩
theorem r_X11_readNumber_67 : RW M_X11_readNumber 67 (.iload 5) 2 0 0 69 := ⟨rfl, rfl⟩
theorem r_X11_readNumber_69 : RW M_X11_readNumber 69 (.sipush 9999) 3 0 0 72 := ⟨rfl, rfl⟩
theorem r_X11_readNumber_72 : RW M_X11_readNumber 72 (.if_icmp .le 9) 3 81 0 75 := ⟨rfl, rfl⟩
theorem r_X11_readNumber_75 : RW M_X11_readNumber 75 (.sipush 10000) 3 0 0 78 := ⟨rfl, rfl⟩
theorem r_X11_readNumber_78 : RW M_X11_readNumber 78 (.goto 21) 3 99 0 81 := ⟨rfl, rfl⟩
theorem r_X11_readNumber_81 : RW M_X11_readNumber 81 (.bipush 10) 2 0 0 83 := ⟨rfl, rfl⟩
theorem r_X11_readNumber_83 : RW M_X11_readNumber 83 (.iload 5) 2 0 0 85 := ⟨rfl, rfl⟩
theorem r_X11_readNumber_85 : RW M_X11_readNumber 85 (.imul) 1 0 0 86 := ⟨rfl, rfl⟩
theorem r_X11_readNumber_86 : RW M_X11_readNumber 86 (.aload_n 0) 1 0 0 87 := ⟨rfl, rfl⟩
theorem r_X11_readNumber_87 : RW M_X11_readNumber 87 (.getfield 20) 3 11 9 90 := ⟨rfl, rfl⟩
theorem r_X11_readNumber_90 : RW M_X11_readNumber 90 (.aload_n 0) 1 0 0 91 := ⟨rfl, rfl⟩
theorem r_X11_readNumber_91 : RW M_X11_readNumber 91 (.getfield 117) 3 11 4 94 := ⟨rfl, rfl⟩
theorem r_X11_readNumber_94 : RW M_X11_readNumber 94 (.iaload) 1 0 0 95 := ⟨rfl, rfl⟩
theorem r_X11_readNumber_95 : RW M_X11_readNumber 95 (.iadd) 1 0 0 96 := ⟨rfl, rfl⟩
theorem r_X11_readNumber_96 : RW M_X11_readNumber 96 (.bipush 48) 2 0 0 98 := ⟨rfl, rfl⟩
theorem r_X11_readNumber_98 : RW M_X11_readNumber 98 (.isub) 1 0 0 99 := ⟨rfl, rfl⟩
theorem r_X11_readNumber_99 : RW M_X11_readNumber 99 (.istore 5) 2 0 0 101 := ⟨rfl, rfl⟩
theorem r_X11_readNumber_101 : RW M_X11_readNumber 101 (.aload_n 0) 1 0 0 102 := ⟨rfl, rfl⟩
theorem r_X11_readNumber_102 : RW M_X11_readNumber 102 (.dup) 1 0 0 103 := ⟨rfl, rfl⟩
theorem r_X11_readNumber_103 : RW M_X11_readNumber 103 (.getfield 117) 3 11 4 106 := ⟨rfl, rfl⟩
theorem r_X11_readNumber_106 : RW M_X11_readNumber 106 (.iconst 1) 1 0 0 107 := ⟨rfl, rfl⟩
theorem r_X11_readNumber_107 : RW M_X11_readNumber 107 (.iadd) 1 0 0 108 := ⟨rfl, rfl⟩
theorem r_X11_readNumber_108 : RW M_X11_readNumber 108 (.putfield 117) 3 11 4 111 := ⟨rfl, rfl⟩
theorem r_X11_readNumber_111 : RW M_X11_readNumber 111 (.goto (-70)) 3 41 0 114 := ⟨rfl, rfl⟩
theorem r_X11_readNumber_114 : RW M_X11_readNumber 114 (.iload 5) 2 0 0 116 := ⟨rfl, rfl⟩
theorem r_X11_readNumber_116 : RW M_X11_readNumber 116 (.iload_n 1) 1 0 0 117 := ⟨rfl, rfl⟩
theorem r_X11_readNumber_117 : RW M_X11_readNumber 117 (.if_icmp .lt 9) 3 126 0 120 := ⟨rfl, rfl⟩
theorem r_X11_readNumber_120 : RW M_X11_readNumber 120 (.iload 5) 2 0 0 122 := ⟨rfl, rfl⟩
theorem r_X11_readNumber_122 : RW M_X11_readNumber 122 (.iload_n 2) 1 0 0 123 := ⟨rfl, rfl⟩
theorem r_X11_readNumber_123 : RW M_X11_readNumber 123 (.if_icmp .le 12) 3 135 0 126 := ⟨rfl, rfl⟩
theorem r_X11_readNumber_126 : RW M_X11_readNumber 126 (.aload_n 0) 1 0 0 127 := ⟨rfl, rfl⟩
theorem r_X11_readNumber_127 : RW M_X11_readNumber 127 (.iconst 2) 1 0 0 128 := ⟨rfl, rfl⟩
theorem r_X11_readNumber_128 : RW M_X11_readNumber 128 (.iload 4) 2 0 0 130 := ⟨rfl, rfl⟩
theorem r_X11_readNumber_130 : RW M_X11_readNumber 130 (.invokevirtual 147) 3 174 0 133 := ⟨rfl, rfl⟩
theorem r_X11_readNumber_133 : RW M_X11_readNumber 133 (.iconst 0) 1 0 0 134 := ⟨rfl, rfl⟩
theorem r_X11_readNumber_134 : RW M_X11_readNumber 134 (.ireturn) 1 0 0 135 := ⟨rfl, rfl⟩
theorem r_X11_readNumber_135 : RW M_X11_readNumber 135 (.iload 5) 2 0 0 137 := ⟨rfl, rfl⟩
theorem r_X11_readNumber_137 : RW M_X11_readNumber 137 (.ireturn) 1 0 0 138 := ⟨rfl, rfl⟩
theorem r_X11_sign_0 : RW M_X11_sign 0 (.aload_n 0) 1 0 0 1 := ⟨rfl, rfl⟩
theorem r_X11_sign_1 : RW M_X11_sign 1 (.invokevirtual 140) 3 173 0 4 := ⟨rfl, rfl⟩
theorem r_X11_sign_4 : RW M_X11_sign 4 (.ifCond .eq 20) 3 24 0 7 := ⟨rfl, rfl⟩
theorem r_X11_sign_7 : RW M_X11_sign 7 (.aload_n 0) 1 0 0 8 := ⟨rfl, rfl⟩
theorem r_X11_sign_8 : RW M_X11_sign 8 (.invokevirtual 123) 3 175 0 11 := ⟨rfl, rfl⟩
theorem r_X11_sign_11 : RW M_X11_sign 11 (.iload_n 1) 1 0 0 12 := ⟨rfl, rfl⟩
theorem r_X11_sign_12 : RW M_X11_sign 12 (.if_icmp .eq 12) 3 24 0 15 := ⟨rfl, rfl⟩
theorem r_X11_sign_15 : RW M_X11_sign 15 (.aload_n 0) 1 0 0 16 := ⟨rfl, rfl⟩
theorem r_X11_sign_16 : RW M_X11_sign 16 (.iconst 1) 1 0 0 17 := ⟨rfl, rfl⟩
theorem r_X11_sign_17 : RW M_X11_sign 17 (.aload_n 0) 1 0 0 18 := ⟨rfl, rfl⟩
theorem r_X11_sign_18 : RW M_X11_sign 18 (.getfield 117) 3 11 4 21 := ⟨rfl, rfl⟩
theorem r_X11_sign_21 : RW M_X11_sign 21 (.invokevirtual 147) 3 174 0 24 := ⟨rfl, rfl⟩
theorem r_X11_sign_24 : RW M_X11_sign 24 (.aload_n 0) 1 0 0 25 := ⟨rfl, rfl⟩
theorem r_X11_sign_25 : RW M_X11_sign 25 (.invokevirtual 140) 3 173 0 28 := ⟨rfl, rfl⟩
theorem r_X11_sign_28 : RW M_X11_sign 28 (.ifCond .eq 13) 3 41 0 31 := ⟨rfl, rfl⟩
theorem r_X11_sign_31 : RW M_X11_sign 31 (.aload_n 0) 1 0 0 32 := ⟨rfl, rfl⟩
theorem r_X11_sign_32 : RW M_X11_sign 32 (.dup) 1 0 0 33 := ⟨rfl, rfl⟩
theorem r_X11_sign_33 : RW M_X11_sign 33 (.getfield 117) 3 11 4 36 := ⟨rfl, rfl⟩
theorem r_X11_sign_36 : RW M_X11_sign 36 (.iconst 1) 1 0 0 37 := ⟨rfl, rfl⟩
theorem r_X11_sign_37 : RW M_X11_sign 37 (.iadd) 1 0 0 38 := ⟨rfl, rfl⟩
theorem r_X11_sign_38 : RW M_X11_sign 38 (.putfield 117) 3 11 4 41 := ⟨rfl, rfl⟩
theorem r_X11_sign_41 : RW M_X11_sign 41 (.return_) 1 0 0 42 := ⟨rfl, rfl⟩
theorem r_X11_wrong_0 : RW M_X11_wrong 0 (.aload_n 0) 1 0 0 1 := ⟨rfl, rfl⟩
theorem r_X11_wrong_1 : RW M_X11_wrong 1 (.getfield 111) 3 11 5 4 := ⟨rfl, rfl⟩
theorem r_X11_wrong_4 : RW M_X11_wrong 4 (.iconst (-1)) 1 0 0 5 := ⟨rfl, rfl⟩
theorem r_X11_wrong_5 : RW M_X11_wrong 5 (.if_icmp .eq 4) 3 9 0 8 := ⟨rfl, rfl⟩
theorem r_X11_wrong_8 : RW M_X11_wrong 8 (.return_) 1 0 0 9 := ⟨rfl, rfl⟩
theorem r_X11_wrong_9 : RW M_X11_wrong 9 (.aload_n 0) 1 0 0 10 := ⟨rfl, rfl⟩
theorem r_X11_wrong_10 : RW M_X11_wrong 10 (.iload_n 2) 1 0 0 11 := ⟨rfl, rfl⟩
theorem r_X11_wrong_11 : RW M_X11_wrong 11 (.putfield 111) 3 11 5 14 := ⟨rfl, rfl⟩
theorem r_X11_wrong_14 : RW M_X11_wrong 14 (.aload_n 0) 1 0 0 15 := ⟨rfl, rfl⟩
theorem r_X11_wrong_15 : RW M_X11_wrong 15 (.iload_n 1) 1 0 0 16 := ⟨rfl, rfl⟩
theorem r_X11_wrong_16 : RW M_X11_wrong 16 (.putfield 114) 3 11 6 19 := ⟨rfl, rfl⟩
theorem r_X11_wrong_19 : RW M_X11_wrong 19 (.return_) 1 0 0 20 := ⟨rfl, rfl⟩
theorem m_fineG {d : Nat} {I : Nat → Nat → Int32} {J : Nat → Nat → Int64} {g : Nat → Nat} {n s : Nat} (mg : MG g n s I)  (hd : 1 ≤ d) : RV d 173 [.ref 106] I J (nI 1) := by
  refine RV.in (d0 := 0) hd mt_173 (Nat.le_of_ble_eq_true rfl) (fun d' hd' => ?_)
  show EV none M_X11_fine d' 0 [(0, .ref 106)] [] (hp I J) _
  refine EV.l (lv' := [(0, _)]) r_X11_fine_0 rfl ?_
  refine EV.getV r_X11_fine_1 la_106 (mg.fo) ?_
  refine EV.o r_X11_fine_4 (icZ (-1)) ?_
  refine EV.z2_ne r_X11_fine_5 (fun h5 => ?_) (fun h5 => ?_)
  · exact absurd rfl h5
  · -- 5 f
    refine EV.o r_X11_fine_8 (icN (1) (v := 1)) ?_
    refine EV.g r_X11_fine_9 ?_
    exact EV.rv r_X11_fine_13 (rfl)
theorem m_fineB {d : Nat} {I : Nat → Nat → Int32} {J : Nat → Nat → Int64} {n k f : Nat} (mb : MB n k f I) (hn : n ≤ 600)  (hd : 1 ≤ d) : RV d 173 [.ref 106] I J (nI 0) := by
  refine RV.in (d0 := 0) hd mt_173 (Nat.le_of_ble_eq_true rfl) (fun d' hd' => ?_)
  have fn := mb.fn
  show EV none M_X11_fine d' 0 [(0, .ref 106)] [] (hp I J) _
  refine EV.l (lv' := [(0, _)]) r_X11_fine_0 rfl ?_
  refine EV.getV r_X11_fine_1 la_106 (mb.fo) ?_
  refine EV.o r_X11_fine_4 (icZ (-1)) ?_
  refine EV.nz2_ne r_X11_fine_5 (fun h5 => ?_) (fun h5 => ?_)
  · -- 5 t
    refine EV.o r_X11_fine_12 (icN (0) (v := 0)) ?_
    exact EV.rv r_X11_fine_13 (rfl)
  · omega
theorem m_wrongG {d : Nat} {I : Nat → Nat → Int32} {J : Nat → Nat → Int64} {g : Nat → Nat} {n s : Nat} (mg : MG g n s I) {k p : Nat} (hk : 1 ≤ k) (hk3 : k ≤ 3) (hp_ : p ≤ n) (hd : 1 ≤ d) : RU d 174 [.ref 106, .int (nI k), .int (nI p)] I J (fun I' => MB n k p I' ∧ MO I I') := by
  refine RU.in (d0 := 0) hd mt_174 (Nat.le_of_ble_eq_true rfl) (fun d' hd' => ?_)
  show EV none M_X11_wrong d' 0 [(0, .ref 106), (1, .int (nI k)), (2, .int (nI p))] [] (hp I J) _
  refine EV.l (lv' := [(0, _), (1, _), (2, _)]) r_X11_wrong_0 rfl ?_
  refine EV.getV r_X11_wrong_1 la_106 (mg.fo) ?_
  refine EV.o r_X11_wrong_4 (icZ (-1)) ?_
  refine EV.z2_eq r_X11_wrong_5 (fun h5 => ?_) (fun h5 => ?_)
  · -- 5 t
    refine EV.l (lv' := [(0, _), (1, _), (2, _)]) r_X11_wrong_9 rfl ?_
    refine EV.l (lv' := [(0, _), (1, _), (2, _)]) r_X11_wrong_10 rfl ?_
    refine EV.pI r_X11_wrong_11 la_106 ?_
    refine EV.l (lv' := [(0, _), (1, _), (2, _)]) r_X11_wrong_14 rfl ?_
    refine EV.l (lv' := [(0, _), (1, _), (2, _)]) r_X11_wrong_15 rfl ?_
    refine EV.pI r_X11_wrong_16 la_106 ?_
    exact EV.ru r_X11_wrong_19 (⟨mg.bd hk hk3 hp_, ⟨fun o ho => (wr_row ho).trans (wr_row ho), fun j _ a5 a6 => (wr_ne (Or.inr a6)).trans (wr_ne (Or.inr a5))⟩⟩)
  · exact absurd rfl h5
theorem m_wrongB {d : Nat} {I : Nat → Nat → Int32} {J : Nat → Nat → Int64} {n k f : Nat} (mb : MB n k f I) (hn : n ≤ 600) {x y : Int32} (hd : 1 ≤ d) : RU d 174 [.ref 106, .int x, .int y] I J (fun I' => I' = I) := by
  refine RU.in (d0 := 0) hd mt_174 (Nat.le_of_ble_eq_true rfl) (fun d' hd' => ?_)
  have fn := mb.fn
  show EV none M_X11_wrong d' 0 [(0, .ref 106), (1, .int x), (2, .int y)] [] (hp I J) _
  refine EV.l (lv' := [(0, _), (1, _), (2, _)]) r_X11_wrong_0 rfl ?_
  refine EV.getV r_X11_wrong_1 la_106 (mb.fo) ?_
  refine EV.o r_X11_wrong_4 (icZ (-1)) ?_
  refine EV.nz2_eq r_X11_wrong_5 (fun h5 => ?_) (fun h5 => ?_)
  · omega
  · -- 5 f
    exact EV.ru r_X11_wrong_8 (rfl)
theorem m_isD {d : Nat} {I : Nat → Nat → Int32} {J : Nat → Nat → Int64} {x : Nat} (hx : x < 256) (hd : 1 ≤ d) : RV d 177 [.int (nI x)] I J (bI (isD x)) := by
  refine RV.in (d0 := 0) hd mt_177 (Nat.le_of_ble_eq_true rfl) (fun d' hd' => ?_)
  show EV none M_X11_isDigit d' 0 [(0, .int (nI x))] [] (hp I J) _
  refine EV.l (lv' := [(0, _)]) r_X11_isDigit_0 rfl ?_
  refine EV.o r_X11_isDigit_1 (bpN (48) 48) ?_
  refine EV.n2_lt r_X11_isDigit_3 (fun h3 => ?_) (fun h3 => ?_)
  · -- 3 t
    refine EV.o r_X11_isDigit_16 (icN (0) (v := 0)) ?_
    exact EV.rv r_X11_isDigit_17 (by unfold isD; first | rw [decide_eq_true (by omega)]; rfl | rw [decide_eq_false (by omega)]; rfl)
  · -- 3 f
    refine EV.l (lv' := [(0, _)]) r_X11_isDigit_6 rfl ?_
    refine EV.o r_X11_isDigit_7 (bpN (57) 57) ?_
    refine EV.n2_gt r_X11_isDigit_9 (fun h9 => ?_) (fun h9 => ?_)
    · -- 9 t
      refine EV.o r_X11_isDigit_16 (icN (0) (v := 0)) ?_
      exact EV.rv r_X11_isDigit_17 (by unfold isD; first | rw [decide_eq_true (by omega)]; rfl | rw [decide_eq_false (by omega)]; rfl)
    · -- 9 f
      refine EV.o r_X11_isDigit_12 (icN (1) (v := 1)) ?_
      refine EV.g r_X11_isDigit_13 ?_
      exact EV.rv r_X11_isDigit_17 (by unfold isD; first | rw [decide_eq_true (by omega)]; rfl | rw [decide_eq_false (by omega)]; rfl)
theorem m_isL {d : Nat} {I : Nat → Nat → Int32} {J : Nat → Nat → Int64} {x : Nat} (hx : x < 256) (hd : 1 ≤ d) : RV d 176 [.int (nI x)] I J (bI (isL x)) := by
  refine RV.in (d0 := 0) hd mt_176 (Nat.le_of_ble_eq_true rfl) (fun d' hd' => ?_)
  show EV none M_X11_isSmall d' 0 [(0, .int (nI x))] [] (hp I J) _
  refine EV.l (lv' := [(0, _)]) r_X11_isSmall_0 rfl ?_
  refine EV.o r_X11_isSmall_1 (bpN (97) 97) ?_
  refine EV.n2_lt r_X11_isSmall_3 (fun h3 => ?_) (fun h3 => ?_)
  · -- 3 t
    refine EV.o r_X11_isSmall_16 (icN (0) (v := 0)) ?_
    exact EV.rv r_X11_isSmall_17 (by unfold isL; first | rw [decide_eq_true (by omega)]; rfl | rw [decide_eq_false (by omega)]; rfl)
  · -- 3 f
    refine EV.l (lv' := [(0, _)]) r_X11_isSmall_6 rfl ?_
    refine EV.o r_X11_isSmall_7 (bpN (122) 122) ?_
    refine EV.n2_gt r_X11_isSmall_9 (fun h9 => ?_) (fun h9 => ?_)
    · -- 9 t
      refine EV.o r_X11_isSmall_16 (icN (0) (v := 0)) ?_
      exact EV.rv r_X11_isSmall_17 (by unfold isL; first | rw [decide_eq_true (by omega)]; rfl | rw [decide_eq_false (by omega)]; rfl)
    · -- 9 f
      refine EV.o r_X11_isSmall_12 (icN (1) (v := 1)) ?_
      refine EV.g r_X11_isSmall_13 ?_
      exact EV.rv r_X11_isSmall_17 (by unfold isL; first | rw [decide_eq_true (by omega)]; rfl | rw [decide_eq_false (by omega)]; rfl)
theorem m_here {d : Nat} {I : Nat → Nat → Int32} {J : Nat → Nat → Int64} {g : Nat → Nat} {n a : Nat} (tp : ∀ j, j < 600 → I 108 j = nI (g j)) (gb : ∀ j, g j < 256) (hn : n ≤ 600) (en : I 106 3 = nI n) (ha : a ≤ n) (ea : I 106 4 = nI a)  (hd : 1 ≤ d) : RI d 175 [.ref 106] I J (fun v I' => v = nI (cuc g n (scp isB g n a)) ∧ I' 106 4 = nI (scp isB g n a) ∧ MP I I') := by
  refine RI.in (d0 := 0) hd mt_175 (Nat.le_of_ble_eq_true rfl) (fun d' hd' => ?_)
  show EV none M_X11_here d' 0 [(0, .ref 106)] [] (hp I J) _
  have L0 : ∀ y_ : Nat × (Nat → Nat → Int32), (fun y => (y.1 ≤ n ∧ scp isB g n y.1 = scp isB g n a ∧ y.2 106 4 = nI y.1 ∧ MP I y.2) → EV none M_X11_here d' 0 [(0, .ref 106)] [] (hp y.2 J) (QI J (fun v I' => v = nI (cuc g n (scp isB g n a)) ∧ I' 106 4 = nI (scp isB g n a) ∧ MP I I'))) y_ := by
    refine ev_loop (fun y => n - y.1) ?_
    intro ⟨i, I1⟩ ih0 hx0
    try dsimp only at ih0
    try dsimp only at hx0
    try dsimp only
    refine EV.l (lv' := [(0, _)]) r_X11_here_0 rfl ?_
    refine EV.getV r_X11_here_1 la_106 (hx0.2.2.1) ?_
    refine EV.l (lv' := [(0, _)]) r_X11_here_4 rfl ?_
    refine EV.getV r_X11_here_5 la_106 ((hx0.2.2.2.2 3 (by decide)).trans en) ?_
    refine EV.n2_ge r_X11_here_8 (fun h8 => ?_) (fun h8 => ?_)
    · -- 8 t
      have z1 : i = scp isB g n a := scp_fin hx0.2.1 (by first | exact Or.inl (by omega) | exact Or.inr (decide_eq_false (by omega)))
      rw [← z1]
      refine EV.l (lv' := [(0, _)]) r_X11_here_38 rfl ?_
      refine EV.getV r_X11_here_39 la_106 (hx0.2.2.1) ?_
      refine EV.l (lv' := [(0, _)]) r_X11_here_42 rfl ?_
      refine EV.getV r_X11_here_43 la_106 ((hx0.2.2.2.2 3 (by decide)).trans en) ?_
      refine EV.n2_ge r_X11_here_46 (fun h46 => ?_) (fun h46 => ?_)
      · -- 46 t
        refine EV.o r_X11_here_61 (icN (0) (v := 0)) ?_
        exact EV.ri r_X11_here_62 (⟨by unfold cuc; first | (exfalso; omega) | rw [if_pos (by omega)] | rw [if_neg (by omega)], hx0.2.2.1, hx0.2.2.2⟩)
      · -- 46 f
        refine EV.l (lv' := [(0, _)]) r_X11_here_49 rfl ?_
        refine EV.gR r_X11_here_50 la_106 ?_
        refine EV.l (lv' := [(0, _)]) r_X11_here_53 rfl ?_
        refine EV.getV r_X11_here_54 la_106 (hx0.2.2.1) ?_
        refine EV.iaN r_X11_here_57 la_108 ((congrFun (hx0.2.2.2.1 108 (by decide)) _).trans (tp _ (by omega))) ?_
        refine EV.g r_X11_here_58 ?_
        exact EV.ri r_X11_here_62 (⟨by unfold cuc; first | (exfalso; omega) | rw [if_pos (by omega)] | rw [if_neg (by omega)], hx0.2.2.1, hx0.2.2.2⟩)
    · -- 8 f
      refine EV.l (lv' := [(0, _)]) r_X11_here_11 rfl ?_
      refine EV.gR r_X11_here_12 la_106 ?_
      refine EV.l (lv' := [(0, _)]) r_X11_here_15 rfl ?_
      refine EV.getV r_X11_here_16 la_106 (hx0.2.2.1) ?_
      refine EV.iaN r_X11_here_19 la_108 ((congrFun (hx0.2.2.2.1 108 (by decide)) _).trans (tp _ (by omega))) ?_
      have gi := gb i
      refine EV.o r_X11_here_20 (bpN (32) 32) ?_
      refine EV.n2_ne r_X11_here_22 (fun h22 => ?_) (fun h22 => ?_)
      · -- 22 t
        have z1 : i = scp isB g n a := scp_fin hx0.2.1 (by first | exact Or.inl (by omega) | exact Or.inr (decide_eq_false (by omega)))
        rw [← z1]
        refine EV.l (lv' := [(0, _)]) r_X11_here_38 rfl ?_
        refine EV.getV r_X11_here_39 la_106 (hx0.2.2.1) ?_
        refine EV.l (lv' := [(0, _)]) r_X11_here_42 rfl ?_
        refine EV.getV r_X11_here_43 la_106 ((hx0.2.2.2.2 3 (by decide)).trans en) ?_
        refine EV.n2_ge r_X11_here_46 (fun h46 => ?_) (fun h46 => ?_)
        · -- 46 t
          refine EV.o r_X11_here_61 (icN (0) (v := 0)) ?_
          exact EV.ri r_X11_here_62 (⟨by unfold cuc; first | (exfalso; omega) | rw [if_pos (by omega)] | rw [if_neg (by omega)], hx0.2.2.1, hx0.2.2.2⟩)
        · -- 46 f
          refine EV.l (lv' := [(0, _)]) r_X11_here_49 rfl ?_
          refine EV.gR r_X11_here_50 la_106 ?_
          refine EV.l (lv' := [(0, _)]) r_X11_here_53 rfl ?_
          refine EV.getV r_X11_here_54 la_106 (hx0.2.2.1) ?_
          refine EV.iaN r_X11_here_57 la_108 ((congrFun (hx0.2.2.2.1 108 (by decide)) _).trans (tp _ (by omega))) ?_
          refine EV.g r_X11_here_58 ?_
          exact EV.ri r_X11_here_62 (⟨by unfold cuc; first | (exfalso; omega) | rw [if_pos (by omega)] | rw [if_neg (by omega)], hx0.2.2.1, hx0.2.2.2⟩)
      · -- 22 f
        refine EV.l (lv' := [(0, _)]) r_X11_here_25 rfl ?_
        refine EV.o r_X11_here_26 rfl ?_
        refine EV.getV r_X11_here_27 la_106 (hx0.2.2.1) ?_
        refine EV.o r_X11_here_30 (icN (1) (v := 1)) ?_
        refine EV.o r_X11_here_31 iaddN ?_
        refine EV.pIn r_X11_here_32 la_106 (fun I2 e2 => ?_)
        refine EV.g r_X11_here_35 ?_
        refine EV.sub ?_ rfl ?_ (ih0 (i + 1, I2) ?_ ?_)
        · (try dsimp only) <;> (rfl)
        · (try dsimp only) <;> (rfl)
        · (try dsimp only) <;> (omega)
        · (try dsimp only) <;> (subst e2; exact ⟨by omega, scp_up hx0.2.1 (by omega) (decide_eq_true (by omega)), wr_same, hx0.2.2.2.wr⟩)
  have h0 := L0 ((a, I))
  try dsimp only at h0
  refine EV.sub ?_ rfl ?_ (h0 ?_)
  · (try dsimp only) <;> (rfl)
  · (try dsimp only) <;> (rfl)
  · (try dsimp only) <;> (exact ⟨ha, rfl, ea, MP.rf⟩)
theorem m_pass {d : Nat} {I : Nat → Nat → Int32} {J : Nat → Nat → Int64} {g : Nat → Nat} {n a : Nat} (tp : ∀ j, j < 600 → I 108 j = nI (g j)) (gb : ∀ j, g j < 256) (hn : n ≤ 600) (en : I 106 3 = nI n) (ha : a ≤ n) (ea : I 106 4 = nI a)  (hd : 2 ≤ d) : RU d 180 [.ref 106] I J (fun I' => I' 106 4 = nI (scp isL g n a) ∧ MP I I') := by
  refine RU.in (d0 := 1) hd mt_180 (Nat.le_of_ble_eq_true rfl) (fun d' hd' => ?_)
  show EV none M_X11_pass d' 0 [(0, .ref 106)] [] (hp I J) _
  have L0 : ∀ y_ : Nat × (Nat → Nat → Int32), (fun y => (y.1 ≤ n ∧ scp isL g n y.1 = scp isL g n a ∧ y.2 106 4 = nI y.1 ∧ MP I y.2) → EV none M_X11_pass d' 0 [(0, .ref 106)] [] (hp y.2 J) (QU J (fun I' => I' 106 4 = nI (scp isL g n a) ∧ MP I I'))) y_ := by
    refine ev_loop (fun y => n - y.1) ?_
    intro ⟨i, I1⟩ ih0 hx0
    try dsimp only at ih0
    try dsimp only at hx0
    try dsimp only
    refine EV.l (lv' := [(0, _)]) r_X11_pass_0 rfl ?_
    refine EV.getV r_X11_pass_1 la_106 (hx0.2.2.1) ?_
    refine EV.l (lv' := [(0, _)]) r_X11_pass_4 rfl ?_
    refine EV.getV r_X11_pass_5 la_106 ((hx0.2.2.2.2 3 (by decide)).trans en) ?_
    refine EV.n2_ge r_X11_pass_8 (fun h8 => ?_) (fun h8 => ?_)
    · -- 8 t
      have z1 : i = scp isL g n a := scp_fin hx0.2.1 (by first | exact Or.inl (by omega) | exact Or.inr (by assumption))
      rw [← z1]
      exact EV.ru r_X11_pass_39 (⟨hx0.2.2.1, hx0.2.2.2⟩)
    · -- 8 f
      refine EV.l (lv' := [(0, _)]) r_X11_pass_11 rfl ?_
      refine EV.gR r_X11_pass_12 la_106 ?_
      refine EV.l (lv' := [(0, _)]) r_X11_pass_15 rfl ?_
      refine EV.getV r_X11_pass_16 la_106 (hx0.2.2.1) ?_
      refine EV.iaN r_X11_pass_19 la_108 ((congrFun (hx0.2.2.2.1 108 (by decide)) _).trans (tp _ (by omega))) ?_
      refine EV.cv r_X11_pass_20 (aS1 mt_176) (m_isL (gb _) (by omega)) ?_
      refine EV.b0_eq r_X11_pass_23 (fun h23 => ?_) (fun h23 => ?_)
      · -- 23 t
        have z1 : i = scp isL g n a := scp_fin hx0.2.1 (by first | exact Or.inl (by omega) | exact Or.inr (by assumption))
        rw [← z1]
        exact EV.ru r_X11_pass_39 (⟨hx0.2.2.1, hx0.2.2.2⟩)
      · -- 23 f
        refine EV.l (lv' := [(0, _)]) r_X11_pass_26 rfl ?_
        refine EV.o r_X11_pass_27 rfl ?_
        refine EV.getV r_X11_pass_28 la_106 (hx0.2.2.1) ?_
        refine EV.o r_X11_pass_31 (icN (1) (v := 1)) ?_
        refine EV.o r_X11_pass_32 iaddN ?_
        refine EV.pIn r_X11_pass_33 la_106 (fun I2 e2 => ?_)
        refine EV.g r_X11_pass_36 ?_
        refine EV.sub ?_ rfl ?_ (ih0 (i + 1, I2) ?_ ?_)
        · (try dsimp only) <;> (rfl)
        · (try dsimp only) <;> (rfl)
        · (try dsimp only) <;> (omega)
        · (try dsimp only) <;> (subst e2; exact ⟨by omega, scp_up hx0.2.1 (by omega) (by assumption), wr_same, hx0.2.2.2.wr⟩)
  have h0 := L0 ((a, I))
  try dsimp only at h0
  refine EV.sub ?_ rfl ?_ (h0 ?_)
  · (try dsimp only) <;> (rfl)
  · (try dsimp only) <;> (rfl)
  · (try dsimp only) <;> (exact ⟨ha, rfl, ea, MP.rf⟩)
theorem m_more {d : Nat} {I : Nat → Nat → Int32} {J : Nat → Nat → Int64} {g : Nat → Nat} {n s : Nat} (tp : ∀ j, j < 600 → I 108 j = nI (g j)) (gb : ∀ j, g j < 256) (hn : n ≤ 600) (mg : MG g n s I)  (hd : 2 ≤ d) : RI d 183 [.ref 106] I J (fun v I' => v = bI (decide (s < n)) ∧ MG g n s I' ∧ I' 106 4 = nI s ∧ MP I I') := by
  refine RI.in (d0 := 1) hd mt_183 (Nat.le_of_ble_eq_true rfl) (fun d' hd' => ?_)
  obtain ⟨a, pa, pe, ps⟩ := mg.pl
  have sn := mg.sn
  show EV none M_X11_isMore d' 0 [(0, .ref 106)] [] (hp I J) _
  refine EV.l (lv' := [(0, _)]) r_X11_isMore_0 rfl ?_
  refine EV.ci r_X11_isMore_1 (aV0 mt_175 la_106) (m_here tp gb hn mg.en pa pe (by omega)) (fun v I2 h2 => ?_)
  obtain ⟨e, h2⟩ := h2
  subst e
  have m2 : MG g n s I2 := mg.mv h2.2 (scp_le pa) h2.1 ((scp_id pa).trans ps)
  rw [ps]
  refine EV.o r_X11_isMore_4 rfl ?_
  refine EV.l (lv' := [(0, _)]) r_X11_isMore_5 rfl ?_
  refine EV.getV r_X11_isMore_6 la_106 ((h2.1).trans (congrArg nI ps)) ?_
  refine EV.l (lv' := [(0, _)]) r_X11_isMore_9 rfl ?_
  refine EV.getV r_X11_isMore_10 la_106 ((h2.2.2 3 (by decide)).trans mg.en) ?_
  refine EV.n2_ge r_X11_isMore_13 (fun h13 => ?_) (fun h13 => ?_)
  · -- 13 t
    refine EV.o r_X11_isMore_20 (icN (0) (v := 0)) ?_
    exact EV.ri r_X11_isMore_21 (⟨by first | rw [decide_eq_true (by omega)]; rfl | rw [decide_eq_false (by omega)]; rfl, m2, h2.1.trans (congrArg nI ps), h2.2⟩)
  · -- 13 f
    refine EV.o r_X11_isMore_16 (icN (1) (v := 1)) ?_
    refine EV.g r_X11_isMore_17 ?_
    exact EV.ri r_X11_isMore_21 (⟨by first | rw [decide_eq_true (by omega)]; rfl | rw [decide_eq_false (by omega)]; rfl, m2, h2.1.trans (congrArg nI ps), h2.2⟩)
theorem m_signG {d : Nat} {I : Nat → Nat → Int32} {J : Nat → Nat → Int64} {g : Nat → Nat} {n s : Nat} (tp : ∀ j, j < 600 → I 108 j = nI (g j)) (gb : ∀ j, g j < 256) (hn : n ≤ 600) (mg : MG g n s I) {c : Nat} (hc_ : 0 < c) (hc2 : c < 256) (cd : isD c = false) (cl_ : isL c = false) (hd : 3 ≤ d) : RU d 182 [.ref 106, .int (nI c)] I J (fun I' => MD g n (tkS g n c (.inl s)) I' ∧ MO I I') := by
  refine RU.in (d0 := 2) hd mt_182 (Nat.le_of_ble_eq_true rfl) (fun d' hd' => ?_)
  obtain ⟨a, pa, pe, ps⟩ := mg.pl
  have sn := mg.sn
  show EV none M_X11_sign d' 0 [(0, .ref 106), (1, .int (nI c))] [] (hp I J) _
  refine EV.l (lv' := [(0, _), (1, _)]) r_X11_sign_0 rfl ?_
  refine EV.cv r_X11_sign_1 (aV0 mt_173 la_106) (m_fineG mg (by omega)) ?_
  refine EV.n0_eq r_X11_sign_4 (fun h4 => ?_) (fun h4 => ?_)
  · omega
  · -- 4 f
    refine EV.l (lv' := [(0, _), (1, _)]) r_X11_sign_7 rfl ?_
    refine EV.ci r_X11_sign_8 (aV0 mt_175 la_106) (m_here tp gb hn mg.en pa pe (by omega)) (fun v I2 h2 => ?_)
    obtain ⟨e, h2⟩ := h2
    subst e
    have m2 : MG g n s I2 := mg.mv h2.2 (scp_le pa) h2.1 ((scp_id pa).trans ps)
    rw [ps]
    refine EV.l (lv' := [(0, _), (1, _)]) r_X11_sign_11 rfl ?_
    have cb : cuc g n s < 256 := by unfold cuc; split; exact gb s; decide
    refine EV.n2_eq r_X11_sign_12 (fun h12 => ?_) (fun h12 => ?_)
    · -- 12 t
      refine EV.l (lv' := [(0, _), (1, _)]) r_X11_sign_24 rfl ?_
      refine EV.cv r_X11_sign_25 (aV0 mt_173 la_106) (m_fineG m2 (by omega)) ?_
      refine EV.n0_eq r_X11_sign_28 (fun h28 => ?_) (fun h28 => ?_)
      · omega
      · -- 28 f
        refine EV.l (lv' := [(0, _), (1, _)]) r_X11_sign_31 rfl ?_
        refine EV.o r_X11_sign_32 rfl ?_
        refine EV.getV r_X11_sign_33 la_106 ((h2.1).trans (congrArg nI ps)) ?_
        refine EV.o r_X11_sign_36 (icN (1) (v := 1)) ?_
        refine EV.o r_X11_sign_37 iaddN ?_
        refine EV.pIn r_X11_sign_38 la_106 (fun I4 e4 => ?_)
        exact EV.ru r_X11_sign_41 (by first | (have t : tkS g n c (.inl s) = .inr (1, s) := if_neg (fun z => h12 (by unfold cuc; rw [if_pos (kd3_lt z.1)]; exact z.2)); rw [t]; exact ⟨mb, h2.2.mo.tr fr_⟩) | (have z0 : s < n ∧ g s = c := cuc_c h12 hc_; have z3 := kd_3 (g := g) (n := n) (s := s) z0.1 (by rw [z0.2]; exact cd) (by rw [z0.2]; exact cl_); have t : tkS g n c (.inl s) = .inl (nxp g n s) := if_pos ⟨z3.1, z0.2⟩; rw [t]; subst e4; exact ⟨m2.mv MP.rf.wr (by omega : s + 1 ≤ n) wr_same (by unfold nxp; rw [z3.2]), (h2.2.wr).mo⟩))
    · -- 12 f
      refine EV.l (lv' := [(0, _), (1, _)]) r_X11_sign_15 rfl ?_
      refine EV.o r_X11_sign_16 (icN (1) (v := 1)) ?_
      refine EV.l (lv' := [(0, _), (1, _)]) r_X11_sign_17 rfl ?_
      refine EV.getV r_X11_sign_18 la_106 ((h2.1).trans (congrArg nI ps)) ?_
      refine EV.cu r_X11_sign_21 (aV2 mt_174 la_106) (m_wrongG m2 (by decide) (by decide) sn (by omega)) (fun I3 h3 => ?_)
      obtain ⟨mb, fr_⟩ := h3
      refine EV.l (lv' := [(0, _), (1, _)]) r_X11_sign_24 rfl ?_
      refine EV.cv r_X11_sign_25 (aV0 mt_173 la_106) (m_fineB mb hn (by omega)) ?_
      refine EV.n0_eq r_X11_sign_28 (fun h28 => ?_) (fun h28 => ?_)
      · -- 28 t
        exact EV.ru r_X11_sign_41 (by first | (have t : tkS g n c (.inl s) = .inr (1, s) := if_neg (fun z => h12 (by unfold cuc; rw [if_pos (kd3_lt z.1)]; exact z.2)); rw [t]; exact ⟨mb, h2.2.mo.tr fr_⟩) | (have z0 : s < n ∧ g s = c := cuc_c h12 hc_; have z3 := kd_3 (g := g) (n := n) (s := s) z0.1 (by rw [z0.2]; exact cd) (by rw [z0.2]; exact cl_); have t : tkS g n c (.inl s) = .inl (nxp g n s) := if_pos ⟨z3.1, z0.2⟩; rw [t]; subst e4; exact ⟨m2.mv MP.rf.wr (by omega : s + 1 ≤ n) wr_same (by unfold nxp; rw [z3.2]), (h2.2.wr).mo⟩))
      · omega
theorem m_numG {d : Nat} {I : Nat → Nat → Int32} {J : Nat → Nat → Int64} {g : Nat → Nat} {n s : Nat} (tp : ∀ j, j < 600 → I 108 j = nI (g j)) (gb : ∀ j, g j < 256) (hn : n ≤ 600) (mg : MG g n s I) {lo : Nat} {hi : Int} (hl_ : lo ≤ 9999) (hi1 : -1 ≤ hi) (hi2 : hi ≤ 9999) (hd : 3 ≤ d) : RI d 181 [.ref 106, .int (nI lo), .int (zI hi)] I J (fun v I' => MD g n (tkN g n lo hi (.inl s)).2 I' ∧ (∀ s2, (tkN g n lo hi (.inl s)).2 = .inl s2 → v = nI (tkN g n lo hi (.inl s)).1) ∧ MO I I') := by
  refine RI.in (d0 := 2) hd mt_181 (Nat.le_of_ble_eq_true rfl) (fun d' hd' => ?_)
  obtain ⟨a, pa, pe, ps⟩ := mg.pl
  have sn := mg.sn
  have cb : cuc g n s < 256 := by unfold cuc; split; exact gb s; decide
  show EV none M_X11_readNumber d' 0 [(0, .ref 106), (1, .int (nI lo)), (2, .int (zI hi))] [] (hp I J) _
  refine EV.l (lv' := [(0, _), (1, _), (2, _)]) r_X11_readNumber_0 rfl ?_
  refine EV.cv r_X11_readNumber_1 (aV0 mt_173 la_106) (m_fineG mg (by omega)) ?_
  refine EV.n0_ne r_X11_readNumber_4 (fun h4 => ?_) (fun h4 => ?_)
  · -- 4 t
    refine EV.l (lv' := [(0, _), (1, _), (2, _)]) r_X11_readNumber_9 rfl ?_
    refine EV.ci r_X11_readNumber_10 (aV0 mt_175 la_106) (m_here tp gb hn mg.en pa pe (by omega)) (fun v I2 h2 => ?_)
    obtain ⟨e, h2⟩ := h2
    subst e
    have m2 : MG g n s I2 := mg.mv h2.2 (scp_le pa) h2.1 ((scp_id pa).trans ps)
    rw [ps]
    refine EV.l (lv' := [(0, _), (1, _), (2, _), (3, _)]) r_X11_readNumber_13 rfl ?_
    refine EV.l (lv' := [(0, _), (1, _), (2, _), (3, _)]) r_X11_readNumber_14 rfl ?_
    refine EV.getV r_X11_readNumber_15 la_106 ((h2.1).trans (congrArg nI ps)) ?_
    refine EV.l (lv' := [(0, _), (1, _), (2, _), (3, _), (4, _)]) r_X11_readNumber_18 rfl ?_
    refine EV.o r_X11_readNumber_20 (icN (0) (v := 0)) ?_
    refine EV.l (lv' := [(0, _), (1, _), (2, _), (3, _), (4, _), (5, _)]) r_X11_readNumber_21 rfl ?_
    refine EV.l (lv' := [(0, _), (1, _), (2, _), (3, _), (4, _), (5, _)]) r_X11_readNumber_23 rfl ?_
    refine EV.cv r_X11_readNumber_24 (aS1 mt_177) (m_isD cb (by omega)) ?_
    refine EV.b0_ne r_X11_readNumber_27 (fun h27 => ?_) (fun h27 => ?_)
    · -- 27 t
      have L41 : ∀ y_ : Nat × Nat × Nat × (Nat → Nat → Int32), (fun y => (y.1 ≤ n ∧ scp isD g n y.1 = scp isD g n s ∧ nvf g n (n - y.1) y.2.2.1 y.1 = nvl g n s ∧ y.2.1 < 2000000 ∧ (y.2.1 = y.2.2.1 ∨ (10000 ≤ y.2.1 ∧ 10000 ≤ y.2.2.1)) ∧ y.2.2.2 106 4 = nI y.1 ∧ MP I2 y.2.2.2) → EV none M_X11_readNumber d' 41 [(0, .ref 106), (1, .int (nI lo)), (2, .int (zI hi)), (3, .int (nI (cuc g n s))), (4, .int (nI s)), (5, .int (nI y.2.1))] [] (hp y.2.2.2 J) (QI J (fun v I' => MD g n (tkN g n lo hi (.inl s)).2 I' ∧ (∀ s2, (tkN g n lo hi (.inl s)).2 = .inl s2 → v = nI (tkN g n lo hi (.inl s)).1) ∧ MO I I'))) y_ := by
        refine ev_loop (fun y => n - y.1) ?_
        intro ⟨i, c, v, I1⟩ ih41 hx41
        try dsimp only at ih41
        try dsimp only at hx41
        try dsimp only
        refine EV.l (lv' := [(0, _), (1, _), (2, _), (3, _), (4, _), (5, _)]) r_X11_readNumber_41 rfl ?_
        refine EV.getV r_X11_readNumber_42 la_106 (hx41.2.2.2.2.2.1) ?_
        refine EV.l (lv' := [(0, _), (1, _), (2, _), (3, _), (4, _), (5, _)]) r_X11_readNumber_45 rfl ?_
        refine EV.getV r_X11_readNumber_46 la_106 ((hx41.2.2.2.2.2.2.2 3 (by decide)).trans ((h2.2.2 3 (by decide)).trans mg.en)) ?_
        refine EV.n2_ge r_X11_readNumber_49 (fun h49 => ?_) (fun h49 => ?_)
        · -- 49 t
          have z1 : i = scp isD g n s := scp_fin hx41.2.1 (by first | exact Or.inl (by omega) | exact Or.inr (by assumption))
          have z2 : v = nvl g n s := nvf_fin hx41.2.2.1 (by first | exact Or.inl (by omega) | exact Or.inr (by assumption))
          have k1 := cuc_d.mpr h27
          have m3 : MG g n (scp isB g n i) I1 := m2.mv hx41.2.2.2.2.2.2 hx41.1 hx41.2.2.2.2.2.1 rfl
          have cv := hx41.2.2.2.2.1
          refine EV.l (lv' := [(0, _), (1, _), (2, _), (3, _), (4, _), (5, _)]) r_X11_readNumber_114 rfl ?_
          refine EV.l (lv' := [(0, _), (1, _), (2, _), (3, _), (4, _), (5, _)]) r_X11_readNumber_116 rfl ?_
          refine EV.n2_lt r_X11_readNumber_117 (fun h117 => ?_) (fun h117 => ?_)
          · -- 117 t
            refine EV.l (lv' := [(0, _), (1, _), (2, _), (3, _), (4, _), (5, _)]) r_X11_readNumber_126 rfl ?_
            refine EV.o r_X11_readNumber_127 (icN (2) (v := 2)) ?_
            refine EV.l (lv' := [(0, _), (1, _), (2, _), (3, _), (4, _), (5, _)]) r_X11_readNumber_128 rfl ?_
            refine EV.cu r_X11_readNumber_130 (aV2 mt_174 la_106) (m_wrongG m3 (by decide) (by decide) sn (by omega)) (fun I4 h4 => ?_)
            obtain ⟨mb, fr_⟩ := h4
            refine EV.o r_X11_readNumber_133 (icN (0) (v := 0)) ?_
            exact EV.ri r_X11_readNumber_134 (by have t : tkN g n lo hi (.inl s) = (0, .inr (2, s)) := (if_pos k1).trans (if_pos (by omega)); rw [t]; exact ⟨mb, fun s2 z => absurd z (by simp), h2.2.mo.tr (hx41.2.2.2.2.2.2.mo.tr fr_)⟩)
          · -- 117 f
            refine EV.l (lv' := [(0, _), (1, _), (2, _), (3, _), (4, _), (5, _)]) r_X11_readNumber_120 rfl ?_
            refine EV.l (lv' := [(0, _), (1, _), (2, _), (3, _), (4, _), (5, _)]) r_X11_readNumber_122 rfl ?_
            refine EV.nz2_le r_X11_readNumber_123 (fun h123 => ?_) (fun h123 => ?_)
            · -- 123 t
              refine EV.l (lv' := [(0, _), (1, _), (2, _), (3, _), (4, _), (5, _)]) r_X11_readNumber_135 rfl ?_
              exact EV.ri r_X11_readNumber_137 (by have t : tkN g n lo hi (.inl s) = (nvl g n s, .inl (nxp g n s)) := (if_pos k1).trans (if_neg (by omega)); rw [t, show c = nvl g n s by omega]; exact ⟨by unfold nxp; rw [(kd1_lt k1).2, ← z1]; exact m3, fun s2 z => rfl, h2.2.mo.tr hx41.2.2.2.2.2.2.mo⟩)
            · -- 123 f
              refine EV.l (lv' := [(0, _), (1, _), (2, _), (3, _), (4, _), (5, _)]) r_X11_readNumber_126 rfl ?_
              refine EV.o r_X11_readNumber_127 (icN (2) (v := 2)) ?_
              refine EV.l (lv' := [(0, _), (1, _), (2, _), (3, _), (4, _), (5, _)]) r_X11_readNumber_128 rfl ?_
              refine EV.cu r_X11_readNumber_130 (aV2 mt_174 la_106) (m_wrongG m3 (by decide) (by decide) sn (by omega)) (fun I4 h4 => ?_)
              obtain ⟨mb, fr_⟩ := h4
              refine EV.o r_X11_readNumber_133 (icN (0) (v := 0)) ?_
              exact EV.ri r_X11_readNumber_134 (by have t : tkN g n lo hi (.inl s) = (0, .inr (2, s)) := (if_pos k1).trans (if_pos (by omega)); rw [t]; exact ⟨mb, fun s2 z => absurd z (by simp), h2.2.mo.tr (hx41.2.2.2.2.2.2.mo.tr fr_)⟩)
        · -- 49 f
          refine EV.l (lv' := [(0, _), (1, _), (2, _), (3, _), (4, _), (5, _)]) r_X11_readNumber_52 rfl ?_
          refine EV.gR r_X11_readNumber_53 la_106 ?_
          refine EV.l (lv' := [(0, _), (1, _), (2, _), (3, _), (4, _), (5, _)]) r_X11_readNumber_56 rfl ?_
          refine EV.getV r_X11_readNumber_57 la_106 (hx41.2.2.2.2.2.1) ?_
          refine EV.iaN r_X11_readNumber_60 la_108 ((congrFun (hx41.2.2.2.2.2.2.1 108 (by decide)) _).trans ((congrFun (h2.2.1 108 (by decide)) _).trans (tp _ (by omega)))) ?_
          refine EV.cv r_X11_readNumber_61 (aS1 mt_177) (m_isD (gb _) (by omega)) ?_
          refine EV.b0_eq r_X11_readNumber_64 (fun h64 => ?_) (fun h64 => ?_)
          · -- 64 t
            have z1 : i = scp isD g n s := scp_fin hx41.2.1 (by first | exact Or.inl (by omega) | exact Or.inr (by assumption))
            have z2 : v = nvl g n s := nvf_fin hx41.2.2.1 (by first | exact Or.inl (by omega) | exact Or.inr (by assumption))
            have k1 := cuc_d.mpr h27
            have m3 : MG g n (scp isB g n i) I1 := m2.mv hx41.2.2.2.2.2.2 hx41.1 hx41.2.2.2.2.2.1 rfl
            have cv := hx41.2.2.2.2.1
            refine EV.l (lv' := [(0, _), (1, _), (2, _), (3, _), (4, _), (5, _)]) r_X11_readNumber_114 rfl ?_
            refine EV.l (lv' := [(0, _), (1, _), (2, _), (3, _), (4, _), (5, _)]) r_X11_readNumber_116 rfl ?_
            refine EV.n2_lt r_X11_readNumber_117 (fun h117 => ?_) (fun h117 => ?_)
            · -- 117 t
              refine EV.l (lv' := [(0, _), (1, _), (2, _), (3, _), (4, _), (5, _)]) r_X11_readNumber_126 rfl ?_
              refine EV.o r_X11_readNumber_127 (icN (2) (v := 2)) ?_
              refine EV.l (lv' := [(0, _), (1, _), (2, _), (3, _), (4, _), (5, _)]) r_X11_readNumber_128 rfl ?_
              refine EV.cu r_X11_readNumber_130 (aV2 mt_174 la_106) (m_wrongG m3 (by decide) (by decide) sn (by omega)) (fun I4 h4 => ?_)
              obtain ⟨mb, fr_⟩ := h4
              refine EV.o r_X11_readNumber_133 (icN (0) (v := 0)) ?_
              exact EV.ri r_X11_readNumber_134 (by have t : tkN g n lo hi (.inl s) = (0, .inr (2, s)) := (if_pos k1).trans (if_pos (by omega)); rw [t]; exact ⟨mb, fun s2 z => absurd z (by simp), h2.2.mo.tr (hx41.2.2.2.2.2.2.mo.tr fr_)⟩)
            · -- 117 f
              refine EV.l (lv' := [(0, _), (1, _), (2, _), (3, _), (4, _), (5, _)]) r_X11_readNumber_120 rfl ?_
              refine EV.l (lv' := [(0, _), (1, _), (2, _), (3, _), (4, _), (5, _)]) r_X11_readNumber_122 rfl ?_
              refine EV.nz2_le r_X11_readNumber_123 (fun h123 => ?_) (fun h123 => ?_)
              · -- 123 t
                refine EV.l (lv' := [(0, _), (1, _), (2, _), (3, _), (4, _), (5, _)]) r_X11_readNumber_135 rfl ?_
                exact EV.ri r_X11_readNumber_137 (by have t : tkN g n lo hi (.inl s) = (nvl g n s, .inl (nxp g n s)) := (if_pos k1).trans (if_neg (by omega)); rw [t, show c = nvl g n s by omega]; exact ⟨by unfold nxp; rw [(kd1_lt k1).2, ← z1]; exact m3, fun s2 z => rfl, h2.2.mo.tr hx41.2.2.2.2.2.2.mo⟩)
              · -- 123 f
                refine EV.l (lv' := [(0, _), (1, _), (2, _), (3, _), (4, _), (5, _)]) r_X11_readNumber_126 rfl ?_
                refine EV.o r_X11_readNumber_127 (icN (2) (v := 2)) ?_
                refine EV.l (lv' := [(0, _), (1, _), (2, _), (3, _), (4, _), (5, _)]) r_X11_readNumber_128 rfl ?_
                refine EV.cu r_X11_readNumber_130 (aV2 mt_174 la_106) (m_wrongG m3 (by decide) (by decide) sn (by omega)) (fun I4 h4 => ?_)
                obtain ⟨mb, fr_⟩ := h4
                refine EV.o r_X11_readNumber_133 (icN (0) (v := 0)) ?_
                exact EV.ri r_X11_readNumber_134 (by have t : tkN g n lo hi (.inl s) = (0, .inr (2, s)) := (if_pos k1).trans (if_pos (by omega)); rw [t]; exact ⟨mb, fun s2 z => absurd z (by simp), h2.2.mo.tr (hx41.2.2.2.2.2.2.mo.tr fr_)⟩)
          · -- 64 f
            have dd := isD_t h64
            refine EV.l (lv' := [(0, _), (1, _), (2, _), (3, _), (4, _), (5, _)]) r_X11_readNumber_67 rfl ?_
            refine EV.o r_X11_readNumber_69 (spN (9999) 9999) ?_
            refine EV.n2_le r_X11_readNumber_72 (fun h72 => ?_) (fun h72 => ?_)
            · -- 72 t
              refine EV.o r_X11_readNumber_81 (bpN (10) 10) ?_
              refine EV.l (lv' := [(0, _), (1, _), (2, _), (3, _), (4, _), (5, _)]) r_X11_readNumber_83 rfl ?_
              refine EV.o r_X11_readNumber_85 imulN ?_
              refine EV.l (lv' := [(0, _), (1, _), (2, _), (3, _), (4, _), (5, _)]) r_X11_readNumber_86 rfl ?_
              refine EV.gR r_X11_readNumber_87 la_106 ?_
              refine EV.l (lv' := [(0, _), (1, _), (2, _), (3, _), (4, _), (5, _)]) r_X11_readNumber_90 rfl ?_
              refine EV.getV r_X11_readNumber_91 la_106 (hx41.2.2.2.2.2.1) ?_
              refine EV.iaN r_X11_readNumber_94 la_108 ((congrFun (hx41.2.2.2.2.2.2.1 108 (by decide)) _).trans ((congrFun (h2.2.1 108 (by decide)) _).trans (tp _ (by omega)))) ?_
              refine EV.o r_X11_readNumber_95 iaddN ?_
              refine EV.o r_X11_readNumber_96 (bpN (48) 48) ?_
              refine EV.o r_X11_readNumber_98 (isubN) ?_
              refine EV.l (lv' := [(0, _), (1, _), (2, _), (3, _), (4, _), (5, _)]) r_X11_readNumber_99 rfl ?_
              refine EV.l (lv' := [(0, _), (1, _), (2, _), (3, _), (4, _), (5, _)]) r_X11_readNumber_101 rfl ?_
              refine EV.o r_X11_readNumber_102 rfl ?_
              refine EV.getV r_X11_readNumber_103 la_106 (hx41.2.2.2.2.2.1) ?_
              refine EV.o r_X11_readNumber_106 (icN (1) (v := 1)) ?_
              refine EV.o r_X11_readNumber_107 iaddN ?_
              refine EV.pIn r_X11_readNumber_108 la_106 (fun I3 e3 => ?_)
              refine EV.g r_X11_readNumber_111 ?_
              refine EV.sub ?_ rfl ?_ (ih41 (i + 1, 10 * c + g i - 48, 10 * v + (g i - 48), I3) ?_ ?_)
              · (try dsimp only) <;> (rfl)
              · (try dsimp only) <;> (rfl)
              · (try dsimp only) <;> (omega)
              · (try dsimp only) <;> (subst e3; exact ⟨by omega, scp_up hx41.2.1 (by omega) (by assumption), nvf_up hx41.2.2.1 (by omega) (by assumption), by omega, by omega, wr_same, hx41.2.2.2.2.2.2.wr⟩)
            · -- 72 f
              refine EV.o r_X11_readNumber_75 (spN (10000) 10000) ?_
              refine EV.g r_X11_readNumber_78 ?_
              refine EV.l (lv' := [(0, _), (1, _), (2, _), (3, _), (4, _), (5, _)]) r_X11_readNumber_99 rfl ?_
              refine EV.l (lv' := [(0, _), (1, _), (2, _), (3, _), (4, _), (5, _)]) r_X11_readNumber_101 rfl ?_
              refine EV.o r_X11_readNumber_102 rfl ?_
              refine EV.getV r_X11_readNumber_103 la_106 (hx41.2.2.2.2.2.1) ?_
              refine EV.o r_X11_readNumber_106 (icN (1) (v := 1)) ?_
              refine EV.o r_X11_readNumber_107 iaddN ?_
              refine EV.pIn r_X11_readNumber_108 la_106 (fun I3 e3 => ?_)
              refine EV.g r_X11_readNumber_111 ?_
              refine EV.sub ?_ rfl ?_ (ih41 (i + 1, 10000, 10 * v + (g i - 48), I3) ?_ ?_)
              · (try dsimp only) <;> (rfl)
              · (try dsimp only) <;> (rfl)
              · (try dsimp only) <;> (omega)
              · (try dsimp only) <;> (subst e3; exact ⟨by omega, scp_up hx41.2.1 (by omega) (by assumption), nvf_up hx41.2.2.1 (by omega) (by assumption), by omega, by omega, wr_same, hx41.2.2.2.2.2.2.wr⟩)
      have h0 := L41 ((s, 0, 0, I2))
      try dsimp only at h0
      refine EV.sub ?_ rfl ?_ (h0 ?_)
      · (try dsimp only) <;> (rfl)
      · (try dsimp only) <;> (rfl)
      · (try dsimp only) <;> (exact ⟨sn, rfl, rfl, by omega, Or.inl rfl, h2.1.trans (congrArg nI ps), MP.rf⟩)
    · -- 27 f
      refine EV.l (lv' := [(0, _), (1, _), (2, _), (3, _), (4, _), (5, _)]) r_X11_readNumber_30 rfl ?_
      refine EV.o r_X11_readNumber_31 (icN (1) (v := 1)) ?_
      refine EV.l (lv' := [(0, _), (1, _), (2, _), (3, _), (4, _), (5, _)]) r_X11_readNumber_32 rfl ?_
      refine EV.getV r_X11_readNumber_33 la_106 ((h2.1).trans (congrArg nI ps)) ?_
      refine EV.cu r_X11_readNumber_36 (aV2 mt_174 la_106) (m_wrongG m2 (by decide) (by decide) sn (by omega)) (fun I4 h4 => ?_)
      obtain ⟨mb, fr_⟩ := h4
      refine EV.o r_X11_readNumber_39 (icN (0) (v := 0)) ?_
      exact EV.ri r_X11_readNumber_40 (by have t : tkN g n lo hi (.inl s) = (0, .inr (1, s)) := if_neg (fun z => absurd ((cuc_d.mp z).symm.trans h27) (by decide)); rw [t]; exact ⟨mb, fun s2 z => absurd z (by simp), h2.2.mo.tr fr_⟩)
  · omega
theorem m_numB {d : Nat} {I : Nat → Nat → Int32} {J : Nat → Nat → Int64} {n k f : Nat} (mb : MB n k f I) (hn : n ≤ 600) {lo hi : Int32} (hd : 2 ≤ d) : RV d 181 [.ref 106, .int lo, .int hi] I J (nI 0) := by
  refine RV.in (d0 := 1) hd mt_181 (Nat.le_of_ble_eq_true rfl) (fun d' hd' => ?_)
  show EV none M_X11_readNumber d' 0 [(0, .ref 106), (1, .int lo), (2, .int hi)] [] (hp I J) _
  refine EV.l (lv' := [(0, _), (1, _), (2, _)]) r_X11_readNumber_0 rfl ?_
  refine EV.cv r_X11_readNumber_1 (aV0 mt_173 la_106) (m_fineB mb hn (by omega)) ?_
  refine EV.n0_ne r_X11_readNumber_4 (fun h4 => ?_) (fun h4 => ?_)
  · omega
  · -- 4 f
    refine EV.o r_X11_readNumber_7 (icN (0) (v := 0)) ?_
    exact EV.rv r_X11_readNumber_8 (rfl)
theorem m_signB {d : Nat} {I : Nat → Nat → Int32} {J : Nat → Nat → Int64} {n k f : Nat} (mb : MB n k f I) (hn : n ≤ 600) {x : Int32} (hd : 2 ≤ d) : RU d 182 [.ref 106, .int x] I J (fun I' => I' = I) := by
  refine RU.in (d0 := 1) hd mt_182 (Nat.le_of_ble_eq_true rfl) (fun d' hd' => ?_)
  show EV none M_X11_sign d' 0 [(0, .ref 106), (1, .int x)] [] (hp I J) _
  refine EV.l (lv' := [(0, _), (1, _)]) r_X11_sign_0 rfl ?_
  refine EV.cv r_X11_sign_1 (aV0 mt_173 la_106) (m_fineB mb hn (by omega)) ?_
  refine EV.n0_eq r_X11_sign_4 (fun h4 => ?_) (fun h4 => ?_)
  · -- 4 t
    refine EV.l (lv' := [(0, _), (1, _)]) r_X11_sign_24 rfl ?_
    refine EV.cv r_X11_sign_25 (aV0 mt_173 la_106) (m_fineB mb hn (by omega)) ?_
    refine EV.n0_eq r_X11_sign_28 (fun h28 => ?_) (fun h28 => ?_)
    · -- 28 t
      exact EV.ru r_X11_sign_41 (rfl)
    · omega
  · omega
