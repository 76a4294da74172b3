/-! Texts: places, pieces; the class's Reader. -/
def isD (x : Nat) : Bool := decide (48 ≤ x ∧ x ≤ 57)
def isL (x : Nat) : Bool := decide (97 ≤ x ∧ x ≤ 122)
def isB (x : Nat) : Bool := decide (x = 32)
def scn (p : Nat → Bool) (g : Nat → Nat) (n : Nat) : Nat → Nat → Nat
  | 0, i => i
  | f + 1, i => if i < n ∧ p (g i) = true then scn p g n f (i + 1) else i
/-- the first place from i on without p -/
def scp (p : Nat → Bool) (g : Nat → Nat) (n i : Nat) : Nat := scn p g n (n - i) i
theorem scp_go {p : Nat → Bool} {g : Nat → Nat} {n i : Nat} (h : i < n) (h2 : p (g i) = true) : scp p g n i = scp p g n (i + 1) := by
  unfold scp
  rw [show n - i = n - (i + 1) + 1 by omega]
  show (if i < n ∧ p (g i) = true then _ else _) = _
  rw [if_pos ⟨h, h2⟩]
theorem scp_no {p : Nat → Bool} {g : Nat → Nat} {n i : Nat} (h : n ≤ i ∨ p (g i) = false) : scp p g n i = i := by
  unfold scp
  cases e : n - i with
  | zero => rfl
  | succ f =>
    show (if i < n ∧ p (g i) = true then _ else _) = _
    rw [if_neg (fun z => h.elim (fun y => absurd z.1 (by omega)) (fun y => absurd (y.symm.trans z.2) (by decide)))]
theorem scp_all {p : Nat → Bool} {g : Nat → Nat} {n : Nat} : ∀ f i, n - i = f → i ≤ n → i ≤ scp p g n i ∧ scp p g n i ≤ n ∧ (n ≤ scp p g n i ∨ p (g (scp p g n i)) = false)
  | 0, i, h, h2 => by
    rw [scp_no (Or.inl (by omega))]
    exact ⟨Nat.le_refl _, h2, Or.inl (by omega)⟩
  | f + 1, i, h, h2 => by
    by_cases hp : p (g i) = true
    · rw [scp_go (by omega) hp]
      have z := scp_all (p := p) (g := g) (n := n) f (i + 1) (by omega) (by omega)
      exact ⟨by omega, z.2⟩
    · have hp2 : p (g i) = false := by cases e : p (g i) with | true => exact absurd e hp | false => rfl
      rw [scp_no (Or.inr hp2)]
      exact ⟨Nat.le_refl _, h2, Or.inr hp2⟩
theorem scp_ge {p : Nat → Bool} {g : Nat → Nat} {n i : Nat} (h : i ≤ n) : i ≤ scp p g n i := (scp_all _ i rfl h).1
theorem scp_le {p : Nat → Bool} {g : Nat → Nat} {n i : Nat} (h : i ≤ n) : scp p g n i ≤ n := (scp_all _ i rfl h).2.1
theorem scp_at {p : Nat → Bool} {g : Nat → Nat} {n i : Nat} (h : i ≤ n) : n ≤ scp p g n i ∨ p (g (scp p g n i)) = false := (scp_all _ i rfl h).2.2
theorem scp_id {p : Nat → Bool} {g : Nat → Nat} {n i : Nat} (h : i ≤ n) : scp p g n (scp p g n i) = scp p g n i := scp_no (scp_at h)
theorem scp_up {p : Nat → Bool} {g : Nat → Nat} {n i k : Nat} (h : scp p g n i = k) (h1 : i < n) (h2 : p (g i) = true) : scp p g n (i + 1) = k := (scp_go h1 h2).symm.trans h
theorem scp_fin {p : Nat → Bool} {g : Nat → Nat} {n i k : Nat} (h : scp p g n i = k) (hs : n ≤ i ∨ p (g i) = false) : i = k := (scp_no hs).symm.trans h
/-- a number's value -/
def nvf (g : Nat → Nat) (n : Nat) : Nat → Nat → Nat → Nat
  | 0, v, _ => v
  | f + 1, v, i => if i < n ∧ isD (g i) = true then nvf g n f (10 * v + (g i - 48)) (i + 1) else v
def nvl (g : Nat → Nat) (n i : Nat) : Nat := nvf g n (n - i) 0 i
theorem nvf_up {g : Nat → Nat} {n i v k : Nat} (h : nvf g n (n - i) v i = k) (h1 : i < n) (h2 : isD (g i) = true) : nvf g n (n - (i + 1)) (10 * v + (g i - 48)) (i + 1) = k := by
  rw [show n - i = n - (i + 1) + 1 by omega] at h
  refine Eq.trans ?_ h
  show _ = (if i < n ∧ isD (g i) = true then _ else _)
  rw [if_pos ⟨h1, h2⟩]
theorem nvf_fin {g : Nat → Nat} {n i v k : Nat} (h : nvf g n (n - i) v i = k) (hs : n ≤ i ∨ isD (g i) = false) : v = k := by
  refine Eq.trans ?_ h
  cases e : n - i with
  | zero => rfl
  | succ f =>
    show _ = (if i < n ∧ isD (g i) = true then _ else _)
    rw [if_neg (fun z => hs.elim (fun y => absurd z.1 (by omega)) (fun y => absurd (y.symm.trans z.2) (by decide)))]
/-- what stands for a value: itself, or both are far too much -/
def cvr (c v : Nat) : Prop := c < 2000000 ∧ (c = v ∨ (10000 ≤ c ∧ 10000 ≤ v))
theorem isD_t {x : Nat} (h : isD x = true) : 48 ≤ x ∧ x ≤ 57 := of_decide_eq_true h
def kdp (g : Nat → Nat) (n s : Nat) : Nat := if n ≤ s then 0 else if isD (g s) = true then 1 else if isL (g s) = true then 2 else 3
def pep (g : Nat → Nat) (n s : Nat) : Nat := if n ≤ s then s else if isD (g s) = true then scp isD g n s else if isL (g s) = true then scp isL g n s else s + 1
section KD
variable {g : Nat → Nat} {n s : Nat}
theorem kd_0 (h : n ≤ s) : kdp g n s = 0 ∧ pep g n s = s := by unfold kdp pep; rw [if_pos h, if_pos h]; exact ⟨rfl, rfl⟩
theorem kd_1 (h : s < n) (h1 : isD (g s) = true) : kdp g n s = 1 ∧ pep g n s = scp isD g n s := by unfold kdp pep; rw [if_neg (by omega), if_pos h1, if_neg (by omega), if_pos h1]; exact ⟨rfl, rfl⟩
theorem bf_n {b : Bool} (h : b = false) : ¬ b = true := fun z => absurd (h.symm.trans z) (by decide)
theorem kd_2 (h : s < n) (h1 : isD (g s) = false) (h2 : isL (g s) = true) : kdp g n s = 2 ∧ pep g n s = scp isL g n s := by unfold kdp pep; rw [if_neg (by omega), if_neg (bf_n h1), if_pos h2, if_neg (by omega), if_neg (bf_n h1), if_pos h2]; exact ⟨rfl, rfl⟩
theorem kd_3 (h : s < n) (h1 : isD (g s) = false) (h2 : isL (g s) = false) : kdp g n s = 3 ∧ pep g n s = s + 1 := by unfold kdp pep; rw [if_neg (by omega), if_neg (bf_n h1), if_neg (bf_n h2), if_neg (by omega), if_neg (bf_n h1), if_neg (bf_n h2)]; exact ⟨rfl, rfl⟩
theorem pep_le (hs : s ≤ n) : pep g n s ≤ n := by
  unfold pep
  (repeat' split) <;> first | exact scp_le hs | omega
end KD
/-- the Reader looks at the piece at s, with no fault -/
def RCp (g : Nat → Nat) (n s : Nat) (I : Nat → Nat → Int32) : Prop := I 1 4 = nI s ∧ I 1 3 = nI (kdp g n s) ∧ I 1 5 = nI (pep g n s) ∧ (kdp g n s = 1 → ∃ c, cvr c (nvl g n s) ∧ I 1 6 = nI c) ∧ (kdp g n s = 3 → I 1 6 = nI (g s))
/-- only the piece of the Reader is another -/
def RFr (I I' : Nat → Nat → Int32) : Prop := (∀ o, o ≠ 1 → I' o = I o) ∧ ∀ j, j ≠ 3 → j ≠ 4 → j ≠ 5 → j ≠ 6 → I' 1 j = I 1 j
theorem c_tp {d j : Nat} {I : Nat → Nat → Int32} {J : Nat → Nat → Int64} {g : Nat → Nat} (tp : ∀ j, j < 600 → I 3 j = nI (g j)) (hj : j < 600) (hd : 1 ≤ d) : RV d 92 [.ref 2, .int (nI j)] I J (nI (g j)) := by
  rw [← tp j hj]
  exact c_get la_2 la_3 (by decide) (by decide) hj hd
theorem r_X6_advance_0 : RW M_X6_advance 0 (.aload_n 0) 1 0 0 1 := ⟨rfl, rfl⟩
theorem r_X6_advance_1 : RW M_X6_advance 1 (.getfield 37) 3 6 5 4 := ⟨rfl, rfl⟩
theorem r_X6_advance_4 : RW M_X6_advance 4 (.istore_n 1) 1 0 0 5 := ⟨rfl, rfl⟩
theorem r_X6_advance_5 : RW M_X6_advance 5 (.iload_n 1) 1 0 0 6 := ⟨rfl, rfl⟩
theorem r_X6_advance_6 : RW M_X6_advance 6 (.aload_n 0) 1 0 0 7 := ⟨rfl, rfl⟩
theorem r_X6_advance_7 : RW M_X6_advance 7 (.getfield 31) 3 6 2 10 := ⟨rfl, rfl⟩
theorem r_X6_advance_10 : RW M_X6_advance 10 (.if_icmp .ge 22) 3 32 0 13 := ⟨rfl, rfl⟩
theorem r_X6_advance_13 : RW M_X6_advance 13 (.aload_n 0) 1 0 0 14 := ⟨rfl, rfl⟩
theorem r_X6_advance_14 : RW M_X6_advance 14 (.getfield 14) 3 6 0 17 := ⟨rfl, rfl⟩
theorem r_X6_advance_17 : RW M_X6_advance 17 (.iload_n 1) 1 0 0 18 := ⟨rfl, rfl⟩
theorem r_X6_advance_18 : RW M_X6_advance 18 (.invokevirtual 43) 3 92 0 21 := ⟨rfl, rfl⟩
theorem r_X6_advance_21 : RW M_X6_advance 21 (.bipush 32) 2 0 0 23 := ⟨rfl, rfl⟩
theorem r_X6_advance_23 : RW M_X6_advance 23 (.if_icmp .ne 9) 3 32 0 26 := ⟨rfl, rfl⟩
theorem r_X6_advance_26 : RW M_X6_advance 26 (.iinc 1 1) 3 0 0 29 := ⟨rfl, rfl⟩
theorem r_X6_advance_29 : RW M_X6_advance 29 (.goto (-24)) 3 5 0 32 := ⟨rfl, rfl⟩
theorem r_X6_advance_32 : RW M_X6_advance 32 (.aload_n 0) 1 0 0 33 := ⟨rfl, rfl⟩
theorem r_X6_advance_33 : RW M_X6_advance 33 (.iload_n 1) 1 0 0 34 := ⟨rfl, rfl⟩
theorem r_X6_advance_34 : RW M_X6_advance 34 (.putfield 47) 3 6 4 37 := ⟨rfl, rfl⟩
theorem r_X6_advance_37 : RW M_X6_advance 37 (.aload_n 0) 1 0 0 38 := ⟨rfl, rfl⟩
theorem r_X6_advance_38 : RW M_X6_advance 38 (.aload_n 0) 1 0 0 39 := ⟨rfl, rfl⟩
theorem r_X6_advance_39 : RW M_X6_advance 39 (.getfield 14) 3 6 0 42 := ⟨rfl, rfl⟩
theorem r_X6_advance_42 : RW M_X6_advance 42 (.iload_n 1) 1 0 0 43 := ⟨rfl, rfl⟩
theorem r_X6_advance_43 : RW M_X6_advance 43 (.invokevirtual 43) 3 92 0 46 := ⟨rfl, rfl⟩
theorem r_X6_advance_46 : RW M_X6_advance 46 (.putfield 50) 3 6 6 49 := ⟨rfl, rfl⟩
theorem r_X6_advance_49 : RW M_X6_advance 49 (.iload_n 1) 1 0 0 50 := ⟨rfl, rfl⟩
theorem r_X6_advance_50 : RW M_X6_advance 50 (.aload_n 0) 1 0 0 51 := ⟨rfl, rfl⟩
theorem r_X6_advance_51 : RW M_X6_advance 51 (.getfield 31) 3 6 2 54 := ⟨rfl, rfl⟩
theorem r_X6_advance_54 : RW M_X6_advance 54 (.if_icmp .lt 16) 3 70 0 57 := ⟨rfl, rfl⟩
theorem r_X6_advance_57 : RW M_X6_advance 57 (.aload_n 0) 1 0 0 58 := ⟨rfl, rfl⟩
theorem r_X6_advance_58 : RW M_X6_advance 58 (.iconst 0) 1 0 0 59 := ⟨rfl, rfl⟩
theorem r_X6_advance_59 : RW M_X6_advance 59 (.putfield 53) 3 6 3 62 := ⟨rfl, rfl⟩
theorem r_X6_advance_62 : RW M_X6_advance 62 (.aload_n 0) 1 0 0 63 := ⟨rfl, rfl⟩
theorem r_X6_advance_63 : RW M_X6_advance 63 (.iload_n 1) 1 0 0 64 := ⟨rfl, rfl⟩
theorem r_X6_advance_64 : RW M_X6_advance 64 (.putfield 37) 3 6 5 67 := ⟨rfl, rfl⟩
theorem r_X6_advance_67 : RW M_X6_advance 67 (.goto 59) 3 126 0 70 := ⟨rfl, rfl⟩
theorem r_X6_advance_70 : RW M_X6_advance 70 (.aload_n 0) 1 0 0 71 := ⟨rfl, rfl⟩
theorem r_X6_advance_71 : RW M_X6_advance 71 (.getfield 50) 3 6 6 74 := ⟨rfl, rfl⟩
theorem r_X6_advance_74 : RW M_X6_advance 74 (.invokestatic 56) 3 89 0 77 := ⟨rfl, rfl⟩
theorem r_X6_advance_77 : RW M_X6_advance 77 (.ifCond .eq 15) 3 92 0 80 := ⟨rfl, rfl⟩
theorem r_X6_advance_80 : RW M_X6_advance 80 (.aload_n 0) 1 0 0 81 := ⟨rfl, rfl⟩
theorem r_X6_advance_81 : RW M_X6_advance 81 (.iconst 1) 1 0 0 82 := ⟨rfl, rfl⟩
theorem r_X6_advance_82 : RW M_X6_advance 82 (.putfield 53) 3 6 3 85 := ⟨rfl, rfl⟩
theorem r_X6_advance_85 : RW M_X6_advance 85 (.aload_n 0) 1 0 0 86 := ⟨rfl, rfl⟩
theorem r_X6_advance_86 : RW M_X6_advance 86 (.invokevirtual 60) 3 79 0 89 := ⟨rfl, rfl⟩
theorem r_X6_advance_89 : RW M_X6_advance 89 (.goto 37) 3 126 0 92 := ⟨rfl, rfl⟩
theorem r_X6_advance_92 : RW M_X6_advance 92 (.aload_n 0) 1 0 0 93 := ⟨rfl, rfl⟩
theorem r_X6_advance_93 : RW M_X6_advance 93 (.getfield 50) 3 6 6 96 := ⟨rfl, rfl⟩
theorem r_X6_advance_96 : RW M_X6_advance 96 (.invokestatic 63) 3 90 0 99 := ⟨rfl, rfl⟩
theorem r_X6_advance_99 : RW M_X6_advance 99 (.ifCond .eq 15) 3 114 0 102 := ⟨rfl, rfl⟩
theorem r_X6_advance_102 : RW M_X6_advance 102 (.aload_n 0) 1 0 0 103 := ⟨rfl, rfl⟩
theorem r_X6_advance_103 : RW M_X6_advance 103 (.iconst 2) 1 0 0 104 := ⟨rfl, rfl⟩
theorem r_X6_advance_104 : RW M_X6_advance 104 (.putfield 53) 3 6 3 107 := ⟨rfl, rfl⟩
theorem r_X6_advance_107 : RW M_X6_advance 107 (.aload_n 0) 1 0 0 108 := ⟨rfl, rfl⟩
theorem r_X6_advance_108 : RW M_X6_advance 108 (.invokevirtual 66) 3 80 0 111 := ⟨rfl, rfl⟩
theorem r_X6_advance_111 : RW M_X6_advance 111 (.goto 15) 3 126 0 114 := ⟨rfl, rfl⟩
theorem r_X6_advance_114 : RW M_X6_advance 114 (.aload_n 0) 1 0 0 115 := ⟨rfl, rfl⟩
theorem r_X6_advance_115 : RW M_X6_advance 115 (.iconst 3) 1 0 0 116 := ⟨rfl, rfl⟩
theorem r_X6_advance_116 : RW M_X6_advance 116 (.putfield 53) 3 6 3 119 := ⟨rfl, rfl⟩
theorem r_X6_advance_119 : RW M_X6_advance 119 (.aload_n 0) 1 0 0 120 := ⟨rfl, rfl⟩
theorem r_X6_advance_120 : RW M_X6_advance 120 (.iload_n 1) 1 0 0 121 := ⟨rfl, rfl⟩
theorem r_X6_advance_121 : RW M_X6_advance 121 (.iconst 1) 1 0 0 122 := ⟨rfl, rfl⟩
theorem r_X6_advance_122 : RW M_X6_advance 122 (.iadd) 1 0 0 123 := ⟨rfl, rfl⟩
theorem r_X6_advance_123 : RW M_X6_advance 123 (.putfield 37) 3 6 5 126 := ⟨rfl, rfl⟩
theorem r_X6_advance_126 : RW M_X6_advance 126 (.return_) 1 0 0 127 := ⟨rfl, rfl⟩
theorem r_X6_isDigit_0 : RW M_X6_isDigit 0 (.iload_n 0) 1 0 0 1 := ⟨rfl, rfl⟩
theorem r_X6_isDigit_1 : RW M_X6_isDigit 1 (.bipush 48) 2 0 0 3 := ⟨rfl, rfl⟩
theorem r_X6_isDigit_3 : RW M_X6_isDigit 3 (.if_icmp .lt 13) 3 16 0 6 := ⟨rfl, rfl⟩
theorem r_X6_isDigit_6 : RW M_X6_isDigit 6 (.iload_n 0) 1 0 0 7 := ⟨rfl, rfl⟩
theorem r_X6_isDigit_7 : RW M_X6_isDigit 7 (.bipush 57) 2 0 0 9 := ⟨rfl, rfl⟩
theorem r_X6_isDigit_9 : RW M_X6_isDigit 9 (.if_icmp .gt 7) 3 16 0 12 := ⟨rfl, rfl⟩
theorem r_X6_isDigit_12 : RW M_X6_isDigit 12 (.iconst 1) 1 0 0 13 := ⟨rfl, rfl⟩
theorem r_X6_isDigit_13 : RW M_X6_isDigit 13 (.goto 4) 3 17 0 16 := ⟨rfl, rfl⟩
theorem r_X6_isDigit_16 : RW M_X6_isDigit 16 (.iconst 0) 1 0 0 17 := ⟨rfl, rfl⟩
theorem r_X6_isDigit_17 : RW M_X6_isDigit 17 (.ireturn) 1 0 0 18 := ⟨rfl, rfl⟩
theorem r_X6_isLetter_0 : RW M_X6_isLetter 0 (.iload_n 0) 1 0 0 1 := ⟨rfl, rfl⟩
theorem r_X6_isLetter_1 : RW M_X6_isLetter 1 (.bipush 97) 2 0 0 3 := ⟨rfl, rfl⟩
theorem r_X6_isLetter_3 : RW M_X6_isLetter 3 (.if_icmp .lt 13) 3 16 0 6 := ⟨rfl, rfl⟩
theorem r_X6_isLetter_6 : RW M_X6_isLetter 6 (.iload_n 0) 1 0 0 7 := ⟨rfl, rfl⟩
theorem r_X6_isLetter_7 : RW M_X6_isLetter 7 (.bipush 122) 2 0 0 9 := ⟨rfl, rfl⟩
theorem r_X6_isLetter_9 : RW M_X6_isLetter 9 (.if_icmp .gt 7) 3 16 0 12 := ⟨rfl, rfl⟩
theorem r_X6_isLetter_12 : RW M_X6_isLetter 12 (.iconst 1) 1 0 0 13 := ⟨rfl, rfl⟩
theorem r_X6_isLetter_13 : RW M_X6_isLetter 13 (.goto 4) 3 17 0 16 := ⟨rfl, rfl⟩
theorem r_X6_isLetter_16 : RW M_X6_isLetter 16 (.iconst 0) 1 0 0 17 := ⟨rfl, rfl⟩
theorem r_X6_isLetter_17 : RW M_X6_isLetter 17 (.ireturn) 1 0 0 18 := ⟨rfl, rfl⟩
theorem r_X6_takeDigits_0 : RW M_X6_takeDigits 0 (.iconst 0) 1 0 0 1 := ⟨rfl, rfl⟩
theorem r_X6_takeDigits_1 : RW M_X6_takeDigits 1 (.istore_n 1) 1 0 0 2 := ⟨rfl, rfl⟩
theorem r_X6_takeDigits_2 : RW M_X6_takeDigits 2 (.aload_n 0) 1 0 0 3 := ⟨rfl, rfl⟩
theorem r_X6_takeDigits_3 : RW M_X6_takeDigits 3 (.getfield 47) 3 6 4 6 := ⟨rfl, rfl⟩
theorem r_X6_takeDigits_6 : RW M_X6_takeDigits 6 (.istore_n 2) 1 0 0 7 := ⟨rfl, rfl⟩
theorem r_X6_takeDigits_7 : RW M_X6_takeDigits 7 (.iload_n 2) 1 0 0 8 := ⟨rfl, rfl⟩
theorem r_X6_takeDigits_8 : RW M_X6_takeDigits 8 (.aload_n 0) 1 0 0 9 := ⟨rfl, rfl⟩
theorem r_X6_takeDigits_9 : RW M_X6_takeDigits 9 (.getfield 31) 3 6 2 12 := ⟨rfl, rfl⟩
theorem r_X6_takeDigits_12 : RW M_X6_takeDigits 12 (.if_icmp .ge 50) 3 62 0 15 := ⟨rfl, rfl⟩
theorem r_X6_takeDigits_15 : RW M_X6_takeDigits 15 (.aload_n 0) 1 0 0 16 := ⟨rfl, rfl⟩
theorem r_X6_takeDigits_16 : RW M_X6_takeDigits 16 (.getfield 14) 3 6 0 19 := ⟨rfl, rfl⟩
theorem r_X6_takeDigits_19 : RW M_X6_takeDigits 19 (.iload_n 2) 1 0 0 20 := ⟨rfl, rfl⟩
theorem r_X6_takeDigits_20 : RW M_X6_takeDigits 20 (.invokevirtual 43) 3 92 0 23 := ⟨rfl, rfl⟩
theorem r_X6_takeDigits_23 : RW M_X6_takeDigits 23 (.invokestatic 56) 3 89 0 26 := ⟨rfl, rfl⟩
theorem r_X6_takeDigits_26 : RW M_X6_takeDigits 26 (.ifCond .eq 36) 3 62 0 29 := ⟨rfl, rfl⟩
theorem r_X6_takeDigits_29 : RW M_X6_takeDigits 29 (.iload_n 1) 1 0 0 30 := ⟨rfl, rfl⟩
theorem r_X6_takeDigits_30 : RW M_X6_takeDigits 30 (.ldc 69) 2 100000 0 32 := ⟨rfl, rfl⟩
theorem r_X6_takeDigits_32 : RW M_X6_takeDigits 32 (.if_icmp .ge 22) 3 54 0 35 := ⟨rfl, rfl⟩
theorem r_X6_takeDigits_35 : RW M_X6_takeDigits 35 (.iload_n 1) 1 0 0 36 := ⟨rfl, rfl⟩
theorem r_X6_takeDigits_36 : RW M_X6_takeDigits 36 (.bipush 10) 2 0 0 38 := ⟨rfl, rfl⟩
theorem r_X6_takeDigits_38 : RW M_X6_takeDigits 38 (.imul) 1 0 0 39 := ⟨rfl, rfl⟩
theorem r_X6_takeDigits_39 : RW M_X6_takeDigits 39 (.aload_n 0) 1 0 0 40 := ⟨rfl, rfl⟩
theorem r_X6_takeDigits_40 : RW M_X6_takeDigits 40 (.getfield 14) 3 6 0 43 := ⟨rfl, rfl⟩
theorem r_X6_takeDigits_43 : RW M_X6_takeDigits 43 (.iload_n 2) 1 0 0 44 := ⟨rfl, rfl⟩
theorem r_X6_takeDigits_44 : RW M_X6_takeDigits 44 (.invokevirtual 43) 3 92 0 47 := ⟨rfl, rfl⟩
theorem r_X6_takeDigits_47 : RW M_X6_takeDigits 47 (.iadd) 1 0 0 48 := ⟨rfl, rfl⟩
theorem r_X6_takeDigits_48 : RW M_X6_takeDigits 48 (.bipush 48) 2 0 0 50 := ⟨rfl, rfl⟩
theorem r_X6_takeDigits_50 : RW M_X6_takeDigits 50 (.isub) 1 0 0 51 := ⟨rfl, rfl⟩
theorem r_X6_takeDigits_51 : RW M_X6_takeDigits 51 (.goto 4) 3 55 0 54 := ⟨rfl, rfl⟩
theorem r_X6_takeDigits_54 : RW M_X6_takeDigits 54 (.iload_n 1) 1 0 0 55 := ⟨rfl, rfl⟩
theorem r_X6_takeDigits_55 : RW M_X6_takeDigits 55 (.istore_n 1) 1 0 0 56 := ⟨rfl, rfl⟩
theorem r_X6_takeDigits_56 : RW M_X6_takeDigits 56 (.iinc 2 1) 3 0 0 59 := ⟨rfl, rfl⟩
theorem r_X6_takeDigits_59 : RW M_X6_takeDigits 59 (.goto (-52)) 3 7 0 62 := ⟨rfl, rfl⟩
theorem r_X6_takeDigits_62 : RW M_X6_takeDigits 62 (.aload_n 0) 1 0 0 63 := ⟨rfl, rfl⟩
theorem r_X6_takeDigits_63 : RW M_X6_takeDigits 63 (.iload_n 1) 1 0 0 64 := ⟨rfl, rfl⟩
theorem r_X6_takeDigits_64 : RW M_X6_takeDigits 64 (.putfield 50) 3 6 6 67 := ⟨rfl, rfl⟩
theorem r_X6_takeDigits_67 : RW M_X6_takeDigits 67 (.aload_n 0) 1 0 0 68 := ⟨rfl, rfl⟩
theorem r_X6_takeDigits_68 : RW M_X6_takeDigits 68 (.iload_n 2) 1 0 0 69 := ⟨rfl, rfl⟩
theorem r_X6_takeDigits_69 : RW M_X6_takeDigits 69 (.putfield 37) 3 6 5 72 := ⟨rfl, rfl⟩
theorem r_X6_takeDigits_72 : RW M_X6_takeDigits 72 (.return_) 1 0 0 73 := ⟨rfl, rfl⟩
theorem r_X6_takeLetters_0 : RW M_X6_takeLetters 0 (.aload_n 0) 1 0 0 1 := ⟨rfl, rfl⟩
theorem r_X6_takeLetters_1 : RW M_X6_takeLetters 1 (.getfield 47) 3 6 4 4 := ⟨rfl, rfl⟩
theorem r_X6_takeLetters_4 : RW M_X6_takeLetters 4 (.istore_n 1) 1 0 0 5 := ⟨rfl, rfl⟩
theorem r_X6_takeLetters_5 : RW M_X6_takeLetters 5 (.iload_n 1) 1 0 0 6 := ⟨rfl, rfl⟩
theorem r_X6_takeLetters_6 : RW M_X6_takeLetters 6 (.aload_n 0) 1 0 0 7 := ⟨rfl, rfl⟩
theorem r_X6_takeLetters_7 : RW M_X6_takeLetters 7 (.getfield 31) 3 6 2 10 := ⟨rfl, rfl⟩
theorem r_X6_takeLetters_10 : RW M_X6_takeLetters 10 (.if_icmp .ge 23) 3 33 0 13 := ⟨rfl, rfl⟩
theorem r_X6_takeLetters_13 : RW M_X6_takeLetters 13 (.aload_n 0) 1 0 0 14 := ⟨rfl, rfl⟩
theorem r_X6_takeLetters_14 : RW M_X6_takeLetters 14 (.getfield 14) 3 6 0 17 := ⟨rfl, rfl⟩
theorem r_X6_takeLetters_17 : RW M_X6_takeLetters 17 (.iload_n 1) 1 0 0 18 := ⟨rfl, rfl⟩
theorem r_X6_takeLetters_18 : RW M_X6_takeLetters 18 (.invokevirtual 43) 3 92 0 21 := ⟨rfl, rfl⟩
theorem r_X6_takeLetters_21 : RW M_X6_takeLetters 21 (.invokestatic 63) 3 90 0 24 := ⟨rfl, rfl⟩
theorem r_X6_takeLetters_24 : RW M_X6_takeLetters 24 (.ifCond .eq 9) 3 33 0 27 := ⟨rfl, rfl⟩
theorem r_X6_takeLetters_27 : RW M_X6_takeLetters 27 (.iinc 1 1) 3 0 0 30 := ⟨rfl, rfl⟩
theorem r_X6_takeLetters_30 : RW M_X6_takeLetters 30 (.goto (-25)) 3 5 0 33 := ⟨rfl, rfl⟩
theorem r_X6_takeLetters_33 : RW M_X6_takeLetters 33 (.aload_n 0) 1 0 0 34 := ⟨rfl, rfl⟩
theorem r_X6_takeLetters_34 : RW M_X6_takeLetters 34 (.iload_n 1) 1 0 0 35 := ⟨rfl, rfl⟩
theorem r_X6_takeLetters_35 : RW M_X6_takeLetters 35 (.putfield 37) 3 6 5 38 := ⟨rfl, rfl⟩
theorem r_X6_takeLetters_38 : RW M_X6_takeLetters 38 (.return_) 1 0 0 39 := ⟨rfl, rfl⟩
theorem r_X7_get_22 : RW M_X7_get 22 (.iconst 0) 1 0 0 23 := ⟨rfl, rfl⟩
theorem c_tp0 {d : Nat} {I : Nat → Nat → Int32} {J : Nat → Nat → Int64} {j : Nat} (hj : 600 ≤ j) (hj2 : j < 2147483648) (hd : 1 ≤ d) : RV d 92 [.ref 2, .int (nI j)] I J (nI 0) := by
  refine RV.in (d0 := 0) hd mt_92 (Nat.le_of_ble_eq_true rfl) (fun d' hd' => ?_)
  show EV none M_X7_get d' 0 [(0, .ref 2), (1, .int (nI j))] [] (hp I J) _
  refine EV.l (lv' := [(0, _), (1, _)]) r_X7_get_0 rfl ?_
  refine EV.n0_lt r_X7_get_1 (fun h1 => ?_) (fun h1 => ?_)
  · -- 1 t
    refine EV.o r_X7_get_22 (icN (0) (v := 0)) ?_
    exact EV.rv r_X7_get_23 (rfl)
  · -- 1 f
    refine EV.l (lv' := [(0, _), (1, _)]) r_X7_get_4 rfl ?_
    refine EV.l (lv' := [(0, _), (1, _)]) r_X7_get_5 rfl ?_
    refine EV.gR r_X7_get_6 la_2 ?_
    refine EV.al r_X7_get_9 la_3 ?_ (by decide)
    refine EV.n2_ge r_X7_get_10 (fun h10 => ?_) (fun h10 => ?_)
    · -- 10 t
      refine EV.o r_X7_get_22 (icN (0) (v := 0)) ?_
      exact EV.rv r_X7_get_23 (rfl)
    · omega
theorem c_tpz {d j : Nat} {I : Nat → Nat → Int32} {J : Nat → Nat → Int64} {g : Nat → Nat} (tp : ∀ j, j < 600 → I 3 j = nI (g j)) (hj : j < 2147483648) (hd : 1 ≤ d) : RV d 92 [.ref 2, .int (nI j)] I J (nI (if j < 600 then g j else 0)) := by
  by_cases h : j < 600
  · rw [if_pos h]; exact c_tp tp h hd
  · rw [if_neg h]; exact c_tp0 (by omega) hj hd
theorem c_isD {d : Nat} {I : Nat → Nat → Int32} {J : Nat → Nat → Int64} {x : Nat} (hx : x < 256) (hd : 1 ≤ d) : RV d 89 [.int (nI x)] I J (bI (isD x)) := by
  refine RV.in (d0 := 0) hd mt_89 (Nat.le_of_ble_eq_true rfl) (fun d' hd' => ?_)
  show EV none M_X6_isDigit d' 0 [(0, .int (nI x))] [] (hp I J) _
  refine EV.l (lv' := [(0, _)]) r_X6_isDigit_0 rfl ?_
  refine EV.o r_X6_isDigit_1 (bpN (48) 48) ?_
  refine EV.n2_lt r_X6_isDigit_3 (fun h3 => ?_) (fun h3 => ?_)
  · -- 3 t
    refine EV.o r_X6_isDigit_16 (icN (0) (v := 0)) ?_
    exact EV.rv r_X6_isDigit_17 (by unfold isD; first | rw [decide_eq_true (by omega)]; rfl | rw [decide_eq_false (by omega)]; rfl)
  · -- 3 f
    refine EV.l (lv' := [(0, _)]) r_X6_isDigit_6 rfl ?_
    refine EV.o r_X6_isDigit_7 (bpN (57) 57) ?_
    refine EV.n2_gt r_X6_isDigit_9 (fun h9 => ?_) (fun h9 => ?_)
    · -- 9 t
      refine EV.o r_X6_isDigit_16 (icN (0) (v := 0)) ?_
      exact EV.rv r_X6_isDigit_17 (by unfold isD; first | rw [decide_eq_true (by omega)]; rfl | rw [decide_eq_false (by omega)]; rfl)
    · -- 9 f
      refine EV.o r_X6_isDigit_12 (icN (1) (v := 1)) ?_
      refine EV.g r_X6_isDigit_13 ?_
      exact EV.rv r_X6_isDigit_17 (by unfold isD; first | rw [decide_eq_true (by omega)]; rfl | rw [decide_eq_false (by omega)]; rfl)
theorem c_isL {d : Nat} {I : Nat → Nat → Int32} {J : Nat → Nat → Int64} {x : Nat} (hx : x < 256) (hd : 1 ≤ d) : RV d 90 [.int (nI x)] I J (bI (isL x)) := by
  refine RV.in (d0 := 0) hd mt_90 (Nat.le_of_ble_eq_true rfl) (fun d' hd' => ?_)
  show EV none M_X6_isLetter d' 0 [(0, .int (nI x))] [] (hp I J) _
  refine EV.l (lv' := [(0, _)]) r_X6_isLetter_0 rfl ?_
  refine EV.o r_X6_isLetter_1 (bpN (97) 97) ?_
  refine EV.n2_lt r_X6_isLetter_3 (fun h3 => ?_) (fun h3 => ?_)
  · -- 3 t
    refine EV.o r_X6_isLetter_16 (icN (0) (v := 0)) ?_
    exact EV.rv r_X6_isLetter_17 (by unfold isL; first | rw [decide_eq_true (by omega)]; rfl | rw [decide_eq_false (by omega)]; rfl)
  · -- 3 f
    refine EV.l (lv' := [(0, _)]) r_X6_isLetter_6 rfl ?_
    refine EV.o r_X6_isLetter_7 (bpN (122) 122) ?_
    refine EV.n2_gt r_X6_isLetter_9 (fun h9 => ?_) (fun h9 => ?_)
    · -- 9 t
      refine EV.o r_X6_isLetter_16 (icN (0) (v := 0)) ?_
      exact EV.rv r_X6_isLetter_17 (by unfold isL; first | rw [decide_eq_true (by omega)]; rfl | rw [decide_eq_false (by omega)]; rfl)
    · -- 9 f
      refine EV.o r_X6_isLetter_12 (icN (1) (v := 1)) ?_
      refine EV.g r_X6_isLetter_13 ?_
      exact EV.rv r_X6_isLetter_17 (by unfold isL; first | rw [decide_eq_true (by omega)]; rfl | rw [decide_eq_false (by omega)]; rfl)
theorem c_digits {d : Nat} {I : Nat → Nat → Int32} {J : Nat → Nat → Int64} {g : Nat → Nat} {n : Nat} (tp : ∀ j, j < 600 → I 3 j = nI (g j)) (gb : ∀ j, g j < 256) (e2 : I 1 2 = nI n) (hn : n ≤ 600) {s : Nat} (e4 : I 1 4 = nI s) (hs : s ≤ n) (hd : 2 ≤ d) : RU d 79 [.ref 1] I J (fun I' => ∃ c, cvr c (nvl g n s) ∧ I' = wr (wr I 1 6 (nI c)) 1 5 (nI (scp isD g n s))) := by
  refine RU.in (d0 := 1) hd mt_79 (Nat.le_of_ble_eq_true rfl) (fun d' hd' => ?_)
  show EV none M_X6_takeDigits d' 0 [(0, .ref 1)] [] (hp I J) _
  refine EV.o r_X6_takeDigits_0 (icN (0) (v := 0)) ?_
  refine EV.l (lv' := [(0, _), (1, _)]) r_X6_takeDigits_1 rfl ?_
  refine EV.l (lv' := [(0, _), (1, _)]) r_X6_takeDigits_2 rfl ?_
  refine EV.getV r_X6_takeDigits_3 la_1 (e4) ?_
  refine EV.l (lv' := [(0, _), (1, _), (2, _)]) r_X6_takeDigits_6 rfl ?_
  have L7 : ∀ y_ : Nat × Nat × Nat, (fun y => (y.1 ≤ n ∧ scp isD g n y.1 = scp isD g n s ∧ nvf g n (n - y.1) y.2.2 y.1 = nvl g n s ∧ y.2.1 < 2000000 ∧ (y.2.1 = y.2.2 ∨ (10000 ≤ y.2.1 ∧ 10000 ≤ y.2.2))) → EV none M_X6_takeDigits d' 7 [(0, .ref 1), (1, .int (nI y.2.1)), (2, .int (nI y.1))] [] (hp I J) (QU J (fun I' => ∃ c, cvr c (nvl g n s) ∧ I' = wr (wr I 1 6 (nI c)) 1 5 (nI (scp isD g n s))))) y_ := by
    refine ev_loop (fun y => n - y.1) ?_
    intro ⟨i, c, v⟩ ih7 hx7
    try dsimp only at ih7
    try dsimp only at hx7
    try dsimp only
    refine EV.l (lv' := [(0, _), (1, _), (2, _)]) r_X6_takeDigits_7 rfl ?_
    refine EV.l (lv' := [(0, _), (1, _), (2, _)]) r_X6_takeDigits_8 rfl ?_
    refine EV.getV r_X6_takeDigits_9 la_1 (e2) ?_
    refine EV.n2_ge r_X6_takeDigits_12 (fun h12 => ?_) (fun h12 => ?_)
    · -- 12 t
      have z1 : i = scp isD g n s := scp_fin hx7.2.1 (by first | exact Or.inl (by omega) | exact Or.inr (by assumption))
      have z2 : v = nvl g n s := nvf_fin hx7.2.2.1 (by first | exact Or.inl (by omega) | exact Or.inr (by assumption))
      refine EV.l (lv' := [(0, _), (1, _), (2, _)]) r_X6_takeDigits_62 rfl ?_
      refine EV.l (lv' := [(0, _), (1, _), (2, _)]) r_X6_takeDigits_63 rfl ?_
      refine EV.pI r_X6_takeDigits_64 la_1 ?_
      refine EV.l (lv' := [(0, _), (1, _), (2, _)]) r_X6_takeDigits_67 rfl ?_
      refine EV.l (lv' := [(0, _), (1, _), (2, _)]) r_X6_takeDigits_68 rfl ?_
      refine EV.pI r_X6_takeDigits_69 la_1 ?_
      exact EV.ru r_X6_takeDigits_72 (⟨c, ⟨by omega, by rw [← z2]; exact hx7.2.2.2.2⟩, by rw [← z1]⟩)
    · -- 12 f
      refine EV.l (lv' := [(0, _), (1, _), (2, _)]) r_X6_takeDigits_15 rfl ?_
      refine EV.gR r_X6_takeDigits_16 la_1 ?_
      refine EV.l (lv' := [(0, _), (1, _), (2, _)]) r_X6_takeDigits_19 rfl ?_
      refine EV.cv r_X6_takeDigits_20 (aV1 mt_92 la_2) (c_tp tp (by omega) (by omega)) ?_
      refine EV.cv r_X6_takeDigits_23 (aS1 mt_89) (c_isD (gb _) (by omega)) ?_
      refine EV.b0_eq r_X6_takeDigits_26 (fun h26 => ?_) (fun h26 => ?_)
      · -- 26 t
        have z1 : i = scp isD g n s := scp_fin hx7.2.1 (by first | exact Or.inl (by omega) | exact Or.inr (by assumption))
        have z2 : v = nvl g n s := nvf_fin hx7.2.2.1 (by first | exact Or.inl (by omega) | exact Or.inr (by assumption))
        refine EV.l (lv' := [(0, _), (1, _), (2, _)]) r_X6_takeDigits_62 rfl ?_
        refine EV.l (lv' := [(0, _), (1, _), (2, _)]) r_X6_takeDigits_63 rfl ?_
        refine EV.pI r_X6_takeDigits_64 la_1 ?_
        refine EV.l (lv' := [(0, _), (1, _), (2, _)]) r_X6_takeDigits_67 rfl ?_
        refine EV.l (lv' := [(0, _), (1, _), (2, _)]) r_X6_takeDigits_68 rfl ?_
        refine EV.pI r_X6_takeDigits_69 la_1 ?_
        exact EV.ru r_X6_takeDigits_72 (⟨c, ⟨by omega, by rw [← z2]; exact hx7.2.2.2.2⟩, by rw [← z1]⟩)
      · -- 26 f
        have dd := isD_t h26
        refine EV.l (lv' := [(0, _), (1, _), (2, _)]) r_X6_takeDigits_29 rfl ?_
        refine EV.lcN r_X6_takeDigits_30 ?_
        refine EV.n2_ge r_X6_takeDigits_32 (fun h32 => ?_) (fun h32 => ?_)
        · -- 32 t
          refine EV.l (lv' := [(0, _), (1, _), (2, _)]) r_X6_takeDigits_54 rfl ?_
          refine EV.l (lv' := [(0, _), (1, _), (2, _)]) r_X6_takeDigits_55 rfl ?_
          refine EV.l (lv' := [(0, _), (1, _), (2, _)]) r_X6_takeDigits_56 rfl ?_
          rw [inc_nI]
          refine EV.g r_X6_takeDigits_59 ?_
          refine EV.sub ?_ rfl ?_ (ih7 (i + 1, c, 10 * v + (g i - 48)) ?_ ?_)
          · (try dsimp only) <;> (rfl)
          · (try dsimp only) <;> (rfl)
          · (try dsimp only) <;> (omega)
          · (try dsimp only) <;> (exact ⟨by omega, scp_up hx7.2.1 (by omega) (by assumption), nvf_up hx7.2.2.1 (by omega) (by assumption), by omega, by omega⟩)
        · -- 32 f
          refine EV.l (lv' := [(0, _), (1, _), (2, _)]) r_X6_takeDigits_35 rfl ?_
          refine EV.o r_X6_takeDigits_36 (bpN (10) 10) ?_
          refine EV.o r_X6_takeDigits_38 imulN ?_
          refine EV.l (lv' := [(0, _), (1, _), (2, _)]) r_X6_takeDigits_39 rfl ?_
          refine EV.gR r_X6_takeDigits_40 la_1 ?_
          refine EV.l (lv' := [(0, _), (1, _), (2, _)]) r_X6_takeDigits_43 rfl ?_
          refine EV.cv r_X6_takeDigits_44 (aV1 mt_92 la_2) (c_tp tp (by omega) (by omega)) ?_
          refine EV.o r_X6_takeDigits_47 iaddN ?_
          refine EV.o r_X6_takeDigits_48 (bpN (48) 48) ?_
          refine EV.o r_X6_takeDigits_50 (isubN) ?_
          refine EV.g r_X6_takeDigits_51 ?_
          refine EV.l (lv' := [(0, _), (1, _), (2, _)]) r_X6_takeDigits_55 rfl ?_
          refine EV.l (lv' := [(0, _), (1, _), (2, _)]) r_X6_takeDigits_56 rfl ?_
          rw [inc_nI]
          refine EV.g r_X6_takeDigits_59 ?_
          refine EV.sub ?_ rfl ?_ (ih7 (i + 1, c * 10 + g i - 48, 10 * v + (g i - 48)) ?_ ?_)
          · (try dsimp only) <;> (rfl)
          · (try dsimp only) <;> (rfl)
          · (try dsimp only) <;> (omega)
          · (try dsimp only) <;> (exact ⟨by omega, scp_up hx7.2.1 (by omega) (by assumption), nvf_up hx7.2.2.1 (by omega) (by assumption), by omega, by omega⟩)
  have h0 := L7 ((s, 0, 0))
  try dsimp only at h0
  refine EV.sub ?_ rfl ?_ (h0 ?_)
  · (try dsimp only) <;> (rfl)
  · (try dsimp only) <;> (rfl)
  · (try dsimp only) <;> (exact ⟨hs, rfl, rfl, by omega, Or.inl rfl⟩)
theorem c_letters {d : Nat} {I : Nat → Nat → Int32} {J : Nat → Nat → Int64} {g : Nat → Nat} {n : Nat} (tp : ∀ j, j < 600 → I 3 j = nI (g j)) (gb : ∀ j, g j < 256) (e2 : I 1 2 = nI n) (hn : n ≤ 600) {s : Nat} (e4 : I 1 4 = nI s) (hs : s ≤ n) (hd : 2 ≤ d) : RU d 80 [.ref 1] I J (fun I' => I' = wr I 1 5 (nI (scp isL g n s))) := by
  refine RU.in (d0 := 1) hd mt_80 (Nat.le_of_ble_eq_true rfl) (fun d' hd' => ?_)
  show EV none M_X6_takeLetters d' 0 [(0, .ref 1)] [] (hp I J) _
  refine EV.l (lv' := [(0, _)]) r_X6_takeLetters_0 rfl ?_
  refine EV.getV r_X6_takeLetters_1 la_1 (e4) ?_
  refine EV.l (lv' := [(0, _), (1, _)]) r_X6_takeLetters_4 rfl ?_
  have L5 : ∀ y_ : Nat, (fun i => (i ≤ n ∧ scp isL g n i = scp isL g n s) → EV none M_X6_takeLetters d' 5 [(0, .ref 1), (1, .int (nI i))] [] (hp I J) (QU J (fun I' => I' = wr I 1 5 (nI (scp isL g n s))))) y_ := by
    refine ev_loop (fun i => n - i) ?_
    intro i ih5 hx5
    try dsimp only at ih5
    try dsimp only at hx5
    try dsimp only
    refine EV.l (lv' := [(0, _), (1, _)]) r_X6_takeLetters_5 rfl ?_
    refine EV.l (lv' := [(0, _), (1, _)]) r_X6_takeLetters_6 rfl ?_
    refine EV.getV r_X6_takeLetters_7 la_1 (e2) ?_
    refine EV.n2_ge r_X6_takeLetters_10 (fun h10 => ?_) (fun h10 => ?_)
    · -- 10 t
      have z1 : i = scp isL g n s := scp_fin hx5.2 (by first | exact Or.inl (by omega) | exact Or.inr (by assumption))
      refine EV.l (lv' := [(0, _), (1, _)]) r_X6_takeLetters_33 rfl ?_
      refine EV.l (lv' := [(0, _), (1, _)]) r_X6_takeLetters_34 rfl ?_
      refine EV.pI r_X6_takeLetters_35 la_1 ?_
      exact EV.ru r_X6_takeLetters_38 (by rw [← z1])
    · -- 10 f
      refine EV.l (lv' := [(0, _), (1, _)]) r_X6_takeLetters_13 rfl ?_
      refine EV.gR r_X6_takeLetters_14 la_1 ?_
      refine EV.l (lv' := [(0, _), (1, _)]) r_X6_takeLetters_17 rfl ?_
      refine EV.cv r_X6_takeLetters_18 (aV1 mt_92 la_2) (c_tp tp (by omega) (by omega)) ?_
      refine EV.cv r_X6_takeLetters_21 (aS1 mt_90) (c_isL (gb _) (by omega)) ?_
      refine EV.b0_eq r_X6_takeLetters_24 (fun h24 => ?_) (fun h24 => ?_)
      · -- 24 t
        have z1 : i = scp isL g n s := scp_fin hx5.2 (by first | exact Or.inl (by omega) | exact Or.inr (by assumption))
        refine EV.l (lv' := [(0, _), (1, _)]) r_X6_takeLetters_33 rfl ?_
        refine EV.l (lv' := [(0, _), (1, _)]) r_X6_takeLetters_34 rfl ?_
        refine EV.pI r_X6_takeLetters_35 la_1 ?_
        exact EV.ru r_X6_takeLetters_38 (by rw [← z1])
      · -- 24 f
        refine EV.l (lv' := [(0, _), (1, _)]) r_X6_takeLetters_27 rfl ?_
        rw [inc_nI]
        refine EV.g r_X6_takeLetters_30 ?_
        refine EV.sub ?_ rfl ?_ (ih5 (i + 1) ?_ ?_)
        · rfl
        · rfl
        · omega
        · exact ⟨by omega, scp_up hx5.2 (by omega) (by assumption)⟩
  have h0 := L5 (s)
  try dsimp only at h0
  refine EV.sub ?_ rfl ?_ (h0 ?_)
  · rfl
  · rfl
  · exact ⟨hs, rfl⟩
theorem c_advance {d : Nat} {I : Nat → Nat → Int32} {J : Nat → Nat → Int64} {g : Nat → Nat} {n : Nat} (tp : ∀ j, j < 600 → I 3 j = nI (g j)) (gb : ∀ j, g j < 256) (e2 : I 1 2 = nI n) (hn : n ≤ 600) {p : Nat} (e5 : I 1 5 = nI p) (hpn : p ≤ n) (hd : 3 ≤ d) : RU d 78 [.ref 1] I J (fun I' => RCp g n (scp isB g n p) I' ∧ RFr I I') := by
  refine RU.in (d0 := 2) hd mt_78 (Nat.le_of_ble_eq_true rfl) (fun d' hd' => ?_)
  show EV none M_X6_advance d' 0 [(0, .ref 1)] [] (hp I J) _
  refine EV.l (lv' := [(0, _)]) r_X6_advance_0 rfl ?_
  refine EV.getV r_X6_advance_1 la_1 (e5) ?_
  refine EV.l (lv' := [(0, _), (1, _)]) r_X6_advance_4 rfl ?_
  have L5 : ∀ y_ : Nat, (fun i => (i ≤ n ∧ scp isB g n i = scp isB g n p) → EV none M_X6_advance d' 5 [(0, .ref 1), (1, .int (nI i))] [] (hp I J) (QU J (fun I' => RCp g n (scp isB g n p) I' ∧ RFr I I'))) y_ := by
    refine ev_loop (fun i => n - i) ?_
    intro i ih5 hx5
    try dsimp only at ih5
    try dsimp only at hx5
    try dsimp only
    refine EV.l (lv' := [(0, _), (1, _)]) r_X6_advance_5 rfl ?_
    refine EV.l (lv' := [(0, _), (1, _)]) r_X6_advance_6 rfl ?_
    refine EV.getV r_X6_advance_7 la_1 (e2) ?_
    refine EV.n2_ge r_X6_advance_10 (fun h10 => ?_) (fun h10 => ?_)
    · -- 10 t
      have z1 : i = scp isB g n p := scp_fin hx5.2 (by first | exact Or.inl (by omega) | exact Or.inr (decide_eq_false (by omega)))
      have ib := hx5.1
      refine EV.l (lv' := [(0, _), (1, _)]) r_X6_advance_32 rfl ?_
      refine EV.l (lv' := [(0, _), (1, _)]) r_X6_advance_33 rfl ?_
      refine EV.pIn r_X6_advance_34 la_1 (fun I4 e4 => ?_)
      have tp4 : ∀ j, j < 600 → I4 3 j = nI (g j) := fun j hj => by subst e4; exact tp j hj
      refine EV.l (lv' := [(0, _), (1, _)]) r_X6_advance_37 rfl ?_
      refine EV.l (lv' := [(0, _), (1, _)]) r_X6_advance_38 rfl ?_
      refine EV.gR r_X6_advance_39 la_1 ?_
      refine EV.l (lv' := [(0, _), (1, _)]) r_X6_advance_42 rfl ?_
      refine EV.cv r_X6_advance_43 (aV1 mt_92 la_2) (c_tpz tp4 (by omega) (by omega)) ?_
      refine EV.pIn r_X6_advance_46 la_1 (fun I6 e6 => ?_)
      refine EV.l (lv' := [(0, _), (1, _)]) r_X6_advance_49 rfl ?_
      refine EV.l (lv' := [(0, _), (1, _)]) r_X6_advance_50 rfl ?_
      refine EV.getV r_X6_advance_51 la_1 ((congrFun (congrFun e6 1) 2).trans ((congrFun (congrFun e4 1) 2).trans e2)) ?_
      refine EV.n2_lt r_X6_advance_54 (fun h54 => ?_) (fun h54 => ?_)
      · -- 54 t
        rw [if_pos (show i < 600 by omega)] at e6
        refine EV.l (lv' := [(0, _), (1, _)]) r_X6_advance_70 rfl ?_
        refine EV.getV r_X6_advance_71 la_1 ((congrFun (congrFun e6 1) 6).trans wr_same) ?_
        refine EV.cv r_X6_advance_74 (aS1 mt_89) (c_isD (gb _) (by omega)) ?_
        refine EV.b0_eq r_X6_advance_77 (fun h77 => ?_) (fun h77 => ?_)
        · -- 77 t
          refine EV.l (lv' := [(0, _), (1, _)]) r_X6_advance_92 rfl ?_
          refine EV.getV r_X6_advance_93 la_1 ((congrFun (congrFun e6 1) 6).trans wr_same) ?_
          refine EV.cv r_X6_advance_96 (aS1 mt_90) (c_isL (gb _) (by omega)) ?_
          refine EV.b0_eq r_X6_advance_99 (fun h99 => ?_) (fun h99 => ?_)
          · -- 99 t
            refine EV.l (lv' := [(0, _), (1, _)]) r_X6_advance_114 rfl ?_
            refine EV.o r_X6_advance_115 (icN (3) (v := 3)) ?_
            refine EV.pIn r_X6_advance_116 la_1 (fun I3 e3 => ?_)
            refine EV.l (lv' := [(0, _), (1, _)]) r_X6_advance_119 rfl ?_
            refine EV.l (lv' := [(0, _), (1, _)]) r_X6_advance_120 rfl ?_
            refine EV.o r_X6_advance_121 (icN (1) (v := 1)) ?_
            refine EV.o r_X6_advance_122 iaddN ?_
            refine EV.pIn r_X6_advance_123 la_1 (fun I5 ee => ?_)
            rw [← z1]; subst e4 e6 e3 ee
            exact EV.ru r_X6_advance_126 (by first | exact ⟨⟨rfl, by rw [(kd_0 (by omega)).1]; rfl, by rw [(kd_0 (by omega)).2]; rfl, fun z => absurd (z.symm.trans (kd_0 (by omega)).1) (by decide), fun z => absurd (z.symm.trans (kd_0 (by omega)).1) (by decide)⟩, ⟨fun o h => by simp only [wr_row h], fun j a3 a4 a5 a6 => by simp only [wr_ne (Or.inr a3), wr_ne (Or.inr a4), wr_ne (Or.inr a5), wr_ne (Or.inr a6)]⟩⟩ | exact ⟨⟨rfl, by rw [(kd_1 (by omega) (by assumption)).1]; rfl, by rw [(kd_1 (by omega) (by assumption)).2]; rfl, fun z => ⟨c, cr, rfl⟩, fun z => absurd (z.symm.trans (kd_1 (by omega) (by assumption)).1) (by decide)⟩, ⟨fun o h => by simp only [wr_row h], fun j a3 a4 a5 a6 => by simp only [wr_ne (Or.inr a3), wr_ne (Or.inr a4), wr_ne (Or.inr a5), wr_ne (Or.inr a6)]⟩⟩ | exact ⟨⟨rfl, by rw [(kd_2 (by omega) (by assumption) (by assumption)).1]; rfl, by rw [(kd_2 (by omega) (by assumption) (by assumption)).2]; rfl, fun z => absurd (z.symm.trans (kd_2 (by omega) (by assumption) (by assumption)).1) (by decide), fun z => absurd (z.symm.trans (kd_2 (by omega) (by assumption) (by assumption)).1) (by decide)⟩, ⟨fun o h => by simp only [wr_row h], fun j a3 a4 a5 a6 => by simp only [wr_ne (Or.inr a3), wr_ne (Or.inr a4), wr_ne (Or.inr a5), wr_ne (Or.inr a6)]⟩⟩ | exact ⟨⟨rfl, by rw [(kd_3 (by omega) (by assumption) (by assumption)).1]; rfl, by rw [(kd_3 (by omega) (by assumption) (by assumption)).2]; rfl, fun z => absurd (z.symm.trans (kd_3 (by omega) (by assumption) (by assumption)).1) (by decide), fun z => rfl⟩, ⟨fun o h => by simp only [wr_row h], fun j a3 a4 a5 a6 => by simp only [wr_ne (Or.inr a3), wr_ne (Or.inr a4), wr_ne (Or.inr a5), wr_ne (Or.inr a6)]⟩⟩)
          · -- 99 f
            refine EV.l (lv' := [(0, _), (1, _)]) r_X6_advance_102 rfl ?_
            refine EV.o r_X6_advance_103 (icN (2) (v := 2)) ?_
            refine EV.pIn r_X6_advance_104 la_1 (fun I3 e3 => ?_)
            refine EV.l (lv' := [(0, _), (1, _)]) r_X6_advance_107 rfl ?_
            refine EV.cu r_X6_advance_108 (aV0 mt_80 la_1) (c_letters (fun j hj => by subst e3 e6 e4; exact tp j hj) gb (by subst e3 e6 e4; exact e2) hn (by subst e3 e6 e4; rfl) (by omega) (by omega)) (fun I5 ee => ?_)
            refine EV.g r_X6_advance_111 ?_
            rw [← z1]; subst e4 e6 e3 ee
            exact EV.ru r_X6_advance_126 (by first | exact ⟨⟨rfl, by rw [(kd_0 (by omega)).1]; rfl, by rw [(kd_0 (by omega)).2]; rfl, fun z => absurd (z.symm.trans (kd_0 (by omega)).1) (by decide), fun z => absurd (z.symm.trans (kd_0 (by omega)).1) (by decide)⟩, ⟨fun o h => by simp only [wr_row h], fun j a3 a4 a5 a6 => by simp only [wr_ne (Or.inr a3), wr_ne (Or.inr a4), wr_ne (Or.inr a5), wr_ne (Or.inr a6)]⟩⟩ | exact ⟨⟨rfl, by rw [(kd_1 (by omega) (by assumption)).1]; rfl, by rw [(kd_1 (by omega) (by assumption)).2]; rfl, fun z => ⟨c, cr, rfl⟩, fun z => absurd (z.symm.trans (kd_1 (by omega) (by assumption)).1) (by decide)⟩, ⟨fun o h => by simp only [wr_row h], fun j a3 a4 a5 a6 => by simp only [wr_ne (Or.inr a3), wr_ne (Or.inr a4), wr_ne (Or.inr a5), wr_ne (Or.inr a6)]⟩⟩ | exact ⟨⟨rfl, by rw [(kd_2 (by omega) (by assumption) (by assumption)).1]; rfl, by rw [(kd_2 (by omega) (by assumption) (by assumption)).2]; rfl, fun z => absurd (z.symm.trans (kd_2 (by omega) (by assumption) (by assumption)).1) (by decide), fun z => absurd (z.symm.trans (kd_2 (by omega) (by assumption) (by assumption)).1) (by decide)⟩, ⟨fun o h => by simp only [wr_row h], fun j a3 a4 a5 a6 => by simp only [wr_ne (Or.inr a3), wr_ne (Or.inr a4), wr_ne (Or.inr a5), wr_ne (Or.inr a6)]⟩⟩ | exact ⟨⟨rfl, by rw [(kd_3 (by omega) (by assumption) (by assumption)).1]; rfl, by rw [(kd_3 (by omega) (by assumption) (by assumption)).2]; rfl, fun z => absurd (z.symm.trans (kd_3 (by omega) (by assumption) (by assumption)).1) (by decide), fun z => rfl⟩, ⟨fun o h => by simp only [wr_row h], fun j a3 a4 a5 a6 => by simp only [wr_ne (Or.inr a3), wr_ne (Or.inr a4), wr_ne (Or.inr a5), wr_ne (Or.inr a6)]⟩⟩)
        · -- 77 f
          refine EV.l (lv' := [(0, _), (1, _)]) r_X6_advance_80 rfl ?_
          refine EV.o r_X6_advance_81 (icN (1) (v := 1)) ?_
          refine EV.pIn r_X6_advance_82 la_1 (fun I3 e3 => ?_)
          refine EV.l (lv' := [(0, _), (1, _)]) r_X6_advance_85 rfl ?_
          refine EV.cu r_X6_advance_86 (aV0 mt_79 la_1) (c_digits (fun j hj => by subst e3 e6 e4; exact tp j hj) gb (by subst e3 e6 e4; exact e2) hn (by subst e3 e6 e4; rfl) (by omega) (by omega)) (fun I5 ee => ?_)
          obtain ⟨c, cr, ee⟩ := ee
          refine EV.g r_X6_advance_89 ?_
          rw [← z1]; subst e4 e6 e3 ee
          exact EV.ru r_X6_advance_126 (by first | exact ⟨⟨rfl, by rw [(kd_0 (by omega)).1]; rfl, by rw [(kd_0 (by omega)).2]; rfl, fun z => absurd (z.symm.trans (kd_0 (by omega)).1) (by decide), fun z => absurd (z.symm.trans (kd_0 (by omega)).1) (by decide)⟩, ⟨fun o h => by simp only [wr_row h], fun j a3 a4 a5 a6 => by simp only [wr_ne (Or.inr a3), wr_ne (Or.inr a4), wr_ne (Or.inr a5), wr_ne (Or.inr a6)]⟩⟩ | exact ⟨⟨rfl, by rw [(kd_1 (by omega) (by assumption)).1]; rfl, by rw [(kd_1 (by omega) (by assumption)).2]; rfl, fun z => ⟨c, cr, rfl⟩, fun z => absurd (z.symm.trans (kd_1 (by omega) (by assumption)).1) (by decide)⟩, ⟨fun o h => by simp only [wr_row h], fun j a3 a4 a5 a6 => by simp only [wr_ne (Or.inr a3), wr_ne (Or.inr a4), wr_ne (Or.inr a5), wr_ne (Or.inr a6)]⟩⟩ | exact ⟨⟨rfl, by rw [(kd_2 (by omega) (by assumption) (by assumption)).1]; rfl, by rw [(kd_2 (by omega) (by assumption) (by assumption)).2]; rfl, fun z => absurd (z.symm.trans (kd_2 (by omega) (by assumption) (by assumption)).1) (by decide), fun z => absurd (z.symm.trans (kd_2 (by omega) (by assumption) (by assumption)).1) (by decide)⟩, ⟨fun o h => by simp only [wr_row h], fun j a3 a4 a5 a6 => by simp only [wr_ne (Or.inr a3), wr_ne (Or.inr a4), wr_ne (Or.inr a5), wr_ne (Or.inr a6)]⟩⟩ | exact ⟨⟨rfl, by rw [(kd_3 (by omega) (by assumption) (by assumption)).1]; rfl, by rw [(kd_3 (by omega) (by assumption) (by assumption)).2]; rfl, fun z => absurd (z.symm.trans (kd_3 (by omega) (by assumption) (by assumption)).1) (by decide), fun z => rfl⟩, ⟨fun o h => by simp only [wr_row h], fun j a3 a4 a5 a6 => by simp only [wr_ne (Or.inr a3), wr_ne (Or.inr a4), wr_ne (Or.inr a5), wr_ne (Or.inr a6)]⟩⟩)
      · -- 54 f
        refine EV.l (lv' := [(0, _), (1, _)]) r_X6_advance_57 rfl ?_
        refine EV.o r_X6_advance_58 (icN (0) (v := 0)) ?_
        refine EV.pIn r_X6_advance_59 la_1 (fun I3 e3 => ?_)
        refine EV.l (lv' := [(0, _), (1, _)]) r_X6_advance_62 rfl ?_
        refine EV.l (lv' := [(0, _), (1, _)]) r_X6_advance_63 rfl ?_
        refine EV.pIn r_X6_advance_64 la_1 (fun I5 ee => ?_)
        refine EV.g r_X6_advance_67 ?_
        rw [← z1]; subst e4 e6 e3 ee
        exact EV.ru r_X6_advance_126 (by first | exact ⟨⟨rfl, by rw [(kd_0 (by omega)).1]; rfl, by rw [(kd_0 (by omega)).2]; rfl, fun z => absurd (z.symm.trans (kd_0 (by omega)).1) (by decide), fun z => absurd (z.symm.trans (kd_0 (by omega)).1) (by decide)⟩, ⟨fun o h => by simp only [wr_row h], fun j a3 a4 a5 a6 => by simp only [wr_ne (Or.inr a3), wr_ne (Or.inr a4), wr_ne (Or.inr a5), wr_ne (Or.inr a6)]⟩⟩ | exact ⟨⟨rfl, by rw [(kd_1 (by omega) (by assumption)).1]; rfl, by rw [(kd_1 (by omega) (by assumption)).2]; rfl, fun z => ⟨c, cr, rfl⟩, fun z => absurd (z.symm.trans (kd_1 (by omega) (by assumption)).1) (by decide)⟩, ⟨fun o h => by simp only [wr_row h], fun j a3 a4 a5 a6 => by simp only [wr_ne (Or.inr a3), wr_ne (Or.inr a4), wr_ne (Or.inr a5), wr_ne (Or.inr a6)]⟩⟩ | exact ⟨⟨rfl, by rw [(kd_2 (by omega) (by assumption) (by assumption)).1]; rfl, by rw [(kd_2 (by omega) (by assumption) (by assumption)).2]; rfl, fun z => absurd (z.symm.trans (kd_2 (by omega) (by assumption) (by assumption)).1) (by decide), fun z => absurd (z.symm.trans (kd_2 (by omega) (by assumption) (by assumption)).1) (by decide)⟩, ⟨fun o h => by simp only [wr_row h], fun j a3 a4 a5 a6 => by simp only [wr_ne (Or.inr a3), wr_ne (Or.inr a4), wr_ne (Or.inr a5), wr_ne (Or.inr a6)]⟩⟩ | exact ⟨⟨rfl, by rw [(kd_3 (by omega) (by assumption) (by assumption)).1]; rfl, by rw [(kd_3 (by omega) (by assumption) (by assumption)).2]; rfl, fun z => absurd (z.symm.trans (kd_3 (by omega) (by assumption) (by assumption)).1) (by decide), fun z => rfl⟩, ⟨fun o h => by simp only [wr_row h], fun j a3 a4 a5 a6 => by simp only [wr_ne (Or.inr a3), wr_ne (Or.inr a4), wr_ne (Or.inr a5), wr_ne (Or.inr a6)]⟩⟩)
    · -- 10 f
      refine EV.l (lv' := [(0, _), (1, _)]) r_X6_advance_13 rfl ?_
      refine EV.gR r_X6_advance_14 la_1 ?_
      refine EV.l (lv' := [(0, _), (1, _)]) r_X6_advance_17 rfl ?_
      refine EV.cv r_X6_advance_18 (aV1 mt_92 la_2) (c_tp tp (by omega) (by omega)) ?_
      have gi := gb i
      refine EV.o r_X6_advance_21 (bpN (32) 32) ?_
      refine EV.n2_ne r_X6_advance_23 (fun h23 => ?_) (fun h23 => ?_)
      · -- 23 t
        have z1 : i = scp isB g n p := scp_fin hx5.2 (by first | exact Or.inl (by omega) | exact Or.inr (decide_eq_false (by omega)))
        have ib := hx5.1
        refine EV.l (lv' := [(0, _), (1, _)]) r_X6_advance_32 rfl ?_
        refine EV.l (lv' := [(0, _), (1, _)]) r_X6_advance_33 rfl ?_
        refine EV.pIn r_X6_advance_34 la_1 (fun I4 e4 => ?_)
        have tp4 : ∀ j, j < 600 → I4 3 j = nI (g j) := fun j hj => by subst e4; exact tp j hj
        refine EV.l (lv' := [(0, _), (1, _)]) r_X6_advance_37 rfl ?_
        refine EV.l (lv' := [(0, _), (1, _)]) r_X6_advance_38 rfl ?_
        refine EV.gR r_X6_advance_39 la_1 ?_
        refine EV.l (lv' := [(0, _), (1, _)]) r_X6_advance_42 rfl ?_
        refine EV.cv r_X6_advance_43 (aV1 mt_92 la_2) (c_tpz tp4 (by omega) (by omega)) ?_
        refine EV.pIn r_X6_advance_46 la_1 (fun I6 e6 => ?_)
        refine EV.l (lv' := [(0, _), (1, _)]) r_X6_advance_49 rfl ?_
        refine EV.l (lv' := [(0, _), (1, _)]) r_X6_advance_50 rfl ?_
        refine EV.getV r_X6_advance_51 la_1 ((congrFun (congrFun e6 1) 2).trans ((congrFun (congrFun e4 1) 2).trans e2)) ?_
        refine EV.n2_lt r_X6_advance_54 (fun h54 => ?_) (fun h54 => ?_)
        · -- 54 t
          rw [if_pos (show i < 600 by omega)] at e6
          refine EV.l (lv' := [(0, _), (1, _)]) r_X6_advance_70 rfl ?_
          refine EV.getV r_X6_advance_71 la_1 ((congrFun (congrFun e6 1) 6).trans wr_same) ?_
          refine EV.cv r_X6_advance_74 (aS1 mt_89) (c_isD (gb _) (by omega)) ?_
          refine EV.b0_eq r_X6_advance_77 (fun h77 => ?_) (fun h77 => ?_)
          · -- 77 t
            refine EV.l (lv' := [(0, _), (1, _)]) r_X6_advance_92 rfl ?_
            refine EV.getV r_X6_advance_93 la_1 ((congrFun (congrFun e6 1) 6).trans wr_same) ?_
            refine EV.cv r_X6_advance_96 (aS1 mt_90) (c_isL (gb _) (by omega)) ?_
            refine EV.b0_eq r_X6_advance_99 (fun h99 => ?_) (fun h99 => ?_)
            · -- 99 t
              refine EV.l (lv' := [(0, _), (1, _)]) r_X6_advance_114 rfl ?_
              refine EV.o r_X6_advance_115 (icN (3) (v := 3)) ?_
              refine EV.pIn r_X6_advance_116 la_1 (fun I3 e3 => ?_)
              refine EV.l (lv' := [(0, _), (1, _)]) r_X6_advance_119 rfl ?_
              refine EV.l (lv' := [(0, _), (1, _)]) r_X6_advance_120 rfl ?_
              refine EV.o r_X6_advance_121 (icN (1) (v := 1)) ?_
              refine EV.o r_X6_advance_122 iaddN ?_
              refine EV.pIn r_X6_advance_123 la_1 (fun I5 ee => ?_)
              rw [← z1]; subst e4 e6 e3 ee
              exact EV.ru r_X6_advance_126 (by first | exact ⟨⟨rfl, by rw [(kd_0 (by omega)).1]; rfl, by rw [(kd_0 (by omega)).2]; rfl, fun z => absurd (z.symm.trans (kd_0 (by omega)).1) (by decide), fun z => absurd (z.symm.trans (kd_0 (by omega)).1) (by decide)⟩, ⟨fun o h => by simp only [wr_row h], fun j a3 a4 a5 a6 => by simp only [wr_ne (Or.inr a3), wr_ne (Or.inr a4), wr_ne (Or.inr a5), wr_ne (Or.inr a6)]⟩⟩ | exact ⟨⟨rfl, by rw [(kd_1 (by omega) (by assumption)).1]; rfl, by rw [(kd_1 (by omega) (by assumption)).2]; rfl, fun z => ⟨c, cr, rfl⟩, fun z => absurd (z.symm.trans (kd_1 (by omega) (by assumption)).1) (by decide)⟩, ⟨fun o h => by simp only [wr_row h], fun j a3 a4 a5 a6 => by simp only [wr_ne (Or.inr a3), wr_ne (Or.inr a4), wr_ne (Or.inr a5), wr_ne (Or.inr a6)]⟩⟩ | exact ⟨⟨rfl, by rw [(kd_2 (by omega) (by assumption) (by assumption)).1]; rfl, by rw [(kd_2 (by omega) (by assumption) (by assumption)).2]; rfl, fun z => absurd (z.symm.trans (kd_2 (by omega) (by assumption) (by assumption)).1) (by decide), fun z => absurd (z.symm.trans (kd_2 (by omega) (by assumption) (by assumption)).1) (by decide)⟩, ⟨fun o h => by simp only [wr_row h], fun j a3 a4 a5 a6 => by simp only [wr_ne (Or.inr a3), wr_ne (Or.inr a4), wr_ne (Or.inr a5), wr_ne (Or.inr a6)]⟩⟩ | exact ⟨⟨rfl, by rw [(kd_3 (by omega) (by assumption) (by assumption)).1]; rfl, by rw [(kd_3 (by omega) (by assumption) (by assumption)).2]; rfl, fun z => absurd (z.symm.trans (kd_3 (by omega) (by assumption) (by assumption)).1) (by decide), fun z => rfl⟩, ⟨fun o h => by simp only [wr_row h], fun j a3 a4 a5 a6 => by simp only [wr_ne (Or.inr a3), wr_ne (Or.inr a4), wr_ne (Or.inr a5), wr_ne (Or.inr a6)]⟩⟩)
            · -- 99 f
              refine EV.l (lv' := [(0, _), (1, _)]) r_X6_advance_102 rfl ?_
              refine EV.o r_X6_advance_103 (icN (2) (v := 2)) ?_
              refine EV.pIn r_X6_advance_104 la_1 (fun I3 e3 => ?_)
              refine EV.l (lv' := [(0, _), (1, _)]) r_X6_advance_107 rfl ?_
              refine EV.cu r_X6_advance_108 (aV0 mt_80 la_1) (c_letters (fun j hj => by subst e3 e6 e4; exact tp j hj) gb (by subst e3 e6 e4; exact e2) hn (by subst e3 e6 e4; rfl) (by omega) (by omega)) (fun I5 ee => ?_)
              refine EV.g r_X6_advance_111 ?_
              rw [← z1]; subst e4 e6 e3 ee
              exact EV.ru r_X6_advance_126 (by first | exact ⟨⟨rfl, by rw [(kd_0 (by omega)).1]; rfl, by rw [(kd_0 (by omega)).2]; rfl, fun z => absurd (z.symm.trans (kd_0 (by omega)).1) (by decide), fun z => absurd (z.symm.trans (kd_0 (by omega)).1) (by decide)⟩, ⟨fun o h => by simp only [wr_row h], fun j a3 a4 a5 a6 => by simp only [wr_ne (Or.inr a3), wr_ne (Or.inr a4), wr_ne (Or.inr a5), wr_ne (Or.inr a6)]⟩⟩ | exact ⟨⟨rfl, by rw [(kd_1 (by omega) (by assumption)).1]; rfl, by rw [(kd_1 (by omega) (by assumption)).2]; rfl, fun z => ⟨c, cr, rfl⟩, fun z => absurd (z.symm.trans (kd_1 (by omega) (by assumption)).1) (by decide)⟩, ⟨fun o h => by simp only [wr_row h], fun j a3 a4 a5 a6 => by simp only [wr_ne (Or.inr a3), wr_ne (Or.inr a4), wr_ne (Or.inr a5), wr_ne (Or.inr a6)]⟩⟩ | exact ⟨⟨rfl, by rw [(kd_2 (by omega) (by assumption) (by assumption)).1]; rfl, by rw [(kd_2 (by omega) (by assumption) (by assumption)).2]; rfl, fun z => absurd (z.symm.trans (kd_2 (by omega) (by assumption) (by assumption)).1) (by decide), fun z => absurd (z.symm.trans (kd_2 (by omega) (by assumption) (by assumption)).1) (by decide)⟩, ⟨fun o h => by simp only [wr_row h], fun j a3 a4 a5 a6 => by simp only [wr_ne (Or.inr a3), wr_ne (Or.inr a4), wr_ne (Or.inr a5), wr_ne (Or.inr a6)]⟩⟩ | exact ⟨⟨rfl, by rw [(kd_3 (by omega) (by assumption) (by assumption)).1]; rfl, by rw [(kd_3 (by omega) (by assumption) (by assumption)).2]; rfl, fun z => absurd (z.symm.trans (kd_3 (by omega) (by assumption) (by assumption)).1) (by decide), fun z => rfl⟩, ⟨fun o h => by simp only [wr_row h], fun j a3 a4 a5 a6 => by simp only [wr_ne (Or.inr a3), wr_ne (Or.inr a4), wr_ne (Or.inr a5), wr_ne (Or.inr a6)]⟩⟩)
          · -- 77 f
            refine EV.l (lv' := [(0, _), (1, _)]) r_X6_advance_80 rfl ?_
            refine EV.o r_X6_advance_81 (icN (1) (v := 1)) ?_
            refine EV.pIn r_X6_advance_82 la_1 (fun I3 e3 => ?_)
            refine EV.l (lv' := [(0, _), (1, _)]) r_X6_advance_85 rfl ?_
            refine EV.cu r_X6_advance_86 (aV0 mt_79 la_1) (c_digits (fun j hj => by subst e3 e6 e4; exact tp j hj) gb (by subst e3 e6 e4; exact e2) hn (by subst e3 e6 e4; rfl) (by omega) (by omega)) (fun I5 ee => ?_)
            obtain ⟨c, cr, ee⟩ := ee
            refine EV.g r_X6_advance_89 ?_
            rw [← z1]; subst e4 e6 e3 ee
            exact EV.ru r_X6_advance_126 (by first | exact ⟨⟨rfl, by rw [(kd_0 (by omega)).1]; rfl, by rw [(kd_0 (by omega)).2]; rfl, fun z => absurd (z.symm.trans (kd_0 (by omega)).1) (by decide), fun z => absurd (z.symm.trans (kd_0 (by omega)).1) (by decide)⟩, ⟨fun o h => by simp only [wr_row h], fun j a3 a4 a5 a6 => by simp only [wr_ne (Or.inr a3), wr_ne (Or.inr a4), wr_ne (Or.inr a5), wr_ne (Or.inr a6)]⟩⟩ | exact ⟨⟨rfl, by rw [(kd_1 (by omega) (by assumption)).1]; rfl, by rw [(kd_1 (by omega) (by assumption)).2]; rfl, fun z => ⟨c, cr, rfl⟩, fun z => absurd (z.symm.trans (kd_1 (by omega) (by assumption)).1) (by decide)⟩, ⟨fun o h => by simp only [wr_row h], fun j a3 a4 a5 a6 => by simp only [wr_ne (Or.inr a3), wr_ne (Or.inr a4), wr_ne (Or.inr a5), wr_ne (Or.inr a6)]⟩⟩ | exact ⟨⟨rfl, by rw [(kd_2 (by omega) (by assumption) (by assumption)).1]; rfl, by rw [(kd_2 (by omega) (by assumption) (by assumption)).2]; rfl, fun z => absurd (z.symm.trans (kd_2 (by omega) (by assumption) (by assumption)).1) (by decide), fun z => absurd (z.symm.trans (kd_2 (by omega) (by assumption) (by assumption)).1) (by decide)⟩, ⟨fun o h => by simp only [wr_row h], fun j a3 a4 a5 a6 => by simp only [wr_ne (Or.inr a3), wr_ne (Or.inr a4), wr_ne (Or.inr a5), wr_ne (Or.inr a6)]⟩⟩ | exact ⟨⟨rfl, by rw [(kd_3 (by omega) (by assumption) (by assumption)).1]; rfl, by rw [(kd_3 (by omega) (by assumption) (by assumption)).2]; rfl, fun z => absurd (z.symm.trans (kd_3 (by omega) (by assumption) (by assumption)).1) (by decide), fun z => rfl⟩, ⟨fun o h => by simp only [wr_row h], fun j a3 a4 a5 a6 => by simp only [wr_ne (Or.inr a3), wr_ne (Or.inr a4), wr_ne (Or.inr a5), wr_ne (Or.inr a6)]⟩⟩)
        · -- 54 f
          refine EV.l (lv' := [(0, _), (1, _)]) r_X6_advance_57 rfl ?_
          refine EV.o r_X6_advance_58 (icN (0) (v := 0)) ?_
          refine EV.pIn r_X6_advance_59 la_1 (fun I3 e3 => ?_)
          refine EV.l (lv' := [(0, _), (1, _)]) r_X6_advance_62 rfl ?_
          refine EV.l (lv' := [(0, _), (1, _)]) r_X6_advance_63 rfl ?_
          refine EV.pIn r_X6_advance_64 la_1 (fun I5 ee => ?_)
          refine EV.g r_X6_advance_67 ?_
          rw [← z1]; subst e4 e6 e3 ee
          exact EV.ru r_X6_advance_126 (by first | exact ⟨⟨rfl, by rw [(kd_0 (by omega)).1]; rfl, by rw [(kd_0 (by omega)).2]; rfl, fun z => absurd (z.symm.trans (kd_0 (by omega)).1) (by decide), fun z => absurd (z.symm.trans (kd_0 (by omega)).1) (by decide)⟩, ⟨fun o h => by simp only [wr_row h], fun j a3 a4 a5 a6 => by simp only [wr_ne (Or.inr a3), wr_ne (Or.inr a4), wr_ne (Or.inr a5), wr_ne (Or.inr a6)]⟩⟩ | exact ⟨⟨rfl, by rw [(kd_1 (by omega) (by assumption)).1]; rfl, by rw [(kd_1 (by omega) (by assumption)).2]; rfl, fun z => ⟨c, cr, rfl⟩, fun z => absurd (z.symm.trans (kd_1 (by omega) (by assumption)).1) (by decide)⟩, ⟨fun o h => by simp only [wr_row h], fun j a3 a4 a5 a6 => by simp only [wr_ne (Or.inr a3), wr_ne (Or.inr a4), wr_ne (Or.inr a5), wr_ne (Or.inr a6)]⟩⟩ | exact ⟨⟨rfl, by rw [(kd_2 (by omega) (by assumption) (by assumption)).1]; rfl, by rw [(kd_2 (by omega) (by assumption) (by assumption)).2]; rfl, fun z => absurd (z.symm.trans (kd_2 (by omega) (by assumption) (by assumption)).1) (by decide), fun z => absurd (z.symm.trans (kd_2 (by omega) (by assumption) (by assumption)).1) (by decide)⟩, ⟨fun o h => by simp only [wr_row h], fun j a3 a4 a5 a6 => by simp only [wr_ne (Or.inr a3), wr_ne (Or.inr a4), wr_ne (Or.inr a5), wr_ne (Or.inr a6)]⟩⟩ | exact ⟨⟨rfl, by rw [(kd_3 (by omega) (by assumption) (by assumption)).1]; rfl, by rw [(kd_3 (by omega) (by assumption) (by assumption)).2]; rfl, fun z => absurd (z.symm.trans (kd_3 (by omega) (by assumption) (by assumption)).1) (by decide), fun z => rfl⟩, ⟨fun o h => by simp only [wr_row h], fun j a3 a4 a5 a6 => by simp only [wr_ne (Or.inr a3), wr_ne (Or.inr a4), wr_ne (Or.inr a5), wr_ne (Or.inr a6)]⟩⟩)
      · -- 23 f
        refine EV.l (lv' := [(0, _), (1, _)]) r_X6_advance_26 rfl ?_
        rw [inc_nI]
        refine EV.g r_X6_advance_29 ?_
        refine EV.sub ?_ rfl ?_ (ih5 (i + 1) ?_ ?_)
        · rfl
        · rfl
        · omega
        · exact ⟨by omega, scp_up hx5.2 (by omega) (decide_eq_true (by omega))⟩
  have h0 := L5 (p)
  try dsimp only at h0
  refine EV.sub ?_ rfl ?_ (h0 ?_)
  · rfl
  · rfl
  · exact ⟨hpn, rfl⟩
