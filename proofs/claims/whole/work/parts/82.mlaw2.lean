/-! A LAW is read: the model's sums. -/
/-- where the reading of a chain of signs stands -/
def LMI (g : Nat → Nat) (n k : Nat) (op : Nat → Nat) (f : LX → LX) (x0 : LX) (I : Nat → Nat → Int32) (i : Nat) (x : LX) (M : Nat → Nat → Int32) : Prop := LSm g n k x M ∧ LG I M ∧ i ≤ 150 ∧ (∀ s, x.2 = .inl s → i ≤ s) ∧ lop g n op f (150 - i) x = lop g n op f 150 x0
theorem LMI.fin {g : Nat → Nat} {n k i : Nat} {op : Nat → Nat} {f : LX → LX} {x0 x : LX} {I M M2 : Nat → Nat → Int32} (h : LMI g n k op f x0 I i x M) (e : ∀ s, x.2 = .inl s → op s = 0) (ls : LSm g n k x M2) (lg : LG M M2) : LSm g n k (lop g n op f 150 x0) M2 ∧ LG I M2 := by
  have z := h.2.2.2.2
  rw [lop_stop e] at z
  rw [← z]
  exact ⟨ls, h.2.1.tr lg⟩
theorem LMI.next {g : Nat → Nat} {n k i s w : Nat} {op : Nat → Nat} {f : LX → LX} {x0 : LX} {l : LW} {I M M2 : Nat → Nat → Int32} (h : LMI g n k op f x0 I i (l, .inl s) M) (pf : PG g n f) (hop : ∀ s, op s ≠ 0 → kdp g n s = 3 ∧ 2 ≤ op s ∧ op s ≤ 8) (hn : n ≤ 150) (hw : op s = w) (hw0 : w ≠ 0) (ls : LSm g n k (addc (f (l, .inl (nxp g n s))).1 w 0, (f (l, .inl (nxp g n s))).2) M2) (lf : LG M M2) : i < 150 ∧ LMI g n k op f x0 I (i + 1) (addc (f (l, .inl (nxp g n s))).1 w 0, (f (l, .inl (nxp g n s))).2) M2 := by
  have ho : op s ≠ 0 := by rw [hw]; exact hw0
  have a := op_lt hop ho
  have b := h.2.2.2.1 s rfl
  refine ⟨by omega, ls, h.2.1.tr lf, by omega, fun s2 e2 => ?_, ?_⟩
  · have p := pf.2 l (nxp g n s) s2 (nxp_le (Nat.le_of_lt a.1)) e2
    omega
  · rw [← h.2.2.2.2, show 150 - i = 150 - (i + 1) + 1 by omega, lop_go ho, hw]
theorem LSm.inc {g : Nat → Nat} {n k s : Nat} {l : LW} {I I' : Nat → Nat → Int32} (h : LSm g n k (l, .inl s) I) (hk : kdp g n s = 3) (e : I' = wr I 106 4 (nI (s + 1))) : LSm g n k (l, .inl (nxp g n s)) I' ∧ LG I I' := by
  have p := kd3_pe hk
  have a := kd3_lt hk
  exact ⟨h.mv (a := s + 1) (by rw [e]; exact MP.rf.wr) a (by rw [e]; exact wr_same) (by unfold nxp; rw [p]) (Nat.le_of_lt (nxp_gt a)), by rw [e]; exact (MP.rf.wr).mo.lg⟩
theorem fcz_6 {g : Nat → Nat} {n s : Nat} (h : fct g n s = 6) : fcz g n s = -1 := if_pos h
theorem fcz_n {g : Nat → Nat} {n s : Nat} (h : ¬ fct g n s = 6) : fcz g n s = (fct g n s : Int) := if_neg h
theorem fcz_b {g : Nat → Nat} {n s : Nat} : -1 ≤ fcz g n s ∧ fcz g n s < 7 := by
  by_cases h : fct g n s = 6
  · rw [fcz_6 h]; omega
  · rw [fcz_n h]
    have := fct_w h
    omega
theorem r_X11_readProduct_11 : RW M_X11_readProduct 11 (.aload_n 0) 1 0 0 12 := ⟨rfl, rfl⟩
theorem r_X11_readProduct_12 : RW M_X11_readProduct 12 (.invokevirtual 123) 3 175 0 15 := ⟨rfl, rfl⟩
theorem r_X11_readProduct_15 : RW M_X11_readProduct 15 (.bipush 42) 2 0 0 17 := ⟨rfl, rfl⟩
theorem r_X11_readProduct_17 : RW M_X11_readProduct 17 (.if_icmp .eq 21) 3 38 0 20 := ⟨rfl, rfl⟩
theorem r_X11_readProduct_20 : RW M_X11_readProduct 20 (.aload_n 0) 1 0 0 21 := ⟨rfl, rfl⟩
theorem r_X11_readProduct_21 : RW M_X11_readProduct 21 (.invokevirtual 123) 3 175 0 24 := ⟨rfl, rfl⟩
theorem r_X11_readProduct_24 : RW M_X11_readProduct 24 (.bipush 47) 2 0 0 26 := ⟨rfl, rfl⟩
theorem r_X11_readProduct_26 : RW M_X11_readProduct 26 (.if_icmp .eq 12) 3 38 0 29 := ⟨rfl, rfl⟩
theorem r_X11_readProduct_29 : RW M_X11_readProduct 29 (.aload_n 0) 1 0 0 30 := ⟨rfl, rfl⟩
theorem r_X11_readProduct_30 : RW M_X11_readProduct 30 (.invokevirtual 123) 3 175 0 33 := ⟨rfl, rfl⟩
theorem r_X11_readProduct_33 : RW M_X11_readProduct 33 (.bipush 37) 2 0 0 35 := ⟨rfl, rfl⟩
theorem r_X11_readProduct_35 : RW M_X11_readProduct 35 (.if_icmp .ne 55) 3 90 0 38 := ⟨rfl, rfl⟩
theorem r_X11_readProduct_38 : RW M_X11_readProduct 38 (.aload_n 0) 1 0 0 39 := ⟨rfl, rfl⟩
theorem r_X11_readProduct_39 : RW M_X11_readProduct 39 (.invokevirtual 123) 3 175 0 42 := ⟨rfl, rfl⟩
theorem r_X11_readProduct_42 : RW M_X11_readProduct 42 (.bipush 42) 2 0 0 44 := ⟨rfl, rfl⟩
theorem r_X11_readProduct_44 : RW M_X11_readProduct 44 (.if_icmp .ne 7) 3 51 0 47 := ⟨rfl, rfl⟩
theorem r_X11_readProduct_47 : RW M_X11_readProduct 47 (.iconst 4) 1 0 0 48 := ⟨rfl, rfl⟩
theorem r_X11_readProduct_48 : RW M_X11_readProduct 48 (.goto 18) 3 66 0 51 := ⟨rfl, rfl⟩
theorem r_X11_readProduct_51 : RW M_X11_readProduct 51 (.aload_n 0) 1 0 0 52 := ⟨rfl, rfl⟩
theorem r_X11_readProduct_52 : RW M_X11_readProduct 52 (.invokevirtual 123) 3 175 0 55 := ⟨rfl, rfl⟩
theorem r_X11_readProduct_55 : RW M_X11_readProduct 55 (.bipush 47) 2 0 0 57 := ⟨rfl, rfl⟩
theorem r_X11_readProduct_57 : RW M_X11_readProduct 57 (.if_icmp .ne 7) 3 64 0 60 := ⟨rfl, rfl⟩
theorem r_X11_readProduct_60 : RW M_X11_readProduct 60 (.iconst 5) 1 0 0 61 := ⟨rfl, rfl⟩
theorem r_X11_readProduct_61 : RW M_X11_readProduct 61 (.goto 5) 3 66 0 64 := ⟨rfl, rfl⟩
theorem r_X11_readProduct_64 : RW M_X11_readProduct 64 (.bipush 8) 2 0 0 66 := ⟨rfl, rfl⟩
theorem r_X11_readProduct_66 : RW M_X11_readProduct 66 (.istore_n 1) 1 0 0 67 := ⟨rfl, rfl⟩
theorem r_X11_readProduct_67 : RW M_X11_readProduct 67 (.aload_n 0) 1 0 0 68 := ⟨rfl, rfl⟩
theorem r_X11_readProduct_68 : RW M_X11_readProduct 68 (.dup) 1 0 0 69 := ⟨rfl, rfl⟩
theorem r_X11_readProduct_69 : RW M_X11_readProduct 69 (.getfield 117) 3 11 4 72 := ⟨rfl, rfl⟩
theorem r_X11_readProduct_72 : RW M_X11_readProduct 72 (.iconst 1) 1 0 0 73 := ⟨rfl, rfl⟩
theorem r_X11_readProduct_73 : RW M_X11_readProduct 73 (.iadd) 1 0 0 74 := ⟨rfl, rfl⟩
theorem r_X11_readProduct_74 : RW M_X11_readProduct 74 (.putfield 117) 3 11 4 77 := ⟨rfl, rfl⟩
theorem r_X11_readProduct_77 : RW M_X11_readProduct 77 (.aload_n 0) 1 0 0 78 := ⟨rfl, rfl⟩
theorem r_X11_readProduct_78 : RW M_X11_readProduct 78 (.invokevirtual 258) 3 201 0 81 := ⟨rfl, rfl⟩
theorem r_X11_readProduct_81 : RW M_X11_readProduct 81 (.aload_n 0) 1 0 0 82 := ⟨rfl, rfl⟩
theorem r_X11_readProduct_82 : RW M_X11_readProduct 82 (.iload_n 1) 1 0 0 83 := ⟨rfl, rfl⟩
theorem r_X11_readProduct_83 : RW M_X11_readProduct 83 (.iconst 0) 1 0 0 84 := ⟨rfl, rfl⟩
theorem r_X11_readProduct_84 : RW M_X11_readProduct 84 (.invokevirtual 255) 3 195 0 87 := ⟨rfl, rfl⟩
theorem r_X11_readProduct_87 : RW M_X11_readProduct 87 (.goto (-83)) 3 4 0 90 := ⟨rfl, rfl⟩
theorem r_X11_readSum_11 : RW M_X11_readSum 11 (.aload_n 0) 1 0 0 12 := ⟨rfl, rfl⟩
theorem r_X11_readSum_12 : RW M_X11_readSum 12 (.invokevirtual 123) 3 175 0 15 := ⟨rfl, rfl⟩
theorem r_X11_readSum_15 : RW M_X11_readSum 15 (.bipush 43) 2 0 0 17 := ⟨rfl, rfl⟩
theorem r_X11_readSum_17 : RW M_X11_readSum 17 (.if_icmp .eq 12) 3 29 0 20 := ⟨rfl, rfl⟩
theorem r_X11_readSum_20 : RW M_X11_readSum 20 (.aload_n 0) 1 0 0 21 := ⟨rfl, rfl⟩
theorem r_X11_readSum_21 : RW M_X11_readSum 21 (.invokevirtual 123) 3 175 0 24 := ⟨rfl, rfl⟩
theorem r_X11_readSum_24 : RW M_X11_readSum 24 (.bipush 45) 2 0 0 26 := ⟨rfl, rfl⟩
theorem r_X11_readSum_26 : RW M_X11_readSum 26 (.if_icmp .ne 41) 3 67 0 29 := ⟨rfl, rfl⟩
theorem r_X11_readSum_29 : RW M_X11_readSum 29 (.aload_n 0) 1 0 0 30 := ⟨rfl, rfl⟩
theorem r_X11_readSum_30 : RW M_X11_readSum 30 (.invokevirtual 123) 3 175 0 33 := ⟨rfl, rfl⟩
theorem r_X11_readSum_33 : RW M_X11_readSum 33 (.bipush 43) 2 0 0 35 := ⟨rfl, rfl⟩
theorem r_X11_readSum_35 : RW M_X11_readSum 35 (.if_icmp .ne 7) 3 42 0 38 := ⟨rfl, rfl⟩
theorem r_X11_readSum_38 : RW M_X11_readSum 38 (.iconst 2) 1 0 0 39 := ⟨rfl, rfl⟩
theorem r_X11_readSum_39 : RW M_X11_readSum 39 (.goto 4) 3 43 0 42 := ⟨rfl, rfl⟩
theorem r_X11_readSum_42 : RW M_X11_readSum 42 (.iconst 3) 1 0 0 43 := ⟨rfl, rfl⟩
theorem r_X11_readSum_43 : RW M_X11_readSum 43 (.istore_n 1) 1 0 0 44 := ⟨rfl, rfl⟩
theorem r_X11_readSum_44 : RW M_X11_readSum 44 (.aload_n 0) 1 0 0 45 := ⟨rfl, rfl⟩
theorem r_X11_readSum_45 : RW M_X11_readSum 45 (.dup) 1 0 0 46 := ⟨rfl, rfl⟩
theorem r_X11_readSum_46 : RW M_X11_readSum 46 (.getfield 117) 3 11 4 49 := ⟨rfl, rfl⟩
theorem r_X11_readSum_49 : RW M_X11_readSum 49 (.iconst 1) 1 0 0 50 := ⟨rfl, rfl⟩
theorem r_X11_readSum_50 : RW M_X11_readSum 50 (.iadd) 1 0 0 51 := ⟨rfl, rfl⟩
theorem r_X11_readSum_51 : RW M_X11_readSum 51 (.putfield 117) 3 11 4 54 := ⟨rfl, rfl⟩
theorem r_X11_readSum_54 : RW M_X11_readSum 54 (.aload_n 0) 1 0 0 55 := ⟨rfl, rfl⟩
theorem r_X11_readSum_55 : RW M_X11_readSum 55 (.invokevirtual 252) 3 198 0 58 := ⟨rfl, rfl⟩
theorem r_X11_readSum_58 : RW M_X11_readSum 58 (.aload_n 0) 1 0 0 59 := ⟨rfl, rfl⟩
theorem r_X11_readSum_59 : RW M_X11_readSum 59 (.iload_n 1) 1 0 0 60 := ⟨rfl, rfl⟩
theorem r_X11_readSum_60 : RW M_X11_readSum 60 (.iconst 0) 1 0 0 61 := ⟨rfl, rfl⟩
theorem r_X11_readSum_61 : RW M_X11_readSum 61 (.invokevirtual 255) 3 195 0 64 := ⟨rfl, rfl⟩
theorem r_X11_readSum_64 : RW M_X11_readSum 64 (.goto (-60)) 3 4 0 67 := ⟨rfl, rfl⟩
theorem r_X11_readUnit_8 : RW M_X11_readUnit 8 (.aload_n 0) 1 0 0 9 := ⟨rfl, rfl⟩
theorem r_X11_readUnit_9 : RW M_X11_readUnit 9 (.invokevirtual 123) 3 175 0 12 := ⟨rfl, rfl⟩
theorem r_X11_readUnit_12 : RW M_X11_readUnit 12 (.bipush 40) 2 0 0 14 := ⟨rfl, rfl⟩
theorem r_X11_readUnit_14 : RW M_X11_readUnit 14 (.if_icmp .ne 31) 3 45 0 17 := ⟨rfl, rfl⟩
theorem r_X11_readUnit_17 : RW M_X11_readUnit 17 (.aload_n 0) 1 0 0 18 := ⟨rfl, rfl⟩
theorem r_X11_readUnit_18 : RW M_X11_readUnit 18 (.iconst 1) 1 0 0 19 := ⟨rfl, rfl⟩
theorem r_X11_readUnit_19 : RW M_X11_readUnit 19 (.invokevirtual 261) 3 196 0 22 := ⟨rfl, rfl⟩
theorem r_X11_readUnit_22 : RW M_X11_readUnit 22 (.aload_n 0) 1 0 0 23 := ⟨rfl, rfl⟩
theorem r_X11_readUnit_23 : RW M_X11_readUnit 23 (.invokevirtual 264) 3 197 0 26 := ⟨rfl, rfl⟩
theorem r_X11_readUnit_26 : RW M_X11_readUnit 26 (.aload_n 0) 1 0 0 27 := ⟨rfl, rfl⟩
theorem r_X11_readUnit_27 : RW M_X11_readUnit 27 (.bipush 41) 2 0 0 29 := ⟨rfl, rfl⟩
theorem r_X11_readUnit_29 : RW M_X11_readUnit 29 (.invokevirtual 242) 3 182 0 32 := ⟨rfl, rfl⟩
theorem r_X11_readUnit_32 : RW M_X11_readUnit 32 (.aload_n 0) 1 0 0 33 := ⟨rfl, rfl⟩
theorem r_X11_readUnit_33 : RW M_X11_readUnit 33 (.dup) 1 0 0 34 := ⟨rfl, rfl⟩
theorem r_X11_readUnit_34 : RW M_X11_readUnit 34 (.getfield 151) 3 11 7 37 := ⟨rfl, rfl⟩
theorem r_X11_readUnit_37 : RW M_X11_readUnit 37 (.iconst 1) 1 0 0 38 := ⟨rfl, rfl⟩
theorem r_X11_readUnit_38 : RW M_X11_readUnit 38 (.isub) 1 0 0 39 := ⟨rfl, rfl⟩
theorem r_X11_readUnit_39 : RW M_X11_readUnit 39 (.putfield 151) 3 11 7 42 := ⟨rfl, rfl⟩
theorem r_X11_readUnit_42 : RW M_X11_readUnit 42 (.goto 112) 3 154 0 45 := ⟨rfl, rfl⟩
theorem r_X11_readUnit_45 : RW M_X11_readUnit 45 (.aload_n 0) 1 0 0 46 := ⟨rfl, rfl⟩
theorem r_X11_readUnit_46 : RW M_X11_readUnit 46 (.invokevirtual 123) 3 175 0 49 := ⟨rfl, rfl⟩
theorem r_X11_readUnit_49 : RW M_X11_readUnit 49 (.invokestatic 144) 3 177 0 52 := ⟨rfl, rfl⟩
theorem r_X11_readUnit_52 : RW M_X11_readUnit 52 (.ifCond .eq 19) 3 71 0 55 := ⟨rfl, rfl⟩
theorem r_X11_readUnit_55 : RW M_X11_readUnit 55 (.aload_n 0) 1 0 0 56 := ⟨rfl, rfl⟩
theorem r_X11_readUnit_56 : RW M_X11_readUnit 56 (.iconst 0) 1 0 0 57 := ⟨rfl, rfl⟩
theorem r_X11_readUnit_57 : RW M_X11_readUnit 57 (.aload_n 0) 1 0 0 58 := ⟨rfl, rfl⟩
theorem r_X11_readUnit_58 : RW M_X11_readUnit 58 (.iconst 0) 1 0 0 59 := ⟨rfl, rfl⟩
theorem r_X11_readUnit_59 : RW M_X11_readUnit 59 (.sipush 999) 3 0 0 62 := ⟨rfl, rfl⟩
theorem r_X11_readUnit_62 : RW M_X11_readUnit 62 (.invokevirtual 206) 3 181 0 65 := ⟨rfl, rfl⟩
theorem r_X11_readUnit_65 : RW M_X11_readUnit 65 (.invokevirtual 255) 3 195 0 68 := ⟨rfl, rfl⟩
theorem r_X11_readUnit_68 : RW M_X11_readUnit 68 (.goto 86) 3 154 0 71 := ⟨rfl, rfl⟩
theorem r_X11_readUnit_71 : RW M_X11_readUnit 71 (.aload_n 0) 1 0 0 72 := ⟨rfl, rfl⟩
theorem r_X11_readUnit_72 : RW M_X11_readUnit 72 (.invokevirtual 221) 3 178 0 75 := ⟨rfl, rfl⟩
theorem r_X11_readUnit_75 : RW M_X11_readUnit 75 (.ldc_w 277) 3 24 1 78 := ⟨rfl, rfl⟩
theorem r_X11_readUnit_78 : RW M_X11_readUnit 78 (.invokestatic 199) 3 179 0 81 := ⟨rfl, rfl⟩
theorem r_X11_readUnit_81 : RW M_X11_readUnit 81 (.if_icmp .ne 13) 3 94 0 84 := ⟨rfl, rfl⟩
theorem r_X11_readUnit_84 : RW M_X11_readUnit 84 (.aload_n 0) 1 0 0 85 := ⟨rfl, rfl⟩
theorem r_X11_readUnit_85 : RW M_X11_readUnit 85 (.iconst 5) 1 0 0 86 := ⟨rfl, rfl⟩
theorem r_X11_readUnit_86 : RW M_X11_readUnit 86 (.bipush 6) 2 0 0 88 := ⟨rfl, rfl⟩
theorem r_X11_readUnit_88 : RW M_X11_readUnit 88 (.invokevirtual 279) 3 199 0 91 := ⟨rfl, rfl⟩
theorem r_X11_readUnit_91 : RW M_X11_readUnit 91 (.goto 63) 3 154 0 94 := ⟨rfl, rfl⟩
theorem r_X11_readUnit_94 : RW M_X11_readUnit 94 (.aload_n 0) 1 0 0 95 := ⟨rfl, rfl⟩
theorem r_X11_readUnit_95 : RW M_X11_readUnit 95 (.invokevirtual 221) 3 178 0 98 := ⟨rfl, rfl⟩
theorem r_X11_readUnit_98 : RW M_X11_readUnit 98 (.ldc_w 282) 3 25 1 101 := ⟨rfl, rfl⟩
theorem r_X11_readUnit_101 : RW M_X11_readUnit 101 (.invokestatic 199) 3 179 0 104 := ⟨rfl, rfl⟩
theorem r_X11_readUnit_104 : RW M_X11_readUnit 104 (.if_icmp .ne 13) 3 117 0 107 := ⟨rfl, rfl⟩
theorem r_X11_readUnit_107 : RW M_X11_readUnit 107 (.aload_n 0) 1 0 0 108 := ⟨rfl, rfl⟩
theorem r_X11_readUnit_108 : RW M_X11_readUnit 108 (.iconst 4) 1 0 0 109 := ⟨rfl, rfl⟩
theorem r_X11_readUnit_109 : RW M_X11_readUnit 109 (.bipush 7) 2 0 0 111 := ⟨rfl, rfl⟩
theorem r_X11_readUnit_111 : RW M_X11_readUnit 111 (.invokevirtual 279) 3 199 0 114 := ⟨rfl, rfl⟩
theorem r_X11_readUnit_114 : RW M_X11_readUnit 114 (.goto 40) 3 154 0 117 := ⟨rfl, rfl⟩
theorem r_X11_readUnit_117 : RW M_X11_readUnit 117 (.aload_n 0) 1 0 0 118 := ⟨rfl, rfl⟩
theorem r_X11_readUnit_118 : RW M_X11_readUnit 118 (.invokevirtual 284) 3 200 0 121 := ⟨rfl, rfl⟩
theorem r_X11_readUnit_121 : RW M_X11_readUnit 121 (.istore_n 1) 1 0 0 122 := ⟨rfl, rfl⟩
theorem r_X11_readUnit_122 : RW M_X11_readUnit 122 (.iload_n 1) 1 0 0 123 := ⟨rfl, rfl⟩
theorem r_X11_readUnit_123 : RW M_X11_readUnit 123 (.iconst (-1)) 1 0 0 124 := ⟨rfl, rfl⟩
theorem r_X11_readUnit_124 : RW M_X11_readUnit 124 (.if_icmp .ne 12) 3 136 0 127 := ⟨rfl, rfl⟩
theorem r_X11_readUnit_127 : RW M_X11_readUnit 127 (.aload_n 0) 1 0 0 128 := ⟨rfl, rfl⟩
theorem r_X11_readUnit_128 : RW M_X11_readUnit 128 (.iconst 1) 1 0 0 129 := ⟨rfl, rfl⟩
theorem r_X11_readUnit_129 : RW M_X11_readUnit 129 (.aload_n 0) 1 0 0 130 := ⟨rfl, rfl⟩
theorem r_X11_readUnit_130 : RW M_X11_readUnit 130 (.getfield 117) 3 11 4 133 := ⟨rfl, rfl⟩
theorem r_X11_readUnit_133 : RW M_X11_readUnit 133 (.invokevirtual 147) 3 174 0 136 := ⟨rfl, rfl⟩
theorem r_X11_readUnit_136 : RW M_X11_readUnit 136 (.aload_n 0) 1 0 0 137 := ⟨rfl, rfl⟩
theorem r_X11_readUnit_137 : RW M_X11_readUnit 137 (.invokevirtual 140) 3 173 0 140 := ⟨rfl, rfl⟩
theorem r_X11_readUnit_140 : RW M_X11_readUnit 140 (.ifCond .ne 4) 3 144 0 143 := ⟨rfl, rfl⟩
theorem r_X11_readUnit_143 : RW M_X11_readUnit 143 (.return_) 1 0 0 144 := ⟨rfl, rfl⟩
theorem r_X11_readUnit_144 : RW M_X11_readUnit 144 (.aload_n 0) 1 0 0 145 := ⟨rfl, rfl⟩
theorem r_X11_readUnit_145 : RW M_X11_readUnit 145 (.invokevirtual 236) 3 180 0 148 := ⟨rfl, rfl⟩
theorem r_X11_readUnit_148 : RW M_X11_readUnit 148 (.aload_n 0) 1 0 0 149 := ⟨rfl, rfl⟩
theorem r_X11_readUnit_149 : RW M_X11_readUnit 149 (.iconst 1) 1 0 0 150 := ⟨rfl, rfl⟩
theorem r_X11_readUnit_150 : RW M_X11_readUnit 150 (.iload_n 1) 1 0 0 151 := ⟨rfl, rfl⟩
theorem r_X11_readUnit_151 : RW M_X11_readUnit 151 (.invokevirtual 255) 3 195 0 154 := ⟨rfl, rfl⟩
theorem r_X11_readUnit_154 : RW M_X11_readUnit 154 (.return_) 1 0 0 155 := ⟨rfl, rfl⟩
theorem m_unitG {d : Nat} {I : Nat → Nat → Int32} {J : Nat → Nat → Int64} {g : Nat → Nat} {n k s : Nat} {l : LW} (gb : ∀ j, g j < 256) (hn : n ≤ 150) (ls : LSm g n k (l, .inl s) I) {sub : LX → LX} {o D : Nat} (hD : 5 ≤ D) (hko : k + o = 6) (ps : 0 < o → PG g n sub) (ih : 0 < o → MUn 197 D (k + 1) g n sub)  (hd : D + 1 + 1 ≤ d) : RU d 201 [.ref 106] I J (fun I' => LSm g n k (uniG g n sub o l s) I' ∧ LG I I') := by
  refine RU.in (d0 := D + 1) hd mt_201 (Nat.le_of_ble_eq_true rfl) (fun d' hd' => ?_)
  have obL := ofbLeast
  have obM := ofbMost
  show EV none M_X11_readUnit d' 0 [(0, .ref 106)] [] (hp I J) _
  refine EV.l (lv' := [(0, _)]) r_X11_readUnit_0 rfl ?_
  refine EV.cv r_X11_readUnit_1 (aV0 mt_173 la_106) (m_fineG (ls).mg (by omega)) ?_
  refine EV.n0_ne r_X11_readUnit_4 (fun h4 => ?_) (fun h4 => ?_)
  · -- 4 t
    refine EV.l (lv' := [(0, _)]) r_X11_readUnit_8 rfl ?_
    refine EV.ci r_X11_readUnit_9 (aV0 mt_175 la_106) (m_hereS gb (by omega) (ls) (by omega)) (fun v I2 h2q => ?_)
    obtain ⟨e, l2, a2, g2⟩ := h2q
    subst e
    have cb2 := cuc_b (g := g) (n := n) (s := s) gb
    refine EV.o r_X11_readUnit_12 (bpN (40) 40) ?_
    refine EV.n2_ne r_X11_readUnit_14 (fun h14 => ?_) (fun h14 => ?_)
    · -- 14 t
      have kp : ¬ (kdp g n s = 3 ∧ g s = 40) := fun z => h14 ((cuc_k (by decide) (by decide) (by decide)).mpr z)
      refine EV.l (lv' := [(0, _)]) r_X11_readUnit_45 rfl ?_
      refine EV.ci r_X11_readUnit_46 (aV0 mt_175 la_106) (m_hereS gb (by omega) (l2) (by omega)) (fun v I3 h3q => ?_)
      obtain ⟨e, l3, a3, g3⟩ := h3q
      subst e
      have cb3 := cuc_b (g := g) (n := n) (s := s) gb
      refine EV.cv r_X11_readUnit_49 (aS1 mt_177) (m_isD (cuc_b gb) (by omega)) ?_
      refine EV.b0_eq r_X11_readUnit_52 (fun h52 => ?_) (fun h52 => ?_)
      · -- 52 t
        have kn : ¬ kdp g n s = 1 := fun z => absurd (cuc_d.mp z) (bf_n h52)
        refine EV.l (lv' := [(0, _)]) r_X11_readUnit_71 rfl ?_
        refine EV.ci r_X11_readUnit_72 (aV0 mt_178 la_106) (m_wordS gb (by omega) (l3) (by omega)) (fun v I4 h4q => ?_)
        obtain ⟨e, l4, a4, g4⟩ := h4q
        subst e
        have wb4 := wdv_b (g := g) (n := n) (s := s) l4.mg.sn
        refine EV.lcT r_X11_readUnit_75 rfl ?_
        refine EV.cv r_X11_readUnit_78 (aS1 mt_179) (m_of tx_24 (by decide) lLeast (by decide) (by omega)) ?_
        refine EV.n2_ne r_X11_readUnit_81 (fun h81 => ?_) (fun h81 => ?_)
        · -- 81 t
          have kl : ¬ isW g n s tLeast = true := fun z => h81 ((wdv_w ls.mg.sn lLeast (by decide)).mpr z)
          refine EV.l (lv' := [(0, _)]) r_X11_readUnit_94 rfl ?_
          refine EV.ci r_X11_readUnit_95 (aV0 mt_178 la_106) (m_wordS gb (by omega) (l4) (by omega)) (fun v I5 h5q => ?_)
          obtain ⟨e, l5, a5, g5⟩ := h5q
          subst e
          have wb5 := wdv_b (g := g) (n := n) (s := s) l5.mg.sn
          refine EV.lcT r_X11_readUnit_98 rfl ?_
          refine EV.cv r_X11_readUnit_101 (aS1 mt_179) (m_of tx_25 (by decide) lMost (by decide) (by omega)) ?_
          refine EV.n2_ne r_X11_readUnit_104 (fun h104 => ?_) (fun h104 => ?_)
          · -- 104 t
            have km : ¬ isW g n s tMost = true := fun z => h104 ((wdv_w ls.mg.sn lMost (by decide)).mpr z)
            refine EV.l (lv' := [(0, _)]) r_X11_readUnit_117 rfl ?_
            refine EV.ci r_X11_readUnit_118 (aV0 mt_200 la_106) (m_fact gb hn (l5) (by omega)) (fun v I6 h6q => ?_)
            obtain ⟨e, l6, a6, g6⟩ := h6q
            subst e
            have fb := fcz_b (g := g) (n := n) (s := s)
            refine EV.l (lv' := [(0, _), (1, _)]) r_X11_readUnit_121 rfl ?_
            refine EV.l (lv' := [(0, _), (1, _)]) r_X11_readUnit_122 rfl ?_
            refine EV.o r_X11_readUnit_123 (icZ (-1)) ?_
            refine EV.z2_ne r_X11_readUnit_124 (fun h124 => ?_) (fun h124 => ?_)
            · -- 124 t
              have hf6 : ¬ fct g n s = 6 := fun z => by have := fcz_6 z; omega
              have kw := fct_w hf6
              have kw2 := kd2_pe kw.1
              have sn : s < n := kd_lt (by rw [kw.1]; decide)
              refine EV.l (lv' := [(0, _), (1, _)]) r_X11_readUnit_136 rfl ?_
              refine EV.cv r_X11_readUnit_137 (aV0 mt_173 la_106) (m_fineG (l6).mg (by omega)) ?_
              refine EV.n0_ne r_X11_readUnit_140 (fun h140 => ?_) (fun h140 => ?_)
              · -- 140 t
                refine EV.l (lv' := [(0, _), (1, _)]) r_X11_readUnit_144 rfl ?_
                refine EV.cu r_X11_readUnit_145 (aV0 mt_180 la_106) (m_pass l6.1 gb (by omega) l6.mg.en l6.mg.sn a6 (by omega)) (fun I7 h7q => ?_)
                have s7 := l6.mv (s2 := nxp g n s) h7q.2 (scp_le l6.mg.sn) h7q.1 (by unfold nxp; rw [kw2.2.1]) (Nat.le_of_lt (nxp_gt sn))
                refine EV.l (lv' := [(0, _), (1, _)]) r_X11_readUnit_148 rfl ?_
                refine EV.o r_X11_readUnit_149 (icN (1) (v := 1)) ?_
                refine EV.l (lv' := [(0, _), (1, _)]) r_X11_readUnit_150 rfl ?_
                refine EV.cu r_X11_readUnit_151 (aV2 mt_195 la_106) (m_emit (x := (l, .inl (nxp g n s))) (w := 1) (o := fct g n s) s7 hn (fun s2 e => by have a1 := nxp_gt (g := g) sn; have a2 : l.n ≤ s := (ls.2.2.2 s rfl).2; cases e; show l.n < nxp g n s; omega) (fun _ _ => by rw [fcz_n hf6, zI_nat]) (by omega)) (fun I8 h8q => ?_)
                exact EV.ru r_X11_readUnit_154 (by unfold uniG; rw [if_neg kn, if_neg kp, if_neg kl, if_neg km]; unfold inpG; rw [if_neg hf6]; exact ⟨h8q.1, ((((((g2).tr (g3)).tr (g4)).tr (g5)).tr (g6)).tr (h7q.2.mo.lg)).tr (h8q.2)⟩)
              · omega
            · -- 124 f
              have hf6 : fct g n s = 6 := Classical.byContradiction fun z => by have := fcz_n z; omega
              refine EV.l (lv' := [(0, _), (1, _)]) r_X11_readUnit_127 rfl ?_
              refine EV.o r_X11_readUnit_128 (icN (1) (v := 1)) ?_
              refine EV.l (lv' := [(0, _), (1, _)]) r_X11_readUnit_129 rfl ?_
              refine EV.getV r_X11_readUnit_130 la_106 (a6) ?_
              refine EV.cu r_X11_readUnit_133 (aV2 mt_174 la_106) (m_wrongG l6.mg (by decide) (by decide) l6.mg.sn (by omega)) (fun I7 h7q => ?_)
              have s7 := l6.mo (r2 := .inr (1, s)) h7q.1 h7q.2 (fun s2 e => inr_ne e)
              -- on
              refine EV.l (lv' := [(0, _), (1, _)]) r_X11_readUnit_136 rfl ?_
              refine EV.cv r_X11_readUnit_137 (aV0 mt_173 la_106) (m_fineB (s7.mb) (by omega) (by omega)) ?_
              refine EV.n0_ne r_X11_readUnit_140 (fun h140 => ?_) (fun h140 => ?_)
              · omega
              · -- 140 f
                exact EV.ru r_X11_readUnit_143 (by unfold uniG; rw [if_neg kn, if_neg kp, if_neg kl, if_neg km]; unfold inpG; rw [if_pos hf6]; exact ⟨s7, (((((g2).tr (g3)).tr (g4)).tr (g5)).tr (g6)).tr (h7q.2.lg)⟩)
          · -- 104 f
            rcases Nat.lt_or_ge 0 o with ho | ho
            · -- case
              have km : isW g n s tMost = true := (wdv_w ls.mg.sn lMost (by decide)).mp h104
              have kw := of_decide_eq_true km
              have kw2 := kd2_pe kw.1
              have kw3 := kw2.1
              have sb : s + 4 ≤ n := by have := pep_le (g := g) (n := n) (s := s) (by omega); have z := kw.2.1; rw [show tMost.length = 4 from rfl] at z; omega
              have es : scp isB g n (s + 4) = nxp g n s := by unfold nxp; rw [kw.2.1]; rfl
              -- room
              refine EV.l (lv' := [(0, _)]) r_X11_readUnit_107 rfl ?_
              refine EV.o r_X11_readUnit_108 (icN (4) (v := 4)) ?_
              refine EV.o r_X11_readUnit_109 (bpN (7) 7) ?_
              refine EV.cu r_X11_readUnit_111 (aV2 mt_199 la_106) (m_two1 gb hn l5 hD hko ps ih ho a5 (b := 4) (w := 7) (by omega) (by omega) es (by omega)) (fun I6 h6q => ?_)
              refine EV.g r_X11_readUnit_114 ?_
              exact EV.ru r_X11_readUnit_154 (by unfold uniG; rw [if_neg kn, if_neg kp, if_neg kl, if_pos km]; exact ⟨h6q.1, ((((g2).tr (g3)).tr (g4)).tr (g5)).tr (h6q.2)⟩)
            · -- case
              have km : isW g n s tMost = true := (wdv_w ls.mg.sn lMost (by decide)).mp h104
              have kw := of_decide_eq_true km
              have kw2 := kd2_pe kw.1
              have kw3 := kw2.1
              have sb : s + 4 ≤ n := by have := pep_le (g := g) (n := n) (s := s) (by omega); have z := kw.2.1; rw [show tMost.length = 4 from rfl] at z; omega
              have es : scp isB g n (s + 4) = nxp g n s := by unfold nxp; rw [kw.2.1]; rfl
              have ho : ¬ 0 < o := Nat.not_lt.mpr ho
              obtain rfl : k = 6 := by omega
              refine EV.l (lv' := [(0, _)]) r_X11_readUnit_107 rfl ?_
              refine EV.o r_X11_readUnit_108 (icN (4) (v := 4)) ?_
              refine EV.o r_X11_readUnit_109 (bpN (7) 7) ?_
              refine EV.cu r_X11_readUnit_111 (aV2 mt_199 la_106) (m_two0 hn (sub := sub) l5 a5 (by omega)) (fun I6 h6q => ?_)
              refine EV.g r_X11_readUnit_114 ?_
              exact EV.ru r_X11_readUnit_154 (by unfold uniG; rw [if_neg kn, if_neg kp, if_neg kl, if_pos km]; unfold twoG; rw [if_neg ho]; exact ⟨h6q.1, ((((g2).tr (g3)).tr (g4)).tr (g5)).tr (h6q.2)⟩)
        · -- 81 f
          rcases Nat.lt_or_ge 0 o with ho | ho
          · -- case
            have kl : isW g n s tLeast = true := (wdv_w ls.mg.sn lLeast (by decide)).mp h81
            have kw := of_decide_eq_true kl
            have kw2 := kd2_pe kw.1
            have kw3 := kw2.1
            have sb : s + 5 ≤ n := by have := pep_le (g := g) (n := n) (s := s) (by omega); have z := kw.2.1; rw [show tLeast.length = 5 from rfl] at z; omega
            have es : scp isB g n (s + 5) = nxp g n s := by unfold nxp; rw [kw.2.1]; rfl
            -- room
            refine EV.l (lv' := [(0, _)]) r_X11_readUnit_84 rfl ?_
            refine EV.o r_X11_readUnit_85 (icN (5) (v := 5)) ?_
            refine EV.o r_X11_readUnit_86 (bpN (6) 6) ?_
            refine EV.cu r_X11_readUnit_88 (aV2 mt_199 la_106) (m_two1 gb hn l4 hD hko ps ih ho a4 (b := 5) (w := 6) (by omega) (by omega) es (by omega)) (fun I5 h5q => ?_)
            refine EV.g r_X11_readUnit_91 ?_
            exact EV.ru r_X11_readUnit_154 (by unfold uniG; rw [if_neg kn, if_neg kp, if_pos kl]; exact ⟨h5q.1, (((g2).tr (g3)).tr (g4)).tr (h5q.2)⟩)
          · -- case
            have kl : isW g n s tLeast = true := (wdv_w ls.mg.sn lLeast (by decide)).mp h81
            have kw := of_decide_eq_true kl
            have kw2 := kd2_pe kw.1
            have kw3 := kw2.1
            have sb : s + 5 ≤ n := by have := pep_le (g := g) (n := n) (s := s) (by omega); have z := kw.2.1; rw [show tLeast.length = 5 from rfl] at z; omega
            have es : scp isB g n (s + 5) = nxp g n s := by unfold nxp; rw [kw.2.1]; rfl
            have ho : ¬ 0 < o := Nat.not_lt.mpr ho
            obtain rfl : k = 6 := by omega
            refine EV.l (lv' := [(0, _)]) r_X11_readUnit_84 rfl ?_
            refine EV.o r_X11_readUnit_85 (icN (5) (v := 5)) ?_
            refine EV.o r_X11_readUnit_86 (bpN (6) 6) ?_
            refine EV.cu r_X11_readUnit_88 (aV2 mt_199 la_106) (m_two0 hn (sub := sub) l4 a4 (by omega)) (fun I5 h5q => ?_)
            refine EV.g r_X11_readUnit_91 ?_
            exact EV.ru r_X11_readUnit_154 (by unfold uniG; rw [if_neg kn, if_neg kp, if_pos kl]; unfold twoG; rw [if_neg ho]; exact ⟨h5q.1, (((g2).tr (g3)).tr (g4)).tr (h5q.2)⟩)
      · -- 52 f
        have kn : kdp g n s = 1 := cuc_d.mpr h52
        refine EV.l (lv' := [(0, _)]) r_X11_readUnit_55 rfl ?_
        refine EV.o r_X11_readUnit_56 (icN (0) (v := 0)) ?_
        refine EV.l (lv' := [(0, _)]) r_X11_readUnit_57 rfl ?_
        refine EV.o r_X11_readUnit_58 (icN (0) (v := 0)) ?_
        refine EV.o r_X11_readUnit_59 (spN (999) 999) ?_
        refine EV.ci r_X11_readUnit_62 (aV2 mt_181 la_106) (m_numN (l3).1 gb (by omega) (r := .inl s) (l3).mg (by omega) (by omega) (by omega)) (fun v I4 h4q => ?_)
        have s4 := (l3).mo (r2 := (tkN g n 0 ((999 : Nat) : Int) (.inl s)).2) h4q.1 h4q.2.2 (fun s2 e => ⟨s, rfl, Nat.le_of_lt (tkN_q e).1⟩)
        refine EV.cu r_X11_readUnit_65 (aV2 mt_195 la_106) (m_emit (x := (l, (tkN g n 0 ((999 : Nat) : Int) (.inl s)).2)) (w := 0) (o := (tkN g n 0 ((999 : Nat) : Int) (.inl s)).1) s4 hn (fun s2 e => Nat.lt_of_le_of_lt (ls.2.2.2 s rfl).2 (tkN_q e).1) (fun s2 e => h4q.2.1 s2 e) (by omega)) (fun I5 h5q => ?_)
        refine EV.g r_X11_readUnit_68 ?_
        exact EV.ru r_X11_readUnit_154 (by unfold uniG; rw [if_pos kn]; exact ⟨h5q.1, (((g2).tr (g3)).tr (h4q.2.2.lg)).tr (h5q.2)⟩)
    · -- 14 f
      rcases Nat.lt_or_ge 0 o with ho | ho
      · -- case
        have kp := (cuc_k (by decide) (by decide) (by decide)).mp h14
        have kn : ¬ kdp g n s = 1 := by rw [kp.1]; decide
        have pe := kd3_pe kp.1
        have plt := kd3_lt kp.1
        have es : scp isB g n (s + 1) = nxp g n s := by unfold nxp; rw [pe]
        -- room
        refine EV.l (lv' := [(0, _)]) r_X11_readUnit_17 rfl ?_
        refine EV.o r_X11_readUnit_18 (icN (1) (v := 1)) ?_
        refine EV.cu r_X11_readUnit_19 (aV1 mt_196 la_106) (m_open1 hn l2 a2 (by omega) (by omega) (by omega) es (by omega)) (fun I3 h3q => ?_)
        refine EV.l (lv' := [(0, _)]) r_X11_readUnit_22 rfl ?_
        refine EV.cu r_X11_readUnit_23 (aV0 mt_197 la_106) (ih (by omega) d' I3 J ((l, .inl (nxp g n s)) : LX) (by omega) h3q.1) (fun I4 h4q => ?_)
        refine EV.l (lv' := [(0, _)]) r_X11_readUnit_26 rfl ?_
        refine EV.o r_X11_readUnit_27 (bpN (41) 41) ?_
        refine EV.cu r_X11_readUnit_29 (aV1 mt_182 la_106) (m_sign (h4q.1).1 gb (by omega) (h4q.1).2.1 (by decide) (by decide) (by decide) (by decide) (by omega)) (fun I5 h5q => ?_)
        have s5 : LSm g n (k + 1) ((sub ((l, .inl (nxp g n s)) : LX)).1, tkS g n 41 (sub ((l, .inl (nxp g n s)) : LX)).2) I5 := (h4q.1 : LSm g n (k + 1) (sub ((l, .inl (nxp g n s)) : LX)) I4).sgn h5q.1 h5q.2
        refine EV.l (lv' := [(0, _)]) r_X11_readUnit_32 rfl ?_
        refine EV.o r_X11_readUnit_33 rfl ?_
        refine EV.getV r_X11_readUnit_34 la_106 (s5.2.2.1) ?_
        refine EV.o r_X11_readUnit_37 (icN (1) (v := 1)) ?_
        refine EV.o r_X11_readUnit_38 (isubN) ?_
        refine EV.pIn r_X11_readUnit_39 la_106 (fun I6 e6 => ?_)
        have d6 := (s5).dn (k2 := k) e6
        refine EV.g r_X11_readUnit_42 ?_
        exact EV.ru r_X11_readUnit_154 (by unfold uniG; rw [if_neg kn, if_pos kp]; unfold parG; rw [if_pos ho]; exact ⟨d6.1, ((((g2).tr (h3q.2)).tr (h4q.2)).tr (h5q.2.lg)).tr (d6.2)⟩)
      · -- case
        have kp := (cuc_k (by decide) (by decide) (by decide)).mp h14
        have kn : ¬ kdp g n s = 1 := by rw [kp.1]; decide
        have pe := kd3_pe kp.1
        have plt := kd3_lt kp.1
        have es : scp isB g n (s + 1) = nxp g n s := by unfold nxp; rw [pe]
        have ho : ¬ 0 < o := Nat.not_lt.mpr ho
        obtain rfl : k = 6 := by omega
        refine EV.l (lv' := [(0, _)]) r_X11_readUnit_17 rfl ?_
        refine EV.o r_X11_readUnit_18 (icN (1) (v := 1)) ?_
        refine EV.cu r_X11_readUnit_19 (aV1 mt_196 la_106) (m_open0 hn l2 a2 (by omega)) (fun I3 h3q => ?_)
        have mb := h3q.1.mb
        refine EV.l (lv' := [(0, _)]) r_X11_readUnit_22 rfl ?_
        refine EV.cu r_X11_readUnit_23 (aV0 mt_197 la_106) (m_sumB (q := (3, s)) hn mb (by omega)) (fun IQ eQ => ?_)
        subst eQ
        refine EV.l (lv' := [(0, _)]) r_X11_readUnit_26 rfl ?_
        refine EV.o r_X11_readUnit_27 (bpN (41) 41) ?_
        refine EV.cu r_X11_readUnit_29 (aV1 mt_182 la_106) (m_signB mb (by omega) (by omega)) (fun IQ eQ => ?_)
        subst eQ
        refine EV.l (lv' := [(0, _)]) r_X11_readUnit_32 rfl ?_
        refine EV.o r_X11_readUnit_33 rfl ?_
        refine EV.getV r_X11_readUnit_34 la_106 (h3q.1.2.2.1) ?_
        refine EV.o r_X11_readUnit_37 (icN (1) (v := 1)) ?_
        refine EV.o r_X11_readUnit_38 (isubL (z := 6) rfl) ?_
        refine EV.pIn r_X11_readUnit_39 la_106 (fun I4 e4 => ?_)
        have d4 := (h3q.1).dn (k2 := 6) e4
        refine EV.g r_X11_readUnit_42 ?_
        exact EV.ru r_X11_readUnit_154 (by unfold uniG; rw [if_neg kn, if_pos kp]; unfold parG; rw [if_neg ho]; exact ⟨d4.1, ((g2).tr (h3q.2)).tr (d4.2)⟩)
  · omega
theorem m_unit {g : Nat → Nat} {n : Nat} {sub : LX → LX} {o k D : Nat} (gb : ∀ j, g j < 256) (hn : n ≤ 150) (hD : 5 ≤ D) (hko : k + o = 6) (ps : 0 < o → PG g n sub) (ih : 0 < o → MUn 197 D (k + 1) g n sub) : MUn 201 (D + 2) k g n (uni g n sub o) := by
  intro d I J x hd ls
  obtain ⟨l, r⟩ := x
  cases r with
  | inl s => exact m_unitG gb hn ls hD hko ps ih (by omega)
  | inr q =>
    obtain ⟨I', e, h⟩ := m_unitB (d := d) (I := I) (J := J) hn ls.mb (by omega)
    subst e
    exact ⟨_, ⟨ls, LG.rf⟩, h⟩
theorem m_prod {d : Nat} {I : Nat → Nat → Int32} {J : Nat → Nat → Int64} {g : Nat → Nat} {n k : Nat} {f : LX → LX} {D : Nat} (gb : ∀ j, g j < 256) (hn : n ≤ 150) (hD : 5 ≤ D) (pf : PG g n f) (ih : MUn 201 D k g n f) {x0 : LX} (ls : LSm g n k x0 I)  (hd : D + 1 ≤ d) : RU d 198 [.ref 106] I J (fun I' => LSm g n k (prG g n f x0) I' ∧ LG I I') := by
  refine RU.in (d0 := D) hd mt_198 (Nat.le_of_ble_eq_true rfl) (fun d' hd' => ?_)
  show EV none M_X11_readProduct d' 0 [(0, .ref 106)] [] (hp I J) _
  refine EV.l (lv' := [(0, _)]) r_X11_readProduct_0 rfl ?_
  refine EV.cu r_X11_readProduct_1 (aV0 mt_201 la_106) (ih d' I J x0 (by omega) ls) (fun I2 h2 => ?_)
  have L4 : ∀ y_ : Nat × LX × (Nat → Nat → Int32), (fun y => LMI g n k (opPr g n) f (f x0) I2 y.1 y.2.1 y.2.2 → EV none M_X11_readProduct d' 4 [(0, .ref 106)] [] (hp y.2.2 J) (QU J (fun I' => LSm g n k (prG g n f x0) I' ∧ LG I I'))) y_ := by
    refine ev_loop (fun y => 150 - y.1) ?_
    intro ⟨i, x, M⟩ ih4 hx4
    try dsimp only at ih4
    try dsimp only at hx4
    try dsimp only
    refine EV.l (lv' := [(0, _)]) r_X11_readProduct_4 rfl ?_
    refine EV.cv r_X11_readProduct_5 (aV0 mt_173 la_106) (m_fine hx4.1.2.1 (by omega) (by omega)) ?_
    refine EV.b0_eq r_X11_readProduct_8 (fun h8 => ?_) (fun h8 => ?_)
    · -- 8 t
      have fz := hx4.fin (fun s2 e => by rw [e] at h8; exact absurd (show true = false from h8) (by decide)) hx4.1 LG.rf
      exact EV.ru r_X11_readProduct_90 (⟨fz.1, h2.2.tr fz.2⟩)
    · -- 8 f
      obtain ⟨s, er⟩ := okr_t h8
      obtain ⟨l, r⟩ := x
      have er : r = .inl s := er
      subst er
      refine EV.l (lv' := [(0, _)]) r_X11_readProduct_11 rfl ?_
      refine EV.ci r_X11_readProduct_12 (aV0 mt_175 la_106) (m_hereS gb (by omega) (hx4.1) (by omega)) (fun v I2 h2q => ?_)
      obtain ⟨e, l2, a2, g2⟩ := h2q
      subst e
      have cb2 := cuc_b (g := g) (n := n) (s := s) gb
      refine EV.o r_X11_readProduct_15 (bpN (42) 42) ?_
      refine EV.n2_eq r_X11_readProduct_17 (fun h17 => ?_) (fun h17 => ?_)
      · -- 17 t
        have opq := (cuc_k (g := g) (n := n) (s := s) (c := 42) (by decide) (by decide) (by decide)).mp h17
        have opw := opPr_4 opq
        have sn := kd3_lt opq.1
        have hls := (hx4.1.2.2.2 s rfl).2
        refine EV.l (lv' := [(0, _)]) r_X11_readProduct_38 rfl ?_
        refine EV.ci r_X11_readProduct_39 (aV0 mt_175 la_106) (m_hereS gb (by omega) (l2) (by omega)) (fun v I3 h3q => ?_)
        obtain ⟨e, l3, a3, g3⟩ := h3q
        subst e
        have cb3 := cuc_b (g := g) (n := n) (s := s) gb
        rw [h17]
        refine EV.o r_X11_readProduct_42 (bpN (42) 42) ?_
        refine EV.n2_ne r_X11_readProduct_44 (fun h44 => ?_) (fun h44 => ?_)
        · omega
        · -- 44 f
          refine EV.o r_X11_readProduct_47 (icN (4) (v := 4)) ?_
          refine EV.g r_X11_readProduct_48 ?_
          refine EV.l (lv' := [(0, _), (1, _)]) r_X11_readProduct_66 rfl ?_
          refine EV.l (lv' := [(0, _), (1, _)]) r_X11_readProduct_67 rfl ?_
          refine EV.o r_X11_readProduct_68 rfl ?_
          refine EV.getV r_X11_readProduct_69 la_106 (a3) ?_
          refine EV.o r_X11_readProduct_72 (icN (1) (v := 1)) ?_
          refine EV.o r_X11_readProduct_73 iaddN ?_
          refine EV.pIn r_X11_readProduct_74 la_106 (fun I4 e4 => ?_)
          have b4 := (l3).inc opq.1 e4
          refine EV.l (lv' := [(0, _), (1, _)]) r_X11_readProduct_77 rfl ?_
          refine EV.cu r_X11_readProduct_78 (aV0 mt_201 la_106) (ih d' I4 J (l, .inl (nxp g n s)) (by omega) b4.1) (fun I5 h5q => ?_)
          refine EV.l (lv' := [(0, _), (1, _)]) r_X11_readProduct_81 rfl ?_
          refine EV.l (lv' := [(0, _), (1, _)]) r_X11_readProduct_82 rfl ?_
          refine EV.o r_X11_readProduct_83 (icN (0) (v := 0)) ?_
          refine EV.cu r_X11_readProduct_84 (aV2 mt_195 la_106) (m_emit (x := f (l, .inl (nxp g n s))) (w := 4) (o := 0) h5q.1 hn (pf.lt sn hls) (fun _ _ => rfl) (by omega)) (fun I6 h6q => ?_)
          have hx9 := hx4.next (w := 4) pf opPr_3 hn opw (by decide) h6q.1 (((((g2).tr (g3)).tr (b4.2)).tr (h5q.2)).tr (h6q.2))
          have i150 := hx9.1
          refine EV.g r_X11_readProduct_87 ?_
          refine EV.fg (lv' := [(0, _)]) r_X11_readProduct_4 rfl rfl rfl ?_
          refine EV.sub ?_ rfl ?_ (ih4 (i + 1, (addc (f (l, .inl (nxp g n s))).1 4 0, (f (l, .inl (nxp g n s))).2), I6) ?_ ?_)
          · (try dsimp only) <;> (rfl)
          · (try dsimp only) <;> (rfl)
          · (try dsimp only) <;> (omega)
          · (try dsimp only) <;> (exact hx9.2)
      · -- 17 f
        refine EV.l (lv' := [(0, _)]) r_X11_readProduct_20 rfl ?_
        refine EV.ci r_X11_readProduct_21 (aV0 mt_175 la_106) (m_hereS gb (by omega) (l2) (by omega)) (fun v I3 h3q => ?_)
        obtain ⟨e, l3, a3, g3⟩ := h3q
        subst e
        have cb3 := cuc_b (g := g) (n := n) (s := s) gb
        refine EV.o r_X11_readProduct_24 (bpN (47) 47) ?_
        refine EV.n2_eq r_X11_readProduct_26 (fun h26 => ?_) (fun h26 => ?_)
        · -- 26 t
          have opq := (cuc_k (g := g) (n := n) (s := s) (c := 47) (by decide) (by decide) (by decide)).mp h26
          have opw := opPr_5 (fun z => h17 ((cuc_k (by decide) (by decide) (by decide)).mpr z)) opq
          have sn := kd3_lt opq.1
          have hls := (hx4.1.2.2.2 s rfl).2
          refine EV.l (lv' := [(0, _)]) r_X11_readProduct_38 rfl ?_
          refine EV.ci r_X11_readProduct_39 (aV0 mt_175 la_106) (m_hereS gb (by omega) (l3) (by omega)) (fun v I4 h4q => ?_)
          obtain ⟨e, l4, a4, g4⟩ := h4q
          subst e
          have cb4 := cuc_b (g := g) (n := n) (s := s) gb
          rw [h26]
          refine EV.o r_X11_readProduct_42 (bpN (42) 42) ?_
          refine EV.n2_ne r_X11_readProduct_44 (fun h44 => ?_) (fun h44 => ?_)
          · -- 44 t
            refine EV.l (lv' := [(0, _)]) r_X11_readProduct_51 rfl ?_
            refine EV.ci r_X11_readProduct_52 (aV0 mt_175 la_106) (m_hereS gb (by omega) (l4) (by omega)) (fun v I5 h5q => ?_)
            obtain ⟨e, l5, a5, g5⟩ := h5q
            subst e
            have cb5 := cuc_b (g := g) (n := n) (s := s) gb
            rw [h26]
            refine EV.o r_X11_readProduct_55 (bpN (47) 47) ?_
            refine EV.n2_ne r_X11_readProduct_57 (fun h57 => ?_) (fun h57 => ?_)
            · omega
            · -- 57 f
              refine EV.o r_X11_readProduct_60 (icN (5) (v := 5)) ?_
              refine EV.g r_X11_readProduct_61 ?_
              refine EV.l (lv' := [(0, _), (1, _)]) r_X11_readProduct_66 rfl ?_
              refine EV.l (lv' := [(0, _), (1, _)]) r_X11_readProduct_67 rfl ?_
              refine EV.o r_X11_readProduct_68 rfl ?_
              refine EV.getV r_X11_readProduct_69 la_106 (a5) ?_
              refine EV.o r_X11_readProduct_72 (icN (1) (v := 1)) ?_
              refine EV.o r_X11_readProduct_73 iaddN ?_
              refine EV.pIn r_X11_readProduct_74 la_106 (fun I6 e6 => ?_)
              have b6 := (l5).inc opq.1 e6
              refine EV.l (lv' := [(0, _), (1, _)]) r_X11_readProduct_77 rfl ?_
              refine EV.cu r_X11_readProduct_78 (aV0 mt_201 la_106) (ih d' I6 J (l, .inl (nxp g n s)) (by omega) b6.1) (fun I7 h7q => ?_)
              refine EV.l (lv' := [(0, _), (1, _)]) r_X11_readProduct_81 rfl ?_
              refine EV.l (lv' := [(0, _), (1, _)]) r_X11_readProduct_82 rfl ?_
              refine EV.o r_X11_readProduct_83 (icN (0) (v := 0)) ?_
              refine EV.cu r_X11_readProduct_84 (aV2 mt_195 la_106) (m_emit (x := f (l, .inl (nxp g n s))) (w := 5) (o := 0) h7q.1 hn (pf.lt sn hls) (fun _ _ => rfl) (by omega)) (fun I8 h8q => ?_)
              have hx9 := hx4.next (w := 5) pf opPr_3 hn opw (by decide) h8q.1 (((((((g2).tr (g3)).tr (g4)).tr (g5)).tr (b6.2)).tr (h7q.2)).tr (h8q.2))
              have i150 := hx9.1
              refine EV.g r_X11_readProduct_87 ?_
              refine EV.fg (lv' := [(0, _)]) r_X11_readProduct_4 rfl rfl rfl ?_
              refine EV.sub ?_ rfl ?_ (ih4 (i + 1, (addc (f (l, .inl (nxp g n s))).1 5 0, (f (l, .inl (nxp g n s))).2), I8) ?_ ?_)
              · (try dsimp only) <;> (rfl)
              · (try dsimp only) <;> (rfl)
              · (try dsimp only) <;> (omega)
              · (try dsimp only) <;> (exact hx9.2)
          · omega
        · -- 26 f
          refine EV.l (lv' := [(0, _)]) r_X11_readProduct_29 rfl ?_
          refine EV.ci r_X11_readProduct_30 (aV0 mt_175 la_106) (m_hereS gb (by omega) (l3) (by omega)) (fun v I4 h4q => ?_)
          obtain ⟨e, l4, a4, g4⟩ := h4q
          subst e
          have cb4 := cuc_b (g := g) (n := n) (s := s) gb
          refine EV.o r_X11_readProduct_33 (bpN (37) 37) ?_
          refine EV.n2_ne r_X11_readProduct_35 (fun h35 => ?_) (fun h35 => ?_)
          · -- 35 t
            have fz := hx4.fin (fun s2 e => by cases e; exact opPr_0 (fun z => h17 ((cuc_k (by decide) (by decide) (by decide)).mpr z)) (fun z => h26 ((cuc_k (by decide) (by decide) (by decide)).mpr z)) (fun z => h35 ((cuc_k (by decide) (by decide) (by decide)).mpr z))) l4 (((g2).tr (g3)).tr (g4))
            exact EV.ru r_X11_readProduct_90 (⟨fz.1, h2.2.tr fz.2⟩)
          · -- 35 f
            have opq := (cuc_k (g := g) (n := n) (s := s) (c := 37) (by decide) (by decide) (by decide)).mp h35
            have opw := opPr_8 (fun z => h17 ((cuc_k (by decide) (by decide) (by decide)).mpr z)) (fun z => h26 ((cuc_k (by decide) (by decide) (by decide)).mpr z)) opq
            have sn := kd3_lt opq.1
            have hls := (hx4.1.2.2.2 s rfl).2
            refine EV.l (lv' := [(0, _)]) r_X11_readProduct_38 rfl ?_
            refine EV.ci r_X11_readProduct_39 (aV0 mt_175 la_106) (m_hereS gb (by omega) (l4) (by omega)) (fun v I5 h5q => ?_)
            obtain ⟨e, l5, a5, g5⟩ := h5q
            subst e
            have cb5 := cuc_b (g := g) (n := n) (s := s) gb
            rw [h35]
            refine EV.o r_X11_readProduct_42 (bpN (42) 42) ?_
            refine EV.n2_ne r_X11_readProduct_44 (fun h44 => ?_) (fun h44 => ?_)
            · -- 44 t
              refine EV.l (lv' := [(0, _)]) r_X11_readProduct_51 rfl ?_
              refine EV.ci r_X11_readProduct_52 (aV0 mt_175 la_106) (m_hereS gb (by omega) (l5) (by omega)) (fun v I6 h6q => ?_)
              obtain ⟨e, l6, a6, g6⟩ := h6q
              subst e
              have cb6 := cuc_b (g := g) (n := n) (s := s) gb
              rw [h35]
              refine EV.o r_X11_readProduct_55 (bpN (47) 47) ?_
              refine EV.n2_ne r_X11_readProduct_57 (fun h57 => ?_) (fun h57 => ?_)
              · -- 57 t
                refine EV.o r_X11_readProduct_64 (bpN (8) 8) ?_
                refine EV.l (lv' := [(0, _), (1, _)]) r_X11_readProduct_66 rfl ?_
                refine EV.l (lv' := [(0, _), (1, _)]) r_X11_readProduct_67 rfl ?_
                refine EV.o r_X11_readProduct_68 rfl ?_
                refine EV.getV r_X11_readProduct_69 la_106 (a6) ?_
                refine EV.o r_X11_readProduct_72 (icN (1) (v := 1)) ?_
                refine EV.o r_X11_readProduct_73 iaddN ?_
                refine EV.pIn r_X11_readProduct_74 la_106 (fun I7 e7 => ?_)
                have b7 := (l6).inc opq.1 e7
                refine EV.l (lv' := [(0, _), (1, _)]) r_X11_readProduct_77 rfl ?_
                refine EV.cu r_X11_readProduct_78 (aV0 mt_201 la_106) (ih d' I7 J (l, .inl (nxp g n s)) (by omega) b7.1) (fun I8 h8q => ?_)
                refine EV.l (lv' := [(0, _), (1, _)]) r_X11_readProduct_81 rfl ?_
                refine EV.l (lv' := [(0, _), (1, _)]) r_X11_readProduct_82 rfl ?_
                refine EV.o r_X11_readProduct_83 (icN (0) (v := 0)) ?_
                refine EV.cu r_X11_readProduct_84 (aV2 mt_195 la_106) (m_emit (x := f (l, .inl (nxp g n s))) (w := 8) (o := 0) h8q.1 hn (pf.lt sn hls) (fun _ _ => rfl) (by omega)) (fun I9 h9q => ?_)
                have hx9 := hx4.next (w := 8) pf opPr_3 hn opw (by decide) h9q.1 ((((((((g2).tr (g3)).tr (g4)).tr (g5)).tr (g6)).tr (b7.2)).tr (h8q.2)).tr (h9q.2))
                have i150 := hx9.1
                refine EV.g r_X11_readProduct_87 ?_
                refine EV.fg (lv' := [(0, _)]) r_X11_readProduct_4 rfl rfl rfl ?_
                refine EV.sub ?_ rfl ?_ (ih4 (i + 1, (addc (f (l, .inl (nxp g n s))).1 8 0, (f (l, .inl (nxp g n s))).2), I9) ?_ ?_)
                · (try dsimp only) <;> (rfl)
                · (try dsimp only) <;> (rfl)
                · (try dsimp only) <;> (omega)
                · (try dsimp only) <;> (exact hx9.2)
              · omega
            · omega
  have h0 := L4 (0, f x0, I2)
  try dsimp only at h0
  refine EV.sub ?_ rfl ?_ (h0 ?_)
  · (try dsimp only) <;> (rfl)
  · (try dsimp only) <;> (rfl)
  · (try dsimp only) <;> (exact ⟨h2.1, LG.rf, Nat.zero_le _, fun _ _ => Nat.zero_le _, rfl⟩)
theorem m_sum1 {d : Nat} {I : Nat → Nat → Int32} {J : Nat → Nat → Int64} {g : Nat → Nat} {n k : Nat} {f : LX → LX} {D : Nat} (gb : ∀ j, g j < 256) (hn : n ≤ 150) (hD : 5 ≤ D) (pf : PG g n f) (ih : MUn 198 D k g n f) {x0 : LX} (ls : LSm g n k x0 I)  (hd : D + 1 ≤ d) : RU d 197 [.ref 106] I J (fun I' => LSm g n k (smG g n f x0) I' ∧ LG I I') := by
  refine RU.in (d0 := D) hd mt_197 (Nat.le_of_ble_eq_true rfl) (fun d' hd' => ?_)
  show EV none M_X11_readSum d' 0 [(0, .ref 106)] [] (hp I J) _
  refine EV.l (lv' := [(0, _)]) r_X11_readSum_0 rfl ?_
  refine EV.cu r_X11_readSum_1 (aV0 mt_198 la_106) (ih d' I J x0 (by omega) ls) (fun I2 h2 => ?_)
  have L4 : ∀ y_ : Nat × LX × (Nat → Nat → Int32), (fun y => LMI g n k (opSu g n) f (f x0) I2 y.1 y.2.1 y.2.2 → EV none M_X11_readSum d' 4 [(0, .ref 106)] [] (hp y.2.2 J) (QU J (fun I' => LSm g n k (smG g n f x0) I' ∧ LG I I'))) y_ := by
    refine ev_loop (fun y => 150 - y.1) ?_
    intro ⟨i, x, M⟩ ih4 hx4
    try dsimp only at ih4
    try dsimp only at hx4
    try dsimp only
    refine EV.l (lv' := [(0, _)]) r_X11_readSum_4 rfl ?_
    refine EV.cv r_X11_readSum_5 (aV0 mt_173 la_106) (m_fine hx4.1.2.1 (by omega) (by omega)) ?_
    refine EV.b0_eq r_X11_readSum_8 (fun h8 => ?_) (fun h8 => ?_)
    · -- 8 t
      have fz := hx4.fin (fun s2 e => by rw [e] at h8; exact absurd (show true = false from h8) (by decide)) hx4.1 LG.rf
      exact EV.ru r_X11_readSum_67 (⟨fz.1, h2.2.tr fz.2⟩)
    · -- 8 f
      obtain ⟨s, er⟩ := okr_t h8
      obtain ⟨l, r⟩ := x
      have er : r = .inl s := er
      subst er
      refine EV.l (lv' := [(0, _)]) r_X11_readSum_11 rfl ?_
      refine EV.ci r_X11_readSum_12 (aV0 mt_175 la_106) (m_hereS gb (by omega) (hx4.1) (by omega)) (fun v I2 h2q => ?_)
      obtain ⟨e, l2, a2, g2⟩ := h2q
      subst e
      have cb2 := cuc_b (g := g) (n := n) (s := s) gb
      refine EV.o r_X11_readSum_15 (bpN (43) 43) ?_
      refine EV.n2_eq r_X11_readSum_17 (fun h17 => ?_) (fun h17 => ?_)
      · -- 17 t
        have opq := (cuc_k (g := g) (n := n) (s := s) (c := 43) (by decide) (by decide) (by decide)).mp h17
        have opw := opSu_2 opq
        have sn := kd3_lt opq.1
        have hls := (hx4.1.2.2.2 s rfl).2
        refine EV.l (lv' := [(0, _)]) r_X11_readSum_29 rfl ?_
        refine EV.ci r_X11_readSum_30 (aV0 mt_175 la_106) (m_hereS gb (by omega) (l2) (by omega)) (fun v I3 h3q => ?_)
        obtain ⟨e, l3, a3, g3⟩ := h3q
        subst e
        have cb3 := cuc_b (g := g) (n := n) (s := s) gb
        rw [h17]
        refine EV.o r_X11_readSum_33 (bpN (43) 43) ?_
        refine EV.n2_ne r_X11_readSum_35 (fun h35 => ?_) (fun h35 => ?_)
        · omega
        · -- 35 f
          refine EV.o r_X11_readSum_38 (icN (2) (v := 2)) ?_
          refine EV.g r_X11_readSum_39 ?_
          refine EV.l (lv' := [(0, _), (1, _)]) r_X11_readSum_43 rfl ?_
          refine EV.l (lv' := [(0, _), (1, _)]) r_X11_readSum_44 rfl ?_
          refine EV.o r_X11_readSum_45 rfl ?_
          refine EV.getV r_X11_readSum_46 la_106 (a3) ?_
          refine EV.o r_X11_readSum_49 (icN (1) (v := 1)) ?_
          refine EV.o r_X11_readSum_50 iaddN ?_
          refine EV.pIn r_X11_readSum_51 la_106 (fun I4 e4 => ?_)
          have b4 := (l3).inc opq.1 e4
          refine EV.l (lv' := [(0, _), (1, _)]) r_X11_readSum_54 rfl ?_
          refine EV.cu r_X11_readSum_55 (aV0 mt_198 la_106) (ih d' I4 J (l, .inl (nxp g n s)) (by omega) b4.1) (fun I5 h5q => ?_)
          refine EV.l (lv' := [(0, _), (1, _)]) r_X11_readSum_58 rfl ?_
          refine EV.l (lv' := [(0, _), (1, _)]) r_X11_readSum_59 rfl ?_
          refine EV.o r_X11_readSum_60 (icN (0) (v := 0)) ?_
          refine EV.cu r_X11_readSum_61 (aV2 mt_195 la_106) (m_emit (x := f (l, .inl (nxp g n s))) (w := 2) (o := 0) h5q.1 hn (pf.lt sn hls) (fun _ _ => rfl) (by omega)) (fun I6 h6q => ?_)
          have hx9 := hx4.next (w := 2) pf opSu_3 hn opw (by decide) h6q.1 (((((g2).tr (g3)).tr (b4.2)).tr (h5q.2)).tr (h6q.2))
          have i150 := hx9.1
          refine EV.g r_X11_readSum_64 ?_
          refine EV.fg (lv' := [(0, _)]) r_X11_readSum_4 rfl rfl rfl ?_
          refine EV.sub ?_ rfl ?_ (ih4 (i + 1, (addc (f (l, .inl (nxp g n s))).1 2 0, (f (l, .inl (nxp g n s))).2), I6) ?_ ?_)
          · (try dsimp only) <;> (rfl)
          · (try dsimp only) <;> (rfl)
          · (try dsimp only) <;> (omega)
          · (try dsimp only) <;> (exact hx9.2)
      · -- 17 f
        refine EV.l (lv' := [(0, _)]) r_X11_readSum_20 rfl ?_
        refine EV.ci r_X11_readSum_21 (aV0 mt_175 la_106) (m_hereS gb (by omega) (l2) (by omega)) (fun v I3 h3q => ?_)
        obtain ⟨e, l3, a3, g3⟩ := h3q
        subst e
        have cb3 := cuc_b (g := g) (n := n) (s := s) gb
        refine EV.o r_X11_readSum_24 (bpN (45) 45) ?_
        refine EV.n2_ne r_X11_readSum_26 (fun h26 => ?_) (fun h26 => ?_)
        · -- 26 t
          have fz := hx4.fin (fun s2 e => by cases e; exact opSu_0 (fun z => h17 ((cuc_k (by decide) (by decide) (by decide)).mpr z)) (fun z => h26 ((cuc_k (by decide) (by decide) (by decide)).mpr z))) l3 ((g2).tr (g3))
          exact EV.ru r_X11_readSum_67 (⟨fz.1, h2.2.tr fz.2⟩)
        · -- 26 f
          have opq := (cuc_k (g := g) (n := n) (s := s) (c := 45) (by decide) (by decide) (by decide)).mp h26
          have opw := opSu_3b (fun z => h17 ((cuc_k (by decide) (by decide) (by decide)).mpr z)) opq
          have sn := kd3_lt opq.1
          have hls := (hx4.1.2.2.2 s rfl).2
          refine EV.l (lv' := [(0, _)]) r_X11_readSum_29 rfl ?_
          refine EV.ci r_X11_readSum_30 (aV0 mt_175 la_106) (m_hereS gb (by omega) (l3) (by omega)) (fun v I4 h4q => ?_)
          obtain ⟨e, l4, a4, g4⟩ := h4q
          subst e
          have cb4 := cuc_b (g := g) (n := n) (s := s) gb
          rw [h26]
          refine EV.o r_X11_readSum_33 (bpN (43) 43) ?_
          refine EV.n2_ne r_X11_readSum_35 (fun h35 => ?_) (fun h35 => ?_)
          · -- 35 t
            refine EV.o r_X11_readSum_42 (icN (3) (v := 3)) ?_
            refine EV.l (lv' := [(0, _), (1, _)]) r_X11_readSum_43 rfl ?_
            refine EV.l (lv' := [(0, _), (1, _)]) r_X11_readSum_44 rfl ?_
            refine EV.o r_X11_readSum_45 rfl ?_
            refine EV.getV r_X11_readSum_46 la_106 (a4) ?_
            refine EV.o r_X11_readSum_49 (icN (1) (v := 1)) ?_
            refine EV.o r_X11_readSum_50 iaddN ?_
            refine EV.pIn r_X11_readSum_51 la_106 (fun I5 e5 => ?_)
            have b5 := (l4).inc opq.1 e5
            refine EV.l (lv' := [(0, _), (1, _)]) r_X11_readSum_54 rfl ?_
            refine EV.cu r_X11_readSum_55 (aV0 mt_198 la_106) (ih d' I5 J (l, .inl (nxp g n s)) (by omega) b5.1) (fun I6 h6q => ?_)
            refine EV.l (lv' := [(0, _), (1, _)]) r_X11_readSum_58 rfl ?_
            refine EV.l (lv' := [(0, _), (1, _)]) r_X11_readSum_59 rfl ?_
            refine EV.o r_X11_readSum_60 (icN (0) (v := 0)) ?_
            refine EV.cu r_X11_readSum_61 (aV2 mt_195 la_106) (m_emit (x := f (l, .inl (nxp g n s))) (w := 3) (o := 0) h6q.1 hn (pf.lt sn hls) (fun _ _ => rfl) (by omega)) (fun I7 h7q => ?_)
            have hx9 := hx4.next (w := 3) pf opSu_3 hn opw (by decide) h7q.1 ((((((g2).tr (g3)).tr (g4)).tr (b5.2)).tr (h6q.2)).tr (h7q.2))
            have i150 := hx9.1
            refine EV.g r_X11_readSum_64 ?_
            refine EV.fg (lv' := [(0, _)]) r_X11_readSum_4 rfl rfl rfl ?_
            refine EV.sub ?_ rfl ?_ (ih4 (i + 1, (addc (f (l, .inl (nxp g n s))).1 3 0, (f (l, .inl (nxp g n s))).2), I7) ?_ ?_)
            · (try dsimp only) <;> (rfl)
            · (try dsimp only) <;> (rfl)
            · (try dsimp only) <;> (omega)
            · (try dsimp only) <;> (exact hx9.2)
          · omega
  have h0 := L4 (0, f x0, I2)
  try dsimp only at h0
  refine EV.sub ?_ rfl ?_ (h0 ?_)
  · (try dsimp only) <;> (rfl)
  · (try dsimp only) <;> (rfl)
  · (try dsimp only) <;> (exact ⟨h2.1, LG.rf, Nat.zero_le _, fun _ _ => Nat.zero_le _, rfl⟩)
theorem m_sums {g : Nat → Nat} {n : Nat} (gb : ∀ j, g j < 256) (hn : n ≤ 150) : ∀ o k, k + o = 6 → MUn 197 (4 * o + 9) k g n (sums g n o)
  | 0, k, h => by
    have u : MUn 201 7 k g n (uni g n (fun x => x) 0) := m_unit (D := 5) gb hn (by decide) h (fun z => absurd z (Nat.lt_irrefl 0)) (fun z => absurd z (Nat.lt_irrefl 0))
    have pu : PG g n (uni g n (fun x => x) 0) := PG.uni (fun z => absurd z (Nat.lt_irrefl 0))
    have p : MUn 198 8 k g n (prG g n (uni g n (fun x => x) 0)) := fun d I J x hd ls => m_prod gb hn (D := 7) (by decide) pu u ls hd
    exact fun d I J x hd ls => m_sum1 gb hn (D := 8) (by decide) pu.pr p ls hd
  | o + 1, k, h => by
    have ih := m_sums gb hn o (k + 1) (by omega)
    have u : MUn 201 (4 * o + 9 + 2) k g n (uni g n (sums g n o) (o + 1)) := m_unit gb hn (by omega) h (fun _ => PG.sums o) (fun _ => ih)
    have pu : PG g n (uni g n (sums g n o) (o + 1)) := PG.uni (fun _ => PG.sums o)
    have p : MUn 198 (4 * o + 9 + 3) k g n (prG g n (uni g n (sums g n o) (o + 1))) := fun d I J x hd ls => m_prod gb hn (D := 4 * o + 9 + 2) (by omega) pu u ls hd
    exact fun d I J x hd ls => m_sum1 gb hn (D := 4 * o + 9 + 3) (by omega) pu.pr p ls (by omega)
