/-! WORK is read: the class. -/
theorem tx_13 : TXS[13]? = some tCall := by decide
theorem tx_14 : TXS[14]? = some tLead := by decide
theorem tx_15 : TXS[15]? = some tPut := by decide
theorem tx_16 : TXS[16]? = some tNote := by decide
theorem tx_17 : TXS[17]? = some tMinu := by decide
theorem tx_18 : TXS[18]? = some tAgai := by decide
def PC (P : PL) (I : Nat → Nat → Int32) : Prop := I 62 4 = nI P.m ∧ ∀ j, j < P.m → I 64 j = nI (P.k j) ∧ (P.k j ≠ 4 → I 66 j = nI (P.a j)) ∧ ((P.k j ≤ 2 ∨ (P.k j = 5 ∧ P.b j ≠ 0)) → I 68 j = nI (P.b j)) ∧ ((P.k j = 1 ∨ P.k j = 2) → I 70 j = nI (P.c j))
theorem PC.fr {P : PL} {I I' : Nat → Nat → Int32} (h : PC P I) (e62 : I' 62 4 = I 62 4) (e : ∀ o, 63 ≤ o → o ≤ 70 → I' o = I o) : PC P I' := by
  unfold PC at h ⊢
  rw [e62, e 64 (by decide) (by decide), e 66 (by decide) (by decide), e 68 (by decide) (by decide), e 70 (by decide) (by decide)]
  exact h
theorem PC.add {P : PL} {k a b c : Nat} {I I' : Nat → Nat → Int32} (h : PC P I) (em : I' 62 4 = nI (P.m + 1)) (e1 : I' 64 = wr I 64 P.m (nI k) 64) (f2 : ∀ j, j < P.m → I' 66 j = I 66 j) (v2 : k ≠ 4 → I' 66 P.m = nI a) (f3 : ∀ j, j < P.m → I' 68 j = I 68 j) (v3 : (k ≤ 2 ∨ (k = 5 ∧ b ≠ 0)) → I' 68 P.m = nI b) (f4 : ∀ j, j < P.m → I' 70 j = I 70 j) (v4 : (k = 1 ∨ k = 2) → I' 70 P.m = nI c) : PC (addS P k a b c) I' := by
  refine ⟨em, fun j hj => ?_⟩
  have hj : j < P.m + 1 := hj
  show I' 64 j = nI (put P.k P.m k j) ∧ (put P.k P.m k j ≠ 4 → I' 66 j = nI (put P.a P.m a j)) ∧ ((put P.k P.m k j ≤ 2 ∨ (put P.k P.m k j = 5 ∧ put P.b P.m b j ≠ 0)) → I' 68 j = nI (put P.b P.m b j)) ∧ ((put P.k P.m k j = 1 ∨ put P.k P.m k j = 2) → I' 70 j = nI (put P.c P.m c j))
  by_cases z : j = P.m
  · subst z
    rw [put_s, put_s, put_s, put_s]
    exact ⟨(congrFun e1 _).trans wr_same, v2, v3, v4⟩
  · have hj2 : j < P.m := by omega
    rw [put_n z, put_n z, put_n z, put_n z, f2 j hj2, f3 j hj2, f4 j hj2, e1, wr_ne (Or.inr z)]
    exact h.2 j hj2
theorem PC.cls {P : PL} {j : Nat} {I I' : Nat → Nat → Int32} (h : PC P I) (e : I' 68 = wr I 68 j (nI P.m) 68) (e62 : I' 62 = I 62) (e64 : I' 64 = I 64) (e66 : I' 66 = I 66) (e70 : I' 70 = I 70) : PC (clsA P j) I' := by
  refine ⟨(congrFun e62 4).trans h.1, fun i hi => ?_⟩
  have z := h.2 i hi
  show I' 64 i = nI (P.k i) ∧ (P.k i ≠ 4 → I' 66 i = nI (P.a i)) ∧ ((P.k i ≤ 2 ∨ (P.k i = 5 ∧ put P.b j P.m i ≠ 0)) → I' 68 i = nI (put P.b j P.m i)) ∧ ((P.k i = 1 ∨ P.k i = 2) → I' 70 i = nI (P.c i))
  rw [e64, e66, e70, e]
  refine ⟨z.1, z.2.1, ?_, z.2.2.2⟩
  by_cases y : i = j
  · subst y
    rw [put_s]
    exact fun _ => wr_same
  · rw [put_n y, wr_ne (Or.inr y)]
    exact z.2.2.1
def KN (κ : CT) (I : Nat → Nat → Int32) : Prop := I 4 10 = nI κ.ns ∧ I 4 12 = nI κ.nb ∧ I 4 13 = nI κ.nc
def LSw (g : Nat → Nat) (n : Nat) (κ : CT) (x : WX) (I : Nat → Nat → Int32) : Prop := (∀ j, j < 600 → I 3 j = nI (g j)) ∧ RD g n x.2 I ∧ KN κ I ∧ ∀ s, x.2 = .inl s → PC x.1 I ∧ 4 * x.1.m ≤ s
/-- the Reader and the plan alone were at work -/
def WF (I I' : Nat → Nat → Int32) : Prop := (∀ o, o ≠ 1 → (o < 62 ∨ 70 < o) → I' o = I o) ∧ ∀ j, j ≠ 4 → I' 62 j = I 62 j
theorem WF.rf {I : Nat → Nat → Int32} : WF I I := ⟨fun _ _ _ => rfl, fun _ _ => rfl⟩
theorem WF.tr {I I1 I2 : Nat → Nat → Int32} (h : WF I I1) (h2 : WF I1 I2) : WF I I2 := ⟨fun o a b => (h2.1 o a b).trans (h.1 o a b), fun j a => (h2.2 j a).trans (h.2 j a)⟩
theorem RO.wf {I I' : Nat → Nat → Int32} (h : RO I I') : WF I I' := ⟨fun o a _ => h o a, fun j _ => congrFun (h 62 (by decide)) j⟩
theorem WF.ts {I I' : Nat → Nat → Int32} (h : WF I I') {o : Nat} (ho : tsc o = false) : I' o = I o := h.1 o (tsc_1 ho).1 (by have := (tsc_1 ho).2.2.2; omega)
theorem LSw.mk {g : Nat → Nat} {n : Nat} {κ : CT} {x : WX} {R : PL} {r : RST} {I I' : Nat → Nat → Int32} (h : LSw g n κ x I) (wf : WF I I') (rd : RD g n r I') (hp : ∀ s2, r = .inl s2 → PC R I' ∧ 4 * R.m ≤ s2) : LSw g n κ (R, r) I' := ⟨tp_fr h.1 (wf.1 3 (by decide) (by decide)), rd, by unfold KN; rw [wf.1 4 (by decide) (by decide)]; exact h.2.2.1, hp⟩
theorem LSw.rg {g : Nat → Nat} {n s : Nat} {κ : CT} {P : PL} {I : Nat → Nat → Int32} (h : LSw g n κ (P, .inl s) I) : RG g n s I := h.2.1
theorem LSw.pc {g : Nat → Nat} {n s : Nat} {κ : CT} {P : PL} {I : Nat → Nat → Int32} (h : LSw g n κ (P, .inl s) I) : PC P I := (h.2.2.2 s rfl).1
theorem LSw.m4 {g : Nat → Nat} {n s : Nat} {κ : CT} {P : PL} {I : Nat → Nat → Int32} (h : LSw g n κ (P, .inl s) I) : 4 * P.m ≤ s := (h.2.2.2 s rfl).2
theorem PC.ro {P : PL} {I I' : Nat → Nat → Int32} (h : PC P I) (f : RO I I') : PC P I' := h.fr (congrFun (f 62 (by decide)) 4) (fun o a b => f o (by omega))
theorem LSw.sgs {g : Nat → Nat} {n c : Nat} {κ : CT} {x : WX} {I I' : Nat → Nat → Int32} (h : LSw g n κ x I) (rd : RD g n (tkS g n c x.2) I') (f : RO I I') : LSw g n κ (x.1, tkS g n c x.2) I' := h.mk f.wf rd (fun s2 e => by
  obtain ⟨s, e1, h1, -⟩ := tkS_q e
  have z := h.2.2.2 s e1
  exact ⟨z.1.ro f, by omega⟩)
def CUs (D k : Nat) (g : Nat → Nat) (n : Nat) (κ : CT) (f : PL → Nat → WX) : Prop := ∀ (d : Nat) (I : Nat → Nat → Int32) (J : Nat → Nat → Int64) (P : PL) (s : Nat), D ≤ d → s < n → LSw g n κ (P, .inl s) I → RU d 67 [.ref 62, .ref 1, .ref 4, .int (nI k)] I J (fun I' => LSw g n κ (f P s) I' ∧ WF I I')
theorem stps_fin {n i : Nat} {e : Nat → Bool} {f : PL → Nat → WX} {x : WX} (h : 150 ≤ i ∨ ∀ s, x.2 = .inl s → n ≤ s ∨ e s = true) : stps n e f (150 - i) x = x := by
  rcases h with h | h
  · rw [show 150 - i = 0 by omega]
    rfl
  · obtain ⟨P, r⟩ := x
    cases r with
    | inl s => exact stps_end (h s rfl)
    | inr q => exact stps_bad
theorem mor_f2 {n : Nat} {r : RST} {e : Nat → Bool} (h : mor n r = false) : ∀ s, r = .inl s → n ≤ s ∨ e s = true := fun s z => Or.inl (mor_f h z)
theorem seS_e {g : Nat → Nat} {n : Nat} {r : RST} (h : seS g n 93 r = true) : ∀ s, r = .inl s → n ≤ s ∨ enB g n s = true := fun s z => by
  subst z
  exact Or.inr h
/-- where the reading of steps stands -/
def SWI (g : Nat → Nat) (n : Nat) (κ : CT) (e : Nat → Bool) (f : PL → Nat → WX) (x0 : WX) (I : Nat → Nat → Int32) (i : Nat) (x : WX) (M : Nat → Nat → Int32) : Prop := LSw g n κ x M ∧ WF I M ∧ i ≤ 150 ∧ stps n e f (150 - i) x = stps n e f 150 x0
theorem SWI.fin {g : Nat → Nat} {n i : Nat} {κ : CT} {e : Nat → Bool} {f : PL → Nat → WX} {x0 x : WX} {I M : Nat → Nat → Int32} (h : SWI g n κ e f x0 I i x M) (z : 150 ≤ i ∨ ∀ s, x.2 = .inl s → n ≤ s ∨ e s = true) : LSw g n κ (stps n e f 150 x0) M ∧ WF I M := by
  have a := h.2.2.2
  rw [stps_fin z] at a
  rw [← a]
  exact ⟨h.1, h.2.1⟩
theorem SWI.next {g : Nat → Nat} {n i s : Nat} {κ : CT} {e : Nat → Bool} {f : PL → Nat → WX} {x0 : WX} {P : PL} {I M M2 : Nat → Nat → Int32} (h : SWI g n κ e f x0 I i (P, .inl s) M) (hs : s < n) (he : e s = false) (hi : i < 150) (ls : LSw g n κ (f P s) M2) (wf : WF M M2) : SWI g n κ e f x0 I (i + 1) (f P s) M2 := by
  refine ⟨ls, h.2.1.tr wf, hi, ?_⟩
  rw [← h.2.2.2, show 150 - i = 150 - (i + 1) + 1 by omega, stps_go hs he]
theorem RG.rd {g : Nat → Nat} {n s : Nat} {I : Nat → Nat → Int32} (h : RG g n s I) : RD g n (.inl s) I := h
theorem r_X5_readAgain_0 : RW M_X5_readAgain 0 (.aload_n 1) 1 0 0 1 := ⟨rfl, rfl⟩
theorem r_X5_readAgain_1 : RW M_X5_readAgain 1 (.iload_n 3) 1 0 0 2 := ⟨rfl, rfl⟩
theorem r_X5_readAgain_2 : RW M_X5_readAgain 2 (.bipush 6) 2 0 0 4 := ⟨rfl, rfl⟩
theorem r_X5_readAgain_4 : RW M_X5_readAgain 4 (.if_icmp .ge 7) 3 11 0 7 := ⟨rfl, rfl⟩
theorem r_X5_readAgain_7 : RW M_X5_readAgain 7 (.iconst 1) 1 0 0 8 := ⟨rfl, rfl⟩
theorem r_X5_readAgain_8 : RW M_X5_readAgain 8 (.goto 4) 3 12 0 11 := ⟨rfl, rfl⟩
theorem r_X5_readAgain_11 : RW M_X5_readAgain 11 (.iconst 0) 1 0 0 12 := ⟨rfl, rfl⟩
theorem r_X5_readAgain_12 : RW M_X5_readAgain 12 (.invokevirtual 112) 3 87 0 15 := ⟨rfl, rfl⟩
theorem r_X5_readAgain_15 : RW M_X5_readAgain 15 (.ifCond .ne 4) 3 19 0 18 := ⟨rfl, rfl⟩
theorem r_X5_readAgain_18 : RW M_X5_readAgain 18 (.return_) 1 0 0 19 := ⟨rfl, rfl⟩
theorem r_X5_readAgain_19 : RW M_X5_readAgain 19 (.aload_n 0) 1 0 0 20 := ⟨rfl, rfl⟩
theorem r_X5_readAgain_20 : RW M_X5_readAgain 20 (.getfield 29) 3 5 4 23 := ⟨rfl, rfl⟩
theorem r_X5_readAgain_23 : RW M_X5_readAgain 23 (.istore 4) 2 0 0 25 := ⟨rfl, rfl⟩
theorem r_X5_readAgain_25 : RW M_X5_readAgain 25 (.aload_n 0) 1 0 0 26 := ⟨rfl, rfl⟩
theorem r_X5_readAgain_26 : RW M_X5_readAgain 26 (.getfield 14) 3 5 0 29 := ⟨rfl, rfl⟩
theorem r_X5_readAgain_29 : RW M_X5_readAgain 29 (.iload 4) 2 0 0 31 := ⟨rfl, rfl⟩
theorem r_X5_readAgain_31 : RW M_X5_readAgain 31 (.iconst 5) 1 0 0 32 := ⟨rfl, rfl⟩
theorem r_X5_readAgain_32 : RW M_X5_readAgain 32 (.invokevirtual 95) 3 93 0 35 := ⟨rfl, rfl⟩
theorem r_X5_readAgain_35 : RW M_X5_readAgain 35 (.aload_n 0) 1 0 0 36 := ⟨rfl, rfl⟩
theorem r_X5_readAgain_36 : RW M_X5_readAgain 36 (.dup) 1 0 0 37 := ⟨rfl, rfl⟩
theorem r_X5_readAgain_37 : RW M_X5_readAgain 37 (.getfield 29) 3 5 4 40 := ⟨rfl, rfl⟩
theorem r_X5_readAgain_40 : RW M_X5_readAgain 40 (.iconst 1) 1 0 0 41 := ⟨rfl, rfl⟩
theorem r_X5_readAgain_41 : RW M_X5_readAgain 41 (.iadd) 1 0 0 42 := ⟨rfl, rfl⟩
theorem r_X5_readAgain_42 : RW M_X5_readAgain 42 (.putfield 29) 3 5 4 45 := ⟨rfl, rfl⟩
theorem r_X5_readAgain_45 : RW M_X5_readAgain 45 (.aload_n 0) 1 0 0 46 := ⟨rfl, rfl⟩
theorem r_X5_readAgain_46 : RW M_X5_readAgain 46 (.getfield 20) 3 5 1 49 := ⟨rfl, rfl⟩
theorem r_X5_readAgain_49 : RW M_X5_readAgain 49 (.iload 4) 2 0 0 51 := ⟨rfl, rfl⟩
theorem r_X5_readAgain_51 : RW M_X5_readAgain 51 (.aload_n 1) 1 0 0 52 := ⟨rfl, rfl⟩
theorem r_X5_readAgain_52 : RW M_X5_readAgain 52 (.iconst 0) 1 0 0 53 := ⟨rfl, rfl⟩
theorem r_X5_readAgain_53 : RW M_X5_readAgain 53 (.bipush 40) 2 0 0 55 := ⟨rfl, rfl⟩
theorem r_X5_readAgain_55 : RW M_X5_readAgain 55 (.invokevirtual 91) 3 85 0 58 := ⟨rfl, rfl⟩
theorem r_X5_readAgain_58 : RW M_X5_readAgain 58 (.invokevirtual 95) 3 93 0 61 := ⟨rfl, rfl⟩
theorem r_X5_readAgain_61 : RW M_X5_readAgain 61 (.aload_n 1) 1 0 0 62 := ⟨rfl, rfl⟩
theorem r_X5_readAgain_62 : RW M_X5_readAgain 62 (.bipush 91) 2 0 0 64 := ⟨rfl, rfl⟩
theorem r_X5_readAgain_64 : RW M_X5_readAgain 64 (.invokevirtual 52) 3 86 0 67 := ⟨rfl, rfl⟩
theorem r_X5_readAgain_67 : RW M_X5_readAgain 67 (.iconst 0) 1 0 0 68 := ⟨rfl, rfl⟩
theorem r_X5_readAgain_68 : RW M_X5_readAgain 68 (.istore 5) 2 0 0 70 := ⟨rfl, rfl⟩
theorem r_X5_readAgain_70 : RW M_X5_readAgain 70 (.iload 5) 2 0 0 72 := ⟨rfl, rfl⟩
theorem r_X5_readAgain_72 : RW M_X5_readAgain 72 (.sipush 150) 3 0 0 75 := ⟨rfl, rfl⟩
theorem r_X5_readAgain_75 : RW M_X5_readAgain 75 (.if_icmp .ge 40) 3 115 0 78 := ⟨rfl, rfl⟩
theorem r_X5_readAgain_78 : RW M_X5_readAgain 78 (.aload_n 1) 1 0 0 79 := ⟨rfl, rfl⟩
theorem r_X5_readAgain_79 : RW M_X5_readAgain 79 (.invokevirtual 42) 3 81 0 82 := ⟨rfl, rfl⟩
theorem r_X5_readAgain_82 : RW M_X5_readAgain 82 (.ifCond .eq 33) 3 115 0 85 := ⟨rfl, rfl⟩
theorem r_X5_readAgain_85 : RW M_X5_readAgain 85 (.aload_n 1) 1 0 0 86 := ⟨rfl, rfl⟩
theorem r_X5_readAgain_86 : RW M_X5_readAgain 86 (.bipush 93) 2 0 0 88 := ⟨rfl, rfl⟩
theorem r_X5_readAgain_88 : RW M_X5_readAgain 88 (.invokevirtual 116) 3 83 0 91 := ⟨rfl, rfl⟩
theorem r_X5_readAgain_91 : RW M_X5_readAgain 91 (.ifCond .ne 24) 3 115 0 94 := ⟨rfl, rfl⟩
theorem r_X5_readAgain_94 : RW M_X5_readAgain 94 (.aload_n 0) 1 0 0 95 := ⟨rfl, rfl⟩
theorem r_X5_readAgain_95 : RW M_X5_readAgain 95 (.aload_n 1) 1 0 0 96 := ⟨rfl, rfl⟩
theorem r_X5_readAgain_96 : RW M_X5_readAgain 96 (.aload_n 2) 1 0 0 97 := ⟨rfl, rfl⟩
theorem r_X5_readAgain_97 : RW M_X5_readAgain 97 (.iload_n 3) 1 0 0 98 := ⟨rfl, rfl⟩
theorem r_X5_readAgain_98 : RW M_X5_readAgain 98 (.iconst 1) 1 0 0 99 := ⟨rfl, rfl⟩
theorem r_X5_readAgain_99 : RW M_X5_readAgain 99 (.iadd) 1 0 0 100 := ⟨rfl, rfl⟩
theorem r_X5_readAgain_100 : RW M_X5_readAgain 100 (.invokevirtual 48) 3 67 0 103 := ⟨rfl, rfl⟩
theorem r_X5_readAgain_103 : RW M_X5_readAgain 103 (.aload_n 1) 1 0 0 104 := ⟨rfl, rfl⟩
theorem r_X5_readAgain_104 : RW M_X5_readAgain 104 (.bipush 59) 2 0 0 106 := ⟨rfl, rfl⟩
theorem r_X5_readAgain_106 : RW M_X5_readAgain 106 (.invokevirtual 52) 3 86 0 109 := ⟨rfl, rfl⟩
theorem r_X5_readAgain_109 : RW M_X5_readAgain 109 (.iinc 5 1) 3 0 0 112 := ⟨rfl, rfl⟩
theorem r_X5_readAgain_112 : RW M_X5_readAgain 112 (.goto (-42)) 3 70 0 115 := ⟨rfl, rfl⟩
theorem r_X5_readAgain_115 : RW M_X5_readAgain 115 (.aload_n 1) 1 0 0 116 := ⟨rfl, rfl⟩
theorem r_X5_readAgain_116 : RW M_X5_readAgain 116 (.bipush 93) 2 0 0 118 := ⟨rfl, rfl⟩
theorem r_X5_readAgain_118 : RW M_X5_readAgain 118 (.invokevirtual 52) 3 86 0 121 := ⟨rfl, rfl⟩
theorem r_X5_readAgain_121 : RW M_X5_readAgain 121 (.aload_n 0) 1 0 0 122 := ⟨rfl, rfl⟩
theorem r_X5_readAgain_122 : RW M_X5_readAgain 122 (.getfield 23) 3 5 2 125 := ⟨rfl, rfl⟩
theorem r_X5_readAgain_125 : RW M_X5_readAgain 125 (.iload 4) 2 0 0 127 := ⟨rfl, rfl⟩
theorem r_X5_readAgain_127 : RW M_X5_readAgain 127 (.aload_n 0) 1 0 0 128 := ⟨rfl, rfl⟩
theorem r_X5_readAgain_128 : RW M_X5_readAgain 128 (.getfield 29) 3 5 4 131 := ⟨rfl, rfl⟩
theorem r_X5_readAgain_131 : RW M_X5_readAgain 131 (.invokevirtual 95) 3 93 0 134 := ⟨rfl, rfl⟩
theorem r_X5_readAgain_134 : RW M_X5_readAgain 134 (.return_) 1 0 0 135 := ⟨rfl, rfl⟩
theorem r_X5_readFrom_0 : RW M_X5_readFrom 0 (.aload_n 0) 1 0 0 1 := ⟨rfl, rfl⟩
theorem r_X5_readFrom_1 : RW M_X5_readFrom 1 (.iconst 0) 1 0 0 2 := ⟨rfl, rfl⟩
theorem r_X5_readFrom_2 : RW M_X5_readFrom 2 (.putfield 29) 3 5 4 5 := ⟨rfl, rfl⟩
theorem r_X5_readFrom_5 : RW M_X5_readFrom 5 (.aload_n 0) 1 0 0 6 := ⟨rfl, rfl⟩
theorem r_X5_readFrom_6 : RW M_X5_readFrom 6 (.iconst 0) 1 0 0 7 := ⟨rfl, rfl⟩
theorem r_X5_readFrom_7 : RW M_X5_readFrom 7 (.putfield 33) 3 5 5 10 := ⟨rfl, rfl⟩
theorem r_X5_readFrom_10 : RW M_X5_readFrom 10 (.aload_n 0) 1 0 0 11 := ⟨rfl, rfl⟩
theorem r_X5_readFrom_11 : RW M_X5_readFrom 11 (.iconst 0) 1 0 0 12 := ⟨rfl, rfl⟩
theorem r_X5_readFrom_12 : RW M_X5_readFrom 12 (.putfield 36) 3 5 6 15 := ⟨rfl, rfl⟩
theorem r_X5_readFrom_15 : RW M_X5_readFrom 15 (.aload_n 0) 1 0 0 16 := ⟨rfl, rfl⟩
theorem r_X5_readFrom_16 : RW M_X5_readFrom 16 (.iconst 0) 1 0 0 17 := ⟨rfl, rfl⟩
theorem r_X5_readFrom_17 : RW M_X5_readFrom 17 (.putfield 39) 3 5 7 20 := ⟨rfl, rfl⟩
theorem r_X5_readFrom_20 : RW M_X5_readFrom 20 (.iconst 0) 1 0 0 21 := ⟨rfl, rfl⟩
theorem r_X5_readFrom_21 : RW M_X5_readFrom 21 (.istore_n 3) 1 0 0 22 := ⟨rfl, rfl⟩
theorem r_X5_readFrom_22 : RW M_X5_readFrom 22 (.iload_n 3) 1 0 0 23 := ⟨rfl, rfl⟩
theorem r_X5_readFrom_23 : RW M_X5_readFrom 23 (.sipush 150) 3 0 0 26 := ⟨rfl, rfl⟩
theorem r_X5_readFrom_26 : RW M_X5_readFrom 26 (.if_icmp .ge 29) 3 55 0 29 := ⟨rfl, rfl⟩
theorem r_X5_readFrom_29 : RW M_X5_readFrom 29 (.aload_n 1) 1 0 0 30 := ⟨rfl, rfl⟩
theorem r_X5_readFrom_30 : RW M_X5_readFrom 30 (.invokevirtual 42) 3 81 0 33 := ⟨rfl, rfl⟩
theorem r_X5_readFrom_33 : RW M_X5_readFrom 33 (.ifCond .eq 22) 3 55 0 36 := ⟨rfl, rfl⟩
theorem r_X5_readFrom_36 : RW M_X5_readFrom 36 (.aload_n 0) 1 0 0 37 := ⟨rfl, rfl⟩
theorem r_X5_readFrom_37 : RW M_X5_readFrom 37 (.aload_n 1) 1 0 0 38 := ⟨rfl, rfl⟩
theorem r_X5_readFrom_38 : RW M_X5_readFrom 38 (.aload_n 2) 1 0 0 39 := ⟨rfl, rfl⟩
theorem r_X5_readFrom_39 : RW M_X5_readFrom 39 (.iconst 0) 1 0 0 40 := ⟨rfl, rfl⟩
theorem r_X5_readFrom_40 : RW M_X5_readFrom 40 (.invokevirtual 48) 3 67 0 43 := ⟨rfl, rfl⟩
theorem r_X5_readFrom_43 : RW M_X5_readFrom 43 (.aload_n 1) 1 0 0 44 := ⟨rfl, rfl⟩
theorem r_X5_readFrom_44 : RW M_X5_readFrom 44 (.bipush 59) 2 0 0 46 := ⟨rfl, rfl⟩
theorem r_X5_readFrom_46 : RW M_X5_readFrom 46 (.invokevirtual 52) 3 86 0 49 := ⟨rfl, rfl⟩
theorem r_X5_readFrom_49 : RW M_X5_readFrom 49 (.iinc 3 1) 3 0 0 52 := ⟨rfl, rfl⟩
theorem r_X5_readFrom_52 : RW M_X5_readFrom 52 (.goto (-30)) 3 22 0 55 := ⟨rfl, rfl⟩
theorem r_X5_readFrom_55 : RW M_X5_readFrom 55 (.return_) 1 0 0 56 := ⟨rfl, rfl⟩
theorem r_X5_readHowMuch_0 : RW M_X5_readHowMuch 0 (.aload_n 0) 1 0 0 1 := ⟨rfl, rfl⟩
theorem r_X5_readHowMuch_1 : RW M_X5_readHowMuch 1 (.getfield 26) 3 5 3 4 := ⟨rfl, rfl⟩
theorem r_X5_readHowMuch_4 : RW M_X5_readHowMuch 4 (.aload_n 0) 1 0 0 5 := ⟨rfl, rfl⟩
theorem r_X5_readHowMuch_5 : RW M_X5_readHowMuch 5 (.getfield 29) 3 5 4 8 := ⟨rfl, rfl⟩
theorem r_X5_readHowMuch_8 : RW M_X5_readHowMuch 8 (.iconst 1) 1 0 0 9 := ⟨rfl, rfl⟩
theorem r_X5_readHowMuch_9 : RW M_X5_readHowMuch 9 (.isub) 1 0 0 10 := ⟨rfl, rfl⟩
theorem r_X5_readHowMuch_10 : RW M_X5_readHowMuch 10 (.aload_n 1) 1 0 0 11 := ⟨rfl, rfl⟩
theorem r_X5_readHowMuch_11 : RW M_X5_readHowMuch 11 (.iconst 1) 1 0 0 12 := ⟨rfl, rfl⟩
theorem r_X5_readHowMuch_12 : RW M_X5_readHowMuch 12 (.bipush 9) 2 0 0 14 := ⟨rfl, rfl⟩
theorem r_X5_readHowMuch_14 : RW M_X5_readHowMuch 14 (.invokevirtual 91) 3 85 0 17 := ⟨rfl, rfl⟩
theorem r_X5_readHowMuch_17 : RW M_X5_readHowMuch 17 (.invokevirtual 95) 3 93 0 20 := ⟨rfl, rfl⟩
theorem r_X5_readHowMuch_20 : RW M_X5_readHowMuch 20 (.return_) 1 0 0 21 := ⟨rfl, rfl⟩
theorem r_X5_readStep_0 : RW M_X5_readStep 0 (.aload_n 1) 1 0 0 1 := ⟨rfl, rfl⟩
theorem r_X5_readStep_1 : RW M_X5_readStep 1 (.ldc 56) 2 13 1 3 := ⟨rfl, rfl⟩
theorem r_X5_readStep_3 : RW M_X5_readStep 3 (.invokevirtual 58) 3 84 0 6 := ⟨rfl, rfl⟩
theorem r_X5_readStep_6 : RW M_X5_readStep 6 (.ifCond .eq 25) 3 31 0 9 := ⟨rfl, rfl⟩
theorem r_X5_readStep_9 : RW M_X5_readStep 9 (.aload_n 0) 1 0 0 10 := ⟨rfl, rfl⟩
theorem r_X5_readStep_10 : RW M_X5_readStep 10 (.aload_n 1) 1 0 0 11 := ⟨rfl, rfl⟩
theorem r_X5_readStep_11 : RW M_X5_readStep 11 (.iconst 0) 1 0 0 12 := ⟨rfl, rfl⟩
theorem r_X5_readStep_12 : RW M_X5_readStep 12 (.invokevirtual 62) 3 68 0 15 := ⟨rfl, rfl⟩
theorem r_X5_readStep_15 : RW M_X5_readStep 15 (.aload_n 0) 1 0 0 16 := ⟨rfl, rfl⟩
theorem r_X5_readStep_16 : RW M_X5_readStep 16 (.aload_n 1) 1 0 0 17 := ⟨rfl, rfl⟩
theorem r_X5_readStep_17 : RW M_X5_readStep 17 (.aload_n 2) 1 0 0 18 := ⟨rfl, rfl⟩
theorem r_X5_readStep_18 : RW M_X5_readStep 18 (.getfield 66) 3 1 13 21 := ⟨rfl, rfl⟩
theorem r_X5_readStep_21 : RW M_X5_readStep 21 (.aload_n 2) 1 0 0 22 := ⟨rfl, rfl⟩
theorem r_X5_readStep_22 : RW M_X5_readStep 22 (.getfield 71) 3 1 12 25 := ⟨rfl, rfl⟩
theorem r_X5_readStep_25 : RW M_X5_readStep 25 (.invokevirtual 74) 3 69 0 28 := ⟨rfl, rfl⟩
theorem r_X5_readStep_28 : RW M_X5_readStep 28 (.goto 159) 3 187 0 31 := ⟨rfl, rfl⟩
theorem r_X5_readStep_31 : RW M_X5_readStep 31 (.aload_n 1) 1 0 0 32 := ⟨rfl, rfl⟩
theorem r_X5_readStep_32 : RW M_X5_readStep 32 (.ldc 78) 2 14 1 34 := ⟨rfl, rfl⟩
theorem r_X5_readStep_34 : RW M_X5_readStep 34 (.invokevirtual 58) 3 84 0 37 := ⟨rfl, rfl⟩
theorem r_X5_readStep_37 : RW M_X5_readStep 37 (.ifCond .eq 30) 3 67 0 40 := ⟨rfl, rfl⟩
theorem r_X5_readStep_40 : RW M_X5_readStep 40 (.aload_n 0) 1 0 0 41 := ⟨rfl, rfl⟩
theorem r_X5_readStep_41 : RW M_X5_readStep 41 (.aload_n 1) 1 0 0 42 := ⟨rfl, rfl⟩
theorem r_X5_readStep_42 : RW M_X5_readStep 42 (.iconst 1) 1 0 0 43 := ⟨rfl, rfl⟩
theorem r_X5_readStep_43 : RW M_X5_readStep 43 (.invokevirtual 62) 3 68 0 46 := ⟨rfl, rfl⟩
theorem r_X5_readStep_46 : RW M_X5_readStep 46 (.aload_n 0) 1 0 0 47 := ⟨rfl, rfl⟩
theorem r_X5_readStep_47 : RW M_X5_readStep 47 (.aload_n 1) 1 0 0 48 := ⟨rfl, rfl⟩
theorem r_X5_readStep_48 : RW M_X5_readStep 48 (.aload_n 2) 1 0 0 49 := ⟨rfl, rfl⟩
theorem r_X5_readStep_49 : RW M_X5_readStep 49 (.getfield 66) 3 1 13 52 := ⟨rfl, rfl⟩
theorem r_X5_readStep_52 : RW M_X5_readStep 52 (.aload_n 2) 1 0 0 53 := ⟨rfl, rfl⟩
theorem r_X5_readStep_53 : RW M_X5_readStep 53 (.getfield 71) 3 1 12 56 := ⟨rfl, rfl⟩
theorem r_X5_readStep_56 : RW M_X5_readStep 56 (.invokevirtual 74) 3 69 0 59 := ⟨rfl, rfl⟩
theorem r_X5_readStep_59 : RW M_X5_readStep 59 (.aload_n 0) 1 0 0 60 := ⟨rfl, rfl⟩
theorem r_X5_readStep_60 : RW M_X5_readStep 60 (.aload_n 1) 1 0 0 61 := ⟨rfl, rfl⟩
theorem r_X5_readStep_61 : RW M_X5_readStep 61 (.invokevirtual 80) 3 70 0 64 := ⟨rfl, rfl⟩
theorem r_X5_readStep_64 : RW M_X5_readStep 64 (.goto 123) 3 187 0 67 := ⟨rfl, rfl⟩
theorem r_X5_readStep_67 : RW M_X5_readStep 67 (.aload_n 1) 1 0 0 68 := ⟨rfl, rfl⟩
theorem r_X5_readStep_68 : RW M_X5_readStep 68 (.ldc 84) 2 15 1 70 := ⟨rfl, rfl⟩
theorem r_X5_readStep_70 : RW M_X5_readStep 70 (.invokevirtual 58) 3 84 0 73 := ⟨rfl, rfl⟩
theorem r_X5_readStep_73 : RW M_X5_readStep 73 (.ifCond .eq 30) 3 103 0 76 := ⟨rfl, rfl⟩
theorem r_X5_readStep_76 : RW M_X5_readStep 76 (.aload_n 0) 1 0 0 77 := ⟨rfl, rfl⟩
theorem r_X5_readStep_77 : RW M_X5_readStep 77 (.aload_n 1) 1 0 0 78 := ⟨rfl, rfl⟩
theorem r_X5_readStep_78 : RW M_X5_readStep 78 (.iconst 2) 1 0 0 79 := ⟨rfl, rfl⟩
theorem r_X5_readStep_79 : RW M_X5_readStep 79 (.invokevirtual 62) 3 68 0 82 := ⟨rfl, rfl⟩
theorem r_X5_readStep_82 : RW M_X5_readStep 82 (.aload_n 0) 1 0 0 83 := ⟨rfl, rfl⟩
theorem r_X5_readStep_83 : RW M_X5_readStep 83 (.aload_n 1) 1 0 0 84 := ⟨rfl, rfl⟩
theorem r_X5_readStep_84 : RW M_X5_readStep 84 (.aload_n 2) 1 0 0 85 := ⟨rfl, rfl⟩
theorem r_X5_readStep_85 : RW M_X5_readStep 85 (.getfield 66) 3 1 13 88 := ⟨rfl, rfl⟩
theorem r_X5_readStep_88 : RW M_X5_readStep 88 (.aload_n 2) 1 0 0 89 := ⟨rfl, rfl⟩
theorem r_X5_readStep_89 : RW M_X5_readStep 89 (.getfield 86) 3 1 10 92 := ⟨rfl, rfl⟩
theorem r_X5_readStep_92 : RW M_X5_readStep 92 (.invokevirtual 74) 3 69 0 95 := ⟨rfl, rfl⟩
theorem r_X5_readStep_95 : RW M_X5_readStep 95 (.aload_n 0) 1 0 0 96 := ⟨rfl, rfl⟩
theorem r_X5_readStep_96 : RW M_X5_readStep 96 (.aload_n 1) 1 0 0 97 := ⟨rfl, rfl⟩
theorem r_X5_readStep_97 : RW M_X5_readStep 97 (.invokevirtual 80) 3 70 0 100 := ⟨rfl, rfl⟩
theorem r_X5_readStep_100 : RW M_X5_readStep 100 (.goto 87) 3 187 0 103 := ⟨rfl, rfl⟩
theorem r_X5_readStep_103 : RW M_X5_readStep 103 (.aload_n 1) 1 0 0 104 := ⟨rfl, rfl⟩
theorem r_X5_readStep_104 : RW M_X5_readStep 104 (.ldc 89) 2 16 1 106 := ⟨rfl, rfl⟩
theorem r_X5_readStep_106 : RW M_X5_readStep 106 (.invokevirtual 58) 3 84 0 109 := ⟨rfl, rfl⟩
theorem r_X5_readStep_109 : RW M_X5_readStep 109 (.ifCond .eq 36) 3 145 0 112 := ⟨rfl, rfl⟩
theorem r_X5_readStep_112 : RW M_X5_readStep 112 (.aload_n 0) 1 0 0 113 := ⟨rfl, rfl⟩
theorem r_X5_readStep_113 : RW M_X5_readStep 113 (.aload_n 1) 1 0 0 114 := ⟨rfl, rfl⟩
theorem r_X5_readStep_114 : RW M_X5_readStep 114 (.iconst 3) 1 0 0 115 := ⟨rfl, rfl⟩
theorem r_X5_readStep_115 : RW M_X5_readStep 115 (.invokevirtual 62) 3 68 0 118 := ⟨rfl, rfl⟩
theorem r_X5_readStep_118 : RW M_X5_readStep 118 (.aload_n 0) 1 0 0 119 := ⟨rfl, rfl⟩
theorem r_X5_readStep_119 : RW M_X5_readStep 119 (.getfield 20) 3 5 1 122 := ⟨rfl, rfl⟩
theorem r_X5_readStep_122 : RW M_X5_readStep 122 (.aload_n 0) 1 0 0 123 := ⟨rfl, rfl⟩
theorem r_X5_readStep_123 : RW M_X5_readStep 123 (.getfield 29) 3 5 4 126 := ⟨rfl, rfl⟩
theorem r_X5_readStep_126 : RW M_X5_readStep 126 (.iconst 1) 1 0 0 127 := ⟨rfl, rfl⟩
theorem r_X5_readStep_127 : RW M_X5_readStep 127 (.isub) 1 0 0 128 := ⟨rfl, rfl⟩
theorem r_X5_readStep_128 : RW M_X5_readStep 128 (.aload_n 1) 1 0 0 129 := ⟨rfl, rfl⟩
theorem r_X5_readStep_129 : RW M_X5_readStep 129 (.iconst 0) 1 0 0 130 := ⟨rfl, rfl⟩
theorem r_X5_readStep_130 : RW M_X5_readStep 130 (.aload_n 2) 1 0 0 131 := ⟨rfl, rfl⟩
theorem r_X5_readStep_131 : RW M_X5_readStep 131 (.getfield 86) 3 1 10 134 := ⟨rfl, rfl⟩
theorem r_X5_readStep_134 : RW M_X5_readStep 134 (.iconst 1) 1 0 0 135 := ⟨rfl, rfl⟩
theorem r_X5_readStep_135 : RW M_X5_readStep 135 (.isub) 1 0 0 136 := ⟨rfl, rfl⟩
theorem r_X5_readStep_136 : RW M_X5_readStep 136 (.invokevirtual 91) 3 85 0 139 := ⟨rfl, rfl⟩
theorem r_X5_readStep_139 : RW M_X5_readStep 139 (.invokevirtual 95) 3 93 0 142 := ⟨rfl, rfl⟩
theorem r_X5_readStep_142 : RW M_X5_readStep 142 (.goto 45) 3 187 0 145 := ⟨rfl, rfl⟩
theorem r_X5_readStep_145 : RW M_X5_readStep 145 (.aload_n 1) 1 0 0 146 := ⟨rfl, rfl⟩
theorem r_X5_readStep_146 : RW M_X5_readStep 146 (.ldc 99) 2 17 1 148 := ⟨rfl, rfl⟩
theorem r_X5_readStep_148 : RW M_X5_readStep 148 (.invokevirtual 58) 3 84 0 151 := ⟨rfl, rfl⟩
theorem r_X5_readStep_151 : RW M_X5_readStep 151 (.ifCond .eq 12) 3 163 0 154 := ⟨rfl, rfl⟩
theorem r_X5_readStep_154 : RW M_X5_readStep 154 (.aload_n 0) 1 0 0 155 := ⟨rfl, rfl⟩
theorem r_X5_readStep_155 : RW M_X5_readStep 155 (.aload_n 1) 1 0 0 156 := ⟨rfl, rfl⟩
theorem r_X5_readStep_156 : RW M_X5_readStep 156 (.iconst 4) 1 0 0 157 := ⟨rfl, rfl⟩
theorem r_X5_readStep_157 : RW M_X5_readStep 157 (.invokevirtual 62) 3 68 0 160 := ⟨rfl, rfl⟩
theorem r_X5_readStep_160 : RW M_X5_readStep 160 (.goto 27) 3 187 0 163 := ⟨rfl, rfl⟩
theorem r_X5_readStep_163 : RW M_X5_readStep 163 (.aload_n 1) 1 0 0 164 := ⟨rfl, rfl⟩
theorem r_X5_readStep_164 : RW M_X5_readStep 164 (.ldc 101) 2 18 1 166 := ⟨rfl, rfl⟩
theorem r_X5_readStep_166 : RW M_X5_readStep 166 (.invokevirtual 58) 3 84 0 169 := ⟨rfl, rfl⟩
theorem r_X5_readStep_169 : RW M_X5_readStep 169 (.ifCond .eq 13) 3 182 0 172 := ⟨rfl, rfl⟩
theorem r_X5_readStep_172 : RW M_X5_readStep 172 (.aload_n 0) 1 0 0 173 := ⟨rfl, rfl⟩
theorem r_X5_readStep_173 : RW M_X5_readStep 173 (.aload_n 1) 1 0 0 174 := ⟨rfl, rfl⟩
theorem r_X5_readStep_174 : RW M_X5_readStep 174 (.aload_n 2) 1 0 0 175 := ⟨rfl, rfl⟩
theorem r_X5_readStep_175 : RW M_X5_readStep 175 (.iload_n 3) 1 0 0 176 := ⟨rfl, rfl⟩
theorem r_X5_readStep_176 : RW M_X5_readStep 176 (.invokevirtual 103) 3 71 0 179 := ⟨rfl, rfl⟩
theorem r_X5_readStep_179 : RW M_X5_readStep 179 (.goto 8) 3 187 0 182 := ⟨rfl, rfl⟩
theorem r_X5_readStep_182 : RW M_X5_readStep 182 (.aload_n 1) 1 0 0 183 := ⟨rfl, rfl⟩
theorem r_X5_readStep_183 : RW M_X5_readStep 183 (.iconst 1) 1 0 0 184 := ⟨rfl, rfl⟩
theorem r_X5_readStep_184 : RW M_X5_readStep 184 (.invokevirtual 106) 3 88 0 187 := ⟨rfl, rfl⟩
theorem r_X5_readStep_187 : RW M_X5_readStep 187 (.return_) 1 0 0 188 := ⟨rfl, rfl⟩
theorem r_X5_readWho_0 : RW M_X5_readWho 0 (.aload_n 0) 1 0 0 1 := ⟨rfl, rfl⟩
theorem r_X5_readWho_1 : RW M_X5_readWho 1 (.getfield 20) 3 5 1 4 := ⟨rfl, rfl⟩
theorem r_X5_readWho_4 : RW M_X5_readWho 4 (.aload_n 0) 1 0 0 5 := ⟨rfl, rfl⟩
theorem r_X5_readWho_5 : RW M_X5_readWho 5 (.getfield 29) 3 5 4 8 := ⟨rfl, rfl⟩
theorem r_X5_readWho_8 : RW M_X5_readWho 8 (.iconst 1) 1 0 0 9 := ⟨rfl, rfl⟩
theorem r_X5_readWho_9 : RW M_X5_readWho 9 (.isub) 1 0 0 10 := ⟨rfl, rfl⟩
theorem r_X5_readWho_10 : RW M_X5_readWho 10 (.aload_n 1) 1 0 0 11 := ⟨rfl, rfl⟩
theorem r_X5_readWho_11 : RW M_X5_readWho 11 (.iconst 0) 1 0 0 12 := ⟨rfl, rfl⟩
theorem r_X5_readWho_12 : RW M_X5_readWho 12 (.iload_n 2) 1 0 0 13 := ⟨rfl, rfl⟩
theorem r_X5_readWho_13 : RW M_X5_readWho 13 (.iconst 1) 1 0 0 14 := ⟨rfl, rfl⟩
theorem r_X5_readWho_14 : RW M_X5_readWho 14 (.isub) 1 0 0 15 := ⟨rfl, rfl⟩
theorem r_X5_readWho_15 : RW M_X5_readWho 15 (.invokevirtual 91) 3 85 0 18 := ⟨rfl, rfl⟩
theorem r_X5_readWho_18 : RW M_X5_readWho 18 (.invokevirtual 95) 3 93 0 21 := ⟨rfl, rfl⟩
theorem r_X5_readWho_21 : RW M_X5_readWho 21 (.aload_n 0) 1 0 0 22 := ⟨rfl, rfl⟩
theorem r_X5_readWho_22 : RW M_X5_readWho 22 (.getfield 23) 3 5 2 25 := ⟨rfl, rfl⟩
theorem r_X5_readWho_25 : RW M_X5_readWho 25 (.aload_n 0) 1 0 0 26 := ⟨rfl, rfl⟩
theorem r_X5_readWho_26 : RW M_X5_readWho 26 (.getfield 29) 3 5 4 29 := ⟨rfl, rfl⟩
theorem r_X5_readWho_29 : RW M_X5_readWho 29 (.iconst 1) 1 0 0 30 := ⟨rfl, rfl⟩
theorem r_X5_readWho_30 : RW M_X5_readWho 30 (.isub) 1 0 0 31 := ⟨rfl, rfl⟩
theorem r_X5_readWho_31 : RW M_X5_readWho 31 (.aload_n 1) 1 0 0 32 := ⟨rfl, rfl⟩
theorem r_X5_readWho_32 : RW M_X5_readWho 32 (.iconst 0) 1 0 0 33 := ⟨rfl, rfl⟩
theorem r_X5_readWho_33 : RW M_X5_readWho 33 (.iload_n 3) 1 0 0 34 := ⟨rfl, rfl⟩
theorem r_X5_readWho_34 : RW M_X5_readWho 34 (.iconst 1) 1 0 0 35 := ⟨rfl, rfl⟩
theorem r_X5_readWho_35 : RW M_X5_readWho 35 (.isub) 1 0 0 36 := ⟨rfl, rfl⟩
theorem r_X5_readWho_36 : RW M_X5_readWho 36 (.invokevirtual 91) 3 85 0 39 := ⟨rfl, rfl⟩
theorem r_X5_readWho_39 : RW M_X5_readWho 39 (.invokevirtual 95) 3 93 0 42 := ⟨rfl, rfl⟩
theorem r_X5_readWho_42 : RW M_X5_readWho 42 (.return_) 1 0 0 43 := ⟨rfl, rfl⟩
theorem r_X5_startStep_0 : RW M_X5_startStep 0 (.aload_n 1) 1 0 0 1 := ⟨rfl, rfl⟩
theorem r_X5_startStep_1 : RW M_X5_startStep 1 (.invokevirtual 109) 3 78 0 4 := ⟨rfl, rfl⟩
theorem r_X5_startStep_4 : RW M_X5_startStep 4 (.aload_n 0) 1 0 0 5 := ⟨rfl, rfl⟩
theorem r_X5_startStep_5 : RW M_X5_startStep 5 (.getfield 14) 3 5 0 8 := ⟨rfl, rfl⟩
theorem r_X5_startStep_8 : RW M_X5_startStep 8 (.aload_n 0) 1 0 0 9 := ⟨rfl, rfl⟩
theorem r_X5_startStep_9 : RW M_X5_startStep 9 (.getfield 29) 3 5 4 12 := ⟨rfl, rfl⟩
theorem r_X5_startStep_12 : RW M_X5_startStep 12 (.iload_n 2) 1 0 0 13 := ⟨rfl, rfl⟩
theorem r_X5_startStep_13 : RW M_X5_startStep 13 (.invokevirtual 95) 3 93 0 16 := ⟨rfl, rfl⟩
theorem r_X5_startStep_16 : RW M_X5_startStep 16 (.aload_n 0) 1 0 0 17 := ⟨rfl, rfl⟩
theorem r_X5_startStep_17 : RW M_X5_startStep 17 (.dup) 1 0 0 18 := ⟨rfl, rfl⟩
theorem r_X5_startStep_18 : RW M_X5_startStep 18 (.getfield 29) 3 5 4 21 := ⟨rfl, rfl⟩
theorem r_X5_startStep_21 : RW M_X5_startStep 21 (.iconst 1) 1 0 0 22 := ⟨rfl, rfl⟩
theorem r_X5_startStep_22 : RW M_X5_startStep 22 (.iadd) 1 0 0 23 := ⟨rfl, rfl⟩
theorem r_X5_startStep_23 : RW M_X5_startStep 23 (.putfield 29) 3 5 4 26 := ⟨rfl, rfl⟩
theorem r_X5_startStep_26 : RW M_X5_startStep 26 (.return_) 1 0 0 27 := ⟨rfl, rfl⟩
theorem c_startS {d : Nat} {I : Nat → Nat → Int32} {J : Nat → Nat → Int64} {g : Nat → Nat} {n s m k : Nat} (gb : ∀ j, g j < 256) (hn : n ≤ 150) (tp : ∀ j, j < 600 → I 3 j = nI (g j)) (rg : RG g n s I) (em : I 62 4 = nI m) (m150 : m < 150)  (hd : 5 ≤ d) : RU d 68 [.ref 62, .ref 1, .int (nI k)] I J (fun I' => RG g n (nxp g n s) I' ∧ I' 62 4 = nI (m + 1) ∧ I' 64 = wr I 64 m (nI k) 64 ∧ (∀ o, o ≠ 1 → o ≠ 62 → o ≠ 64 → I' o = I o) ∧ ∀ j, j ≠ 4 → I' 62 j = I 62 j) := by
  refine RU.in (d0 := 4) hd mt_68 (Nat.le_of_ble_eq_true rfl) (fun d' hd' => ?_)
  show EV none M_X5_startStep d' 0 [(0, .ref 62), (1, .ref 1), (2, .int (nI k))] [] (hp I J) _
  refine EV.l (lv' := [(0, _), (1, _), (2, _)]) r_X5_startStep_0 rfl ?_
  refine EV.cu r_X5_startStep_1 (aV0 mt_78 la_1) (c_advance tp gb rg.en (by omega) rg.rc.pe (pep_le rg.sn) (by omega)) (fun I2 h2 => ?_)
  obtain ⟨rc2, fr2⟩ := h2
  have rg2 := rg.ad rc2 fr2
  have em2 : I2 62 4 = nI m := (congrFun (fr2.1 62 (by decide)) 4).trans em
  refine EV.l (lv' := [(0, _), (1, _), (2, _)]) r_X5_startStep_4 rfl ?_
  refine EV.gR r_X5_startStep_5 la_62 ?_
  refine EV.l (lv' := [(0, _), (1, _), (2, _)]) r_X5_startStep_8 rfl ?_
  refine EV.getV r_X5_startStep_9 la_62 (em2) ?_
  refine EV.l (lv' := [(0, _), (1, _), (2, _)]) r_X5_startStep_12 rfl ?_
  refine EV.cu r_X5_startStep_13 (aV2 mt_93 la_63) (c_set la_63 la_64 (by decide) (by decide) (by omega) (by omega)) (fun I3 e3 => ?_)
  have em3 : I3 62 4 = nI m := (congrFun ((congrFun e3 62).trans (wr_row (by decide))) 4).trans em2
  refine EV.l (lv' := [(0, _), (1, _), (2, _)]) r_X5_startStep_16 rfl ?_
  refine EV.o r_X5_startStep_17 rfl ?_
  refine EV.getV r_X5_startStep_18 la_62 (em3) ?_
  refine EV.o r_X5_startStep_21 (icN (1) (v := 1)) ?_
  refine EV.o r_X5_startStep_22 iaddN ?_
  refine EV.pIn r_X5_startStep_23 la_62 (fun I4 e4 => ?_)
  exact EV.ru r_X5_startStep_26 (⟨RD.fr (r := .inl (nxp g n s)) rg2 (by rw [e4, wr_row (by decide), e3, wr_row (by decide)]), by rw [e4]; exact wr_same, by rw [e4, wr_row (by decide), e3]; exact wr_cg (fr2.1 64 (by decide)), fun o p1 p2 p3 => by rw [e4, wr_row p2, e3, wr_row p3]; exact fr2.1 o p1, fun j hj => by rw [e4, wr_ne (Or.inr hj), e3, wr_row (by decide)]; exact congrFun (fr2.1 62 (by decide)) j⟩)
theorem c_who {d : Nat} {I : Nat → Nat → Int32} {J : Nat → Nat → Int64} {g : Nat → Nat} {n m : Nat} {r : RST} (gb : ∀ j, g j < 256) (hn : n ≤ 150) (tp : ∀ j, j < 600 → I 3 j = nI (g j)) (rd : RD g n r I) (em : I 62 4 = nI (m + 1)) (m150 : m < 150) {h1 h2 : Nat} (h1n : h1 ≤ 9) (h2n : h2 ≤ 9)  (hd : 5 ≤ d) : RU d 69 [.ref 62, .ref 1, .int (nI h1), .int (nI h2)] I J (fun I' => ∃ x y : Nat, RD g n (tX g n h2 (tX g n h1 r).2).2 I' ∧ (∀ s2, (tX g n h2 (tX g n h1 r).2).2 = .inl s2 → x = (tX g n h1 r).1 ∧ y = (tX g n h2 (tX g n h1 r).2).1) ∧ I' 66 = wr I 66 m (nI x) 66 ∧ I' 68 = wr I 68 m (nI y) 68 ∧ ∀ o, o ≠ 1 → o ≠ 66 → o ≠ 68 → I' o = I o) := by
  refine RU.in (d0 := 4) hd mt_69 (Nat.le_of_ble_eq_true rfl) (fun d' hd' => ?_)
  show EV none M_X5_readWho d' 0 [(0, .ref 62), (1, .ref 1), (2, .int (nI h1)), (3, .int (nI h2))] [] (hp I J) _
  refine EV.l (lv' := [(0, _), (1, _), (2, _), (3, _)]) r_X5_readWho_0 rfl ?_
  refine EV.gR r_X5_readWho_1 la_62 ?_
  refine EV.l (lv' := [(0, _), (1, _), (2, _), (3, _)]) r_X5_readWho_4 rfl ?_
  refine EV.getV r_X5_readWho_5 la_62 (em) ?_
  refine EV.o r_X5_readWho_8 (icN (1) (v := 1)) ?_
  refine EV.o r_X5_readWho_9 (isubN) ?_
  rw [Nat.add_sub_cancel]
  refine EV.l (lv' := [(0, _), (1, _), (2, _), (3, _)]) r_X5_readWho_10 rfl ?_
  refine EV.o r_X5_readWho_11 (icN (0) (v := 0)) ?_
  refine EV.l (lv' := [(0, _), (1, _), (2, _), (3, _)]) r_X5_readWho_12 rfl ?_
  refine EV.o r_X5_readWho_13 (icN (1) (v := 1)) ?_
  refine EV.o r_X5_readWho_14 (isubNZ) ?_
  refine EV.ci r_X5_readWho_15 (aV2 mt_85 la_1) (c_numZ (hi := (h1 : Int) - ((1 : Nat) : Int)) tp gb (by omega) rd (by omega) (by omega) (by omega)) (fun v I2 h2q => ?_)
  obtain ⟨x, e, rd2, xe, ro2⟩ := h2q
  subst e
  have em2 : I2 62 4 = nI (m + 1) := (congrFun (ro2 62 (by decide)) 4).trans em
  refine EV.cu r_X5_readWho_18 (aV2 mt_93 la_65) (c_set la_65 la_66 (by decide) (by decide) (by omega) (by omega)) (fun I3 e3 => ?_)
  have em3 : I3 62 4 = nI (m + 1) := (congrFun ((congrFun e3 62).trans (wr_row (by decide))) 4).trans em2
  refine EV.l (lv' := [(0, _), (1, _), (2, _), (3, _)]) r_X5_readWho_21 rfl ?_
  refine EV.gR r_X5_readWho_22 la_62 ?_
  refine EV.l (lv' := [(0, _), (1, _), (2, _), (3, _)]) r_X5_readWho_25 rfl ?_
  refine EV.getV r_X5_readWho_26 la_62 (em3) ?_
  refine EV.o r_X5_readWho_29 (icN (1) (v := 1)) ?_
  refine EV.o r_X5_readWho_30 (isubN) ?_
  rw [Nat.add_sub_cancel]
  refine EV.l (lv' := [(0, _), (1, _), (2, _), (3, _)]) r_X5_readWho_31 rfl ?_
  refine EV.o r_X5_readWho_32 (icN (0) (v := 0)) ?_
  refine EV.l (lv' := [(0, _), (1, _), (2, _), (3, _)]) r_X5_readWho_33 rfl ?_
  refine EV.o r_X5_readWho_34 (icN (1) (v := 1)) ?_
  refine EV.o r_X5_readWho_35 (isubNZ) ?_
  refine EV.ci r_X5_readWho_36 (aV2 mt_85 la_1) (c_numZ (hi := (h2 : Int) - ((1 : Nat) : Int)) (tp_fr tp (by rw [e3, wr_row (by decide)]; exact ro2 3 (by decide))) gb (by omega) (RD.fr rd2 (by rw [e3, wr_row (by decide)])) (by omega) (by omega) (by omega)) (fun v I4 h4q => ?_)
  obtain ⟨y, e, rd4, ye, ro4⟩ := h4q
  subst e
  have em4 : I4 62 4 = nI (m + 1) := (congrFun (ro4 62 (by decide)) 4).trans em3
  refine EV.cu r_X5_readWho_39 (aV2 mt_93 la_67) (c_set la_67 la_68 (by decide) (by decide) (by omega) (by omega)) (fun I5 e5 => ?_)
  exact EV.ru r_X5_readWho_42 (⟨x, y, RD.fr rd4 (by rw [e5, wr_row (by decide)]), fun s2 e => by obtain ⟨s3, e3b⟩ := tkN_ok e; exact ⟨xe s3 e3b, ye s2 e⟩, by rw [e5, wr_row (by decide), ro4 66 (by decide), e3]; exact wr_cg (ro2 66 (by decide)), by rw [e5]; exact wr_cg (by rw [ro4 68 (by decide), e3, wr_row (by decide)]; exact ro2 68 (by decide)), fun o p1 p2 p3 => by rw [e5, wr_row p3, ro4 o p1, e3, wr_row p2]; exact ro2 o p1⟩)
theorem c_how {d : Nat} {I : Nat → Nat → Int32} {J : Nat → Nat → Int64} {g : Nat → Nat} {n m : Nat} {r : RST} (gb : ∀ j, g j < 256) (hn : n ≤ 150) (tp : ∀ j, j < 600 → I 3 j = nI (g j)) (rd : RD g n r I) (em : I 62 4 = nI (m + 1)) (m150 : m < 150)  (hd : 5 ≤ d) : RU d 70 [.ref 62, .ref 1] I J (fun I' => ∃ x : Nat, RD g n (tH g n r).2 I' ∧ (∀ s2, (tH g n r).2 = .inl s2 → x = (tH g n r).1) ∧ I' 70 = wr I 70 m (nI x) 70 ∧ ∀ o, o ≠ 1 → o ≠ 70 → I' o = I o) := by
  refine RU.in (d0 := 4) hd mt_70 (Nat.le_of_ble_eq_true rfl) (fun d' hd' => ?_)
  show EV none M_X5_readHowMuch d' 0 [(0, .ref 62), (1, .ref 1)] [] (hp I J) _
  refine EV.l (lv' := [(0, _), (1, _)]) r_X5_readHowMuch_0 rfl ?_
  refine EV.gR r_X5_readHowMuch_1 la_62 ?_
  refine EV.l (lv' := [(0, _), (1, _)]) r_X5_readHowMuch_4 rfl ?_
  refine EV.getV r_X5_readHowMuch_5 la_62 (em) ?_
  refine EV.o r_X5_readHowMuch_8 (icN (1) (v := 1)) ?_
  refine EV.o r_X5_readHowMuch_9 (isubN) ?_
  rw [Nat.add_sub_cancel]
  refine EV.l (lv' := [(0, _), (1, _)]) r_X5_readHowMuch_10 rfl ?_
  refine EV.o r_X5_readHowMuch_11 (icN (1) (v := 1)) ?_
  refine EV.o r_X5_readHowMuch_12 (bpN (9) 9) ?_
  refine EV.ci r_X5_readHowMuch_14 (aV2 mt_85 la_1) (c_numN (lo := 1) (hi := 9) tp gb (by omega) rd (by omega) (by omega) (by omega)) (fun v I2 h2q => ?_)
  obtain ⟨x, e, x1, x9, rd2, xe, ro2⟩ := h2q
  subst e
  refine EV.cu r_X5_readHowMuch_17 (aV2 mt_93 la_69) (c_set la_69 la_70 (by decide) (by decide) (by omega) (by omega)) (fun I3 e3 => ?_)
  exact EV.ru r_X5_readHowMuch_20 (⟨x, RD.fr rd2 (by rw [e3, wr_row (by decide)]), xe, by rw [e3]; exact wr_cg (ro2 70 (by decide)), fun o p1 p2 => by rw [e3, wr_row p2]; exact ro2 o p1⟩)
theorem c_agn0 {d : Nat} {I : Nat → Nat → Int32} {J : Nat → Nat → Int64} {g : Nat → Nat} {n s k : Nat} {κ : CT} {P : PL} (gb : ∀ j, g j < 256) (hn : n ≤ 150) (cb : CB κ) (hs : s < n) (ls : LSw g n κ (P, .inl s) I) (hw : isW g n s tAgai = true) (hk : k = 6)  (hd : 6 ≤ d) : RU d 71 [.ref 62, .ref 1, .ref 4, .int (nI k)] I J (fun I' => LSw g n κ (P, .inr (3, s)) I' ∧ WF I I') := by
  refine RU.in (d0 := 5) hd mt_71 (Nat.le_of_ble_eq_true rfl) (fun d' hd' => ?_)
  show EV none M_X5_readAgain d' 0 [(0, .ref 62), (1, .ref 1), (2, .ref 4), (3, .int (nI k))] [] (hp I J) _
  refine EV.l (lv' := [(0, _), (1, _), (2, _), (3, _)]) r_X5_readAgain_0 rfl ?_
  refine EV.l (lv' := [(0, _), (1, _), (2, _), (3, _)]) r_X5_readAgain_1 rfl ?_
  refine EV.o r_X5_readAgain_2 (bpN (6) 6) ?_
  refine EV.n2_ge r_X5_readAgain_4 (fun h4 => ?_) (fun h4 => ?_)
  · -- 4 t
    refine EV.o r_X5_readAgain_11 (icN (0) (v := 0)) ?_
    refine EV.ci r_X5_readAgain_12 (aV1 mt_87 la_1) (c_room0 ls.rg (by omega)) (fun v I2 h2 => ?_)
    obtain ⟨e, rb2, ro2⟩ := h2
    subst e
    refine EV.n0_ne r_X5_readAgain_15 (fun h15 => ?_) (fun h15 => ?_)
    · omega
    · -- 15 f
      exact EV.ru r_X5_readAgain_18 (⟨ls.mk ro2.wf (r := .inr (3, s)) rb2 (fun s2 e => inr_ne e), ro2.wf⟩)
  · -- 4 f
    refine EV.o r_X5_readAgain_7 (icN (1) (v := 1)) ?_
    refine EV.g r_X5_readAgain_8 ?_
    omega
theorem c_agn1 {d : Nat} {I : Nat → Nat → Int32} {J : Nat → Nat → Int64} {g : Nat → Nat} {n s k : Nat} {κ : CT} {P : PL} (gb : ∀ j, g j < 256) (hn : n ≤ 150) (cb : CB κ) (hs : s < n) (ls : LSw g n κ (P, .inl s) I) (hw : isW g n s tAgai = true) (hk : k < 6) {f : PL → Nat → WX} {D : Nat} (hD : 5 ≤ D) (ih : CUs D (k + 1) g n κ f)  (hd : D + 1 ≤ d) : RU d 71 [.ref 62, .ref 1, .ref 4, .int (nI k)] I J (fun I' => LSw g n κ (stAgn g n (stps n (enB g n) (sgs g n f) 150) P s) I' ∧ WF I I') := by
  refine RU.in (d0 := D) hd mt_71 (Nat.le_of_ble_eq_true rfl) (fun d' hd' => ?_)
  have em := ls.pc.1
  have m4 := ls.m4
  show EV none M_X5_readAgain d' 0 [(0, .ref 62), (1, .ref 1), (2, .ref 4), (3, .int (nI k))] [] (hp I J) _
  refine EV.l (lv' := [(0, _), (1, _), (2, _), (3, _)]) r_X5_readAgain_0 rfl ?_
  refine EV.l (lv' := [(0, _), (1, _), (2, _), (3, _)]) r_X5_readAgain_1 rfl ?_
  refine EV.o r_X5_readAgain_2 (bpN (6) 6) ?_
  refine EV.n2_ge r_X5_readAgain_4 (fun h4 => ?_) (fun h4 => ?_)
  · -- 4 t
    refine EV.o r_X5_readAgain_11 (icN (0) (v := 0)) ?_
    omega
  · -- 4 f
    refine EV.o r_X5_readAgain_7 (icN (1) (v := 1)) ?_
    refine EV.g r_X5_readAgain_8 ?_
    refine EV.ci r_X5_readAgain_12 (aV1 mt_87 la_1) (c_room1 ls.1 gb (by omega) ls.rg (by omega)) (fun v I2 h2 => ?_)
    obtain ⟨e, rg2, ro2⟩ := h2
    subst e
    refine EV.n0_ne r_X5_readAgain_15 (fun h15 => ?_) (fun h15 => ?_)
    · -- 15 t
      refine EV.l (lv' := [(0, _), (1, _), (2, _), (3, _)]) r_X5_readAgain_19 rfl ?_
      refine EV.getV r_X5_readAgain_20 la_62 (((congrFun (ro2 62 (by decide)) 4).trans em)) ?_
      refine EV.l (lv' := [(0, _), (1, _), (2, _), (3, _), (4, _)]) r_X5_readAgain_23 rfl ?_
      refine EV.l (lv' := [(0, _), (1, _), (2, _), (3, _), (4, _)]) r_X5_readAgain_25 rfl ?_
      refine EV.gR r_X5_readAgain_26 la_62 ?_
      refine EV.l (lv' := [(0, _), (1, _), (2, _), (3, _), (4, _)]) r_X5_readAgain_29 rfl ?_
      refine EV.o r_X5_readAgain_31 (icN (5) (v := 5)) ?_
      refine EV.cu r_X5_readAgain_32 (aV2 mt_93 la_63) (c_set la_63 la_64 (by decide) (by decide) (by omega) (by omega)) (fun I3 e3 => ?_)
      have em3 : I3 62 4 = nI P.m := (congrFun ((congrFun e3 62).trans (wr_row (by decide))) 4).trans ((congrFun (ro2 62 (by decide)) 4).trans em)
      refine EV.l (lv' := [(0, _), (1, _), (2, _), (3, _), (4, _)]) r_X5_readAgain_35 rfl ?_
      refine EV.o r_X5_readAgain_36 rfl ?_
      refine EV.getV r_X5_readAgain_37 la_62 (em3) ?_
      refine EV.o r_X5_readAgain_40 (icN (1) (v := 1)) ?_
      refine EV.o r_X5_readAgain_41 iaddN ?_
      refine EV.pIn r_X5_readAgain_42 la_62 (fun I4 e4 => ?_)
      refine EV.l (lv' := [(0, _), (1, _), (2, _), (3, _), (4, _)]) r_X5_readAgain_45 rfl ?_
      refine EV.gR r_X5_readAgain_46 la_62 ?_
      refine EV.l (lv' := [(0, _), (1, _), (2, _), (3, _), (4, _)]) r_X5_readAgain_49 rfl ?_
      refine EV.l (lv' := [(0, _), (1, _), (2, _), (3, _), (4, _)]) r_X5_readAgain_51 rfl ?_
      refine EV.o r_X5_readAgain_52 (icN (0) (v := 0)) ?_
      refine EV.o r_X5_readAgain_53 (bpN (40) 40) ?_
      refine EV.ci r_X5_readAgain_55 (aV2 mt_85 la_1) (c_numN (lo := 0) (hi := 40) (tp_fr ls.1 (by rw [e4, wr_row (by decide), e3, wr_row (by decide)]; exact ro2 3 (by decide))) gb (by omega) (r := .inl (nxp g n s)) (RD.fr (r := .inl (nxp g n s)) rg2 (by rw [e4, wr_row (by decide), e3, wr_row (by decide)])) (by omega) (by omega) (by omega)) (fun v I5 h5 => ?_)
      obtain ⟨x, e, x0, x4, rd5, xe, ro5⟩ := h5
      subst e
      refine EV.cu r_X5_readAgain_58 (aV2 mt_93 la_65) (c_set la_65 la_66 (by decide) (by decide) (by omega) (by omega)) (fun I6 e6 => ?_)
      refine EV.l (lv' := [(0, _), (1, _), (2, _), (3, _), (4, _)]) r_X5_readAgain_61 rfl ?_
      refine EV.o r_X5_readAgain_62 (bpN (91) 91) ?_
      refine EV.cu r_X5_readAgain_64 (aV1 mt_86 la_1) (c_sign (tp_fr ls.1 (by rw [e6, wr_row (by decide), ro5 3 (by decide), e4, wr_row (by decide), e3, wr_row (by decide)]; exact ro2 3 (by decide))) gb (by omega) (r := (agT g n s).2) (RD.fr rd5 (by rw [e6, wr_row (by decide)])) (by decide) (by omega)) (fun I7 h7 => ?_)
      obtain ⟨rd7, ro7⟩ := h7
      have wf7 : WF I I7 := ⟨fun o p1 p2 => by rw [ro7 o p1, e6, wr_row (by omega), ro5 o p1, e4, wr_row (by omega), e3, wr_row (by omega)]; exact ro2 o p1, fun j hj => by rw [ro7 62 (by decide), e6, wr_row (by decide), ro5 62 (by decide), e4, wr_ne (Or.inr hj), e3, wr_row (by decide)]; exact congrFun (ro2 62 (by decide)) j⟩
      have h62 : I7 62 4 = nI (P.m + 1) := by rw [ro7 62 (by decide), e6, wr_row (by decide), ro5 62 (by decide), e4]; exact wr_same
      have h64 : I7 64 = wr I 64 P.m (nI 5) 64 := by rw [ro7 64 (by decide), e6, wr_row (by decide), ro5 64 (by decide), e4, wr_row (by decide), e3]; exact wr_cg (ro2 64 (by decide))
      have h66 : I7 66 = wr I 66 P.m (nI x) 66 := by rw [ro7 66 (by decide), e6]; exact wr_cg (by rw [ro5 66 (by decide), e4, wr_row (by decide), e3, wr_row (by decide)]; exact ro2 66 (by decide))
      have h68 : I7 68 = I 68 := by rw [ro7 68 (by decide), e6, wr_row (by decide), ro5 68 (by decide), e4, wr_row (by decide), e3, wr_row (by decide)]; exact ro2 68 (by decide)
      have h70 : I7 70 = I 70 := by rw [ro7 70 (by decide), e6, wr_row (by decide), ro5 70 (by decide), e4, wr_row (by decide), e3, wr_row (by decide)]; exact ro2 70 (by decide)
      have ls7 : LSw g n κ (agX g n P s) I7 := ls.mk wf7 rd7 (fun s2 e => by
      obtain ⟨s6, e7, h7b, -⟩ := tkS_q e
      have p := tkN_q (show (tkN g n 0 ((40 : Nat) : Int) (.inl (nxp g n s))).2 = .inl s6 from e7)
      have w := (isW_nx hw (by decide)).2.1
      have w2 : tAgai.length = 5 := rfl
      refine ⟨ls.pc.add h62 h64 (fun j hj => by rw [h66, wr_ne (Or.inr (by omega))]) (fun _ => by rw [h66, wr_same, xe s6 e7]; rfl) (fun j hj => by rw [h68]) (fun z => absurd z (by omega)) (fun j hj => by rw [h70]) (fun z => absurd z (by omega)), ?_⟩
      show 4 * (P.m + 1) ≤ s2
      omega)
      refine EV.o r_X5_readAgain_67 (icN (0) (v := 0)) ?_
      refine EV.l (lv' := [(0, _), (1, _), (2, _), (3, _), (4, _), (5, _)]) r_X5_readAgain_68 rfl ?_
      have L70 : ∀ y_ : Nat × WX × (Nat → Nat → Int32), (fun y => SWI g n κ (enB g n) (sgs g n f) (agX g n P s) I7 y.1 y.2.1 y.2.2 → EV none M_X5_readAgain d' 70 [(0, .ref 62), (1, .ref 1), (2, .ref 4), (3, .int (nI k)), (4, .int (nI P.m)), (5, .int (nI y.1))] [] (hp y.2.2 J) (QU J (fun I' => LSw g n κ (stAgn g n (stps n (enB g n) (sgs g n f) 150) P s) I' ∧ WF I I'))) y_ := by
        refine ev_loop (fun y => 150 - y.1) ?_
        intro ⟨i, x2, M⟩ ih70 hx70
        try dsimp only at ih70
        try dsimp only at hx70
        try dsimp only
        have i150 := hx70.2.2.1
        refine EV.l (lv' := [(0, _), (1, _), (2, _), (3, _), (4, _), (5, _)]) r_X5_readAgain_70 rfl ?_
        refine EV.o r_X5_readAgain_72 (spN (150) 150) ?_
        refine EV.n2_ge r_X5_readAgain_75 (fun h75 => ?_) (fun h75 => ?_)
        · -- 75 t
          have fz := hx70.fin (Or.inl (by omega))
          refine EV.l (lv' := [(0, _), (1, _), (2, _), (3, _), (4, _), (5, _)]) r_X5_readAgain_115 rfl ?_
          refine EV.o r_X5_readAgain_116 (bpN (93) 93) ?_
          refine EV.cu r_X5_readAgain_118 (aV1 mt_86 la_1) (c_sign fz.1.1 gb (by omega) fz.1.2.1 (by decide) (by omega)) (fun IA hA => ?_)
          have lsA := fz.1.sgs hA.1 hA.2
          refine EV.l (lv' := [(0, _), (1, _), (2, _), (3, _), (4, _), (5, _)]) r_X5_readAgain_121 rfl ?_
          refine EV.gR r_X5_readAgain_122 la_62 ?_
          refine EV.l (lv' := [(0, _), (1, _), (2, _), (3, _), (4, _), (5, _)]) r_X5_readAgain_125 rfl ?_
          refine EV.l (lv' := [(0, _), (1, _), (2, _), (3, _), (4, _), (5, _)]) r_X5_readAgain_127 rfl ?_
          refine EV.gI r_X5_readAgain_128 la_62 ?_
          refine EV.cu r_X5_readAgain_131 (aV2 mt_93 la_67) (c_set la_67 la_68 (by decide) (by decide) (by omega) (by omega)) (fun IB eB => ?_)
          exact EV.ru r_X5_readAgain_134 (⟨lsA.mk (by rw [eB]; exact ⟨fun o p1 p2 => wr_row (by omega), fun j _ => congrFun (wr_row (by decide)) j⟩) (RD.fr hA.1 (by rw [eB, wr_row (by decide)])) (fun s2 e => by have z := lsA.2.2.2 s2 e; exact ⟨z.1.cls (by rw [eB, z.1.1]) (by rw [eB, wr_row (by decide)]) (by rw [eB, wr_row (by decide)]) (by rw [eB, wr_row (by decide)]) (by rw [eB, wr_row (by decide)]), z.2⟩), wf7.tr (fz.2.tr (hA.2.wf.tr (by rw [eB]; exact ⟨fun o p1 p2 => wr_row (by omega), fun j _ => congrFun (wr_row (by decide)) j⟩)))⟩)
        · -- 75 f
          refine EV.l (lv' := [(0, _), (1, _), (2, _), (3, _), (4, _), (5, _)]) r_X5_readAgain_78 rfl ?_
          refine EV.cv r_X5_readAgain_79 (aV0 mt_81 la_1) (c_more hx70.1.2.1 (by omega)) ?_
          refine EV.b0_eq r_X5_readAgain_82 (fun h82 => ?_) (fun h82 => ?_)
          · -- 82 t
            have fz := hx70.fin (Or.inr (mor_f2 h82))
            refine EV.l (lv' := [(0, _), (1, _), (2, _), (3, _), (4, _), (5, _)]) r_X5_readAgain_115 rfl ?_
            refine EV.o r_X5_readAgain_116 (bpN (93) 93) ?_
            refine EV.cu r_X5_readAgain_118 (aV1 mt_86 la_1) (c_sign fz.1.1 gb (by omega) fz.1.2.1 (by decide) (by omega)) (fun IA hA => ?_)
            have lsA := fz.1.sgs hA.1 hA.2
            refine EV.l (lv' := [(0, _), (1, _), (2, _), (3, _), (4, _), (5, _)]) r_X5_readAgain_121 rfl ?_
            refine EV.gR r_X5_readAgain_122 la_62 ?_
            refine EV.l (lv' := [(0, _), (1, _), (2, _), (3, _), (4, _), (5, _)]) r_X5_readAgain_125 rfl ?_
            refine EV.l (lv' := [(0, _), (1, _), (2, _), (3, _), (4, _), (5, _)]) r_X5_readAgain_127 rfl ?_
            refine EV.gI r_X5_readAgain_128 la_62 ?_
            refine EV.cu r_X5_readAgain_131 (aV2 mt_93 la_67) (c_set la_67 la_68 (by decide) (by decide) (by omega) (by omega)) (fun IB eB => ?_)
            exact EV.ru r_X5_readAgain_134 (⟨lsA.mk (by rw [eB]; exact ⟨fun o p1 p2 => wr_row (by omega), fun j _ => congrFun (wr_row (by decide)) j⟩) (RD.fr hA.1 (by rw [eB, wr_row (by decide)])) (fun s2 e => by have z := lsA.2.2.2 s2 e; exact ⟨z.1.cls (by rw [eB, z.1.1]) (by rw [eB, wr_row (by decide)]) (by rw [eB, wr_row (by decide)]) (by rw [eB, wr_row (by decide)]) (by rw [eB, wr_row (by decide)]), z.2⟩), wf7.tr (fz.2.tr (hA.2.wf.tr (by rw [eB]; exact ⟨fun o p1 p2 => wr_row (by omega), fun j _ => congrFun (wr_row (by decide)) j⟩)))⟩)
          · -- 82 f
            refine EV.l (lv' := [(0, _), (1, _), (2, _), (3, _), (4, _), (5, _)]) r_X5_readAgain_85 rfl ?_
            refine EV.o r_X5_readAgain_86 (bpN (93) 93) ?_
            refine EV.cv r_X5_readAgain_88 (aV1 mt_83 la_1) (c_seesS hx70.1.2.1 gb (by decide) (by omega)) ?_
            refine EV.b0_ne r_X5_readAgain_91 (fun h91 => ?_) (fun h91 => ?_)
            · -- 91 t
              have fz := hx70.fin (Or.inr (seS_e h91))
              refine EV.l (lv' := [(0, _), (1, _), (2, _), (3, _), (4, _), (5, _)]) r_X5_readAgain_115 rfl ?_
              refine EV.o r_X5_readAgain_116 (bpN (93) 93) ?_
              refine EV.cu r_X5_readAgain_118 (aV1 mt_86 la_1) (c_sign fz.1.1 gb (by omega) fz.1.2.1 (by decide) (by omega)) (fun IA hA => ?_)
              have lsA := fz.1.sgs hA.1 hA.2
              refine EV.l (lv' := [(0, _), (1, _), (2, _), (3, _), (4, _), (5, _)]) r_X5_readAgain_121 rfl ?_
              refine EV.gR r_X5_readAgain_122 la_62 ?_
              refine EV.l (lv' := [(0, _), (1, _), (2, _), (3, _), (4, _), (5, _)]) r_X5_readAgain_125 rfl ?_
              refine EV.l (lv' := [(0, _), (1, _), (2, _), (3, _), (4, _), (5, _)]) r_X5_readAgain_127 rfl ?_
              refine EV.gI r_X5_readAgain_128 la_62 ?_
              refine EV.cu r_X5_readAgain_131 (aV2 mt_93 la_67) (c_set la_67 la_68 (by decide) (by decide) (by omega) (by omega)) (fun IB eB => ?_)
              exact EV.ru r_X5_readAgain_134 (⟨lsA.mk (by rw [eB]; exact ⟨fun o p1 p2 => wr_row (by omega), fun j _ => congrFun (wr_row (by decide)) j⟩) (RD.fr hA.1 (by rw [eB, wr_row (by decide)])) (fun s2 e => by have z := lsA.2.2.2 s2 e; exact ⟨z.1.cls (by rw [eB, z.1.1]) (by rw [eB, wr_row (by decide)]) (by rw [eB, wr_row (by decide)]) (by rw [eB, wr_row (by decide)]) (by rw [eB, wr_row (by decide)]), z.2⟩), wf7.tr (fz.2.tr (hA.2.wf.tr (by rw [eB]; exact ⟨fun o p1 p2 => wr_row (by omega), fun j _ => congrFun (wr_row (by decide)) j⟩)))⟩)
            · -- 91 f
              obtain ⟨s1, er, hs1⟩ := mor_t h82
              obtain ⟨R, r⟩ := x2
              have er : r = .inl s1 := er
              subst er
              have he1 : enB g n s1 = false := h91
              refine EV.l (lv' := [(0, _), (1, _), (2, _), (3, _), (4, _), (5, _)]) r_X5_readAgain_94 rfl ?_
              refine EV.l (lv' := [(0, _), (1, _), (2, _), (3, _), (4, _), (5, _)]) r_X5_readAgain_95 rfl ?_
              refine EV.l (lv' := [(0, _), (1, _), (2, _), (3, _), (4, _), (5, _)]) r_X5_readAgain_96 rfl ?_
              refine EV.l (lv' := [(0, _), (1, _), (2, _), (3, _), (4, _), (5, _)]) r_X5_readAgain_97 rfl ?_
              refine EV.o r_X5_readAgain_98 (icN (1) (v := 1)) ?_
              refine EV.o r_X5_readAgain_99 iaddN ?_
              refine EV.cu r_X5_readAgain_100 (aV3 mt_67 la_62) (ih d' M J R s1 (by omega) hs1 hx70.1) (fun I8 h8 => ?_)
              refine EV.l (lv' := [(0, _), (1, _), (2, _), (3, _), (4, _), (5, _)]) r_X5_readAgain_103 rfl ?_
              refine EV.o r_X5_readAgain_104 (bpN (59) 59) ?_
              refine EV.cu r_X5_readAgain_106 (aV1 mt_86 la_1) (c_sign h8.1.1 gb (by omega) h8.1.2.1 (by decide) (by omega)) (fun I9 h9 => ?_)
              have ls9 : LSw g n κ (sgs g n f R s1) I9 := h8.1.sgs h9.1 h9.2
              have hx9 := hx70.next hs1 he1 (by omega) ls9 (h8.2.tr h9.2.wf)
              refine EV.l (lv' := [(0, _), (1, _), (2, _), (3, _), (4, _), (5, _)]) r_X5_readAgain_109 rfl ?_
              rw [inc_nI]
              refine EV.g r_X5_readAgain_112 ?_
              refine EV.sub ?_ rfl ?_ (ih70 (i + 1, sgs g n f R s1, I9) ?_ ?_)
              · (try dsimp only) <;> (rfl)
              · (try dsimp only) <;> (rfl)
              · (try dsimp only) <;> (omega)
              · (try dsimp only) <;> (exact hx9)
      have h0 := L70 (0, agX g n P s, I7)
      try dsimp only at h0
      refine EV.sub ?_ rfl ?_ (h0 ?_)
      · (try dsimp only) <;> (rfl)
      · (try dsimp only) <;> (rfl)
      · (try dsimp only) <;> (exact ⟨ls7, WF.rf, Nat.zero_le _, rfl⟩)
    · omega
theorem c_step {d : Nat} {I : Nat → Nat → Int32} {J : Nat → Nat → Int64} {g : Nat → Nat} {n s k : Nat} {κ : CT} {P : PL} (gb : ∀ j, g j < 256) (hn : n ≤ 150) (cb : CB κ) (hs : s < n) (ls : LSw g n κ (P, .inl s) I) {sub : WX → WX} {o D : Nat} (hD : 5 ≤ D) (ag : isW g n s tAgai = true → ∀ d, D ≤ d → RU d 71 [.ref 62, .ref 1, .ref 4, .int (nI k)] I J (fun I' => LSw g n κ (if 0 < o then stAgn g n sub P s else (P, .inr (3, s))) I' ∧ WF I I'))  (hd : D + 1 ≤ d) : RU d 67 [.ref 62, .ref 1, .ref 4, .int (nI k)] I J (fun I' => LSw g n κ (stpT g n κ sub o P s) I' ∧ WF I I') := by
  refine RU.in (d0 := D) hd mt_67 (Nat.le_of_ble_eq_true rfl) (fun d' hd' => ?_)
  have em := ls.pc.1
  have m4 := ls.m4
  have kn := ls.2.2.1
  have ns9 := cb.ns
  have nb4 := cb.nb
  have nc4 := cb.nc
  show EV none M_X5_readStep d' 0 [(0, .ref 62), (1, .ref 1), (2, .ref 4), (3, .int (nI k))] [] (hp I J) _
  refine EV.l (lv' := [(0, _), (1, _), (2, _), (3, _)]) r_X5_readStep_0 rfl ?_
  refine EV.lcT r_X5_readStep_1 rfl ?_
  refine EV.cv r_X5_readStep_3 (aV1 mt_84 la_1) (c_wordG ls.1 gb (by omega) ls.rg tx_13 (by decide) lCall (by omega)) ?_
  refine EV.b0_eq r_X5_readStep_6 (fun h6 => ?_) (fun h6 => ?_)
  · -- 6 t
    refine EV.l (lv' := [(0, _), (1, _), (2, _), (3, _)]) r_X5_readStep_31 rfl ?_
    refine EV.lcT r_X5_readStep_32 rfl ?_
    refine EV.cv r_X5_readStep_34 (aV1 mt_84 la_1) (c_wordG ls.1 gb (by omega) ls.rg tx_14 (by decide) lLead (by omega)) ?_
    refine EV.b0_eq r_X5_readStep_37 (fun h37 => ?_) (fun h37 => ?_)
    · -- 37 t
      refine EV.l (lv' := [(0, _), (1, _), (2, _), (3, _)]) r_X5_readStep_67 rfl ?_
      refine EV.lcT r_X5_readStep_68 rfl ?_
      refine EV.cv r_X5_readStep_70 (aV1 mt_84 la_1) (c_wordG ls.1 gb (by omega) ls.rg tx_15 (by decide) lPut (by omega)) ?_
      refine EV.b0_eq r_X5_readStep_73 (fun h73 => ?_) (fun h73 => ?_)
      · -- 73 t
        refine EV.l (lv' := [(0, _), (1, _), (2, _), (3, _)]) r_X5_readStep_103 rfl ?_
        refine EV.lcT r_X5_readStep_104 rfl ?_
        refine EV.cv r_X5_readStep_106 (aV1 mt_84 la_1) (c_wordG ls.1 gb (by omega) ls.rg tx_16 (by decide) lNote (by omega)) ?_
        refine EV.b0_eq r_X5_readStep_109 (fun h109 => ?_) (fun h109 => ?_)
        · -- 109 t
          refine EV.l (lv' := [(0, _), (1, _), (2, _), (3, _)]) r_X5_readStep_145 rfl ?_
          refine EV.lcT r_X5_readStep_146 rfl ?_
          refine EV.cv r_X5_readStep_148 (aV1 mt_84 la_1) (c_wordG ls.1 gb (by omega) ls.rg tx_17 (by decide) lMinu (by omega)) ?_
          refine EV.b0_eq r_X5_readStep_151 (fun h151 => ?_) (fun h151 => ?_)
          · -- 151 t
            refine EV.l (lv' := [(0, _), (1, _), (2, _), (3, _)]) r_X5_readStep_163 rfl ?_
            refine EV.lcT r_X5_readStep_164 rfl ?_
            refine EV.cv r_X5_readStep_166 (aV1 mt_84 la_1) (c_wordG ls.1 gb (by omega) ls.rg tx_18 (by decide) lAgai (by omega)) ?_
            refine EV.b0_eq r_X5_readStep_169 (fun h169 => ?_) (fun h169 => ?_)
            · -- 169 t
              have fk : kst g n s = 6 := (if_neg (bf_n h6)).trans ((if_neg (bf_n h37)).trans ((if_neg (bf_n h73)).trans ((if_neg (bf_n h109)).trans ((if_neg (bf_n h151)).trans (if_neg (bf_n h169))))))
              refine EV.l (lv' := [(0, _), (1, _), (2, _), (3, _)]) r_X5_readStep_182 rfl ?_
              refine EV.o r_X5_readStep_183 (icN (1) (v := 1)) ?_
              refine EV.cu r_X5_readStep_184 (aV1 mt_88 la_1) (c_fail (r := .inl s) ls.rg (by decide) (by decide) (by omega)) (fun I2 h2 => ?_)
              exact EV.ru r_X5_readStep_187 (by rw [stpT_6 sub o P (by omega)]; exact ⟨ls.mk h2.2.wf h2.1 (fun s2 e => inr_ne e), h2.2.wf⟩)
            · -- 169 f
              have fk : kst g n s = 5 := (if_neg (bf_n h6)).trans ((if_neg (bf_n h37)).trans ((if_neg (bf_n h73)).trans ((if_neg (bf_n h109)).trans ((if_neg (bf_n h151)).trans (if_pos h169)))))
              refine EV.l (lv' := [(0, _), (1, _), (2, _), (3, _)]) r_X5_readStep_172 rfl ?_
              refine EV.l (lv' := [(0, _), (1, _), (2, _), (3, _)]) r_X5_readStep_173 rfl ?_
              refine EV.l (lv' := [(0, _), (1, _), (2, _), (3, _)]) r_X5_readStep_174 rfl ?_
              refine EV.l (lv' := [(0, _), (1, _), (2, _), (3, _)]) r_X5_readStep_175 rfl ?_
              refine EV.cu r_X5_readStep_176 (aV3 mt_71 la_62) (ag h169 d' (by omega)) (fun I2 h2 => ?_)
              refine EV.g r_X5_readStep_179 ?_
              exact EV.ru r_X5_readStep_187 (by rw [stpT_5 sub o P fk]; exact h2)
          · -- 151 f
            have fk : kst g n s = 4 := (if_neg (bf_n h6)).trans ((if_neg (bf_n h37)).trans ((if_neg (bf_n h73)).trans ((if_neg (bf_n h109)).trans (if_pos h151))))
            have kw := kst_3 (g := g) (n := n) (s := s) (by omega)
            refine EV.l (lv' := [(0, _), (1, _), (2, _), (3, _)]) r_X5_readStep_154 rfl ?_
            refine EV.l (lv' := [(0, _), (1, _), (2, _), (3, _)]) r_X5_readStep_155 rfl ?_
            refine EV.o r_X5_readStep_156 (icN (4) (v := 4)) ?_
            refine EV.cu r_X5_readStep_157 (aV2 mt_68 la_62) (c_startS gb hn ls.1 ls.rg em (by omega) (by omega)) (fun I2 h2 => ?_)
            obtain ⟨rg2, em2, e64, f2, j2⟩ := h2
            have tp2 := tp_fr ls.1 (f2 3 (by decide) (by decide) (by decide))
            refine EV.g r_X5_readStep_160 ?_
            exact EV.ru r_X5_readStep_187 (by rw [stpT_4 sub o P fk]; exact ⟨ls.mk (⟨fun q p1 p2 => f2 q p1 (by omega) (by omega), j2⟩ : WF I I2) (r := .inl (nxp g n s)) rg2 (fun s2 e => by cases e; have w4 := (isW_nx h151 (by decide)).2.1; have w5 : tMinu.length = 6 := rfl; exact ⟨ls.pc.add em2 e64 (fun j hj => by rw [f2 66 (by decide) (by decide) (by decide)]) (fun y => absurd rfl y) (fun j hj => by rw [f2 68 (by decide) (by decide) (by decide)]) (fun y => absurd y (by omega)) (fun j hj => by rw [f2 70 (by decide) (by decide) (by decide)]) (fun y => absurd y (by omega)), by show 4 * (P.m + 1) ≤ nxp g n s; omega⟩), (⟨fun q p1 p2 => f2 q p1 (by omega) (by omega), j2⟩ : WF I I2)⟩)
        · -- 109 f
          have fk : kst g n s = 3 := (if_neg (bf_n h6)).trans ((if_neg (bf_n h37)).trans ((if_neg (bf_n h73)).trans (if_pos h109)))
          have kw := kst_3 (g := g) (n := n) (s := s) (by omega)
          refine EV.l (lv' := [(0, _), (1, _), (2, _), (3, _)]) r_X5_readStep_112 rfl ?_
          refine EV.l (lv' := [(0, _), (1, _), (2, _), (3, _)]) r_X5_readStep_113 rfl ?_
          refine EV.o r_X5_readStep_114 (icN (3) (v := 3)) ?_
          refine EV.cu r_X5_readStep_115 (aV2 mt_68 la_62) (c_startS gb hn ls.1 ls.rg em (by omega) (by omega)) (fun I2 h2 => ?_)
          obtain ⟨rg2, em2, e64, f2, j2⟩ := h2
          have tp2 := tp_fr ls.1 (f2 3 (by decide) (by decide) (by decide))
          refine EV.l (lv' := [(0, _), (1, _), (2, _), (3, _)]) r_X5_readStep_118 rfl ?_
          refine EV.gR r_X5_readStep_119 la_62 ?_
          refine EV.l (lv' := [(0, _), (1, _), (2, _), (3, _)]) r_X5_readStep_122 rfl ?_
          refine EV.getV r_X5_readStep_123 la_62 (em2) ?_
          refine EV.o r_X5_readStep_126 (icN (1) (v := 1)) ?_
          refine EV.o r_X5_readStep_127 (isubN) ?_
          rw [Nat.add_sub_cancel]
          refine EV.l (lv' := [(0, _), (1, _), (2, _), (3, _)]) r_X5_readStep_128 rfl ?_
          refine EV.o r_X5_readStep_129 (icN (0) (v := 0)) ?_
          refine EV.l (lv' := [(0, _), (1, _), (2, _), (3, _)]) r_X5_readStep_130 rfl ?_
          refine EV.getV r_X5_readStep_131 la_4 (((congrFun (f2 4 (by decide) (by decide) (by decide)) 10).trans kn.1)) ?_
          refine EV.o r_X5_readStep_134 (icN (1) (v := 1)) ?_
          refine EV.o r_X5_readStep_135 (isubNZ) ?_
          refine EV.ci r_X5_readStep_136 (aV2 mt_85 la_1) (c_numZ (hi := (κ.ns : Int) - ((1 : Nat) : Int)) tp2 gb (by omega) (r := .inl (nxp g n s)) rg2 (by omega) (by omega) (by omega)) (fun v I3 h3 => ?_)
          obtain ⟨x, e, rd3, xe, ro3⟩ := h3
          subst e
          refine EV.cu r_X5_readStep_139 (aV2 mt_93 la_65) (c_set la_65 la_66 (by decide) (by decide) (by omega) (by omega)) (fun I4 e4 => ?_)
          refine EV.g r_X5_readStep_142 ?_
          exact EV.ru r_X5_readStep_187 (by rw [stpT_3 sub o P fk]; exact ⟨ls.mk (⟨fun q p1 p2 => by rw [e4, wr_row (by omega), ro3 q p1]; exact f2 q p1 (by omega) (by omega), fun j hj => by rw [e4, wr_row (by decide), ro3 62 (by decide)]; exact j2 j hj⟩ : WF I I4) (r := (tx1 g n κ.ns s).2) (RD.fr rd3 (by rw [e4, wr_row (by decide)])) (fun s2 e => by have p := tx1_q (show (tx1 g n κ.ns s).2 = .inl s2 from e); have w4 := (isW_nx h109 (by decide)).2.1; have w5 : tNote.length = 4 := rfl; exact ⟨ls.pc.add (by rw [e4, wr_row (by decide), ro3 62 (by decide)]; exact em2) (by rw [e4, wr_row (by decide), ro3 64 (by decide)]; exact e64) (fun j hj => by rw [e4, wr_ne (Or.inr (by omega)), ro3 66 (by decide), f2 66 (by decide) (by decide) (by decide)]) (fun _ => by rw [e4, wr_same, xe s2 e]; rfl) (fun j hj => by rw [e4, wr_row (by decide), ro3 68 (by decide), f2 68 (by decide) (by decide) (by decide)]) (fun y => absurd y (by omega)) (fun j hj => by rw [e4, wr_row (by decide), ro3 70 (by decide), f2 70 (by decide) (by decide) (by decide)]) (fun y => absurd y (by omega)), by show 4 * (P.m + 1) ≤ s2; omega⟩), (⟨fun q p1 p2 => by rw [e4, wr_row (by omega), ro3 q p1]; exact f2 q p1 (by omega) (by omega), fun j hj => by rw [e4, wr_row (by decide), ro3 62 (by decide)]; exact j2 j hj⟩ : WF I I4)⟩)
      · -- 73 f
        have fk : kst g n s = 2 := (if_neg (bf_n h6)).trans ((if_neg (bf_n h37)).trans (if_pos h73))
        have kw := kst_3 (g := g) (n := n) (s := s) (by omega)
        refine EV.l (lv' := [(0, _), (1, _), (2, _), (3, _)]) r_X5_readStep_76 rfl ?_
        refine EV.l (lv' := [(0, _), (1, _), (2, _), (3, _)]) r_X5_readStep_77 rfl ?_
        refine EV.o r_X5_readStep_78 (icN (2) (v := 2)) ?_
        refine EV.cu r_X5_readStep_79 (aV2 mt_68 la_62) (c_startS gb hn ls.1 ls.rg em (by omega) (by omega)) (fun I2 h2 => ?_)
        obtain ⟨rg2, em2, e64, f2, j2⟩ := h2
        have tp2 := tp_fr ls.1 (f2 3 (by decide) (by decide) (by decide))
        refine EV.l (lv' := [(0, _), (1, _), (2, _), (3, _)]) r_X5_readStep_82 rfl ?_
        refine EV.l (lv' := [(0, _), (1, _), (2, _), (3, _)]) r_X5_readStep_83 rfl ?_
        refine EV.l (lv' := [(0, _), (1, _), (2, _), (3, _)]) r_X5_readStep_84 rfl ?_
        refine EV.getV r_X5_readStep_85 la_4 (((congrFun (f2 4 (by decide) (by decide) (by decide)) 13).trans kn.2.2)) ?_
        refine EV.l (lv' := [(0, _), (1, _), (2, _), (3, _)]) r_X5_readStep_88 rfl ?_
        refine EV.getV r_X5_readStep_89 la_4 (((congrFun (f2 4 (by decide) (by decide) (by decide)) 10).trans kn.1)) ?_
        refine EV.cu r_X5_readStep_92 (aV3 mt_69 la_62) (c_who gb hn tp2 (r := .inl (nxp g n s)) rg2 em2 (by omega) (h1 := κ.nc) (h2 := κ.ns) (by omega) (by omega) (by omega)) (fun I3 h3 => ?_)
        obtain ⟨x, y, rd3, xy, e66, e68, f3⟩ := h3
        refine EV.l (lv' := [(0, _), (1, _), (2, _), (3, _)]) r_X5_readStep_95 rfl ?_
        refine EV.l (lv' := [(0, _), (1, _), (2, _), (3, _)]) r_X5_readStep_96 rfl ?_
        refine EV.cu r_X5_readStep_97 (aV1 mt_70 la_62) (c_how gb hn (tp_fr tp2 (f3 3 (by decide) (by decide) (by decide))) rd3 ((congrFun (f3 62 (by decide) (by decide) (by decide)) 4).trans em2) (by omega) (by omega)) (fun I4 h4 => ?_)
        obtain ⟨w, rd4, we, e70, f4⟩ := h4
        refine EV.g r_X5_readStep_100 ?_
        exact EV.ru r_X5_readStep_187 (by rw [stpT_2 sub o P fk]; exact ⟨ls.mk (⟨fun q p1 p2 => (f4 q p1 (by omega)).trans ((f3 q p1 (by omega) (by omega)).trans (f2 q p1 (by omega) (by omega))), fun j hj => (congrFun (f4 62 (by decide) (by decide)) j).trans ((congrFun (f3 62 (by decide) (by decide) (by decide)) j).trans (j2 j hj))⟩ : WF I I4) rd4 (fun s2 e => by have p := tx3_q (show (tx3 g n κ.nc κ.ns s).2 = .inl s2 from e); obtain ⟨s3, e3⟩ := tkN_ok e; have z := xy s3 e3; exact ⟨ls.pc.add ((congrFun (f4 62 (by decide) (by decide)) 4).trans ((congrFun (f3 62 (by decide) (by decide) (by decide)) 4).trans em2)) ((f4 64 (by decide) (by decide)).trans ((f3 64 (by decide) (by decide) (by decide)).trans e64)) (fun j hj => by rw [f4 66 (by decide) (by decide), e66, wr_ne (Or.inr (by omega)), f2 66 (by decide) (by decide) (by decide)]) (fun _ => by rw [f4 66 (by decide) (by decide), e66, wr_same, z.1]; rfl) (fun j hj => by rw [f4 68 (by decide) (by decide), e68, wr_ne (Or.inr (by omega)), f2 68 (by decide) (by decide) (by decide)]) (fun _ => by rw [f4 68 (by decide) (by decide), e68, wr_same, z.2]; rfl) (fun j hj => by rw [e70, wr_ne (Or.inr (by omega)), f3 70 (by decide) (by decide) (by decide), f2 70 (by decide) (by decide) (by decide)]) (fun _ => by rw [e70, wr_same, we s2 e]; rfl), by show 4 * (P.m + 1) ≤ s2; omega⟩), (⟨fun q p1 p2 => (f4 q p1 (by omega)).trans ((f3 q p1 (by omega) (by omega)).trans (f2 q p1 (by omega) (by omega))), fun j hj => (congrFun (f4 62 (by decide) (by decide)) j).trans ((congrFun (f3 62 (by decide) (by decide) (by decide)) j).trans (j2 j hj))⟩ : WF I I4)⟩)
    · -- 37 f
      have fk : kst g n s = 1 := (if_neg (bf_n h6)).trans (if_pos h37)
      have kw := kst_3 (g := g) (n := n) (s := s) (by omega)
      refine EV.l (lv' := [(0, _), (1, _), (2, _), (3, _)]) r_X5_readStep_40 rfl ?_
      refine EV.l (lv' := [(0, _), (1, _), (2, _), (3, _)]) r_X5_readStep_41 rfl ?_
      refine EV.o r_X5_readStep_42 (icN (1) (v := 1)) ?_
      refine EV.cu r_X5_readStep_43 (aV2 mt_68 la_62) (c_startS gb hn ls.1 ls.rg em (by omega) (by omega)) (fun I2 h2 => ?_)
      obtain ⟨rg2, em2, e64, f2, j2⟩ := h2
      have tp2 := tp_fr ls.1 (f2 3 (by decide) (by decide) (by decide))
      refine EV.l (lv' := [(0, _), (1, _), (2, _), (3, _)]) r_X5_readStep_46 rfl ?_
      refine EV.l (lv' := [(0, _), (1, _), (2, _), (3, _)]) r_X5_readStep_47 rfl ?_
      refine EV.l (lv' := [(0, _), (1, _), (2, _), (3, _)]) r_X5_readStep_48 rfl ?_
      refine EV.getV r_X5_readStep_49 la_4 (((congrFun (f2 4 (by decide) (by decide) (by decide)) 13).trans kn.2.2)) ?_
      refine EV.l (lv' := [(0, _), (1, _), (2, _), (3, _)]) r_X5_readStep_52 rfl ?_
      refine EV.getV r_X5_readStep_53 la_4 (((congrFun (f2 4 (by decide) (by decide) (by decide)) 12).trans kn.2.1)) ?_
      refine EV.cu r_X5_readStep_56 (aV3 mt_69 la_62) (c_who gb hn tp2 (r := .inl (nxp g n s)) rg2 em2 (by omega) (h1 := κ.nc) (h2 := κ.nb) (by omega) (by omega) (by omega)) (fun I3 h3 => ?_)
      obtain ⟨x, y, rd3, xy, e66, e68, f3⟩ := h3
      refine EV.l (lv' := [(0, _), (1, _), (2, _), (3, _)]) r_X5_readStep_59 rfl ?_
      refine EV.l (lv' := [(0, _), (1, _), (2, _), (3, _)]) r_X5_readStep_60 rfl ?_
      refine EV.cu r_X5_readStep_61 (aV1 mt_70 la_62) (c_how gb hn (tp_fr tp2 (f3 3 (by decide) (by decide) (by decide))) rd3 ((congrFun (f3 62 (by decide) (by decide) (by decide)) 4).trans em2) (by omega) (by omega)) (fun I4 h4 => ?_)
      obtain ⟨w, rd4, we, e70, f4⟩ := h4
      refine EV.g r_X5_readStep_64 ?_
      exact EV.ru r_X5_readStep_187 (by rw [stpT_1 sub o P fk]; exact ⟨ls.mk (⟨fun q p1 p2 => (f4 q p1 (by omega)).trans ((f3 q p1 (by omega) (by omega)).trans (f2 q p1 (by omega) (by omega))), fun j hj => (congrFun (f4 62 (by decide) (by decide)) j).trans ((congrFun (f3 62 (by decide) (by decide) (by decide)) j).trans (j2 j hj))⟩ : WF I I4) rd4 (fun s2 e => by have p := tx3_q (show (tx3 g n κ.nc κ.nb s).2 = .inl s2 from e); obtain ⟨s3, e3⟩ := tkN_ok e; have z := xy s3 e3; exact ⟨ls.pc.add ((congrFun (f4 62 (by decide) (by decide)) 4).trans ((congrFun (f3 62 (by decide) (by decide) (by decide)) 4).trans em2)) ((f4 64 (by decide) (by decide)).trans ((f3 64 (by decide) (by decide) (by decide)).trans e64)) (fun j hj => by rw [f4 66 (by decide) (by decide), e66, wr_ne (Or.inr (by omega)), f2 66 (by decide) (by decide) (by decide)]) (fun _ => by rw [f4 66 (by decide) (by decide), e66, wr_same, z.1]; rfl) (fun j hj => by rw [f4 68 (by decide) (by decide), e68, wr_ne (Or.inr (by omega)), f2 68 (by decide) (by decide) (by decide)]) (fun _ => by rw [f4 68 (by decide) (by decide), e68, wr_same, z.2]; rfl) (fun j hj => by rw [e70, wr_ne (Or.inr (by omega)), f3 70 (by decide) (by decide) (by decide), f2 70 (by decide) (by decide) (by decide)]) (fun _ => by rw [e70, wr_same, we s2 e]; rfl), by show 4 * (P.m + 1) ≤ s2; omega⟩), (⟨fun q p1 p2 => (f4 q p1 (by omega)).trans ((f3 q p1 (by omega) (by omega)).trans (f2 q p1 (by omega) (by omega))), fun j hj => (congrFun (f4 62 (by decide) (by decide)) j).trans ((congrFun (f3 62 (by decide) (by decide) (by decide)) j).trans (j2 j hj))⟩ : WF I I4)⟩)
  · -- 6 f
    have fk : kst g n s = 0 := if_pos h6
    have kw := kst_3 (g := g) (n := n) (s := s) (by omega)
    refine EV.l (lv' := [(0, _), (1, _), (2, _), (3, _)]) r_X5_readStep_9 rfl ?_
    refine EV.l (lv' := [(0, _), (1, _), (2, _), (3, _)]) r_X5_readStep_10 rfl ?_
    refine EV.o r_X5_readStep_11 (icN (0) (v := 0)) ?_
    refine EV.cu r_X5_readStep_12 (aV2 mt_68 la_62) (c_startS gb hn ls.1 ls.rg em (by omega) (by omega)) (fun I2 h2 => ?_)
    obtain ⟨rg2, em2, e64, f2, j2⟩ := h2
    have tp2 := tp_fr ls.1 (f2 3 (by decide) (by decide) (by decide))
    refine EV.l (lv' := [(0, _), (1, _), (2, _), (3, _)]) r_X5_readStep_15 rfl ?_
    refine EV.l (lv' := [(0, _), (1, _), (2, _), (3, _)]) r_X5_readStep_16 rfl ?_
    refine EV.l (lv' := [(0, _), (1, _), (2, _), (3, _)]) r_X5_readStep_17 rfl ?_
    refine EV.getV r_X5_readStep_18 la_4 (((congrFun (f2 4 (by decide) (by decide) (by decide)) 13).trans kn.2.2)) ?_
    refine EV.l (lv' := [(0, _), (1, _), (2, _), (3, _)]) r_X5_readStep_21 rfl ?_
    refine EV.getV r_X5_readStep_22 la_4 (((congrFun (f2 4 (by decide) (by decide) (by decide)) 12).trans kn.2.1)) ?_
    refine EV.cu r_X5_readStep_25 (aV3 mt_69 la_62) (c_who gb hn tp2 (r := .inl (nxp g n s)) rg2 em2 (by omega) (h1 := κ.nc) (h2 := κ.nb) (by omega) (by omega) (by omega)) (fun I3 h3 => ?_)
    obtain ⟨x, y, rd3, xy, e66, e68, f3⟩ := h3
    refine EV.g r_X5_readStep_28 ?_
    exact EV.ru r_X5_readStep_187 (by rw [stpT_0 sub o P fk]; exact ⟨ls.mk (⟨fun q p1 p2 => (f3 q p1 (by omega) (by omega)).trans (f2 q p1 (by omega) (by omega)), fun j hj => (congrFun (f3 62 (by decide) (by decide) (by decide)) j).trans (j2 j hj)⟩ : WF I I3) rd3 (fun s2 e => by have p := tx2_q (show (tx2 g n κ.nc κ.nb s).2 = .inl s2 from e); have z := xy s2 e; exact ⟨ls.pc.add ((congrFun (f3 62 (by decide) (by decide) (by decide)) 4).trans em2) ((f3 64 (by decide) (by decide) (by decide)).trans e64) (fun j hj => by rw [e66, wr_ne (Or.inr (by omega)), f2 66 (by decide) (by decide) (by decide)]) (fun _ => by rw [e66, wr_same, z.1]; rfl) (fun j hj => by rw [e68, wr_ne (Or.inr (by omega)), f2 68 (by decide) (by decide) (by decide)]) (fun _ => by rw [e68, wr_same, z.2]; rfl) (fun j hj => by rw [f3 70 (by decide) (by decide) (by decide), f2 70 (by decide) (by decide) (by decide)]) (fun y => absurd y (by omega)), by show 4 * (P.m + 1) ≤ s2; omega⟩), (⟨fun q p1 p2 => (f3 q p1 (by omega) (by omega)).trans (f2 q p1 (by omega) (by omega)), fun j hj => (congrFun (f3 62 (by decide) (by decide) (by decide)) j).trans (j2 j hj)⟩ : WF I I3)⟩)
theorem c_stT {g : Nat → Nat} {n : Nat} {κ : CT} (gb : ∀ j, g j < 256) (hn : n ≤ 150) (cb : CB κ) : ∀ o k, k + o = 6 → CUs (2 * o + 8) k g n κ (stT g n κ o)
  | 0, k, h => fun d I J P s hd hs ls => c_step (sub := fun x => x) (o := 0) (D := 7) gb hn cb hs ls (by decide) (fun hw d2 h2 => by
      rw [if_neg (Nat.lt_irrefl 0)]
      exact c_agn0 gb hn cb hs ls hw (by omega) (by omega)) (by omega)
  | o + 1, k, h => fun d I J P s hd hs ls => by
    have ih := c_stT (g := g) (n := n) (κ := κ) gb hn cb o (k + 1) (by omega)
    exact c_step (sub := stps n (enB g n) (sgs g n (stT g n κ o)) 150) (o := o + 1) (D := 2 * o + 9) gb hn cb hs ls (by omega) (fun hw d2 h2 => by
      rw [if_pos (Nat.succ_pos o)]
      exact c_agn1 gb hn cb hs ls hw (by omega) (D := 2 * o + 8) (by omega) ih (by omega)) (by omega)
theorem c_wread {d : Nat} {I : Nat → Nat → Int32} {J : Nat → Nat → Int64} {g : Nat → Nat} {n s : Nat} {κ : CT} (gb : ∀ j, g j < 256) (hn : n ≤ 150) (cb : CB κ) (tp : ∀ j, j < 600 → I 3 j = nI (g j)) (rg : RG g n s I) (kn : KN κ I)  (hd : 22 ≤ d) : RU d 66 [.ref 62, .ref 1, .ref 4] I J (fun I' => LSw g n κ (wrkT g n κ s) I' ∧ (∀ o, o ≠ 1 → (o < 62 ∨ 70 < o) → I' o = I o) ∧ I' 62 5 = nI 0 ∧ I' 62 6 = nI 0 ∧ I' 62 7 = nI 0) := by
  refine RU.in (d0 := 21) hd mt_66 (Nat.le_of_ble_eq_true rfl) (fun d' hd' => ?_)
  show EV none M_X5_readFrom d' 0 [(0, .ref 62), (1, .ref 1), (2, .ref 4)] [] (hp I J) _
  refine EV.l (lv' := [(0, _), (1, _), (2, _)]) r_X5_readFrom_0 rfl ?_
  refine EV.o r_X5_readFrom_1 (icN (0) (v := 0)) ?_
  refine EV.pIn r_X5_readFrom_2 la_62 (fun J1 f1 => ?_)
  refine EV.l (lv' := [(0, _), (1, _), (2, _)]) r_X5_readFrom_5 rfl ?_
  refine EV.o r_X5_readFrom_6 (icN (0) (v := 0)) ?_
  refine EV.pIn r_X5_readFrom_7 la_62 (fun J2 f2 => ?_)
  refine EV.l (lv' := [(0, _), (1, _), (2, _)]) r_X5_readFrom_10 rfl ?_
  refine EV.o r_X5_readFrom_11 (icN (0) (v := 0)) ?_
  refine EV.pIn r_X5_readFrom_12 la_62 (fun J3 f3 => ?_)
  refine EV.l (lv' := [(0, _), (1, _), (2, _)]) r_X5_readFrom_15 rfl ?_
  refine EV.o r_X5_readFrom_16 (icN (0) (v := 0)) ?_
  refine EV.pIn r_X5_readFrom_17 la_62 (fun J4 f4 => ?_)
  have z1 : ∀ o, o ≠ 62 → J4 o = I o := fun o ho => by rw [f4, wr_row ho, f3, wr_row ho, f2, wr_row ho, f1, wr_row ho]
  have z5 : J4 62 5 = nI 0 ∧ J4 62 6 = nI 0 ∧ J4 62 7 = nI 0 := ⟨by rw [f4, wr_ne (Or.inr (by decide)), f3, wr_ne (Or.inr (by decide)), f2]; exact wr_same, by rw [f4, wr_ne (Or.inr (by decide)), f3]; exact wr_same, by rw [f4]; exact wr_same⟩
  have z4 : J4 62 4 = nI 0 := by rw [f4, wr_ne (Or.inr (by decide)), f3, wr_ne (Or.inr (by decide)), f2, wr_ne (Or.inr (by decide)), f1]; exact wr_same
  have ls0 : LSw g n κ (pl0, .inl s) J4 := ⟨tp_fr tp (z1 3 (by decide)), rg.rd.fr (z1 1 (by decide)), by unfold KN; rw [z1 4 (by decide)]; exact kn, fun s2 e => ⟨⟨z4, fun j hj => absurd hj (Nat.not_lt_zero j)⟩, Nat.zero_le _⟩⟩
  refine EV.o r_X5_readFrom_20 (icN (0) (v := 0)) ?_
  refine EV.l (lv' := [(0, _), (1, _), (2, _), (3, _)]) r_X5_readFrom_21 rfl ?_
  have L22 : ∀ y_ : Nat × WX × (Nat → Nat → Int32), (fun y => SWI g n κ enN (sgs g n (stT g n κ 6)) (pl0, .inl s) J4 y.1 y.2.1 y.2.2 → EV none M_X5_readFrom d' 22 [(0, .ref 62), (1, .ref 1), (2, .ref 4), (3, .int (nI y.1))] [] (hp y.2.2 J) (QU J (fun I' => LSw g n κ (wrkT g n κ s) I' ∧ (∀ o, o ≠ 1 → (o < 62 ∨ 70 < o) → I' o = I o) ∧ I' 62 5 = nI 0 ∧ I' 62 6 = nI 0 ∧ I' 62 7 = nI 0))) y_ := by
    refine ev_loop (fun y => 150 - y.1) ?_
    intro ⟨i, x2, M⟩ ih22 hx22
    try dsimp only at ih22
    try dsimp only at hx22
    try dsimp only
    have i150 := hx22.2.2.1
    refine EV.l (lv' := [(0, _), (1, _), (2, _), (3, _)]) r_X5_readFrom_22 rfl ?_
    refine EV.o r_X5_readFrom_23 (spN (150) 150) ?_
    refine EV.n2_ge r_X5_readFrom_26 (fun h26 => ?_) (fun h26 => ?_)
    · -- 26 t
      have fz := hx22.fin (Or.inl (by omega))
      exact EV.ru r_X5_readFrom_55 (⟨fz.1, fun o p1 p2 => (fz.2.1 o p1 p2).trans (z1 o (by omega)), (fz.2.2 5 (by decide)).trans z5.1, (fz.2.2 6 (by decide)).trans z5.2.1, (fz.2.2 7 (by decide)).trans z5.2.2⟩)
    · -- 26 f
      refine EV.l (lv' := [(0, _), (1, _), (2, _), (3, _)]) r_X5_readFrom_29 rfl ?_
      refine EV.cv r_X5_readFrom_30 (aV0 mt_81 la_1) (c_more hx22.1.2.1 (by omega)) ?_
      refine EV.b0_eq r_X5_readFrom_33 (fun h33 => ?_) (fun h33 => ?_)
      · -- 33 t
        have fz := hx22.fin (Or.inr (mor_f2 h33))
        exact EV.ru r_X5_readFrom_55 (⟨fz.1, fun o p1 p2 => (fz.2.1 o p1 p2).trans (z1 o (by omega)), (fz.2.2 5 (by decide)).trans z5.1, (fz.2.2 6 (by decide)).trans z5.2.1, (fz.2.2 7 (by decide)).trans z5.2.2⟩)
      · -- 33 f
        obtain ⟨s1, er, hs1⟩ := mor_t h33
        obtain ⟨R, r⟩ := x2
        have er : r = .inl s1 := er
        subst er
        refine EV.l (lv' := [(0, _), (1, _), (2, _), (3, _)]) r_X5_readFrom_36 rfl ?_
        refine EV.l (lv' := [(0, _), (1, _), (2, _), (3, _)]) r_X5_readFrom_37 rfl ?_
        refine EV.l (lv' := [(0, _), (1, _), (2, _), (3, _)]) r_X5_readFrom_38 rfl ?_
        refine EV.o r_X5_readFrom_39 (icN (0) (v := 0)) ?_
        refine EV.cu r_X5_readFrom_40 (aV3 mt_67 la_62) (c_stT gb hn cb 6 0 rfl d' M J R s1 (by omega) hs1 hx22.1) (fun I8 h8 => ?_)
        refine EV.l (lv' := [(0, _), (1, _), (2, _), (3, _)]) r_X5_readFrom_43 rfl ?_
        refine EV.o r_X5_readFrom_44 (bpN (59) 59) ?_
        refine EV.cu r_X5_readFrom_46 (aV1 mt_86 la_1) (c_sign h8.1.1 gb (by omega) h8.1.2.1 (by decide) (by omega)) (fun I9 h9 => ?_)
        have ls9 : LSw g n κ (sgs g n (stT g n κ 6) R s1) I9 := h8.1.sgs h9.1 h9.2
        have hx9 := hx22.next hs1 rfl (by omega) ls9 (h8.2.tr h9.2.wf)
        refine EV.l (lv' := [(0, _), (1, _), (2, _), (3, _)]) r_X5_readFrom_49 rfl ?_
        rw [inc_nI]
        refine EV.g r_X5_readFrom_52 ?_
        refine EV.sub ?_ rfl ?_ (ih22 (i + 1, sgs g n (stT g n κ 6) R s1, I9) ?_ ?_)
        · (try dsimp only) <;> (rfl)
        · (try dsimp only) <;> (rfl)
        · (try dsimp only) <;> (omega)
        · (try dsimp only) <;> (exact hx9)
  have h0 := L22 (0, (pl0, .inl s), J4)
  try dsimp only at h0
  refine EV.sub ?_ rfl ?_ (h0 ?_)
  · (try dsimp only) <;> (rfl)
  · (try dsimp only) <;> (rfl)
  · (try dsimp only) <;> (exact ⟨ls0, WF.rf, Nat.zero_le _, rfl⟩)
