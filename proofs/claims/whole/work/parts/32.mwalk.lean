/-! The model's walk. -/
section MN
variable {sc : Option (Nat × (Nat → Int32))} {M : MI} {d pc : Nat} {lv : LV} {st : List Value} {I : Nat → Nat → Int32} {J : Nat → Nat → Int64} {Q : (Option Value ⊕ Nat) → AH → Nat → Prop}
theorem EV.iaSn {len a b o n jn pq : Nat} {x : Int32} (hr : RW M pc .iastore len a b pq) (hl : LAYO[o]? = some (.inl n)) (k : ∀ I2, I2 = wr I o jn x → EV sc M d pq lv st (hp I2 J) Q) (hn : jn < n := by omega) (hn2 : n < 2147483648 := by omega) : EV sc M d pc lv (.int x :: .int (nI jn) :: .ref o :: st) (hp I J) Q := EV.iaS hr hl (k _ rfl) hn hn2
theorem EV.pIn {idx a b o pq : Nat} {x : Int32} {sl : List (Option Nat)} (hr : RW M pc (.putfield idx) 3 a b pq) (hl : LAYO[o]? = some (.inr (.inr (a, sl)))) (k : ∀ I2, I2 = wr I o b x → EV sc M d pq lv st (hp I2 J) Q) (hs : sl[b]? = some none := by rfl) (hf : FTY a b = .int := by rfl) : EV sc M d pc lv (.int x :: .ref o :: st) (hp I J) Q := EV.pI hr hl (k _ rfl) hs hf
end MN
def MA (l : LW) (I : Nat → Nat → Int32) : Prop := (I 106 32 = nI l.n) ∧ (∀ k, k < l.n → I 119 k = nI (l.what k)) ∧ (∀ k, k < l.n → I 120 k = nI (l.of k))
theorem MA.n {l : LW} {I : Nat → Nat → Int32} (h_ : MA l I) : I 106 32 = nI l.n := h_.1
theorem MA.w {l : LW} {I : Nat → Nat → Int32} (h_ : MA l I) : ∀ k, k < l.n → I 119 k = nI (l.what k) := h_.2.1
theorem MA.o {l : LW} {I : Nat → Nat → Int32} (h_ : MA l I) : ∀ k, k < l.n → I 120 k = nI (l.of k) := h_.2.2
def ME (l : LW) (I : Nat → Nat → Int32) : Prop := (I 106 32 = nI 0) ∧ (l.n = 1) ∧ (l.what 0 = 1) ∧ (l.of 0 = 0)
theorem ME.n {l : LW} {I : Nat → Nat → Int32} (h_ : ME l I) : I 106 32 = nI 0 := h_.1
theorem ME.n1 {l : LW} {I : Nat → Nat → Int32} (h_ : ME l I) : l.n = 1 := h_.2.1
theorem ME.w {l : LW} {I : Nat → Nat → Int32} (h_ : ME l I) : l.what 0 = 1 := h_.2.2.1
theorem ME.o {l : LW} {I : Nat → Nat → Int32} (h_ : ME l I) : l.of 0 = 0 := h_.2.2.2
def ML (l : LW) (I : Nat → Nat → Int32) : Prop := MA l I ∨ ME l I
theorem ck_1 {v : Int32} (h : ¬ nI 1 ≤ v) : nI 1 = nI (ck v) := by
  have h1 : (nI 1).toInt = 1 := by decide
  rw [Int32.le_iff_toInt_le, h1] at h
  unfold ck
  rw [if_pos (by omega)]
theorem ck_40 {v : Int32} (h : ¬ v ≤ nI 40) : nI 40 = nI (ck v) := by
  have h1 : (nI 40).toInt = 40 := by decide
  rw [Int32.le_iff_toInt_le, h1] at h
  unfold ck
  rw [if_neg (by omega), if_pos (by omega)]
theorem ck_in {v : Int32} (h : nI 1 ≤ v) (h2 : v ≤ nI 40) : v = nI (ck v) := by
  have h1 : (nI 1).toInt = 1 := by decide
  have h40 : (nI 40).toInt = 40 := by decide
  rw [Int32.le_iff_toInt_le, h1] at h
  rw [Int32.le_iff_toInt_le, h40] at h2
  unfold ck
  rw [if_neg (by omega), if_neg (by omega)]
  apply Int32.toInt_inj.mp
  rw [nI_toInt (by omega)]
  omega
theorem wkf_e {l : LW} {f : Nat → Int32} {I : Nat → Nat → Int32} (h : ME l I) : ck (f 0) = wkf l f := by
  unfold wkf
  rw [h.n1]
  have e : evl l f 1 0 = f 0 := by
    show (if l.what 0 = 0 then _ else if l.what 0 = 1 then upd1 (evl l f 0) (dep l 0) (f (l.of 0)) else _) 0 = _
    rw [if_neg (by rw [h.w]; decide), if_pos h.w, h.o]
    rfl
  rw [e]
theorem r_X11_valueNow_0 : RW M_X11_valueNow 0 (.iconst 0) 1 0 0 1 := ⟨rfl, rfl⟩
theorem r_X11_valueNow_1 : RW M_X11_valueNow 1 (.istore_n 1) 1 0 0 2 := ⟨rfl, rfl⟩
theorem r_X11_valueNow_2 : RW M_X11_valueNow 2 (.iconst 0) 1 0 0 3 := ⟨rfl, rfl⟩
theorem r_X11_valueNow_3 : RW M_X11_valueNow 3 (.istore_n 2) 1 0 0 4 := ⟨rfl, rfl⟩
theorem r_X11_valueNow_4 : RW M_X11_valueNow 4 (.iload_n 2) 1 0 3 5 := ⟨rfl, rfl⟩
theorem r_X11_valueNow_5 : RW M_X11_valueNow 5 (.aload_n 0) 1 0 0 6 := ⟨rfl, rfl⟩
theorem r_X11_valueNow_6 : RW M_X11_valueNow 6 (.getfield 182) 3 11 32 9 := ⟨rfl, rfl⟩
theorem r_X11_valueNow_9 : RW M_X11_valueNow 9 (.if_icmp .ge 86) 3 95 0 12 := ⟨rfl, rfl⟩
theorem r_X11_valueNow_12 : RW M_X11_valueNow 12 (.aload_n 0) 1 0 0 13 := ⟨rfl, rfl⟩
theorem r_X11_valueNow_13 : RW M_X11_valueNow 13 (.getfield 53) 3 11 28 16 := ⟨rfl, rfl⟩
theorem r_X11_valueNow_16 : RW M_X11_valueNow 16 (.iload_n 2) 1 0 0 17 := ⟨rfl, rfl⟩
theorem r_X11_valueNow_17 : RW M_X11_valueNow 17 (.iaload) 1 0 0 18 := ⟨rfl, rfl⟩
theorem r_X11_valueNow_18 : RW M_X11_valueNow 18 (.istore_n 3) 1 0 0 19 := ⟨rfl, rfl⟩
theorem r_X11_valueNow_19 : RW M_X11_valueNow 19 (.iload_n 3) 1 0 0 20 := ⟨rfl, rfl⟩
theorem r_X11_valueNow_20 : RW M_X11_valueNow 20 (.iconst 1) 1 0 0 21 := ⟨rfl, rfl⟩
theorem r_X11_valueNow_21 : RW M_X11_valueNow 21 (.if_icmp .gt 39) 3 60 0 24 := ⟨rfl, rfl⟩
theorem r_X11_valueNow_24 : RW M_X11_valueNow 24 (.aload_n 0) 1 0 0 25 := ⟨rfl, rfl⟩
theorem r_X11_valueNow_25 : RW M_X11_valueNow 25 (.getfield 59) 3 11 30 28 := ⟨rfl, rfl⟩
theorem r_X11_valueNow_28 : RW M_X11_valueNow 28 (.iload_n 1) 1 0 0 29 := ⟨rfl, rfl⟩
theorem r_X11_valueNow_29 : RW M_X11_valueNow 29 (.iload_n 3) 1 0 0 30 := ⟨rfl, rfl⟩
theorem r_X11_valueNow_30 : RW M_X11_valueNow 30 (.ifCond .ne 12) 3 42 0 33 := ⟨rfl, rfl⟩
theorem r_X11_valueNow_33 : RW M_X11_valueNow 33 (.aload_n 0) 1 0 0 34 := ⟨rfl, rfl⟩
theorem r_X11_valueNow_34 : RW M_X11_valueNow 34 (.getfield 56) 3 11 29 37 := ⟨rfl, rfl⟩
theorem r_X11_valueNow_37 : RW M_X11_valueNow 37 (.iload_n 2) 1 0 0 38 := ⟨rfl, rfl⟩
theorem r_X11_valueNow_38 : RW M_X11_valueNow 38 (.iaload) 1 0 0 39 := ⟨rfl, rfl⟩
theorem r_X11_valueNow_39 : RW M_X11_valueNow 39 (.goto 14) 3 53 0 42 := ⟨rfl, rfl⟩
theorem r_X11_valueNow_42 : RW M_X11_valueNow 42 (.aload_n 0) 1 0 0 43 := ⟨rfl, rfl⟩
theorem r_X11_valueNow_43 : RW M_X11_valueNow 43 (.getfield 62) 3 11 33 46 := ⟨rfl, rfl⟩
theorem r_X11_valueNow_46 : RW M_X11_valueNow 46 (.aload_n 0) 1 0 0 47 := ⟨rfl, rfl⟩
theorem r_X11_valueNow_47 : RW M_X11_valueNow 47 (.getfield 56) 3 11 29 50 := ⟨rfl, rfl⟩
theorem r_X11_valueNow_50 : RW M_X11_valueNow 50 (.iload_n 2) 1 0 0 51 := ⟨rfl, rfl⟩
theorem r_X11_valueNow_51 : RW M_X11_valueNow 51 (.iaload) 1 0 0 52 := ⟨rfl, rfl⟩
theorem r_X11_valueNow_52 : RW M_X11_valueNow 52 (.iaload) 1 0 0 53 := ⟨rfl, rfl⟩
theorem r_X11_valueNow_53 : RW M_X11_valueNow 53 (.iastore) 1 0 0 54 := ⟨rfl, rfl⟩
theorem r_X11_valueNow_54 : RW M_X11_valueNow 54 (.iinc 1 1) 3 0 0 57 := ⟨rfl, rfl⟩
theorem r_X11_valueNow_57 : RW M_X11_valueNow 57 (.goto 32) 3 89 0 60 := ⟨rfl, rfl⟩
theorem r_X11_valueNow_60 : RW M_X11_valueNow 60 (.iinc 1 (-1)) 3 0 0 63 := ⟨rfl, rfl⟩
theorem r_X11_valueNow_63 : RW M_X11_valueNow 63 (.aload_n 0) 1 0 0 64 := ⟨rfl, rfl⟩
theorem r_X11_valueNow_64 : RW M_X11_valueNow 64 (.getfield 59) 3 11 30 67 := ⟨rfl, rfl⟩
theorem r_X11_valueNow_67 : RW M_X11_valueNow 67 (.iload_n 1) 1 0 0 68 := ⟨rfl, rfl⟩
theorem r_X11_valueNow_68 : RW M_X11_valueNow 68 (.iconst 1) 1 0 0 69 := ⟨rfl, rfl⟩
theorem r_X11_valueNow_69 : RW M_X11_valueNow 69 (.isub) 1 0 0 70 := ⟨rfl, rfl⟩
theorem r_X11_valueNow_70 : RW M_X11_valueNow 70 (.iload_n 3) 1 0 0 71 := ⟨rfl, rfl⟩
theorem r_X11_valueNow_71 : RW M_X11_valueNow 71 (.aload_n 0) 1 0 0 72 := ⟨rfl, rfl⟩
theorem r_X11_valueNow_72 : RW M_X11_valueNow 72 (.getfield 59) 3 11 30 75 := ⟨rfl, rfl⟩
theorem r_X11_valueNow_75 : RW M_X11_valueNow 75 (.iload_n 1) 1 0 0 76 := ⟨rfl, rfl⟩
theorem r_X11_valueNow_76 : RW M_X11_valueNow 76 (.iconst 1) 1 0 0 77 := ⟨rfl, rfl⟩
theorem r_X11_valueNow_77 : RW M_X11_valueNow 77 (.isub) 1 0 0 78 := ⟨rfl, rfl⟩
theorem r_X11_valueNow_78 : RW M_X11_valueNow 78 (.iaload) 1 0 0 79 := ⟨rfl, rfl⟩
theorem r_X11_valueNow_79 : RW M_X11_valueNow 79 (.aload_n 0) 1 0 0 80 := ⟨rfl, rfl⟩
theorem r_X11_valueNow_80 : RW M_X11_valueNow 80 (.getfield 59) 3 11 30 83 := ⟨rfl, rfl⟩
theorem r_X11_valueNow_83 : RW M_X11_valueNow 83 (.iload_n 1) 1 0 0 84 := ⟨rfl, rfl⟩
theorem r_X11_valueNow_84 : RW M_X11_valueNow 84 (.iaload) 1 0 0 85 := ⟨rfl, rfl⟩
theorem r_X11_valueNow_85 : RW M_X11_valueNow 85 (.invokestatic 287) 3 204 0 88 := ⟨rfl, rfl⟩
theorem r_X11_valueNow_88 : RW M_X11_valueNow 88 (.iastore) 1 0 0 89 := ⟨rfl, rfl⟩
theorem r_X11_valueNow_89 : RW M_X11_valueNow 89 (.iinc 2 1) 3 0 0 92 := ⟨rfl, rfl⟩
theorem r_X11_valueNow_92 : RW M_X11_valueNow 92 (.goto (-88)) 3 4 0 95 := ⟨rfl, rfl⟩
theorem r_X11_valueNow_95 : RW M_X11_valueNow 95 (.aload_n 0) 1 0 0 96 := ⟨rfl, rfl⟩
theorem r_X11_valueNow_96 : RW M_X11_valueNow 96 (.getfield 59) 3 11 30 99 := ⟨rfl, rfl⟩
theorem r_X11_valueNow_99 : RW M_X11_valueNow 99 (.iconst 0) 1 0 0 100 := ⟨rfl, rfl⟩
theorem r_X11_valueNow_100 : RW M_X11_valueNow 100 (.iaload) 1 0 0 101 := ⟨rfl, rfl⟩
theorem r_X11_valueNow_101 : RW M_X11_valueNow 101 (.ireturn) 1 0 0 102 := ⟨rfl, rfl⟩
theorem r_X11_walkNow_0 : RW M_X11_walkNow 0 (.aload_n 0) 1 0 0 1 := ⟨rfl, rfl⟩
theorem r_X11_walkNow_1 : RW M_X11_walkNow 1 (.getfield 182) 3 11 32 4 := ⟨rfl, rfl⟩
theorem r_X11_walkNow_4 : RW M_X11_walkNow 4 (.ifCond .ne 12) 3 16 0 7 := ⟨rfl, rfl⟩
theorem r_X11_walkNow_7 : RW M_X11_walkNow 7 (.aload_n 0) 1 0 0 8 := ⟨rfl, rfl⟩
theorem r_X11_walkNow_8 : RW M_X11_walkNow 8 (.getfield 62) 3 11 33 11 := ⟨rfl, rfl⟩
theorem r_X11_walkNow_11 : RW M_X11_walkNow 11 (.iconst 0) 1 0 0 12 := ⟨rfl, rfl⟩
theorem r_X11_walkNow_12 : RW M_X11_walkNow 12 (.iaload) 1 0 0 13 := ⟨rfl, rfl⟩
theorem r_X11_walkNow_13 : RW M_X11_walkNow 13 (.goto 7) 3 20 0 16 := ⟨rfl, rfl⟩
theorem r_X11_walkNow_16 : RW M_X11_walkNow 16 (.aload_n 0) 1 0 0 17 := ⟨rfl, rfl⟩
theorem r_X11_walkNow_17 : RW M_X11_walkNow 17 (.invokevirtual 291) 3 203 0 20 := ⟨rfl, rfl⟩
theorem r_X11_walkNow_20 : RW M_X11_walkNow 20 (.istore_n 1) 1 0 0 21 := ⟨rfl, rfl⟩
theorem r_X11_walkNow_21 : RW M_X11_walkNow 21 (.iload_n 1) 1 0 0 22 := ⟨rfl, rfl⟩
theorem r_X11_walkNow_22 : RW M_X11_walkNow 22 (.iconst 1) 1 0 0 23 := ⟨rfl, rfl⟩
theorem r_X11_walkNow_23 : RW M_X11_walkNow 23 (.if_icmp .ge 7) 3 30 0 26 := ⟨rfl, rfl⟩
theorem r_X11_walkNow_26 : RW M_X11_walkNow 26 (.iconst 1) 1 0 0 27 := ⟨rfl, rfl⟩
theorem r_X11_walkNow_27 : RW M_X11_walkNow 27 (.goto 15) 3 42 0 30 := ⟨rfl, rfl⟩
theorem r_X11_walkNow_30 : RW M_X11_walkNow 30 (.iload_n 1) 1 0 0 31 := ⟨rfl, rfl⟩
theorem r_X11_walkNow_31 : RW M_X11_walkNow 31 (.bipush 40) 2 0 0 33 := ⟨rfl, rfl⟩
theorem r_X11_walkNow_33 : RW M_X11_walkNow 33 (.if_icmp .le 8) 3 41 0 36 := ⟨rfl, rfl⟩
theorem r_X11_walkNow_36 : RW M_X11_walkNow 36 (.bipush 40) 2 0 0 38 := ⟨rfl, rfl⟩
theorem r_X11_walkNow_38 : RW M_X11_walkNow 38 (.goto 4) 3 42 0 41 := ⟨rfl, rfl⟩
theorem r_X11_walkNow_41 : RW M_X11_walkNow 41 (.iload_n 1) 1 0 0 42 := ⟨rfl, rfl⟩
theorem r_X11_walkNow_42 : RW M_X11_walkNow 42 (.ireturn) 1 0 0 43 := ⟨rfl, rfl⟩
theorem r_X11_walkOf_0 : RW M_X11_walkOf 0 (.aload_n 0) 1 0 0 1 := ⟨rfl, rfl⟩
theorem r_X11_walkOf_1 : RW M_X11_walkOf 1 (.getfield 62) 3 11 33 4 := ⟨rfl, rfl⟩
theorem r_X11_walkOf_4 : RW M_X11_walkOf 4 (.iconst 0) 1 0 0 5 := ⟨rfl, rfl⟩
theorem r_X11_walkOf_5 : RW M_X11_walkOf 5 (.iload_n 1) 1 0 0 6 := ⟨rfl, rfl⟩
theorem r_X11_walkOf_6 : RW M_X11_walkOf 6 (.iastore) 1 0 0 7 := ⟨rfl, rfl⟩
theorem r_X11_walkOf_7 : RW M_X11_walkOf 7 (.aload_n 0) 1 0 0 8 := ⟨rfl, rfl⟩
theorem r_X11_walkOf_8 : RW M_X11_walkOf 8 (.getfield 62) 3 11 33 11 := ⟨rfl, rfl⟩
theorem r_X11_walkOf_11 : RW M_X11_walkOf 11 (.iconst 1) 1 0 0 12 := ⟨rfl, rfl⟩
theorem r_X11_walkOf_12 : RW M_X11_walkOf 12 (.iload_n 2) 1 0 0 13 := ⟨rfl, rfl⟩
theorem r_X11_walkOf_13 : RW M_X11_walkOf 13 (.iastore) 1 0 0 14 := ⟨rfl, rfl⟩
theorem r_X11_walkOf_14 : RW M_X11_walkOf 14 (.aload_n 0) 1 0 0 15 := ⟨rfl, rfl⟩
theorem r_X11_walkOf_15 : RW M_X11_walkOf 15 (.getfield 62) 3 11 33 18 := ⟨rfl, rfl⟩
theorem r_X11_walkOf_18 : RW M_X11_walkOf 18 (.iconst 2) 1 0 0 19 := ⟨rfl, rfl⟩
theorem r_X11_walkOf_19 : RW M_X11_walkOf 19 (.iload_n 3) 1 0 0 20 := ⟨rfl, rfl⟩
theorem r_X11_walkOf_20 : RW M_X11_walkOf 20 (.iastore) 1 0 0 21 := ⟨rfl, rfl⟩
theorem r_X11_walkOf_21 : RW M_X11_walkOf 21 (.aload_n 0) 1 0 0 22 := ⟨rfl, rfl⟩
theorem r_X11_walkOf_22 : RW M_X11_walkOf 22 (.getfield 62) 3 11 33 25 := ⟨rfl, rfl⟩
theorem r_X11_walkOf_25 : RW M_X11_walkOf 25 (.iconst 3) 1 0 0 26 := ⟨rfl, rfl⟩
theorem r_X11_walkOf_26 : RW M_X11_walkOf 26 (.iload 4) 2 0 0 28 := ⟨rfl, rfl⟩
theorem r_X11_walkOf_28 : RW M_X11_walkOf 28 (.iastore) 1 0 0 29 := ⟨rfl, rfl⟩
theorem r_X11_walkOf_29 : RW M_X11_walkOf 29 (.aload_n 0) 1 0 0 30 := ⟨rfl, rfl⟩
theorem r_X11_walkOf_30 : RW M_X11_walkOf 30 (.getfield 62) 3 11 33 33 := ⟨rfl, rfl⟩
theorem r_X11_walkOf_33 : RW M_X11_walkOf 33 (.iconst 4) 1 0 0 34 := ⟨rfl, rfl⟩
theorem r_X11_walkOf_34 : RW M_X11_walkOf 34 (.iload 5) 2 0 0 36 := ⟨rfl, rfl⟩
theorem r_X11_walkOf_36 : RW M_X11_walkOf 36 (.iastore) 1 0 0 37 := ⟨rfl, rfl⟩
theorem r_X11_walkOf_37 : RW M_X11_walkOf 37 (.aload_n 0) 1 0 0 38 := ⟨rfl, rfl⟩
theorem r_X11_walkOf_38 : RW M_X11_walkOf 38 (.getfield 62) 3 11 33 41 := ⟨rfl, rfl⟩
theorem r_X11_walkOf_41 : RW M_X11_walkOf 41 (.iconst 5) 1 0 0 42 := ⟨rfl, rfl⟩
theorem r_X11_walkOf_42 : RW M_X11_walkOf 42 (.iload 6) 2 0 0 44 := ⟨rfl, rfl⟩
theorem r_X11_walkOf_44 : RW M_X11_walkOf 44 (.iastore) 1 0 0 45 := ⟨rfl, rfl⟩
theorem r_X11_walkOf_45 : RW M_X11_walkOf 45 (.aload_n 0) 1 0 0 46 := ⟨rfl, rfl⟩
theorem r_X11_walkOf_46 : RW M_X11_walkOf 46 (.invokevirtual 341) 3 205 0 49 := ⟨rfl, rfl⟩
theorem r_X11_walkOf_49 : RW M_X11_walkOf 49 (.ireturn) 1 0 0 50 := ⟨rfl, rfl⟩
theorem m_value {d : Nat} {I : Nat → Nat → Int32} {J : Nat → Nat → Int64} {l : LW} {f : Nat → Int32} (ma : MA l I) (lb : LB l) (hf : ∀ j, j < 6 → I 122 j = f j) (hd : 2 ≤ d) : RI d 203 [.ref 106] I J (fun v I' => v = evl l f l.n 0 ∧ ∀ o, o ≠ 121 → I' o = I o) := by
  refine RI.in (d0 := 1) hd mt_203 (Nat.le_of_ble_eq_true rfl) (fun d' hd' => ?_)
  have ln := lb.n
  show EV none M_X11_valueNow d' 0 [(0, .ref 106)] [] (hp I J) _
  refine EV.o r_X11_valueNow_0 (icN (0) (v := 0)) ?_
  refine EV.l (lv' := [(0, _), (1, _)]) r_X11_valueNow_1 rfl ?_
  refine EV.o r_X11_valueNow_2 (icN (0) (v := 0)) ?_
  refine EV.l (lv' := [(0, _), (1, _), (2, _)]) r_X11_valueNow_3 rfl ?_
  have L4 : ∀ y_ : Nat × (Nat → Nat → Int32), (fun y => (y.1 ≤ l.n ∧ (∀ o, o ≠ 121 → y.2 o = I o) ∧ ∀ j, j < dep l y.1 → y.2 121 j = evl l f y.1 j) → EV none M_X11_valueNow d' 4 [(0, .ref 106), (1, .int (nI (dep l y.1))), (2, .int (nI y.1))] [] (hp y.2 J) (QI J (fun v I' => v = evl l f l.n 0 ∧ ∀ o, o ≠ 121 → I' o = I o))) y_ := by
    refine ev_loop (fun y => l.n - y.1) ?_
    intro ⟨k, I1⟩ ih4 hx4
    try dsimp only at ih4
    try dsimp only at hx4
    try dsimp only
    have n1 : I1 106 32 = nI l.n := by rw [hx4.2.1 106 (by decide)]; exact ma.n
    have cw : ∀ k, k < l.n → I1 119 k = nI (l.what k) := by rw [hx4.2.1 119 (by decide)]; exact ma.w
    have co : ∀ k, k < l.n → I1 120 k = nI (l.of k) := by rw [hx4.2.1 120 (by decide)]; exact ma.o
    have cf : ∀ j, j < 6 → I1 122 j = f j := by rw [hx4.2.1 122 (by decide)]; exact hf
    have dl := dep_le l k
    have kl := hx4.1
    refine EV.l (lv' := [(0, _), (1, _), (2, _)]) r_X11_valueNow_4 rfl ?_
    refine EV.l (lv' := [(0, _), (1, _), (2, _)]) r_X11_valueNow_5 rfl ?_
    refine EV.getV r_X11_valueNow_6 la_106 (n1) ?_
    refine EV.n2_ge r_X11_valueNow_9 (fun h9 => ?_) (fun h9 => ?_)
    · -- 9 t
      obtain rfl : k = l.n := by omega
      have d1 := lb.de
      refine EV.l (lv' := [(0, _), (1, _), (2, _)]) r_X11_valueNow_95 rfl ?_
      refine EV.gR r_X11_valueNow_96 la_106 ?_
      refine EV.o r_X11_valueNow_99 (icN (0) (v := 0)) ?_
      refine EV.iaN r_X11_valueNow_100 la_121 (hx4.2.2 _ (by omega)) ?_
      exact EV.ri r_X11_valueNow_101 (⟨rfl, hx4.2.1⟩)
    · -- 9 f
      have kn : k < l.n := by omega
      have w8 := lb.w k kn; have o1 := lb.o1 k kn; have d2 := lb.d2 k kn
      refine EV.l (lv' := [(0, _), (1, _), (2, _)]) r_X11_valueNow_12 rfl ?_
      refine EV.gR r_X11_valueNow_13 la_106 ?_
      refine EV.l (lv' := [(0, _), (1, _), (2, _)]) r_X11_valueNow_16 rfl ?_
      refine EV.iaN r_X11_valueNow_17 la_119 (cw _ (by omega)) ?_
      refine EV.l (lv' := [(0, _), (1, _), (2, _), (3, _)]) r_X11_valueNow_18 rfl ?_
      refine EV.l (lv' := [(0, _), (1, _), (2, _), (3, _)]) r_X11_valueNow_19 rfl ?_
      refine EV.o r_X11_valueNow_20 (icN (1) (v := 1)) ?_
      refine EV.n2_gt r_X11_valueNow_21 (fun h21 => ?_) (fun h21 => ?_)
      · -- 21 t
        refine EV.l (lv' := [(0, _), (1, _), (2, _), (3, _)]) r_X11_valueNow_60 rfl ?_
        rw [dec_nI (by omega)]
        refine EV.l (lv' := [(0, _), (1, _), (2, _), (3, _)]) r_X11_valueNow_63 rfl ?_
        refine EV.gR r_X11_valueNow_64 la_106 ?_
        refine EV.l (lv' := [(0, _), (1, _), (2, _), (3, _)]) r_X11_valueNow_67 rfl ?_
        refine EV.o r_X11_valueNow_68 (icN (1) (v := 1)) ?_
        refine EV.o r_X11_valueNow_69 (isubN) ?_
        refine EV.l (lv' := [(0, _), (1, _), (2, _), (3, _)]) r_X11_valueNow_70 rfl ?_
        refine EV.l (lv' := [(0, _), (1, _), (2, _), (3, _)]) r_X11_valueNow_71 rfl ?_
        refine EV.gR r_X11_valueNow_72 la_106 ?_
        refine EV.l (lv' := [(0, _), (1, _), (2, _), (3, _)]) r_X11_valueNow_75 rfl ?_
        refine EV.o r_X11_valueNow_76 (icN (1) (v := 1)) ?_
        refine EV.o r_X11_valueNow_77 (isubN) ?_
        refine EV.iaN r_X11_valueNow_78 la_121 (hx4.2.2 _ (by omega)) ?_
        refine EV.l (lv' := [(0, _), (1, _), (2, _), (3, _)]) r_X11_valueNow_79 rfl ?_
        refine EV.gR r_X11_valueNow_80 la_106 ?_
        refine EV.l (lv' := [(0, _), (1, _), (2, _), (3, _)]) r_X11_valueNow_83 rfl ?_
        refine EV.iaN r_X11_valueNow_84 la_121 (hx4.2.2 _ (by omega)) ?_
        refine EV.cv r_X11_valueNow_85 (aS3 mt_204) (m_ap (by omega) (by omega) (by omega)) ?_
        refine EV.iaSn r_X11_valueNow_88 la_121 (fun I2 e2 => ?_)
        refine EV.l (lv' := [(0, _), (1, _), (2, _), (3, _)]) r_X11_valueNow_89 rfl ?_
        rw [inc_nI]
        refine EV.g r_X11_valueNow_92 ?_
        refine EV.fg (lv' := [(0, _), (1, _), (2, _)]) r_X11_valueNow_4 rfl rfl rfl ?_
        refine EV.sub ?_ rfl ?_ (ih4 (k + 1, I2) ?_ ?_)
        · (try dsimp only) <;> (first | rw [dep_p (by omega)] | rw [dep_m (by omega)])
        · (try dsimp only) <;> (rfl)
        · (try dsimp only) <;> (omega)
        · (try dsimp only) <;> (subst e2; exact ⟨by omega, fun o h1 => (wr_row h1).trans (hx4.2.1 o h1), by first | exact ev_0 hx4.2.2 (by omega) rfl | exact ev_1 hx4.2.2 (by omega) rfl | exact ev_2 hx4.2.2 (by omega) (by omega) (by rw [show dep l k - 1 - 1 = dep l k - 2 by omega])⟩)
      · -- 21 f
        refine EV.l (lv' := [(0, _), (1, _), (2, _), (3, _)]) r_X11_valueNow_24 rfl ?_
        refine EV.gR r_X11_valueNow_25 la_106 ?_
        refine EV.l (lv' := [(0, _), (1, _), (2, _), (3, _)]) r_X11_valueNow_28 rfl ?_
        refine EV.l (lv' := [(0, _), (1, _), (2, _), (3, _)]) r_X11_valueNow_29 rfl ?_
        refine EV.n0_ne r_X11_valueNow_30 (fun h30 => ?_) (fun h30 => ?_)
        · -- 30 t
          refine EV.l (lv' := [(0, _), (1, _), (2, _), (3, _)]) r_X11_valueNow_42 rfl ?_
          refine EV.gR r_X11_valueNow_43 la_106 ?_
          refine EV.l (lv' := [(0, _), (1, _), (2, _), (3, _)]) r_X11_valueNow_46 rfl ?_
          refine EV.gR r_X11_valueNow_47 la_106 ?_
          refine EV.l (lv' := [(0, _), (1, _), (2, _), (3, _)]) r_X11_valueNow_50 rfl ?_
          refine EV.iaN r_X11_valueNow_51 la_120 (co _ (by omega)) ?_
          refine EV.iaN r_X11_valueNow_52 la_122 (cf _ (by omega)) ?_
          refine EV.iaSn r_X11_valueNow_53 la_121 (fun I2 e2 => ?_)
          refine EV.l (lv' := [(0, _), (1, _), (2, _), (3, _)]) r_X11_valueNow_54 rfl ?_
          rw [inc_nI]
          refine EV.g r_X11_valueNow_57 ?_
          refine EV.l (lv' := [(0, _), (1, _), (2, _), (3, _)]) r_X11_valueNow_89 rfl ?_
          rw [inc_nI]
          refine EV.g r_X11_valueNow_92 ?_
          refine EV.fg (lv' := [(0, _), (1, _), (2, _)]) r_X11_valueNow_4 rfl rfl rfl ?_
          refine EV.sub ?_ rfl ?_ (ih4 (k + 1, I2) ?_ ?_)
          · (try dsimp only) <;> (first | rw [dep_p (by omega)] | rw [dep_m (by omega)])
          · (try dsimp only) <;> (rfl)
          · (try dsimp only) <;> (omega)
          · (try dsimp only) <;> (subst e2; exact ⟨by omega, fun o h1 => (wr_row h1).trans (hx4.2.1 o h1), by first | exact ev_0 hx4.2.2 (by omega) rfl | exact ev_1 hx4.2.2 (by omega) rfl | exact ev_2 hx4.2.2 (by omega) (by omega) (by rw [show dep l k - 1 - 1 = dep l k - 2 by omega])⟩)
        · -- 30 f
          refine EV.l (lv' := [(0, _), (1, _), (2, _), (3, _)]) r_X11_valueNow_33 rfl ?_
          refine EV.gR r_X11_valueNow_34 la_106 ?_
          refine EV.l (lv' := [(0, _), (1, _), (2, _), (3, _)]) r_X11_valueNow_37 rfl ?_
          refine EV.iaN r_X11_valueNow_38 la_120 (co _ (by omega)) ?_
          refine EV.g r_X11_valueNow_39 ?_
          refine EV.iaSn r_X11_valueNow_53 la_121 (fun I2 e2 => ?_)
          refine EV.l (lv' := [(0, _), (1, _), (2, _), (3, _)]) r_X11_valueNow_54 rfl ?_
          rw [inc_nI]
          refine EV.g r_X11_valueNow_57 ?_
          refine EV.l (lv' := [(0, _), (1, _), (2, _), (3, _)]) r_X11_valueNow_89 rfl ?_
          rw [inc_nI]
          refine EV.g r_X11_valueNow_92 ?_
          refine EV.fg (lv' := [(0, _), (1, _), (2, _)]) r_X11_valueNow_4 rfl rfl rfl ?_
          refine EV.sub ?_ rfl ?_ (ih4 (k + 1, I2) ?_ ?_)
          · (try dsimp only) <;> (first | rw [dep_p (by omega)] | rw [dep_m (by omega)])
          · (try dsimp only) <;> (rfl)
          · (try dsimp only) <;> (omega)
          · (try dsimp only) <;> (subst e2; exact ⟨by omega, fun o h1 => (wr_row h1).trans (hx4.2.1 o h1), by first | exact ev_0 hx4.2.2 (by omega) rfl | exact ev_1 hx4.2.2 (by omega) rfl | exact ev_2 hx4.2.2 (by omega) (by omega) (by rw [show dep l k - 1 - 1 = dep l k - 2 by omega])⟩)
  have h0 := L4 ((0, I))
  try dsimp only at h0
  refine EV.sub ?_ rfl ?_ (h0 ?_)
  · (try dsimp only) <;> (rfl)
  · (try dsimp only) <;> (rfl)
  · (try dsimp only) <;> (exact ⟨Nat.zero_le _, fun _ _ => rfl, fun j hj => absurd hj (Nat.not_lt_zero j)⟩)
theorem m_walkA {d : Nat} {I : Nat → Nat → Int32} {J : Nat → Nat → Int64} {l : LW} {f : Nat → Int32} (ma : MA l I) (lb : LB l) (hf : ∀ j, j < 6 → I 122 j = f j) (hd : 3 ≤ d) : RI d 205 [.ref 106] I J (fun v I' => v = nI (wkf l f) ∧ ∀ o, o ≠ 121 → I' o = I o) := by
  refine RI.in (d0 := 2) hd mt_205 (Nat.le_of_ble_eq_true rfl) (fun d' hd' => ?_)
  have ln := lb.n; have l0 := lb.n0
  show EV none M_X11_walkNow d' 0 [(0, .ref 106)] [] (hp I J) _
  refine EV.l (lv' := [(0, _)]) r_X11_walkNow_0 rfl ?_
  refine EV.getV r_X11_walkNow_1 la_106 (ma.n) ?_
  refine EV.n0_ne r_X11_walkNow_4 (fun h4 => ?_) (fun h4 => ?_)
  · -- 4 t
    refine EV.l (lv' := [(0, _)]) r_X11_walkNow_16 rfl ?_
    refine EV.ci r_X11_walkNow_17 (aV0 mt_203 la_106) (m_value ma lb hf (by omega)) (fun v I2 h => ?_)
    obtain ⟨e, fr⟩ := h
    subst e
    refine EV.l (lv' := [(0, _), (1, _)]) r_X11_walkNow_20 rfl ?_
    refine EV.l (lv' := [(0, _), (1, _)]) r_X11_walkNow_21 rfl ?_
    refine EV.o r_X11_walkNow_22 (icN (1) (v := 1)) ?_
    refine EV.r2_ge r_X11_walkNow_23 (fun h23 => ?_) (fun h23 => ?_)
    · -- 23 t
      refine EV.l (lv' := [(0, _), (1, _)]) r_X11_walkNow_30 rfl ?_
      refine EV.o r_X11_walkNow_31 (bpN (40) 40) ?_
      refine EV.r2_le r_X11_walkNow_33 (fun h33 => ?_) (fun h33 => ?_)
      · -- 33 t
        refine EV.l (lv' := [(0, _), (1, _)]) r_X11_walkNow_41 rfl ?_
        exact EV.ri r_X11_walkNow_42 (⟨by first | exact ck_1 (by assumption) | exact ck_40 (by assumption) | exact ck_in (by assumption) (by assumption), fr⟩)
      · -- 33 f
        refine EV.o r_X11_walkNow_36 (bpN (40) 40) ?_
        refine EV.g r_X11_walkNow_38 ?_
        exact EV.ri r_X11_walkNow_42 (⟨by first | exact ck_1 (by assumption) | exact ck_40 (by assumption) | exact ck_in (by assumption) (by assumption), fr⟩)
    · -- 23 f
      refine EV.o r_X11_walkNow_26 (icN (1) (v := 1)) ?_
      refine EV.g r_X11_walkNow_27 ?_
      exact EV.ri r_X11_walkNow_42 (⟨by first | exact ck_1 (by assumption) | exact ck_40 (by assumption) | exact ck_in (by assumption) (by assumption), fr⟩)
  · omega
theorem m_walkE {d : Nat} {I : Nat → Nat → Int32} {J : Nat → Nat → Int64} {l : LW} {f : Nat → Int32} (me : ME l I) (hf : ∀ j, j < 6 → I 122 j = f j) (hd : 3 ≤ d) : RI d 205 [.ref 106] I J (fun v I' => v = nI (wkf l f) ∧ ∀ o, o ≠ 121 → I' o = I o) := by
  refine RI.in (d0 := 2) hd mt_205 (Nat.le_of_ble_eq_true rfl) (fun d' hd' => ?_)
  rw [← wkf_e me]
  have fr : ∀ o, o ≠ 121 → I o = I o := fun _ _ => rfl
  show EV none M_X11_walkNow d' 0 [(0, .ref 106)] [] (hp I J) _
  refine EV.l (lv' := [(0, _)]) r_X11_walkNow_0 rfl ?_
  refine EV.getV r_X11_walkNow_1 la_106 (me.n) ?_
  refine EV.n0_ne r_X11_walkNow_4 (fun h4 => ?_) (fun h4 => ?_)
  · omega
  · -- 4 f
    refine EV.l (lv' := [(0, _)]) r_X11_walkNow_7 rfl ?_
    refine EV.gR r_X11_walkNow_8 la_106 ?_
    refine EV.o r_X11_walkNow_11 (icN (0) (v := 0)) ?_
    refine EV.iaN r_X11_walkNow_12 la_122 (hf _ (by omega)) ?_
    refine EV.g r_X11_walkNow_13 ?_
    refine EV.l (lv' := [(0, _), (1, _)]) r_X11_walkNow_20 rfl ?_
    refine EV.l (lv' := [(0, _), (1, _)]) r_X11_walkNow_21 rfl ?_
    refine EV.o r_X11_walkNow_22 (icN (1) (v := 1)) ?_
    refine EV.r2_ge r_X11_walkNow_23 (fun h23 => ?_) (fun h23 => ?_)
    · -- 23 t
      refine EV.l (lv' := [(0, _), (1, _)]) r_X11_walkNow_30 rfl ?_
      refine EV.o r_X11_walkNow_31 (bpN (40) 40) ?_
      refine EV.r2_le r_X11_walkNow_33 (fun h33 => ?_) (fun h33 => ?_)
      · -- 33 t
        refine EV.l (lv' := [(0, _), (1, _)]) r_X11_walkNow_41 rfl ?_
        exact EV.ri r_X11_walkNow_42 (⟨by first | exact ck_1 (by assumption) | exact ck_40 (by assumption) | exact ck_in (by assumption) (by assumption), fr⟩)
      · -- 33 f
        refine EV.o r_X11_walkNow_36 (bpN (40) 40) ?_
        refine EV.g r_X11_walkNow_38 ?_
        exact EV.ri r_X11_walkNow_42 (⟨by first | exact ck_1 (by assumption) | exact ck_40 (by assumption) | exact ck_in (by assumption) (by assumption), fr⟩)
    · -- 23 f
      refine EV.o r_X11_walkNow_26 (icN (1) (v := 1)) ?_
      refine EV.g r_X11_walkNow_27 ?_
      exact EV.ri r_X11_walkNow_42 (⟨by first | exact ck_1 (by assumption) | exact ck_40 (by assumption) | exact ck_in (by assumption) (by assumption), fr⟩)
theorem m_walkNow {d : Nat} {I : Nat → Nat → Int32} {J : Nat → Nat → Int64} {l : LW} {f : Nat → Int32} (ml : ML l I) (lb : LB l) (hf : ∀ j, j < 6 → I 122 j = f j) (hd : 3 ≤ d) : RI d 205 [.ref 106] I J (fun v I' => v = nI (wkf l f) ∧ ∀ o, o ≠ 121 → I' o = I o) := ml.elim (fun h => m_walkA h lb hf hd) (fun h => m_walkE h hf hd)
theorem fb_in {I : Nat → Nat → Int32} {a0 a1 a2 a3 a4 a5 : Int32} : ∀ j, j < 6 → wr (wr (wr (wr (wr (wr I 122 0 a0) 122 1 a1) 122 2 a2) 122 3 a3) 122 4 a4) 122 5 a5 122 j = fa a0 a1 a2 a3 a4 a5 j := by
  intro j hj
  obtain rfl | rfl | rfl | rfl | rfl | rfl : j = 0 ∨ j = 1 ∨ j = 2 ∨ j = 3 ∨ j = 4 ∨ j = 5 := by omega
  all_goals rfl
theorem MA.fr {l : LW} {I I' : Nat → Nat → Int32} (h : MA l I) (h1 : I' 106 = I 106) (h2 : I' 119 = I 119) (h3 : I' 120 = I 120) : MA l I' := ⟨by rw [h1]; exact h.n, by rw [h2]; exact h.w, by rw [h3]; exact h.o⟩
theorem ME.fr {l : LW} {I I' : Nat → Nat → Int32} (h : ME l I) (h1 : I' 106 = I 106) : ME l I' := ⟨by rw [h1]; exact h.n, h.n1, h.w, h.o⟩
theorem ML.fr {l : LW} {I I' : Nat → Nat → Int32} (h : ML l I) (h1 : I' 106 = I 106) (h2 : I' 119 = I 119) (h3 : I' 120 = I 120) : ML l I' := h.elim (fun h => Or.inl (h.fr h1 h2 h3)) (fun h => Or.inr (h.fr h1))
theorem m_walkOf {d : Nat} {I : Nat → Nat → Int32} {J : Nat → Nat → Int64} {l : LW} {a0 a1 a2 a3 a4 a5 : Int32} (ml : ML l I) (lb : LB l) (hd : 4 ≤ d) : RI d 216 [.ref 106, .int a0, .int a1, .int a2, .int a3, .int a4, .int a5] I J (fun v I' => v = nI (wkf l (fa a0 a1 a2 a3 a4 a5)) ∧ ∀ o, o ≠ 121 → o ≠ 122 → I' o = I o) := by
  refine RI.in (d0 := 3) hd mt_216 (Nat.le_of_ble_eq_true rfl) (fun d' hd' => ?_)
  show EV none M_X11_walkOf d' 0 [(0, .ref 106), (1, .int a0), (2, .int a1), (3, .int a2), (4, .int a3), (5, .int a4), (6, .int a5)] [] (hp I J) _
  refine EV.l (lv' := [(0, _), (1, _), (2, _), (3, _), (4, _), (5, _), (6, _)]) r_X11_walkOf_0 rfl ?_
  refine EV.gR r_X11_walkOf_1 la_106 ?_
  refine EV.o r_X11_walkOf_4 (icN (0) (v := 0)) ?_
  refine EV.l (lv' := [(0, _), (1, _), (2, _), (3, _), (4, _), (5, _), (6, _)]) r_X11_walkOf_5 rfl ?_
  refine EV.iaS r_X11_walkOf_6 la_122 ?_
  refine EV.l (lv' := [(0, _), (1, _), (2, _), (3, _), (4, _), (5, _), (6, _)]) r_X11_walkOf_7 rfl ?_
  refine EV.gR r_X11_walkOf_8 la_106 ?_
  refine EV.o r_X11_walkOf_11 (icN (1) (v := 1)) ?_
  refine EV.l (lv' := [(0, _), (1, _), (2, _), (3, _), (4, _), (5, _), (6, _)]) r_X11_walkOf_12 rfl ?_
  refine EV.iaS r_X11_walkOf_13 la_122 ?_
  refine EV.l (lv' := [(0, _), (1, _), (2, _), (3, _), (4, _), (5, _), (6, _)]) r_X11_walkOf_14 rfl ?_
  refine EV.gR r_X11_walkOf_15 la_106 ?_
  refine EV.o r_X11_walkOf_18 (icN (2) (v := 2)) ?_
  refine EV.l (lv' := [(0, _), (1, _), (2, _), (3, _), (4, _), (5, _), (6, _)]) r_X11_walkOf_19 rfl ?_
  refine EV.iaS r_X11_walkOf_20 la_122 ?_
  refine EV.l (lv' := [(0, _), (1, _), (2, _), (3, _), (4, _), (5, _), (6, _)]) r_X11_walkOf_21 rfl ?_
  refine EV.gR r_X11_walkOf_22 la_106 ?_
  refine EV.o r_X11_walkOf_25 (icN (3) (v := 3)) ?_
  refine EV.l (lv' := [(0, _), (1, _), (2, _), (3, _), (4, _), (5, _), (6, _)]) r_X11_walkOf_26 rfl ?_
  refine EV.iaS r_X11_walkOf_28 la_122 ?_
  refine EV.l (lv' := [(0, _), (1, _), (2, _), (3, _), (4, _), (5, _), (6, _)]) r_X11_walkOf_29 rfl ?_
  refine EV.gR r_X11_walkOf_30 la_106 ?_
  refine EV.o r_X11_walkOf_33 (icN (4) (v := 4)) ?_
  refine EV.l (lv' := [(0, _), (1, _), (2, _), (3, _), (4, _), (5, _), (6, _)]) r_X11_walkOf_34 rfl ?_
  refine EV.iaS r_X11_walkOf_36 la_122 ?_
  refine EV.l (lv' := [(0, _), (1, _), (2, _), (3, _), (4, _), (5, _), (6, _)]) r_X11_walkOf_37 rfl ?_
  refine EV.gR r_X11_walkOf_38 la_106 ?_
  refine EV.o r_X11_walkOf_41 (icN (5) (v := 5)) ?_
  refine EV.l (lv' := [(0, _), (1, _), (2, _), (3, _), (4, _), (5, _), (6, _)]) r_X11_walkOf_42 rfl ?_
  refine EV.iaS r_X11_walkOf_44 la_122 ?_
  refine EV.l (lv' := [(0, _), (1, _), (2, _), (3, _), (4, _), (5, _), (6, _)]) r_X11_walkOf_45 rfl ?_
  refine EV.ci r_X11_walkOf_46 (aV0 mt_205 la_106) (m_walkNow (ML.fr ml (by rfl) (by rfl) (by rfl)) lb fb_in (by omega)) (fun v I2 h => ?_)
  obtain ⟨e, fr⟩ := h
  subst e
  exact EV.ri r_X11_walkOf_49 (⟨rfl, fun o h1 h2 => (fr o h1).trans (by simp only [wr_row h2])⟩)
