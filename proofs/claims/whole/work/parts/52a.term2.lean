/-! TERM and SPAN: the answers. -/
section PMZ
variable {sc : Option (Nat × (Nat → Int32))} {M : MI} {d pc : Nat} {lv : LV} {st : List Value} {G : AH} {Q : (Option Value ⊕ Nat) → AH → Nat → Prop}
theorem EV.pminZ {idx b pq : Nat} {x y : Int} (hr : RW M pc (.invokestatic idx) 3 900 b pq) (k : EV sc M d pq lv (.int (zI (min x y)) :: st) G Q) (hx : -2147483648 ≤ x := by omega) (hx2 : x < 2147483648 := by omega) (hy : -2147483648 ≤ y := by omega) (hy2 : y < 2147483648 := by omega) (hw : Nat.ble (wcs st) 8 = true := by rfl) : EV sc M d pc lv (.int (zI y) :: .int (zI x) :: st) G Q := by
  refine EV.pminR hr ?_ hw
  have e : (if zI y < zI x then zI y else zI x) = zI (min x y) := by
    by_cases h : y < x
    · rw [if_pos ((zI_ltI hy hy2 hx hx2).mpr h), Int.min_eq_right (by omega)]
    · rw [if_neg (fun z => h ((zI_ltI hy hy2 hx hx2).mp z)), Int.min_eq_left (by omega)]
  rw [e]; exact k
theorem EV.pmaxZ {idx b pq : Nat} {x y : Int} (hr : RW M pc (.invokestatic idx) 3 901 b pq) (k : EV sc M d pq lv (.int (zI (max x y)) :: st) G Q) (hx : -2147483648 ≤ x := by omega) (hx2 : x < 2147483648 := by omega) (hy : -2147483648 ≤ y := by omega) (hy2 : y < 2147483648 := by omega) (hw : Nat.ble (wcs st) 8 = true := by rfl) : EV sc M d pc lv (.int (zI y) :: .int (zI x) :: st) G Q := by
  refine EV.pmaxR hr ?_ hw
  have e : (if zI x < zI y then zI y else zI x) = zI (max x y) := by
    by_cases h : x < y
    · rw [if_pos ((zI_ltI hx hx2 hy hy2).mpr h), Int.max_eq_right (by omega)]
    · rw [if_neg (fun z => h ((zI_ltI hx hx2 hy hy2).mp z)), Int.max_eq_left (by omega)]
  rw [e]; exact k
end PMZ
theorem FR.tm {I I' : Nat → Nat → Int32} (h : ∀ x, x ≠ 50 → x ≠ 52 → (x < 94 ∨ 105 < x) → I' x = I x) : FR I I' := ⟨fun j _ => by rw [h 106 (by decide) (by decide) (by decide)], fun o _ hs => h o (fun e => by subst e; exact absurd hs (by decide)) (fun e => by subst e; exact absurd hs (by decide)) (by
  refine Classical.byContradiction fun hn => ?_
  have h2 : 94 ≤ o ∧ o ≤ 105 := by omega
  have h3 : sco o = true := (by decide +kernel : ∀ o, o < 106 → 94 ≤ o → sco o = true) o (by omega) h2.1
  rw [hs] at h3; cases h3)⟩
theorem FR.mtm {I I' : Nat → Nat → Int32} (h : ∀ x, x ≠ 106 → x ≠ 121 → x ≠ 122 → x ≠ 126 → I' x = I x) (h2 : ∀ j, j ≠ 0 → j ≠ 53 → I' 106 j = I 106 j) : FR I I' := ⟨fun j hj => h2 j (fun e => by subst e; exact absurd hj (by decide)) (fun e => by subst e; exact absurd hj (by decide)), fun o ho hs => h o ho (fun e => by subst e; exact absurd hs (by decide)) (fun e => by subst e; exact absurd hs (by decide)) (fun e => by subst e; exact absurd hs (by decide))⟩
theorem lean_b {κ : CT} (cb : CB κ) (x : Nat) : -540 ≤ lean κ x ∧ lean κ x ≤ 540 := by
  have h := leanN_b (κ := κ) (x := clo κ x) cb.sw κ.ns
  have := cb.ns
  have e : lean κ x = leanN κ (clo κ x) κ.ns := rfl
  omega
def spE (κ : CT) (l : LW) (q n : Nat) (s : Int32) (η : HS) (i : Nat) : HS := (trm κ l q (s + nI i, η) n).2
def spV (κ : CT) (l : LW) (q n : Nat) (s : Int32) (η : HS) (i : Nat) : Int := lean κ (heard κ (spE κ l q n s η i) (spE κ l q n s η i).mi)
def spL (κ : CT) (l : LW) (q n : Nat) (s : Int32) (η : HS) : Nat → Int
  | 0 => 0
  | i + 1 => if i = 0 then spV κ l q n s η i else min (spL κ l q n s η i) (spV κ l q n s η i)
def spM (κ : CT) (l : LW) (q n : Nat) (s : Int32) (η : HS) : Nat → Int
  | 0 => 0
  | i + 1 => if i = 0 then spV κ l q n s η i else max (spM κ l q n s η i) (spV κ l q n s η i)
def spC (κ : CT) (l : LW) (q n : Nat) (s : Int32) (η : HS) (x : Nat) : Nat → Nat
  | 0 => 0
  | i + 1 => spC κ l q n s η x i + (doesC κ (spE κ l q n s η i) x).toNat
section SPS
variable {κ : CT} {l : LW} {q n i x : Nat} {s : Int32} {η : HS}
theorem spL_b (cb : CB κ) : ∀ i, -540 ≤ spL κ l q n s η i ∧ spL κ l q n s η i ≤ 540
  | 0 => (by decide : -540 ≤ (0 : Int) ∧ (0 : Int) ≤ 540)
  | i + 1 => by
    have ih := spL_b cb i
    have h : -540 ≤ spV κ l q n s η i ∧ spV κ l q n s η i ≤ 540 := lean_b cb _
    unfold spL
    split <;> omega
theorem spM_b (cb : CB κ) : ∀ i, -540 ≤ spM κ l q n s η i ∧ spM κ l q n s η i ≤ 540
  | 0 => (by decide : -540 ≤ (0 : Int) ∧ (0 : Int) ≤ 540)
  | i + 1 => by
    have ih := spM_b cb i
    have h : -540 ≤ spV κ l q n s η i ∧ spV κ l q n s η i ≤ 540 := lean_b cb _
    unfold spM
    split <;> omega
theorem spL_0 (h : i = 0) : spL κ l q n s η (i + 1) = spV κ l q n s η i := if_pos h
theorem spL_s (h : ¬ i = 0) : spL κ l q n s η (i + 1) = min (spL κ l q n s η i) (spV κ l q n s η i) := if_neg h
theorem spM_0 (h : i = 0) : spM κ l q n s η (i + 1) = spV κ l q n s η i := if_pos h
theorem spM_s (h : ¬ i = 0) : spM κ l q n s η (i + 1) = max (spM κ l q n s η i) (spV κ l q n s η i) := if_neg h
theorem spC_t (h : doesC κ (spE κ l q n s η i) x = true) : spC κ l q n s η x (i + 1) = spC κ l q n s η x i + 1 := by show _ + _ = _; rw [h]; rfl
theorem spC_f (h : doesC κ (spE κ l q n s η i) x = false) : spC κ l q n s η x (i + 1) = spC κ l q n s η x i := by show _ + _ = _; rw [h]; rfl
end SPS
theorem trB_l2 {κ : CT} {l : LW} {q : Nat} {p : Int32 × HS} (h : dr (sdN (sdN (sdN p.1))) 16 < q) : trB κ l q p = (sdN (sdN (sdN (sdN p.1))), if canL p.2 (dr (sdN p.1) κ.nc) (dr (sdN (sdN p.1)) κ.nb) (1 + dr (sdN (sdN (sdN (sdN p.1)))) 9) = true then ms κ l (hLead p.2 (dr (sdN p.1) κ.nc) (dr (sdN (sdN p.1)) κ.nb) (1 + dr (sdN (sdN (sdN (sdN p.1)))) 9)) κ.nb else p.2) := if_pos h
theorem trB_c2 {κ : CT} {l : LW} {q : Nat} {p : Int32 × HS} (h : q ≤ dr (sdN (sdN (sdN p.1))) 16) : trB κ l q p = (sdN (sdN (sdN p.1)), if qCall p.2 (dr (sdN p.1) κ.nc) (dr (sdN (sdN p.1)) κ.nb) = true then ms κ l (hCall p.2 (dr (sdN p.1) κ.nc) (dr (sdN (sdN p.1)) κ.nb)) κ.nb else p.2) := if_neg (show ¬ dr (sdN (sdN (sdN p.1))) 16 < q by omega)
theorem r_X10_checkTerm_0 : RW M_X10_checkTerm 0 (.aload_n 0) 1 0 0 1 := ⟨rfl, rfl⟩
theorem r_X10_checkTerm_1 : RW M_X10_checkTerm 1 (.iload_n 1) 1 0 0 2 := ⟨rfl, rfl⟩
theorem r_X10_checkTerm_2 : RW M_X10_checkTerm 2 (.ifCond .lt 24) 3 26 0 5 := ⟨rfl, rfl⟩
theorem r_X10_checkTerm_5 : RW M_X10_checkTerm 5 (.iload_n 1) 1 0 0 6 := ⟨rfl, rfl⟩
theorem r_X10_checkTerm_6 : RW M_X10_checkTerm 6 (.bipush 16) 2 0 0 8 := ⟨rfl, rfl⟩
theorem r_X10_checkTerm_8 : RW M_X10_checkTerm 8 (.if_icmp .gt 18) 3 26 0 11 := ⟨rfl, rfl⟩
theorem r_X10_checkTerm_11 : RW M_X10_checkTerm 11 (.iload_n 2) 1 0 0 12 := ⟨rfl, rfl⟩
theorem r_X10_checkTerm_12 : RW M_X10_checkTerm 12 (.iconst 1) 1 0 0 13 := ⟨rfl, rfl⟩
theorem r_X10_checkTerm_13 : RW M_X10_checkTerm 13 (.if_icmp .lt 13) 3 26 0 16 := ⟨rfl, rfl⟩
theorem r_X10_checkTerm_16 : RW M_X10_checkTerm 16 (.iload_n 2) 1 0 0 17 := ⟨rfl, rfl⟩
theorem r_X10_checkTerm_17 : RW M_X10_checkTerm 17 (.bipush 48) 2 0 0 19 := ⟨rfl, rfl⟩
theorem r_X10_checkTerm_19 : RW M_X10_checkTerm 19 (.if_icmp .gt 7) 3 26 0 22 := ⟨rfl, rfl⟩
theorem r_X10_checkTerm_22 : RW M_X10_checkTerm 22 (.iconst 1) 1 0 0 23 := ⟨rfl, rfl⟩
theorem r_X10_checkTerm_23 : RW M_X10_checkTerm 23 (.goto 4) 3 27 0 26 := ⟨rfl, rfl⟩
theorem r_X10_checkTerm_26 : RW M_X10_checkTerm 26 (.iconst 0) 1 0 0 27 := ⟨rfl, rfl⟩
theorem r_X10_checkTerm_27 : RW M_X10_checkTerm 27 (.invokevirtual 175) 3 159 0 30 := ⟨rfl, rfl⟩
theorem r_X10_checkTerm_30 : RW M_X10_checkTerm 30 (.return_) 1 0 0 31 := ⟨rfl, rfl⟩
theorem r_X10_span_0 : RW M_X10_span 0 (.aload_n 0) 1 0 0 1 := ⟨rfl, rfl⟩
theorem r_X10_span_1 : RW M_X10_span 1 (.iload_n 3) 1 0 0 2 := ⟨rfl, rfl⟩
theorem r_X10_span_2 : RW M_X10_span 2 (.iload 4) 2 0 0 4 := ⟨rfl, rfl⟩
theorem r_X10_span_4 : RW M_X10_span 4 (.invokevirtual 352) 3 157 0 7 := ⟨rfl, rfl⟩
theorem r_X10_span_7 : RW M_X10_span 7 (.aload_n 0) 1 0 0 8 := ⟨rfl, rfl⟩
theorem r_X10_span_8 : RW M_X10_span 8 (.iload_n 2) 1 0 0 9 := ⟨rfl, rfl⟩
theorem r_X10_span_9 : RW M_X10_span 9 (.iconst 1) 1 0 0 10 := ⟨rfl, rfl⟩
theorem r_X10_span_10 : RW M_X10_span 10 (.if_icmp .lt 24) 3 34 0 13 := ⟨rfl, rfl⟩
theorem r_X10_span_13 : RW M_X10_span 13 (.iload_n 2) 1 0 0 14 := ⟨rfl, rfl⟩
theorem r_X10_span_14 : RW M_X10_span 14 (.bipush 10) 2 0 0 16 := ⟨rfl, rfl⟩
theorem r_X10_span_16 : RW M_X10_span 16 (.if_icmp .gt 18) 3 34 0 19 := ⟨rfl, rfl⟩
theorem r_X10_span_19 : RW M_X10_span 19 (.iload 5) 2 0 0 21 := ⟨rfl, rfl⟩
theorem r_X10_span_21 : RW M_X10_span 21 (.ifCond .lt 13) 3 34 0 24 := ⟨rfl, rfl⟩
theorem r_X10_span_24 : RW M_X10_span 24 (.iload 5) 2 0 0 26 := ⟨rfl, rfl⟩
theorem r_X10_span_26 : RW M_X10_span 26 (.iconst 2) 1 0 0 27 := ⟨rfl, rfl⟩
theorem r_X10_span_27 : RW M_X10_span 27 (.if_icmp .gt 7) 3 34 0 30 := ⟨rfl, rfl⟩
theorem r_X10_span_30 : RW M_X10_span 30 (.iconst 1) 1 0 0 31 := ⟨rfl, rfl⟩
theorem r_X10_span_31 : RW M_X10_span 31 (.goto 4) 3 35 0 34 := ⟨rfl, rfl⟩
theorem r_X10_span_34 : RW M_X10_span 34 (.iconst 0) 1 0 0 35 := ⟨rfl, rfl⟩
theorem r_X10_span_35 : RW M_X10_span 35 (.invokevirtual 175) 3 159 0 38 := ⟨rfl, rfl⟩
theorem r_X10_span_38 : RW M_X10_span 38 (.aload_n 0) 1 0 0 39 := ⟨rfl, rfl⟩
theorem r_X10_span_39 : RW M_X10_span 39 (.iload 6) 2 0 0 41 := ⟨rfl, rfl⟩
theorem r_X10_span_41 : RW M_X10_span 41 (.ifCond .lt 19) 3 60 0 44 := ⟨rfl, rfl⟩
theorem r_X10_span_44 : RW M_X10_span 44 (.iload 6) 2 0 0 46 := ⟨rfl, rfl⟩
theorem r_X10_span_46 : RW M_X10_span 46 (.aload_n 0) 1 0 0 47 := ⟨rfl, rfl⟩
theorem r_X10_span_47 : RW M_X10_span 47 (.getfield 19) 3 10 1 50 := ⟨rfl, rfl⟩
theorem r_X10_span_50 : RW M_X10_span 50 (.getfield 121) 3 1 10 53 := ⟨rfl, rfl⟩
theorem r_X10_span_53 : RW M_X10_span 53 (.if_icmp .ge 7) 3 60 0 56 := ⟨rfl, rfl⟩
theorem r_X10_span_56 : RW M_X10_span 56 (.iconst 1) 1 0 0 57 := ⟨rfl, rfl⟩
theorem r_X10_span_57 : RW M_X10_span 57 (.goto 4) 3 61 0 60 := ⟨rfl, rfl⟩
theorem r_X10_span_60 : RW M_X10_span 60 (.iconst 0) 1 0 0 61 := ⟨rfl, rfl⟩
theorem r_X10_span_61 : RW M_X10_span 61 (.invokevirtual 175) 3 159 0 64 := ⟨rfl, rfl⟩
theorem r_X10_span_64 : RW M_X10_span 64 (.iconst 0) 1 0 0 65 := ⟨rfl, rfl⟩
theorem r_X10_span_65 : RW M_X10_span 65 (.istore 7) 2 0 0 67 := ⟨rfl, rfl⟩
theorem r_X10_span_67 : RW M_X10_span 67 (.iconst 0) 1 0 0 68 := ⟨rfl, rfl⟩
theorem r_X10_span_68 : RW M_X10_span 68 (.istore 8) 2 0 0 70 := ⟨rfl, rfl⟩
theorem r_X10_span_70 : RW M_X10_span 70 (.iconst 0) 1 0 0 71 := ⟨rfl, rfl⟩
theorem r_X10_span_71 : RW M_X10_span 71 (.istore 9) 2 0 0 73 := ⟨rfl, rfl⟩
theorem r_X10_span_73 : RW M_X10_span 73 (.iconst 0) 1 0 0 74 := ⟨rfl, rfl⟩
theorem r_X10_span_74 : RW M_X10_span 74 (.istore 10) 2 0 0 76 := ⟨rfl, rfl⟩
theorem r_X10_span_76 : RW M_X10_span 76 (.iload 10) 2 0 11 78 := ⟨rfl, rfl⟩
theorem r_X10_span_78 : RW M_X10_span 78 (.iload_n 2) 1 0 0 79 := ⟨rfl, rfl⟩
theorem r_X10_span_79 : RW M_X10_span 79 (.if_icmp .ge 113) 3 192 0 82 := ⟨rfl, rfl⟩
theorem r_X10_span_82 : RW M_X10_span 82 (.aload_n 0) 1 0 0 83 := ⟨rfl, rfl⟩
theorem r_X10_span_83 : RW M_X10_span 83 (.getfield 83) 3 10 11 86 := ⟨rfl, rfl⟩
theorem r_X10_span_86 : RW M_X10_span 86 (.aload_n 0) 1 0 0 87 := ⟨rfl, rfl⟩
theorem r_X10_span_87 : RW M_X10_span 87 (.getfield 58) 3 10 8 90 := ⟨rfl, rfl⟩
theorem r_X10_span_90 : RW M_X10_span 90 (.iload_n 1) 1 0 0 91 := ⟨rfl, rfl⟩
theorem r_X10_span_91 : RW M_X10_span 91 (.iload 10) 2 0 0 93 := ⟨rfl, rfl⟩
theorem r_X10_span_93 : RW M_X10_span 93 (.iadd) 1 0 0 94 := ⟨rfl, rfl⟩
theorem r_X10_span_94 : RW M_X10_span 94 (.iload_n 3) 1 0 0 95 := ⟨rfl, rfl⟩
theorem r_X10_span_95 : RW M_X10_span 95 (.iload 4) 2 0 0 97 := ⟨rfl, rfl⟩
theorem r_X10_span_97 : RW M_X10_span 97 (.invokevirtual 355) 3 109 0 100 := ⟨rfl, rfl⟩
theorem r_X10_span_100 : RW M_X10_span 100 (.aload_n 0) 1 0 0 101 := ⟨rfl, rfl⟩
theorem r_X10_span_101 : RW M_X10_span 101 (.getfield 83) 3 10 11 104 := ⟨rfl, rfl⟩
theorem r_X10_span_104 : RW M_X10_span 104 (.getfield 358) 3 9 1 107 := ⟨rfl, rfl⟩
theorem r_X10_span_107 : RW M_X10_span 107 (.astore 11) 2 0 0 109 := ⟨rfl, rfl⟩
theorem r_X10_span_109 : RW M_X10_span 109 (.aload_n 0) 1 0 0 110 := ⟨rfl, rfl⟩
theorem r_X10_span_110 : RW M_X10_span 110 (.getfield 19) 3 10 1 113 := ⟨rfl, rfl⟩
theorem r_X10_span_113 : RW M_X10_span 113 (.aload 11) 2 0 0 115 := ⟨rfl, rfl⟩
theorem r_X10_span_115 : RW M_X10_span 115 (.aload 11) 2 0 0 117 := ⟨rfl, rfl⟩
theorem r_X10_span_117 : RW M_X10_span 117 (.getfield 188) 3 2 7 120 := ⟨rfl, rfl⟩
theorem r_X10_span_120 : RW M_X10_span 120 (.invokevirtual 195) 3 38 0 123 := ⟨rfl, rfl⟩
theorem r_X10_span_123 : RW M_X10_span 123 (.invokevirtual 207) 3 22 0 126 := ⟨rfl, rfl⟩
theorem r_X10_span_126 : RW M_X10_span 126 (.istore 12) 2 0 0 128 := ⟨rfl, rfl⟩
theorem r_X10_span_128 : RW M_X10_span 128 (.iload 10) 2 0 0 130 := ⟨rfl, rfl⟩
theorem r_X10_span_130 : RW M_X10_span 130 (.ifCond .ne 8) 3 138 0 133 := ⟨rfl, rfl⟩
theorem r_X10_span_133 : RW M_X10_span 133 (.iload 12) 2 0 0 135 := ⟨rfl, rfl⟩
theorem r_X10_span_135 : RW M_X10_span 135 (.goto 10) 3 145 0 138 := ⟨rfl, rfl⟩
theorem r_X10_span_138 : RW M_X10_span 138 (.iload 7) 2 0 0 140 := ⟨rfl, rfl⟩
theorem r_X10_span_140 : RW M_X10_span 140 (.iload 12) 2 0 0 142 := ⟨rfl, rfl⟩
theorem r_X10_span_142 : RW M_X10_span 142 (.invokestatic 319) 3 900 0 145 := ⟨rfl, rfl⟩
theorem r_X10_span_145 : RW M_X10_span 145 (.istore 7) 2 0 0 147 := ⟨rfl, rfl⟩
theorem r_X10_span_147 : RW M_X10_span 147 (.iload 10) 2 0 0 149 := ⟨rfl, rfl⟩
theorem r_X10_span_149 : RW M_X10_span 149 (.ifCond .ne 8) 3 157 0 152 := ⟨rfl, rfl⟩
theorem r_X10_span_152 : RW M_X10_span 152 (.iload 12) 2 0 0 154 := ⟨rfl, rfl⟩
theorem r_X10_span_154 : RW M_X10_span 154 (.goto 10) 3 164 0 157 := ⟨rfl, rfl⟩
theorem r_X10_span_157 : RW M_X10_span 157 (.iload 8) 2 0 0 159 := ⟨rfl, rfl⟩
theorem r_X10_span_159 : RW M_X10_span 159 (.iload 12) 2 0 0 161 := ⟨rfl, rfl⟩
theorem r_X10_span_161 : RW M_X10_span 161 (.invokestatic 364) 3 901 0 164 := ⟨rfl, rfl⟩
theorem r_X10_span_164 : RW M_X10_span 164 (.istore 8) 2 0 0 166 := ⟨rfl, rfl⟩
theorem r_X10_span_166 : RW M_X10_span 166 (.iload 9) 2 0 0 168 := ⟨rfl, rfl⟩
theorem r_X10_span_168 : RW M_X10_span 168 (.aload 11) 2 0 0 170 := ⟨rfl, rfl⟩
theorem r_X10_span_170 : RW M_X10_span 170 (.iload 6) 2 0 0 172 := ⟨rfl, rfl⟩
theorem r_X10_span_172 : RW M_X10_span 172 (.invokevirtual 228) 3 35 0 175 := ⟨rfl, rfl⟩
theorem r_X10_span_175 : RW M_X10_span 175 (.ifCond .eq 7) 3 182 0 178 := ⟨rfl, rfl⟩
theorem r_X10_span_178 : RW M_X10_span 178 (.iconst 1) 1 0 0 179 := ⟨rfl, rfl⟩
theorem r_X10_span_179 : RW M_X10_span 179 (.goto 4) 3 183 0 182 := ⟨rfl, rfl⟩
theorem r_X10_span_182 : RW M_X10_span 182 (.iconst 0) 1 0 0 183 := ⟨rfl, rfl⟩
theorem r_X10_span_183 : RW M_X10_span 183 (.iadd) 1 0 0 184 := ⟨rfl, rfl⟩
theorem r_X10_span_184 : RW M_X10_span 184 (.istore 9) 2 0 0 186 := ⟨rfl, rfl⟩
theorem r_X10_span_186 : RW M_X10_span 186 (.iinc 10 1) 3 0 0 189 := ⟨rfl, rfl⟩
theorem r_X10_span_189 : RW M_X10_span 189 (.goto (-113)) 3 76 0 192 := ⟨rfl, rfl⟩
theorem r_X10_span_192 : RW M_X10_span 192 (.iload 5) 2 0 0 194 := ⟨rfl, rfl⟩
theorem r_X10_span_194 : RW M_X10_span 194 (.ifCond .ne 8) 3 202 0 197 := ⟨rfl, rfl⟩
theorem r_X10_span_197 : RW M_X10_span 197 (.iload 7) 2 0 0 199 := ⟨rfl, rfl⟩
theorem r_X10_span_199 : RW M_X10_span 199 (.goto 16) 3 215 0 202 := ⟨rfl, rfl⟩
theorem r_X10_span_202 : RW M_X10_span 202 (.iload 5) 2 0 0 204 := ⟨rfl, rfl⟩
theorem r_X10_span_204 : RW M_X10_span 204 (.iconst 1) 1 0 0 205 := ⟨rfl, rfl⟩
theorem r_X10_span_205 : RW M_X10_span 205 (.if_icmp .ne 8) 3 213 0 208 := ⟨rfl, rfl⟩
theorem r_X10_span_208 : RW M_X10_span 208 (.iload 8) 2 0 0 210 := ⟨rfl, rfl⟩
theorem r_X10_span_210 : RW M_X10_span 210 (.goto 5) 3 215 0 213 := ⟨rfl, rfl⟩
theorem r_X10_span_213 : RW M_X10_span 213 (.iload 9) 2 0 0 215 := ⟨rfl, rfl⟩
theorem r_X10_span_215 : RW M_X10_span 215 (.ireturn) 1 0 0 216 := ⟨rfl, rfl⟩
theorem r_X10_term_0 : RW M_X10_term 0 (.aload_n 0) 1 0 0 1 := ⟨rfl, rfl⟩
theorem r_X10_term_1 : RW M_X10_term 1 (.iload_n 2) 1 0 0 2 := ⟨rfl, rfl⟩
theorem r_X10_term_2 : RW M_X10_term 2 (.iload_n 3) 1 0 0 3 := ⟨rfl, rfl⟩
theorem r_X10_term_3 : RW M_X10_term 3 (.invokevirtual 352) 3 157 0 6 := ⟨rfl, rfl⟩
theorem r_X10_term_6 : RW M_X10_term 6 (.aload_n 0) 1 0 0 7 := ⟨rfl, rfl⟩
theorem r_X10_term_7 : RW M_X10_term 7 (.iload 4) 2 0 0 9 := ⟨rfl, rfl⟩
theorem r_X10_term_9 : RW M_X10_term 9 (.ifCond .lt 13) 3 22 0 12 := ⟨rfl, rfl⟩
theorem r_X10_term_12 : RW M_X10_term 12 (.iload 4) 2 0 0 14 := ⟨rfl, rfl⟩
theorem r_X10_term_14 : RW M_X10_term 14 (.iconst 3) 1 0 0 15 := ⟨rfl, rfl⟩
theorem r_X10_term_15 : RW M_X10_term 15 (.if_icmp .gt 7) 3 22 0 18 := ⟨rfl, rfl⟩
theorem r_X10_term_18 : RW M_X10_term 18 (.iconst 1) 1 0 0 19 := ⟨rfl, rfl⟩
theorem r_X10_term_19 : RW M_X10_term 19 (.goto 4) 3 23 0 22 := ⟨rfl, rfl⟩
theorem r_X10_term_22 : RW M_X10_term 22 (.iconst 0) 1 0 0 23 := ⟨rfl, rfl⟩
theorem r_X10_term_23 : RW M_X10_term 23 (.invokevirtual 175) 3 159 0 26 := ⟨rfl, rfl⟩
theorem r_X10_term_26 : RW M_X10_term 26 (.aload_n 0) 1 0 0 27 := ⟨rfl, rfl⟩
theorem r_X10_term_27 : RW M_X10_term 27 (.getfield 83) 3 10 11 30 := ⟨rfl, rfl⟩
theorem r_X10_term_30 : RW M_X10_term 30 (.aload_n 0) 1 0 0 31 := ⟨rfl, rfl⟩
theorem r_X10_term_31 : RW M_X10_term 31 (.getfield 58) 3 10 8 34 := ⟨rfl, rfl⟩
theorem r_X10_term_34 : RW M_X10_term 34 (.iload_n 1) 1 0 0 35 := ⟨rfl, rfl⟩
theorem r_X10_term_35 : RW M_X10_term 35 (.iload_n 2) 1 0 0 36 := ⟨rfl, rfl⟩
theorem r_X10_term_36 : RW M_X10_term 36 (.iload_n 3) 1 0 0 37 := ⟨rfl, rfl⟩
theorem r_X10_term_37 : RW M_X10_term 37 (.invokevirtual 355) 3 109 0 40 := ⟨rfl, rfl⟩
theorem r_X10_term_40 : RW M_X10_term 40 (.aload_n 0) 1 0 0 41 := ⟨rfl, rfl⟩
theorem r_X10_term_41 : RW M_X10_term 41 (.getfield 83) 3 10 11 44 := ⟨rfl, rfl⟩
theorem r_X10_term_44 : RW M_X10_term 44 (.getfield 358) 3 9 1 47 := ⟨rfl, rfl⟩
theorem r_X10_term_47 : RW M_X10_term 47 (.astore 5) 2 0 0 49 := ⟨rfl, rfl⟩
theorem r_X10_term_49 : RW M_X10_term 49 (.iload 4) 2 0 0 51 := ⟨rfl, rfl⟩
theorem r_X10_term_51 : RW M_X10_term 51 (.tableswitch 55 0 2 #[25, 31, 49]) 25 0 0 76 := ⟨rfl, rfl⟩
theorem r_X10_term_76 : RW M_X10_term 76 (.aload 5) 2 0 0 78 := ⟨rfl, rfl⟩
theorem r_X10_term_78 : RW M_X10_term 78 (.invokevirtual 191) 3 36 0 81 := ⟨rfl, rfl⟩
theorem r_X10_term_81 : RW M_X10_term 81 (.ireturn) 1 0 0 82 := ⟨rfl, rfl⟩
theorem r_X10_term_82 : RW M_X10_term 82 (.aload_n 0) 1 0 0 83 := ⟨rfl, rfl⟩
theorem r_X10_term_83 : RW M_X10_term 83 (.getfield 19) 3 10 1 86 := ⟨rfl, rfl⟩
theorem r_X10_term_86 : RW M_X10_term 86 (.aload 5) 2 0 0 88 := ⟨rfl, rfl⟩
theorem r_X10_term_88 : RW M_X10_term 88 (.aload 5) 2 0 0 90 := ⟨rfl, rfl⟩
theorem r_X10_term_90 : RW M_X10_term 90 (.getfield 188) 3 2 7 93 := ⟨rfl, rfl⟩
theorem r_X10_term_93 : RW M_X10_term 93 (.invokevirtual 195) 3 38 0 96 := ⟨rfl, rfl⟩
theorem r_X10_term_96 : RW M_X10_term 96 (.invokevirtual 207) 3 22 0 99 := ⟨rfl, rfl⟩
theorem r_X10_term_99 : RW M_X10_term 99 (.ireturn) 1 0 0 100 := ⟨rfl, rfl⟩
theorem r_X10_term_100 : RW M_X10_term 100 (.aload 5) 2 0 0 102 := ⟨rfl, rfl⟩
theorem r_X10_term_102 : RW M_X10_term 102 (.getfield 201) 3 2 8 105 := ⟨rfl, rfl⟩
theorem r_X10_term_105 : RW M_X10_term 105 (.ireturn) 1 0 0 106 := ⟨rfl, rfl⟩
theorem r_X10_term_106 : RW M_X10_term 106 (.aload 5) 2 0 0 108 := ⟨rfl, rfl⟩
theorem r_X10_term_108 : RW M_X10_term 108 (.aload_n 0) 1 0 0 109 := ⟨rfl, rfl⟩
theorem r_X10_term_109 : RW M_X10_term 109 (.getfield 19) 3 10 1 112 := ⟨rfl, rfl⟩
theorem r_X10_term_112 : RW M_X10_term 112 (.invokevirtual 361) 3 15 0 115 := ⟨rfl, rfl⟩
theorem r_X10_term_115 : RW M_X10_term 115 (.bipush 40) 2 0 0 117 := ⟨rfl, rfl⟩
theorem r_X10_term_117 : RW M_X10_term 117 (.invokevirtual 316) 3 32 0 120 := ⟨rfl, rfl⟩
theorem r_X10_term_120 : RW M_X10_term 120 (.ireturn) 1 0 0 121 := ⟨rfl, rfl⟩
theorem c_chkT1 {d : Nat} {I : Nat → Nat → Int32} {J : Nat → Nat → Int64} {q n : Nat} (hq : q ≤ 16) (h1 : 1 ≤ n) (h2 : n ≤ 48)  (hd : 2 ≤ d) : RU d 157 [.ref 0, .int (nI q), .int (nI n)] I J (fun I' => I' = I) := by
  refine RU.in (d0 := 1) hd mt_157 (Nat.le_of_ble_eq_true rfl) (fun d' hd' => ?_)
  show EV none M_X10_checkTerm d' 0 [(0, .ref 0), (1, .int (nI q)), (2, .int (nI n))] [] (hp I J) _
  refine EV.l (lv' := [(0, _), (1, _), (2, _)]) r_X10_checkTerm_0 rfl ?_
  refine EV.l (lv' := [(0, _), (1, _), (2, _)]) r_X10_checkTerm_1 rfl ?_
  refine EV.n0_lt r_X10_checkTerm_2 (fun h2 => ?_) (fun h2 => ?_)
  · -- 2 t
    refine EV.o r_X10_checkTerm_26 (icN (0) (v := 0)) ?_
    omega
  · -- 2 f
    refine EV.l (lv' := [(0, _), (1, _), (2, _)]) r_X10_checkTerm_5 rfl ?_
    refine EV.o r_X10_checkTerm_6 (bpN (16) 16) ?_
    refine EV.n2_gt r_X10_checkTerm_8 (fun h8 => ?_) (fun h8 => ?_)
    · -- 8 t
      refine EV.o r_X10_checkTerm_26 (icN (0) (v := 0)) ?_
      omega
    · -- 8 f
      refine EV.l (lv' := [(0, _), (1, _), (2, _)]) r_X10_checkTerm_11 rfl ?_
      refine EV.o r_X10_checkTerm_12 (icN (1) (v := 1)) ?_
      refine EV.n2_lt r_X10_checkTerm_13 (fun h13 => ?_) (fun h13 => ?_)
      · -- 13 t
        refine EV.o r_X10_checkTerm_26 (icN (0) (v := 0)) ?_
        omega
      · -- 13 f
        refine EV.l (lv' := [(0, _), (1, _), (2, _)]) r_X10_checkTerm_16 rfl ?_
        refine EV.o r_X10_checkTerm_17 (bpN (48) 48) ?_
        refine EV.n2_gt r_X10_checkTerm_19 (fun h19 => ?_) (fun h19 => ?_)
        · -- 19 t
          refine EV.o r_X10_checkTerm_26 (icN (0) (v := 0)) ?_
          omega
        · -- 19 f
          refine EV.o r_X10_checkTerm_22 (icN (1) (v := 1)) ?_
          refine EV.g r_X10_checkTerm_23 ?_
          refine EV.cu r_X10_checkTerm_27 (aV1 mt_159 la_0) (c_arg1 (by omega)) (fun I2 e2 => ?_)
          have e2 := e2.symm; subst e2
          exact EV.ru r_X10_checkTerm_30 (rfl)
theorem c_chkT0 {d : Nat} {I : Nat → Nat → Int32} {J : Nat → Nat → Int64} {q : Int} (q1 : -2147483648 ≤ q) (q2 : q < 2147483648) {n : Int} (n1 : -2147483648 ≤ n) (n2 : n < 2147483648) (h : ¬ (0 ≤ q ∧ q ≤ 16 ∧ 1 ≤ n ∧ n ≤ 48))  (hd : 2 ≤ d) : RX d 157 [.ref 0, .int (zI q), .int (zI n)] I J 1 (fun I' => I' = ref1 I 14) := by
  refine RX.in (d0 := 1) hd mt_157 (Nat.le_of_ble_eq_true rfl) (fun d' hd' => ?_)
  show EV none M_X10_checkTerm d' 0 [(0, .ref 0), (1, .int (zI q)), (2, .int (zI n))] [] (hp I J) _
  refine EV.l (lv' := [(0, _), (1, _), (2, _)]) r_X10_checkTerm_0 rfl ?_
  refine EV.l (lv' := [(0, _), (1, _), (2, _)]) r_X10_checkTerm_1 rfl ?_
  refine EV.z0_lt r_X10_checkTerm_2 (fun h2 => ?_) (fun h2 => ?_)
  · -- 2 t
    refine EV.o r_X10_checkTerm_26 (icN (0) (v := 0)) ?_
    exact EV.cx r_X10_checkTerm_27 (aV1 mt_159 la_0) (c_arg0 (by omega)) (fun _ h => h)
  · -- 2 f
    refine EV.l (lv' := [(0, _), (1, _), (2, _)]) r_X10_checkTerm_5 rfl ?_
    refine EV.o r_X10_checkTerm_6 (bpN (16) 16) ?_
    refine EV.zn2_gt r_X10_checkTerm_8 (fun h8 => ?_) (fun h8 => ?_)
    · -- 8 t
      refine EV.o r_X10_checkTerm_26 (icN (0) (v := 0)) ?_
      exact EV.cx r_X10_checkTerm_27 (aV1 mt_159 la_0) (c_arg0 (by omega)) (fun _ h => h)
    · -- 8 f
      refine EV.l (lv' := [(0, _), (1, _), (2, _)]) r_X10_checkTerm_11 rfl ?_
      refine EV.o r_X10_checkTerm_12 (icN (1) (v := 1)) ?_
      refine EV.zn2_lt r_X10_checkTerm_13 (fun h13 => ?_) (fun h13 => ?_)
      · -- 13 t
        refine EV.o r_X10_checkTerm_26 (icN (0) (v := 0)) ?_
        exact EV.cx r_X10_checkTerm_27 (aV1 mt_159 la_0) (c_arg0 (by omega)) (fun _ h => h)
      · -- 13 f
        refine EV.l (lv' := [(0, _), (1, _), (2, _)]) r_X10_checkTerm_16 rfl ?_
        refine EV.o r_X10_checkTerm_17 (bpN (48) 48) ?_
        refine EV.zn2_gt r_X10_checkTerm_19 (fun h19 => ?_) (fun h19 => ?_)
        · -- 19 t
          refine EV.o r_X10_checkTerm_26 (icN (0) (v := 0)) ?_
          exact EV.cx r_X10_checkTerm_27 (aV1 mt_159 la_0) (c_arg0 (by omega)) (fun _ h => h)
        · -- 19 f
          refine EV.o r_X10_checkTerm_22 (icN (1) (v := 1)) ?_
          refine EV.g r_X10_checkTerm_23 ?_
          omega
theorem c_term0 {d : Nat} {I : Nat → Nat → Int32} {J : Nat → Nat → Int64} {κ : CT} {l : LW} {η : HS} (hc_ : HC 4 κ I) (cb : CB κ) (hh : HH 71 η I) (ho : hOk κ l η η.mi) (h4 : η.mi ≤ 400) (hl : HL 46 l I) (lb : LB l) {s : Int32} {q n : Nat} (hq : q ≤ 16) (h1 : 1 ≤ n) (h2 : n ≤ 48)  (hd : 13 ≤ d) : RI d 150 [.ref 0, .int s, .int (nI q), .int (nI n), .int (nI 0)] I J (fun v I' => v = nI (cnt κ (trm κ l q (s, η) n).2) ∧ FR I I') := by
  refine RI.in (d0 := 12) hd mt_150 (Nat.le_of_ble_eq_true rfl) (fun d' hd' => ?_)
  have bns := cb.ns; have bnb := cb.nb; have bnc := cb.nc; have bnr := cb.nr
  have pc := pow_nc cb; have pp := Nat.two_pow_pos κ.nc
  show EV none M_X10_term d' 0 [(0, .ref 0), (1, .int s), (2, .int (nI q)), (3, .int (nI n)), (4, .int (nI 0))] [] (hp I J) _
  refine EV.l (lv' := [(0, _), (1, _), (2, _), (3, _), (4, _)]) r_X10_term_0 rfl ?_
  refine EV.l (lv' := [(0, _), (1, _), (2, _), (3, _), (4, _)]) r_X10_term_1 rfl ?_
  refine EV.l (lv' := [(0, _), (1, _), (2, _), (3, _), (4, _)]) r_X10_term_2 rfl ?_
  refine EV.cu r_X10_term_3 (aV2 mt_157 la_0) (c_chkT1 hq h1 h2 (by omega)) (fun I2 e2 => ?_)
  have e2 := e2.symm; subst e2
  refine EV.l (lv' := [(0, _), (1, _), (2, _), (3, _), (4, _)]) r_X10_term_6 rfl ?_
  refine EV.l (lv' := [(0, _), (1, _), (2, _), (3, _), (4, _)]) r_X10_term_7 rfl ?_
  refine EV.n0_lt r_X10_term_9 (fun h9 => ?_) (fun h9 => ?_)
  · omega
  · -- 9 f
    refine EV.l (lv' := [(0, _), (1, _), (2, _), (3, _), (4, _)]) r_X10_term_12 rfl ?_
    refine EV.o r_X10_term_14 (icN (3) (v := 3)) ?_
    refine EV.n2_gt r_X10_term_15 (fun h15 => ?_) (fun h15 => ?_)
    · omega
    · -- 15 f
      refine EV.o r_X10_term_18 (icN (1) (v := 1)) ?_
      refine EV.g r_X10_term_19 ?_
      refine EV.cu r_X10_term_23 (aV1 mt_159 la_0) (c_arg1 (by omega)) (fun I2 e2 => ?_)
      have e2 := e2.symm; subst e2
      refine EV.l (lv' := [(0, _), (1, _), (2, _), (3, _), (4, _)]) r_X10_term_26 rfl ?_
      refine EV.gR r_X10_term_27 la_0 ?_
      refine EV.l (lv' := [(0, _), (1, _), (2, _), (3, _), (4, _)]) r_X10_term_30 rfl ?_
      refine EV.gR r_X10_term_31 la_0 ?_
      refine EV.l (lv' := [(0, _), (1, _), (2, _), (3, _), (4, _)]) r_X10_term_34 rfl ?_
      refine EV.l (lv' := [(0, _), (1, _), (2, _), (3, _), (4, _)]) r_X10_term_35 rfl ?_
      refine EV.l (lv' := [(0, _), (1, _), (2, _), (3, _), (4, _)]) r_X10_term_36 rfl ?_
      refine EV.cu r_X10_term_37 (aV4 mt_109 la_94) (c_play hc_ cb hh ho h4 hl lb (s := s) hq h2 (by omega)) (fun I3 h3 => ?_)
      obtain ⟨hh3, fr3⟩ := h3
      have hc3 : HC 4 κ I3 := hc_.fr (fun x a1 a2 => fr3 x (by omega) (by omega) (by omega))
      have hw3 : HW κ (trm κ l q (s, η) n).2 := (trm_ok (q := q) (p := (s, η)) ho h4 n h2).2.1.hw; have hb3 : HB κ (trm κ l q (s, η) n).2 := (trm_ok (q := q) (p := (s, η)) ho h4 n h2).1; have bm3 := hb3.mi
      refine EV.l (lv' := [(0, _), (1, _), (2, _), (3, _), (4, _)]) r_X10_term_40 rfl ?_
      refine EV.gR r_X10_term_41 la_0 ?_
      refine EV.gR r_X10_term_44 la_94 ?_
      refine EV.l (lv' := [(0, _), (1, _), (2, _), (3, _), (4, _), (5, _)]) r_X10_term_47 rfl ?_
      refine EV.l (lv' := [(0, _), (1, _), (2, _), (3, _), (4, _), (5, _)]) r_X10_term_49 rfl ?_
      refine EV.ts (q := 76) r_X10_term_51 (by decide +kernel) ?_
      refine EV.l (lv' := [(0, _), (1, _), (2, _), (3, _), (4, _), (5, _)]) r_X10_term_76 rfl ?_
      refine EV.cv r_X10_term_78 (aV0 mt_36 la_95) (c95_counting hc3 cb hh3 hb3 hw3 (by omega)) ?_
      exact EV.ri r_X10_term_81 (⟨rfl, FR.tm fr3⟩)
theorem c_term1 {d : Nat} {I : Nat → Nat → Int32} {J : Nat → Nat → Int64} {κ : CT} {l : LW} {η : HS} (hc_ : HC 4 κ I) (cb : CB κ) (hh : HH 71 η I) (ho : hOk κ l η η.mi) (h4 : η.mi ≤ 400) (hl : HL 46 l I) (lb : LB l) {s : Int32} {q n : Nat} (hq : q ≤ 16) (h1 : 1 ≤ n) (h2 : n ≤ 48)  (hd : 13 ≤ d) : RI d 150 [.ref 0, .int s, .int (nI q), .int (nI n), .int (nI 1)] I J (fun v I' => v = zI (lean κ (heard κ (trm κ l q (s, η) n).2 (trm κ l q (s, η) n).2.mi)) ∧ FR I I') := by
  refine RI.in (d0 := 12) hd mt_150 (Nat.le_of_ble_eq_true rfl) (fun d' hd' => ?_)
  have bns := cb.ns; have bnb := cb.nb; have bnc := cb.nc; have bnr := cb.nr
  have pc := pow_nc cb; have pp := Nat.two_pow_pos κ.nc
  show EV none M_X10_term d' 0 [(0, .ref 0), (1, .int s), (2, .int (nI q)), (3, .int (nI n)), (4, .int (nI 1))] [] (hp I J) _
  refine EV.l (lv' := [(0, _), (1, _), (2, _), (3, _), (4, _)]) r_X10_term_0 rfl ?_
  refine EV.l (lv' := [(0, _), (1, _), (2, _), (3, _), (4, _)]) r_X10_term_1 rfl ?_
  refine EV.l (lv' := [(0, _), (1, _), (2, _), (3, _), (4, _)]) r_X10_term_2 rfl ?_
  refine EV.cu r_X10_term_3 (aV2 mt_157 la_0) (c_chkT1 hq h1 h2 (by omega)) (fun I2 e2 => ?_)
  have e2 := e2.symm; subst e2
  refine EV.l (lv' := [(0, _), (1, _), (2, _), (3, _), (4, _)]) r_X10_term_6 rfl ?_
  refine EV.l (lv' := [(0, _), (1, _), (2, _), (3, _), (4, _)]) r_X10_term_7 rfl ?_
  refine EV.n0_lt r_X10_term_9 (fun h9 => ?_) (fun h9 => ?_)
  · omega
  · -- 9 f
    refine EV.l (lv' := [(0, _), (1, _), (2, _), (3, _), (4, _)]) r_X10_term_12 rfl ?_
    refine EV.o r_X10_term_14 (icN (3) (v := 3)) ?_
    refine EV.n2_gt r_X10_term_15 (fun h15 => ?_) (fun h15 => ?_)
    · omega
    · -- 15 f
      refine EV.o r_X10_term_18 (icN (1) (v := 1)) ?_
      refine EV.g r_X10_term_19 ?_
      refine EV.cu r_X10_term_23 (aV1 mt_159 la_0) (c_arg1 (by omega)) (fun I2 e2 => ?_)
      have e2 := e2.symm; subst e2
      refine EV.l (lv' := [(0, _), (1, _), (2, _), (3, _), (4, _)]) r_X10_term_26 rfl ?_
      refine EV.gR r_X10_term_27 la_0 ?_
      refine EV.l (lv' := [(0, _), (1, _), (2, _), (3, _), (4, _)]) r_X10_term_30 rfl ?_
      refine EV.gR r_X10_term_31 la_0 ?_
      refine EV.l (lv' := [(0, _), (1, _), (2, _), (3, _), (4, _)]) r_X10_term_34 rfl ?_
      refine EV.l (lv' := [(0, _), (1, _), (2, _), (3, _), (4, _)]) r_X10_term_35 rfl ?_
      refine EV.l (lv' := [(0, _), (1, _), (2, _), (3, _), (4, _)]) r_X10_term_36 rfl ?_
      refine EV.cu r_X10_term_37 (aV4 mt_109 la_94) (c_play hc_ cb hh ho h4 hl lb (s := s) hq h2 (by omega)) (fun I3 h3 => ?_)
      obtain ⟨hh3, fr3⟩ := h3
      have hc3 : HC 4 κ I3 := hc_.fr (fun x a1 a2 => fr3 x (by omega) (by omega) (by omega))
      have hw3 : HW κ (trm κ l q (s, η) n).2 := (trm_ok (q := q) (p := (s, η)) ho h4 n h2).2.1.hw; have hb3 : HB κ (trm κ l q (s, η) n).2 := (trm_ok (q := q) (p := (s, η)) ho h4 n h2).1; have bm3 := hb3.mi
      refine EV.l (lv' := [(0, _), (1, _), (2, _), (3, _), (4, _)]) r_X10_term_40 rfl ?_
      refine EV.gR r_X10_term_41 la_0 ?_
      refine EV.gR r_X10_term_44 la_94 ?_
      refine EV.l (lv' := [(0, _), (1, _), (2, _), (3, _), (4, _), (5, _)]) r_X10_term_47 rfl ?_
      refine EV.l (lv' := [(0, _), (1, _), (2, _), (3, _), (4, _), (5, _)]) r_X10_term_49 rfl ?_
      refine EV.ts (q := 82) r_X10_term_51 (by decide +kernel) ?_
      refine EV.l (lv' := [(0, _), (1, _), (2, _), (3, _), (4, _), (5, _)]) r_X10_term_82 rfl ?_
      refine EV.gR r_X10_term_83 la_0 ?_
      refine EV.l (lv' := [(0, _), (1, _), (2, _), (3, _), (4, _), (5, _)]) r_X10_term_86 rfl ?_
      refine EV.l (lv' := [(0, _), (1, _), (2, _), (3, _), (4, _), (5, _)]) r_X10_term_88 rfl ?_
      refine EV.getV r_X10_term_90 la_95 (hh3.mi) ?_
      refine EV.cv r_X10_term_93 (aV1 mt_38 la_95) (c95_heard hc3 cb hh3 hb3 hw3 (by omega) (by omega)) ?_
      refine EV.cv r_X10_term_96 (aV1 mt_22 la_4) (b_lean hc3 cb (heard_lt _) (by omega)) ?_
      exact EV.ri r_X10_term_99 (⟨rfl, FR.tm fr3⟩)
theorem c_term2 {d : Nat} {I : Nat → Nat → Int32} {J : Nat → Nat → Int64} {κ : CT} {l : LW} {η : HS} (hc_ : HC 4 κ I) (cb : CB κ) (hh : HH 71 η I) (ho : hOk κ l η η.mi) (h4 : η.mi ≤ 400) (hl : HL 46 l I) (lb : LB l) {s : Int32} {q n : Nat} (hq : q ≤ 16) (h1 : 1 ≤ n) (h2 : n ≤ 48)  (hd : 13 ≤ d) : RI d 150 [.ref 0, .int s, .int (nI q), .int (nI n), .int (nI 2)] I J (fun v I' => v = nI (trm κ l q (s, η) n).2.nt ∧ FR I I') := by
  refine RI.in (d0 := 12) hd mt_150 (Nat.le_of_ble_eq_true rfl) (fun d' hd' => ?_)
  have bns := cb.ns; have bnb := cb.nb; have bnc := cb.nc; have bnr := cb.nr
  have pc := pow_nc cb; have pp := Nat.two_pow_pos κ.nc
  show EV none M_X10_term d' 0 [(0, .ref 0), (1, .int s), (2, .int (nI q)), (3, .int (nI n)), (4, .int (nI 2))] [] (hp I J) _
  refine EV.l (lv' := [(0, _), (1, _), (2, _), (3, _), (4, _)]) r_X10_term_0 rfl ?_
  refine EV.l (lv' := [(0, _), (1, _), (2, _), (3, _), (4, _)]) r_X10_term_1 rfl ?_
  refine EV.l (lv' := [(0, _), (1, _), (2, _), (3, _), (4, _)]) r_X10_term_2 rfl ?_
  refine EV.cu r_X10_term_3 (aV2 mt_157 la_0) (c_chkT1 hq h1 h2 (by omega)) (fun I2 e2 => ?_)
  have e2 := e2.symm; subst e2
  refine EV.l (lv' := [(0, _), (1, _), (2, _), (3, _), (4, _)]) r_X10_term_6 rfl ?_
  refine EV.l (lv' := [(0, _), (1, _), (2, _), (3, _), (4, _)]) r_X10_term_7 rfl ?_
  refine EV.n0_lt r_X10_term_9 (fun h9 => ?_) (fun h9 => ?_)
  · omega
  · -- 9 f
    refine EV.l (lv' := [(0, _), (1, _), (2, _), (3, _), (4, _)]) r_X10_term_12 rfl ?_
    refine EV.o r_X10_term_14 (icN (3) (v := 3)) ?_
    refine EV.n2_gt r_X10_term_15 (fun h15 => ?_) (fun h15 => ?_)
    · omega
    · -- 15 f
      refine EV.o r_X10_term_18 (icN (1) (v := 1)) ?_
      refine EV.g r_X10_term_19 ?_
      refine EV.cu r_X10_term_23 (aV1 mt_159 la_0) (c_arg1 (by omega)) (fun I2 e2 => ?_)
      have e2 := e2.symm; subst e2
      refine EV.l (lv' := [(0, _), (1, _), (2, _), (3, _), (4, _)]) r_X10_term_26 rfl ?_
      refine EV.gR r_X10_term_27 la_0 ?_
      refine EV.l (lv' := [(0, _), (1, _), (2, _), (3, _), (4, _)]) r_X10_term_30 rfl ?_
      refine EV.gR r_X10_term_31 la_0 ?_
      refine EV.l (lv' := [(0, _), (1, _), (2, _), (3, _), (4, _)]) r_X10_term_34 rfl ?_
      refine EV.l (lv' := [(0, _), (1, _), (2, _), (3, _), (4, _)]) r_X10_term_35 rfl ?_
      refine EV.l (lv' := [(0, _), (1, _), (2, _), (3, _), (4, _)]) r_X10_term_36 rfl ?_
      refine EV.cu r_X10_term_37 (aV4 mt_109 la_94) (c_play hc_ cb hh ho h4 hl lb (s := s) hq h2 (by omega)) (fun I3 h3 => ?_)
      obtain ⟨hh3, fr3⟩ := h3
      have hc3 : HC 4 κ I3 := hc_.fr (fun x a1 a2 => fr3 x (by omega) (by omega) (by omega))
      have hw3 : HW κ (trm κ l q (s, η) n).2 := (trm_ok (q := q) (p := (s, η)) ho h4 n h2).2.1.hw; have hb3 : HB κ (trm κ l q (s, η) n).2 := (trm_ok (q := q) (p := (s, η)) ho h4 n h2).1; have bm3 := hb3.mi
      refine EV.l (lv' := [(0, _), (1, _), (2, _), (3, _), (4, _)]) r_X10_term_40 rfl ?_
      refine EV.gR r_X10_term_41 la_0 ?_
      refine EV.gR r_X10_term_44 la_94 ?_
      refine EV.l (lv' := [(0, _), (1, _), (2, _), (3, _), (4, _), (5, _)]) r_X10_term_47 rfl ?_
      refine EV.l (lv' := [(0, _), (1, _), (2, _), (3, _), (4, _), (5, _)]) r_X10_term_49 rfl ?_
      refine EV.ts (q := 100) r_X10_term_51 (by decide +kernel) ?_
      refine EV.l (lv' := [(0, _), (1, _), (2, _), (3, _), (4, _), (5, _)]) r_X10_term_100 rfl ?_
      refine EV.getV r_X10_term_102 la_95 (hh3.nt) ?_
      exact EV.ri r_X10_term_105 (⟨rfl, FR.tm fr3⟩)
theorem c_term3 {d : Nat} {I : Nat → Nat → Int32} {J : Nat → Nat → Int64} {κ : CT} {l : LW} {η : HS} (hc_ : HC 4 κ I) (cb : CB κ) (hh : HH 71 η I) (ho : hOk κ l η η.mi) (h4 : η.mi ≤ 400) (hl : HL 46 l I) (lb : LB l) {s : Int32} {q n : Nat} (hq : q ≤ 16) (h1 : 1 ≤ n) (h2 : n ≤ 48)  (hd : 13 ≤ d) : RI d 150 [.ref 0, .int s, .int (nI q), .int (nI n), .int (nI 3)] I J (fun v I' => v = nI (sumN (trm κ l q (s, η) n).2.cr κ.nc) ∧ FR I I') := by
  refine RI.in (d0 := 12) hd mt_150 (Nat.le_of_ble_eq_true rfl) (fun d' hd' => ?_)
  have bns := cb.ns; have bnb := cb.nb; have bnc := cb.nc; have bnr := cb.nr
  have pc := pow_nc cb; have pp := Nat.two_pow_pos κ.nc
  show EV none M_X10_term d' 0 [(0, .ref 0), (1, .int s), (2, .int (nI q)), (3, .int (nI n)), (4, .int (nI 3))] [] (hp I J) _
  refine EV.l (lv' := [(0, _), (1, _), (2, _), (3, _), (4, _)]) r_X10_term_0 rfl ?_
  refine EV.l (lv' := [(0, _), (1, _), (2, _), (3, _), (4, _)]) r_X10_term_1 rfl ?_
  refine EV.l (lv' := [(0, _), (1, _), (2, _), (3, _), (4, _)]) r_X10_term_2 rfl ?_
  refine EV.cu r_X10_term_3 (aV2 mt_157 la_0) (c_chkT1 hq h1 h2 (by omega)) (fun I2 e2 => ?_)
  have e2 := e2.symm; subst e2
  refine EV.l (lv' := [(0, _), (1, _), (2, _), (3, _), (4, _)]) r_X10_term_6 rfl ?_
  refine EV.l (lv' := [(0, _), (1, _), (2, _), (3, _), (4, _)]) r_X10_term_7 rfl ?_
  refine EV.n0_lt r_X10_term_9 (fun h9 => ?_) (fun h9 => ?_)
  · omega
  · -- 9 f
    refine EV.l (lv' := [(0, _), (1, _), (2, _), (3, _), (4, _)]) r_X10_term_12 rfl ?_
    refine EV.o r_X10_term_14 (icN (3) (v := 3)) ?_
    refine EV.n2_gt r_X10_term_15 (fun h15 => ?_) (fun h15 => ?_)
    · omega
    · -- 15 f
      refine EV.o r_X10_term_18 (icN (1) (v := 1)) ?_
      refine EV.g r_X10_term_19 ?_
      refine EV.cu r_X10_term_23 (aV1 mt_159 la_0) (c_arg1 (by omega)) (fun I2 e2 => ?_)
      have e2 := e2.symm; subst e2
      refine EV.l (lv' := [(0, _), (1, _), (2, _), (3, _), (4, _)]) r_X10_term_26 rfl ?_
      refine EV.gR r_X10_term_27 la_0 ?_
      refine EV.l (lv' := [(0, _), (1, _), (2, _), (3, _), (4, _)]) r_X10_term_30 rfl ?_
      refine EV.gR r_X10_term_31 la_0 ?_
      refine EV.l (lv' := [(0, _), (1, _), (2, _), (3, _), (4, _)]) r_X10_term_34 rfl ?_
      refine EV.l (lv' := [(0, _), (1, _), (2, _), (3, _), (4, _)]) r_X10_term_35 rfl ?_
      refine EV.l (lv' := [(0, _), (1, _), (2, _), (3, _), (4, _)]) r_X10_term_36 rfl ?_
      refine EV.cu r_X10_term_37 (aV4 mt_109 la_94) (c_play hc_ cb hh ho h4 hl lb (s := s) hq h2 (by omega)) (fun I3 h3 => ?_)
      obtain ⟨hh3, fr3⟩ := h3
      have hc3 : HC 4 κ I3 := hc_.fr (fun x a1 a2 => fr3 x (by omega) (by omega) (by omega))
      have hw3 : HW κ (trm κ l q (s, η) n).2 := (trm_ok (q := q) (p := (s, η)) ho h4 n h2).2.1.hw; have hb3 : HB κ (trm κ l q (s, η) n).2 := (trm_ok (q := q) (p := (s, η)) ho h4 n h2).1; have bm3 := hb3.mi
      refine EV.l (lv' := [(0, _), (1, _), (2, _), (3, _), (4, _)]) r_X10_term_40 rfl ?_
      refine EV.gR r_X10_term_41 la_0 ?_
      refine EV.gR r_X10_term_44 la_94 ?_
      refine EV.l (lv' := [(0, _), (1, _), (2, _), (3, _), (4, _), (5, _)]) r_X10_term_47 rfl ?_
      refine EV.l (lv' := [(0, _), (1, _), (2, _), (3, _), (4, _), (5, _)]) r_X10_term_49 rfl ?_
      refine EV.ts (q := 106) r_X10_term_51 (by decide +kernel) ?_
      refine EV.l (lv' := [(0, _), (1, _), (2, _), (3, _), (4, _), (5, _)]) r_X10_term_106 rfl ?_
      refine EV.l (lv' := [(0, _), (1, _), (2, _), (3, _), (4, _), (5, _)]) r_X10_term_108 rfl ?_
      refine EV.gR r_X10_term_109 la_0 ?_
      refine EV.cv r_X10_term_112 (aV0 mt_15 la_4) (b_allC hc3 cb (by omega)) ?_
      refine EV.o r_X10_term_115 (bpN (40) 40) ?_
      refine EV.cv r_X10_term_117 (aV2 mt_32 la_95) (c95_crumbs hc3 cb hh3 hb3 (by omega) (by omega) (by omega)) ?_
      exact EV.ri r_X10_term_120 (⟨by rw [crumb_all hb3.cr κ.nc (Nat.le_refl _)], FR.tm fr3⟩)
theorem c_termX1 {d : Nat} {I : Nat → Nat → Int32} {J : Nat → Nat → Int64} {s w : Int32} {q : Int} (q1 : -2147483648 ≤ q) (q2 : q < 2147483648) {n : Int} (n1 : -2147483648 ≤ n) (n2 : n < 2147483648) (h : ¬ (0 ≤ q ∧ q ≤ 16 ∧ 1 ≤ n ∧ n ≤ 48))  (hd : 9 ≤ d) : RX d 150 [.ref 0, .int s, .int (zI q), .int (zI n), .int w] I J 1 (fun I' => I' = ref1 I 14) := by
  refine RX.in (d0 := 8) hd mt_150 (Nat.le_of_ble_eq_true rfl) (fun d' hd' => ?_)
  show EV none M_X10_term d' 0 [(0, .ref 0), (1, .int s), (2, .int (zI q)), (3, .int (zI n)), (4, .int w)] [] (hp I J) _
  refine EV.l (lv' := [(0, _), (1, _), (2, _), (3, _), (4, _)]) r_X10_term_0 rfl ?_
  refine EV.l (lv' := [(0, _), (1, _), (2, _), (3, _), (4, _)]) r_X10_term_1 rfl ?_
  refine EV.l (lv' := [(0, _), (1, _), (2, _), (3, _), (4, _)]) r_X10_term_2 rfl ?_
  exact EV.cx r_X10_term_3 (aV2 mt_157 la_0) (c_chkT0 (by omega) (by omega) (by omega) (by omega) (by omega) (by omega)) (fun _ h => h)
theorem c_termX2 {d : Nat} {I : Nat → Nat → Int32} {J : Nat → Nat → Int64} {s : Int32} {q n : Nat} (hq : q ≤ 16) (h1 : 1 ≤ n) (h2 : n ≤ 48) {w : Int} (w1 : -2147483648 ≤ w) (w2 : w < 2147483648) (h : ¬ (0 ≤ w ∧ w ≤ 3))  (hd : 9 ≤ d) : RX d 150 [.ref 0, .int s, .int (nI q), .int (nI n), .int (zI w)] I J 1 (fun I' => I' = ref1 I 14) := by
  refine RX.in (d0 := 8) hd mt_150 (Nat.le_of_ble_eq_true rfl) (fun d' hd' => ?_)
  show EV none M_X10_term d' 0 [(0, .ref 0), (1, .int s), (2, .int (nI q)), (3, .int (nI n)), (4, .int (zI w))] [] (hp I J) _
  refine EV.l (lv' := [(0, _), (1, _), (2, _), (3, _), (4, _)]) r_X10_term_0 rfl ?_
  refine EV.l (lv' := [(0, _), (1, _), (2, _), (3, _), (4, _)]) r_X10_term_1 rfl ?_
  refine EV.l (lv' := [(0, _), (1, _), (2, _), (3, _), (4, _)]) r_X10_term_2 rfl ?_
  refine EV.cu r_X10_term_3 (aV2 mt_157 la_0) (c_chkT1 hq h1 h2 (by omega)) (fun I2 e2 => ?_)
  have e2 := e2.symm; subst e2
  refine EV.l (lv' := [(0, _), (1, _), (2, _), (3, _), (4, _)]) r_X10_term_6 rfl ?_
  refine EV.l (lv' := [(0, _), (1, _), (2, _), (3, _), (4, _)]) r_X10_term_7 rfl ?_
  refine EV.z0_lt r_X10_term_9 (fun h9 => ?_) (fun h9 => ?_)
  · -- 9 t
    refine EV.o r_X10_term_22 (icN (0) (v := 0)) ?_
    exact EV.cx r_X10_term_23 (aV1 mt_159 la_0) (c_arg0 (by omega)) (fun _ h => h)
  · -- 9 f
    refine EV.l (lv' := [(0, _), (1, _), (2, _), (3, _), (4, _)]) r_X10_term_12 rfl ?_
    refine EV.o r_X10_term_14 (icN (3) (v := 3)) ?_
    refine EV.zn2_gt r_X10_term_15 (fun h15 => ?_) (fun h15 => ?_)
    · -- 15 t
      refine EV.o r_X10_term_22 (icN (0) (v := 0)) ?_
      exact EV.cx r_X10_term_23 (aV1 mt_159 la_0) (c_arg0 (by omega)) (fun _ h => h)
    · -- 15 f
      refine EV.o r_X10_term_18 (icN (1) (v := 1)) ?_
      refine EV.g r_X10_term_19 ?_
      omega
theorem c_span0 {d : Nat} {I : Nat → Nat → Int32} {J : Nat → Nat → Int64} {κ : CT} {l : LW} {η : HS} (hc_ : HC 4 κ I) (cb : CB κ) (hh : HH 71 η I) (ho : hOk κ l η η.mi) (h4 : η.mi ≤ 400) (hl : HL 46 l I) (lb : LB l) {s : Int32} {q n : Nat} (hq : q ≤ 16) (h1 : 1 ≤ n) (h2 : n ≤ 48) {m x : Nat} (hm : 1 ≤ m) (hm2 : m ≤ 10) (hx : x < κ.ns)  (hd : 13 ≤ d) : RI d 151 [.ref 0, .int s, .int (nI m), .int (nI q), .int (nI n), .int (nI 0), .int (nI x)] I J (fun v I' => v = zI (spL κ l q n s η m) ∧ FR I I') := by
  refine RI.in (d0 := 12) hd mt_151 (Nat.le_of_ble_eq_true rfl) (fun d' hd' => ?_)
  have bns := cb.ns; have bnb := cb.nb; have bnc := cb.nc; have bnr := cb.nr
  show EV none M_X10_span d' 0 [(0, .ref 0), (1, .int s), (2, .int (nI m)), (3, .int (nI q)), (4, .int (nI n)), (5, .int (nI 0)), (6, .int (nI x))] [] (hp I J) _
  refine EV.l (lv' := [(0, _), (1, _), (2, _), (3, _), (4, _), (5, _), (6, _)]) r_X10_span_0 rfl ?_
  refine EV.l (lv' := [(0, _), (1, _), (2, _), (3, _), (4, _), (5, _), (6, _)]) r_X10_span_1 rfl ?_
  refine EV.l (lv' := [(0, _), (1, _), (2, _), (3, _), (4, _), (5, _), (6, _)]) r_X10_span_2 rfl ?_
  refine EV.cu r_X10_span_4 (aV2 mt_157 la_0) (c_chkT1 hq h1 h2 (by omega)) (fun I2 e2 => ?_)
  have e2 := e2.symm; subst e2
  refine EV.l (lv' := [(0, _), (1, _), (2, _), (3, _), (4, _), (5, _), (6, _)]) r_X10_span_7 rfl ?_
  refine EV.l (lv' := [(0, _), (1, _), (2, _), (3, _), (4, _), (5, _), (6, _)]) r_X10_span_8 rfl ?_
  refine EV.o r_X10_span_9 (icN (1) (v := 1)) ?_
  refine EV.n2_lt r_X10_span_10 (fun h10 => ?_) (fun h10 => ?_)
  · -- 10 t
    refine EV.o r_X10_span_34 (icN (0) (v := 0)) ?_
    omega
  · -- 10 f
    refine EV.l (lv' := [(0, _), (1, _), (2, _), (3, _), (4, _), (5, _), (6, _)]) r_X10_span_13 rfl ?_
    refine EV.o r_X10_span_14 (bpN (10) 10) ?_
    refine EV.n2_gt r_X10_span_16 (fun h16 => ?_) (fun h16 => ?_)
    · -- 16 t
      refine EV.o r_X10_span_34 (icN (0) (v := 0)) ?_
      omega
    · -- 16 f
      refine EV.l (lv' := [(0, _), (1, _), (2, _), (3, _), (4, _), (5, _), (6, _)]) r_X10_span_19 rfl ?_
      refine EV.n0_lt r_X10_span_21 (fun h21 => ?_) (fun h21 => ?_)
      · omega
      · -- 21 f
        refine EV.l (lv' := [(0, _), (1, _), (2, _), (3, _), (4, _), (5, _), (6, _)]) r_X10_span_24 rfl ?_
        refine EV.o r_X10_span_26 (icN (2) (v := 2)) ?_
        refine EV.n2_gt r_X10_span_27 (fun h27 => ?_) (fun h27 => ?_)
        · omega
        · -- 27 f
          refine EV.o r_X10_span_30 (icN (1) (v := 1)) ?_
          refine EV.g r_X10_span_31 ?_
          refine EV.cu r_X10_span_35 (aV1 mt_159 la_0) (c_arg1 (by omega)) (fun I2 e2 => ?_)
          have e2 := e2.symm; subst e2
          refine EV.l (lv' := [(0, _), (1, _), (2, _), (3, _), (4, _), (5, _), (6, _)]) r_X10_span_38 rfl ?_
          refine EV.l (lv' := [(0, _), (1, _), (2, _), (3, _), (4, _), (5, _), (6, _)]) r_X10_span_39 rfl ?_
          refine EV.n0_lt r_X10_span_41 (fun h41 => ?_) (fun h41 => ?_)
          · -- 41 t
            refine EV.o r_X10_span_60 (icN (0) (v := 0)) ?_
            omega
          · -- 41 f
            refine EV.l (lv' := [(0, _), (1, _), (2, _), (3, _), (4, _), (5, _), (6, _)]) r_X10_span_44 rfl ?_
            refine EV.l (lv' := [(0, _), (1, _), (2, _), (3, _), (4, _), (5, _), (6, _)]) r_X10_span_46 rfl ?_
            refine EV.gR r_X10_span_47 la_0 ?_
            refine EV.getV r_X10_span_50 la_4 (hc_.ns) ?_
            refine EV.n2_ge r_X10_span_53 (fun h53 => ?_) (fun h53 => ?_)
            · -- 53 t
              refine EV.o r_X10_span_60 (icN (0) (v := 0)) ?_
              omega
            · -- 53 f
              refine EV.o r_X10_span_56 (icN (1) (v := 1)) ?_
              refine EV.g r_X10_span_57 ?_
              refine EV.cu r_X10_span_61 (aV1 mt_159 la_0) (c_arg1 (by omega)) (fun I2 e2 => ?_)
              have e2 := e2.symm; subst e2
              refine EV.o r_X10_span_64 (icN (0) (v := 0)) ?_
              refine EV.l (lv' := [(0, _), (1, _), (2, _), (3, _), (4, _), (5, _), (6, _), (7, _)]) r_X10_span_65 rfl ?_
              refine EV.o r_X10_span_67 (icN (0) (v := 0)) ?_
              refine EV.l (lv' := [(0, _), (1, _), (2, _), (3, _), (4, _), (5, _), (6, _), (7, _), (8, _)]) r_X10_span_68 rfl ?_
              refine EV.o r_X10_span_70 (icN (0) (v := 0)) ?_
              refine EV.l (lv' := [(0, _), (1, _), (2, _), (3, _), (4, _), (5, _), (6, _), (7, _), (8, _), (9, _)]) r_X10_span_71 rfl ?_
              refine EV.o r_X10_span_73 (icN (0) (v := 0)) ?_
              refine EV.l (lv' := [(0, _), (1, _), (2, _), (3, _), (4, _), (5, _), (6, _), (7, _), (8, _), (9, _), (10, _)]) r_X10_span_74 rfl ?_
              have L76 : ∀ y_ : Nat × (Nat → Nat → Int32), (fun y => (y.1 ≤ m ∧ ∀ x, x ≠ 50 → x ≠ 52 → (x < 94 ∨ 105 < x) → y.2 x = I x) → EV none M_X10_span d' 76 [(0, .ref 0), (1, .int s), (2, .int (nI m)), (3, .int (nI q)), (4, .int (nI n)), (5, .int (nI 0)), (6, .int (nI x)), (7, .int (zI (spL κ l q n s η y.1))), (8, .int (zI (spM κ l q n s η y.1))), (9, .int (nI (spC κ l q n s η x y.1))), (10, .int (nI y.1))] [] (hp y.2 J) (QI J (fun v I' => v = zI (spL κ l q n s η m) ∧ FR I I'))) y_ := by
                refine ev_loop (fun y => m - y.1) ?_
                intro ⟨i, I1⟩ ih76 hx76
                try dsimp only at ih76
                try dsimp only at hx76
                try dsimp only
                obtain ⟨il, fx⟩ := hx76
                have hcx : HC 4 κ I1 := hc_.fr (fun x a1 a2 => fx x (by omega) (by omega) (by omega))
                have hhx : HH 71 η I1 := hh.fr (fun x a1 a2 => fx x (by omega) (by omega) (by omega))
                have hlx : HL 46 l I1 := hl.fr (fx 46 (by decide) (by decide) (by omega)) (fx 48 (by decide) (by decide) (by omega))
                have bl := spL_b (l := l) (q := q) (n := n) (s := s) (η := η) cb i; have bM := spM_b (l := l) (q := q) (n := n) (s := s) (η := η) cb i
                refine EV.l (lv' := [(0, _), (1, _), (2, _), (3, _), (4, _), (5, _), (6, _), (7, _), (8, _), (9, _), (10, _)]) r_X10_span_76 rfl ?_
                refine EV.l (lv' := [(0, _), (1, _), (2, _), (3, _), (4, _), (5, _), (6, _), (7, _), (8, _), (9, _), (10, _)]) r_X10_span_78 rfl ?_
                refine EV.n2_ge r_X10_span_79 (fun h79 => ?_) (fun h79 => ?_)
                · -- 79 t
                  obtain rfl : i = m := by omega
                  refine EV.l (lv' := [(0, _), (1, _), (2, _), (3, _), (4, _), (5, _), (6, _), (7, _), (8, _), (9, _), (10, _)]) r_X10_span_192 rfl ?_
                  refine EV.n0_ne r_X10_span_194 (fun h194 => ?_) (fun h194 => ?_)
                  · omega
                  · -- 194 f
                    refine EV.l (lv' := [(0, _), (1, _), (2, _), (3, _), (4, _), (5, _), (6, _), (7, _), (8, _), (9, _), (10, _)]) r_X10_span_197 rfl ?_
                    refine EV.g r_X10_span_199 ?_
                    exact EV.ri r_X10_span_215 (⟨rfl, FR.tm fx⟩)
                · -- 79 f
                  refine EV.l (lv' := [(0, _), (1, _), (2, _), (3, _), (4, _), (5, _), (6, _), (7, _), (8, _), (9, _), (10, _)]) r_X10_span_82 rfl ?_
                  refine EV.gR r_X10_span_83 la_0 ?_
                  refine EV.l (lv' := [(0, _), (1, _), (2, _), (3, _), (4, _), (5, _), (6, _), (7, _), (8, _), (9, _), (10, _)]) r_X10_span_86 rfl ?_
                  refine EV.gR r_X10_span_87 la_0 ?_
                  refine EV.l (lv' := [(0, _), (1, _), (2, _), (3, _), (4, _), (5, _), (6, _), (7, _), (8, _), (9, _), (10, _)]) r_X10_span_90 rfl ?_
                  refine EV.l (lv' := [(0, _), (1, _), (2, _), (3, _), (4, _), (5, _), (6, _), (7, _), (8, _), (9, _), (10, _)]) r_X10_span_91 rfl ?_
                  refine EV.o r_X10_span_93 rfl ?_
                  refine EV.l (lv' := [(0, _), (1, _), (2, _), (3, _), (4, _), (5, _), (6, _), (7, _), (8, _), (9, _), (10, _)]) r_X10_span_94 rfl ?_
                  refine EV.l (lv' := [(0, _), (1, _), (2, _), (3, _), (4, _), (5, _), (6, _), (7, _), (8, _), (9, _), (10, _)]) r_X10_span_95 rfl ?_
                  refine EV.cu r_X10_span_97 (aV4 mt_109 la_94) (c_play hcx cb hhx ho h4 hlx lb (s := (s + nI i)) hq h2 (by omega)) (fun I3 h3 => ?_)
                  obtain ⟨hh3, fr3⟩ := h3
                  have hc3 : HC 4 κ I3 := hcx.fr (fun x a1 a2 => fr3 x (by omega) (by omega) (by omega))
                  have hw3 : HW κ (trm κ l q ((s + nI i), η) n).2 := (trm_ok (q := q) (p := ((s + nI i), η)) ho h4 n h2).2.1.hw; have hb3 : HB κ (trm κ l q ((s + nI i), η) n).2 := (trm_ok (q := q) (p := ((s + nI i), η)) ho h4 n h2).1; have bm3 := hb3.mi
                  have lbv := lean_b cb (heard κ (trm κ l q (s + nI i, η) n).2 (trm κ l q (s + nI i, η) n).2.mi)
                  refine EV.l (lv' := [(0, _), (1, _), (2, _), (3, _), (4, _), (5, _), (6, _), (7, _), (8, _), (9, _), (10, _)]) r_X10_span_100 rfl ?_
                  refine EV.gR r_X10_span_101 la_0 ?_
                  refine EV.gR r_X10_span_104 la_94 ?_
                  refine EV.l (lv' := [(0, _), (1, _), (2, _), (3, _), (4, _), (5, _), (6, _), (7, _), (8, _), (9, _), (10, _), (11, _)]) r_X10_span_107 rfl ?_
                  refine EV.l (lv' := [(0, _), (1, _), (2, _), (3, _), (4, _), (5, _), (6, _), (7, _), (8, _), (9, _), (10, _), (11, _)]) r_X10_span_109 rfl ?_
                  refine EV.gR r_X10_span_110 la_0 ?_
                  refine EV.l (lv' := [(0, _), (1, _), (2, _), (3, _), (4, _), (5, _), (6, _), (7, _), (8, _), (9, _), (10, _), (11, _)]) r_X10_span_113 rfl ?_
                  refine EV.l (lv' := [(0, _), (1, _), (2, _), (3, _), (4, _), (5, _), (6, _), (7, _), (8, _), (9, _), (10, _), (11, _)]) r_X10_span_115 rfl ?_
                  refine EV.getV r_X10_span_117 la_95 (hh3.mi) ?_
                  refine EV.cv r_X10_span_120 (aV1 mt_38 la_95) (c95_heard hc3 cb hh3 hb3 hw3 (by omega) (by omega)) ?_
                  refine EV.cv r_X10_span_123 (aV1 mt_22 la_4) (b_lean hc3 cb (heard_lt _) (by omega)) ?_
                  change EV _ _ _ _ _ (.int (zI (spV κ l q n s η i)) :: _) _ _
                  have lv_ : -540 ≤ spV κ l q n s η i ∧ spV κ l q n s η i ≤ 540 := lbv
                  refine EV.l (lv' := [(0, _), (1, _), (2, _), (3, _), (4, _), (5, _), (6, _), (7, _), (8, _), (9, _), (10, _), (11, _), (12, _)]) r_X10_span_126 rfl ?_
                  refine EV.l (lv' := [(0, _), (1, _), (2, _), (3, _), (4, _), (5, _), (6, _), (7, _), (8, _), (9, _), (10, _), (11, _), (12, _)]) r_X10_span_128 rfl ?_
                  refine EV.n0_ne r_X10_span_130 (fun h130 => ?_) (fun h130 => ?_)
                  · -- 130 t
                    refine EV.l (lv' := [(0, _), (1, _), (2, _), (3, _), (4, _), (5, _), (6, _), (7, _), (8, _), (9, _), (10, _), (11, _), (12, _)]) r_X10_span_138 rfl ?_
                    refine EV.l (lv' := [(0, _), (1, _), (2, _), (3, _), (4, _), (5, _), (6, _), (7, _), (8, _), (9, _), (10, _), (11, _), (12, _)]) r_X10_span_140 rfl ?_
                    refine EV.pminZ r_X10_span_142 ?_
                    refine EV.l (lv' := [(0, _), (1, _), (2, _), (3, _), (4, _), (5, _), (6, _), (7, _), (8, _), (9, _), (10, _), (11, _), (12, _)]) r_X10_span_145 rfl ?_
                    refine EV.l (lv' := [(0, _), (1, _), (2, _), (3, _), (4, _), (5, _), (6, _), (7, _), (8, _), (9, _), (10, _), (11, _), (12, _)]) r_X10_span_147 rfl ?_
                    refine EV.n0_ne r_X10_span_149 (fun h149 => ?_) (fun h149 => ?_)
                    · -- 149 t
                      refine EV.l (lv' := [(0, _), (1, _), (2, _), (3, _), (4, _), (5, _), (6, _), (7, _), (8, _), (9, _), (10, _), (11, _), (12, _)]) r_X10_span_157 rfl ?_
                      refine EV.l (lv' := [(0, _), (1, _), (2, _), (3, _), (4, _), (5, _), (6, _), (7, _), (8, _), (9, _), (10, _), (11, _), (12, _)]) r_X10_span_159 rfl ?_
                      refine EV.pmaxZ r_X10_span_161 ?_
                      refine EV.l (lv' := [(0, _), (1, _), (2, _), (3, _), (4, _), (5, _), (6, _), (7, _), (8, _), (9, _), (10, _), (11, _), (12, _)]) r_X10_span_164 rfl ?_
                      refine EV.l (lv' := [(0, _), (1, _), (2, _), (3, _), (4, _), (5, _), (6, _), (7, _), (8, _), (9, _), (10, _), (11, _), (12, _)]) r_X10_span_166 rfl ?_
                      refine EV.l (lv' := [(0, _), (1, _), (2, _), (3, _), (4, _), (5, _), (6, _), (7, _), (8, _), (9, _), (10, _), (11, _), (12, _)]) r_X10_span_168 rfl ?_
                      refine EV.l (lv' := [(0, _), (1, _), (2, _), (3, _), (4, _), (5, _), (6, _), (7, _), (8, _), (9, _), (10, _), (11, _), (12, _)]) r_X10_span_170 rfl ?_
                      refine EV.cv r_X10_span_172 (aV1 mt_35 la_95) (c95_does hc3 cb hh3 hb3 hw3 (by omega) (by omega)) ?_
                      refine EV.b0_eq r_X10_span_175 (fun h175 => ?_) (fun h175 => ?_)
                      · -- 175 t
                        refine EV.o r_X10_span_182 (icN (0) (v := 0)) ?_
                        refine EV.o r_X10_span_183 iaddN ?_
                        refine EV.l (lv' := [(0, _), (1, _), (2, _), (3, _), (4, _), (5, _), (6, _), (7, _), (8, _), (9, _), (10, _), (11, _), (12, _)]) r_X10_span_184 rfl ?_
                        refine EV.l (lv' := [(0, _), (1, _), (2, _), (3, _), (4, _), (5, _), (6, _), (7, _), (8, _), (9, _), (10, _), (11, _), (12, _)]) r_X10_span_186 rfl ?_
                        rw [inc_nI]
                        refine EV.g r_X10_span_189 ?_
                        refine EV.fg (lv' := [(0, _), (1, _), (2, _), (3, _), (4, _), (5, _), (6, _), (7, _), (8, _), (9, _), (10, _)]) r_X10_span_76 rfl rfl rfl ?_
                        refine EV.sub ?_ rfl ?_ (ih76 (i + 1, I3) ?_ ?_)
                        · (try dsimp only) <;> (first | (exfalso; omega) | rw [spL_0 (by omega), spM_0 (by omega), spC_t (by assumption)] | rw [Nat.add_zero, spL_0 (by omega), spM_0 (by omega), spC_f (by assumption)] | rw [spL_s (by omega), spM_s (by omega), spC_t (by assumption)] | rw [Nat.add_zero, spL_s (by omega), spM_s (by omega), spC_f (by assumption)])
                        · (try dsimp only) <;> (rfl)
                        · (try dsimp only) <;> (omega)
                        · (try dsimp only) <;> (exact ⟨by omega, fun x a1 a2 a3 => (fr3 x a1 a2 a3).trans (fx x a1 a2 a3)⟩)
                      · -- 175 f
                        refine EV.o r_X10_span_178 (icN (1) (v := 1)) ?_
                        refine EV.g r_X10_span_179 ?_
                        refine EV.o r_X10_span_183 iaddN ?_
                        refine EV.l (lv' := [(0, _), (1, _), (2, _), (3, _), (4, _), (5, _), (6, _), (7, _), (8, _), (9, _), (10, _), (11, _), (12, _)]) r_X10_span_184 rfl ?_
                        refine EV.l (lv' := [(0, _), (1, _), (2, _), (3, _), (4, _), (5, _), (6, _), (7, _), (8, _), (9, _), (10, _), (11, _), (12, _)]) r_X10_span_186 rfl ?_
                        rw [inc_nI]
                        refine EV.g r_X10_span_189 ?_
                        refine EV.fg (lv' := [(0, _), (1, _), (2, _), (3, _), (4, _), (5, _), (6, _), (7, _), (8, _), (9, _), (10, _)]) r_X10_span_76 rfl rfl rfl ?_
                        refine EV.sub ?_ rfl ?_ (ih76 (i + 1, I3) ?_ ?_)
                        · (try dsimp only) <;> (first | (exfalso; omega) | rw [spL_0 (by omega), spM_0 (by omega), spC_t (by assumption)] | rw [Nat.add_zero, spL_0 (by omega), spM_0 (by omega), spC_f (by assumption)] | rw [spL_s (by omega), spM_s (by omega), spC_t (by assumption)] | rw [Nat.add_zero, spL_s (by omega), spM_s (by omega), spC_f (by assumption)])
                        · (try dsimp only) <;> (rfl)
                        · (try dsimp only) <;> (omega)
                        · (try dsimp only) <;> (exact ⟨by omega, fun x a1 a2 a3 => (fr3 x a1 a2 a3).trans (fx x a1 a2 a3)⟩)
                    · -- 149 f
                      refine EV.l (lv' := [(0, _), (1, _), (2, _), (3, _), (4, _), (5, _), (6, _), (7, _), (8, _), (9, _), (10, _), (11, _), (12, _)]) r_X10_span_152 rfl ?_
                      refine EV.g r_X10_span_154 ?_
                      refine EV.l (lv' := [(0, _), (1, _), (2, _), (3, _), (4, _), (5, _), (6, _), (7, _), (8, _), (9, _), (10, _), (11, _), (12, _)]) r_X10_span_164 rfl ?_
                      refine EV.l (lv' := [(0, _), (1, _), (2, _), (3, _), (4, _), (5, _), (6, _), (7, _), (8, _), (9, _), (10, _), (11, _), (12, _)]) r_X10_span_166 rfl ?_
                      refine EV.l (lv' := [(0, _), (1, _), (2, _), (3, _), (4, _), (5, _), (6, _), (7, _), (8, _), (9, _), (10, _), (11, _), (12, _)]) r_X10_span_168 rfl ?_
                      refine EV.l (lv' := [(0, _), (1, _), (2, _), (3, _), (4, _), (5, _), (6, _), (7, _), (8, _), (9, _), (10, _), (11, _), (12, _)]) r_X10_span_170 rfl ?_
                      refine EV.cv r_X10_span_172 (aV1 mt_35 la_95) (c95_does hc3 cb hh3 hb3 hw3 (by omega) (by omega)) ?_
                      refine EV.b0_eq r_X10_span_175 (fun h175 => ?_) (fun h175 => ?_)
                      · -- 175 t
                        refine EV.o r_X10_span_182 (icN (0) (v := 0)) ?_
                        refine EV.o r_X10_span_183 iaddN ?_
                        refine EV.l (lv' := [(0, _), (1, _), (2, _), (3, _), (4, _), (5, _), (6, _), (7, _), (8, _), (9, _), (10, _), (11, _), (12, _)]) r_X10_span_184 rfl ?_
                        refine EV.l (lv' := [(0, _), (1, _), (2, _), (3, _), (4, _), (5, _), (6, _), (7, _), (8, _), (9, _), (10, _), (11, _), (12, _)]) r_X10_span_186 rfl ?_
                        rw [inc_nI]
                        refine EV.g r_X10_span_189 ?_
                        refine EV.fg (lv' := [(0, _), (1, _), (2, _), (3, _), (4, _), (5, _), (6, _), (7, _), (8, _), (9, _), (10, _)]) r_X10_span_76 rfl rfl rfl ?_
                        refine EV.sub ?_ rfl ?_ (ih76 (i + 1, I3) ?_ ?_)
                        · (try dsimp only) <;> (first | (exfalso; omega) | rw [spL_0 (by omega), spM_0 (by omega), spC_t (by assumption)] | rw [Nat.add_zero, spL_0 (by omega), spM_0 (by omega), spC_f (by assumption)] | rw [spL_s (by omega), spM_s (by omega), spC_t (by assumption)] | rw [Nat.add_zero, spL_s (by omega), spM_s (by omega), spC_f (by assumption)])
                        · (try dsimp only) <;> (rfl)
                        · (try dsimp only) <;> (omega)
                        · (try dsimp only) <;> (exact ⟨by omega, fun x a1 a2 a3 => (fr3 x a1 a2 a3).trans (fx x a1 a2 a3)⟩)
                      · -- 175 f
                        refine EV.o r_X10_span_178 (icN (1) (v := 1)) ?_
                        refine EV.g r_X10_span_179 ?_
                        refine EV.o r_X10_span_183 iaddN ?_
                        refine EV.l (lv' := [(0, _), (1, _), (2, _), (3, _), (4, _), (5, _), (6, _), (7, _), (8, _), (9, _), (10, _), (11, _), (12, _)]) r_X10_span_184 rfl ?_
                        refine EV.l (lv' := [(0, _), (1, _), (2, _), (3, _), (4, _), (5, _), (6, _), (7, _), (8, _), (9, _), (10, _), (11, _), (12, _)]) r_X10_span_186 rfl ?_
                        rw [inc_nI]
                        refine EV.g r_X10_span_189 ?_
                        refine EV.fg (lv' := [(0, _), (1, _), (2, _), (3, _), (4, _), (5, _), (6, _), (7, _), (8, _), (9, _), (10, _)]) r_X10_span_76 rfl rfl rfl ?_
                        refine EV.sub ?_ rfl ?_ (ih76 (i + 1, I3) ?_ ?_)
                        · (try dsimp only) <;> (first | (exfalso; omega) | rw [spL_0 (by omega), spM_0 (by omega), spC_t (by assumption)] | rw [Nat.add_zero, spL_0 (by omega), spM_0 (by omega), spC_f (by assumption)] | rw [spL_s (by omega), spM_s (by omega), spC_t (by assumption)] | rw [Nat.add_zero, spL_s (by omega), spM_s (by omega), spC_f (by assumption)])
                        · (try dsimp only) <;> (rfl)
                        · (try dsimp only) <;> (omega)
                        · (try dsimp only) <;> (exact ⟨by omega, fun x a1 a2 a3 => (fr3 x a1 a2 a3).trans (fx x a1 a2 a3)⟩)
                  · -- 130 f
                    refine EV.l (lv' := [(0, _), (1, _), (2, _), (3, _), (4, _), (5, _), (6, _), (7, _), (8, _), (9, _), (10, _), (11, _), (12, _)]) r_X10_span_133 rfl ?_
                    refine EV.g r_X10_span_135 ?_
                    refine EV.l (lv' := [(0, _), (1, _), (2, _), (3, _), (4, _), (5, _), (6, _), (7, _), (8, _), (9, _), (10, _), (11, _), (12, _)]) r_X10_span_145 rfl ?_
                    refine EV.l (lv' := [(0, _), (1, _), (2, _), (3, _), (4, _), (5, _), (6, _), (7, _), (8, _), (9, _), (10, _), (11, _), (12, _)]) r_X10_span_147 rfl ?_
                    refine EV.n0_ne r_X10_span_149 (fun h149 => ?_) (fun h149 => ?_)
                    · -- 149 t
                      refine EV.l (lv' := [(0, _), (1, _), (2, _), (3, _), (4, _), (5, _), (6, _), (7, _), (8, _), (9, _), (10, _), (11, _), (12, _)]) r_X10_span_157 rfl ?_
                      refine EV.l (lv' := [(0, _), (1, _), (2, _), (3, _), (4, _), (5, _), (6, _), (7, _), (8, _), (9, _), (10, _), (11, _), (12, _)]) r_X10_span_159 rfl ?_
                      refine EV.pmaxZ r_X10_span_161 ?_
                      refine EV.l (lv' := [(0, _), (1, _), (2, _), (3, _), (4, _), (5, _), (6, _), (7, _), (8, _), (9, _), (10, _), (11, _), (12, _)]) r_X10_span_164 rfl ?_
                      refine EV.l (lv' := [(0, _), (1, _), (2, _), (3, _), (4, _), (5, _), (6, _), (7, _), (8, _), (9, _), (10, _), (11, _), (12, _)]) r_X10_span_166 rfl ?_
                      refine EV.l (lv' := [(0, _), (1, _), (2, _), (3, _), (4, _), (5, _), (6, _), (7, _), (8, _), (9, _), (10, _), (11, _), (12, _)]) r_X10_span_168 rfl ?_
                      refine EV.l (lv' := [(0, _), (1, _), (2, _), (3, _), (4, _), (5, _), (6, _), (7, _), (8, _), (9, _), (10, _), (11, _), (12, _)]) r_X10_span_170 rfl ?_
                      refine EV.cv r_X10_span_172 (aV1 mt_35 la_95) (c95_does hc3 cb hh3 hb3 hw3 (by omega) (by omega)) ?_
                      refine EV.b0_eq r_X10_span_175 (fun h175 => ?_) (fun h175 => ?_)
                      · -- 175 t
                        refine EV.o r_X10_span_182 (icN (0) (v := 0)) ?_
                        refine EV.o r_X10_span_183 iaddN ?_
                        refine EV.l (lv' := [(0, _), (1, _), (2, _), (3, _), (4, _), (5, _), (6, _), (7, _), (8, _), (9, _), (10, _), (11, _), (12, _)]) r_X10_span_184 rfl ?_
                        refine EV.l (lv' := [(0, _), (1, _), (2, _), (3, _), (4, _), (5, _), (6, _), (7, _), (8, _), (9, _), (10, _), (11, _), (12, _)]) r_X10_span_186 rfl ?_
                        rw [inc_nI]
                        refine EV.g r_X10_span_189 ?_
                        refine EV.fg (lv' := [(0, _), (1, _), (2, _), (3, _), (4, _), (5, _), (6, _), (7, _), (8, _), (9, _), (10, _)]) r_X10_span_76 rfl rfl rfl ?_
                        refine EV.sub ?_ rfl ?_ (ih76 (i + 1, I3) ?_ ?_)
                        · (try dsimp only) <;> (first | (exfalso; omega) | rw [spL_0 (by omega), spM_0 (by omega), spC_t (by assumption)] | rw [Nat.add_zero, spL_0 (by omega), spM_0 (by omega), spC_f (by assumption)] | rw [spL_s (by omega), spM_s (by omega), spC_t (by assumption)] | rw [Nat.add_zero, spL_s (by omega), spM_s (by omega), spC_f (by assumption)])
                        · (try dsimp only) <;> (rfl)
                        · (try dsimp only) <;> (omega)
                        · (try dsimp only) <;> (exact ⟨by omega, fun x a1 a2 a3 => (fr3 x a1 a2 a3).trans (fx x a1 a2 a3)⟩)
                      · -- 175 f
                        refine EV.o r_X10_span_178 (icN (1) (v := 1)) ?_
                        refine EV.g r_X10_span_179 ?_
                        refine EV.o r_X10_span_183 iaddN ?_
                        refine EV.l (lv' := [(0, _), (1, _), (2, _), (3, _), (4, _), (5, _), (6, _), (7, _), (8, _), (9, _), (10, _), (11, _), (12, _)]) r_X10_span_184 rfl ?_
                        refine EV.l (lv' := [(0, _), (1, _), (2, _), (3, _), (4, _), (5, _), (6, _), (7, _), (8, _), (9, _), (10, _), (11, _), (12, _)]) r_X10_span_186 rfl ?_
                        rw [inc_nI]
                        refine EV.g r_X10_span_189 ?_
                        refine EV.fg (lv' := [(0, _), (1, _), (2, _), (3, _), (4, _), (5, _), (6, _), (7, _), (8, _), (9, _), (10, _)]) r_X10_span_76 rfl rfl rfl ?_
                        refine EV.sub ?_ rfl ?_ (ih76 (i + 1, I3) ?_ ?_)
                        · (try dsimp only) <;> (first | (exfalso; omega) | rw [spL_0 (by omega), spM_0 (by omega), spC_t (by assumption)] | rw [Nat.add_zero, spL_0 (by omega), spM_0 (by omega), spC_f (by assumption)] | rw [spL_s (by omega), spM_s (by omega), spC_t (by assumption)] | rw [Nat.add_zero, spL_s (by omega), spM_s (by omega), spC_f (by assumption)])
                        · (try dsimp only) <;> (rfl)
                        · (try dsimp only) <;> (omega)
                        · (try dsimp only) <;> (exact ⟨by omega, fun x a1 a2 a3 => (fr3 x a1 a2 a3).trans (fx x a1 a2 a3)⟩)
                    · -- 149 f
                      refine EV.l (lv' := [(0, _), (1, _), (2, _), (3, _), (4, _), (5, _), (6, _), (7, _), (8, _), (9, _), (10, _), (11, _), (12, _)]) r_X10_span_152 rfl ?_
                      refine EV.g r_X10_span_154 ?_
                      refine EV.l (lv' := [(0, _), (1, _), (2, _), (3, _), (4, _), (5, _), (6, _), (7, _), (8, _), (9, _), (10, _), (11, _), (12, _)]) r_X10_span_164 rfl ?_
                      refine EV.l (lv' := [(0, _), (1, _), (2, _), (3, _), (4, _), (5, _), (6, _), (7, _), (8, _), (9, _), (10, _), (11, _), (12, _)]) r_X10_span_166 rfl ?_
                      refine EV.l (lv' := [(0, _), (1, _), (2, _), (3, _), (4, _), (5, _), (6, _), (7, _), (8, _), (9, _), (10, _), (11, _), (12, _)]) r_X10_span_168 rfl ?_
                      refine EV.l (lv' := [(0, _), (1, _), (2, _), (3, _), (4, _), (5, _), (6, _), (7, _), (8, _), (9, _), (10, _), (11, _), (12, _)]) r_X10_span_170 rfl ?_
                      refine EV.cv r_X10_span_172 (aV1 mt_35 la_95) (c95_does hc3 cb hh3 hb3 hw3 (by omega) (by omega)) ?_
                      refine EV.b0_eq r_X10_span_175 (fun h175 => ?_) (fun h175 => ?_)
                      · -- 175 t
                        refine EV.o r_X10_span_182 (icN (0) (v := 0)) ?_
                        refine EV.o r_X10_span_183 iaddN ?_
                        refine EV.l (lv' := [(0, _), (1, _), (2, _), (3, _), (4, _), (5, _), (6, _), (7, _), (8, _), (9, _), (10, _), (11, _), (12, _)]) r_X10_span_184 rfl ?_
                        refine EV.l (lv' := [(0, _), (1, _), (2, _), (3, _), (4, _), (5, _), (6, _), (7, _), (8, _), (9, _), (10, _), (11, _), (12, _)]) r_X10_span_186 rfl ?_
                        rw [inc_nI]
                        refine EV.g r_X10_span_189 ?_
                        refine EV.fg (lv' := [(0, _), (1, _), (2, _), (3, _), (4, _), (5, _), (6, _), (7, _), (8, _), (9, _), (10, _)]) r_X10_span_76 rfl rfl rfl ?_
                        refine EV.sub ?_ rfl ?_ (ih76 (i + 1, I3) ?_ ?_)
                        · (try dsimp only) <;> (first | (exfalso; omega) | rw [spL_0 (by omega), spM_0 (by omega), spC_t (by assumption)] | rw [Nat.add_zero, spL_0 (by omega), spM_0 (by omega), spC_f (by assumption)] | rw [spL_s (by omega), spM_s (by omega), spC_t (by assumption)] | rw [Nat.add_zero, spL_s (by omega), spM_s (by omega), spC_f (by assumption)])
                        · (try dsimp only) <;> (rfl)
                        · (try dsimp only) <;> (omega)
                        · (try dsimp only) <;> (exact ⟨by omega, fun x a1 a2 a3 => (fr3 x a1 a2 a3).trans (fx x a1 a2 a3)⟩)
                      · -- 175 f
                        refine EV.o r_X10_span_178 (icN (1) (v := 1)) ?_
                        refine EV.g r_X10_span_179 ?_
                        refine EV.o r_X10_span_183 iaddN ?_
                        refine EV.l (lv' := [(0, _), (1, _), (2, _), (3, _), (4, _), (5, _), (6, _), (7, _), (8, _), (9, _), (10, _), (11, _), (12, _)]) r_X10_span_184 rfl ?_
                        refine EV.l (lv' := [(0, _), (1, _), (2, _), (3, _), (4, _), (5, _), (6, _), (7, _), (8, _), (9, _), (10, _), (11, _), (12, _)]) r_X10_span_186 rfl ?_
                        rw [inc_nI]
                        refine EV.g r_X10_span_189 ?_
                        refine EV.fg (lv' := [(0, _), (1, _), (2, _), (3, _), (4, _), (5, _), (6, _), (7, _), (8, _), (9, _), (10, _)]) r_X10_span_76 rfl rfl rfl ?_
                        refine EV.sub ?_ rfl ?_ (ih76 (i + 1, I3) ?_ ?_)
                        · (try dsimp only) <;> (first | (exfalso; omega) | rw [spL_0 (by omega), spM_0 (by omega), spC_t (by assumption)] | rw [Nat.add_zero, spL_0 (by omega), spM_0 (by omega), spC_f (by assumption)] | rw [spL_s (by omega), spM_s (by omega), spC_t (by assumption)] | rw [Nat.add_zero, spL_s (by omega), spM_s (by omega), spC_f (by assumption)])
                        · (try dsimp only) <;> (rfl)
                        · (try dsimp only) <;> (omega)
                        · (try dsimp only) <;> (exact ⟨by omega, fun x a1 a2 a3 => (fr3 x a1 a2 a3).trans (fx x a1 a2 a3)⟩)
              have h0 := L76 ((0, I))
              try dsimp only at h0
              refine EV.sub ?_ rfl ?_ (h0 ?_)
              · (try dsimp only) <;> (rfl)
              · (try dsimp only) <;> (rfl)
              · (try dsimp only) <;> (exact ⟨Nat.zero_le _, fun _ _ _ _ => rfl⟩)
