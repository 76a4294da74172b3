/-! TERM and SPAN. -/
theorem EV.lcN {sc : Option (Nat × (Nat → Int32))} {M : MI} {d pc : Nat} {lv : LV} {st : List Value} {G : AH} {Q : (Option Value ⊕ Nat) → AH → Nat → Prop} {i : Instr} {len a pq : Nat} (hr : RW M pc i len a 0 pq) (k : EV sc M d pq lv (.int (nI a) :: st) G Q) (h : ldop i a 0 = some (.int (nI a)) := by rfl) (h1 : stk i st = none := by rfl) (h2 : locop i M.ml 0 lv st = none := by rfl) (h3 : jmp i a pc st = none := by rfl) (h4 : heapop FTY sc i a 0 st G = none := by rfl) : EV sc M d pc lv st G Q := EV.ldc hr.1 h (hr.2.symm ▸ k) h1 h2 h3 h4
def sdN (s : Int32) : Int32 := s * nI 1103515245 + nI 12345
def dv (x : Int32) : Nat := x.toBitVec.toNat / 65536 &&& 32767
def dr (s : Int32) (m : Nat) : Nat := dv s % m
theorem dv_lt (x : Int32) : dv x < 32768 := Nat.lt_of_le_of_lt Nat.and_le_right (by decide)
theorem dr_lt {s : Int32} {m : Nat} (h : 0 < m) : dr s m < m := Nat.mod_lt _ h
theorem us16 {x : Int32} {st : List Value} : stk .iushr (.int (nI 16) :: .int x :: st) = some (.int (nI (x.toBitVec.toNat / 65536)) :: st) := by
  have h := pk_ushr x (nI 16) 16 (by decide +kernel)
  have hx := x.toBitVec.isLt
  have e : (x.toUInt32 >>> ((nI 16).toUInt32 &&& Int32.toUInt32 31)).toInt32 = nI (x.toBitVec.toNat / 65536) := by
    apply Int32.toBitVec_inj.mp
    apply BitVec.eq_of_toNat_eq
    rw [h]
    show _ = (BitVec.ofNat 32 (x.toBitVec.toNat / 65536)).toNat
    rw [BitVec.toNat_ofNat, Nat.mod_eq_of_lt (by omega)]
  show some (Value.int (x.toUInt32 >>> ((nI 16).toUInt32 &&& Int32.toUInt32 31)).toInt32 :: st) = _
  rw [e]
theorem ss16 {x : Int32} {st : List Value} : stk .iand (.int (nI 32767) :: .int (x >>> (nI 16 &&& 31)) :: st) = some (.int (nI (dv x)) :: st) := by
  have e : x >>> (nI 16 &&& 31) &&& nI 32767 = nI (dv x) := by
    apply Int32.toBitVec_inj.mp
    apply BitVec.eq_of_getLsbD_eq
    intro i hi
    have e1 : (x >>> (nI 16 &&& 31) &&& nI 32767).toBitVec = (x.toBitVec.sshiftRight 16) &&& BitVec.ofNat 32 32767 := rfl
    have e2 : (nI (dv x)).toBitVec = BitVec.ofNat 32 (dv x) := rfl
    have e3 : (32767 : Nat).testBit i = decide (i < 15) := Nat.testBit_two_pow_sub_one 15 i
    have e4 : x.toBitVec.toNat / 65536 = x.toBitVec.toNat >>> 16 := (Nat.shiftRight_eq_div_pow _ 16).symm
    rw [e1, e2, BitVec.getLsbD_and, BitVec.getLsbD_sshiftRight, BitVec.getLsbD_ofNat, BitVec.getLsbD_ofNat]
    unfold dv
    rw [Nat.testBit_and, e3, e4, Nat.testBit_shiftRight]
    by_cases h : i < 15
    · simp [h, hi, show ¬ 32 ≤ i by omega, show 16 + i < 32 by omega]; rfl
    · simp [h]
  show some (Value.int (x >>> (nI 16 &&& 31) &&& nI 32767) :: st) = _
  rw [e]
def trB (κ : CT) (l : LW) (q : Nat) (p : Int32 × HS) : Int32 × HS :=
  if dr (sdN (sdN (sdN p.1))) 16 < q then
    (sdN (sdN (sdN (sdN p.1))), if canL p.2 (dr (sdN p.1) κ.nc) (dr (sdN (sdN p.1)) κ.nb) (1 + dr (sdN (sdN (sdN (sdN p.1)))) 9) = true then ms κ l (hLead p.2 (dr (sdN p.1) κ.nc) (dr (sdN (sdN p.1)) κ.nb) (1 + dr (sdN (sdN (sdN (sdN p.1)))) 9)) κ.nb else p.2)
  else (sdN (sdN (sdN p.1)), if qCall p.2 (dr (sdN p.1) κ.nc) (dr (sdN (sdN p.1)) κ.nb) = true then ms κ l (hCall p.2 (dr (sdN p.1) κ.nc) (dr (sdN (sdN p.1)) κ.nb)) κ.nb else p.2)
def trP (κ : CT) (l : LW) (q : Nat) (p : Int32 × HS) : Int32 × HS := if 0 < κ.nc ∧ 0 < κ.nb then trB κ l q p else p
def trN (κ : CT) (l : LW) (p : Int32 × HS) : Int32 × HS := (sdN p.1, if qNote κ p.2 (dr (sdN p.1) κ.ns) = true then ms κ l (hNote p.2 (dr (sdN p.1) κ.ns)) κ.nb else p.2)
def trQ (κ : CT) (l : LW) (p : Int32 × HS) : Int32 × HS := if 0 < κ.ns then trN κ l p else p
def tr1 (κ : CT) (l : LW) (q : Nat) (p : Int32 × HS) : Int32 × HS := ((trQ κ l (trP κ l q p)).1, hMin (trQ κ l (trP κ l q p)).2)
def trm (κ : CT) (l : LW) (q : Nat) (p : Int32 × HS) : Nat → Int32 × HS
  | 0 => p
  | n + 1 => tr1 κ l q (trm κ l q p n)
theorem trm_s {κ : CT} {l : LW} {q : Nat} {p : Int32 × HS} {n : Nat} : trm κ l q p (n + 1) = tr1 κ l q (trm κ l q p n) := rfl
section TRO
variable {κ : CT} {l : LW} {q : Nat} {p : Int32 × HS}
def hOk (κ : CT) (l : LW) (η : HS) (m : Nat) : Prop := HB κ η ∧ WM κ l η ∧ η.mi = m
theorem trB_ok {m : Nat} (h : hOk κ l p.2 m) : hOk κ l (trB κ l q p).2 m := by
  unfold trB
  split
  · show hOk κ l (if _ then _ else _) m
    split
    · exact ⟨h.1.lead.ms, ms_wm, h.2.2⟩
    · exact h
  · show hOk κ l (if _ then _ else _) m
    split
    · rename_i hq
      exact ⟨(h.1.call (of_decide_eq_true hq).2).ms, ms_wm, h.2.2⟩
    · exact h
theorem trP_ok {m : Nat} (h : hOk κ l p.2 m) : hOk κ l (trP κ l q p).2 m := by
  unfold trP
  split
  · exact trB_ok h
  · exact h
theorem trQ_ok {m : Nat} (h : hOk κ l p.2 m) : hOk κ l (trQ κ l p).2 m := by
  unfold trQ trN
  split
  · rename_i hn
    show hOk κ l (if _ then _ else _) m
    split
    · exact ⟨(h.1.note (dr_lt hn)).ms, ms_wm, h.2.2⟩
    · exact h
  · exact h
theorem trm_ok {m : Nat} (h : hOk κ l p.2 m) (hm : m ≤ 400) : ∀ n, n ≤ 48 → hOk κ l (trm κ l q p n).2 (m + n)
  | 0, _ => h
  | n + 1, hn => by
    have ih := trm_ok h hm n (by omega)
    have h2 := trQ_ok (trP_ok (q := q) ih)
    refine ⟨h2.1.min1 (by rw [h2.2.2]; omega), h2.2.1.min1, ?_⟩
    show (trQ κ l (trP κ l q (trm κ l q p n))).2.mi + 1 = _
    rw [h2.2.2]; omega
theorem trP_t (h : 0 < κ.nc) (h2 : 0 < κ.nb) : trP κ l q p = trB κ l q p := if_pos ⟨h, h2⟩
theorem trP_f (h : κ.nc ≤ 0 ∨ κ.nb ≤ 0) : trP κ l q p = p := if_neg (by omega)
theorem trQ_t (h : 0 < κ.ns) : trQ κ l p = trN κ l p := if_pos h
theorem trQ_f (h : κ.ns ≤ 0) : trQ κ l p = p := if_neg (by omega)
theorem trB_l {s : Int32} {η : HS} (h : dr (sdN (sdN (sdN s))) 16 < q) : trB κ l q (s, η) = (sdN (sdN (sdN (sdN s))), if canL η (dr (sdN s) κ.nc) (dr (sdN (sdN s)) κ.nb) (1 + dr (sdN (sdN (sdN (sdN s)))) 9) = true then ms κ l (hLead η (dr (sdN s) κ.nc) (dr (sdN (sdN s)) κ.nb) (1 + dr (sdN (sdN (sdN (sdN s)))) 9)) κ.nb else η) := if_pos h
theorem trB_c {s : Int32} {η : HS} (h : q ≤ dr (sdN (sdN (sdN s))) 16) : trB κ l q (s, η) = (sdN (sdN (sdN s)), if qCall η (dr (sdN s) κ.nc) (dr (sdN (sdN s)) κ.nb) = true then ms κ l (hCall η (dr (sdN s) κ.nc) (dr (sdN (sdN s)) κ.nb)) κ.nb else η) := if_neg (show ¬ dr (sdN (sdN (sdN s))) 16 < q by omega)
end TRO
theorem MR.ite {a n : Nat} {κ : CT} {l : LW} {c : Bool} {η η2 : HS} {I : Nat → Nat → Int32} (h : MR a κ (if c = true then η2 else η) I) : MR a κ (if c = true then ms κ l η2 n else η) I := by
  cases c
  · exact h
  · exact h
theorem cpy_0 {I : Nat → Nat → Int32} {q o n k : Nat} (h : k < n) : cpy I q 0 o 0 n q k = I o k := by
  unfold cpy
  rw [if_pos ⟨rfl, Nat.zero_le _, by omega⟩, Nat.sub_zero, Nat.zero_add]
theorem r_X11_draws_0 : RW M_X11_draws 0 (.aload_n 0) 1 0 0 1 := ⟨rfl, rfl⟩
theorem r_X11_draws_1 : RW M_X11_draws 1 (.aload_n 0) 1 0 0 2 := ⟨rfl, rfl⟩
theorem r_X11_draws_2 : RW M_X11_draws 2 (.getfield 458) 3 11 53 5 := ⟨rfl, rfl⟩
theorem r_X11_draws_5 : RW M_X11_draws 5 (.ldc_w 461) 3 1103515245 0 8 := ⟨rfl, rfl⟩
theorem r_X11_draws_8 : RW M_X11_draws 8 (.imul) 1 0 0 9 := ⟨rfl, rfl⟩
theorem r_X11_draws_9 : RW M_X11_draws 9 (.sipush 12345) 3 0 0 12 := ⟨rfl, rfl⟩
theorem r_X11_draws_12 : RW M_X11_draws 12 (.iadd) 1 0 0 13 := ⟨rfl, rfl⟩
theorem r_X11_draws_13 : RW M_X11_draws 13 (.putfield 458) 3 11 53 16 := ⟨rfl, rfl⟩
theorem r_X11_draws_16 : RW M_X11_draws 16 (.aload_n 0) 1 0 0 17 := ⟨rfl, rfl⟩
theorem r_X11_draws_17 : RW M_X11_draws 17 (.getfield 458) 3 11 53 20 := ⟨rfl, rfl⟩
theorem r_X11_draws_20 : RW M_X11_draws 20 (.bipush 16) 2 0 0 22 := ⟨rfl, rfl⟩
theorem r_X11_draws_22 : RW M_X11_draws 22 (.ishr) 1 0 0 23 := ⟨rfl, rfl⟩
theorem r_X11_draws_23 : RW M_X11_draws 23 (.sipush 32767) 3 0 0 26 := ⟨rfl, rfl⟩
theorem r_X11_draws_26 : RW M_X11_draws 26 (.iand) 1 0 0 27 := ⟨rfl, rfl⟩
theorem r_X11_draws_27 : RW M_X11_draws 27 (.iload_n 1) 1 0 0 28 := ⟨rfl, rfl⟩
theorem r_X11_draws_28 : RW M_X11_draws 28 (.irem) 1 0 0 29 := ⟨rfl, rfl⟩
theorem r_X11_draws_29 : RW M_X11_draws 29 (.ireturn) 1 0 0 30 := ⟨rfl, rfl⟩
theorem r_X2_become_0 : RW M_X2_become 0 (.aload_n 0) 1 0 0 1 := ⟨rfl, rfl⟩
theorem r_X2_become_1 : RW M_X2_become 1 (.aload_n 1) 1 0 0 2 := ⟨rfl, rfl⟩
theorem r_X2_become_2 : RW M_X2_become 2 (.getfield 40) 3 2 7 5 := ⟨rfl, rfl⟩
theorem r_X2_become_5 : RW M_X2_become 5 (.putfield 40) 3 2 7 8 := ⟨rfl, rfl⟩
theorem r_X2_become_8 : RW M_X2_become 8 (.aload_n 0) 1 0 0 9 := ⟨rfl, rfl⟩
theorem r_X2_become_9 : RW M_X2_become 9 (.aload_n 1) 1 0 0 10 := ⟨rfl, rfl⟩
theorem r_X2_become_10 : RW M_X2_become 10 (.getfield 44) 3 2 8 13 := ⟨rfl, rfl⟩
theorem r_X2_become_13 : RW M_X2_become 13 (.putfield 44) 3 2 8 16 := ⟨rfl, rfl⟩
theorem r_X2_become_16 : RW M_X2_become 16 (.aload_n 0) 1 0 0 17 := ⟨rfl, rfl⟩
theorem r_X2_become_17 : RW M_X2_become 17 (.getfield 16) 3 2 2 20 := ⟨rfl, rfl⟩
theorem r_X2_become_20 : RW M_X2_become 20 (.iconst 0) 1 0 0 21 := ⟨rfl, rfl⟩
theorem r_X2_become_21 : RW M_X2_become 21 (.aload_n 1) 1 0 0 22 := ⟨rfl, rfl⟩
theorem r_X2_become_22 : RW M_X2_become 22 (.getfield 16) 3 2 2 25 := ⟨rfl, rfl⟩
theorem r_X2_become_25 : RW M_X2_become 25 (.iconst 0) 1 0 0 26 := ⟨rfl, rfl⟩
theorem r_X2_become_26 : RW M_X2_become 26 (.bipush 9) 2 0 0 28 := ⟨rfl, rfl⟩
theorem r_X2_become_28 : RW M_X2_become 28 (.invokevirtual 52) 3 94 0 31 := ⟨rfl, rfl⟩
theorem r_X2_become_31 : RW M_X2_become 31 (.aload_n 0) 1 0 0 32 := ⟨rfl, rfl⟩
theorem r_X2_become_32 : RW M_X2_become 32 (.getfield 20) 3 2 3 35 := ⟨rfl, rfl⟩
theorem r_X2_become_35 : RW M_X2_become 35 (.iconst 0) 1 0 0 36 := ⟨rfl, rfl⟩
theorem r_X2_become_36 : RW M_X2_become 36 (.aload_n 1) 1 0 0 37 := ⟨rfl, rfl⟩
theorem r_X2_become_37 : RW M_X2_become 37 (.getfield 20) 3 2 3 40 := ⟨rfl, rfl⟩
theorem r_X2_become_40 : RW M_X2_become 40 (.iconst 0) 1 0 0 41 := ⟨rfl, rfl⟩
theorem r_X2_become_41 : RW M_X2_become 41 (.iconst 4) 1 0 0 42 := ⟨rfl, rfl⟩
theorem r_X2_become_42 : RW M_X2_become 42 (.invokevirtual 52) 3 94 0 45 := ⟨rfl, rfl⟩
theorem r_X2_become_45 : RW M_X2_become 45 (.aload_n 0) 1 0 0 46 := ⟨rfl, rfl⟩
theorem r_X2_become_46 : RW M_X2_become 46 (.getfield 23) 3 2 4 49 := ⟨rfl, rfl⟩
theorem r_X2_become_49 : RW M_X2_become 49 (.iconst 0) 1 0 0 50 := ⟨rfl, rfl⟩
theorem r_X2_become_50 : RW M_X2_become 50 (.aload_n 1) 1 0 0 51 := ⟨rfl, rfl⟩
theorem r_X2_become_51 : RW M_X2_become 51 (.getfield 23) 3 2 4 54 := ⟨rfl, rfl⟩
theorem r_X2_become_54 : RW M_X2_become 54 (.iconst 0) 1 0 0 55 := ⟨rfl, rfl⟩
theorem r_X2_become_55 : RW M_X2_become 55 (.iconst 4) 1 0 0 56 := ⟨rfl, rfl⟩
theorem r_X2_become_56 : RW M_X2_become 56 (.invokevirtual 52) 3 94 0 59 := ⟨rfl, rfl⟩
theorem r_X2_become_59 : RW M_X2_become 59 (.aload_n 0) 1 0 0 60 := ⟨rfl, rfl⟩
theorem r_X2_become_60 : RW M_X2_become 60 (.getfield 26) 3 2 5 63 := ⟨rfl, rfl⟩
theorem r_X2_become_63 : RW M_X2_become 63 (.iconst 0) 1 0 0 64 := ⟨rfl, rfl⟩
theorem r_X2_become_64 : RW M_X2_become 64 (.aload_n 1) 1 0 0 65 := ⟨rfl, rfl⟩
theorem r_X2_become_65 : RW M_X2_become 65 (.getfield 26) 3 2 5 68 := ⟨rfl, rfl⟩
theorem r_X2_become_68 : RW M_X2_become 68 (.iconst 0) 1 0 0 69 := ⟨rfl, rfl⟩
theorem r_X2_become_69 : RW M_X2_become 69 (.iconst 4) 1 0 0 70 := ⟨rfl, rfl⟩
theorem r_X2_become_70 : RW M_X2_become 70 (.invokevirtual 52) 3 94 0 73 := ⟨rfl, rfl⟩
theorem r_X2_become_73 : RW M_X2_become 73 (.aload_n 0) 1 0 0 74 := ⟨rfl, rfl⟩
theorem r_X2_become_74 : RW M_X2_become 74 (.getfield 29) 3 2 6 77 := ⟨rfl, rfl⟩
theorem r_X2_become_77 : RW M_X2_become 77 (.iconst 0) 1 0 0 78 := ⟨rfl, rfl⟩
theorem r_X2_become_78 : RW M_X2_become 78 (.aload_n 1) 1 0 0 79 := ⟨rfl, rfl⟩
theorem r_X2_become_79 : RW M_X2_become 79 (.getfield 29) 3 2 6 82 := ⟨rfl, rfl⟩
theorem r_X2_become_82 : RW M_X2_become 82 (.iconst 0) 1 0 0 83 := ⟨rfl, rfl⟩
theorem r_X2_become_83 : RW M_X2_become 83 (.iconst 4) 1 0 0 84 := ⟨rfl, rfl⟩
theorem r_X2_become_84 : RW M_X2_become 84 (.invokevirtual 52) 3 94 0 87 := ⟨rfl, rfl⟩
theorem r_X2_become_87 : RW M_X2_become 87 (.return_) 1 0 0 88 := ⟨rfl, rfl⟩
theorem r_X9_draw_0 : RW M_X9_draw 0 (.aload_n 0) 1 0 0 1 := ⟨rfl, rfl⟩
theorem r_X9_draw_1 : RW M_X9_draw 1 (.aload_n 0) 1 0 0 2 := ⟨rfl, rfl⟩
theorem r_X9_draw_2 : RW M_X9_draw 2 (.getfield 25) 3 9 2 5 := ⟨rfl, rfl⟩
theorem r_X9_draw_5 : RW M_X9_draw 5 (.ldc 63) 2 1103515245 0 7 := ⟨rfl, rfl⟩
theorem r_X9_draw_7 : RW M_X9_draw 7 (.imul) 1 0 0 8 := ⟨rfl, rfl⟩
theorem r_X9_draw_8 : RW M_X9_draw 8 (.sipush 12345) 3 0 0 11 := ⟨rfl, rfl⟩
theorem r_X9_draw_11 : RW M_X9_draw 11 (.iadd) 1 0 0 12 := ⟨rfl, rfl⟩
theorem r_X9_draw_12 : RW M_X9_draw 12 (.putfield 25) 3 9 2 15 := ⟨rfl, rfl⟩
theorem r_X9_draw_15 : RW M_X9_draw 15 (.iload_n 1) 1 0 0 16 := ⟨rfl, rfl⟩
theorem r_X9_draw_16 : RW M_X9_draw 16 (.ifCond .le 19) 3 35 0 19 := ⟨rfl, rfl⟩
theorem r_X9_draw_19 : RW M_X9_draw 19 (.aload_n 0) 1 0 0 20 := ⟨rfl, rfl⟩
theorem r_X9_draw_20 : RW M_X9_draw 20 (.getfield 25) 3 9 2 23 := ⟨rfl, rfl⟩
theorem r_X9_draw_23 : RW M_X9_draw 23 (.bipush 16) 2 0 0 25 := ⟨rfl, rfl⟩
theorem r_X9_draw_25 : RW M_X9_draw 25 (.iushr) 1 0 0 26 := ⟨rfl, rfl⟩
theorem r_X9_draw_26 : RW M_X9_draw 26 (.sipush 32767) 3 0 0 29 := ⟨rfl, rfl⟩
theorem r_X9_draw_29 : RW M_X9_draw 29 (.iand) 1 0 0 30 := ⟨rfl, rfl⟩
theorem r_X9_draw_30 : RW M_X9_draw 30 (.iload_n 1) 1 0 0 31 := ⟨rfl, rfl⟩
theorem r_X9_draw_31 : RW M_X9_draw 31 (.irem) 1 0 0 32 := ⟨rfl, rfl⟩
theorem r_X9_draw_32 : RW M_X9_draw 32 (.goto 4) 3 36 0 35 := ⟨rfl, rfl⟩
theorem r_X9_draw_36 : RW M_X9_draw 36 (.ireturn) 1 0 0 37 := ⟨rfl, rfl⟩
theorem r_X9_play_0 : RW M_X9_play 0 (.aload_n 0) 1 0 0 1 := ⟨rfl, rfl⟩
theorem r_X9_play_1 : RW M_X9_play 1 (.getfield 15) 3 9 1 4 := ⟨rfl, rfl⟩
theorem r_X9_play_4 : RW M_X9_play 4 (.aload_n 1) 1 0 0 5 := ⟨rfl, rfl⟩
theorem r_X9_play_5 : RW M_X9_play 5 (.invokevirtual 19) 3 25 0 8 := ⟨rfl, rfl⟩
theorem r_X9_play_8 : RW M_X9_play 8 (.aload_n 0) 1 0 0 9 := ⟨rfl, rfl⟩
theorem r_X9_play_9 : RW M_X9_play 9 (.iload_n 2) 1 0 0 10 := ⟨rfl, rfl⟩
theorem r_X9_play_10 : RW M_X9_play 10 (.putfield 25) 3 9 2 13 := ⟨rfl, rfl⟩
theorem r_X9_play_13 : RW M_X9_play 13 (.iconst 0) 1 0 0 14 := ⟨rfl, rfl⟩
theorem r_X9_play_14 : RW M_X9_play 14 (.istore 5) 2 0 0 16 := ⟨rfl, rfl⟩
theorem r_X9_play_16 : RW M_X9_play 16 (.iload 5) 2 0 0 18 := ⟨rfl, rfl⟩
theorem r_X9_play_18 : RW M_X9_play 18 (.iload 4) 2 0 0 20 := ⟨rfl, rfl⟩
theorem r_X9_play_20 : RW M_X9_play 20 (.if_icmp .ge 76) 3 96 0 23 := ⟨rfl, rfl⟩
theorem r_X9_play_23 : RW M_X9_play 23 (.aload_n 0) 1 0 0 24 := ⟨rfl, rfl⟩
theorem r_X9_play_24 : RW M_X9_play 24 (.getfield 9) 3 9 0 27 := ⟨rfl, rfl⟩
theorem r_X9_play_27 : RW M_X9_play 27 (.getfield 29) 3 1 13 30 := ⟨rfl, rfl⟩
theorem r_X9_play_30 : RW M_X9_play 30 (.ifCond .le 18) 3 48 0 33 := ⟨rfl, rfl⟩
theorem r_X9_play_33 : RW M_X9_play 33 (.aload_n 0) 1 0 0 34 := ⟨rfl, rfl⟩
theorem r_X9_play_34 : RW M_X9_play 34 (.getfield 9) 3 9 0 37 := ⟨rfl, rfl⟩
theorem r_X9_play_37 : RW M_X9_play 37 (.getfield 34) 3 1 12 40 := ⟨rfl, rfl⟩
theorem r_X9_play_40 : RW M_X9_play 40 (.ifCond .le 8) 3 48 0 43 := ⟨rfl, rfl⟩
theorem r_X9_play_43 : RW M_X9_play 43 (.aload_n 0) 1 0 0 44 := ⟨rfl, rfl⟩
theorem r_X9_play_44 : RW M_X9_play 44 (.iload_n 3) 1 0 0 45 := ⟨rfl, rfl⟩
theorem r_X9_play_45 : RW M_X9_play 45 (.invokevirtual 37) 3 110 0 48 := ⟨rfl, rfl⟩
theorem r_X9_play_48 : RW M_X9_play 48 (.aload_n 0) 1 0 0 49 := ⟨rfl, rfl⟩
theorem r_X9_play_49 : RW M_X9_play 49 (.getfield 9) 3 9 0 52 := ⟨rfl, rfl⟩
theorem r_X9_play_52 : RW M_X9_play 52 (.getfield 41) 3 1 10 55 := ⟨rfl, rfl⟩
theorem r_X9_play_55 : RW M_X9_play 55 (.ifCond .le 22) 3 77 0 58 := ⟨rfl, rfl⟩
theorem r_X9_play_58 : RW M_X9_play 58 (.aload_n 0) 1 0 0 59 := ⟨rfl, rfl⟩
theorem r_X9_play_59 : RW M_X9_play 59 (.getfield 15) 3 9 1 62 := ⟨rfl, rfl⟩
theorem r_X9_play_62 : RW M_X9_play 62 (.aload_n 0) 1 0 0 63 := ⟨rfl, rfl⟩
theorem r_X9_play_63 : RW M_X9_play 63 (.aload_n 0) 1 0 0 64 := ⟨rfl, rfl⟩
theorem r_X9_play_64 : RW M_X9_play 64 (.getfield 9) 3 9 0 67 := ⟨rfl, rfl⟩
theorem r_X9_play_67 : RW M_X9_play 67 (.getfield 41) 3 1 10 70 := ⟨rfl, rfl⟩
theorem r_X9_play_70 : RW M_X9_play 70 (.invokevirtual 44) 3 111 0 73 := ⟨rfl, rfl⟩
theorem r_X9_play_73 : RW M_X9_play 73 (.invokevirtual 48) 3 45 0 76 := ⟨rfl, rfl⟩
theorem r_X9_play_76 : RW M_X9_play 76 (.pop) 1 0 0 77 := ⟨rfl, rfl⟩
theorem r_X9_play_77 : RW M_X9_play 77 (.aload_n 0) 1 0 0 78 := ⟨rfl, rfl⟩
theorem r_X9_play_78 : RW M_X9_play 78 (.getfield 15) 3 9 1 81 := ⟨rfl, rfl⟩
theorem r_X9_play_81 : RW M_X9_play 81 (.dup) 1 0 0 82 := ⟨rfl, rfl⟩
theorem r_X9_play_82 : RW M_X9_play 82 (.getfield 52) 3 2 7 85 := ⟨rfl, rfl⟩
theorem r_X9_play_85 : RW M_X9_play 85 (.iconst 1) 1 0 0 86 := ⟨rfl, rfl⟩
theorem r_X9_play_86 : RW M_X9_play 86 (.iadd) 1 0 0 87 := ⟨rfl, rfl⟩
theorem r_X9_play_87 : RW M_X9_play 87 (.putfield 52) 3 2 7 90 := ⟨rfl, rfl⟩
theorem r_X9_play_90 : RW M_X9_play 90 (.iinc 5 1) 3 0 0 93 := ⟨rfl, rfl⟩
theorem r_X9_play_93 : RW M_X9_play 93 (.goto (-77)) 3 16 0 96 := ⟨rfl, rfl⟩
theorem r_X9_play_96 : RW M_X9_play 96 (.return_) 1 0 0 97 := ⟨rfl, rfl⟩
theorem r_X9_playBird_0 : RW M_X9_playBird 0 (.aload_n 0) 1 0 0 1 := ⟨rfl, rfl⟩
theorem r_X9_playBird_1 : RW M_X9_playBird 1 (.aload_n 0) 1 0 0 2 := ⟨rfl, rfl⟩
theorem r_X9_playBird_2 : RW M_X9_playBird 2 (.getfield 9) 3 9 0 5 := ⟨rfl, rfl⟩
theorem r_X9_playBird_5 : RW M_X9_playBird 5 (.getfield 29) 3 1 13 8 := ⟨rfl, rfl⟩
theorem r_X9_playBird_8 : RW M_X9_playBird 8 (.invokevirtual 44) 3 111 0 11 := ⟨rfl, rfl⟩
theorem r_X9_playBird_11 : RW M_X9_playBird 11 (.istore_n 2) 1 0 0 12 := ⟨rfl, rfl⟩
theorem r_X9_playBird_12 : RW M_X9_playBird 12 (.aload_n 0) 1 0 0 13 := ⟨rfl, rfl⟩
theorem r_X9_playBird_13 : RW M_X9_playBird 13 (.aload_n 0) 1 0 0 14 := ⟨rfl, rfl⟩
theorem r_X9_playBird_14 : RW M_X9_playBird 14 (.getfield 9) 3 9 0 17 := ⟨rfl, rfl⟩
theorem r_X9_playBird_17 : RW M_X9_playBird 17 (.getfield 34) 3 1 12 20 := ⟨rfl, rfl⟩
theorem r_X9_playBird_20 : RW M_X9_playBird 20 (.invokevirtual 44) 3 111 0 23 := ⟨rfl, rfl⟩
theorem r_X9_playBird_23 : RW M_X9_playBird 23 (.istore_n 3) 1 0 0 24 := ⟨rfl, rfl⟩
theorem r_X9_playBird_24 : RW M_X9_playBird 24 (.aload_n 0) 1 0 0 25 := ⟨rfl, rfl⟩
theorem r_X9_playBird_25 : RW M_X9_playBird 25 (.bipush 16) 2 0 0 27 := ⟨rfl, rfl⟩
theorem r_X9_playBird_27 : RW M_X9_playBird 27 (.invokevirtual 44) 3 111 0 30 := ⟨rfl, rfl⟩
theorem r_X9_playBird_30 : RW M_X9_playBird 30 (.iload_n 1) 1 0 0 31 := ⟨rfl, rfl⟩
theorem r_X9_playBird_31 : RW M_X9_playBird 31 (.if_icmp .ge 24) 3 55 0 34 := ⟨rfl, rfl⟩
theorem r_X9_playBird_34 : RW M_X9_playBird 34 (.aload_n 0) 1 0 0 35 := ⟨rfl, rfl⟩
theorem r_X9_playBird_35 : RW M_X9_playBird 35 (.getfield 15) 3 9 1 38 := ⟨rfl, rfl⟩
theorem r_X9_playBird_38 : RW M_X9_playBird 38 (.iload_n 2) 1 0 0 39 := ⟨rfl, rfl⟩
theorem r_X9_playBird_39 : RW M_X9_playBird 39 (.iload_n 3) 1 0 0 40 := ⟨rfl, rfl⟩
theorem r_X9_playBird_40 : RW M_X9_playBird 40 (.iconst 1) 1 0 0 41 := ⟨rfl, rfl⟩
theorem r_X9_playBird_41 : RW M_X9_playBird 41 (.aload_n 0) 1 0 0 42 := ⟨rfl, rfl⟩
theorem r_X9_playBird_42 : RW M_X9_playBird 42 (.bipush 9) 2 0 0 44 := ⟨rfl, rfl⟩
theorem r_X9_playBird_44 : RW M_X9_playBird 44 (.invokevirtual 44) 3 111 0 47 := ⟨rfl, rfl⟩
theorem r_X9_playBird_47 : RW M_X9_playBird 47 (.iadd) 1 0 0 48 := ⟨rfl, rfl⟩
theorem r_X9_playBird_48 : RW M_X9_playBird 48 (.invokevirtual 55) 3 43 0 51 := ⟨rfl, rfl⟩
theorem r_X9_playBird_51 : RW M_X9_playBird 51 (.pop) 1 0 0 52 := ⟨rfl, rfl⟩
theorem r_X9_playBird_52 : RW M_X9_playBird 52 (.goto 13) 3 65 0 55 := ⟨rfl, rfl⟩
theorem r_X9_playBird_55 : RW M_X9_playBird 55 (.aload_n 0) 1 0 0 56 := ⟨rfl, rfl⟩
theorem r_X9_playBird_56 : RW M_X9_playBird 56 (.getfield 15) 3 9 1 59 := ⟨rfl, rfl⟩
theorem r_X9_playBird_59 : RW M_X9_playBird 59 (.iload_n 2) 1 0 0 60 := ⟨rfl, rfl⟩
theorem r_X9_playBird_60 : RW M_X9_playBird 60 (.iload_n 3) 1 0 0 61 := ⟨rfl, rfl⟩
theorem r_X9_playBird_61 : RW M_X9_playBird 61 (.invokevirtual 59) 3 42 0 64 := ⟨rfl, rfl⟩
theorem r_X9_playBird_64 : RW M_X9_playBird 64 (.pop) 1 0 0 65 := ⟨rfl, rfl⟩
theorem r_X9_playBird_65 : RW M_X9_playBird 65 (.return_) 1 0 0 66 := ⟨rfl, rfl⟩
theorem c_draw {d : Nat} {I : Nat → Nat → Int32} {J : Nat → Nat → Int64} {s : Int32} {m : Nat} (hs : I 94 2 = s) (hm : 0 < m) (hm2 : m < 100000)  (hd : 1 ≤ d) : RI d 111 [.ref 94, .int (nI m)] I J (fun v I' => v = nI (dr (sdN s) m) ∧ I' = wr I 94 2 (sdN s)) := by
  refine RI.in (d0 := 0) hd mt_111 (Nat.le_of_ble_eq_true rfl) (fun d' hd' => ?_)
  have dl := dv_lt (sdN s)
  show EV none M_X9_draw d' 0 [(0, .ref 94), (1, .int (nI m))] [] (hp I J) _
  refine EV.l (lv' := [(0, _), (1, _)]) r_X9_draw_0 rfl ?_
  refine EV.l (lv' := [(0, _), (1, _)]) r_X9_draw_1 rfl ?_
  refine EV.getV r_X9_draw_2 la_94 (hs) ?_
  refine EV.lcN r_X9_draw_5 ?_
  refine EV.o r_X9_draw_7 rfl ?_
  refine EV.o r_X9_draw_8 (spN (12345) 12345) ?_
  refine EV.o r_X9_draw_11 rfl ?_
  refine EV.pIn r_X9_draw_12 la_94 (fun I2 e2 => ?_)
  refine EV.l (lv' := [(0, _), (1, _)]) r_X9_draw_15 rfl ?_
  refine EV.n0_le r_X9_draw_16 (fun h16 => ?_) (fun h16 => ?_)
  · omega
  · -- 16 f
    refine EV.l (lv' := [(0, _), (1, _)]) r_X9_draw_19 rfl ?_
    refine EV.getV r_X9_draw_20 la_94 ((by subst e2; exact wr_same : I2 94 2 = sdN s)) ?_
    refine EV.o r_X9_draw_23 (bpN (16) 16) ?_
    refine EV.o r_X9_draw_25 (us16) ?_
    refine EV.o r_X9_draw_26 (spN (32767) 32767) ?_
    refine EV.o r_X9_draw_29 iandN ?_
    change EV _ _ _ _ _ (.int (nI (dv (sdN s))) :: _) _ _
    refine EV.l (lv' := [(0, _), (1, _)]) r_X9_draw_30 rfl ?_
    refine EV.o r_X9_draw_31 (iremN) ?_
    refine EV.g r_X9_draw_32 ?_
    exact EV.ri r_X9_draw_36 (⟨rfl, e2⟩)
theorem m_draws {d : Nat} {I : Nat → Nat → Int32} {J : Nat → Nat → Int64} {s : Int32} {m : Nat} (hs : I 106 53 = s) (hm : 0 < m) (hm2 : m < 100000)  (hd : 1 ≤ d) : RI d 280 [.ref 106, .int (nI m)] I J (fun v I' => v = nI (dr (sdN s) m) ∧ I' = wr I 106 53 (sdN s)) := by
  refine RI.in (d0 := 0) hd mt_280 (Nat.le_of_ble_eq_true rfl) (fun d' hd' => ?_)
  have dl := dv_lt (sdN s)
  show EV none M_X11_draws d' 0 [(0, .ref 106), (1, .int (nI m))] [] (hp I J) _
  refine EV.l (lv' := [(0, _), (1, _)]) r_X11_draws_0 rfl ?_
  refine EV.l (lv' := [(0, _), (1, _)]) r_X11_draws_1 rfl ?_
  refine EV.getV r_X11_draws_2 la_106 (hs) ?_
  refine EV.lcw r_X11_draws_5 ?_
  refine EV.o r_X11_draws_8 rfl ?_
  refine EV.o r_X11_draws_9 (spN (12345) 12345) ?_
  refine EV.o r_X11_draws_12 rfl ?_
  refine EV.pIn r_X11_draws_13 la_106 (fun I2 e2 => ?_)
  refine EV.l (lv' := [(0, _), (1, _)]) r_X11_draws_16 rfl ?_
  refine EV.getV r_X11_draws_17 la_106 ((by subst e2; exact wr_same : I2 106 53 = sdN s)) ?_
  refine EV.o r_X11_draws_20 (bpN (16) 16) ?_
  refine EV.o r_X11_draws_22 (rfl) ?_
  refine EV.o r_X11_draws_23 (spN (32767) 32767) ?_
  refine EV.o r_X11_draws_26 (ss16) ?_
  refine EV.l (lv' := [(0, _), (1, _)]) r_X11_draws_27 rfl ?_
  refine EV.o r_X11_draws_28 (iremN) ?_
  exact EV.ri r_X11_draws_29 (⟨rfl, e2⟩)
theorem c_become {d : Nat} {I : Nat → Nat → Int32} {J : Nat → Nat → Int64} {η : HS} (hh : HH 71 η I)  (hd : 4 ≤ d) : RU d 25 [.ref 95, .ref 71] I J (fun I' => HH 95 η I' ∧ ∀ x, (x < 95 ∨ 105 < x) → I' x = I x) := by
  refine RU.in (d0 := 3) hd mt_25 (Nat.le_of_ble_eq_true rfl) (fun d' hd' => ?_)
  show EV none M_X2_become d' 0 [(0, .ref 95), (1, .ref 71)] [] (hp I J) _
  refine EV.l (lv' := [(0, _), (1, _)]) r_X2_become_0 rfl ?_
  refine EV.l (lv' := [(0, _), (1, _)]) r_X2_become_1 rfl ?_
  refine EV.getV r_X2_become_2 la_71 (hh.mi) ?_
  refine EV.pIn r_X2_become_5 la_95 (fun I2 e2 => ?_)
  refine EV.l (lv' := [(0, _), (1, _)]) r_X2_become_8 rfl ?_
  refine EV.l (lv' := [(0, _), (1, _)]) r_X2_become_9 rfl ?_
  refine EV.getV r_X2_become_10 la_71 ((by subst e2; exact (wr_ne (Or.inl (by decide))).trans hh.nt)) ?_
  refine EV.pIn r_X2_become_13 la_95 (fun K0 e3 => ?_)
  have g0 : ∀ x, x ≠ 95 → K0 x = I x := fun x hx => by subst e3; subst e2; exact (wr_row hx).trans (wr_row hx)
  have k7 : K0 95 7 = nI η.mi := by subst e3; subst e2; exact (wr_ne (Or.inr (by decide))).trans wr_same
  have k8 : K0 95 8 = nI η.nt := by subst e3; exact wr_same
  refine EV.l (lv' := [(0, _), (1, _)]) r_X2_become_16 rfl ?_
  refine EV.gR r_X2_become_17 la_95 ?_
  refine EV.o r_X2_become_20 (icN (0) (v := 0)) ?_
  refine EV.l (lv' := [(0, _), (1, _)]) r_X2_become_21 rfl ?_
  refine EV.gR r_X2_become_22 la_71 ?_
  refine EV.o r_X2_become_25 (icN (0) (v := 0)) ?_
  refine EV.o r_X2_become_26 (bpN (9) 9) ?_
  refine EV.cu r_X2_become_28 (aV4 mt_94 la_96) (c_copy la_96 la_97 (by decide) (by decide) la_72 la_73 (by decide) (by decide) (by decide) (by omega) (by omega) (by omega)) (fun K1 eK1 => ?_)
  have g1 : ∀ x, x ≠ 97 → K1 x = K0 x := fun x hx => by rw [eK1]; exact cpy_row hx
  have v1 : ∀ j, j < 9 → K1 97 j = K0 73 j := fun j hj => by rw [eK1]; exact cpy_0 hj
  refine EV.l (lv' := [(0, _), (1, _)]) r_X2_become_31 rfl ?_
  refine EV.gR r_X2_become_32 la_95 ?_
  refine EV.o r_X2_become_35 (icN (0) (v := 0)) ?_
  refine EV.l (lv' := [(0, _), (1, _)]) r_X2_become_36 rfl ?_
  refine EV.gR r_X2_become_37 la_71 ?_
  refine EV.o r_X2_become_40 (icN (0) (v := 0)) ?_
  refine EV.o r_X2_become_41 (icN (4) (v := 4)) ?_
  refine EV.cu r_X2_become_42 (aV4 mt_94 la_98) (c_copy la_98 la_99 (by decide) (by decide) la_74 la_75 (by decide) (by decide) (by decide) (by omega) (by omega) (by omega)) (fun K2 eK2 => ?_)
  have g2 : ∀ x, x ≠ 99 → K2 x = K1 x := fun x hx => by rw [eK2]; exact cpy_row hx
  have v2 : ∀ j, j < 4 → K2 99 j = K1 75 j := fun j hj => by rw [eK2]; exact cpy_0 hj
  refine EV.l (lv' := [(0, _), (1, _)]) r_X2_become_45 rfl ?_
  refine EV.gR r_X2_become_46 la_95 ?_
  refine EV.o r_X2_become_49 (icN (0) (v := 0)) ?_
  refine EV.l (lv' := [(0, _), (1, _)]) r_X2_become_50 rfl ?_
  refine EV.gR r_X2_become_51 la_71 ?_
  refine EV.o r_X2_become_54 (icN (0) (v := 0)) ?_
  refine EV.o r_X2_become_55 (icN (4) (v := 4)) ?_
  refine EV.cu r_X2_become_56 (aV4 mt_94 la_100) (c_copy la_100 la_101 (by decide) (by decide) la_76 la_77 (by decide) (by decide) (by decide) (by omega) (by omega) (by omega)) (fun K3 eK3 => ?_)
  have g3 : ∀ x, x ≠ 101 → K3 x = K2 x := fun x hx => by rw [eK3]; exact cpy_row hx
  have v3 : ∀ j, j < 4 → K3 101 j = K2 77 j := fun j hj => by rw [eK3]; exact cpy_0 hj
  refine EV.l (lv' := [(0, _), (1, _)]) r_X2_become_59 rfl ?_
  refine EV.gR r_X2_become_60 la_95 ?_
  refine EV.o r_X2_become_63 (icN (0) (v := 0)) ?_
  refine EV.l (lv' := [(0, _), (1, _)]) r_X2_become_64 rfl ?_
  refine EV.gR r_X2_become_65 la_71 ?_
  refine EV.o r_X2_become_68 (icN (0) (v := 0)) ?_
  refine EV.o r_X2_become_69 (icN (4) (v := 4)) ?_
  refine EV.cu r_X2_become_70 (aV4 mt_94 la_102) (c_copy la_102 la_103 (by decide) (by decide) la_78 la_79 (by decide) (by decide) (by decide) (by omega) (by omega) (by omega)) (fun K4 eK4 => ?_)
  have g4 : ∀ x, x ≠ 103 → K4 x = K3 x := fun x hx => by rw [eK4]; exact cpy_row hx
  have v4 : ∀ j, j < 4 → K4 103 j = K3 79 j := fun j hj => by rw [eK4]; exact cpy_0 hj
  refine EV.l (lv' := [(0, _), (1, _)]) r_X2_become_73 rfl ?_
  refine EV.gR r_X2_become_74 la_95 ?_
  refine EV.o r_X2_become_77 (icN (0) (v := 0)) ?_
  refine EV.l (lv' := [(0, _), (1, _)]) r_X2_become_78 rfl ?_
  refine EV.gR r_X2_become_79 la_71 ?_
  refine EV.o r_X2_become_82 (icN (0) (v := 0)) ?_
  refine EV.o r_X2_become_83 (icN (4) (v := 4)) ?_
  refine EV.cu r_X2_become_84 (aV4 mt_94 la_104) (c_copy la_104 la_105 (by decide) (by decide) la_80 la_81 (by decide) (by decide) (by decide) (by omega) (by omega) (by omega)) (fun K5 eK5 => ?_)
  have g5 : ∀ x, x ≠ 105 → K5 x = K4 x := fun x hx => by rw [eK5]; exact cpy_row hx
  have v5 : ∀ j, j < 4 → K5 105 j = K4 81 j := fun j hj => by rw [eK5]; exact cpy_0 hj
  have z1 : ∀ x, x ≠ 97 → x ≠ 99 → x ≠ 101 → x ≠ 103 → x ≠ 105 → K5 x = K0 x := fun x a1 a2 a3 a4 a5 => (g5 x a5).trans ((g4 x a4).trans ((g3 x a3).trans ((g2 x a2).trans (g1 x a1))))
  exact EV.ru r_X2_become_87 (⟨⟨by rw [z1 95 (by decide) (by decide) (by decide) (by decide) (by decide)]; exact k7, by rw [z1 95 (by decide) (by decide) (by decide) (by decide) (by decide)]; exact k8, fun j hj => by rw [g5 97 (by decide), g4 97 (by decide), g3 97 (by decide), g2 97 (by decide), v1 j hj, g0 73 (by decide)]; exact hh.sa j hj, fun j hj => by rw [g5 99 (by decide), g4 99 (by decide), g3 99 (by decide), v2 j hj, g1 75 (by decide), g0 75 (by decide)]; exact hh.be j hj, fun j hj => by rw [g5 101 (by decide), g4 101 (by decide), v3 j hj, g2 77 (by decide), g1 77 (by decide), g0 77 (by decide)]; exact hh.le j hj, fun j hj => by rw [g5 103 (by decide), v4 j hj, g3 79 (by decide), g2 79 (by decide), g1 79 (by decide), g0 79 (by decide)]; exact hh.wk j hj, fun j hj => by rw [v5 j hj, g4 81 (by decide), g3 81 (by decide), g2 81 (by decide), g1 81 (by decide), g0 81 (by decide)]; exact hh.cr j hj⟩, fun x hx => (z1 x (by omega) (by omega) (by omega) (by omega) (by omega)).trans (g0 x (by omega))⟩)
theorem c_playBird {d : Nat} {I : Nat → Nat → Int32} {J : Nat → Nat → Int64} {κ : CT} {l : LW} {η : HS} (hc_ : HC 4 κ I) (cb : CB κ) (hh : HH 95 η I) (hb_ : HB κ η) (hl : HL 46 l I) (lb : LB l) {s : Int32} {q : Nat} (q0 : I 94 2 = s) (h1 : 0 < κ.nc) (h2 : 0 < κ.nb) (hq : q ≤ 16)  (hd : 8 ≤ d) : RU d 110 [.ref 94, .int (nI q)] I J (fun I' => HH 95 (trB κ l q (s, η)).2 I' ∧ I' 94 2 = (trB κ l q (s, η)).1 ∧ ∀ x, x ≠ 50 → x ≠ 52 → (x < 94 ∨ 105 < x) → I' x = I x) := by
  refine RU.in (d0 := 7) hd mt_110 (Nat.le_of_ble_eq_true rfl) (fun d' hd' => ?_)
  have bns := cb.ns; have bnb := cb.nb; have bnc := cb.nc; have bnr := cb.nr
  show EV none M_X9_playBird d' 0 [(0, .ref 94), (1, .int (nI q))] [] (hp I J) _
  refine EV.l (lv' := [(0, _), (1, _)]) r_X9_playBird_0 rfl ?_
  refine EV.l (lv' := [(0, _), (1, _)]) r_X9_playBird_1 rfl ?_
  refine EV.gR r_X9_playBird_2 la_94 ?_
  refine EV.getV r_X9_playBird_5 la_4 (hc_.nc) ?_
  refine EV.ci r_X9_playBird_8 (aV1 mt_111 la_94) (c_draw q0 (by omega) (by omega) (by omega)) (fun v1 D1 hD1 => ?_)
  obtain ⟨e, eD1⟩ := hD1
  subst e
  have q1 : D1 94 2 = sdN s := by rw [eD1]; exact wr_same
  have fd1 : ∀ x, x ≠ 94 → D1 x = I x := fun x hx => by rw [eD1, wr_row hx]
  have hcd1 : HC 4 κ D1 := hc_.fr (fun x a1 a2 => fd1 x (by omega))
  have dq1 := @dr_lt (sdN s)
  refine EV.l (lv' := [(0, _), (1, _), (2, _)]) r_X9_playBird_11 rfl ?_
  refine EV.l (lv' := [(0, _), (1, _), (2, _)]) r_X9_playBird_12 rfl ?_
  refine EV.l (lv' := [(0, _), (1, _), (2, _)]) r_X9_playBird_13 rfl ?_
  refine EV.gR r_X9_playBird_14 la_94 ?_
  refine EV.getV r_X9_playBird_17 la_4 (hcd1.nb) ?_
  refine EV.ci r_X9_playBird_20 (aV1 mt_111 la_94) (c_draw q1 (by omega) (by omega) (by omega)) (fun v2 D2 hD2 => ?_)
  obtain ⟨e, eD2⟩ := hD2
  subst e
  have q2 : D2 94 2 = sdN (sdN s) := by rw [eD2]; exact wr_same
  have fd2 : ∀ x, x ≠ 94 → D2 x = I x := fun x hx => by rw [eD2, wr_row hx]; exact fd1 x hx
  have hcd2 : HC 4 κ D2 := hc_.fr (fun x a1 a2 => fd2 x (by omega))
  have dq2 := @dr_lt (sdN (sdN s))
  refine EV.l (lv' := [(0, _), (1, _), (2, _), (3, _)]) r_X9_playBird_23 rfl ?_
  refine EV.l (lv' := [(0, _), (1, _), (2, _), (3, _)]) r_X9_playBird_24 rfl ?_
  refine EV.o r_X9_playBird_25 (bpN (16) 16) ?_
  refine EV.ci r_X9_playBird_27 (aV1 mt_111 la_94) (c_draw q2 (by omega) (by omega) (by omega)) (fun v3 D3 hD3 => ?_)
  obtain ⟨e, eD3⟩ := hD3
  subst e
  have q3 : D3 94 2 = sdN (sdN (sdN s)) := by rw [eD3]; exact wr_same
  have fd3 : ∀ x, x ≠ 94 → D3 x = I x := fun x hx => by rw [eD3, wr_row hx]; exact fd2 x hx
  have hcd3 : HC 4 κ D3 := hc_.fr (fun x a1 a2 => fd3 x (by omega))
  have dq3 := @dr_lt (sdN (sdN (sdN s)))
  refine EV.l (lv' := [(0, _), (1, _), (2, _), (3, _)]) r_X9_playBird_30 rfl ?_
  have dz := @dq3 16 (by omega)
  refine EV.n2_ge r_X9_playBird_31 (fun h31 => ?_) (fun h31 => ?_)
  · -- 31 t
    refine EV.l (lv' := [(0, _), (1, _), (2, _), (3, _)]) r_X9_playBird_55 rfl ?_
    refine EV.gR r_X9_playBird_56 la_94 ?_
    refine EV.l (lv' := [(0, _), (1, _), (2, _), (3, _)]) r_X9_playBird_59 rfl ?_
    refine EV.l (lv' := [(0, _), (1, _), (2, _), (3, _)]) r_X9_playBird_60 rfl ?_
    refine EV.ci r_X9_playBird_61 (aV2 mt_42 la_95) (c95_call hcd3 cb (hh.fr (fun x a1 a2 => fd3 x (by omega))) hb_ (hl.fr (fd3 46 (by decide)) (fd3 48 (by decide))) lb (by have := @dq1 κ.nc (by omega); omega) (by have := @dq2 κ.nb (by omega); omega) (by omega)) (fun v9 I9 h9 => ?_)
    obtain ⟨e9, h9a, h9b⟩ := h9
    refine EV.o r_X9_playBird_64 rfl ?_
    exact EV.ru r_X9_playBird_65 (by first | exact ⟨by rw [trB_l (by omega)]; exact h9a, by rw [trB_l (by omega)]; exact (congrFun (h9b 94 (by decide) (by decide) (by omega)) 2).trans q4, fun x a1 a2 a3 => (h9b x a1 a2 (by omega)).trans (fd4 x (by omega))⟩ | exact ⟨by rw [trB_c (by omega)]; exact h9a, by rw [trB_c (by omega)]; exact (congrFun (h9b 94 (by decide) (by decide) (by omega)) 2).trans q3, fun x a1 a2 a3 => (h9b x a1 a2 (by omega)).trans (fd3 x (by omega))⟩)
  · -- 31 f
    refine EV.l (lv' := [(0, _), (1, _), (2, _), (3, _)]) r_X9_playBird_34 rfl ?_
    refine EV.gR r_X9_playBird_35 la_94 ?_
    refine EV.l (lv' := [(0, _), (1, _), (2, _), (3, _)]) r_X9_playBird_38 rfl ?_
    refine EV.l (lv' := [(0, _), (1, _), (2, _), (3, _)]) r_X9_playBird_39 rfl ?_
    refine EV.o r_X9_playBird_40 (icN (1) (v := 1)) ?_
    refine EV.l (lv' := [(0, _), (1, _), (2, _), (3, _)]) r_X9_playBird_41 rfl ?_
    refine EV.o r_X9_playBird_42 (bpN (9) 9) ?_
    refine EV.ci r_X9_playBird_44 (aV1 mt_111 la_94) (c_draw q3 (by omega) (by omega) (by omega)) (fun v4 D4 hD4 => ?_)
    obtain ⟨e, eD4⟩ := hD4
    subst e
    have q4 : D4 94 2 = sdN (sdN (sdN (sdN s))) := by rw [eD4]; exact wr_same
    have fd4 : ∀ x, x ≠ 94 → D4 x = I x := fun x hx => by rw [eD4, wr_row hx]; exact fd3 x hx
    have hcd4 : HC 4 κ D4 := hc_.fr (fun x a1 a2 => fd4 x (by omega))
    have dq4 := @dr_lt (sdN (sdN (sdN (sdN s))))
    refine EV.o r_X9_playBird_47 iaddN ?_
    refine EV.ci r_X9_playBird_48 (aV3 mt_43 la_95) (c95_lead hcd4 cb (hh.fr (fun x a1 a2 => fd4 x (by omega))) hb_ (hl.fr (fd4 46 (by decide)) (fd4 48 (by decide))) lb (by have := @dq1 κ.nc (by omega); omega) (by have := @dq2 κ.nb (by omega); omega) (by have := @dq4 9 (by omega); omega) (by omega)) (fun v9 I9 h9 => ?_)
    obtain ⟨e9, h9a, h9b⟩ := h9
    refine EV.o r_X9_playBird_51 rfl ?_
    refine EV.g r_X9_playBird_52 ?_
    exact EV.ru r_X9_playBird_65 (by first | exact ⟨by rw [trB_l (by omega)]; exact h9a, by rw [trB_l (by omega)]; exact (congrFun (h9b 94 (by decide) (by decide) (by omega)) 2).trans q4, fun x a1 a2 a3 => (h9b x a1 a2 (by omega)).trans (fd4 x (by omega))⟩ | exact ⟨by rw [trB_c (by omega)]; exact h9a, by rw [trB_c (by omega)]; exact (congrFun (h9b 94 (by decide) (by decide) (by omega)) 2).trans q3, fun x a1 a2 a3 => (h9b x a1 a2 (by omega)).trans (fd3 x (by omega))⟩)
theorem c_play {d : Nat} {I : Nat → Nat → Int32} {J : Nat → Nat → Int64} {κ : CT} {l : LW} {η : HS} (hc_ : HC 4 κ I) (cb : CB κ) (hh : HH 71 η I) (ho : hOk κ l η η.mi) (h4 : η.mi ≤ 400) (hl : HL 46 l I) (lb : LB l) {s : Int32} {q n : Nat} (hq : q ≤ 16) (hn : n ≤ 48)  (hd : 10 ≤ d) : RU d 109 [.ref 94, .ref 71, .int s, .int (nI q), .int (nI n)] I J (fun I' => HH 95 (trm κ l q (s, η) n).2 I' ∧ ∀ x, x ≠ 50 → x ≠ 52 → (x < 94 ∨ 105 < x) → I' x = I x) := by
  refine RU.in (d0 := 9) hd mt_109 (Nat.le_of_ble_eq_true rfl) (fun d' hd' => ?_)
  have bns := cb.ns; have bnb := cb.nb; have bnc := cb.nc; have bnr := cb.nr
  show EV none M_X9_play d' 0 [(0, .ref 94), (1, .ref 71), (2, .int s), (3, .int (nI q)), (4, .int (nI n))] [] (hp I J) _
  refine EV.l (lv' := [(0, _), (1, _), (2, _), (3, _), (4, _)]) r_X9_play_0 rfl ?_
  refine EV.gR r_X9_play_1 la_94 ?_
  refine EV.l (lv' := [(0, _), (1, _), (2, _), (3, _), (4, _)]) r_X9_play_4 rfl ?_
  refine EV.cu r_X9_play_5 (aV1 mt_25 la_95) (c_become hh (by omega)) (fun I2 h2 => ?_)
  obtain ⟨h2a, h2b⟩ := h2
  refine EV.l (lv' := [(0, _), (1, _), (2, _), (3, _), (4, _)]) r_X9_play_8 rfl ?_
  refine EV.l (lv' := [(0, _), (1, _), (2, _), (3, _), (4, _)]) r_X9_play_9 rfl ?_
  refine EV.pIn r_X9_play_10 la_94 (fun I3 e3 => ?_)
  have h3a : HH 95 η I3 := h2a.fr (fun x a1 a2 => by subst e3; exact wr_row (by omega))
  have f3 : ∀ x, x ≠ 50 → x ≠ 52 → (x < 94 ∨ 105 < x) → I3 x = I x := fun x a1 a2 a3 => by subst e3; exact (wr_row (by omega)).trans (h2b x (by omega))
  have s3 : I3 94 2 = s := by subst e3; exact wr_same
  refine EV.o r_X9_play_13 (icN (0) (v := 0)) ?_
  refine EV.l (lv' := [(0, _), (1, _), (2, _), (3, _), (4, _), (5, _)]) r_X9_play_14 rfl ?_
  have L16 : ∀ y_ : Nat × (Nat → Nat → Int32), (fun y => (y.1 ≤ n ∧ HH 95 (trm κ l q (s, η) y.1).2 y.2 ∧ y.2 94 2 = (trm κ l q (s, η) y.1).1 ∧ ∀ x, x ≠ 50 → x ≠ 52 → (x < 94 ∨ 105 < x) → y.2 x = I x) → EV none M_X9_play d' 16 [(0, .ref 94), (1, .ref 71), (2, .int s), (3, .int (nI q)), (4, .int (nI n)), (5, .int (nI y.1))] [] (hp y.2 J) (QU J (fun I' => HH 95 (trm κ l q (s, η) n).2 I' ∧ ∀ x, x ≠ 50 → x ≠ 52 → (x < 94 ∨ 105 < x) → I' x = I x))) y_ := by
    refine ev_loop (fun y => n - y.1) ?_
    intro ⟨t, I1⟩ ih16 hx16
    try dsimp only at ih16
    try dsimp only at hx16
    try dsimp only
    obtain ⟨tl, hhx, sq, fx⟩ := hx16
    have ho1 := trm_ok (q := q) (p := (s, η)) ho h4 t (by omega)
    have hcx : HC 4 κ I1 := hc_.fr (fun x a1 a2 => fx x (by omega) (by omega) (by omega))
    have hlx : HL 46 l I1 := hl.fr (fx 46 (by decide) (by decide) (by omega)) (fx 48 (by decide) (by decide) (by omega))
    refine EV.l (lv' := [(0, _), (1, _), (2, _), (3, _), (4, _), (5, _)]) r_X9_play_16 rfl ?_
    refine EV.l (lv' := [(0, _), (1, _), (2, _), (3, _), (4, _), (5, _)]) r_X9_play_18 rfl ?_
    refine EV.n2_ge r_X9_play_20 (fun h20 => ?_) (fun h20 => ?_)
    · -- 20 t
      exact EV.ru r_X9_play_96 (⟨by rw [show n = t by omega]; exact hhx, fx⟩)
    · -- 20 f
      refine EV.l (lv' := [(0, _), (1, _), (2, _), (3, _), (4, _), (5, _)]) r_X9_play_23 rfl ?_
      refine EV.gR r_X9_play_24 la_94 ?_
      refine EV.getV r_X9_play_27 la_4 (hcx.nc) ?_
      refine EV.n0_le r_X9_play_30 (fun h30 => ?_) (fun h30 => ?_)
      · -- 30 t
        obtain ⟨hA, hS, hF⟩ : HH 95 (trP κ l q (trm κ l q (s, η) t)).2 I1 ∧ I1 94 2 = (trP κ l q (trm κ l q (s, η) t)).1 ∧ ∀ x, x ≠ 50 → x ≠ 52 → (x < 94 ∨ 105 < x) → I1 x = I x := by first | (rw [trP_f (by omega)]; exact ⟨hhx, sq, fx⟩) | (rw [trP_t (by omega) (by omega)]; exact ⟨h4a, h4b, fun x a1 a2 a3 => (h4c x a1 a2 a3).trans (fx x a1 a2 a3)⟩)
        have hcy : HC 4 κ I1 := hc_.fr (fun x a1 a2 => hF x (by omega) (by omega) (by omega))
        have hly : HL 46 l I1 := hl.fr (hF 46 (by decide) (by decide) (by omega)) (hF 48 (by decide) (by decide) (by omega))
        have ho2 := trP_ok (q := q) ho1
        refine EV.l (lv' := [(0, _), (1, _), (2, _), (3, _), (4, _), (5, _)]) r_X9_play_48 rfl ?_
        refine EV.gR r_X9_play_49 la_94 ?_
        refine EV.getV r_X9_play_52 la_4 (hcy.ns) ?_
        refine EV.n0_le r_X9_play_55 (fun h55 => ?_) (fun h55 => ?_)
        · -- 55 t
          obtain ⟨hB, hT, hG⟩ : HH 95 (trQ κ l (trP κ l q (trm κ l q (s, η) t))).2 I1 ∧ I1 94 2 = (trQ κ l (trP κ l q (trm κ l q (s, η) t))).1 ∧ ∀ x, x ≠ 50 → x ≠ 52 → (x < 94 ∨ 105 < x) → I1 x = I x := by first | (rw [trQ_f (by omega)]; exact ⟨hA, hS, hF⟩) | (rw [trQ_t (by omega)]; exact ⟨h7a, (congrFun (h7b 94 (by decide) (by decide) (by omega)) 2).trans s6, fun x a1 a2 a3 => (h7b x a1 a2 (by omega)).trans ((f6 x (by omega)).trans (hF x a1 a2 a3))⟩)
          refine EV.l (lv' := [(0, _), (1, _), (2, _), (3, _), (4, _), (5, _)]) r_X9_play_77 rfl ?_
          refine EV.gR r_X9_play_78 la_94 ?_
          refine EV.o r_X9_play_81 rfl ?_
          refine EV.getV r_X9_play_82 la_95 (hB.mi) ?_
          refine EV.o r_X9_play_85 (icN (1) (v := 1)) ?_
          refine EV.o r_X9_play_86 iaddN ?_
          refine EV.pIn r_X9_play_87 la_95 (fun I9 e9 => ?_)
          refine EV.l (lv' := [(0, _), (1, _), (2, _), (3, _), (4, _), (5, _)]) r_X9_play_90 rfl ?_
          rw [inc_nI]
          refine EV.g r_X9_play_93 ?_
          refine EV.sub ?_ rfl ?_ (ih16 (t + 1, I9) ?_ ?_)
          · (try dsimp only) <;> (rfl)
          · (try dsimp only) <;> (rfl)
          · (try dsimp only) <;> (omega)
          · (try dsimp only) <;> (subst e9; exact ⟨by omega, hB.pmi, (wr_ne (Or.inl (by decide))).trans hT, fun x a1 a2 a3 => (wr_row (by omega)).trans (hG x a1 a2 a3)⟩)
        · -- 55 f
          refine EV.l (lv' := [(0, _), (1, _), (2, _), (3, _), (4, _), (5, _)]) r_X9_play_58 rfl ?_
          refine EV.gR r_X9_play_59 la_94 ?_
          refine EV.l (lv' := [(0, _), (1, _), (2, _), (3, _), (4, _), (5, _)]) r_X9_play_62 rfl ?_
          refine EV.l (lv' := [(0, _), (1, _), (2, _), (3, _), (4, _), (5, _)]) r_X9_play_63 rfl ?_
          refine EV.gR r_X9_play_64 la_94 ?_
          refine EV.getV r_X9_play_67 la_4 (hcy.ns) ?_
          refine EV.ci r_X9_play_70 (aV1 mt_111 la_94) (c_draw hS (by omega) (by omega) (by omega)) (fun v6 I6 h6 => ?_)
          obtain ⟨e, e6⟩ := h6
          subst e
          have f6 : ∀ x, x ≠ 94 → I6 x = I1 x := fun x hx => by rw [e6]; exact wr_row hx
          have s6 : I6 94 2 = sdN (trP κ l q (trm κ l q (s, η) t)).1 := by rw [e6]; exact wr_same
          have di : dr (sdN (trP κ l q (trm κ l q (s, η) t)).1) κ.ns < κ.ns := dr_lt (by omega)
          refine EV.ci r_X9_play_73 (aV1 mt_45 la_95) (c95_note (hcy.fr (fun x a1 a2 => f6 x (by omega))) cb (hA.fr (fun x a1 a2 => f6 x (by omega))) ho2.1 (hly.fr (f6 46 (by decide)) (f6 48 (by decide))) lb ho2.2.1.hw (by omega) (by omega)) (fun v7 I7 h7 => ?_)
          obtain ⟨e7, h7a, h7b⟩ := h7
          refine EV.o r_X9_play_76 rfl ?_
          obtain ⟨hB, hT, hG⟩ : HH 95 (trQ κ l (trP κ l q (trm κ l q (s, η) t))).2 I7 ∧ I7 94 2 = (trQ κ l (trP κ l q (trm κ l q (s, η) t))).1 ∧ ∀ x, x ≠ 50 → x ≠ 52 → (x < 94 ∨ 105 < x) → I7 x = I x := by first | (rw [trQ_f (by omega)]; exact ⟨hA, hS, hF⟩) | (rw [trQ_t (by omega)]; exact ⟨h7a, (congrFun (h7b 94 (by decide) (by decide) (by omega)) 2).trans s6, fun x a1 a2 a3 => (h7b x a1 a2 (by omega)).trans ((f6 x (by omega)).trans (hF x a1 a2 a3))⟩)
          refine EV.l (lv' := [(0, _), (1, _), (2, _), (3, _), (4, _), (5, _)]) r_X9_play_77 rfl ?_
          refine EV.gR r_X9_play_78 la_94 ?_
          refine EV.o r_X9_play_81 rfl ?_
          refine EV.getV r_X9_play_82 la_95 (hB.mi) ?_
          refine EV.o r_X9_play_85 (icN (1) (v := 1)) ?_
          refine EV.o r_X9_play_86 iaddN ?_
          refine EV.pIn r_X9_play_87 la_95 (fun I9 e9 => ?_)
          refine EV.l (lv' := [(0, _), (1, _), (2, _), (3, _), (4, _), (5, _)]) r_X9_play_90 rfl ?_
          rw [inc_nI]
          refine EV.g r_X9_play_93 ?_
          refine EV.sub ?_ rfl ?_ (ih16 (t + 1, I9) ?_ ?_)
          · (try dsimp only) <;> (rfl)
          · (try dsimp only) <;> (rfl)
          · (try dsimp only) <;> (omega)
          · (try dsimp only) <;> (subst e9; exact ⟨by omega, hB.pmi, (wr_ne (Or.inl (by decide))).trans hT, fun x a1 a2 a3 => (wr_row (by omega)).trans (hG x a1 a2 a3)⟩)
      · -- 30 f
        refine EV.l (lv' := [(0, _), (1, _), (2, _), (3, _), (4, _), (5, _)]) r_X9_play_33 rfl ?_
        refine EV.gR r_X9_play_34 la_94 ?_
        refine EV.getV r_X9_play_37 la_4 (hcx.nb) ?_
        refine EV.n0_le r_X9_play_40 (fun h40 => ?_) (fun h40 => ?_)
        · -- 40 t
          obtain ⟨hA, hS, hF⟩ : HH 95 (trP κ l q (trm κ l q (s, η) t)).2 I1 ∧ I1 94 2 = (trP κ l q (trm κ l q (s, η) t)).1 ∧ ∀ x, x ≠ 50 → x ≠ 52 → (x < 94 ∨ 105 < x) → I1 x = I x := by first | (rw [trP_f (by omega)]; exact ⟨hhx, sq, fx⟩) | (rw [trP_t (by omega) (by omega)]; exact ⟨h4a, h4b, fun x a1 a2 a3 => (h4c x a1 a2 a3).trans (fx x a1 a2 a3)⟩)
          have hcy : HC 4 κ I1 := hc_.fr (fun x a1 a2 => hF x (by omega) (by omega) (by omega))
          have hly : HL 46 l I1 := hl.fr (hF 46 (by decide) (by decide) (by omega)) (hF 48 (by decide) (by decide) (by omega))
          have ho2 := trP_ok (q := q) ho1
          refine EV.l (lv' := [(0, _), (1, _), (2, _), (3, _), (4, _), (5, _)]) r_X9_play_48 rfl ?_
          refine EV.gR r_X9_play_49 la_94 ?_
          refine EV.getV r_X9_play_52 la_4 (hcy.ns) ?_
          refine EV.n0_le r_X9_play_55 (fun h55 => ?_) (fun h55 => ?_)
          · -- 55 t
            obtain ⟨hB, hT, hG⟩ : HH 95 (trQ κ l (trP κ l q (trm κ l q (s, η) t))).2 I1 ∧ I1 94 2 = (trQ κ l (trP κ l q (trm κ l q (s, η) t))).1 ∧ ∀ x, x ≠ 50 → x ≠ 52 → (x < 94 ∨ 105 < x) → I1 x = I x := by first | (rw [trQ_f (by omega)]; exact ⟨hA, hS, hF⟩) | (rw [trQ_t (by omega)]; exact ⟨h7a, (congrFun (h7b 94 (by decide) (by decide) (by omega)) 2).trans s6, fun x a1 a2 a3 => (h7b x a1 a2 (by omega)).trans ((f6 x (by omega)).trans (hF x a1 a2 a3))⟩)
            refine EV.l (lv' := [(0, _), (1, _), (2, _), (3, _), (4, _), (5, _)]) r_X9_play_77 rfl ?_
            refine EV.gR r_X9_play_78 la_94 ?_
            refine EV.o r_X9_play_81 rfl ?_
            refine EV.getV r_X9_play_82 la_95 (hB.mi) ?_
            refine EV.o r_X9_play_85 (icN (1) (v := 1)) ?_
            refine EV.o r_X9_play_86 iaddN ?_
            refine EV.pIn r_X9_play_87 la_95 (fun I9 e9 => ?_)
            refine EV.l (lv' := [(0, _), (1, _), (2, _), (3, _), (4, _), (5, _)]) r_X9_play_90 rfl ?_
            rw [inc_nI]
            refine EV.g r_X9_play_93 ?_
            refine EV.sub ?_ rfl ?_ (ih16 (t + 1, I9) ?_ ?_)
            · (try dsimp only) <;> (rfl)
            · (try dsimp only) <;> (rfl)
            · (try dsimp only) <;> (omega)
            · (try dsimp only) <;> (subst e9; exact ⟨by omega, hB.pmi, (wr_ne (Or.inl (by decide))).trans hT, fun x a1 a2 a3 => (wr_row (by omega)).trans (hG x a1 a2 a3)⟩)
          · -- 55 f
            refine EV.l (lv' := [(0, _), (1, _), (2, _), (3, _), (4, _), (5, _)]) r_X9_play_58 rfl ?_
            refine EV.gR r_X9_play_59 la_94 ?_
            refine EV.l (lv' := [(0, _), (1, _), (2, _), (3, _), (4, _), (5, _)]) r_X9_play_62 rfl ?_
            refine EV.l (lv' := [(0, _), (1, _), (2, _), (3, _), (4, _), (5, _)]) r_X9_play_63 rfl ?_
            refine EV.gR r_X9_play_64 la_94 ?_
            refine EV.getV r_X9_play_67 la_4 (hcy.ns) ?_
            refine EV.ci r_X9_play_70 (aV1 mt_111 la_94) (c_draw hS (by omega) (by omega) (by omega)) (fun v6 I6 h6 => ?_)
            obtain ⟨e, e6⟩ := h6
            subst e
            have f6 : ∀ x, x ≠ 94 → I6 x = I1 x := fun x hx => by rw [e6]; exact wr_row hx
            have s6 : I6 94 2 = sdN (trP κ l q (trm κ l q (s, η) t)).1 := by rw [e6]; exact wr_same
            have di : dr (sdN (trP κ l q (trm κ l q (s, η) t)).1) κ.ns < κ.ns := dr_lt (by omega)
            refine EV.ci r_X9_play_73 (aV1 mt_45 la_95) (c95_note (hcy.fr (fun x a1 a2 => f6 x (by omega))) cb (hA.fr (fun x a1 a2 => f6 x (by omega))) ho2.1 (hly.fr (f6 46 (by decide)) (f6 48 (by decide))) lb ho2.2.1.hw (by omega) (by omega)) (fun v7 I7 h7 => ?_)
            obtain ⟨e7, h7a, h7b⟩ := h7
            refine EV.o r_X9_play_76 rfl ?_
            obtain ⟨hB, hT, hG⟩ : HH 95 (trQ κ l (trP κ l q (trm κ l q (s, η) t))).2 I7 ∧ I7 94 2 = (trQ κ l (trP κ l q (trm κ l q (s, η) t))).1 ∧ ∀ x, x ≠ 50 → x ≠ 52 → (x < 94 ∨ 105 < x) → I7 x = I x := by first | (rw [trQ_f (by omega)]; exact ⟨hA, hS, hF⟩) | (rw [trQ_t (by omega)]; exact ⟨h7a, (congrFun (h7b 94 (by decide) (by decide) (by omega)) 2).trans s6, fun x a1 a2 a3 => (h7b x a1 a2 (by omega)).trans ((f6 x (by omega)).trans (hF x a1 a2 a3))⟩)
            refine EV.l (lv' := [(0, _), (1, _), (2, _), (3, _), (4, _), (5, _)]) r_X9_play_77 rfl ?_
            refine EV.gR r_X9_play_78 la_94 ?_
            refine EV.o r_X9_play_81 rfl ?_
            refine EV.getV r_X9_play_82 la_95 (hB.mi) ?_
            refine EV.o r_X9_play_85 (icN (1) (v := 1)) ?_
            refine EV.o r_X9_play_86 iaddN ?_
            refine EV.pIn r_X9_play_87 la_95 (fun I9 e9 => ?_)
            refine EV.l (lv' := [(0, _), (1, _), (2, _), (3, _), (4, _), (5, _)]) r_X9_play_90 rfl ?_
            rw [inc_nI]
            refine EV.g r_X9_play_93 ?_
            refine EV.sub ?_ rfl ?_ (ih16 (t + 1, I9) ?_ ?_)
            · (try dsimp only) <;> (rfl)
            · (try dsimp only) <;> (rfl)
            · (try dsimp only) <;> (omega)
            · (try dsimp only) <;> (subst e9; exact ⟨by omega, hB.pmi, (wr_ne (Or.inl (by decide))).trans hT, fun x a1 a2 a3 => (wr_row (by omega)).trans (hG x a1 a2 a3)⟩)
        · -- 40 f
          refine EV.l (lv' := [(0, _), (1, _), (2, _), (3, _), (4, _), (5, _)]) r_X9_play_43 rfl ?_
          refine EV.l (lv' := [(0, _), (1, _), (2, _), (3, _), (4, _), (5, _)]) r_X9_play_44 rfl ?_
          refine EV.cu r_X9_play_45 (aV1 mt_110 la_94) (c_playBird hcx cb hhx ho1.1 hlx lb sq (by omega) (by omega) hq (by omega)) (fun I4 h5 => ?_)
          obtain ⟨h4a, h4b, h4c⟩ := h5
          obtain ⟨hA, hS, hF⟩ : HH 95 (trP κ l q (trm κ l q (s, η) t)).2 I4 ∧ I4 94 2 = (trP κ l q (trm κ l q (s, η) t)).1 ∧ ∀ x, x ≠ 50 → x ≠ 52 → (x < 94 ∨ 105 < x) → I4 x = I x := by first | (rw [trP_f (by omega)]; exact ⟨hhx, sq, fx⟩) | (rw [trP_t (by omega) (by omega)]; exact ⟨h4a, h4b, fun x a1 a2 a3 => (h4c x a1 a2 a3).trans (fx x a1 a2 a3)⟩)
          have hcy : HC 4 κ I4 := hc_.fr (fun x a1 a2 => hF x (by omega) (by omega) (by omega))
          have hly : HL 46 l I4 := hl.fr (hF 46 (by decide) (by decide) (by omega)) (hF 48 (by decide) (by decide) (by omega))
          have ho2 := trP_ok (q := q) ho1
          refine EV.l (lv' := [(0, _), (1, _), (2, _), (3, _), (4, _), (5, _)]) r_X9_play_48 rfl ?_
          refine EV.gR r_X9_play_49 la_94 ?_
          refine EV.getV r_X9_play_52 la_4 (hcy.ns) ?_
          refine EV.n0_le r_X9_play_55 (fun h55 => ?_) (fun h55 => ?_)
          · -- 55 t
            obtain ⟨hB, hT, hG⟩ : HH 95 (trQ κ l (trP κ l q (trm κ l q (s, η) t))).2 I4 ∧ I4 94 2 = (trQ κ l (trP κ l q (trm κ l q (s, η) t))).1 ∧ ∀ x, x ≠ 50 → x ≠ 52 → (x < 94 ∨ 105 < x) → I4 x = I x := by first | (rw [trQ_f (by omega)]; exact ⟨hA, hS, hF⟩) | (rw [trQ_t (by omega)]; exact ⟨h7a, (congrFun (h7b 94 (by decide) (by decide) (by omega)) 2).trans s6, fun x a1 a2 a3 => (h7b x a1 a2 (by omega)).trans ((f6 x (by omega)).trans (hF x a1 a2 a3))⟩)
            refine EV.l (lv' := [(0, _), (1, _), (2, _), (3, _), (4, _), (5, _)]) r_X9_play_77 rfl ?_
            refine EV.gR r_X9_play_78 la_94 ?_
            refine EV.o r_X9_play_81 rfl ?_
            refine EV.getV r_X9_play_82 la_95 (hB.mi) ?_
            refine EV.o r_X9_play_85 (icN (1) (v := 1)) ?_
            refine EV.o r_X9_play_86 iaddN ?_
            refine EV.pIn r_X9_play_87 la_95 (fun I9 e9 => ?_)
            refine EV.l (lv' := [(0, _), (1, _), (2, _), (3, _), (4, _), (5, _)]) r_X9_play_90 rfl ?_
            rw [inc_nI]
            refine EV.g r_X9_play_93 ?_
            refine EV.sub ?_ rfl ?_ (ih16 (t + 1, I9) ?_ ?_)
            · (try dsimp only) <;> (rfl)
            · (try dsimp only) <;> (rfl)
            · (try dsimp only) <;> (omega)
            · (try dsimp only) <;> (subst e9; exact ⟨by omega, hB.pmi, (wr_ne (Or.inl (by decide))).trans hT, fun x a1 a2 a3 => (wr_row (by omega)).trans (hG x a1 a2 a3)⟩)
          · -- 55 f
            refine EV.l (lv' := [(0, _), (1, _), (2, _), (3, _), (4, _), (5, _)]) r_X9_play_58 rfl ?_
            refine EV.gR r_X9_play_59 la_94 ?_
            refine EV.l (lv' := [(0, _), (1, _), (2, _), (3, _), (4, _), (5, _)]) r_X9_play_62 rfl ?_
            refine EV.l (lv' := [(0, _), (1, _), (2, _), (3, _), (4, _), (5, _)]) r_X9_play_63 rfl ?_
            refine EV.gR r_X9_play_64 la_94 ?_
            refine EV.getV r_X9_play_67 la_4 (hcy.ns) ?_
            refine EV.ci r_X9_play_70 (aV1 mt_111 la_94) (c_draw hS (by omega) (by omega) (by omega)) (fun v6 I6 h6 => ?_)
            obtain ⟨e, e6⟩ := h6
            subst e
            have f6 : ∀ x, x ≠ 94 → I6 x = I4 x := fun x hx => by rw [e6]; exact wr_row hx
            have s6 : I6 94 2 = sdN (trP κ l q (trm κ l q (s, η) t)).1 := by rw [e6]; exact wr_same
            have di : dr (sdN (trP κ l q (trm κ l q (s, η) t)).1) κ.ns < κ.ns := dr_lt (by omega)
            refine EV.ci r_X9_play_73 (aV1 mt_45 la_95) (c95_note (hcy.fr (fun x a1 a2 => f6 x (by omega))) cb (hA.fr (fun x a1 a2 => f6 x (by omega))) ho2.1 (hly.fr (f6 46 (by decide)) (f6 48 (by decide))) lb ho2.2.1.hw (by omega) (by omega)) (fun v7 I7 h7 => ?_)
            obtain ⟨e7, h7a, h7b⟩ := h7
            refine EV.o r_X9_play_76 rfl ?_
            obtain ⟨hB, hT, hG⟩ : HH 95 (trQ κ l (trP κ l q (trm κ l q (s, η) t))).2 I7 ∧ I7 94 2 = (trQ κ l (trP κ l q (trm κ l q (s, η) t))).1 ∧ ∀ x, x ≠ 50 → x ≠ 52 → (x < 94 ∨ 105 < x) → I7 x = I x := by first | (rw [trQ_f (by omega)]; exact ⟨hA, hS, hF⟩) | (rw [trQ_t (by omega)]; exact ⟨h7a, (congrFun (h7b 94 (by decide) (by decide) (by omega)) 2).trans s6, fun x a1 a2 a3 => (h7b x a1 a2 (by omega)).trans ((f6 x (by omega)).trans (hF x a1 a2 a3))⟩)
            refine EV.l (lv' := [(0, _), (1, _), (2, _), (3, _), (4, _), (5, _)]) r_X9_play_77 rfl ?_
            refine EV.gR r_X9_play_78 la_94 ?_
            refine EV.o r_X9_play_81 rfl ?_
            refine EV.getV r_X9_play_82 la_95 (hB.mi) ?_
            refine EV.o r_X9_play_85 (icN (1) (v := 1)) ?_
            refine EV.o r_X9_play_86 iaddN ?_
            refine EV.pIn r_X9_play_87 la_95 (fun I9 e9 => ?_)
            refine EV.l (lv' := [(0, _), (1, _), (2, _), (3, _), (4, _), (5, _)]) r_X9_play_90 rfl ?_
            rw [inc_nI]
            refine EV.g r_X9_play_93 ?_
            refine EV.sub ?_ rfl ?_ (ih16 (t + 1, I9) ?_ ?_)
            · (try dsimp only) <;> (rfl)
            · (try dsimp only) <;> (rfl)
            · (try dsimp only) <;> (omega)
            · (try dsimp only) <;> (subst e9; exact ⟨by omega, hB.pmi, (wr_ne (Or.inl (by decide))).trans hT, fun x a1 a2 a3 => (wr_row (by omega)).trans (hG x a1 a2 a3)⟩)
  have h0 := L16 ((0, I3))
  try dsimp only at h0
  refine EV.sub ?_ rfl ?_ (h0 ?_)
  · (try dsimp only) <;> (rfl)
  · (try dsimp only) <;> (rfl)
  · (try dsimp only) <;> (exact ⟨Nat.zero_le _, h3a, s3, f3⟩)
