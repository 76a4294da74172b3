/-! WORK is done: as one value; by the class. -/
abbrev RSt : Type := HS × (Nat × Nat × Nat)
def dst (κ : CT) (l : LW) (P : PL) (j : Nat) (η : HS) : Bool × HS :=
  if P.k j = 0 then (qCall η (P.a j) (P.b j), if qCall η (P.a j) (P.b j) = true then ms κ l (hCall η (P.a j) (P.b j)) κ.nb else η)
  else if P.k j = 1 then (canL η (P.a j) (P.b j) (P.c j), if canL η (P.a j) (P.b j) (P.c j) = true then ms κ l (hLead η (P.a j) (P.b j) (P.c j)) κ.nb else η)
  else if P.k j = 2 then (qPut κ η (P.a j) (P.b j) (P.c j), if qPut κ η (P.a j) (P.b j) (P.c j) = true then hPut η (P.b j) (P.c j) else η)
  else if P.k j = 3 then (qNote κ η (P.a j), if qNote κ η (P.a j) = true then ms κ l (hNote η (P.a j)) κ.nb else η)
  else (qMin η, if qMin η = true then hMin η else η)
def HI (κ : CT) (l : LW) (η : HS) : Prop := HB κ η ∧ WM κ l η ∧ η.mi ≤ 400
theorem HI.ds {κ : CT} {l : LW} {P : PL} {j : Nat} {η : HS} (h : HI κ l η) (b : bas κ P j) : HI κ l (dst κ l P j η).2 := by
  rcases b with b | b | b | b | b
  · rw [show dst κ l P j η = (_, _) from if_pos b.1]
    show HI κ l (if _ then _ else _)
    split
    · rename_i q
      exact ⟨(h.1.call (of_decide_eq_true q).2).ms, ms_wm, h.2.2⟩
    · exact h
  · rw [show dst κ l P j η = (_, _) from (if_neg (by omega)).trans (if_pos b.1)]
    show HI κ l (if _ then _ else _)
    split
    · exact ⟨h.1.lead.ms, ms_wm, h.2.2⟩
    · exact h
  · rw [show dst κ l P j η = (_, _) from (if_neg (by omega)).trans ((if_neg (by omega)).trans (if_pos b.1))]
    show HI κ l (if _ then _ else _)
    split
    · exact ⟨h.1.put, h.2.1.put, h.2.2⟩
    · exact h
  · rw [show dst κ l P j η = (_, _) from (if_neg (by omega)).trans ((if_neg (by omega)).trans ((if_neg (by omega)).trans (if_pos b.1)))]
    show HI κ l (if _ then _ else _)
    split
    · exact ⟨(h.1.note b.2).ms, ms_wm, h.2.2⟩
    · exact h
  · rw [show dst κ l P j η = (_, _) from (if_neg (by omega)).trans ((if_neg (by omega)).trans ((if_neg (by omega)).trans (if_neg (by omega))))]
    show HI κ l (if _ then _ else _)
    split
    · rename_i q
      have q2 : η.mi < 400 := of_decide_eq_true q
      exact ⟨h.1.min1 (by omega), h.2.1.min1, by show η.mi + 1 ≤ 400; omega⟩
    · exact h
def one (κ : CT) (l : LW) (P : PL) (j : Nat) (R : RSt) : RSt := ((dst κ l P j R.1).2, (R.2.1 + 1, if (dst κ l P j R.1).1 = true then R.2.2.1 + 1 else R.2.2.1, if (dst κ l P j R.1).1 = true then R.2.2.2 else R.2.2.2 + 1))
def itn (f : RSt → RSt) : Nat → RSt → RSt
  | 0, R => R
  | k + 1, R => itn f k (f R)
def gsL (sub : Nat → Nat → RSt → RSt) (κ : CT) (l : LW) (P : PL) : Nat → Nat → Nat → RSt → RSt
  | 0, _, _, R => R
  | k + 1, f, t, R => if f < t ∧ R.2.1 < 200 then (if P.k f = 5 then gsL sub κ l P k (P.b f) t (itn (sub (f + 1) (P.b f)) (P.a f) (R.1, (R.2.1 + 1, R.2.2))) else gsL sub κ l P k (f + 1) t (one κ l P f R)) else R
def gs (κ : CT) (l : LW) (P : PL) : Nat → Nat → Nat → RSt → RSt
  | 0 => gsL (fun _ _ R => R) κ l P 150
  | o + 1 => gsL (gs κ l P o) κ l P 150
section GS
variable {κ : CT} {l : LW} {P : PL} {sub : Nat → Nat → RSt → RSt}
theorem gsL_end {k f t : Nat} {R : RSt} (h : ¬ (f < t ∧ R.2.1 < 200)) : gsL sub κ l P k f t R = R := by
  cases k with
  | zero => rfl
  | succ k => exact if_neg h
theorem gsL_agn {k f t : Nat} {R : RSt} (h : f < t ∧ R.2.1 < 200) (h5 : P.k f = 5) : gsL sub κ l P (k + 1) f t R = gsL sub κ l P k (P.b f) t (itn (sub (f + 1) (P.b f)) (P.a f) (R.1, (R.2.1 + 1, R.2.2))) := (if_pos h).trans (if_pos h5)
theorem gsL_one {k f t : Nat} {R : RSt} (h : f < t ∧ R.2.1 < 200) (h5 : ¬ P.k f = 5) : gsL sub κ l P (k + 1) f t R = gsL sub κ l P k (f + 1) t (one κ l P f R) := (if_pos h).trans (if_neg h5)
theorem itn_full {f : RSt → RSt} (hf : ∀ R : RSt, 200 ≤ R.2.1 → f R = R) : ∀ k (R : RSt), 200 ≤ R.2.1 → itn f k R = R
  | 0, _, _ => rfl
  | k + 1, R, h => by
    show itn f k (f R) = R
    rw [hf R h]
    exact itn_full hf k R h
theorem gsL_full {k f t : Nat} {R : RSt} (h : 200 ≤ R.2.1) : gsL sub κ l P k f t R = R := gsL_end (fun z => by omega)
theorem gs_full {o f t : Nat} {R : RSt} (h : 200 ≤ R.2.1) : gs κ l P o f t R = R := by
  cases o with
  | zero => exact gsL_full h
  | succ o => exact gsL_full h
/-- how the work stands -/
def RI2 (κ : CT) (l : LW) (R : RSt) : Prop := HI κ l R.1 ∧ R.2.1 ≤ 200 ∧ R.2.2.1 + R.2.2.2 ≤ R.2.1
theorem RI2.on1 {j : Nat} {R : RSt} (h : RI2 κ l R) (hb_ : R.2.1 < 200) (b : bas κ P j) : RI2 κ l (one κ l P j R) := by
  obtain ⟨h1, h2, h3⟩ := h
  refine ⟨h1.ds b, by show R.2.1 + 1 ≤ 200; omega, ?_⟩
  show (if (dst κ l P j R.1).1 = true then R.2.2.1 + 1 else R.2.2.1) + (if (dst κ l P j R.1).1 = true then R.2.2.2 else R.2.2.2 + 1) ≤ R.2.1 + 1
  split <;> omega
theorem RI2.up {R : RSt} (h : RI2 κ l R) (hb_ : R.2.1 < 200) : RI2 κ l (R.1, (R.2.1 + 1, R.2.2)) := ⟨h.1, by show R.2.1 + 1 ≤ 200; omega, by show R.2.2.1 + R.2.2.2 ≤ R.2.1 + 1; have := h.2.2; omega⟩
theorem bas_5 {j : Nat} (b : bas κ P j) : ¬ P.k j = 5 := by
  rcases b with b | b | b | b | b <;> omega
end GS
/-- the class: how the work stands -/
def RC (κ : CT) (l : LW) (P : PL) (R : RSt) (I : Nat → Nat → Int32) : Prop := PC P I ∧ HC 4 κ I ∧ HL 46 l I ∧ HH 71 R.1 I ∧ I 62 5 = nI R.2.1 ∧ I 62 6 = nI R.2.2.1 ∧ I 62 7 = nI R.2.2.2
def RF (I I' : Nat → Nat → Int32) : Prop := ∀ x, x ≠ 50 → x ≠ 52 → x ≠ 62 → (x < 71 ∨ 81 < x) → I' x = I x
theorem RF.rf {I : Nat → Nat → Int32} : RF I I := fun _ _ _ _ _ => rfl
theorem RF.tr {I I1 I2 : Nat → Nat → Int32} (h : RF I I1) (h2 : RF I1 I2) : RF I I2 := fun x a b c d => (h2 x a b c d).trans (h x a b c d)
theorem RC.mk {κ : CT} {l : LW} {P : PL} {R R2 : RSt} {I I' : Nat → Nat → Int32} (h : RC κ l P R I) (f : RF I I') (e4 : I' 62 4 = I 62 4) (hh : HH 71 R2.1 I') (e5 : I' 62 5 = nI R2.2.1) (e6 : I' 62 6 = nI R2.2.2.1) (e7 : I' 62 7 = nI R2.2.2.2) : RC κ l P R2 I' := ⟨h.1.fr e4 (fun o a b => f o (by omega) (by omega) (by omega) (by omega)), h.2.1.fr (fun x a b => f x (by omega) (by omega) (by omega) (by omega)), h.2.2.1.fr (f 46 (by decide) (by decide) (by decide) (by decide)) (f 48 (by decide) (by decide) (by decide) (by decide)), hh, e5, e6, e7⟩
def CRn (D k : Nat) (κ : CT) (l : LW) (P : PL) (o : Nat) (F : Nat → Nat → RSt → RSt) : Prop := ∀ (d : Nat) (I : Nat → Nat → Int32) (J : Nat → Nat → Int64) (f t : Nat) (R : RSt), D ≤ d → f < 1000 → t ≤ P.m → blk κ P o f t → RI2 κ l R → RC κ l P R I → RU d 72 [.ref 62, .ref 71, .int (nI f), .int (nI t), .int (nI k)] I J (fun I' => RC κ l P (F f t R) I' ∧ RF I I' ∧ RI2 κ l (F f t R))
/-- where a repeating stands -/
def RPI (κ : CT) (l : LW) (P : PL) (F : RSt → RSt) (n : Nat) (R0 : RSt) (I : Nat → Nat → Int32) (i : Nat) (R : RSt) (M : Nat → Nat → Int32) : Prop := RC κ l P R M ∧ RF I M ∧ RI2 κ l R ∧ i ≤ n ∧ itn F (n - i) R = itn F n R0
theorem RPI.fin {κ : CT} {l : LW} {P : PL} {F : RSt → RSt} {n i : Nat} {R0 R : RSt} {I M : Nat → Nat → Int32} (h : RPI κ l P F n R0 I i R M) (hf : ∀ R : RSt, 200 ≤ R.2.1 → F R = R) (e : n ≤ i ∨ 200 ≤ R.2.1) : RC κ l P (itn F n R0) M ∧ RF I M ∧ RI2 κ l (itn F n R0) := by
  obtain ⟨h1, h2, h3, h4, h5⟩ := h
  have z : itn F (n - i) R = R := by
    rcases e with e | e
    · rw [show n - i = 0 by omega]; rfl
    · exact itn_full hf _ R e
  rw [← h5, z]
  exact ⟨h1, h2, h3⟩
theorem RPI.next {κ : CT} {l : LW} {P : PL} {F : RSt → RSt} {n i : Nat} {R0 R : RSt} {I M M2 : Nat → Nat → Int32} (h : RPI κ l P F n R0 I i R M) (hi : i < n) (rc : RC κ l P (F R) M2) (rf : RF M M2) (ri : RI2 κ l (F R)) : RPI κ l P F n R0 I (i + 1) (F R) M2 := by
  obtain ⟨h1, h2, h3, h4, h5⟩ := h
  refine ⟨rc, h2.tr rf, ri, hi, ?_⟩
  rw [← h5, show n - i = n - (i + 1) + 1 by omega]
  rfl
/-- where the doing stands -/
def RNI (κ : CT) (l : LW) (P : PL) (sub : Nat → Nat → RSt → RSt) (f0 t : Nat) (R0 : RSt) (I : Nat → Nat → Int32) (i f : Nat) (R : RSt) (M : Nat → Nat → Int32) : Prop := RC κ l P R M ∧ RF I M ∧ RI2 κ l R ∧ f0 ≤ f ∧ i ≤ 150 ∧ gsL sub κ l P (150 - i) f t R = gsL sub κ l P 150 f0 t R0
theorem RNI.fin {κ : CT} {l : LW} {P : PL} {sub : Nat → Nat → RSt → RSt} {f0 t i f : Nat} {R0 R : RSt} {I M : Nat → Nat → Int32} (h : RNI κ l P sub f0 t R0 I i f R M) (e : 150 ≤ i ∨ ¬ (f < t ∧ R.2.1 < 200)) : RC κ l P (gsL sub κ l P 150 f0 t R0) M ∧ RF I M ∧ RI2 κ l (gsL sub κ l P 150 f0 t R0) := by
  obtain ⟨h1, h2, h3, h4, h5, h6⟩ := h
  have z : gsL sub κ l P (150 - i) f t R = R := by
    rcases e with e | e
    · rw [show 150 - i = 0 by omega]; rfl
    · exact gsL_end e
  rw [← h6, z]
  exact ⟨h1, h2, h3⟩
theorem blk_at {κ : CT} {P : PL} {o f t j : Nat} (h : blk κ P (o + 1) f t) (h1 : f ≤ j) (h2 : j < t) (k5 : P.k j = 5) : P.a j ≤ 40 ∧ j < P.b j ∧ P.b j ≤ t ∧ blk κ P o (j + 1) (P.b j) := by
  rcases h j h1 h2 with b | b
  · exact absurd k5 (bas_5 b)
  · exact b.2
theorem blk_no {κ : CT} {P : PL} {o f t j : Nat} (h : blk κ P o f t) (h1 : f ≤ j) (h2 : j < t) (k5 : ¬ P.k j = 5) : bas κ P j := by
  cases o with
  | zero => exact h j h1 h2
  | succ o =>
    rcases h j h1 h2 with b | b
    · exact b
    · exact absurd b.1 k5
theorem dst_0 {κ : CT} {l : LW} {P : PL} {j : Nat} {η : HS} (h : P.k j = 0) : dst κ l P j η = (qCall η (P.a j) (P.b j), if qCall η (P.a j) (P.b j) = true then ms κ l (hCall η (P.a j) (P.b j)) κ.nb else η) := if_pos h
theorem dst_1 {κ : CT} {l : LW} {P : PL} {j : Nat} {η : HS} (h : P.k j = 1) : dst κ l P j η = (canL η (P.a j) (P.b j) (P.c j), if canL η (P.a j) (P.b j) (P.c j) = true then ms κ l (hLead η (P.a j) (P.b j) (P.c j)) κ.nb else η) := (if_neg (by omega)).trans (if_pos h)
theorem dst_2 {κ : CT} {l : LW} {P : PL} {j : Nat} {η : HS} (h : P.k j = 2) : dst κ l P j η = (qPut κ η (P.a j) (P.b j) (P.c j), if qPut κ η (P.a j) (P.b j) (P.c j) = true then hPut η (P.b j) (P.c j) else η) := (if_neg (by omega)).trans ((if_neg (by omega)).trans (if_pos h))
theorem dst_3 {κ : CT} {l : LW} {P : PL} {j : Nat} {η : HS} (h : P.k j = 3) : dst κ l P j η = (qNote κ η (P.a j), if qNote κ η (P.a j) = true then ms κ l (hNote η (P.a j)) κ.nb else η) := (if_neg (by omega)).trans ((if_neg (by omega)).trans ((if_neg (by omega)).trans (if_pos h)))
theorem dst_4 {κ : CT} {l : LW} {P : PL} {j : Nat} {η : HS} (h : P.k j = 4) : dst κ l P j η = (qMin η, if qMin η = true then hMin η else η) := (if_neg (by omega)).trans ((if_neg (by omega)).trans ((if_neg (by omega)).trans (if_neg (by omega))))
theorem r_X5_doStep_0 : RW M_X5_doStep 0 (.iload_n 1) 1 0 0 1 := ⟨rfl, rfl⟩
theorem r_X5_doStep_1 : RW M_X5_doStep 1 (.tableswitch 62 0 3 #[31, 38, 47, 56]) 31 0 0 32 := ⟨rfl, rfl⟩
theorem r_X5_doStep_32 : RW M_X5_doStep 32 (.aload_n 0) 1 0 0 33 := ⟨rfl, rfl⟩
theorem r_X5_doStep_33 : RW M_X5_doStep 33 (.iload_n 2) 1 0 0 34 := ⟨rfl, rfl⟩
theorem r_X5_doStep_34 : RW M_X5_doStep 34 (.iload_n 3) 1 0 0 35 := ⟨rfl, rfl⟩
theorem r_X5_doStep_35 : RW M_X5_doStep 35 (.invokevirtual 136) 3 42 0 38 := ⟨rfl, rfl⟩
theorem r_X5_doStep_38 : RW M_X5_doStep 38 (.ireturn) 1 0 0 39 := ⟨rfl, rfl⟩
theorem r_X5_doStep_39 : RW M_X5_doStep 39 (.aload_n 0) 1 0 0 40 := ⟨rfl, rfl⟩
theorem r_X5_doStep_40 : RW M_X5_doStep 40 (.iload_n 2) 1 0 0 41 := ⟨rfl, rfl⟩
theorem r_X5_doStep_41 : RW M_X5_doStep 41 (.iload_n 3) 1 0 0 42 := ⟨rfl, rfl⟩
theorem r_X5_doStep_42 : RW M_X5_doStep 42 (.iload 4) 2 0 0 44 := ⟨rfl, rfl⟩
theorem r_X5_doStep_44 : RW M_X5_doStep 44 (.invokevirtual 142) 3 43 0 47 := ⟨rfl, rfl⟩
theorem r_X5_doStep_47 : RW M_X5_doStep 47 (.ireturn) 1 0 0 48 := ⟨rfl, rfl⟩
theorem r_X5_doStep_48 : RW M_X5_doStep 48 (.aload_n 0) 1 0 0 49 := ⟨rfl, rfl⟩
theorem r_X5_doStep_49 : RW M_X5_doStep 49 (.iload_n 2) 1 0 0 50 := ⟨rfl, rfl⟩
theorem r_X5_doStep_50 : RW M_X5_doStep 50 (.iload_n 3) 1 0 0 51 := ⟨rfl, rfl⟩
theorem r_X5_doStep_51 : RW M_X5_doStep 51 (.iload 4) 2 0 0 53 := ⟨rfl, rfl⟩
theorem r_X5_doStep_53 : RW M_X5_doStep 53 (.invokevirtual 146) 3 44 0 56 := ⟨rfl, rfl⟩
theorem r_X5_doStep_56 : RW M_X5_doStep 56 (.ireturn) 1 0 0 57 := ⟨rfl, rfl⟩
theorem r_X5_doStep_57 : RW M_X5_doStep 57 (.aload_n 0) 1 0 0 58 := ⟨rfl, rfl⟩
theorem r_X5_doStep_58 : RW M_X5_doStep 58 (.iload_n 2) 1 0 0 59 := ⟨rfl, rfl⟩
theorem r_X5_doStep_59 : RW M_X5_doStep 59 (.invokevirtual 149) 3 45 0 62 := ⟨rfl, rfl⟩
theorem r_X5_doStep_62 : RW M_X5_doStep 62 (.ireturn) 1 0 0 63 := ⟨rfl, rfl⟩
theorem r_X5_doStep_63 : RW M_X5_doStep 63 (.aload_n 0) 1 0 0 64 := ⟨rfl, rfl⟩
theorem r_X5_doStep_64 : RW M_X5_doStep 64 (.invokevirtual 153) 3 46 0 67 := ⟨rfl, rfl⟩
theorem r_X5_doStep_67 : RW M_X5_doStep 67 (.ireturn) 1 0 0 68 := ⟨rfl, rfl⟩
theorem r_X5_repeat_0 : RW M_X5_repeat 0 (.iconst 0) 1 0 0 1 := ⟨rfl, rfl⟩
theorem r_X5_repeat_1 : RW M_X5_repeat 1 (.istore 4) 2 0 0 3 := ⟨rfl, rfl⟩
theorem r_X5_repeat_3 : RW M_X5_repeat 3 (.iload 4) 2 0 0 5 := ⟨rfl, rfl⟩
theorem r_X5_repeat_5 : RW M_X5_repeat 5 (.aload_n 0) 1 0 0 6 := ⟨rfl, rfl⟩
theorem r_X5_repeat_6 : RW M_X5_repeat 6 (.getfield 20) 3 5 1 9 := ⟨rfl, rfl⟩
theorem r_X5_repeat_9 : RW M_X5_repeat 9 (.iload_n 2) 1 0 0 10 := ⟨rfl, rfl⟩
theorem r_X5_repeat_10 : RW M_X5_repeat 10 (.invokevirtual 120) 3 92 0 13 := ⟨rfl, rfl⟩
theorem r_X5_repeat_13 : RW M_X5_repeat 13 (.if_icmp .ge 43) 3 56 0 16 := ⟨rfl, rfl⟩
theorem r_X5_repeat_16 : RW M_X5_repeat 16 (.iload 4) 2 0 0 18 := ⟨rfl, rfl⟩
theorem r_X5_repeat_18 : RW M_X5_repeat 18 (.bipush 40) 2 0 0 20 := ⟨rfl, rfl⟩
theorem r_X5_repeat_20 : RW M_X5_repeat 20 (.if_icmp .ge 36) 3 56 0 23 := ⟨rfl, rfl⟩
theorem r_X5_repeat_23 : RW M_X5_repeat 23 (.aload_n 0) 1 0 0 24 := ⟨rfl, rfl⟩
theorem r_X5_repeat_24 : RW M_X5_repeat 24 (.getfield 33) 3 5 5 27 := ⟨rfl, rfl⟩
theorem r_X5_repeat_27 : RW M_X5_repeat 27 (.sipush 200) 3 0 0 30 := ⟨rfl, rfl⟩
theorem r_X5_repeat_30 : RW M_X5_repeat 30 (.if_icmp .ge 26) 3 56 0 33 := ⟨rfl, rfl⟩
theorem r_X5_repeat_33 : RW M_X5_repeat 33 (.aload_n 0) 1 0 0 34 := ⟨rfl, rfl⟩
theorem r_X5_repeat_34 : RW M_X5_repeat 34 (.aload_n 1) 1 0 0 35 := ⟨rfl, rfl⟩
theorem r_X5_repeat_35 : RW M_X5_repeat 35 (.iload_n 2) 1 0 0 36 := ⟨rfl, rfl⟩
theorem r_X5_repeat_36 : RW M_X5_repeat 36 (.iconst 1) 1 0 0 37 := ⟨rfl, rfl⟩
theorem r_X5_repeat_37 : RW M_X5_repeat 37 (.iadd) 1 0 0 38 := ⟨rfl, rfl⟩
theorem r_X5_repeat_38 : RW M_X5_repeat 38 (.aload_n 0) 1 0 0 39 := ⟨rfl, rfl⟩
theorem r_X5_repeat_39 : RW M_X5_repeat 39 (.getfield 23) 3 5 2 42 := ⟨rfl, rfl⟩
theorem r_X5_repeat_42 : RW M_X5_repeat 42 (.iload_n 2) 1 0 0 43 := ⟨rfl, rfl⟩
theorem r_X5_repeat_43 : RW M_X5_repeat 43 (.invokevirtual 120) 3 92 0 46 := ⟨rfl, rfl⟩
theorem r_X5_repeat_46 : RW M_X5_repeat 46 (.iload_n 3) 1 0 0 47 := ⟨rfl, rfl⟩
theorem r_X5_repeat_47 : RW M_X5_repeat 47 (.invokevirtual 132) 3 72 0 50 := ⟨rfl, rfl⟩
theorem r_X5_repeat_50 : RW M_X5_repeat 50 (.iinc 4 1) 3 0 0 53 := ⟨rfl, rfl⟩
theorem r_X5_repeat_53 : RW M_X5_repeat 53 (.goto (-50)) 3 3 0 56 := ⟨rfl, rfl⟩
theorem r_X5_repeat_56 : RW M_X5_repeat 56 (.return_) 1 0 0 57 := ⟨rfl, rfl⟩
theorem r_X5_run_0 : RW M_X5_run 0 (.iload_n 2) 1 0 0 1 := ⟨rfl, rfl⟩
theorem r_X5_run_1 : RW M_X5_run 1 (.istore 5) 2 0 0 3 := ⟨rfl, rfl⟩
theorem r_X5_run_3 : RW M_X5_run 3 (.iconst 0) 1 0 0 4 := ⟨rfl, rfl⟩
theorem r_X5_run_4 : RW M_X5_run 4 (.istore 6) 2 0 0 6 := ⟨rfl, rfl⟩
theorem r_X5_run_6 : RW M_X5_run 6 (.iload 6) 2 0 0 8 := ⟨rfl, rfl⟩
theorem r_X5_run_8 : RW M_X5_run 8 (.sipush 150) 3 0 0 11 := ⟨rfl, rfl⟩
theorem r_X5_run_11 : RW M_X5_run 11 (.if_icmp .ge 149) 3 160 0 14 := ⟨rfl, rfl⟩
theorem r_X5_run_14 : RW M_X5_run 14 (.iload 5) 2 0 0 16 := ⟨rfl, rfl⟩
theorem r_X5_run_16 : RW M_X5_run 16 (.iload_n 3) 1 0 0 17 := ⟨rfl, rfl⟩
theorem r_X5_run_17 : RW M_X5_run 17 (.if_icmp .ge 143) 3 160 0 20 := ⟨rfl, rfl⟩
theorem r_X5_run_20 : RW M_X5_run 20 (.aload_n 0) 1 0 0 21 := ⟨rfl, rfl⟩
theorem r_X5_run_21 : RW M_X5_run 21 (.getfield 33) 3 5 5 24 := ⟨rfl, rfl⟩
theorem r_X5_run_24 : RW M_X5_run 24 (.sipush 200) 3 0 0 27 := ⟨rfl, rfl⟩
theorem r_X5_run_27 : RW M_X5_run 27 (.if_icmp .ge 133) 3 160 0 30 := ⟨rfl, rfl⟩
theorem r_X5_run_30 : RW M_X5_run 30 (.iload 4) 2 0 0 32 := ⟨rfl, rfl⟩
theorem r_X5_run_32 : RW M_X5_run 32 (.bipush 6) 2 0 0 34 := ⟨rfl, rfl⟩
theorem r_X5_run_34 : RW M_X5_run 34 (.if_icmp .gt 126) 3 160 0 37 := ⟨rfl, rfl⟩
theorem r_X5_run_37 : RW M_X5_run 37 (.aload_n 0) 1 0 0 38 := ⟨rfl, rfl⟩
theorem r_X5_run_38 : RW M_X5_run 38 (.dup) 1 0 0 39 := ⟨rfl, rfl⟩
theorem r_X5_run_39 : RW M_X5_run 39 (.getfield 33) 3 5 5 42 := ⟨rfl, rfl⟩
theorem r_X5_run_42 : RW M_X5_run 42 (.iconst 1) 1 0 0 43 := ⟨rfl, rfl⟩
theorem r_X5_run_43 : RW M_X5_run 43 (.iadd) 1 0 0 44 := ⟨rfl, rfl⟩
theorem r_X5_run_44 : RW M_X5_run 44 (.putfield 33) 3 5 5 47 := ⟨rfl, rfl⟩
theorem r_X5_run_47 : RW M_X5_run 47 (.aload_n 0) 1 0 0 48 := ⟨rfl, rfl⟩
theorem r_X5_run_48 : RW M_X5_run 48 (.getfield 14) 3 5 0 51 := ⟨rfl, rfl⟩
theorem r_X5_run_51 : RW M_X5_run 51 (.iload 5) 2 0 0 53 := ⟨rfl, rfl⟩
theorem r_X5_run_53 : RW M_X5_run 53 (.invokevirtual 120) 3 92 0 56 := ⟨rfl, rfl⟩
theorem r_X5_run_56 : RW M_X5_run 56 (.iconst 5) 1 0 0 57 := ⟨rfl, rfl⟩
theorem r_X5_run_57 : RW M_X5_run 57 (.if_icmp .ne 28) 3 85 0 60 := ⟨rfl, rfl⟩
theorem r_X5_run_60 : RW M_X5_run 60 (.aload_n 0) 1 0 0 61 := ⟨rfl, rfl⟩
theorem r_X5_run_61 : RW M_X5_run 61 (.aload_n 1) 1 0 0 62 := ⟨rfl, rfl⟩
theorem r_X5_run_62 : RW M_X5_run 62 (.iload 5) 2 0 0 64 := ⟨rfl, rfl⟩
theorem r_X5_run_64 : RW M_X5_run 64 (.iload 4) 2 0 0 66 := ⟨rfl, rfl⟩
theorem r_X5_run_66 : RW M_X5_run 66 (.iconst 1) 1 0 0 67 := ⟨rfl, rfl⟩
theorem r_X5_run_67 : RW M_X5_run 67 (.iadd) 1 0 0 68 := ⟨rfl, rfl⟩
theorem r_X5_run_68 : RW M_X5_run 68 (.invokevirtual 124) 3 73 0 71 := ⟨rfl, rfl⟩
theorem r_X5_run_71 : RW M_X5_run 71 (.aload_n 0) 1 0 0 72 := ⟨rfl, rfl⟩
theorem r_X5_run_72 : RW M_X5_run 72 (.getfield 23) 3 5 2 75 := ⟨rfl, rfl⟩
theorem r_X5_run_75 : RW M_X5_run 75 (.iload 5) 2 0 0 77 := ⟨rfl, rfl⟩
theorem r_X5_run_77 : RW M_X5_run 77 (.invokevirtual 120) 3 92 0 80 := ⟨rfl, rfl⟩
theorem r_X5_run_80 : RW M_X5_run 80 (.istore 5) 2 0 0 82 := ⟨rfl, rfl⟩
theorem r_X5_run_82 : RW M_X5_run 82 (.goto 72) 3 154 0 85 := ⟨rfl, rfl⟩
theorem r_X5_run_85 : RW M_X5_run 85 (.aload_n 1) 1 0 0 86 := ⟨rfl, rfl⟩
theorem r_X5_run_86 : RW M_X5_run 86 (.aload_n 0) 1 0 0 87 := ⟨rfl, rfl⟩
theorem r_X5_run_87 : RW M_X5_run 87 (.getfield 14) 3 5 0 90 := ⟨rfl, rfl⟩
theorem r_X5_run_90 : RW M_X5_run 90 (.iload 5) 2 0 0 92 := ⟨rfl, rfl⟩
theorem r_X5_run_92 : RW M_X5_run 92 (.invokevirtual 120) 3 92 0 95 := ⟨rfl, rfl⟩
theorem r_X5_run_95 : RW M_X5_run 95 (.aload_n 0) 1 0 0 96 := ⟨rfl, rfl⟩
theorem r_X5_run_96 : RW M_X5_run 96 (.getfield 20) 3 5 1 99 := ⟨rfl, rfl⟩
theorem r_X5_run_99 : RW M_X5_run 99 (.iload 5) 2 0 0 101 := ⟨rfl, rfl⟩
theorem r_X5_run_101 : RW M_X5_run 101 (.invokevirtual 120) 3 92 0 104 := ⟨rfl, rfl⟩
theorem r_X5_run_104 : RW M_X5_run 104 (.aload_n 0) 1 0 0 105 := ⟨rfl, rfl⟩
theorem r_X5_run_105 : RW M_X5_run 105 (.getfield 23) 3 5 2 108 := ⟨rfl, rfl⟩
theorem r_X5_run_108 : RW M_X5_run 108 (.iload 5) 2 0 0 110 := ⟨rfl, rfl⟩
theorem r_X5_run_110 : RW M_X5_run 110 (.invokevirtual 120) 3 92 0 113 := ⟨rfl, rfl⟩
theorem r_X5_run_113 : RW M_X5_run 113 (.aload_n 0) 1 0 0 114 := ⟨rfl, rfl⟩
theorem r_X5_run_114 : RW M_X5_run 114 (.getfield 26) 3 5 3 117 := ⟨rfl, rfl⟩
theorem r_X5_run_117 : RW M_X5_run 117 (.iload 5) 2 0 0 119 := ⟨rfl, rfl⟩
theorem r_X5_run_119 : RW M_X5_run 119 (.invokevirtual 120) 3 92 0 122 := ⟨rfl, rfl⟩
theorem r_X5_run_122 : RW M_X5_run 122 (.invokestatic 128) 3 74 0 125 := ⟨rfl, rfl⟩
theorem r_X5_run_125 : RW M_X5_run 125 (.ifCond .eq 16) 3 141 0 128 := ⟨rfl, rfl⟩
theorem r_X5_run_128 : RW M_X5_run 128 (.aload_n 0) 1 0 0 129 := ⟨rfl, rfl⟩
theorem r_X5_run_129 : RW M_X5_run 129 (.dup) 1 0 0 130 := ⟨rfl, rfl⟩
theorem r_X5_run_130 : RW M_X5_run 130 (.getfield 36) 3 5 6 133 := ⟨rfl, rfl⟩
theorem r_X5_run_133 : RW M_X5_run 133 (.iconst 1) 1 0 0 134 := ⟨rfl, rfl⟩
theorem r_X5_run_134 : RW M_X5_run 134 (.iadd) 1 0 0 135 := ⟨rfl, rfl⟩
theorem r_X5_run_135 : RW M_X5_run 135 (.putfield 36) 3 5 6 138 := ⟨rfl, rfl⟩
theorem r_X5_run_138 : RW M_X5_run 138 (.goto 13) 3 151 0 141 := ⟨rfl, rfl⟩
theorem r_X5_run_141 : RW M_X5_run 141 (.aload_n 0) 1 0 0 142 := ⟨rfl, rfl⟩
theorem r_X5_run_142 : RW M_X5_run 142 (.dup) 1 0 0 143 := ⟨rfl, rfl⟩
theorem r_X5_run_143 : RW M_X5_run 143 (.getfield 39) 3 5 7 146 := ⟨rfl, rfl⟩
theorem r_X5_run_146 : RW M_X5_run 146 (.iconst 1) 1 0 0 147 := ⟨rfl, rfl⟩
theorem r_X5_run_147 : RW M_X5_run 147 (.iadd) 1 0 0 148 := ⟨rfl, rfl⟩
theorem r_X5_run_148 : RW M_X5_run 148 (.putfield 39) 3 5 7 151 := ⟨rfl, rfl⟩
theorem r_X5_run_151 : RW M_X5_run 151 (.iinc 5 1) 3 0 0 154 := ⟨rfl, rfl⟩
theorem r_X5_run_154 : RW M_X5_run 154 (.iinc 6 1) 3 0 0 157 := ⟨rfl, rfl⟩
theorem r_X5_run_157 : RW M_X5_run 157 (.goto (-151)) 3 6 0 160 := ⟨rfl, rfl⟩
theorem r_X5_run_160 : RW M_X5_run 160 (.return_) 1 0 0 161 := ⟨rfl, rfl⟩
theorem c_do0 {d : Nat} {I : Nat → Nat → Int32} {J : Nat → Nat → Int64} {κ : CT} {l : LW} {η : HS} (hc_ : HC 4 κ I) (cb : CB κ) (hh : HH 71 η I) (hi : HI κ l η) (hl : HL 46 l I) (lb : LB l) {a b : Nat} {w : Int32} (ha : a < κ.nc) (hb2 : b < κ.nb)  (hd : 8 ≤ d) : RI d 74 [.ref 71, .int (nI 0), .int (nI a), .int (nI b), .int w] I J (fun v I' => v = bI (qCall η a b) ∧ HH 71 (if qCall η a b = true then ms κ l (hCall η a b) κ.nb else η) I' ∧ ∀ x, x ≠ 50 → x ≠ 52 → (x < 71 ∨ 81 < x) → I' x = I x) := by
  refine RI.in (d0 := 7) hd mt_74 (Nat.le_of_ble_eq_true rfl) (fun d' hd' => ?_)
  have nb4 := cb.nb
  have nc4 := cb.nc
  have ns9 := cb.ns
  show EV none M_X5_doStep d' 0 [(0, .ref 71), (1, .int (nI 0)), (2, .int (nI a)), (3, .int (nI b)), (4, .int w)] [] (hp I J) _
  refine EV.l (lv' := [(0, _), (1, _), (2, _), (3, _), (4, _)]) r_X5_doStep_0 rfl ?_
  refine EV.ts (q := 32) r_X5_doStep_1 (by decide +kernel) ?_
  refine EV.l (lv' := [(0, _), (1, _), (2, _), (3, _), (4, _)]) r_X5_doStep_32 rfl ?_
  refine EV.l (lv' := [(0, _), (1, _), (2, _), (3, _), (4, _)]) r_X5_doStep_33 rfl ?_
  refine EV.l (lv' := [(0, _), (1, _), (2, _), (3, _), (4, _)]) r_X5_doStep_34 rfl ?_
  refine EV.ci r_X5_doStep_35 (aV2 mt_42 la_71) (c71_call hc_ cb hh hi.1 hl lb (by omega) (by omega) (by omega)) (fun v2 I2 h2 => ?_)
  obtain ⟨e, hh2, f2⟩ := h2
  subst e
  exact EV.ri r_X5_doStep_38 (⟨rfl, hh2, f2⟩) ret_b
theorem c_do1 {d : Nat} {I : Nat → Nat → Int32} {J : Nat → Nat → Int64} {κ : CT} {l : LW} {η : HS} (hc_ : HC 4 κ I) (cb : CB κ) (hh : HH 71 η I) (hi : HI κ l η) (hl : HL 46 l I) (lb : LB l) {a b c : Nat} (ha : a < κ.nc) (hb2 : b < κ.nb) (hc2 : c ≤ 9)  (hd : 8 ≤ d) : RI d 74 [.ref 71, .int (nI 1), .int (nI a), .int (nI b), .int (nI c)] I J (fun v I' => v = bI (canL η a b c) ∧ HH 71 (if canL η a b c = true then ms κ l (hLead η a b c) κ.nb else η) I' ∧ ∀ x, x ≠ 50 → x ≠ 52 → (x < 71 ∨ 81 < x) → I' x = I x) := by
  refine RI.in (d0 := 7) hd mt_74 (Nat.le_of_ble_eq_true rfl) (fun d' hd' => ?_)
  have nb4 := cb.nb
  have nc4 := cb.nc
  have ns9 := cb.ns
  show EV none M_X5_doStep d' 0 [(0, .ref 71), (1, .int (nI 1)), (2, .int (nI a)), (3, .int (nI b)), (4, .int (nI c))] [] (hp I J) _
  refine EV.l (lv' := [(0, _), (1, _), (2, _), (3, _), (4, _)]) r_X5_doStep_0 rfl ?_
  refine EV.ts (q := 39) r_X5_doStep_1 (by decide +kernel) ?_
  refine EV.l (lv' := [(0, _), (1, _), (2, _), (3, _), (4, _)]) r_X5_doStep_39 rfl ?_
  refine EV.l (lv' := [(0, _), (1, _), (2, _), (3, _), (4, _)]) r_X5_doStep_40 rfl ?_
  refine EV.l (lv' := [(0, _), (1, _), (2, _), (3, _), (4, _)]) r_X5_doStep_41 rfl ?_
  refine EV.l (lv' := [(0, _), (1, _), (2, _), (3, _), (4, _)]) r_X5_doStep_42 rfl ?_
  refine EV.ci r_X5_doStep_44 (aV3 mt_43 la_71) (c71_lead hc_ cb hh hi.1 hl lb (by omega) (by omega) (by omega) (by omega)) (fun v2 I2 h2 => ?_)
  obtain ⟨e, hh2, f2⟩ := h2
  subst e
  exact EV.ri r_X5_doStep_47 (⟨rfl, hh2, f2⟩) ret_b
theorem c_do2 {d : Nat} {I : Nat → Nat → Int32} {J : Nat → Nat → Int64} {κ : CT} {l : LW} {η : HS} (hc_ : HC 4 κ I) (cb : CB κ) (hh : HH 71 η I) (hi : HI κ l η) (hl : HL 46 l I) (lb : LB l) {a b c : Nat} (ha : a < κ.nc) (hb2 : b < κ.ns) (hc2 : c ≤ 9)  (hd : 8 ≤ d) : RI d 74 [.ref 71, .int (nI 2), .int (nI a), .int (nI b), .int (nI c)] I J (fun v I' => v = bI (qPut κ η a b c) ∧ HH 71 (if qPut κ η a b c = true then hPut η b c else η) I' ∧ ∀ x, x ≠ 50 → x ≠ 52 → (x < 71 ∨ 81 < x) → I' x = I x) := by
  refine RI.in (d0 := 7) hd mt_74 (Nat.le_of_ble_eq_true rfl) (fun d' hd' => ?_)
  have nb4 := cb.nb
  have nc4 := cb.nc
  have ns9 := cb.ns
  show EV none M_X5_doStep d' 0 [(0, .ref 71), (1, .int (nI 2)), (2, .int (nI a)), (3, .int (nI b)), (4, .int (nI c))] [] (hp I J) _
  refine EV.l (lv' := [(0, _), (1, _), (2, _), (3, _), (4, _)]) r_X5_doStep_0 rfl ?_
  refine EV.ts (q := 48) r_X5_doStep_1 (by decide +kernel) ?_
  refine EV.l (lv' := [(0, _), (1, _), (2, _), (3, _), (4, _)]) r_X5_doStep_48 rfl ?_
  refine EV.l (lv' := [(0, _), (1, _), (2, _), (3, _), (4, _)]) r_X5_doStep_49 rfl ?_
  refine EV.l (lv' := [(0, _), (1, _), (2, _), (3, _), (4, _)]) r_X5_doStep_50 rfl ?_
  refine EV.l (lv' := [(0, _), (1, _), (2, _), (3, _), (4, _)]) r_X5_doStep_51 rfl ?_
  refine EV.ci r_X5_doStep_53 (aV3 mt_44 la_71) (c71_put hc_ cb hh hi.1 hl lb (by omega) (by omega) (by omega) (by omega)) (fun v2 I2 h2 => ?_)
  obtain ⟨e, hh2, f2⟩ := h2
  subst e
  exact EV.ri r_X5_doStep_56 (⟨rfl, hh2, fun x _ _ p => f2 x p⟩) ret_b
theorem c_do3 {d : Nat} {I : Nat → Nat → Int32} {J : Nat → Nat → Int64} {κ : CT} {l : LW} {η : HS} (hc_ : HC 4 κ I) (cb : CB κ) (hh : HH 71 η I) (hi : HI κ l η) (hl : HL 46 l I) (lb : LB l) {a : Nat} {v w : Int32} (ha : a < κ.ns)  (hd : 8 ≤ d) : RI d 74 [.ref 71, .int (nI 3), .int (nI a), .int v, .int w] I J (fun v I' => v = bI (qNote κ η a) ∧ HH 71 (if qNote κ η a = true then ms κ l (hNote η a) κ.nb else η) I' ∧ ∀ x, x ≠ 50 → x ≠ 52 → (x < 71 ∨ 81 < x) → I' x = I x) := by
  refine RI.in (d0 := 7) hd mt_74 (Nat.le_of_ble_eq_true rfl) (fun d' hd' => ?_)
  have nb4 := cb.nb
  have nc4 := cb.nc
  have ns9 := cb.ns
  show EV none M_X5_doStep d' 0 [(0, .ref 71), (1, .int (nI 3)), (2, .int (nI a)), (3, .int v), (4, .int w)] [] (hp I J) _
  refine EV.l (lv' := [(0, _), (1, _), (2, _), (3, _), (4, _)]) r_X5_doStep_0 rfl ?_
  refine EV.ts (q := 57) r_X5_doStep_1 (by decide +kernel) ?_
  refine EV.l (lv' := [(0, _), (1, _), (2, _), (3, _), (4, _)]) r_X5_doStep_57 rfl ?_
  refine EV.l (lv' := [(0, _), (1, _), (2, _), (3, _), (4, _)]) r_X5_doStep_58 rfl ?_
  refine EV.ci r_X5_doStep_59 (aV1 mt_45 la_71) (c71_note hc_ cb hh hi.1 hl lb hi.2.1.hw ha (by omega)) (fun v2 I2 h2 => ?_)
  obtain ⟨e, hh2, f2⟩ := h2
  subst e
  exact EV.ri r_X5_doStep_62 (⟨rfl, hh2, f2⟩) ret_b
theorem c_do4 {d : Nat} {I : Nat → Nat → Int32} {J : Nat → Nat → Int64} {κ : CT} {l : LW} {η : HS} (hc_ : HC 4 κ I) (cb : CB κ) (hh : HH 71 η I) (hi : HI κ l η) (hl : HL 46 l I) (lb : LB l) {u v w : Int32}  (hd : 8 ≤ d) : RI d 74 [.ref 71, .int (nI 4), .int u, .int v, .int w] I J (fun v I' => v = bI (qMin η) ∧ HH 71 (if qMin η = true then hMin η else η) I' ∧ ∀ x, x ≠ 50 → x ≠ 52 → (x < 71 ∨ 81 < x) → I' x = I x) := by
  refine RI.in (d0 := 7) hd mt_74 (Nat.le_of_ble_eq_true rfl) (fun d' hd' => ?_)
  have nb4 := cb.nb
  have nc4 := cb.nc
  have ns9 := cb.ns
  show EV none M_X5_doStep d' 0 [(0, .ref 71), (1, .int (nI 4)), (2, .int u), (3, .int v), (4, .int w)] [] (hp I J) _
  refine EV.l (lv' := [(0, _), (1, _), (2, _), (3, _), (4, _)]) r_X5_doStep_0 rfl ?_
  refine EV.ts (q := 63) r_X5_doStep_1 (by decide +kernel) ?_
  refine EV.l (lv' := [(0, _), (1, _), (2, _), (3, _), (4, _)]) r_X5_doStep_63 rfl ?_
  refine EV.ci r_X5_doStep_64 (aV0 mt_46 la_71) (c71_min hh hi.1 (by omega)) (fun v2 I2 h2 => ?_)
  obtain ⟨e, hh2, f2⟩ := h2
  subst e
  exact EV.ri r_X5_doStep_67 (⟨rfl, hh2, fun x _ _ p => f2 x p⟩) ret_b
theorem c_rep {d : Nat} {I : Nat → Nat → Int32} {J : Nat → Nat → Int64} {κ : CT} {l : LW} {P : PL} {j k o D : Nat} {F : Nat → Nat → RSt → RSt} {R : RSt} (cb : CB κ) (lb : LB l) (hj : j < P.m) (hm : P.m < 100) (h5 : P.k j = 5) (ha : P.a j ≤ 40) (hb1 : j < P.b j) (hbt : P.b j ≤ P.m) (bl : blk κ P o (j + 1) (P.b j)) (hD : 2 ≤ D) (hf : ∀ f t (R : RSt), 200 ≤ R.2.1 → F f t R = R) (ih : CRn D k κ l P o F) (ri : RI2 κ l R) (rc : RC κ l P R I)  (hd : D + 1 ≤ d) : RU d 73 [.ref 62, .ref 71, .int (nI j), .int (nI k)] I J (fun I' => RC κ l P (itn (F (j + 1) (P.b j)) (P.a j) R) I' ∧ RF I I' ∧ RI2 κ l (itn (F (j + 1) (P.b j)) (P.a j) R)) := by
  refine RU.in (d0 := D) hd mt_73 (Nat.le_of_ble_eq_true rfl) (fun d' hd' => ?_)
  show EV none M_X5_repeat d' 0 [(0, .ref 62), (1, .ref 71), (2, .int (nI j)), (3, .int (nI k))] [] (hp I J) _
  refine EV.o r_X5_repeat_0 (icN (0) (v := 0)) ?_
  refine EV.l (lv' := [(0, _), (1, _), (2, _), (3, _), (4, _)]) r_X5_repeat_1 rfl ?_
  have L3 : ∀ y_ : Nat × RSt × (Nat → Nat → Int32), (fun y => RPI κ l P (F (j + 1) (P.b j)) (P.a j) R I y.1 y.2.1 y.2.2 → EV none M_X5_repeat d' 3 [(0, .ref 62), (1, .ref 71), (2, .int (nI j)), (3, .int (nI k)), (4, .int (nI y.1))] [] (hp y.2.2 J) (QU J (fun I' => RC κ l P (itn (F (j + 1) (P.b j)) (P.a j) R) I' ∧ RF I I' ∧ RI2 κ l (itn (F (j + 1) (P.b j)) (P.a j) R)))) y_ := by
    refine ev_loop (fun y => P.a j - y.1) ?_
    intro ⟨i, T, M⟩ ih3 hx3
    try dsimp only at ih3
    try dsimp only at hx3
    try dsimp only
    have ia := hx3.2.2.2.1
    have b2 := hx3.2.2.1.2.1
    refine EV.l (lv' := [(0, _), (1, _), (2, _), (3, _), (4, _)]) r_X5_repeat_3 rfl ?_
    refine EV.l (lv' := [(0, _), (1, _), (2, _), (3, _), (4, _)]) r_X5_repeat_5 rfl ?_
    refine EV.gR r_X5_repeat_6 la_62 ?_
    refine EV.l (lv' := [(0, _), (1, _), (2, _), (3, _), (4, _)]) r_X5_repeat_9 rfl ?_
    refine EV.cv r_X5_repeat_10 (aV1 mt_92 la_65) (c_getN (by omega) la_65 la_66 ((hx3.1.1.2 j hj).2.1 (by omega))) ?_
    refine EV.n2_ge r_X5_repeat_13 (fun h13 => ?_) (fun h13 => ?_)
    · -- 13 t
      have fz := hx3.fin (hf _ _) (Or.inl (by omega))
      exact EV.ru r_X5_repeat_56 (fz)
    · -- 13 f
      refine EV.l (lv' := [(0, _), (1, _), (2, _), (3, _), (4, _)]) r_X5_repeat_16 rfl ?_
      refine EV.o r_X5_repeat_18 (bpN (40) 40) ?_
      refine EV.n2_ge r_X5_repeat_20 (fun h20 => ?_) (fun h20 => ?_)
      · omega
      · -- 20 f
        refine EV.l (lv' := [(0, _), (1, _), (2, _), (3, _), (4, _)]) r_X5_repeat_23 rfl ?_
        refine EV.getV r_X5_repeat_24 la_62 (hx3.1.2.2.2.2.1) ?_
        refine EV.o r_X5_repeat_27 (spN (200) 200) ?_
        refine EV.n2_ge r_X5_repeat_30 (fun h30 => ?_) (fun h30 => ?_)
        · -- 30 t
          have fz := hx3.fin (hf _ _) (Or.inr (by omega))
          exact EV.ru r_X5_repeat_56 (fz)
        · -- 30 f
          refine EV.l (lv' := [(0, _), (1, _), (2, _), (3, _), (4, _)]) r_X5_repeat_33 rfl ?_
          refine EV.l (lv' := [(0, _), (1, _), (2, _), (3, _), (4, _)]) r_X5_repeat_34 rfl ?_
          refine EV.l (lv' := [(0, _), (1, _), (2, _), (3, _), (4, _)]) r_X5_repeat_35 rfl ?_
          refine EV.o r_X5_repeat_36 (icN (1) (v := 1)) ?_
          refine EV.o r_X5_repeat_37 iaddN ?_
          refine EV.l (lv' := [(0, _), (1, _), (2, _), (3, _), (4, _)]) r_X5_repeat_38 rfl ?_
          refine EV.gR r_X5_repeat_39 la_62 ?_
          refine EV.l (lv' := [(0, _), (1, _), (2, _), (3, _), (4, _)]) r_X5_repeat_42 rfl ?_
          refine EV.cv r_X5_repeat_43 (aV1 mt_92 la_67) (c_getN (by omega) la_67 la_68 ((hx3.1.1.2 j hj).2.2.1 (Or.inr ⟨h5, by omega⟩))) ?_
          refine EV.l (lv' := [(0, _), (1, _), (2, _), (3, _), (4, _)]) r_X5_repeat_46 rfl ?_
          refine EV.cu r_X5_repeat_47 (aV4 mt_72 la_62) (ih d' M J (j + 1) (P.b j) T (by omega) (by omega) hbt bl hx3.2.2.1 hx3.1) (fun I2 h2 => ?_)
          have hx9 := hx3.next (by omega) h2.1 h2.2.1 h2.2.2
          refine EV.l (lv' := [(0, _), (1, _), (2, _), (3, _), (4, _)]) r_X5_repeat_50 rfl ?_
          rw [inc_nI]
          refine EV.g r_X5_repeat_53 ?_
          refine EV.sub ?_ rfl ?_ (ih3 (i + 1, F (j + 1) (P.b j) T, I2) ?_ ?_)
          · (try dsimp only) <;> (rfl)
          · (try dsimp only) <;> (rfl)
          · (try dsimp only) <;> (omega)
          · (try dsimp only) <;> (exact hx9)
  have h0 := L3 (0, R, I)
  try dsimp only at h0
  refine EV.sub ?_ rfl ?_ (h0 ?_)
  · (try dsimp only) <;> (rfl)
  · (try dsimp only) <;> (rfl)
  · (try dsimp only) <;> (exact ⟨rc, RF.rf, ri, Nat.zero_le _, rfl⟩)
