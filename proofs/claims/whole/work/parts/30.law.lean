/-! The LAW: what its operations and its parts come to. -/
section RJ
variable {sc : Option (Nat × (Nat → Int32))} {M : MI} {d pc : Nat} {lv : LV} {st : List Value} {G : AH} {Q : (Option Value ⊕ Nat) → AH → Nat → Prop}
theorem EV.ts {dd lo hi : Int} {offs : Array Int} {len a b q pq : Nat} {x : Int32} (hr : RW M pc (.tableswitch dd lo hi offs) len a b pq) (h : swT pc dd lo hi offs x = some q) (k : EV sc M d q lv st G Q) : EV sc M d pc lv (.int x :: st) G Q := EV.to hr.1 (by show (match swT pc dd lo hi offs x with | some q => some (q, st) | none => none) = _; rw [h]) k
theorem EV.r2_eq {o : Int} {a b pq : Nat} {x y : Int32} (hr : RW M pc (.if_icmp .eq o) 3 a b pq) (kt : x = y → EV sc M d a lv st G Q) (kf : ¬ (x = y) → EV sc M d pq lv st G Q) : EV sc M d pc lv (.int y :: .int x :: st) G Q := EV.if2 (p := x = y) hr.1 Iff.rfl kt (fun h => hr.2.symm ▸ kf h)
theorem EV.r0_eq {o : Int} {a b pq : Nat} {x : Int32} (hr : RW M pc (.ifCond .eq o) 3 a b pq) (kt : x = 0 → EV sc M d a lv st G Q) (kf : ¬ (x = 0) → EV sc M d pq lv st G Q) : EV sc M d pc lv (.int x :: st) G Q := EV.if0 (p := x = 0) hr.1 Iff.rfl kt (fun h => hr.2.symm ▸ kf h)
theorem EV.r2_ne {o : Int} {a b pq : Nat} {x y : Int32} (hr : RW M pc (.if_icmp .ne o) 3 a b pq) (kt : ¬ x = y → EV sc M d a lv st G Q) (kf : ¬ (¬ x = y) → EV sc M d pq lv st G Q) : EV sc M d pc lv (.int y :: .int x :: st) G Q := EV.if2 (p := ¬ x = y) hr.1 Iff.rfl kt (fun h => hr.2.symm ▸ kf h)
theorem EV.r0_ne {o : Int} {a b pq : Nat} {x : Int32} (hr : RW M pc (.ifCond .ne o) 3 a b pq) (kt : ¬ x = 0 → EV sc M d a lv st G Q) (kf : ¬ (¬ x = 0) → EV sc M d pq lv st G Q) : EV sc M d pc lv (.int x :: st) G Q := EV.if0 (p := ¬ x = 0) hr.1 Iff.rfl kt (fun h => hr.2.symm ▸ kf h)
theorem EV.r2_lt {o : Int} {a b pq : Nat} {x y : Int32} (hr : RW M pc (.if_icmp .lt o) 3 a b pq) (kt : x < y → EV sc M d a lv st G Q) (kf : ¬ (x < y) → EV sc M d pq lv st G Q) : EV sc M d pc lv (.int y :: .int x :: st) G Q := EV.if2 (p := x < y) hr.1 Iff.rfl kt (fun h => hr.2.symm ▸ kf h)
theorem EV.r0_lt {o : Int} {a b pq : Nat} {x : Int32} (hr : RW M pc (.ifCond .lt o) 3 a b pq) (kt : x < 0 → EV sc M d a lv st G Q) (kf : ¬ (x < 0) → EV sc M d pq lv st G Q) : EV sc M d pc lv (.int x :: st) G Q := EV.if0 (p := x < 0) hr.1 Iff.rfl kt (fun h => hr.2.symm ▸ kf h)
theorem EV.r2_ge {o : Int} {a b pq : Nat} {x y : Int32} (hr : RW M pc (.if_icmp .ge o) 3 a b pq) (kt : y ≤ x → EV sc M d a lv st G Q) (kf : ¬ (y ≤ x) → EV sc M d pq lv st G Q) : EV sc M d pc lv (.int y :: .int x :: st) G Q := EV.if2 (p := y ≤ x) hr.1 Iff.rfl kt (fun h => hr.2.symm ▸ kf h)
theorem EV.r0_ge {o : Int} {a b pq : Nat} {x : Int32} (hr : RW M pc (.ifCond .ge o) 3 a b pq) (kt : 0 ≤ x → EV sc M d a lv st G Q) (kf : ¬ (0 ≤ x) → EV sc M d pq lv st G Q) : EV sc M d pc lv (.int x :: st) G Q := EV.if0 (p := 0 ≤ x) hr.1 Iff.rfl kt (fun h => hr.2.symm ▸ kf h)
theorem EV.r2_gt {o : Int} {a b pq : Nat} {x y : Int32} (hr : RW M pc (.if_icmp .gt o) 3 a b pq) (kt : y < x → EV sc M d a lv st G Q) (kf : ¬ (y < x) → EV sc M d pq lv st G Q) : EV sc M d pc lv (.int y :: .int x :: st) G Q := EV.if2 (p := y < x) hr.1 Iff.rfl kt (fun h => hr.2.symm ▸ kf h)
theorem EV.r0_gt {o : Int} {a b pq : Nat} {x : Int32} (hr : RW M pc (.ifCond .gt o) 3 a b pq) (kt : 0 < x → EV sc M d a lv st G Q) (kf : ¬ (0 < x) → EV sc M d pq lv st G Q) : EV sc M d pc lv (.int x :: st) G Q := EV.if0 (p := 0 < x) hr.1 Iff.rfl kt (fun h => hr.2.symm ▸ kf h)
theorem EV.r2_le {o : Int} {a b pq : Nat} {x y : Int32} (hr : RW M pc (.if_icmp .le o) 3 a b pq) (kt : x ≤ y → EV sc M d a lv st G Q) (kf : ¬ (x ≤ y) → EV sc M d pq lv st G Q) : EV sc M d pc lv (.int y :: .int x :: st) G Q := EV.if2 (p := x ≤ y) hr.1 Iff.rfl kt (fun h => hr.2.symm ▸ kf h)
theorem EV.r0_le {o : Int} {a b pq : Nat} {x : Int32} (hr : RW M pc (.ifCond .le o) 3 a b pq) (kt : x ≤ 0 → EV sc M d a lv st G Q) (kf : ¬ (x ≤ 0) → EV sc M d pq lv st G Q) : EV sc M d pc lv (.int x :: st) G Q := EV.if0 (p := x ≤ 0) hr.1 Iff.rfl kt (fun h => hr.2.symm ▸ kf h)
end RJ
def apI (w : Nat) (a b : Int32) : Int32 :=
  if w = 2 then a + b else if w = 3 then a - b else if w = 4 then a * b else
  if w = 5 then (if b = 0 then 0 else a / b) else if w = 8 then (if b = 0 then 0 else a - a / b * b) else
  if w = 6 then (if a < b then a else b) else (if a < b then b else a)
def opc (w : Nat) : Int := if w = 8 then -15 else if w = 6 then -16 else if w = 7 then -17 else -9 - (w : Int)
def LW : Type := (Nat) × (Nat → Nat) × (Nat → Nat)
def LW.n (x : LW) : Nat := x.1
def LW.what (x : LW) : Nat → Nat := x.2.1
def LW.of (x : LW) : Nat → Nat := x.2.2
def LW.mk (n : Nat) (what : Nat → Nat) (of : Nat → Nat) : LW := (n, what, of)
def dep (l : LW) : Nat → Nat
  | 0 => 0
  | k + 1 => if l.what k ≤ 1 then dep l k + 1 else dep l k - 1
def upd1 (g : Nat → Int32) (j : Nat) (v : Int32) : Nat → Int32 := fun i => if i = j then v else g i
def evl (l : LW) (f : Nat → Int32) : Nat → Nat → Int32
  | 0 => fun _ => 0
  | k + 1 => if l.what k = 0 then upd1 (evl l f k) (dep l k) (nI (l.of k)) else
    if l.what k = 1 then upd1 (evl l f k) (dep l k) (f (l.of k)) else
    upd1 (evl l f k) (dep l k - 2) (apI (l.what k) (evl l f k (dep l k - 2)) (evl l f k (dep l k - 1)))
def LB (l : LW) : Prop := (1 ≤ l.n) ∧ (l.n ≤ 150) ∧ (∀ k, k < l.n → l.what k ≤ 8) ∧ (∀ k, k < l.n → l.what k = 0 → l.of k ≤ 999) ∧ (∀ k, k < l.n → l.what k = 1 → l.of k < 6) ∧ (∀ k, k < l.n → 2 ≤ l.what k → 2 ≤ dep l k) ∧ (1 ≤ dep l l.n)
theorem LB.n0 {l : LW} (h_ : LB l) : 1 ≤ l.n := h_.1
theorem LB.n {l : LW} (h_ : LB l) : l.n ≤ 150 := h_.2.1
theorem LB.w {l : LW} (h_ : LB l) : ∀ k, k < l.n → l.what k ≤ 8 := h_.2.2.1
theorem LB.o0 {l : LW} (h_ : LB l) : ∀ k, k < l.n → l.what k = 0 → l.of k ≤ 999 := h_.2.2.2.1
theorem LB.o1 {l : LW} (h_ : LB l) : ∀ k, k < l.n → l.what k = 1 → l.of k < 6 := h_.2.2.2.2.1
theorem LB.d2 {l : LW} (h_ : LB l) : ∀ k, k < l.n → 2 ≤ l.what k → 2 ≤ dep l k := h_.2.2.2.2.2.1
theorem LB.de {l : LW} (h_ : LB l) : 1 ≤ dep l l.n := h_.2.2.2.2.2.2
def ck (v : Int32) : Nat := if v.toInt < 1 then 1 else if 40 < v.toInt then 40 else v.toInt.toNat
def wkf (l : LW) (f : Nat → Int32) : Nat := ck (evl l f l.n 0)
theorem ck_le (v : Int32) : 1 ≤ ck v ∧ ck v ≤ 40 := by
  unfold ck
  split
  · omega
  · split <;> omega
theorem wkf_le (l : LW) (f : Nat → Int32) : 1 ≤ wkf l f ∧ wkf l f ≤ 40 := ck_le _
theorem dep_le (l : LW) : ∀ k, dep l k ≤ k
  | 0 => Nat.le_refl _
  | k + 1 => by
    have := dep_le l k
    unfold dep
    split <;> omega
theorem mostI (a b : Int32) : (if b < a then a else b) = if a < b then b else a := by
  by_cases h : a < b
  · rw [if_pos h, if_neg (fun z => by rw [Int32.lt_iff_toInt_lt] at h z; omega)]
  · rw [if_neg h]
    by_cases h2 : b < a
    · rw [if_pos h2]
    · rw [if_neg h2]
      apply Int32.toInt_inj.mp
      rw [Int32.lt_iff_toInt_lt] at h h2
      omega
section AP
variable {a b : Int32}
theorem i_nlt (h : b ≤ a) : ¬ a < b := fun z => by rw [Int32.lt_iff_toInt_lt] at z; rw [Int32.le_iff_toInt_le] at h; omega
theorem i_lt (h : ¬ b ≤ a) : a < b := by rw [Int32.lt_iff_toInt_lt]; rw [Int32.le_iff_toInt_le] at h; omega
theorem ap5_0 (h : ¬ ¬ b = 0) : nI 0 = apI 5 a b := (if_pos (Decidable.not_not.mp h)).symm
theorem ap5_1 (h : ¬ b = 0) : a / b = apI 5 a b := (if_neg h).symm
theorem ap8_0 (h : ¬ ¬ b = 0) : nI 0 = apI 8 a b := (if_pos (Decidable.not_not.mp h)).symm
theorem ap8_1 (h : ¬ b = 0) : a - a / b * b = apI 8 a b := (if_neg h).symm
theorem ap6_t (h : ¬ b ≤ a) : a = apI 6 a b := (if_pos (i_lt h)).symm
theorem ap6_f (h : b ≤ a) : b = apI 6 a b := (if_neg (i_nlt h)).symm
theorem ap7_f (h : b ≤ a) : a = apI 7 a b := (if_neg (i_nlt h)).symm
theorem ap7_t (h : ¬ b ≤ a) : b = apI 7 a b := (if_pos (i_lt h)).symm
theorem ap7_d (h : a ≤ b) : b = apI 7 a b := Eq.trans (if_neg (i_nlt h)).symm (mostI a b)
theorem ap7_e (h : ¬ a ≤ b) : a = apI 7 a b := Eq.trans (if_pos (i_lt h)).symm (mostI a b)
end AP
theorem r_X11_both_0 : RW M_X11_both 0 (.iload_n 0) 1 0 0 1 := ⟨rfl, rfl⟩
theorem r_X11_both_1 : RW M_X11_both 1 (.iconst 2) 1 0 0 2 := ⟨rfl, rfl⟩
theorem r_X11_both_2 : RW M_X11_both 2 (.if_icmp .ne 7) 3 9 0 5 := ⟨rfl, rfl⟩
theorem r_X11_both_5 : RW M_X11_both 5 (.iload_n 1) 1 0 0 6 := ⟨rfl, rfl⟩
theorem r_X11_both_6 : RW M_X11_both 6 (.iload_n 2) 1 0 0 7 := ⟨rfl, rfl⟩
theorem r_X11_both_7 : RW M_X11_both 7 (.iadd) 1 0 0 8 := ⟨rfl, rfl⟩
theorem r_X11_both_8 : RW M_X11_both 8 (.ireturn) 1 0 0 9 := ⟨rfl, rfl⟩
theorem r_X11_both_9 : RW M_X11_both 9 (.iload_n 0) 1 0 0 10 := ⟨rfl, rfl⟩
theorem r_X11_both_10 : RW M_X11_both 10 (.iconst 3) 1 0 0 11 := ⟨rfl, rfl⟩
theorem r_X11_both_11 : RW M_X11_both 11 (.if_icmp .ne 7) 3 18 0 14 := ⟨rfl, rfl⟩
theorem r_X11_both_14 : RW M_X11_both 14 (.iload_n 1) 1 0 0 15 := ⟨rfl, rfl⟩
theorem r_X11_both_15 : RW M_X11_both 15 (.iload_n 2) 1 0 0 16 := ⟨rfl, rfl⟩
theorem r_X11_both_16 : RW M_X11_both 16 (.isub) 1 0 0 17 := ⟨rfl, rfl⟩
theorem r_X11_both_17 : RW M_X11_both 17 (.ireturn) 1 0 0 18 := ⟨rfl, rfl⟩
theorem r_X11_both_18 : RW M_X11_both 18 (.iload_n 0) 1 0 0 19 := ⟨rfl, rfl⟩
theorem r_X11_both_19 : RW M_X11_both 19 (.iconst 4) 1 0 0 20 := ⟨rfl, rfl⟩
theorem r_X11_both_20 : RW M_X11_both 20 (.if_icmp .ne 7) 3 27 0 23 := ⟨rfl, rfl⟩
theorem r_X11_both_23 : RW M_X11_both 23 (.iload_n 1) 1 0 0 24 := ⟨rfl, rfl⟩
theorem r_X11_both_24 : RW M_X11_both 24 (.iload_n 2) 1 0 0 25 := ⟨rfl, rfl⟩
theorem r_X11_both_25 : RW M_X11_both 25 (.imul) 1 0 0 26 := ⟨rfl, rfl⟩
theorem r_X11_both_26 : RW M_X11_both 26 (.ireturn) 1 0 0 27 := ⟨rfl, rfl⟩
theorem r_X11_both_27 : RW M_X11_both 27 (.iload_n 0) 1 0 0 28 := ⟨rfl, rfl⟩
theorem r_X11_both_28 : RW M_X11_both 28 (.iconst 5) 1 0 0 29 := ⟨rfl, rfl⟩
theorem r_X11_both_29 : RW M_X11_both 29 (.if_icmp .eq 9) 3 38 0 32 := ⟨rfl, rfl⟩
theorem r_X11_both_32 : RW M_X11_both 32 (.iload_n 0) 1 0 0 33 := ⟨rfl, rfl⟩
theorem r_X11_both_33 : RW M_X11_both 33 (.bipush 8) 2 0 0 35 := ⟨rfl, rfl⟩
theorem r_X11_both_35 : RW M_X11_both 35 (.if_icmp .ne 26) 3 61 0 38 := ⟨rfl, rfl⟩
theorem r_X11_both_38 : RW M_X11_both 38 (.iload_n 2) 1 0 0 39 := ⟨rfl, rfl⟩
theorem r_X11_both_39 : RW M_X11_both 39 (.ifCond .ne 7) 3 46 0 42 := ⟨rfl, rfl⟩
theorem r_X11_both_42 : RW M_X11_both 42 (.iconst 0) 1 0 0 43 := ⟨rfl, rfl⟩
theorem r_X11_both_43 : RW M_X11_both 43 (.goto 17) 3 60 0 46 := ⟨rfl, rfl⟩
theorem r_X11_both_46 : RW M_X11_both 46 (.iload_n 0) 1 0 0 47 := ⟨rfl, rfl⟩
theorem r_X11_both_47 : RW M_X11_both 47 (.iconst 5) 1 0 0 48 := ⟨rfl, rfl⟩
theorem r_X11_both_48 : RW M_X11_both 48 (.if_icmp .ne 9) 3 57 0 51 := ⟨rfl, rfl⟩
theorem r_X11_both_51 : RW M_X11_both 51 (.iload_n 1) 1 0 0 52 := ⟨rfl, rfl⟩
theorem r_X11_both_52 : RW M_X11_both 52 (.iload_n 2) 1 0 0 53 := ⟨rfl, rfl⟩
theorem r_X11_both_53 : RW M_X11_both 53 (.idiv) 1 0 0 54 := ⟨rfl, rfl⟩
theorem r_X11_both_54 : RW M_X11_both 54 (.goto 6) 3 60 0 57 := ⟨rfl, rfl⟩
theorem r_X11_both_57 : RW M_X11_both 57 (.iload_n 1) 1 0 0 58 := ⟨rfl, rfl⟩
theorem r_X11_both_58 : RW M_X11_both 58 (.iload_n 2) 1 0 0 59 := ⟨rfl, rfl⟩
theorem r_X11_both_59 : RW M_X11_both 59 (.irem) 1 0 0 60 := ⟨rfl, rfl⟩
theorem r_X11_both_60 : RW M_X11_both 60 (.ireturn) 1 0 0 61 := ⟨rfl, rfl⟩
theorem r_X11_both_61 : RW M_X11_both 61 (.iload_n 1) 1 0 0 62 := ⟨rfl, rfl⟩
theorem r_X11_both_62 : RW M_X11_both 62 (.iload_n 2) 1 0 0 63 := ⟨rfl, rfl⟩
theorem r_X11_both_63 : RW M_X11_both 63 (.if_icmp .ge 7) 3 70 0 66 := ⟨rfl, rfl⟩
theorem r_X11_both_66 : RW M_X11_both 66 (.iconst 1) 1 0 0 67 := ⟨rfl, rfl⟩
theorem r_X11_both_67 : RW M_X11_both 67 (.goto 4) 3 71 0 70 := ⟨rfl, rfl⟩
theorem r_X11_both_70 : RW M_X11_both 70 (.iconst 0) 1 0 0 71 := ⟨rfl, rfl⟩
theorem r_X11_both_71 : RW M_X11_both 71 (.iload_n 0) 1 0 0 72 := ⟨rfl, rfl⟩
theorem r_X11_both_72 : RW M_X11_both 72 (.bipush 6) 2 0 0 74 := ⟨rfl, rfl⟩
theorem r_X11_both_74 : RW M_X11_both 74 (.if_icmp .ne 7) 3 81 0 77 := ⟨rfl, rfl⟩
theorem r_X11_both_77 : RW M_X11_both 77 (.iconst 1) 1 0 0 78 := ⟨rfl, rfl⟩
theorem r_X11_both_78 : RW M_X11_both 78 (.goto 4) 3 82 0 81 := ⟨rfl, rfl⟩
theorem r_X11_both_81 : RW M_X11_both 81 (.iconst 0) 1 0 0 82 := ⟨rfl, rfl⟩
theorem r_X11_both_82 : RW M_X11_both 82 (.if_icmp .ne 7) 3 89 0 85 := ⟨rfl, rfl⟩
theorem r_X11_both_85 : RW M_X11_both 85 (.iload_n 1) 1 0 0 86 := ⟨rfl, rfl⟩
theorem r_X11_both_86 : RW M_X11_both 86 (.goto 4) 3 90 0 89 := ⟨rfl, rfl⟩
theorem r_X11_both_89 : RW M_X11_both 89 (.iload_n 2) 1 0 0 90 := ⟨rfl, rfl⟩
theorem r_X11_both_90 : RW M_X11_both 90 (.ireturn) 1 0 0 91 := ⟨rfl, rfl⟩
theorem r_X3_apply_0 : RW M_X3_apply 0 (.iload_n 0) 1 0 0 1 := ⟨rfl, rfl⟩
theorem r_X3_apply_1 : RW M_X3_apply 1 (.tableswitch 86 (-16) (-11) #[75, 63, 51, 47, 43, 39]) 39 0 0 40 := ⟨rfl, rfl⟩
theorem r_X3_apply_40 : RW M_X3_apply 40 (.iload_n 1) 1 0 0 41 := ⟨rfl, rfl⟩
theorem r_X3_apply_41 : RW M_X3_apply 41 (.iload_n 2) 1 0 0 42 := ⟨rfl, rfl⟩
theorem r_X3_apply_42 : RW M_X3_apply 42 (.iadd) 1 0 0 43 := ⟨rfl, rfl⟩
theorem r_X3_apply_43 : RW M_X3_apply 43 (.ireturn) 1 0 0 44 := ⟨rfl, rfl⟩
theorem r_X3_apply_44 : RW M_X3_apply 44 (.iload_n 1) 1 0 0 45 := ⟨rfl, rfl⟩
theorem r_X3_apply_45 : RW M_X3_apply 45 (.iload_n 2) 1 0 0 46 := ⟨rfl, rfl⟩
theorem r_X3_apply_46 : RW M_X3_apply 46 (.isub) 1 0 0 47 := ⟨rfl, rfl⟩
theorem r_X3_apply_47 : RW M_X3_apply 47 (.ireturn) 1 0 0 48 := ⟨rfl, rfl⟩
theorem r_X3_apply_48 : RW M_X3_apply 48 (.iload_n 1) 1 0 0 49 := ⟨rfl, rfl⟩
theorem r_X3_apply_49 : RW M_X3_apply 49 (.iload_n 2) 1 0 0 50 := ⟨rfl, rfl⟩
theorem r_X3_apply_50 : RW M_X3_apply 50 (.imul) 1 0 0 51 := ⟨rfl, rfl⟩
theorem r_X3_apply_51 : RW M_X3_apply 51 (.ireturn) 1 0 0 52 := ⟨rfl, rfl⟩
theorem r_X3_apply_52 : RW M_X3_apply 52 (.iload_n 2) 1 0 0 53 := ⟨rfl, rfl⟩
theorem r_X3_apply_53 : RW M_X3_apply 53 (.ifCond .ne 7) 3 60 0 56 := ⟨rfl, rfl⟩
theorem r_X3_apply_56 : RW M_X3_apply 56 (.iconst 0) 1 0 0 57 := ⟨rfl, rfl⟩
theorem r_X3_apply_57 : RW M_X3_apply 57 (.goto 6) 3 63 0 60 := ⟨rfl, rfl⟩
theorem r_X3_apply_60 : RW M_X3_apply 60 (.iload_n 1) 1 0 0 61 := ⟨rfl, rfl⟩
theorem r_X3_apply_61 : RW M_X3_apply 61 (.iload_n 2) 1 0 0 62 := ⟨rfl, rfl⟩
theorem r_X3_apply_62 : RW M_X3_apply 62 (.idiv) 1 0 0 63 := ⟨rfl, rfl⟩
theorem r_X3_apply_63 : RW M_X3_apply 63 (.ireturn) 1 0 0 64 := ⟨rfl, rfl⟩
theorem r_X3_apply_64 : RW M_X3_apply 64 (.iload_n 2) 1 0 0 65 := ⟨rfl, rfl⟩
theorem r_X3_apply_65 : RW M_X3_apply 65 (.ifCond .ne 7) 3 72 0 68 := ⟨rfl, rfl⟩
theorem r_X3_apply_68 : RW M_X3_apply 68 (.iconst 0) 1 0 0 69 := ⟨rfl, rfl⟩
theorem r_X3_apply_69 : RW M_X3_apply 69 (.goto 6) 3 75 0 72 := ⟨rfl, rfl⟩
theorem r_X3_apply_72 : RW M_X3_apply 72 (.iload_n 1) 1 0 0 73 := ⟨rfl, rfl⟩
theorem r_X3_apply_73 : RW M_X3_apply 73 (.iload_n 2) 1 0 0 74 := ⟨rfl, rfl⟩
theorem r_X3_apply_74 : RW M_X3_apply 74 (.irem) 1 0 0 75 := ⟨rfl, rfl⟩
theorem r_X3_apply_75 : RW M_X3_apply 75 (.ireturn) 1 0 0 76 := ⟨rfl, rfl⟩
theorem r_X3_apply_76 : RW M_X3_apply 76 (.iload_n 1) 1 0 0 77 := ⟨rfl, rfl⟩
theorem r_X3_apply_77 : RW M_X3_apply 77 (.iload_n 2) 1 0 0 78 := ⟨rfl, rfl⟩
theorem r_X3_apply_78 : RW M_X3_apply 78 (.if_icmp .ge 7) 3 85 0 81 := ⟨rfl, rfl⟩
theorem r_X3_apply_81 : RW M_X3_apply 81 (.iload_n 1) 1 0 0 82 := ⟨rfl, rfl⟩
theorem r_X3_apply_82 : RW M_X3_apply 82 (.goto 4) 3 86 0 85 := ⟨rfl, rfl⟩
theorem r_X3_apply_85 : RW M_X3_apply 85 (.iload_n 2) 1 0 0 86 := ⟨rfl, rfl⟩
theorem r_X3_apply_86 : RW M_X3_apply 86 (.ireturn) 1 0 0 87 := ⟨rfl, rfl⟩
theorem r_X3_apply_87 : RW M_X3_apply 87 (.iload_n 1) 1 0 0 88 := ⟨rfl, rfl⟩
theorem r_X3_apply_88 : RW M_X3_apply 88 (.iload_n 2) 1 0 0 89 := ⟨rfl, rfl⟩
theorem r_X3_apply_89 : RW M_X3_apply 89 (.if_icmp .le 7) 3 96 0 92 := ⟨rfl, rfl⟩
theorem r_X3_apply_92 : RW M_X3_apply 92 (.iload_n 1) 1 0 0 93 := ⟨rfl, rfl⟩
theorem r_X3_apply_93 : RW M_X3_apply 93 (.goto 4) 3 97 0 96 := ⟨rfl, rfl⟩
theorem r_X3_apply_96 : RW M_X3_apply 96 (.iload_n 2) 1 0 0 97 := ⟨rfl, rfl⟩
theorem r_X3_apply_97 : RW M_X3_apply 97 (.ireturn) 1 0 0 98 := ⟨rfl, rfl⟩
theorem c_ap2 {d : Nat} {I : Nat → Nat → Int32} {J : Nat → Nat → Int64} {a b : Int32} (hd : 1 ≤ d) : RV d 58 [.int (zI (-11)), .int a, .int b] I J (apI 2 a b) := by
  refine RV.in (d0 := 0) hd mt_58 (Nat.le_of_ble_eq_true rfl) (fun d' hd' => ?_)
  show EV none M_X3_apply d' 0 [(0, .int (zI (-11))), (1, .int a), (2, .int b)] [] (hp I J) _
  refine EV.l (lv' := [(0, _), (1, _), (2, _)]) r_X3_apply_0 rfl ?_
  refine EV.ts (q := 40) r_X3_apply_1 (by decide +kernel) ?_
  refine EV.l (lv' := [(0, _), (1, _), (2, _)]) r_X3_apply_40 rfl ?_
  refine EV.l (lv' := [(0, _), (1, _), (2, _)]) r_X3_apply_41 rfl ?_
  refine EV.o r_X3_apply_42 rfl ?_
  exact EV.rv r_X3_apply_43 (by first | rfl | exact ap5_0 (by assumption) | exact ap5_1 (by assumption) | exact ap8_0 (by assumption) | exact ap8_1 (by assumption) | exact ap6_t (by assumption) | exact ap6_f (by assumption) | exact ap7_f (by assumption) | exact ap7_t (by assumption) | exact ap7_d (by assumption) | exact ap7_e (by assumption))
theorem m_ap2 {d : Nat} {I : Nat → Nat → Int32} {J : Nat → Nat → Int64} {a b : Int32} (hd : 1 ≤ d) : RV d 204 [.int (nI 2), .int a, .int b] I J (apI 2 a b) := by
  refine RV.in (d0 := 0) hd mt_204 (Nat.le_of_ble_eq_true rfl) (fun d' hd' => ?_)
  show EV none M_X11_both d' 0 [(0, .int (nI 2)), (1, .int a), (2, .int b)] [] (hp I J) _
  refine EV.l (lv' := [(0, _), (1, _), (2, _)]) r_X11_both_0 rfl ?_
  refine EV.o r_X11_both_1 (icN (2) (v := 2)) ?_
  refine EV.n2_ne r_X11_both_2 (fun h2 => ?_) (fun h2 => ?_)
  · omega
  · -- 2 f
    refine EV.l (lv' := [(0, _), (1, _), (2, _)]) r_X11_both_5 rfl ?_
    refine EV.l (lv' := [(0, _), (1, _), (2, _)]) r_X11_both_6 rfl ?_
    refine EV.o r_X11_both_7 rfl ?_
    exact EV.rv r_X11_both_8 (by first | rfl | exact ap5_0 (by assumption) | exact ap5_1 (by assumption) | exact ap8_0 (by assumption) | exact ap8_1 (by assumption) | exact ap6_t (by assumption) | exact ap6_f (by assumption) | exact ap7_f (by assumption) | exact ap7_t (by assumption) | exact ap7_d (by assumption) | exact ap7_e (by assumption))
theorem c_ap3 {d : Nat} {I : Nat → Nat → Int32} {J : Nat → Nat → Int64} {a b : Int32} (hd : 1 ≤ d) : RV d 58 [.int (zI (-12)), .int a, .int b] I J (apI 3 a b) := by
  refine RV.in (d0 := 0) hd mt_58 (Nat.le_of_ble_eq_true rfl) (fun d' hd' => ?_)
  show EV none M_X3_apply d' 0 [(0, .int (zI (-12))), (1, .int a), (2, .int b)] [] (hp I J) _
  refine EV.l (lv' := [(0, _), (1, _), (2, _)]) r_X3_apply_0 rfl ?_
  refine EV.ts (q := 44) r_X3_apply_1 (by decide +kernel) ?_
  refine EV.l (lv' := [(0, _), (1, _), (2, _)]) r_X3_apply_44 rfl ?_
  refine EV.l (lv' := [(0, _), (1, _), (2, _)]) r_X3_apply_45 rfl ?_
  refine EV.o r_X3_apply_46 rfl ?_
  exact EV.rv r_X3_apply_47 (by first | rfl | exact ap5_0 (by assumption) | exact ap5_1 (by assumption) | exact ap8_0 (by assumption) | exact ap8_1 (by assumption) | exact ap6_t (by assumption) | exact ap6_f (by assumption) | exact ap7_f (by assumption) | exact ap7_t (by assumption) | exact ap7_d (by assumption) | exact ap7_e (by assumption))
theorem m_ap3 {d : Nat} {I : Nat → Nat → Int32} {J : Nat → Nat → Int64} {a b : Int32} (hd : 1 ≤ d) : RV d 204 [.int (nI 3), .int a, .int b] I J (apI 3 a b) := by
  refine RV.in (d0 := 0) hd mt_204 (Nat.le_of_ble_eq_true rfl) (fun d' hd' => ?_)
  show EV none M_X11_both d' 0 [(0, .int (nI 3)), (1, .int a), (2, .int b)] [] (hp I J) _
  refine EV.l (lv' := [(0, _), (1, _), (2, _)]) r_X11_both_0 rfl ?_
  refine EV.o r_X11_both_1 (icN (2) (v := 2)) ?_
  refine EV.n2_ne r_X11_both_2 (fun h2 => ?_) (fun h2 => ?_)
  · -- 2 t
    refine EV.l (lv' := [(0, _), (1, _), (2, _)]) r_X11_both_9 rfl ?_
    refine EV.o r_X11_both_10 (icN (3) (v := 3)) ?_
    refine EV.n2_ne r_X11_both_11 (fun h11 => ?_) (fun h11 => ?_)
    · omega
    · -- 11 f
      refine EV.l (lv' := [(0, _), (1, _), (2, _)]) r_X11_both_14 rfl ?_
      refine EV.l (lv' := [(0, _), (1, _), (2, _)]) r_X11_both_15 rfl ?_
      refine EV.o r_X11_both_16 rfl ?_
      exact EV.rv r_X11_both_17 (by first | rfl | exact ap5_0 (by assumption) | exact ap5_1 (by assumption) | exact ap8_0 (by assumption) | exact ap8_1 (by assumption) | exact ap6_t (by assumption) | exact ap6_f (by assumption) | exact ap7_f (by assumption) | exact ap7_t (by assumption) | exact ap7_d (by assumption) | exact ap7_e (by assumption))
  · omega
theorem c_ap4 {d : Nat} {I : Nat → Nat → Int32} {J : Nat → Nat → Int64} {a b : Int32} (hd : 1 ≤ d) : RV d 58 [.int (zI (-13)), .int a, .int b] I J (apI 4 a b) := by
  refine RV.in (d0 := 0) hd mt_58 (Nat.le_of_ble_eq_true rfl) (fun d' hd' => ?_)
  show EV none M_X3_apply d' 0 [(0, .int (zI (-13))), (1, .int a), (2, .int b)] [] (hp I J) _
  refine EV.l (lv' := [(0, _), (1, _), (2, _)]) r_X3_apply_0 rfl ?_
  refine EV.ts (q := 48) r_X3_apply_1 (by decide +kernel) ?_
  refine EV.l (lv' := [(0, _), (1, _), (2, _)]) r_X3_apply_48 rfl ?_
  refine EV.l (lv' := [(0, _), (1, _), (2, _)]) r_X3_apply_49 rfl ?_
  refine EV.o r_X3_apply_50 rfl ?_
  exact EV.rv r_X3_apply_51 (by first | rfl | exact ap5_0 (by assumption) | exact ap5_1 (by assumption) | exact ap8_0 (by assumption) | exact ap8_1 (by assumption) | exact ap6_t (by assumption) | exact ap6_f (by assumption) | exact ap7_f (by assumption) | exact ap7_t (by assumption) | exact ap7_d (by assumption) | exact ap7_e (by assumption))
theorem m_ap4 {d : Nat} {I : Nat → Nat → Int32} {J : Nat → Nat → Int64} {a b : Int32} (hd : 1 ≤ d) : RV d 204 [.int (nI 4), .int a, .int b] I J (apI 4 a b) := by
  refine RV.in (d0 := 0) hd mt_204 (Nat.le_of_ble_eq_true rfl) (fun d' hd' => ?_)
  show EV none M_X11_both d' 0 [(0, .int (nI 4)), (1, .int a), (2, .int b)] [] (hp I J) _
  refine EV.l (lv' := [(0, _), (1, _), (2, _)]) r_X11_both_0 rfl ?_
  refine EV.o r_X11_both_1 (icN (2) (v := 2)) ?_
  refine EV.n2_ne r_X11_both_2 (fun h2 => ?_) (fun h2 => ?_)
  · -- 2 t
    refine EV.l (lv' := [(0, _), (1, _), (2, _)]) r_X11_both_9 rfl ?_
    refine EV.o r_X11_both_10 (icN (3) (v := 3)) ?_
    refine EV.n2_ne r_X11_both_11 (fun h11 => ?_) (fun h11 => ?_)
    · -- 11 t
      refine EV.l (lv' := [(0, _), (1, _), (2, _)]) r_X11_both_18 rfl ?_
      refine EV.o r_X11_both_19 (icN (4) (v := 4)) ?_
      refine EV.n2_ne r_X11_both_20 (fun h20 => ?_) (fun h20 => ?_)
      · omega
      · -- 20 f
        refine EV.l (lv' := [(0, _), (1, _), (2, _)]) r_X11_both_23 rfl ?_
        refine EV.l (lv' := [(0, _), (1, _), (2, _)]) r_X11_both_24 rfl ?_
        refine EV.o r_X11_both_25 rfl ?_
        exact EV.rv r_X11_both_26 (by first | rfl | exact ap5_0 (by assumption) | exact ap5_1 (by assumption) | exact ap8_0 (by assumption) | exact ap8_1 (by assumption) | exact ap6_t (by assumption) | exact ap6_f (by assumption) | exact ap7_f (by assumption) | exact ap7_t (by assumption) | exact ap7_d (by assumption) | exact ap7_e (by assumption))
    · omega
  · omega
theorem c_ap5 {d : Nat} {I : Nat → Nat → Int32} {J : Nat → Nat → Int64} {a b : Int32} (hd : 1 ≤ d) : RV d 58 [.int (zI (-14)), .int a, .int b] I J (apI 5 a b) := by
  refine RV.in (d0 := 0) hd mt_58 (Nat.le_of_ble_eq_true rfl) (fun d' hd' => ?_)
  show EV none M_X3_apply d' 0 [(0, .int (zI (-14))), (1, .int a), (2, .int b)] [] (hp I J) _
  refine EV.l (lv' := [(0, _), (1, _), (2, _)]) r_X3_apply_0 rfl ?_
  refine EV.ts (q := 52) r_X3_apply_1 (by decide +kernel) ?_
  refine EV.l (lv' := [(0, _), (1, _), (2, _)]) r_X3_apply_52 rfl ?_
  refine EV.r0_ne r_X3_apply_53 (fun h53 => ?_) (fun h53 => ?_)
  · -- 53 t
    refine EV.l (lv' := [(0, _), (1, _), (2, _)]) r_X3_apply_60 rfl ?_
    refine EV.l (lv' := [(0, _), (1, _), (2, _)]) r_X3_apply_61 rfl ?_
    refine EV.o r_X3_apply_62 (by show (if b = 0 then none else _) = _; rw [if_neg (by first | assumption | (intro z; contradiction))]) ?_
    exact EV.rv r_X3_apply_63 (by first | rfl | exact ap5_0 (by assumption) | exact ap5_1 (by assumption) | exact ap8_0 (by assumption) | exact ap8_1 (by assumption) | exact ap6_t (by assumption) | exact ap6_f (by assumption) | exact ap7_f (by assumption) | exact ap7_t (by assumption) | exact ap7_d (by assumption) | exact ap7_e (by assumption))
  · -- 53 f
    refine EV.o r_X3_apply_56 (icN (0) (v := 0)) ?_
    refine EV.g r_X3_apply_57 ?_
    exact EV.rv r_X3_apply_63 (by first | rfl | exact ap5_0 (by assumption) | exact ap5_1 (by assumption) | exact ap8_0 (by assumption) | exact ap8_1 (by assumption) | exact ap6_t (by assumption) | exact ap6_f (by assumption) | exact ap7_f (by assumption) | exact ap7_t (by assumption) | exact ap7_d (by assumption) | exact ap7_e (by assumption))
theorem m_ap5 {d : Nat} {I : Nat → Nat → Int32} {J : Nat → Nat → Int64} {a b : Int32} (hd : 1 ≤ d) : RV d 204 [.int (nI 5), .int a, .int b] I J (apI 5 a b) := by
  refine RV.in (d0 := 0) hd mt_204 (Nat.le_of_ble_eq_true rfl) (fun d' hd' => ?_)
  show EV none M_X11_both d' 0 [(0, .int (nI 5)), (1, .int a), (2, .int b)] [] (hp I J) _
  refine EV.l (lv' := [(0, _), (1, _), (2, _)]) r_X11_both_0 rfl ?_
  refine EV.o r_X11_both_1 (icN (2) (v := 2)) ?_
  refine EV.n2_ne r_X11_both_2 (fun h2 => ?_) (fun h2 => ?_)
  · -- 2 t
    refine EV.l (lv' := [(0, _), (1, _), (2, _)]) r_X11_both_9 rfl ?_
    refine EV.o r_X11_both_10 (icN (3) (v := 3)) ?_
    refine EV.n2_ne r_X11_both_11 (fun h11 => ?_) (fun h11 => ?_)
    · -- 11 t
      refine EV.l (lv' := [(0, _), (1, _), (2, _)]) r_X11_both_18 rfl ?_
      refine EV.o r_X11_both_19 (icN (4) (v := 4)) ?_
      refine EV.n2_ne r_X11_both_20 (fun h20 => ?_) (fun h20 => ?_)
      · -- 20 t
        refine EV.l (lv' := [(0, _), (1, _), (2, _)]) r_X11_both_27 rfl ?_
        refine EV.o r_X11_both_28 (icN (5) (v := 5)) ?_
        refine EV.n2_eq r_X11_both_29 (fun h29 => ?_) (fun h29 => ?_)
        · -- 29 t
          refine EV.l (lv' := [(0, _), (1, _), (2, _)]) r_X11_both_38 rfl ?_
          refine EV.r0_ne r_X11_both_39 (fun h39 => ?_) (fun h39 => ?_)
          · -- 39 t
            refine EV.l (lv' := [(0, _), (1, _), (2, _)]) r_X11_both_46 rfl ?_
            refine EV.o r_X11_both_47 (icN (5) (v := 5)) ?_
            refine EV.n2_ne r_X11_both_48 (fun h48 => ?_) (fun h48 => ?_)
            · omega
            · -- 48 f
              refine EV.l (lv' := [(0, _), (1, _), (2, _)]) r_X11_both_51 rfl ?_
              refine EV.l (lv' := [(0, _), (1, _), (2, _)]) r_X11_both_52 rfl ?_
              refine EV.o r_X11_both_53 (by show (if b = 0 then none else _) = _; rw [if_neg (by first | assumption | (intro z; contradiction))]) ?_
              refine EV.g r_X11_both_54 ?_
              exact EV.rv r_X11_both_60 (by first | rfl | exact ap5_0 (by assumption) | exact ap5_1 (by assumption) | exact ap8_0 (by assumption) | exact ap8_1 (by assumption) | exact ap6_t (by assumption) | exact ap6_f (by assumption) | exact ap7_f (by assumption) | exact ap7_t (by assumption) | exact ap7_d (by assumption) | exact ap7_e (by assumption))
          · -- 39 f
            refine EV.o r_X11_both_42 (icN (0) (v := 0)) ?_
            refine EV.g r_X11_both_43 ?_
            exact EV.rv r_X11_both_60 (by first | rfl | exact ap5_0 (by assumption) | exact ap5_1 (by assumption) | exact ap8_0 (by assumption) | exact ap8_1 (by assumption) | exact ap6_t (by assumption) | exact ap6_f (by assumption) | exact ap7_f (by assumption) | exact ap7_t (by assumption) | exact ap7_d (by assumption) | exact ap7_e (by assumption))
        · omega
      · omega
    · omega
  · omega
theorem c_ap6 {d : Nat} {I : Nat → Nat → Int32} {J : Nat → Nat → Int64} {a b : Int32} (hd : 1 ≤ d) : RV d 58 [.int (zI (-16)), .int a, .int b] I J (apI 6 a b) := by
  refine RV.in (d0 := 0) hd mt_58 (Nat.le_of_ble_eq_true rfl) (fun d' hd' => ?_)
  show EV none M_X3_apply d' 0 [(0, .int (zI (-16))), (1, .int a), (2, .int b)] [] (hp I J) _
  refine EV.l (lv' := [(0, _), (1, _), (2, _)]) r_X3_apply_0 rfl ?_
  refine EV.ts (q := 76) r_X3_apply_1 (by decide +kernel) ?_
  refine EV.l (lv' := [(0, _), (1, _), (2, _)]) r_X3_apply_76 rfl ?_
  refine EV.l (lv' := [(0, _), (1, _), (2, _)]) r_X3_apply_77 rfl ?_
  refine EV.r2_ge r_X3_apply_78 (fun h78 => ?_) (fun h78 => ?_)
  · -- 78 t
    refine EV.l (lv' := [(0, _), (1, _), (2, _)]) r_X3_apply_85 rfl ?_
    exact EV.rv r_X3_apply_86 (by first | rfl | exact ap5_0 (by assumption) | exact ap5_1 (by assumption) | exact ap8_0 (by assumption) | exact ap8_1 (by assumption) | exact ap6_t (by assumption) | exact ap6_f (by assumption) | exact ap7_f (by assumption) | exact ap7_t (by assumption) | exact ap7_d (by assumption) | exact ap7_e (by assumption))
  · -- 78 f
    refine EV.l (lv' := [(0, _), (1, _), (2, _)]) r_X3_apply_81 rfl ?_
    refine EV.g r_X3_apply_82 ?_
    exact EV.rv r_X3_apply_86 (by first | rfl | exact ap5_0 (by assumption) | exact ap5_1 (by assumption) | exact ap8_0 (by assumption) | exact ap8_1 (by assumption) | exact ap6_t (by assumption) | exact ap6_f (by assumption) | exact ap7_f (by assumption) | exact ap7_t (by assumption) | exact ap7_d (by assumption) | exact ap7_e (by assumption))
theorem m_ap6 {d : Nat} {I : Nat → Nat → Int32} {J : Nat → Nat → Int64} {a b : Int32} (hd : 1 ≤ d) : RV d 204 [.int (nI 6), .int a, .int b] I J (apI 6 a b) := by
  refine RV.in (d0 := 0) hd mt_204 (Nat.le_of_ble_eq_true rfl) (fun d' hd' => ?_)
  show EV none M_X11_both d' 0 [(0, .int (nI 6)), (1, .int a), (2, .int b)] [] (hp I J) _
  refine EV.l (lv' := [(0, _), (1, _), (2, _)]) r_X11_both_0 rfl ?_
  refine EV.o r_X11_both_1 (icN (2) (v := 2)) ?_
  refine EV.n2_ne r_X11_both_2 (fun h2 => ?_) (fun h2 => ?_)
  · -- 2 t
    refine EV.l (lv' := [(0, _), (1, _), (2, _)]) r_X11_both_9 rfl ?_
    refine EV.o r_X11_both_10 (icN (3) (v := 3)) ?_
    refine EV.n2_ne r_X11_both_11 (fun h11 => ?_) (fun h11 => ?_)
    · -- 11 t
      refine EV.l (lv' := [(0, _), (1, _), (2, _)]) r_X11_both_18 rfl ?_
      refine EV.o r_X11_both_19 (icN (4) (v := 4)) ?_
      refine EV.n2_ne r_X11_both_20 (fun h20 => ?_) (fun h20 => ?_)
      · -- 20 t
        refine EV.l (lv' := [(0, _), (1, _), (2, _)]) r_X11_both_27 rfl ?_
        refine EV.o r_X11_both_28 (icN (5) (v := 5)) ?_
        refine EV.n2_eq r_X11_both_29 (fun h29 => ?_) (fun h29 => ?_)
        · omega
        · -- 29 f
          refine EV.l (lv' := [(0, _), (1, _), (2, _)]) r_X11_both_32 rfl ?_
          refine EV.o r_X11_both_33 (bpN (8) 8) ?_
          refine EV.n2_ne r_X11_both_35 (fun h35 => ?_) (fun h35 => ?_)
          · -- 35 t
            refine EV.l (lv' := [(0, _), (1, _), (2, _)]) r_X11_both_61 rfl ?_
            refine EV.l (lv' := [(0, _), (1, _), (2, _)]) r_X11_both_62 rfl ?_
            refine EV.r2_ge r_X11_both_63 (fun h63 => ?_) (fun h63 => ?_)
            · -- 63 t
              refine EV.o r_X11_both_70 (icN (0) (v := 0)) ?_
              refine EV.l (lv' := [(0, _), (1, _), (2, _)]) r_X11_both_71 rfl ?_
              refine EV.o r_X11_both_72 (bpN (6) 6) ?_
              refine EV.n2_ne r_X11_both_74 (fun h74 => ?_) (fun h74 => ?_)
              · omega
              · -- 74 f
                refine EV.o r_X11_both_77 (icN (1) (v := 1)) ?_
                refine EV.g r_X11_both_78 ?_
                refine EV.n2_ne r_X11_both_82 (fun h82 => ?_) (fun h82 => ?_)
                · -- 82 t
                  refine EV.l (lv' := [(0, _), (1, _), (2, _)]) r_X11_both_89 rfl ?_
                  exact EV.rv r_X11_both_90 (by first | rfl | exact ap5_0 (by assumption) | exact ap5_1 (by assumption) | exact ap8_0 (by assumption) | exact ap8_1 (by assumption) | exact ap6_t (by assumption) | exact ap6_f (by assumption) | exact ap7_f (by assumption) | exact ap7_t (by assumption) | exact ap7_d (by assumption) | exact ap7_e (by assumption))
                · omega
            · -- 63 f
              refine EV.o r_X11_both_66 (icN (1) (v := 1)) ?_
              refine EV.g r_X11_both_67 ?_
              refine EV.l (lv' := [(0, _), (1, _), (2, _)]) r_X11_both_71 rfl ?_
              refine EV.o r_X11_both_72 (bpN (6) 6) ?_
              refine EV.n2_ne r_X11_both_74 (fun h74 => ?_) (fun h74 => ?_)
              · omega
              · -- 74 f
                refine EV.o r_X11_both_77 (icN (1) (v := 1)) ?_
                refine EV.g r_X11_both_78 ?_
                refine EV.n2_ne r_X11_both_82 (fun h82 => ?_) (fun h82 => ?_)
                · omega
                · -- 82 f
                  refine EV.l (lv' := [(0, _), (1, _), (2, _)]) r_X11_both_85 rfl ?_
                  refine EV.g r_X11_both_86 ?_
                  exact EV.rv r_X11_both_90 (by first | rfl | exact ap5_0 (by assumption) | exact ap5_1 (by assumption) | exact ap8_0 (by assumption) | exact ap8_1 (by assumption) | exact ap6_t (by assumption) | exact ap6_f (by assumption) | exact ap7_f (by assumption) | exact ap7_t (by assumption) | exact ap7_d (by assumption) | exact ap7_e (by assumption))
          · omega
      · omega
    · omega
  · omega
theorem c_ap7 {d : Nat} {I : Nat → Nat → Int32} {J : Nat → Nat → Int64} {a b : Int32} (hd : 1 ≤ d) : RV d 58 [.int (zI (-17)), .int a, .int b] I J (apI 7 a b) := by
  refine RV.in (d0 := 0) hd mt_58 (Nat.le_of_ble_eq_true rfl) (fun d' hd' => ?_)
  show EV none M_X3_apply d' 0 [(0, .int (zI (-17))), (1, .int a), (2, .int b)] [] (hp I J) _
  refine EV.l (lv' := [(0, _), (1, _), (2, _)]) r_X3_apply_0 rfl ?_
  refine EV.ts (q := 87) r_X3_apply_1 (by decide +kernel) ?_
  refine EV.l (lv' := [(0, _), (1, _), (2, _)]) r_X3_apply_87 rfl ?_
  refine EV.l (lv' := [(0, _), (1, _), (2, _)]) r_X3_apply_88 rfl ?_
  refine EV.r2_le r_X3_apply_89 (fun h89 => ?_) (fun h89 => ?_)
  · -- 89 t
    refine EV.l (lv' := [(0, _), (1, _), (2, _)]) r_X3_apply_96 rfl ?_
    exact EV.rv r_X3_apply_97 (by first | rfl | exact ap5_0 (by assumption) | exact ap5_1 (by assumption) | exact ap8_0 (by assumption) | exact ap8_1 (by assumption) | exact ap6_t (by assumption) | exact ap6_f (by assumption) | exact ap7_f (by assumption) | exact ap7_t (by assumption) | exact ap7_d (by assumption) | exact ap7_e (by assumption))
  · -- 89 f
    refine EV.l (lv' := [(0, _), (1, _), (2, _)]) r_X3_apply_92 rfl ?_
    refine EV.g r_X3_apply_93 ?_
    exact EV.rv r_X3_apply_97 (by first | rfl | exact ap5_0 (by assumption) | exact ap5_1 (by assumption) | exact ap8_0 (by assumption) | exact ap8_1 (by assumption) | exact ap6_t (by assumption) | exact ap6_f (by assumption) | exact ap7_f (by assumption) | exact ap7_t (by assumption) | exact ap7_d (by assumption) | exact ap7_e (by assumption))
theorem m_ap7 {d : Nat} {I : Nat → Nat → Int32} {J : Nat → Nat → Int64} {a b : Int32} (hd : 1 ≤ d) : RV d 204 [.int (nI 7), .int a, .int b] I J (apI 7 a b) := by
  refine RV.in (d0 := 0) hd mt_204 (Nat.le_of_ble_eq_true rfl) (fun d' hd' => ?_)
  show EV none M_X11_both d' 0 [(0, .int (nI 7)), (1, .int a), (2, .int b)] [] (hp I J) _
  refine EV.l (lv' := [(0, _), (1, _), (2, _)]) r_X11_both_0 rfl ?_
  refine EV.o r_X11_both_1 (icN (2) (v := 2)) ?_
  refine EV.n2_ne r_X11_both_2 (fun h2 => ?_) (fun h2 => ?_)
  · -- 2 t
    refine EV.l (lv' := [(0, _), (1, _), (2, _)]) r_X11_both_9 rfl ?_
    refine EV.o r_X11_both_10 (icN (3) (v := 3)) ?_
    refine EV.n2_ne r_X11_both_11 (fun h11 => ?_) (fun h11 => ?_)
    · -- 11 t
      refine EV.l (lv' := [(0, _), (1, _), (2, _)]) r_X11_both_18 rfl ?_
      refine EV.o r_X11_both_19 (icN (4) (v := 4)) ?_
      refine EV.n2_ne r_X11_both_20 (fun h20 => ?_) (fun h20 => ?_)
      · -- 20 t
        refine EV.l (lv' := [(0, _), (1, _), (2, _)]) r_X11_both_27 rfl ?_
        refine EV.o r_X11_both_28 (icN (5) (v := 5)) ?_
        refine EV.n2_eq r_X11_both_29 (fun h29 => ?_) (fun h29 => ?_)
        · omega
        · -- 29 f
          refine EV.l (lv' := [(0, _), (1, _), (2, _)]) r_X11_both_32 rfl ?_
          refine EV.o r_X11_both_33 (bpN (8) 8) ?_
          refine EV.n2_ne r_X11_both_35 (fun h35 => ?_) (fun h35 => ?_)
          · -- 35 t
            refine EV.l (lv' := [(0, _), (1, _), (2, _)]) r_X11_both_61 rfl ?_
            refine EV.l (lv' := [(0, _), (1, _), (2, _)]) r_X11_both_62 rfl ?_
            refine EV.r2_ge r_X11_both_63 (fun h63 => ?_) (fun h63 => ?_)
            · -- 63 t
              refine EV.o r_X11_both_70 (icN (0) (v := 0)) ?_
              refine EV.l (lv' := [(0, _), (1, _), (2, _)]) r_X11_both_71 rfl ?_
              refine EV.o r_X11_both_72 (bpN (6) 6) ?_
              refine EV.n2_ne r_X11_both_74 (fun h74 => ?_) (fun h74 => ?_)
              · -- 74 t
                refine EV.o r_X11_both_81 (icN (0) (v := 0)) ?_
                refine EV.n2_ne r_X11_both_82 (fun h82 => ?_) (fun h82 => ?_)
                · omega
                · -- 82 f
                  refine EV.l (lv' := [(0, _), (1, _), (2, _)]) r_X11_both_85 rfl ?_
                  refine EV.g r_X11_both_86 ?_
                  exact EV.rv r_X11_both_90 (by first | rfl | exact ap5_0 (by assumption) | exact ap5_1 (by assumption) | exact ap8_0 (by assumption) | exact ap8_1 (by assumption) | exact ap6_t (by assumption) | exact ap6_f (by assumption) | exact ap7_f (by assumption) | exact ap7_t (by assumption) | exact ap7_d (by assumption) | exact ap7_e (by assumption))
              · omega
            · -- 63 f
              refine EV.o r_X11_both_66 (icN (1) (v := 1)) ?_
              refine EV.g r_X11_both_67 ?_
              refine EV.l (lv' := [(0, _), (1, _), (2, _)]) r_X11_both_71 rfl ?_
              refine EV.o r_X11_both_72 (bpN (6) 6) ?_
              refine EV.n2_ne r_X11_both_74 (fun h74 => ?_) (fun h74 => ?_)
              · -- 74 t
                refine EV.o r_X11_both_81 (icN (0) (v := 0)) ?_
                refine EV.n2_ne r_X11_both_82 (fun h82 => ?_) (fun h82 => ?_)
                · -- 82 t
                  refine EV.l (lv' := [(0, _), (1, _), (2, _)]) r_X11_both_89 rfl ?_
                  exact EV.rv r_X11_both_90 (by first | rfl | exact ap5_0 (by assumption) | exact ap5_1 (by assumption) | exact ap8_0 (by assumption) | exact ap8_1 (by assumption) | exact ap6_t (by assumption) | exact ap6_f (by assumption) | exact ap7_f (by assumption) | exact ap7_t (by assumption) | exact ap7_d (by assumption) | exact ap7_e (by assumption))
                · omega
              · omega
          · omega
      · omega
    · omega
  · omega
theorem c_ap8 {d : Nat} {I : Nat → Nat → Int32} {J : Nat → Nat → Int64} {a b : Int32} (hd : 1 ≤ d) : RV d 58 [.int (zI (-15)), .int a, .int b] I J (apI 8 a b) := by
  refine RV.in (d0 := 0) hd mt_58 (Nat.le_of_ble_eq_true rfl) (fun d' hd' => ?_)
  show EV none M_X3_apply d' 0 [(0, .int (zI (-15))), (1, .int a), (2, .int b)] [] (hp I J) _
  refine EV.l (lv' := [(0, _), (1, _), (2, _)]) r_X3_apply_0 rfl ?_
  refine EV.ts (q := 64) r_X3_apply_1 (by decide +kernel) ?_
  refine EV.l (lv' := [(0, _), (1, _), (2, _)]) r_X3_apply_64 rfl ?_
  refine EV.r0_ne r_X3_apply_65 (fun h65 => ?_) (fun h65 => ?_)
  · -- 65 t
    refine EV.l (lv' := [(0, _), (1, _), (2, _)]) r_X3_apply_72 rfl ?_
    refine EV.l (lv' := [(0, _), (1, _), (2, _)]) r_X3_apply_73 rfl ?_
    refine EV.o r_X3_apply_74 (by show (if b = 0 then none else _) = _; rw [if_neg (by first | assumption | (intro z; contradiction))]) ?_
    exact EV.rv r_X3_apply_75 (by first | rfl | exact ap5_0 (by assumption) | exact ap5_1 (by assumption) | exact ap8_0 (by assumption) | exact ap8_1 (by assumption) | exact ap6_t (by assumption) | exact ap6_f (by assumption) | exact ap7_f (by assumption) | exact ap7_t (by assumption) | exact ap7_d (by assumption) | exact ap7_e (by assumption))
  · -- 65 f
    refine EV.o r_X3_apply_68 (icN (0) (v := 0)) ?_
    refine EV.g r_X3_apply_69 ?_
    exact EV.rv r_X3_apply_75 (by first | rfl | exact ap5_0 (by assumption) | exact ap5_1 (by assumption) | exact ap8_0 (by assumption) | exact ap8_1 (by assumption) | exact ap6_t (by assumption) | exact ap6_f (by assumption) | exact ap7_f (by assumption) | exact ap7_t (by assumption) | exact ap7_d (by assumption) | exact ap7_e (by assumption))
theorem m_ap8 {d : Nat} {I : Nat → Nat → Int32} {J : Nat → Nat → Int64} {a b : Int32} (hd : 1 ≤ d) : RV d 204 [.int (nI 8), .int a, .int b] I J (apI 8 a b) := by
  refine RV.in (d0 := 0) hd mt_204 (Nat.le_of_ble_eq_true rfl) (fun d' hd' => ?_)
  show EV none M_X11_both d' 0 [(0, .int (nI 8)), (1, .int a), (2, .int b)] [] (hp I J) _
  refine EV.l (lv' := [(0, _), (1, _), (2, _)]) r_X11_both_0 rfl ?_
  refine EV.o r_X11_both_1 (icN (2) (v := 2)) ?_
  refine EV.n2_ne r_X11_both_2 (fun h2 => ?_) (fun h2 => ?_)
  · -- 2 t
    refine EV.l (lv' := [(0, _), (1, _), (2, _)]) r_X11_both_9 rfl ?_
    refine EV.o r_X11_both_10 (icN (3) (v := 3)) ?_
    refine EV.n2_ne r_X11_both_11 (fun h11 => ?_) (fun h11 => ?_)
    · -- 11 t
      refine EV.l (lv' := [(0, _), (1, _), (2, _)]) r_X11_both_18 rfl ?_
      refine EV.o r_X11_both_19 (icN (4) (v := 4)) ?_
      refine EV.n2_ne r_X11_both_20 (fun h20 => ?_) (fun h20 => ?_)
      · -- 20 t
        refine EV.l (lv' := [(0, _), (1, _), (2, _)]) r_X11_both_27 rfl ?_
        refine EV.o r_X11_both_28 (icN (5) (v := 5)) ?_
        refine EV.n2_eq r_X11_both_29 (fun h29 => ?_) (fun h29 => ?_)
        · omega
        · -- 29 f
          refine EV.l (lv' := [(0, _), (1, _), (2, _)]) r_X11_both_32 rfl ?_
          refine EV.o r_X11_both_33 (bpN (8) 8) ?_
          refine EV.n2_ne r_X11_both_35 (fun h35 => ?_) (fun h35 => ?_)
          · omega
          · -- 35 f
            refine EV.l (lv' := [(0, _), (1, _), (2, _)]) r_X11_both_38 rfl ?_
            refine EV.r0_ne r_X11_both_39 (fun h39 => ?_) (fun h39 => ?_)
            · -- 39 t
              refine EV.l (lv' := [(0, _), (1, _), (2, _)]) r_X11_both_46 rfl ?_
              refine EV.o r_X11_both_47 (icN (5) (v := 5)) ?_
              refine EV.n2_ne r_X11_both_48 (fun h48 => ?_) (fun h48 => ?_)
              · -- 48 t
                refine EV.l (lv' := [(0, _), (1, _), (2, _)]) r_X11_both_57 rfl ?_
                refine EV.l (lv' := [(0, _), (1, _), (2, _)]) r_X11_both_58 rfl ?_
                refine EV.o r_X11_both_59 (by show (if b = 0 then none else _) = _; rw [if_neg (by first | assumption | (intro z; contradiction))]) ?_
                exact EV.rv r_X11_both_60 (by first | rfl | exact ap5_0 (by assumption) | exact ap5_1 (by assumption) | exact ap8_0 (by assumption) | exact ap8_1 (by assumption) | exact ap6_t (by assumption) | exact ap6_f (by assumption) | exact ap7_f (by assumption) | exact ap7_t (by assumption) | exact ap7_d (by assumption) | exact ap7_e (by assumption))
              · omega
            · -- 39 f
              refine EV.o r_X11_both_42 (icN (0) (v := 0)) ?_
              refine EV.g r_X11_both_43 ?_
              exact EV.rv r_X11_both_60 (by first | rfl | exact ap5_0 (by assumption) | exact ap5_1 (by assumption) | exact ap8_0 (by assumption) | exact ap8_1 (by assumption) | exact ap6_t (by assumption) | exact ap6_f (by assumption) | exact ap7_f (by assumption) | exact ap7_t (by assumption) | exact ap7_d (by assumption) | exact ap7_e (by assumption))
      · omega
    · omega
  · omega
theorem c_ap {d : Nat} {I : Nat → Nat → Int32} {J : Nat → Nat → Int64} {w : Nat} {a b : Int32} (h : 2 ≤ w) (h8 : w ≤ 8) (hd : 1 ≤ d) : RV d 58 [.int (zI (opc w)), .int a, .int b] I J (apI w a b) := by
  obtain rfl | rfl | rfl | rfl | rfl | rfl | rfl : w = 2 ∨ w = 3 ∨ w = 4 ∨ w = 5 ∨ w = 6 ∨ w = 7 ∨ w = 8 := by omega
  · exact c_ap2 hd
  · exact c_ap3 hd
  · exact c_ap4 hd
  · exact c_ap5 hd
  · exact c_ap6 hd
  · exact c_ap7 hd
  · exact c_ap8 hd
theorem m_ap {d : Nat} {I : Nat → Nat → Int32} {J : Nat → Nat → Int64} {w : Nat} {a b : Int32} (h : 2 ≤ w) (h8 : w ≤ 8) (hd : 1 ≤ d) : RV d 204 [.int (nI w), .int a, .int b] I J (apI w a b) := by
  obtain rfl | rfl | rfl | rfl | rfl | rfl | rfl : w = 2 ∨ w = 3 ∨ w = 4 ∨ w = 5 ∨ w = 6 ∨ w = 7 ∨ w = 8 := by omega
  · exact m_ap2 hd
  · exact m_ap3 hd
  · exact m_ap4 hd
  · exact m_ap5 hd
  · exact m_ap6 hd
  · exact m_ap7 hd
  · exact m_ap8 hd
