/-! Rules of numbers, calls and ends. -/
def zI (z : Int) : Int32 := Int32.ofInt z
theorem zI_nat (n : Nat) : zI (n : Int) = nI n := congrArg Int32.ofBitVec (BitVec.ofInt_natCast 32 n)
theorem zI_toInt {z : Int} (h : -2147483648 ≤ z) (h' : z < 2147483648) : (zI z).toInt = z := Int32.toInt_ofInt_of_le h h'
theorem zI_add (a b : Int) : zI a + zI b = zI (a + b) := (Int32.ofInt_add a b).symm
theorem zI_sub (a b : Int) : zI a - zI b = zI (a - b) := (Int32.ofInt_sub a b).symm
theorem zI_mul (a b : Int) : zI a * zI b = zI (a * b) := (Int32.ofInt_mul a b).symm
theorem zI_eqI {a b : Int} (h1 : -2147483648 ≤ a) (h2 : a < 2147483648) (h3 : -2147483648 ≤ b) (h4 : b < 2147483648) : zI a = zI b ↔ a = b := by
  rw [← Int32.toInt_inj, zI_toInt h1 h2, zI_toInt h3 h4]
theorem zI_leI {a b : Int} (h1 : -2147483648 ≤ a) (h2 : a < 2147483648) (h3 : -2147483648 ≤ b) (h4 : b < 2147483648) : zI a ≤ zI b ↔ a ≤ b := by
  rw [Int32.le_iff_toInt_le, zI_toInt h1 h2, zI_toInt h3 h4]
theorem zI_ltI {a b : Int} (h1 : -2147483648 ≤ a) (h2 : a < 2147483648) (h3 : -2147483648 ≤ b) (h4 : b < 2147483648) : zI a < zI b ↔ a < b := by
  rw [Int32.lt_iff_toInt_lt, zI_toInt h1 h2, zI_toInt h3 h4]
theorem nI_sub {a b : Nat} (h : b ≤ a) : nI a - nI b = nI (a - b) := pk_sub h
theorem nI_subZ (a b : Nat) : nI a - nI b = zI ((a : Int) - b) := by rw [← zI_nat, ← zI_nat, zI_sub]
theorem nI_and (a b : Nat) : nI a &&& nI b = nI (a &&& b) := congrArg Int32.ofBitVec (BitVec.ofNat_and (w := 32)).symm
theorem nI_or (a b : Nat) : nI a ||| nI b = nI (a ||| b) := congrArg Int32.ofBitVec (BitVec.ofNat_or (w := 32)).symm
theorem nI_xor (a b : Nat) : nI a ^^^ nI b = nI (a ^^^ b) := congrArg Int32.ofBitVec (BitVec.ofNat_xor (w := 32)).symm
def andc (a b : Nat) : Nat := a ^^^ (a &&& b)
theorem nI_m1 (b : Nat) : nI b ^^^ zI (-1) = ~~~(nI b) := congrArg Int32.ofBitVec (BitVec.xor_allOnes (w := 32) (x := BitVec.ofNat 32 b))
theorem bv_andc {w : Nat} (x y : BitVec w) : x &&& ~~~y = x ^^^ (x &&& y) := by
  ext i hi
  simp
  cases x[i] <;> cases y[i] <;> rfl
theorem nI_andc (a b : Nat) : nI a &&& ~~~(nI b) = nI (andc a b) := by
  have h := bv_andc (BitVec.ofNat 32 a) (BitVec.ofNat 32 b)
  rw [← BitVec.ofNat_and, ← BitVec.ofNat_xor] at h
  exact congrArg Int32.ofBitVec h
section SN
variable {st : List Value}
theorem icN (n : Int) {v : Nat} (h : n = (v : Int) := by rfl) : stk (.iconst n) st = some (.int (nI v) :: st) := by subst h; rw [← zI_nat]; rfl
theorem icZ (n : Int) : stk (.iconst n) st = some (.int (zI n) :: st) := rfl
theorem bpN (n : Int) (v : Nat) (h : (Int8.ofInt n).toInt32 = nI v := by decide) : stk (.bipush n) st = some (.int (nI v) :: st) := by rw [← h]; rfl
theorem bpZ (n : Int) (h : (Int8.ofInt n).toInt32 = zI n := by decide) : stk (.bipush n) st = some (.int (zI n) :: st) := by rw [← h]; rfl
theorem spN (n : Int) (v : Nat) (h : (Int16.ofInt n).toInt32 = nI v := by decide) : stk (.sipush n) st = some (.int (nI v) :: st) := by rw [← h]; rfl
theorem iaddN {x y : Nat} : stk .iadd (.int (nI y) :: .int (nI x) :: st) = some (.int (nI (x + y)) :: st) := by rw [← nI_add]; rfl
theorem imulN {x y : Nat} : stk .imul (.int (nI y) :: .int (nI x) :: st) = some (.int (nI (x * y)) :: st) := by rw [← pk_mul]; rfl
theorem iandN {x y : Nat} : stk .iand (.int (nI y) :: .int (nI x) :: st) = some (.int (nI (x &&& y)) :: st) := by rw [← nI_and]; rfl
theorem iorN {x y : Nat} : stk .ior (.int (nI y) :: .int (nI x) :: st) = some (.int (nI (x ||| y)) :: st) := by rw [← nI_or]; rfl
theorem ixorN {x y : Nat} : stk .ixor (.int (nI y) :: .int (nI x) :: st) = some (.int (nI (x ^^^ y)) :: st) := by rw [← nI_xor]; rfl
theorem isubN {x y : Nat} (h : y ≤ x := by omega) : stk .isub (.int (nI y) :: .int (nI x) :: st) = some (.int (nI (x - y)) :: st) := by rw [← nI_sub h]; rfl
theorem isubNZ {x y : Nat} : stk .isub (.int (nI y) :: .int (nI x) :: st) = some (.int (zI ((x : Int) - (y : Int))) :: st) := by rw [← nI_subZ]; rfl
theorem iaddZ {x y : Int} : stk .iadd (.int (zI y) :: .int (zI x) :: st) = some (.int (zI (x + y)) :: st) := by rw [← zI_add]; rfl
theorem isubZ {x y : Int} : stk .isub (.int (zI y) :: .int (zI x) :: st) = some (.int (zI (x - y)) :: st) := by rw [← zI_sub]; rfl
theorem imulZ {x y : Int} : stk .imul (.int (zI y) :: .int (zI x) :: st) = some (.int (zI (x * y)) :: st) := by rw [← zI_mul]; rfl
theorem inotN {x : Nat} : stk .ixor (.int (zI (-1)) :: .int (nI x) :: st) = some (.int (~~~(nI x)) :: st) := by rw [← nI_m1]; rfl
theorem iandC {x y : Nat} : stk .iand (.int (~~~(nI y)) :: .int (nI x) :: st) = some (.int (nI (andc x y)) :: st) := by rw [← nI_andc]; rfl
end SN
/-- a row of a method, and the place behind it -/
def RW (M : MI) (pc : Nat) (i : Instr) (len a b pq : Nat) : Prop := xlk M.rw pc = some (i, len, a, b) ∧ pc + len = pq
section NJ
variable {sc : Option (Nat × (Nat → Int32))} {M : MI} {d pc : Nat} {lv : LV} {st : List Value} {G : AH} {Q : (Option Value ⊕ Nat) → AH → Nat → Prop}
theorem EV.o {i : Instr} {len a b pq : Nat} {st' : List Value} (hr : RW M pc i len a b pq) (h : stk i st = some st') (k : EV sc M d pq lv st' G Q) : EV sc M d pc lv st G Q := EV.op hr.1 h (hr.2.symm ▸ k)
theorem EV.l {i : Instr} {len a b pq : Nat} {lv' : LV} {st' : List Value} (hr : RW M pc i len a b pq) (h : locop i M.ml b lv st = some (lv', st')) (k : EV sc M d pq lv' st' G Q) (h1 : stk i st = none := by rfl) : EV sc M d pc lv st G Q := EV.lo hr.1 h (hr.2.symm ▸ k) h1
theorem EV.g {o : Int} {len a b pq : Nat} (hr : RW M pc (.goto o) len a b pq) (k : EV sc M d a lv st G Q) : EV sc M d pc lv st G Q := EV.to hr.1 rfl k
theorem EV.n2_eq {o : Int} {a b pq x y : Nat} (hr : RW M pc (.if_icmp .eq o) 3 a b pq) (kt : x = y → EV sc M d a lv st G Q) (kf : ¬ x = y → EV sc M d pq lv st G Q) (hx : x < 2147483648 := by omega) (hy : y < 2147483648 := by omega) : EV sc M d pc lv (.int (nI y) :: .int (nI x) :: st) G Q := EV.if2 (p := x = y) hr.1 (nI_eq hx hy).symm kt (fun h => hr.2.symm ▸ kf (h))
theorem EV.z2_eq {o : Int} {a b pq : Nat} {x y : Int} (hr : RW M pc (.if_icmp .eq o) 3 a b pq) (kt : x = y → EV sc M d a lv st G Q) (kf : ¬ x = y → EV sc M d pq lv st G Q) (hx : -2147483648 ≤ x := by omega) (hx2 : x < 2147483648 := by omega) (hy : -2147483648 ≤ y := by omega) (hy2 : y < 2147483648 := by omega) : EV sc M d pc lv (.int (zI y) :: .int (zI x) :: st) G Q := EV.if2 (p := x = y) hr.1 (zI_eqI hx hx2 hy hy2).symm kt (fun h => hr.2.symm ▸ kf (h))
theorem EV.n0_eq {o : Int} {a b pq x : Nat} (hr : RW M pc (.ifCond .eq o) 3 a b pq) (kt : x = 0 → EV sc M d a lv st G Q) (kf : ¬ x = 0 → EV sc M d pq lv st G Q) (hx : x < 2147483648 := by omega) : EV sc M d pc lv (.int (nI x) :: st) G Q := by
  have hy : (0 : Nat) < 2147483648 := by omega
  have e : nI 0 = 0 := nI_0
  exact EV.if0 (p := x = 0) hr.1 (by have h := (nI_eq hx hy); rw [e] at h; exact h.symm) kt (fun h => hr.2.symm ▸ kf (h))
theorem EV.z0_eq {o : Int} {a b pq : Nat} {x : Int} (hr : RW M pc (.ifCond .eq o) 3 a b pq) (kt : x = 0 → EV sc M d a lv st G Q) (kf : ¬ x = 0 → EV sc M d pq lv st G Q) (hx : -2147483648 ≤ x := by omega) (hx2 : x < 2147483648 := by omega) : EV sc M d pc lv (.int (zI x) :: st) G Q := by
  have hy : -2147483648 ≤ (0 : Int) := by omega
  have hy2 : (0 : Int) < 2147483648 := by omega
  have e : zI 0 = 0 := rfl
  exact EV.if0 (p := x = 0) hr.1 (by have h := (zI_eqI hx hx2 hy hy2); rw [e] at h; exact h.symm) kt (fun h => hr.2.symm ▸ kf (h))
theorem EV.n2_ne {o : Int} {a b pq x y : Nat} (hr : RW M pc (.if_icmp .ne o) 3 a b pq) (kt : ¬ x = y → EV sc M d a lv st G Q) (kf : x = y → EV sc M d pq lv st G Q) (hx : x < 2147483648 := by omega) (hy : y < 2147483648 := by omega) : EV sc M d pc lv (.int (nI y) :: .int (nI x) :: st) G Q := EV.if2 (p := ¬ x = y) hr.1 (not_congr (nI_eq hx hy)).symm kt (fun h => hr.2.symm ▸ kf (Decidable.not_not.mp h))
theorem EV.z2_ne {o : Int} {a b pq : Nat} {x y : Int} (hr : RW M pc (.if_icmp .ne o) 3 a b pq) (kt : ¬ x = y → EV sc M d a lv st G Q) (kf : x = y → EV sc M d pq lv st G Q) (hx : -2147483648 ≤ x := by omega) (hx2 : x < 2147483648 := by omega) (hy : -2147483648 ≤ y := by omega) (hy2 : y < 2147483648 := by omega) : EV sc M d pc lv (.int (zI y) :: .int (zI x) :: st) G Q := EV.if2 (p := ¬ x = y) hr.1 (not_congr (zI_eqI hx hx2 hy hy2)).symm kt (fun h => hr.2.symm ▸ kf (Decidable.not_not.mp h))
theorem EV.n0_ne {o : Int} {a b pq x : Nat} (hr : RW M pc (.ifCond .ne o) 3 a b pq) (kt : ¬ x = 0 → EV sc M d a lv st G Q) (kf : x = 0 → EV sc M d pq lv st G Q) (hx : x < 2147483648 := by omega) : EV sc M d pc lv (.int (nI x) :: st) G Q := by
  have hy : (0 : Nat) < 2147483648 := by omega
  have e : nI 0 = 0 := nI_0
  exact EV.if0 (p := ¬ x = 0) hr.1 (by have h := (not_congr (nI_eq hx hy)); rw [e] at h; exact h.symm) kt (fun h => hr.2.symm ▸ kf (Decidable.not_not.mp h))
theorem EV.z0_ne {o : Int} {a b pq : Nat} {x : Int} (hr : RW M pc (.ifCond .ne o) 3 a b pq) (kt : ¬ x = 0 → EV sc M d a lv st G Q) (kf : x = 0 → EV sc M d pq lv st G Q) (hx : -2147483648 ≤ x := by omega) (hx2 : x < 2147483648 := by omega) : EV sc M d pc lv (.int (zI x) :: st) G Q := by
  have hy : -2147483648 ≤ (0 : Int) := by omega
  have hy2 : (0 : Int) < 2147483648 := by omega
  have e : zI 0 = 0 := rfl
  exact EV.if0 (p := ¬ x = 0) hr.1 (by have h := (not_congr (zI_eqI hx hx2 hy hy2)); rw [e] at h; exact h.symm) kt (fun h => hr.2.symm ▸ kf (Decidable.not_not.mp h))
theorem EV.n2_lt {o : Int} {a b pq x y : Nat} (hr : RW M pc (.if_icmp .lt o) 3 a b pq) (kt : x < y → EV sc M d a lv st G Q) (kf : y ≤ x → EV sc M d pq lv st G Q) (hx : x < 2147483648 := by omega) (hy : y < 2147483648 := by omega) : EV sc M d pc lv (.int (nI y) :: .int (nI x) :: st) G Q := EV.if2 (p := x < y) hr.1 (nI_ltI hx hy).symm kt (fun h => hr.2.symm ▸ kf (by omega))
theorem EV.z2_lt {o : Int} {a b pq : Nat} {x y : Int} (hr : RW M pc (.if_icmp .lt o) 3 a b pq) (kt : x < y → EV sc M d a lv st G Q) (kf : y ≤ x → EV sc M d pq lv st G Q) (hx : -2147483648 ≤ x := by omega) (hx2 : x < 2147483648 := by omega) (hy : -2147483648 ≤ y := by omega) (hy2 : y < 2147483648 := by omega) : EV sc M d pc lv (.int (zI y) :: .int (zI x) :: st) G Q := EV.if2 (p := x < y) hr.1 (zI_ltI hx hx2 hy hy2).symm kt (fun h => hr.2.symm ▸ kf (by omega))
theorem EV.n0_lt {o : Int} {a b pq x : Nat} (hr : RW M pc (.ifCond .lt o) 3 a b pq) (kt : x < 0 → EV sc M d a lv st G Q) (kf : 0 ≤ x → EV sc M d pq lv st G Q) (hx : x < 2147483648 := by omega) : EV sc M d pc lv (.int (nI x) :: st) G Q := by
  have hy : (0 : Nat) < 2147483648 := by omega
  have e : nI 0 = 0 := nI_0
  exact EV.if0 (p := x < 0) hr.1 (by have h := (nI_ltI hx hy); rw [e] at h; exact h.symm) kt (fun h => hr.2.symm ▸ kf (by omega))
theorem EV.z0_lt {o : Int} {a b pq : Nat} {x : Int} (hr : RW M pc (.ifCond .lt o) 3 a b pq) (kt : x < 0 → EV sc M d a lv st G Q) (kf : 0 ≤ x → EV sc M d pq lv st G Q) (hx : -2147483648 ≤ x := by omega) (hx2 : x < 2147483648 := by omega) : EV sc M d pc lv (.int (zI x) :: st) G Q := by
  have hy : -2147483648 ≤ (0 : Int) := by omega
  have hy2 : (0 : Int) < 2147483648 := by omega
  have e : zI 0 = 0 := rfl
  exact EV.if0 (p := x < 0) hr.1 (by have h := (zI_ltI hx hx2 hy hy2); rw [e] at h; exact h.symm) kt (fun h => hr.2.symm ▸ kf (by omega))
theorem EV.n2_ge {o : Int} {a b pq x y : Nat} (hr : RW M pc (.if_icmp .ge o) 3 a b pq) (kt : y ≤ x → EV sc M d a lv st G Q) (kf : x < y → EV sc M d pq lv st G Q) (hx : x < 2147483648 := by omega) (hy : y < 2147483648 := by omega) : EV sc M d pc lv (.int (nI y) :: .int (nI x) :: st) G Q := EV.if2 (p := y ≤ x) hr.1 (nI_leI hy hx).symm kt (fun h => hr.2.symm ▸ kf (by omega))
theorem EV.z2_ge {o : Int} {a b pq : Nat} {x y : Int} (hr : RW M pc (.if_icmp .ge o) 3 a b pq) (kt : y ≤ x → EV sc M d a lv st G Q) (kf : x < y → EV sc M d pq lv st G Q) (hx : -2147483648 ≤ x := by omega) (hx2 : x < 2147483648 := by omega) (hy : -2147483648 ≤ y := by omega) (hy2 : y < 2147483648 := by omega) : EV sc M d pc lv (.int (zI y) :: .int (zI x) :: st) G Q := EV.if2 (p := y ≤ x) hr.1 (zI_leI hy hy2 hx hx2).symm kt (fun h => hr.2.symm ▸ kf (by omega))
theorem EV.n0_ge {o : Int} {a b pq x : Nat} (hr : RW M pc (.ifCond .ge o) 3 a b pq) (kt : 0 ≤ x → EV sc M d a lv st G Q) (kf : x < 0 → EV sc M d pq lv st G Q) (hx : x < 2147483648 := by omega) : EV sc M d pc lv (.int (nI x) :: st) G Q := by
  have hy : (0 : Nat) < 2147483648 := by omega
  have e : nI 0 = 0 := nI_0
  exact EV.if0 (p := 0 ≤ x) hr.1 (by have h := (nI_leI hy hx); rw [e] at h; exact h.symm) kt (fun h => hr.2.symm ▸ kf (by omega))
theorem EV.z0_ge {o : Int} {a b pq : Nat} {x : Int} (hr : RW M pc (.ifCond .ge o) 3 a b pq) (kt : 0 ≤ x → EV sc M d a lv st G Q) (kf : x < 0 → EV sc M d pq lv st G Q) (hx : -2147483648 ≤ x := by omega) (hx2 : x < 2147483648 := by omega) : EV sc M d pc lv (.int (zI x) :: st) G Q := by
  have hy : -2147483648 ≤ (0 : Int) := by omega
  have hy2 : (0 : Int) < 2147483648 := by omega
  have e : zI 0 = 0 := rfl
  exact EV.if0 (p := 0 ≤ x) hr.1 (by have h := (zI_leI hy hy2 hx hx2); rw [e] at h; exact h.symm) kt (fun h => hr.2.symm ▸ kf (by omega))
theorem EV.n2_gt {o : Int} {a b pq x y : Nat} (hr : RW M pc (.if_icmp .gt o) 3 a b pq) (kt : y < x → EV sc M d a lv st G Q) (kf : x ≤ y → EV sc M d pq lv st G Q) (hx : x < 2147483648 := by omega) (hy : y < 2147483648 := by omega) : EV sc M d pc lv (.int (nI y) :: .int (nI x) :: st) G Q := EV.if2 (p := y < x) hr.1 (nI_ltI hy hx).symm kt (fun h => hr.2.symm ▸ kf (by omega))
theorem EV.z2_gt {o : Int} {a b pq : Nat} {x y : Int} (hr : RW M pc (.if_icmp .gt o) 3 a b pq) (kt : y < x → EV sc M d a lv st G Q) (kf : x ≤ y → EV sc M d pq lv st G Q) (hx : -2147483648 ≤ x := by omega) (hx2 : x < 2147483648 := by omega) (hy : -2147483648 ≤ y := by omega) (hy2 : y < 2147483648 := by omega) : EV sc M d pc lv (.int (zI y) :: .int (zI x) :: st) G Q := EV.if2 (p := y < x) hr.1 (zI_ltI hy hy2 hx hx2).symm kt (fun h => hr.2.symm ▸ kf (by omega))
theorem EV.n0_gt {o : Int} {a b pq x : Nat} (hr : RW M pc (.ifCond .gt o) 3 a b pq) (kt : 0 < x → EV sc M d a lv st G Q) (kf : x ≤ 0 → EV sc M d pq lv st G Q) (hx : x < 2147483648 := by omega) : EV sc M d pc lv (.int (nI x) :: st) G Q := by
  have hy : (0 : Nat) < 2147483648 := by omega
  have e : nI 0 = 0 := nI_0
  exact EV.if0 (p := 0 < x) hr.1 (by have h := (nI_ltI hy hx); rw [e] at h; exact h.symm) kt (fun h => hr.2.symm ▸ kf (by omega))
theorem EV.z0_gt {o : Int} {a b pq : Nat} {x : Int} (hr : RW M pc (.ifCond .gt o) 3 a b pq) (kt : 0 < x → EV sc M d a lv st G Q) (kf : x ≤ 0 → EV sc M d pq lv st G Q) (hx : -2147483648 ≤ x := by omega) (hx2 : x < 2147483648 := by omega) : EV sc M d pc lv (.int (zI x) :: st) G Q := by
  have hy : -2147483648 ≤ (0 : Int) := by omega
  have hy2 : (0 : Int) < 2147483648 := by omega
  have e : zI 0 = 0 := rfl
  exact EV.if0 (p := 0 < x) hr.1 (by have h := (zI_ltI hy hy2 hx hx2); rw [e] at h; exact h.symm) kt (fun h => hr.2.symm ▸ kf (by omega))
theorem EV.n2_le {o : Int} {a b pq x y : Nat} (hr : RW M pc (.if_icmp .le o) 3 a b pq) (kt : x ≤ y → EV sc M d a lv st G Q) (kf : y < x → EV sc M d pq lv st G Q) (hx : x < 2147483648 := by omega) (hy : y < 2147483648 := by omega) : EV sc M d pc lv (.int (nI y) :: .int (nI x) :: st) G Q := EV.if2 (p := x ≤ y) hr.1 (nI_leI hx hy).symm kt (fun h => hr.2.symm ▸ kf (by omega))
theorem EV.z2_le {o : Int} {a b pq : Nat} {x y : Int} (hr : RW M pc (.if_icmp .le o) 3 a b pq) (kt : x ≤ y → EV sc M d a lv st G Q) (kf : y < x → EV sc M d pq lv st G Q) (hx : -2147483648 ≤ x := by omega) (hx2 : x < 2147483648 := by omega) (hy : -2147483648 ≤ y := by omega) (hy2 : y < 2147483648 := by omega) : EV sc M d pc lv (.int (zI y) :: .int (zI x) :: st) G Q := EV.if2 (p := x ≤ y) hr.1 (zI_leI hx hx2 hy hy2).symm kt (fun h => hr.2.symm ▸ kf (by omega))
theorem EV.n0_le {o : Int} {a b pq x : Nat} (hr : RW M pc (.ifCond .le o) 3 a b pq) (kt : x ≤ 0 → EV sc M d a lv st G Q) (kf : 0 < x → EV sc M d pq lv st G Q) (hx : x < 2147483648 := by omega) : EV sc M d pc lv (.int (nI x) :: st) G Q := by
  have hy : (0 : Nat) < 2147483648 := by omega
  have e : nI 0 = 0 := nI_0
  exact EV.if0 (p := x ≤ 0) hr.1 (by have h := (nI_leI hx hy); rw [e] at h; exact h.symm) kt (fun h => hr.2.symm ▸ kf (by omega))
theorem EV.z0_le {o : Int} {a b pq : Nat} {x : Int} (hr : RW M pc (.ifCond .le o) 3 a b pq) (kt : x ≤ 0 → EV sc M d a lv st G Q) (kf : 0 < x → EV sc M d pq lv st G Q) (hx : -2147483648 ≤ x := by omega) (hx2 : x < 2147483648 := by omega) : EV sc M d pc lv (.int (zI x) :: st) G Q := by
  have hy : -2147483648 ≤ (0 : Int) := by omega
  have hy2 : (0 : Int) < 2147483648 := by omega
  have e : zI 0 = 0 := rfl
  exact EV.if0 (p := x ≤ 0) hr.1 (by have h := (zI_leI hx hx2 hy hy2); rw [e] at h; exact h.symm) kt (fun h => hr.2.symm ▸ kf (by omega))
theorem EV.sub {st' : List Value} {lv' : LV} {G' : AH} (h1 : lv = lv') (h2 : st = st') (h3 : G = G') (k : EV sc M d pc lv' st' G' Q) : EV sc M d pc lv st G Q := by subst h1 h2 h3; exact k
end NJ
/-- a call that answers a number and changes nothing -/
def RV (d j : Nat) (as : List Value) (I : Nat → Nat → Int32) (J : Nat → Nat → Int64) (v : Int32) : Prop := Cl d j as (hp I J) (.inl (some (.int v))) (hp I J) 0
/-- a call that answers nothing; the ints behind it -/
def RU (d j : Nat) (as : List Value) (I : Nat → Nat → Int32) (J : Nat → Nat → Int64) (P : (Nat → Nat → Int32) → Prop) : Prop := ∃ I', P I' ∧ Cl d j as (hp I J) (.inl none) (hp I' J) 0
/-- a call that answers a number; the ints behind it -/
def RI (d j : Nat) (as : List Value) (I : Nat → Nat → Int32) (J : Nat → Nat → Int64) (P : Int32 → (Nat → Nat → Int32) → Prop) : Prop := ∃ v I', P v I' ∧ Cl d j as (hp I J) (.inl (some (.int v))) (hp I' J) 0
def QV (I : Nat → Nat → Int32) (J : Nat → Nat → Int64) (v : Int32) (r : Option Value ⊕ Nat) (G : AH) (k : Nat) : Prop := r = .inl (some (.int v)) ∧ G = hp I J ∧ k = 0
def QU (J : Nat → Nat → Int64) (P : (Nat → Nat → Int32) → Prop) (r : Option Value ⊕ Nat) (G : AH) (k : Nat) : Prop := ∃ I', P I' ∧ r = .inl none ∧ G = hp I' J ∧ k = 0
def QI (J : Nat → Nat → Int64) (P : Int32 → (Nat → Nat → Int32) → Prop) (r : Option Value ⊕ Nat) (G : AH) (k : Nat) : Prop := ∃ v I', P v I' ∧ r = .inl (some (.int v)) ∧ G = hp I' J ∧ k = 0
section RR
variable {sc : Option (Nat × (Nat → Int32))} {M : MI} {d pc j : Nat} {lv : LV} {st as : List Value} {I : Nat → Nat → Int32} {J : Nat → Nat → Int64} {Q : (Option Value ⊕ Nat) → AH → Nat → Prop}
theorem RV.in {v : Int32} {d0 : Nat} (hd : d0 + 1 ≤ d) (hM : MT[j]? = some M) (hs : (lg_sl as).length ≤ M.ml) (h : ∀ d', d0 ≤ d' → EV none M d' 0 (lv_args 0 as) [] (hp I J) (QV I J v)) : RV d j as I J v := by
  obtain ⟨d', rfl⟩ : ∃ d', d = d' + 1 := ⟨d - 1, by omega⟩
  exact Cl.of (CL.intro hM hs (h d' (by omega)))
theorem RU.in {P : (Nat → Nat → Int32) → Prop} {d0 : Nat} (hd : d0 + 1 ≤ d) (hM : MT[j]? = some M) (hs : (lg_sl as).length ≤ M.ml) (h : ∀ d', d0 ≤ d' → EV none M d' 0 (lv_args 0 as) [] (hp I J) (QU J P)) : RU d j as I J P := by
  obtain ⟨d', rfl⟩ : ∃ d', d = d' + 1 := ⟨d - 1, by omega⟩
  obtain ⟨r, G, k, h1, h3⟩ := CL.intro hM hs (h d' (by omega))
  unfold QU at h3
  obtain ⟨I', h2, e1, e2, e3⟩ := h3
  rw [e1, e2, e3] at h1
  exact ⟨I', h2, h1⟩
theorem RI.in {P : Int32 → (Nat → Nat → Int32) → Prop} {d0 : Nat} (hd : d0 + 1 ≤ d) (hM : MT[j]? = some M) (hs : (lg_sl as).length ≤ M.ml) (h : ∀ d', d0 ≤ d' → EV none M d' 0 (lv_args 0 as) [] (hp I J) (QI J P)) : RI d j as I J P := by
  obtain ⟨d', rfl⟩ : ∃ d', d = d' + 1 := ⟨d - 1, by omega⟩
  obtain ⟨r, G, k, h1, h3⟩ := CL.intro hM hs (h d' (by omega))
  unfold QI at h3
  obtain ⟨v, I', h2, e1, e2, e3⟩ := h3
  rw [e1, e2, e3] at h1
  exact ⟨v, I', h2, h1⟩
theorem EV.rv {len a b pq : Nat} {x v : Int32} (hr : RW M pc .ireturn len a b pq) (hx : x = v) (h : retop M.rt .ireturn [.int x] = some (some (.int x)) := by rfl) : EV sc M d pc lv [.int x] (hp I J) (QV I J v) := EV.ret hr.1 h ⟨congrArg (fun z => Sum.inl (some (Value.int z))) hx, rfl, rfl⟩
theorem EV.ri {len a b pq : Nat} {x : Int32} {P : Int32 → (Nat → Nat → Int32) → Prop} (hr : RW M pc .ireturn len a b pq) (hx : P x I) (h : retop M.rt .ireturn [.int x] = some (some (.int x)) := by rfl) : EV sc M d pc lv [.int x] (hp I J) (QI J P) := EV.ret hr.1 h ⟨x, I, hx, rfl, rfl, rfl⟩
theorem EV.ru {len a b pq : Nat} {P : (Nat → Nat → Int32) → Prop} (hr : RW M pc .return_ len a b pq) (hx : P I) (h : retop M.rt .return_ [] = some none := by rfl) : EV sc M d pc lv [] (hp I J) (QU J P) := EV.ret hr.1 h ⟨I, hx, rfl, rfl, rfl⟩
theorem EV.cv {i : Instr} {a b pq : Nat} {rest : List Value} {v : Int32} (hr : RW M pc i 3 a b pq) (hA : invA MT i a st (hp I J) = some (as, rest)) (hc : RV d a as I J v) (k : EV sc M d pq lv (.int v :: rest) (hp I J) Q) (hi : isInv i = true := by rfl) (ha : a < 900 := by decide) (hw : Nat.ble (wcs rest) 8 = true := by rfl) : EV sc M d pc lv st (hp I J) Q :=
  EV.inv hr.1 hi ha hA (Nat.le_of_ble_eq_true hw) hc rfl (EV.mono (hr.2.symm ▸ k) (fun _ _ _ h => by rw [Nat.zero_add]; exact h))
theorem EV.cu {i : Instr} {a b pq : Nat} {rest : List Value} {P : (Nat → Nat → Int32) → Prop} (hr : RW M pc i 3 a b pq) (hA : invA MT i a st (hp I J) = some (as, rest)) (hc : RU d a as I J P) (k : ∀ I', P I' → EV sc M d pq lv rest (hp I' J) Q) (hi : isInv i = true := by rfl) (ha : a < 900 := by decide) (hw : Nat.ble (wcs rest) 8 = true := by rfl) : EV sc M d pc lv st (hp I J) Q := by
  obtain ⟨I', h1, h2⟩ := hc
  exact EV.inv hr.1 hi ha hA (Nat.le_of_ble_eq_true hw) h2 (hp_len _ _ _ _) (EV.mono (hr.2.symm ▸ k I' h1) (fun _ _ _ h => by rw [Nat.zero_add]; exact h))
theorem EV.ci {i : Instr} {a b pq : Nat} {rest : List Value} {P : Int32 → (Nat → Nat → Int32) → Prop} (hr : RW M pc i 3 a b pq) (hA : invA MT i a st (hp I J) = some (as, rest)) (hc : RI d a as I J P) (k : ∀ v I', P v I' → EV sc M d pq lv (.int v :: rest) (hp I' J) Q) (hi : isInv i = true := by rfl) (ha : a < 900 := by decide) (hw : Nat.ble (wcs rest) 8 = true := by rfl) : EV sc M d pc lv st (hp I J) Q := by
  obtain ⟨v, I', h1, h2⟩ := hc
  exact EV.inv hr.1 hi ha hA (Nat.le_of_ble_eq_true hw) h2 (hp_len _ _ _ _) (EV.mono (hr.2.symm ▸ k v I' h1) (fun _ _ _ h => by rw [Nat.zero_add]; exact h))
end RR
section AR
variable {a : Nat} {I : Nat → Nat → Int32} {J : Nat → Nat → Int64} {G : AH} {st : List Value}
theorem rcv {M' : MI} {c o : Nat} {sl : List (Option Nat)} (hM : MT[a]? = some M') (hl : LAYO[o]? = some (.inr (.inr (c, sl)))) (hc : c = M'.own) : recvOk MT a (hp I J) o = true := by
  have h := hp_at (I := I) (J := J) hl
  unfold recvOk clsOf
  split
  · rfl
  · simp only [hM, h, mkO, oC, hc, decide_true]
theorem npm {M' : MI} (hM : MT[a]? = some M') (ha : a < 900 := by decide) : npar MT a = some M'.np := by
  unfold npar
  split <;> first | omega | skip
  simp only [hM]
theorem aS0 {idx : Nat} {M' : MI} (hM : MT[a]? = some M') (hn : M'.np = 0 := by rfl) (ha : a < 900 := by decide) : invA MT (.invokestatic idx) a (st) G = some ([], st) := by
  unfold invA
  rw [npm hM ha, hn]
  simp
theorem aV0 {idx o c : Nat} {sl : List (Option Nat)} {M' : MI} (hM : MT[a]? = some M') (hl : LAYO[o]? = some (.inr (.inr (c, sl)))) (hn : M'.np = 0 := by rfl) (hc : c = M'.own := by rfl) (ha : a < 900 := by decide) : invA MT (.invokevirtual idx) a (.ref o :: st) (hp I J) = some ([.ref o], st) := by
  unfold invA
  rw [npm hM ha, hn]
  simp [rcv hM hl hc]
theorem aP0 {idx o : Nat} {M' : MI} (hM : MT[a]? = some M') (hn : M'.np = 0 := by rfl) (ha : a < 900 := by decide) : invA MT (.invokespecial idx) a (.ref o :: st) G = some ([.ref o], st) := by
  unfold invA
  rw [npm hM ha, hn]
  simp
theorem aS1 {x1 : Value} {idx : Nat} {M' : MI} (hM : MT[a]? = some M') (hn : M'.np = 1 := by rfl) (ha : a < 900 := by decide) : invA MT (.invokestatic idx) a (x1 :: st) G = some ([x1], st) := by
  unfold invA
  rw [npm hM ha, hn]
  simp
theorem aV1 {x1 : Value} {idx o c : Nat} {sl : List (Option Nat)} {M' : MI} (hM : MT[a]? = some M') (hl : LAYO[o]? = some (.inr (.inr (c, sl)))) (hn : M'.np = 1 := by rfl) (hc : c = M'.own := by rfl) (ha : a < 900 := by decide) : invA MT (.invokevirtual idx) a (x1 :: .ref o :: st) (hp I J) = some ([.ref o, x1], st) := by
  unfold invA
  rw [npm hM ha, hn]
  simp [rcv hM hl hc]
theorem aP1 {x1 : Value} {idx o : Nat} {M' : MI} (hM : MT[a]? = some M') (hn : M'.np = 1 := by rfl) (ha : a < 900 := by decide) : invA MT (.invokespecial idx) a (x1 :: .ref o :: st) G = some ([.ref o, x1], st) := by
  unfold invA
  rw [npm hM ha, hn]
  simp
theorem aS2 {x1 x2 : Value} {idx : Nat} {M' : MI} (hM : MT[a]? = some M') (hn : M'.np = 2 := by rfl) (ha : a < 900 := by decide) : invA MT (.invokestatic idx) a (x2 :: x1 :: st) G = some ([x1, x2], st) := by
  unfold invA
  rw [npm hM ha, hn]
  simp
theorem aV2 {x1 x2 : Value} {idx o c : Nat} {sl : List (Option Nat)} {M' : MI} (hM : MT[a]? = some M') (hl : LAYO[o]? = some (.inr (.inr (c, sl)))) (hn : M'.np = 2 := by rfl) (hc : c = M'.own := by rfl) (ha : a < 900 := by decide) : invA MT (.invokevirtual idx) a (x2 :: x1 :: .ref o :: st) (hp I J) = some ([.ref o, x1, x2], st) := by
  unfold invA
  rw [npm hM ha, hn]
  simp [rcv hM hl hc]
theorem aP2 {x1 x2 : Value} {idx o : Nat} {M' : MI} (hM : MT[a]? = some M') (hn : M'.np = 2 := by rfl) (ha : a < 900 := by decide) : invA MT (.invokespecial idx) a (x2 :: x1 :: .ref o :: st) G = some ([.ref o, x1, x2], st) := by
  unfold invA
  rw [npm hM ha, hn]
  simp
theorem aS3 {x1 x2 x3 : Value} {idx : Nat} {M' : MI} (hM : MT[a]? = some M') (hn : M'.np = 3 := by rfl) (ha : a < 900 := by decide) : invA MT (.invokestatic idx) a (x3 :: x2 :: x1 :: st) G = some ([x1, x2, x3], st) := by
  unfold invA
  rw [npm hM ha, hn]
  simp
theorem aV3 {x1 x2 x3 : Value} {idx o c : Nat} {sl : List (Option Nat)} {M' : MI} (hM : MT[a]? = some M') (hl : LAYO[o]? = some (.inr (.inr (c, sl)))) (hn : M'.np = 3 := by rfl) (hc : c = M'.own := by rfl) (ha : a < 900 := by decide) : invA MT (.invokevirtual idx) a (x3 :: x2 :: x1 :: .ref o :: st) (hp I J) = some ([.ref o, x1, x2, x3], st) := by
  unfold invA
  rw [npm hM ha, hn]
  simp [rcv hM hl hc]
theorem aP3 {x1 x2 x3 : Value} {idx o : Nat} {M' : MI} (hM : MT[a]? = some M') (hn : M'.np = 3 := by rfl) (ha : a < 900 := by decide) : invA MT (.invokespecial idx) a (x3 :: x2 :: x1 :: .ref o :: st) G = some ([.ref o, x1, x2, x3], st) := by
  unfold invA
  rw [npm hM ha, hn]
  simp
theorem aS4 {x1 x2 x3 x4 : Value} {idx : Nat} {M' : MI} (hM : MT[a]? = some M') (hn : M'.np = 4 := by rfl) (ha : a < 900 := by decide) : invA MT (.invokestatic idx) a (x4 :: x3 :: x2 :: x1 :: st) G = some ([x1, x2, x3, x4], st) := by
  unfold invA
  rw [npm hM ha, hn]
  simp
theorem aV4 {x1 x2 x3 x4 : Value} {idx o c : Nat} {sl : List (Option Nat)} {M' : MI} (hM : MT[a]? = some M') (hl : LAYO[o]? = some (.inr (.inr (c, sl)))) (hn : M'.np = 4 := by rfl) (hc : c = M'.own := by rfl) (ha : a < 900 := by decide) : invA MT (.invokevirtual idx) a (x4 :: x3 :: x2 :: x1 :: .ref o :: st) (hp I J) = some ([.ref o, x1, x2, x3, x4], st) := by
  unfold invA
  rw [npm hM ha, hn]
  simp [rcv hM hl hc]
theorem aP4 {x1 x2 x3 x4 : Value} {idx o : Nat} {M' : MI} (hM : MT[a]? = some M') (hn : M'.np = 4 := by rfl) (ha : a < 900 := by decide) : invA MT (.invokespecial idx) a (x4 :: x3 :: x2 :: x1 :: .ref o :: st) G = some ([.ref o, x1, x2, x3, x4], st) := by
  unfold invA
  rw [npm hM ha, hn]
  simp
theorem aS5 {x1 x2 x3 x4 x5 : Value} {idx : Nat} {M' : MI} (hM : MT[a]? = some M') (hn : M'.np = 5 := by rfl) (ha : a < 900 := by decide) : invA MT (.invokestatic idx) a (x5 :: x4 :: x3 :: x2 :: x1 :: st) G = some ([x1, x2, x3, x4, x5], st) := by
  unfold invA
  rw [npm hM ha, hn]
  simp
theorem aV5 {x1 x2 x3 x4 x5 : Value} {idx o c : Nat} {sl : List (Option Nat)} {M' : MI} (hM : MT[a]? = some M') (hl : LAYO[o]? = some (.inr (.inr (c, sl)))) (hn : M'.np = 5 := by rfl) (hc : c = M'.own := by rfl) (ha : a < 900 := by decide) : invA MT (.invokevirtual idx) a (x5 :: x4 :: x3 :: x2 :: x1 :: .ref o :: st) (hp I J) = some ([.ref o, x1, x2, x3, x4, x5], st) := by
  unfold invA
  rw [npm hM ha, hn]
  simp [rcv hM hl hc]
theorem aP5 {x1 x2 x3 x4 x5 : Value} {idx o : Nat} {M' : MI} (hM : MT[a]? = some M') (hn : M'.np = 5 := by rfl) (ha : a < 900 := by decide) : invA MT (.invokespecial idx) a (x5 :: x4 :: x3 :: x2 :: x1 :: .ref o :: st) G = some ([.ref o, x1, x2, x3, x4, x5], st) := by
  unfold invA
  rw [npm hM ha, hn]
  simp
theorem aS6 {x1 x2 x3 x4 x5 x6 : Value} {idx : Nat} {M' : MI} (hM : MT[a]? = some M') (hn : M'.np = 6 := by rfl) (ha : a < 900 := by decide) : invA MT (.invokestatic idx) a (x6 :: x5 :: x4 :: x3 :: x2 :: x1 :: st) G = some ([x1, x2, x3, x4, x5, x6], st) := by
  unfold invA
  rw [npm hM ha, hn]
  simp
theorem aV6 {x1 x2 x3 x4 x5 x6 : Value} {idx o c : Nat} {sl : List (Option Nat)} {M' : MI} (hM : MT[a]? = some M') (hl : LAYO[o]? = some (.inr (.inr (c, sl)))) (hn : M'.np = 6 := by rfl) (hc : c = M'.own := by rfl) (ha : a < 900 := by decide) : invA MT (.invokevirtual idx) a (x6 :: x5 :: x4 :: x3 :: x2 :: x1 :: .ref o :: st) (hp I J) = some ([.ref o, x1, x2, x3, x4, x5, x6], st) := by
  unfold invA
  rw [npm hM ha, hn]
  simp [rcv hM hl hc]
theorem aP6 {x1 x2 x3 x4 x5 x6 : Value} {idx o : Nat} {M' : MI} (hM : MT[a]? = some M') (hn : M'.np = 6 := by rfl) (ha : a < 900 := by decide) : invA MT (.invokespecial idx) a (x6 :: x5 :: x4 :: x3 :: x2 :: x1 :: .ref o :: st) G = some ([.ref o, x1, x2, x3, x4, x5, x6], st) := by
  unfold invA
  rw [npm hM ha, hn]
  simp
theorem aS7 {x1 x2 x3 x4 x5 x6 x7 : Value} {idx : Nat} {M' : MI} (hM : MT[a]? = some M') (hn : M'.np = 7 := by rfl) (ha : a < 900 := by decide) : invA MT (.invokestatic idx) a (x7 :: x6 :: x5 :: x4 :: x3 :: x2 :: x1 :: st) G = some ([x1, x2, x3, x4, x5, x6, x7], st) := by
  unfold invA
  rw [npm hM ha, hn]
  simp
theorem aV7 {x1 x2 x3 x4 x5 x6 x7 : Value} {idx o c : Nat} {sl : List (Option Nat)} {M' : MI} (hM : MT[a]? = some M') (hl : LAYO[o]? = some (.inr (.inr (c, sl)))) (hn : M'.np = 7 := by rfl) (hc : c = M'.own := by rfl) (ha : a < 900 := by decide) : invA MT (.invokevirtual idx) a (x7 :: x6 :: x5 :: x4 :: x3 :: x2 :: x1 :: .ref o :: st) (hp I J) = some ([.ref o, x1, x2, x3, x4, x5, x6, x7], st) := by
  unfold invA
  rw [npm hM ha, hn]
  simp [rcv hM hl hc]
theorem aP7 {x1 x2 x3 x4 x5 x6 x7 : Value} {idx o : Nat} {M' : MI} (hM : MT[a]? = some M') (hn : M'.np = 7 := by rfl) (ha : a < 900 := by decide) : invA MT (.invokespecial idx) a (x7 :: x6 :: x5 :: x4 :: x3 :: x2 :: x1 :: .ref o :: st) G = some ([.ref o, x1, x2, x3, x4, x5, x6, x7], st) := by
  unfold invA
  rw [npm hM ha, hn]
  simp
end AR
section MF
variable {sc : Option (Nat × (Nat → Int32))} {M : MI} {d pc : Nat} {lv : LV} {st : List Value} {I : Nat → Nat → Int32} {J : Nat → Nat → Int64} {Q : (Option Value ⊕ Nat) → AH → Nat → Prop}
theorem EV.gR {idx a b o r pq : Nat} {sl : List (Option Nat)} (hr : RW M pc (.getfield idx) 3 a b pq) (hl : LAYO[o]? = some (.inr (.inr (a, sl)))) (k : EV sc M d pq lv (.ref r :: st) (hp I J) Q) (hs : sl[b]? = some (some r) := by rfl) : EV sc M d pc lv (.ref o :: st) (hp I J) Q := EV.getR hr.1 hl hs (hr.2.symm ▸ k)
theorem EV.gI {idx a b o pq : Nat} {sl : List (Option Nat)} (hr : RW M pc (.getfield idx) 3 a b pq) (hl : LAYO[o]? = some (.inr (.inr (a, sl)))) (k : EV sc M d pq lv (.int (I o b) :: st) (hp I J) Q) (hs : sl[b]? = some none := by rfl) : EV sc M d pc lv (.ref o :: st) (hp I J) Q := EV.getI hr.1 hl hs (hr.2.symm ▸ k)
theorem EV.pI {idx a b o pq : Nat} {x : Int32} {sl : List (Option Nat)} (hr : RW M pc (.putfield idx) 3 a b pq) (hl : LAYO[o]? = some (.inr (.inr (a, sl)))) (k : EV sc M d pq lv st (hp (wr I o b x) J) Q) (hs : sl[b]? = some none := by rfl) (hf : FTY a b = .int := by rfl) : EV sc M d pc lv (.int x :: .ref o :: st) (hp I J) Q := EV.putI hr.1 hl hs hf (hr.2.symm ▸ k)
theorem EV.al {len a b o n pq : Nat} (hr : RW M pc .arraylength len a b pq) (hl : LAYO[o]? = some (.inl n)) (k : EV sc M d pq lv (.int (nI n) :: st) (hp I J) Q) (ho : o < spc := by decide) : EV sc M d pc lv (.ref o :: st) (hp I J) Q := EV.alenI hr.1 hl (by omega) (hr.2.symm ▸ k)
/-- a field that is known -/
theorem EV.getV {idx a b o pq : Nat} {v : Int32} {sl : List (Option Nat)} (hr : RW M pc (.getfield idx) 3 a b pq) (hl : LAYO[o]? = some (.inr (.inr (a, sl)))) (hv : I o b = v) (k : EV sc M d pq lv (.int v :: st) (hp I J) Q) (hs : sl[b]? = some none := by rfl) : EV sc M d pc lv (.ref o :: st) (hp I J) Q := by
  subst hv
  exact EV.getI hr.1 hl hs (hr.2.symm ▸ k)
theorem EV.iaN {len a b o n jn pq : Nat} {v : Int32} (hr : RW M pc .iaload len a b pq) (hl : LAYO[o]? = some (.inl n)) (hv : I o jn = v) (k : EV sc M d pq lv (.int v :: st) (hp I J) Q) (hn : jn < n := by omega) (hn2 : n < 2147483648 := by omega) (ho : o < spc := by decide) : EV sc M d pc lv (.int (nI jn) :: .ref o :: st) (hp I J) Q := by
  subst hv
  exact EV.ialoadI hr.1 hl rfl hn hn2 (by omega) (hr.2.symm ▸ k)
theorem EV.iaS {len a b o n jn pq : Nat} {x : Int32} (hr : RW M pc .iastore len a b pq) (hl : LAYO[o]? = some (.inl n)) (k : EV sc M d pq lv st (hp (wr I o jn x) J) Q) (hn : jn < n := by omega) (hn2 : n < 2147483648 := by omega) : EV sc M d pc lv (.int x :: .int (nI jn) :: .ref o :: st) (hp I J) Q := EV.iastoreI hr.1 hl rfl hn hn2 (hr.2.symm ▸ k)
end MF
theorem mt_of {j : Nat} {q : MI × Nat} (h : MTK[j]? = some q) : MT[j]? = some q.1 := by unfold MT; rw [List.getElem?_map, h]; rfl
theorem mt_0 : MT[0]? = some M_X0_init := mt_of (q := (M_X0_init, 2)) rfl
theorem mt_1 : MT[1]? = some M_X0_reset := mt_of (q := (M_X0_reset, 1)) rfl
theorem mt_2 : MT[2]? = some M_X0_become := mt_of (q := (M_X0_become, 1)) rfl
theorem mt_3 : MT[3]? = some M_X0_readFrom := mt_of (q := (M_X0_readFrom, 1)) rfl
theorem mt_4 : MT[4]? = some M_X0_readLine := mt_of (q := (M_X0_readLine, 1)) rfl
theorem mt_5 : MT[5]? = some M_X0_agrees := mt_of (q := (M_X0_agrees, 1)) rfl
theorem mt_6 : MT[6]? = some M_X1_init := mt_of (q := (M_X1_init, 2)) rfl
theorem mt_7 : MT[7]? = some M_X1_readFrom := mt_of (q := (M_X1_readFrom, 1)) rfl
theorem mt_8 : MT[8]? = some M_X1_readClause := mt_of (q := (M_X1_readClause, 1)) rfl
theorem mt_9 : MT[9]? = some M_X1_readSaying := mt_of (q := (M_X1_readSaying, 1)) rfl
theorem mt_10 : MT[10]? = some M_X1_readRule := mt_of (q := (M_X1_readRule, 1)) rfl
theorem mt_11 : MT[11]? = some M_X1_readBird := mt_of (q := (M_X1_readBird, 1)) rfl
theorem mt_12 : MT[12]? = some M_X1_readCounsel := mt_of (q := (M_X1_readCounsel, 1)) rfl
theorem mt_13 : MT[13]? = some M_X1_become := mt_of (q := (M_X1_become, 1)) rfl
theorem mt_14 : MT[14]? = some M_X1_allSayings := mt_of (q := (M_X1_allSayings, 1)) rfl
theorem mt_15 : MT[15]? = some M_X1_allCounsel := mt_of (q := (M_X1_allCounsel, 1)) rfl
theorem mt_16 : MT[16]? = some M_X1_ofSide := mt_of (q := (M_X1_ofSide, 1)) rfl
theorem mt_17 : MT[17]? = some M_X1_weightOf := mt_of (q := (M_X1_weightOf, 1)) rfl
theorem mt_18 : MT[18]? = some M_X1_heaviest := mt_of (q := (M_X1_heaviest, 1)) rfl
theorem mt_19 : MT[19]? = some M_X1_closure := mt_of (q := (M_X1_closure, 1)) rfl
theorem mt_20 : MT[20]? = some M_X1_isUsed := mt_of (q := (M_X1_isUsed, 1)) rfl
theorem mt_21 : MT[21]? = some M_X1_rulesUsed := mt_of (q := (M_X1_rulesUsed, 1)) rfl
theorem mt_22 : MT[22]? = some M_X1_leanFrom := mt_of (q := (M_X1_leanFrom, 1)) rfl
theorem mt_23 : MT[23]? = some M_X2_init := mt_of (q := (M_X2_init, 2)) rfl
theorem mt_24 : MT[24]? = some M_X2_begin := mt_of (q := (M_X2_begin, 1)) rfl
theorem mt_25 : MT[25]? = some M_X2_become := mt_of (q := (M_X2_become, 1)) rfl
theorem mt_26 : MT[26]? = some M_X2_save := mt_of (q := (M_X2_save, 1)) rfl
theorem mt_27 : MT[27]? = some M_X2_load := mt_of (q := (M_X2_load, 1)) rfl
theorem mt_28 : MT[28]? = some M_X2_measure := mt_of (q := (M_X2_measure, 1)) rfl
theorem mt_29 : MT[29]? = some M_X2_walkIfLed := mt_of (q := (M_X2_walkIfLed, 1)) rfl
theorem mt_30 : MT[30]? = some M_X2_beginIfLed := mt_of (q := (M_X2_beginIfLed, 1)) rfl
theorem mt_31 : MT[31]? = some M_X2_coveredIfLed := mt_of (q := (M_X2_coveredIfLed, 1)) rfl
theorem mt_32 : MT[32]? = some M_X2_crumbsOf := mt_of (q := (M_X2_crumbsOf, 1)) rfl
theorem mt_33 : MT[33]? = some M_X2_lastOn := mt_of (q := (M_X2_lastOn, 1)) rfl
theorem mt_34 : MT[34]? = some M_X2_birdsOn := mt_of (q := (M_X2_birdsOn, 1)) rfl
theorem mt_35 : MT[35]? = some M_X2_doesCount := mt_of (q := (M_X2_doesCount, 1)) rfl
theorem mt_36 : MT[36]? = some M_X2_counting := mt_of (q := (M_X2_counting, 1)) rfl
theorem mt_37 : MT[37]? = some M_X2_saidBetween := mt_of (q := (M_X2_saidBetween, 1)) rfl
theorem mt_38 : MT[38]? = some M_X2_heardBy := mt_of (q := (M_X2_heardBy, 1)) rfl
theorem mt_39 : MT[39]? = some M_X2_nextSaid := mt_of (q := (M_X2_nextSaid, 1)) rfl
theorem mt_40 : MT[40]? = some M_X2_isNoted := mt_of (q := (M_X2_isNoted, 1)) rfl
theorem mt_41 : MT[41]? = some M_X2_canLead := mt_of (q := (M_X2_canLead, 1)) rfl
theorem mt_42 : MT[42]? = some M_X2_callBird := mt_of (q := (M_X2_callBird, 1)) rfl
theorem mt_43 : MT[43]? = some M_X2_leadBird := mt_of (q := (M_X2_leadBird, 1)) rfl
theorem mt_44 : MT[44]? = some M_X2_putOff := mt_of (q := (M_X2_putOff, 1)) rfl
theorem mt_45 : MT[45]? = some M_X2_noteSaying := mt_of (q := (M_X2_noteSaying, 1)) rfl
theorem mt_46 : MT[46]? = some M_X2_passMinute := mt_of (q := (M_X2_passMinute, 1)) rfl
theorem mt_47 : MT[47]? = some M_X3_init := mt_of (q := (M_X3_init, 2)) rfl
theorem mt_48 : MT[48]? = some M_X3_reset := mt_of (q := (M_X3_reset, 1)) rfl
theorem mt_49 : MT[49]? = some M_X3_become := mt_of (q := (M_X3_become, 1)) rfl
theorem mt_50 : MT[50]? = some M_X3_readFrom := mt_of (q := (M_X3_readFrom, 1)) rfl
theorem mt_51 : MT[51]? = some M_X3_readSum := mt_of (q := (M_X3_readSum, 1)) rfl
theorem mt_52 : MT[52]? = some M_X3_readProduct := mt_of (q := (M_X3_readProduct, 1)) rfl
theorem mt_53 : MT[53]? = some M_X3_readUnit := mt_of (q := (M_X3_readUnit, 1)) rfl
theorem mt_54 : MT[54]? = some M_X3_readChoice := mt_of (q := (M_X3_readChoice, 1)) rfl
theorem mt_55 : MT[55]? = some M_X3_readInput := mt_of (q := (M_X3_readInput, 1)) rfl
theorem mt_56 : MT[56]? = some M_X3_addPart := mt_of (q := (M_X3_addPart, 1)) rfl
theorem mt_57 : MT[57]? = some M_X3_walk := mt_of (q := (M_X3_walk, 1)) rfl
theorem mt_58 : MT[58]? = some M_X3_apply := mt_of (q := (M_X3_apply, 0)) rfl
theorem mt_59 : MT[59]? = some M_X4_init := mt_of (q := (M_X4_init, 2)) rfl
theorem mt_60 : MT[60]? = some M_X4_reset := mt_of (q := (M_X4_reset, 1)) rfl
theorem mt_61 : MT[61]? = some M_X4_push := mt_of (q := (M_X4_push, 1)) rfl
theorem mt_62 : MT[62]? = some M_X4_pop := mt_of (q := (M_X4_pop, 1)) rfl
theorem mt_63 : MT[63]? = some M_X4_takeImage := mt_of (q := (M_X4_takeImage, 1)) rfl
theorem mt_64 : MT[64]? = some M_X4_bringImage := mt_of (q := (M_X4_bringImage, 1)) rfl
theorem mt_65 : MT[65]? = some M_X5_init := mt_of (q := (M_X5_init, 2)) rfl
theorem mt_66 : MT[66]? = some M_X5_readFrom := mt_of (q := (M_X5_readFrom, 1)) rfl
theorem mt_67 : MT[67]? = some M_X5_readStep := mt_of (q := (M_X5_readStep, 1)) rfl
theorem mt_68 : MT[68]? = some M_X5_startStep := mt_of (q := (M_X5_startStep, 1)) rfl
theorem mt_69 : MT[69]? = some M_X5_readWho := mt_of (q := (M_X5_readWho, 1)) rfl
theorem mt_70 : MT[70]? = some M_X5_readHowMuch := mt_of (q := (M_X5_readHowMuch, 1)) rfl
theorem mt_71 : MT[71]? = some M_X5_readAgain := mt_of (q := (M_X5_readAgain, 1)) rfl
theorem mt_72 : MT[72]? = some M_X5_run := mt_of (q := (M_X5_run, 1)) rfl
theorem mt_73 : MT[73]? = some M_X5_repeat := mt_of (q := (M_X5_repeat, 1)) rfl
theorem mt_74 : MT[74]? = some M_X5_doStep := mt_of (q := (M_X5_doStep, 0)) rfl
theorem mt_75 : MT[75]? = some M_X6_init := mt_of (q := (M_X6_init, 2)) rfl
theorem mt_76 : MT[76]? = some M_X6_addNumber := mt_of (q := (M_X6_addNumber, 1)) rfl
theorem mt_77 : MT[77]? = some M_X6_start := mt_of (q := (M_X6_start, 1)) rfl
theorem mt_78 : MT[78]? = some M_X6_advance := mt_of (q := (M_X6_advance, 1)) rfl
theorem mt_79 : MT[79]? = some M_X6_takeDigits := mt_of (q := (M_X6_takeDigits, 1)) rfl
theorem mt_80 : MT[80]? = some M_X6_takeLetters := mt_of (q := (M_X6_takeLetters, 1)) rfl
theorem mt_81 : MT[81]? = some M_X6_hasMore := mt_of (q := (M_X6_hasMore, 1)) rfl
theorem mt_82 : MT[82]? = some M_X6_seesNumber := mt_of (q := (M_X6_seesNumber, 1)) rfl
theorem mt_83 : MT[83]? = some M_X6_seesSign := mt_of (q := (M_X6_seesSign, 1)) rfl
theorem mt_84 : MT[84]? = some M_X6_seesWord := mt_of (q := (M_X6_seesWord, 1)) rfl
theorem mt_85 : MT[85]? = some M_X6_takeNumber := mt_of (q := (M_X6_takeNumber, 1)) rfl
theorem mt_86 : MT[86]? = some M_X6_takeSign := mt_of (q := (M_X6_takeSign, 1)) rfl
theorem mt_87 : MT[87]? = some M_X6_takeIfRoom := mt_of (q := (M_X6_takeIfRoom, 1)) rfl
theorem mt_88 : MT[88]? = some M_X6_fail := mt_of (q := (M_X6_fail, 1)) rfl
theorem mt_89 : MT[89]? = some M_X6_isDigit := mt_of (q := (M_X6_isDigit, 0)) rfl
theorem mt_90 : MT[90]? = some M_X6_isLetter := mt_of (q := (M_X6_isLetter, 0)) rfl
theorem mt_91 : MT[91]? = some M_X7_init := mt_of (q := (M_X7_init, 2)) rfl
theorem mt_92 : MT[92]? = some M_X7_get := mt_of (q := (M_X7_get, 1)) rfl
theorem mt_93 : MT[93]? = some M_X7_set := mt_of (q := (M_X7_set, 1)) rfl
theorem mt_94 : MT[94]? = some M_X7_copy := mt_of (q := (M_X7_copy, 1)) rfl
theorem mt_95 : MT[95]? = some M_X8_init := mt_of (q := (M_X8_init, 2)) rfl
theorem mt_96 : MT[96]? = some M_X8_coverAll := mt_of (q := (M_X8_coverAll, 1)) rfl
theorem mt_97 : MT[97]? = some M_X8_findHiding := mt_of (q := (M_X8_findHiding, 1)) rfl
theorem mt_98 : MT[98]? = some M_X8_leadFrom := mt_of (q := (M_X8_leadFrom, 1)) rfl
theorem mt_99 : MT[99]? = some M_X8_leadBirdEachWay := mt_of (q := (M_X8_leadBirdEachWay, 1)) rfl
theorem mt_100 : MT[100]? = some M_X8_leastProof := mt_of (q := (M_X8_leastProof, 1)) rfl
theorem mt_101 : MT[101]? = some M_X8_leastTurn := mt_of (q := (M_X8_leastTurn, 1)) rfl
theorem mt_102 : MT[102]? = some M_X8_isBetter := mt_of (q := (M_X8_isBetter, 0)) rfl
theorem mt_103 : MT[103]? = some M_X8_weighPairs := mt_of (q := (M_X8_weighPairs, 1)) rfl
theorem mt_104 : MT[104]? = some M_X8_coveredByOthers := mt_of (q := (M_X8_coveredByOthers, 1)) rfl
theorem mt_105 : MT[105]? = some M_X8_weighPair := mt_of (q := (M_X8_weighPair, 1)) rfl
theorem mt_106 : MT[106]? = some M_X8_pairsLeft := mt_of (q := (M_X8_pairsLeft, 1)) rfl
theorem mt_107 : MT[107]? = some M_X8_bestQuestion := mt_of (q := (M_X8_bestQuestion, 1)) rfl
theorem mt_108 : MT[108]? = some M_X9_init := mt_of (q := (M_X9_init, 2)) rfl
theorem mt_109 : MT[109]? = some M_X9_play := mt_of (q := (M_X9_play, 1)) rfl
theorem mt_110 : MT[110]? = some M_X9_playBird := mt_of (q := (M_X9_playBird, 1)) rfl
theorem mt_111 : MT[111]? = some M_X9_draw := mt_of (q := (M_X9_draw, 1)) rfl
theorem mt_112 : MT[112]? = some M_X10_init := mt_of (q := (M_X10_init, 2)) rfl
theorem mt_113 : MT[113]? = some M_X10_feed := mt_of (q := (M_X10_feed, 1)) rfl
theorem mt_114 : MT[114]? = some M_X10_court := mt_of (q := (M_X10_court, 1)) rfl
theorem mt_115 : MT[115]? = some M_X10_law := mt_of (q := (M_X10_law, 1)) rfl
theorem mt_116 : MT[116]? = some M_X10_work := mt_of (q := (M_X10_work, 1)) rfl
theorem mt_117 : MT[117]? = some M_X10_book := mt_of (q := (M_X10_book, 1)) rfl
theorem mt_118 : MT[118]? = some M_X10_fault := mt_of (q := (M_X10_fault, 1)) rfl
theorem mt_119 : MT[119]? = some M_X10_undo := mt_of (q := (M_X10_undo, 1)) rfl
theorem mt_120 : MT[120]? = some M_X10_told := mt_of (q := (M_X10_told, 1)) rfl
theorem mt_121 : MT[121]? = some M_X10_lean := mt_of (q := (M_X10_lean, 1)) rfl
theorem mt_122 : MT[122]? = some M_X10_saying := mt_of (q := (M_X10_saying, 1)) rfl
theorem mt_123 : MT[123]? = some M_X10_bird := mt_of (q := (M_X10_bird, 1)) rfl
theorem mt_124 : MT[124]? = some M_X10_counsel := mt_of (q := (M_X10_counsel, 1)) rfl
theorem mt_125 : MT[125]? = some M_X10_would := mt_of (q := (M_X10_would, 1)) rfl
theorem mt_126 : MT[126]? = some M_X10_at := mt_of (q := (M_X10_at, 1)) rfl
theorem mt_127 : MT[127]? = some M_X10_clear := mt_of (q := (M_X10_clear, 1)) rfl
theorem mt_128 : MT[128]? = some M_X10_hide := mt_of (q := (M_X10_hide, 1)) rfl
theorem mt_129 : MT[129]? = some M_X10_follows := mt_of (q := (M_X10_follows, 1)) rfl
theorem mt_130 : MT[130]? = some M_X10_proof := mt_of (q := (M_X10_proof, 1)) rfl
theorem mt_131 : MT[131]? = some M_X10_turn := mt_of (q := (M_X10_turn, 1)) rfl
theorem mt_132 : MT[132]? = some M_X10_fits := mt_of (q := (M_X10_fits, 1)) rfl
theorem mt_133 : MT[133]? = some M_X10_look := mt_of (q := (M_X10_look, 1)) rfl
theorem mt_134 : MT[134]? = some M_X10_kind := mt_of (q := (M_X10_kind, 1)) rfl
theorem mt_135 : MT[135]? = some M_X10_order := mt_of (q := (M_X10_order, 1)) rfl
theorem mt_136 : MT[136]? = some M_X10_loaf := mt_of (q := (M_X10_loaf, 1)) rfl
theorem mt_137 : MT[137]? = some M_X10_loss := mt_of (q := (M_X10_loss, 1)) rfl
theorem mt_138 : MT[138]? = some M_X10_next := mt_of (q := (M_X10_next, 1)) rfl
theorem mt_139 : MT[139]? = some M_X10_side := mt_of (q := (M_X10_side, 1)) rfl
theorem mt_140 : MT[140]? = some M_X10_leaders := mt_of (q := (M_X10_leaders, 1)) rfl
theorem mt_141 : MT[141]? = some M_X10_used := mt_of (q := (M_X10_used, 1)) rfl
theorem mt_142 : MT[142]? = some M_X10_over := mt_of (q := (M_X10_over, 1)) rfl
theorem mt_143 : MT[143]? = some M_X10_delay := mt_of (q := (M_X10_delay, 1)) rfl
theorem mt_144 : MT[144]? = some M_X10_point := mt_of (q := (M_X10_point, 1)) rfl
theorem mt_145 : MT[145]? = some M_X10_purse := mt_of (q := (M_X10_purse, 1)) rfl
theorem mt_146 : MT[146]? = some M_X10_pairs := mt_of (q := (M_X10_pairs, 1)) rfl
theorem mt_147 : MT[147]? = some M_X10_crowd := mt_of (q := (M_X10_crowd, 1)) rfl
theorem mt_148 : MT[148]? = some M_X10_swing := mt_of (q := (M_X10_swing, 1)) rfl
theorem mt_149 : MT[149]? = some M_X10_when := mt_of (q := (M_X10_when, 1)) rfl
theorem mt_150 : MT[150]? = some M_X10_term := mt_of (q := (M_X10_term, 1)) rfl
theorem mt_151 : MT[151]? = some M_X10_span := mt_of (q := (M_X10_span, 1)) rfl
theorem mt_152 : MT[152]? = some M_X10_image := mt_of (q := (M_X10_image, 1)) rfl
theorem mt_153 : MT[153]? = some M_X10_restore := mt_of (q := (M_X10_restore, 1)) rfl
theorem mt_154 : MT[154]? = some M_X10_status := mt_of (q := (M_X10_status, 1)) rfl
theorem mt_155 : MT[155]? = some M_X10_count := mt_of (q := (M_X10_count, 1)) rfl
theorem mt_156 : MT[156]? = some M_X10_startText := mt_of (q := (M_X10_startText, 1)) rfl
theorem mt_157 : MT[157]? = some M_X10_checkTerm := mt_of (q := (M_X10_checkTerm, 1)) rfl
theorem mt_158 : MT[158]? = some M_X10_checkBits := mt_of (q := (M_X10_checkBits, 1)) rfl
theorem mt_159 : MT[159]? = some M_X10_checkArgument := mt_of (q := (M_X10_checkArgument, 1)) rfl
theorem mt_160 : MT[160]? = some M_X10_checkThere := mt_of (q := (M_X10_checkThere, 1)) rfl
theorem mt_161 : MT[161]? = some M_X10_sayingOrWeight := mt_of (q := (M_X10_sayingOrWeight, 1)) rfl
theorem mt_162 : MT[162]? = some M_X10_bit := mt_of (q := (M_X10_bit, 0)) rfl
theorem mt_163 : MT[163]? = some M_X10_has := mt_of (q := (M_X10_has, 0)) rfl
theorem mt_164 : MT[164]? = some M_X10_power := mt_of (q := (M_X10_power, 0)) rfl
theorem mt_165 : MT[165]? = some M_X10_waysToChoose := mt_of (q := (M_X10_waysToChoose, 0)) rfl
theorem mt_166 : MT[166]? = some M_X10_gain := mt_of (q := (M_X10_gain, 0)) rfl
theorem mt_167 : MT[167]? = some M_X10_isRest := mt_of (q := (M_X10_isRest, 0)) rfl
theorem mt_168 : MT[168]? = some M_X11_thrown := mt_of (q := (M_X11_thrown, 1)) rfl
theorem mt_169 : MT[169]? = some M_X11_may := mt_of (q := (M_X11_may, 1)) rfl
theorem mt_170 : MT[170]? = some M_X11_within := mt_of (q := (M_X11_within, 0)) rfl
theorem mt_171 : MT[171]? = some M_X11_init := mt_of (q := (M_X11_init, 2)) rfl
theorem mt_172 : MT[172]? = some M_X11_feed := mt_of (q := (M_X11_feed, 1)) rfl
theorem mt_173 : MT[173]? = some M_X11_fine := mt_of (q := (M_X11_fine, 1)) rfl
theorem mt_174 : MT[174]? = some M_X11_wrong := mt_of (q := (M_X11_wrong, 1)) rfl
theorem mt_175 : MT[175]? = some M_X11_here := mt_of (q := (M_X11_here, 1)) rfl
theorem mt_176 : MT[176]? = some M_X11_isSmall := mt_of (q := (M_X11_isSmall, 0)) rfl
theorem mt_177 : MT[177]? = some M_X11_isDigit := mt_of (q := (M_X11_isDigit, 0)) rfl
theorem mt_178 : MT[178]? = some M_X11_word := mt_of (q := (M_X11_word, 1)) rfl
theorem mt_179 : MT[179]? = some M_X11_of := mt_of (q := (M_X11_of, 0)) rfl
theorem mt_180 : MT[180]? = some M_X11_pass := mt_of (q := (M_X11_pass, 1)) rfl
theorem mt_181 : MT[181]? = some M_X11_readNumber := mt_of (q := (M_X11_readNumber, 1)) rfl
theorem mt_182 : MT[182]? = some M_X11_sign := mt_of (q := (M_X11_sign, 1)) rfl
theorem mt_183 : MT[183]? = some M_X11_isMore := mt_of (q := (M_X11_isMore, 1)) rfl
theorem mt_184 : MT[184]? = some M_X11_begins := mt_of (q := (M_X11_begins, 1)) rfl
theorem mt_185 : MT[185]? = some M_X11_result := mt_of (q := (M_X11_result, 1)) rfl
theorem mt_186 : MT[186]? = some M_X11_fault := mt_of (q := (M_X11_fault, 1)) rfl
theorem mt_187 : MT[187]? = some M_X11_copies := mt_of (q := (M_X11_copies, 1)) rfl
theorem mt_188 : MT[188]? = some M_X11_clears := mt_of (q := (M_X11_clears, 1)) rfl
theorem mt_189 : MT[189]? = some M_X11_sets := mt_of (q := (M_X11_sets, 1)) rfl
theorem mt_190 : MT[190]? = some M_X11_rowOf := mt_of (q := (M_X11_rowOf, 0)) rfl
theorem mt_191 : MT[191]? = some M_X11_standsHere := mt_of (q := (M_X11_standsHere, 1)) rfl
theorem mt_192 : MT[192]? = some M_X11_isFull := mt_of (q := (M_X11_isFull, 1)) rfl
theorem mt_193 : MT[193]? = some M_X11_readRow := mt_of (q := (M_X11_readRow, 1)) rfl
theorem mt_194 : MT[194]? = some M_X11_court := mt_of (q := (M_X11_court, 1)) rfl
theorem mt_195 : MT[195]? = some M_X11_emit := mt_of (q := (M_X11_emit, 1)) rfl
theorem mt_196 : MT[196]? = some M_X11_opensOne := mt_of (q := (M_X11_opensOne, 1)) rfl
theorem mt_197 : MT[197]? = some M_X11_readSum := mt_of (q := (M_X11_readSum, 1)) rfl
theorem mt_198 : MT[198]? = some M_X11_readProduct := mt_of (q := (M_X11_readProduct, 1)) rfl
theorem mt_199 : MT[199]? = some M_X11_readTwo := mt_of (q := (M_X11_readTwo, 1)) rfl
theorem mt_200 : MT[200]? = some M_X11_factHere := mt_of (q := (M_X11_factHere, 1)) rfl
theorem mt_201 : MT[201]? = some M_X11_readUnit := mt_of (q := (M_X11_readUnit, 1)) rfl
theorem mt_202 : MT[202]? = some M_X11_law := mt_of (q := (M_X11_law, 1)) rfl
theorem mt_203 : MT[203]? = some M_X11_valueNow := mt_of (q := (M_X11_valueNow, 1)) rfl
theorem mt_204 : MT[204]? = some M_X11_both := mt_of (q := (M_X11_both, 0)) rfl
theorem mt_205 : MT[205]? = some M_X11_walkNow := mt_of (q := (M_X11_walkNow, 1)) rfl
theorem mt_206 : MT[206]? = some M_X11_tellsStep := mt_of (q := (M_X11_tellsStep, 1)) rfl
theorem mt_207 : MT[207]? = some M_X11_stepOf := mt_of (q := (M_X11_stepOf, 0)) rfl
theorem mt_208 : MT[208]? = some M_X11_readAgain := mt_of (q := (M_X11_readAgain, 1)) rfl
theorem mt_209 : MT[209]? = some M_X11_readStep := mt_of (q := (M_X11_readStep, 1)) rfl
theorem mt_210 : MT[210]? = some M_X11_work := mt_of (q := (M_X11_work, 1)) rfl
theorem mt_211 : MT[211]? = some M_X11_goesSteps := mt_of (q := (M_X11_goesSteps, 1)) rfl
theorem mt_212 : MT[212]? = some M_X11_take := mt_of (q := (M_X11_take, 1)) rfl
theorem mt_213 : MT[213]? = some M_X11_ones := mt_of (q := (M_X11_ones, 0)) rfl
theorem mt_214 : MT[214]? = some M_X11_sumOf := mt_of (q := (M_X11_sumOf, 1)) rfl
theorem mt_215 : MT[215]? = some M_X11_held := mt_of (q := (M_X11_held, 0)) rfl
theorem mt_216 : MT[216]? = some M_X11_walkOf := mt_of (q := (M_X11_walkOf, 1)) rfl
theorem mt_217 : MT[217]? = some M_X11_walkBy := mt_of (q := (M_X11_walkBy, 1)) rfl
theorem mt_218 : MT[218]? = some M_X11_isOn := mt_of (q := (M_X11_isOn, 1)) rfl
theorem mt_219 : MT[219]? = some M_X11_overBy := mt_of (q := (M_X11_overBy, 1)) rfl
theorem mt_220 : MT[220]? = some M_X11_birdsAt := mt_of (q := (M_X11_birdsAt, 1)) rfl
theorem mt_221 : MT[221]? = some M_X11_countsNow := mt_of (q := (M_X11_countsNow, 1)) rfl
theorem mt_222 : MT[222]? = some M_X11_saidBy := mt_of (q := (M_X11_saidBy, 1)) rfl
theorem mt_223 : MT[223]? = some M_X11_allFrom := mt_of (q := (M_X11_allFrom, 1)) rfl
theorem mt_224 : MT[224]? = some M_X11_weightOf := mt_of (q := (M_X11_weightOf, 1)) rfl
theorem mt_225 : MT[225]? = some M_X11_leanOf := mt_of (q := (M_X11_leanOf, 1)) rfl
theorem mt_226 : MT[226]? = some M_X11_heardBy := mt_of (q := (M_X11_heardBy, 1)) rfl
theorem mt_227 : MT[227]? = some M_X11_isCalled := mt_of (q := (M_X11_isCalled, 1)) rfl
theorem mt_228 : MT[228]? = some M_X11_mayLead := mt_of (q := (M_X11_mayLead, 1)) rfl
theorem mt_229 : MT[229]? = some M_X11_isLed := mt_of (q := (M_X11_isLed, 1)) rfl
theorem mt_230 : MT[230]? = some M_X11_isPut := mt_of (q := (M_X11_isPut, 1)) rfl
theorem mt_231 : MT[231]? = some M_X11_isNoted := mt_of (q := (M_X11_isNoted, 1)) rfl
theorem mt_232 : MT[232]? = some M_X11_isDone := mt_of (q := (M_X11_isDone, 1)) rfl
theorem mt_233 : MT[233]? = some M_X11_book := mt_of (q := (M_X11_book, 1)) rfl
theorem mt_234 : MT[234]? = some M_X11_undo := mt_of (q := (M_X11_undo, 1)) rfl
theorem mt_235 : MT[235]? = some M_X11_notedNow := mt_of (q := (M_X11_notedNow, 1)) rfl
theorem mt_236 : MT[236]? = some M_X11_told := mt_of (q := (M_X11_told, 1)) rfl
theorem mt_237 : MT[237]? = some M_X11_lean := mt_of (q := (M_X11_lean, 1)) rfl
theorem mt_238 : MT[238]? = some M_X11_isSaying := mt_of (q := (M_X11_isSaying, 1)) rfl
theorem mt_239 : MT[239]? = some M_X11_isBird := mt_of (q := (M_X11_isBird, 1)) rfl
theorem mt_240 : MT[240]? = some M_X11_isCounsel := mt_of (q := (M_X11_isCounsel, 1)) rfl
theorem mt_241 : MT[241]? = some M_X11_saying := mt_of (q := (M_X11_saying, 1)) rfl
theorem mt_242 : MT[242]? = some M_X11_bird := mt_of (q := (M_X11_bird, 1)) rfl
theorem mt_243 : MT[243]? = some M_X11_counsel := mt_of (q := (M_X11_counsel, 1)) rfl
theorem mt_244 : MT[244]? = some M_X11_would := mt_of (q := (M_X11_would, 1)) rfl
theorem mt_245 : MT[245]? = some M_X11_at := mt_of (q := (M_X11_at, 1)) rfl
theorem mt_246 : MT[246]? = some M_X11_clear := mt_of (q := (M_X11_clear, 1)) rfl
theorem mt_247 : MT[247]? = some M_X11_isHidden := mt_of (q := (M_X11_isHidden, 1)) rfl
theorem mt_248 : MT[248]? = some M_X11_hide := mt_of (q := (M_X11_hide, 1)) rfl
theorem mt_249 : MT[249]? = some M_X11_follows := mt_of (q := (M_X11_follows, 1)) rfl
theorem mt_250 : MT[250]? = some M_X11_proof := mt_of (q := (M_X11_proof, 1)) rfl
theorem mt_251 : MT[251]? = some M_X11_turn := mt_of (q := (M_X11_turn, 1)) rfl
theorem mt_252 : MT[252]? = some M_X11_laysCounts := mt_of (q := (M_X11_laysCounts, 1)) rfl
theorem mt_253 : MT[253]? = some M_X11_isFit := mt_of (q := (M_X11_isFit, 1)) rfl
theorem mt_254 : MT[254]? = some M_X11_fits := mt_of (q := (M_X11_fits, 1)) rfl
theorem mt_255 : MT[255]? = some M_X11_look := mt_of (q := (M_X11_look, 1)) rfl
theorem mt_256 : MT[256]? = some M_X11_least := mt_of (q := (M_X11_least, 0)) rfl
theorem mt_257 : MT[257]? = some M_X11_kind := mt_of (q := (M_X11_kind, 1)) rfl
theorem mt_258 : MT[258]? = some M_X11_hasBy := mt_of (q := (M_X11_hasBy, 0)) rfl
theorem mt_259 : MT[259]? = some M_X11_order := mt_of (q := (M_X11_order, 1)) rfl
theorem mt_260 : MT[260]? = some M_X11_bounded := mt_of (q := (M_X11_bounded, 1)) rfl
theorem mt_261 : MT[261]? = some M_X11_loafBy := mt_of (q := (M_X11_loafBy, 1)) rfl
theorem mt_262 : MT[262]? = some M_X11_isSome := mt_of (q := (M_X11_isSome, 1)) rfl
theorem mt_263 : MT[263]? = some M_X11_loaf := mt_of (q := (M_X11_loaf, 1)) rfl
theorem mt_264 : MT[264]? = some M_X11_heaviestOf := mt_of (q := (M_X11_heaviestOf, 1)) rfl
theorem mt_265 : MT[265]? = some M_X11_heaviest := mt_of (q := (M_X11_heaviest, 1)) rfl
theorem mt_266 : MT[266]? = some M_X11_loss := mt_of (q := (M_X11_loss, 1)) rfl
theorem mt_267 : MT[267]? = some M_X11_next := mt_of (q := (M_X11_next, 1)) rfl
theorem mt_268 : MT[268]? = some M_X11_side := mt_of (q := (M_X11_side, 1)) rfl
theorem mt_269 : MT[269]? = some M_X11_leaders := mt_of (q := (M_X11_leaders, 1)) rfl
theorem mt_270 : MT[270]? = some M_X11_used := mt_of (q := (M_X11_used, 1)) rfl
theorem mt_271 : MT[271]? = some M_X11_over := mt_of (q := (M_X11_over, 1)) rfl
theorem mt_272 : MT[272]? = some M_X11_delay := mt_of (q := (M_X11_delay, 1)) rfl
theorem mt_273 : MT[273]? = some M_X11_point := mt_of (q := (M_X11_point, 1)) rfl
theorem mt_274 : MT[274]? = some M_X11_purse := mt_of (q := (M_X11_purse, 1)) rfl
theorem mt_275 : MT[275]? = some M_X11_lastOf := mt_of (q := (M_X11_lastOf, 1)) rfl
theorem mt_276 : MT[276]? = some M_X11_pairs := mt_of (q := (M_X11_pairs, 1)) rfl
theorem mt_277 : MT[277]? = some M_X11_crowd := mt_of (q := (M_X11_crowd, 1)) rfl
theorem mt_278 : MT[278]? = some M_X11_swing := mt_of (q := (M_X11_swing, 1)) rfl
theorem mt_279 : MT[279]? = some M_X11_when := mt_of (q := (M_X11_when, 1)) rfl
theorem mt_280 : MT[280]? = some M_X11_draws := mt_of (q := (M_X11_draws, 1)) rfl
theorem mt_281 : MT[281]? = some M_X11_termGoes := mt_of (q := (M_X11_termGoes, 1)) rfl
theorem mt_282 : MT[282]? = some M_X11_isTerm := mt_of (q := (M_X11_isTerm, 0)) rfl
theorem mt_283 : MT[283]? = some M_X11_term := mt_of (q := (M_X11_term, 1)) rfl
theorem mt_284 : MT[284]? = some M_X11_span := mt_of (q := (M_X11_span, 1)) rfl
theorem mt_285 : MT[285]? = some M_X11_keepsRow := mt_of (q := (M_X11_keepsRow, 1)) rfl
theorem mt_286 : MT[286]? = some M_X11_keepsAll := mt_of (q := (M_X11_keepsAll, 1)) rfl
theorem mt_287 : MT[287]? = some M_X11_image := mt_of (q := (M_X11_image, 1)) rfl
theorem mt_288 : MT[288]? = some M_X11_restore := mt_of (q := (M_X11_restore, 1)) rfl
theorem mt_289 : MT[289]? = some M_X11_status := mt_of (q := (M_X11_status, 1)) rfl
theorem mt_290 : MT[290]? = some M_X11_count := mt_of (q := (M_X11_count, 1)) rfl
theorem mt_291 : MT[291]? = some M_L_court := mt_of (q := (M_L_court, 0)) rfl
theorem mt_292 : MT[292]? = some M_L_law := mt_of (q := (M_L_law, 0)) rfl
theorem mt_293 : MT[293]? = some M_L_work := mt_of (q := (M_L_work, 0)) rfl
theorem mt_294 : MT[294]? = some M_L_book := mt_of (q := (M_L_book, 0)) rfl
theorem mt_295 : MT[295]? = some M_L_told := mt_of (q := (M_L_told, 0)) rfl
theorem mt_296 : MT[296]? = some M_L_saying := mt_of (q := (M_L_saying, 0)) rfl
theorem mt_297 : MT[297]? = some M_L_bird := mt_of (q := (M_L_bird, 0)) rfl
theorem mt_298 : MT[298]? = some M_L_counsel := mt_of (q := (M_L_counsel, 0)) rfl
theorem mt_299 : MT[299]? = some M_L_would := mt_of (q := (M_L_would, 0)) rfl
theorem mt_300 : MT[300]? = some M_L_at := mt_of (q := (M_L_at, 0)) rfl
theorem mt_301 : MT[301]? = some M_L_hide := mt_of (q := (M_L_hide, 0)) rfl
theorem mt_302 : MT[302]? = some M_L_follows := mt_of (q := (M_L_follows, 0)) rfl
theorem mt_303 : MT[303]? = some M_L_proof := mt_of (q := (M_L_proof, 0)) rfl
theorem mt_304 : MT[304]? = some M_L_fits := mt_of (q := (M_L_fits, 0)) rfl
theorem mt_305 : MT[305]? = some M_L_look := mt_of (q := (M_L_look, 0)) rfl
theorem mt_306 : MT[306]? = some M_L_kind := mt_of (q := (M_L_kind, 0)) rfl
theorem mt_307 : MT[307]? = some M_L_order := mt_of (q := (M_L_order, 0)) rfl
theorem mt_308 : MT[308]? = some M_L_loaf := mt_of (q := (M_L_loaf, 0)) rfl
theorem mt_309 : MT[309]? = some M_L_loss := mt_of (q := (M_L_loss, 0)) rfl
theorem mt_310 : MT[310]? = some M_L_next := mt_of (q := (M_L_next, 0)) rfl
theorem mt_311 : MT[311]? = some M_L_side := mt_of (q := (M_L_side, 0)) rfl
theorem mt_312 : MT[312]? = some M_L_leaders := mt_of (q := (M_L_leaders, 0)) rfl
theorem mt_313 : MT[313]? = some M_L_over := mt_of (q := (M_L_over, 0)) rfl
theorem mt_314 : MT[314]? = some M_L_delay := mt_of (q := (M_L_delay, 0)) rfl
theorem mt_315 : MT[315]? = some M_L_point := mt_of (q := (M_L_point, 0)) rfl
theorem mt_316 : MT[316]? = some M_L_purse := mt_of (q := (M_L_purse, 0)) rfl
theorem mt_317 : MT[317]? = some M_L_crowd := mt_of (q := (M_L_crowd, 0)) rfl
theorem mt_318 : MT[318]? = some M_L_swing := mt_of (q := (M_L_swing, 0)) rfl
theorem mt_319 : MT[319]? = some M_L_when := mt_of (q := (M_L_when, 0)) rfl
theorem mt_320 : MT[320]? = some M_L_term := mt_of (q := (M_L_term, 0)) rfl
theorem mt_321 : MT[321]? = some M_L_span := mt_of (q := (M_L_span, 0)) rfl
theorem mt_322 : MT[322]? = some M_J6_bitCount_0f7a4 := mt_of (q := (M_J6_bitCount_0f7a4, 0)) rfl
