/-! Masks and bits; small methods. -/
def bI (b : Bool) : Int32 := nI b.toNat
def mk (p : Nat → Bool) : Nat → Nat
  | 0 => 0
  | n + 1 => if p n = true then mk p n ||| 2 ^ n else mk p n
theorem mk_t {p : Nat → Bool} {n : Nat} (h : p n = true) : mk p n ||| 2 ^ n = mk p (n + 1) := (if_pos h).symm
theorem mk_f {p : Nat → Bool} {n : Nat} (h : p n = false) : mk p n = mk p (n + 1) := (if_neg (by rw [h]; decide)).symm
theorem mk_bit (p : Nat → Bool) : ∀ n i, (mk p n).testBit i = (decide (i < n) && p i)
  | 0, i => by simp [mk]
  | n + 1, i => by
    have ih := mk_bit p n i
    unfold mk
    by_cases h : p n = true
    · rw [if_pos h, Nat.testBit_or, ih, Nat.testBit_two_pow]
      by_cases hi : n = i
      · subst hi; simp [h]
      · have h1 : (i < n) ↔ (i < n + 1) := by omega
        simp [hi, h1]
    · rw [if_neg h, ih]
      by_cases hi : n = i
      · subst hi; simp [h]
      · have h1 : (i < n) ↔ (i < n + 1) := by omega
        simp [h1]
theorem mk_lt (p : Nat → Bool) : ∀ n, mk p n < 2 ^ n
  | 0 => by unfold mk; decide
  | n + 1 => by
    have ih := mk_lt p n
    have h2 : 2 ^ (n + 1) = 2 ^ n + 2 ^ n := by omega
    unfold mk
    split
    · exact Nat.or_lt_two_pow (by omega) (by omega)
    · omega
theorem mk_congr {p q : Nat → Bool} : ∀ {n : Nat}, (∀ i, i < n → p i = q i) → mk p n = mk q n
  | 0, _ => rfl
  | n + 1, h => by
    have ih := mk_congr (n := n) (fun i hi => h i (by omega))
    unfold mk
    rw [ih, h n (by omega)]
theorem mk_512 (p : Nat → Bool) {n : Nat} (h : n ≤ 9) : mk p n < 512 := Nat.lt_of_lt_of_le (mk_lt p n) (Nat.pow_le_pow_right (by decide) h)
theorem mk_16 (p : Nat → Bool) {n : Nat} (h : n ≤ 4) : mk p n < 16 := Nat.lt_of_lt_of_le (mk_lt p n) (Nat.pow_le_pow_right (by decide) h)
def pcn (x : Nat) : Nat → Nat
  | 0 => 0
  | k + 1 => pcn x k + (x.testBit k).toNat
theorem pcn_s (x k : Nat) : pcn x k + (x.testBit k).toNat = pcn x (k + 1) := rfl
def pc9 (x : Nat) : Nat := pcn x 9
theorem pcn_le (x : Nat) : ∀ k, pcn x k ≤ k
  | 0 => Nat.le_refl _
  | k + 1 => by
    have := pcn_le x k
    have h2 : (x.testBit k).toNat ≤ 1 := Bool.toNat_le _
    unfold pcn
    omega
theorem pc9_le (x : Nat) : pc9 x ≤ 9 := pcn_le x 9
theorem bit_eq (x k : Nat) : (x / 2 ^ k) &&& 1 = (x.testBit k).toNat := by
  rw [Nat.and_one_is_mod, Nat.testBit_eq_decide_div_mod_eq]
  rcases Nat.mod_two_eq_zero_or_one (x / 2 ^ k) with h | h <;> rw [h] <;> rfl
theorem ret_b {b : Bool} : retop (some .boolean) .ireturn [.int (bI b)] = some (some (.int (bI b))) := by cases b <;> rfl
section SB
variable {st : List Value}
theorem sh_k : ∀ k, k < 32 → ((nI k &&& 31).toBitVec.smod 32).toNat = k := by decide +kernel
theorem ishlN {x k : Nat} (h : x * 2 ^ k < 2 ^ 32) (hk : k < 32 := by omega) : stk .ishl (.int (nI k) :: .int (nI x) :: st) = some (.int (nI (x * 2 ^ k)) :: st) := by rw [← pk_shlN _ k (sh_k k hk) h]; rfl
theorem ishl1 {k : Nat} (hk : k < 31 := by omega) : stk .ishl (.int (nI k) :: .int (nI 1) :: st) = some (.int (nI (2 ^ k)) :: st) := by
  have h : 1 * 2 ^ k < 2 ^ 32 := by rw [Nat.one_mul]; exact Nat.pow_lt_pow_right (by decide) (by omega)
  rw [ishlN h (by omega), Nat.one_mul]
theorem ishrN {x k : Nat} (h : x < 2147483648 := by omega) (hk : k < 32 := by omega) : stk .ishr (.int (nI k) :: .int (nI x) :: st) = some (.int (nI (x / 2 ^ k)) :: st) := by rw [← pk_shrN h _ k (sh_k k hk)]; rfl
theorem ibitN {x k : Nat} : stk .iand (.int (nI 1) :: .int (nI (x / 2 ^ k)) :: st) = some (.int (nI (x.testBit k).toNat) :: st) := by rw [iandN, bit_eq]
end SB
section BJ
variable {sc : Option (Nat × (Nat → Int32))} {M : MI} {d pc : Nat} {lv : LV} {st : List Value} {G : AH} {Q : (Option Value ⊕ Nat) → AH → Nat → Prop}
theorem bI_0 {p : Bool} : bI p = 0 ↔ p = false := by cases p <;> decide
theorem EV.b0_eq {o : Int} {a b pq : Nat} {p : Bool} (hr : RW M pc (.ifCond .eq o) 3 a b pq) (kt : p = false → EV sc M d a lv st G Q) (kf : p = true → EV sc M d pq lv st G Q) : EV sc M d pc lv (.int (bI p) :: st) G Q := EV.if0 (p := p = false) hr.1 bI_0.symm kt (fun h => hr.2.symm ▸ kf (by simpa using h))
theorem EV.b0_ne {o : Int} {a b pq : Nat} {p : Bool} (hr : RW M pc (.ifCond .ne o) 3 a b pq) (kt : p = true → EV sc M d a lv st G Q) (kf : p = false → EV sc M d pq lv st G Q) : EV sc M d pc lv (.int (bI p) :: st) G Q := EV.if0 (p := p = true) hr.1 (by have h := not_congr (bI_0 (p := p)); cases p <;> simp at h ⊢ <;> exact h) kt (fun h => hr.2.symm ▸ kf (by simpa using h))
theorem EV.pmin {idx b x y pq : Nat} (hr : RW M pc (.invokestatic idx) 3 900 b pq) (k : EV sc M d pq lv (.int (nI (min x y)) :: st) G Q) (hx : x < 2147483648 := by omega) (hy : y < 2147483648 := by omega) (hw : Nat.ble (wcs st) 8 = true := by rfl) : EV sc M d pc lv (.int (nI y) :: .int (nI x) :: st) G Q := by
  refine EV.prim (as := [.int (nI x), .int (nI y)]) (rest := st) (v := some (.int (nI (min x y)))) hr.1 rfl (by decide) (by unfold invA npar; simp) (Nat.le_of_ble_eq_true hw) ?_ (hr.2.symm ▸ k)
  show some (Sum.inl (some (Value.int (if nI y < nI x then nI y else nI x))), G, 0, 0) = _
  by_cases h : y < x
  · simp only [if_pos (nI_lt h hx), Nat.min_eq_right (Nat.le_of_lt h)]
  · simp only [if_neg (nI_nlt (Nat.le_of_not_lt h) hy), Nat.min_eq_left (Nat.le_of_not_lt h)]
theorem EV.pmax {idx b x y pq : Nat} (hr : RW M pc (.invokestatic idx) 3 901 b pq) (k : EV sc M d pq lv (.int (nI (max x y)) :: st) G Q) (hx : x < 2147483648 := by omega) (hy : y < 2147483648 := by omega) (hw : Nat.ble (wcs st) 8 = true := by rfl) : EV sc M d pc lv (.int (nI y) :: .int (nI x) :: st) G Q := by
  refine EV.prim (as := [.int (nI x), .int (nI y)]) (rest := st) (v := some (.int (nI (max x y)))) hr.1 rfl (by decide) (by unfold invA npar; simp) (Nat.le_of_ble_eq_true hw) ?_ (hr.2.symm ▸ k)
  show some (Sum.inl (some (Value.int (if nI x < nI y then nI y else nI x))), G, 0, 0) = _
  by_cases h : x < y
  · simp only [if_pos (nI_lt h hy), Nat.max_eq_right (Nat.le_of_lt h)]
  · simp only [if_neg (nI_nlt (Nat.le_of_not_lt h) hx), Nat.max_eq_left (Nat.le_of_not_lt h)]
theorem EV.lcw {idx len a pq : Nat} (hr : RW M pc (.ldc_w idx) len a 0 pq) (k : EV sc M d pq lv (.int (nI a) :: st) G Q) : EV sc M d pc lv st G Q := EV.ldc hr.1 rfl (hr.2.symm ▸ k)
theorem EV.lc {idx : Fin 256} {len a pq : Nat} (hr : RW M pc (.ldc idx) len a 0 pq) (k : EV sc M d pq lv (.int (nI a) :: st) G Q) : EV sc M d pc lv st G Q := EV.ldc hr.1 rfl (hr.2.symm ▸ k)
theorem EV.fg {i : Instr} {len a b pq : Nat} {lv' : LV} {q : LV × List Value} (hr : RW M pc i len a b pq) (_h3 : drp b lv = lv') (h1 : locop i M.ml b lv st = some q) (h2 : locop i M.ml b lv' st = some q) (k : EV sc M d pc lv' st G Q) (hs : stk i st = none := by rfl) : EV sc M d pc lv st G Q := by
  obtain ⟨r, G1, e, ⟨n0, h⟩, hq⟩ := k
  refine ⟨r, G1, e, ⟨n0 + 1, fun N n hN hn c z => ?_⟩, hq⟩
  have h4 := h N n (by omega) (by omega) c z
  obtain ⟨n', rfl⟩ : ∃ n', n = n' + 1 := ⟨n - 1, by omega⟩
  have e1 : step1 CLS FTY MT TXS sc (call CLS FTY MT TXS N d) M (pc, lv, st, G, c, z) = some (.inl (pc + len, q.1, q.2, G, c, z)) := by
    unfold step1; simp only [hr.1, hs, h1]
  have e2 : step1 CLS FTY MT TXS sc (call CLS FTY MT TXS N d) M (pc, lv', st, G, c, z) = some (.inl (pc + len, q.1, q.2, G, c, z)) := by
    unfold step1; simp only [hr.1, hs, h2]
  unfold run at h4 ⊢
  rw [e1]
  rw [e2] at h4
  exact h4
end BJ
theorem inegN {x : Nat} {st : List Value} : stk .ineg (.int (nI x) :: st) = some (.int (zI (-(x : Int))) :: st) := by
  have h : -nI x = zI (-(x : Int)) := by rw [← zI_nat]; exact (Int32.ofInt_neg _).symm
  rw [← h]; rfl
theorem iaddZN {x : Int} {y : Nat} {st : List Value} : stk .iadd (.int (nI y) :: .int (zI x) :: st) = some (.int (zI (x + (y : Int))) :: st) := by rw [← zI_add, zI_nat]; rfl
theorem iaddNZ {x : Nat} {y : Int} {st : List Value} : stk .iadd (.int (zI y) :: .int (nI x) :: st) = some (.int (zI ((x : Int) + y)) :: st) := by rw [← zI_add, zI_nat]; rfl
def us (x : Int32) (y : Int32) : Int32 := (x.toUInt32 >>> (y.toUInt32 &&& Int32.toUInt32 31)).toInt32
def bcI (x : Int32) : Int32 :=
  let x1 := x - (us x (nI 1) &&& nI 1431655765)
  let x2 := (x1 &&& nI 858993459) + (us x1 (nI 2) &&& nI 858993459)
  let x3 := (x2 + us x2 (nI 4)) &&& nI 252645135
  let x4 := x3 + us x3 (nI 8)
  let x5 := x4 + us x4 (nI 16)
  x5 &&& nI 63
theorem bc_ok : ∀ n, n < 512 → bcI (nI n) = nI (pc9 n) := by decide +kernel
theorem r_J6_bitCount_0f7a4_0 : RW M_J6_bitCount_0f7a4 0 (.iload_n 0) 1 0 0 1 := ⟨rfl, rfl⟩
theorem r_J6_bitCount_0f7a4_1 : RW M_J6_bitCount_0f7a4 1 (.iload_n 0) 1 0 0 2 := ⟨rfl, rfl⟩
theorem r_J6_bitCount_0f7a4_2 : RW M_J6_bitCount_0f7a4 2 (.iconst 1) 1 0 0 3 := ⟨rfl, rfl⟩
theorem r_J6_bitCount_0f7a4_3 : RW M_J6_bitCount_0f7a4 3 (.iushr) 1 0 0 4 := ⟨rfl, rfl⟩
theorem r_J6_bitCount_0f7a4_4 : RW M_J6_bitCount_0f7a4 4 (.ldc_w 265) 3 1431655765 0 7 := ⟨rfl, rfl⟩
theorem r_J6_bitCount_0f7a4_7 : RW M_J6_bitCount_0f7a4 7 (.iand) 1 0 0 8 := ⟨rfl, rfl⟩
theorem r_J6_bitCount_0f7a4_8 : RW M_J6_bitCount_0f7a4 8 (.isub) 1 0 0 9 := ⟨rfl, rfl⟩
theorem r_J6_bitCount_0f7a4_9 : RW M_J6_bitCount_0f7a4 9 (.istore_n 0) 1 0 0 10 := ⟨rfl, rfl⟩
theorem r_J6_bitCount_0f7a4_10 : RW M_J6_bitCount_0f7a4 10 (.iload_n 0) 1 0 0 11 := ⟨rfl, rfl⟩
theorem r_J6_bitCount_0f7a4_11 : RW M_J6_bitCount_0f7a4 11 (.ldc_w 266) 3 858993459 0 14 := ⟨rfl, rfl⟩
theorem r_J6_bitCount_0f7a4_14 : RW M_J6_bitCount_0f7a4 14 (.iand) 1 0 0 15 := ⟨rfl, rfl⟩
theorem r_J6_bitCount_0f7a4_15 : RW M_J6_bitCount_0f7a4 15 (.iload_n 0) 1 0 0 16 := ⟨rfl, rfl⟩
theorem r_J6_bitCount_0f7a4_16 : RW M_J6_bitCount_0f7a4 16 (.iconst 2) 1 0 0 17 := ⟨rfl, rfl⟩
theorem r_J6_bitCount_0f7a4_17 : RW M_J6_bitCount_0f7a4 17 (.iushr) 1 0 0 18 := ⟨rfl, rfl⟩
theorem r_J6_bitCount_0f7a4_18 : RW M_J6_bitCount_0f7a4 18 (.ldc_w 266) 3 858993459 0 21 := ⟨rfl, rfl⟩
theorem r_J6_bitCount_0f7a4_21 : RW M_J6_bitCount_0f7a4 21 (.iand) 1 0 0 22 := ⟨rfl, rfl⟩
theorem r_J6_bitCount_0f7a4_22 : RW M_J6_bitCount_0f7a4 22 (.iadd) 1 0 0 23 := ⟨rfl, rfl⟩
theorem r_J6_bitCount_0f7a4_23 : RW M_J6_bitCount_0f7a4 23 (.istore_n 0) 1 0 0 24 := ⟨rfl, rfl⟩
theorem r_J6_bitCount_0f7a4_24 : RW M_J6_bitCount_0f7a4 24 (.iload_n 0) 1 0 0 25 := ⟨rfl, rfl⟩
theorem r_J6_bitCount_0f7a4_25 : RW M_J6_bitCount_0f7a4 25 (.iload_n 0) 1 0 0 26 := ⟨rfl, rfl⟩
theorem r_J6_bitCount_0f7a4_26 : RW M_J6_bitCount_0f7a4 26 (.iconst 4) 1 0 0 27 := ⟨rfl, rfl⟩
theorem r_J6_bitCount_0f7a4_27 : RW M_J6_bitCount_0f7a4 27 (.iushr) 1 0 0 28 := ⟨rfl, rfl⟩
theorem r_J6_bitCount_0f7a4_28 : RW M_J6_bitCount_0f7a4 28 (.iadd) 1 0 0 29 := ⟨rfl, rfl⟩
theorem r_J6_bitCount_0f7a4_29 : RW M_J6_bitCount_0f7a4 29 (.ldc_w 267) 3 252645135 0 32 := ⟨rfl, rfl⟩
theorem r_J6_bitCount_0f7a4_32 : RW M_J6_bitCount_0f7a4 32 (.iand) 1 0 0 33 := ⟨rfl, rfl⟩
theorem r_J6_bitCount_0f7a4_33 : RW M_J6_bitCount_0f7a4 33 (.istore_n 0) 1 0 0 34 := ⟨rfl, rfl⟩
theorem r_J6_bitCount_0f7a4_34 : RW M_J6_bitCount_0f7a4 34 (.iload_n 0) 1 0 0 35 := ⟨rfl, rfl⟩
theorem r_J6_bitCount_0f7a4_35 : RW M_J6_bitCount_0f7a4 35 (.iload_n 0) 1 0 0 36 := ⟨rfl, rfl⟩
theorem r_J6_bitCount_0f7a4_36 : RW M_J6_bitCount_0f7a4 36 (.bipush 8) 2 0 0 38 := ⟨rfl, rfl⟩
theorem r_J6_bitCount_0f7a4_38 : RW M_J6_bitCount_0f7a4 38 (.iushr) 1 0 0 39 := ⟨rfl, rfl⟩
theorem r_J6_bitCount_0f7a4_39 : RW M_J6_bitCount_0f7a4 39 (.iadd) 1 0 0 40 := ⟨rfl, rfl⟩
theorem r_J6_bitCount_0f7a4_40 : RW M_J6_bitCount_0f7a4 40 (.istore_n 0) 1 0 0 41 := ⟨rfl, rfl⟩
theorem r_J6_bitCount_0f7a4_41 : RW M_J6_bitCount_0f7a4 41 (.iload_n 0) 1 0 0 42 := ⟨rfl, rfl⟩
theorem r_J6_bitCount_0f7a4_42 : RW M_J6_bitCount_0f7a4 42 (.iload_n 0) 1 0 0 43 := ⟨rfl, rfl⟩
theorem r_J6_bitCount_0f7a4_43 : RW M_J6_bitCount_0f7a4 43 (.bipush 16) 2 0 0 45 := ⟨rfl, rfl⟩
theorem r_J6_bitCount_0f7a4_45 : RW M_J6_bitCount_0f7a4 45 (.iushr) 1 0 0 46 := ⟨rfl, rfl⟩
theorem r_J6_bitCount_0f7a4_46 : RW M_J6_bitCount_0f7a4 46 (.iadd) 1 0 0 47 := ⟨rfl, rfl⟩
theorem r_J6_bitCount_0f7a4_47 : RW M_J6_bitCount_0f7a4 47 (.istore_n 0) 1 0 0 48 := ⟨rfl, rfl⟩
theorem r_J6_bitCount_0f7a4_48 : RW M_J6_bitCount_0f7a4 48 (.iload_n 0) 1 0 0 49 := ⟨rfl, rfl⟩
theorem r_J6_bitCount_0f7a4_49 : RW M_J6_bitCount_0f7a4 49 (.bipush 63) 2 0 0 51 := ⟨rfl, rfl⟩
theorem r_J6_bitCount_0f7a4_51 : RW M_J6_bitCount_0f7a4 51 (.iand) 1 0 0 52 := ⟨rfl, rfl⟩
theorem r_J6_bitCount_0f7a4_52 : RW M_J6_bitCount_0f7a4 52 (.ireturn) 1 0 0 53 := ⟨rfl, rfl⟩
theorem r_X10_bit_0 : RW M_X10_bit 0 (.iconst 1) 1 0 0 1 := ⟨rfl, rfl⟩
theorem r_X10_bit_1 : RW M_X10_bit 1 (.iload_n 0) 1 0 0 2 := ⟨rfl, rfl⟩
theorem r_X10_bit_2 : RW M_X10_bit 2 (.ishl) 1 0 0 3 := ⟨rfl, rfl⟩
theorem r_X10_bit_3 : RW M_X10_bit 3 (.ireturn) 1 0 0 4 := ⟨rfl, rfl⟩
theorem r_X10_has_0 : RW M_X10_has 0 (.iload_n 0) 1 0 0 1 := ⟨rfl, rfl⟩
theorem r_X10_has_1 : RW M_X10_has 1 (.iload_n 1) 1 0 0 2 := ⟨rfl, rfl⟩
theorem r_X10_has_2 : RW M_X10_has 2 (.ishr) 1 0 0 3 := ⟨rfl, rfl⟩
theorem r_X10_has_3 : RW M_X10_has 3 (.iconst 1) 1 0 0 4 := ⟨rfl, rfl⟩
theorem r_X10_has_4 : RW M_X10_has 4 (.iand) 1 0 0 5 := ⟨rfl, rfl⟩
theorem r_X10_has_5 : RW M_X10_has 5 (.ifCond .eq 7) 3 12 0 8 := ⟨rfl, rfl⟩
theorem r_X10_has_8 : RW M_X10_has 8 (.iconst 1) 1 0 0 9 := ⟨rfl, rfl⟩
theorem r_X10_has_9 : RW M_X10_has 9 (.goto 4) 3 13 0 12 := ⟨rfl, rfl⟩
theorem r_X10_has_12 : RW M_X10_has 12 (.iconst 0) 1 0 0 13 := ⟨rfl, rfl⟩
theorem r_X10_has_13 : RW M_X10_has 13 (.ireturn) 1 0 0 14 := ⟨rfl, rfl⟩
theorem r_X11_held_0 : RW M_X11_held 0 (.iload_n 0) 1 0 0 1 := ⟨rfl, rfl⟩
theorem r_X11_held_1 : RW M_X11_held 1 (.sipush 400) 3 0 0 4 := ⟨rfl, rfl⟩
theorem r_X11_held_4 : RW M_X11_held 4 (.if_icmp .le 9) 3 13 0 7 := ⟨rfl, rfl⟩
theorem r_X11_held_7 : RW M_X11_held 7 (.sipush 400) 3 0 0 10 := ⟨rfl, rfl⟩
theorem r_X11_held_10 : RW M_X11_held 10 (.goto 4) 3 14 0 13 := ⟨rfl, rfl⟩
theorem r_X11_held_13 : RW M_X11_held 13 (.iload_n 0) 1 0 0 14 := ⟨rfl, rfl⟩
theorem r_X11_held_14 : RW M_X11_held 14 (.ireturn) 1 0 0 15 := ⟨rfl, rfl⟩
theorem r_X11_ones_0 : RW M_X11_ones 0 (.iconst 0) 1 0 0 1 := ⟨rfl, rfl⟩
theorem r_X11_ones_1 : RW M_X11_ones 1 (.istore_n 1) 1 0 0 2 := ⟨rfl, rfl⟩
theorem r_X11_ones_2 : RW M_X11_ones 2 (.iconst 0) 1 0 0 3 := ⟨rfl, rfl⟩
theorem r_X11_ones_3 : RW M_X11_ones 3 (.istore_n 2) 1 0 0 4 := ⟨rfl, rfl⟩
theorem r_X11_ones_4 : RW M_X11_ones 4 (.iload_n 2) 1 0 0 5 := ⟨rfl, rfl⟩
theorem r_X11_ones_5 : RW M_X11_ones 5 (.bipush 9) 2 0 0 7 := ⟨rfl, rfl⟩
theorem r_X11_ones_7 : RW M_X11_ones 7 (.if_icmp .ge 17) 3 24 0 10 := ⟨rfl, rfl⟩
theorem r_X11_ones_10 : RW M_X11_ones 10 (.iload_n 1) 1 0 0 11 := ⟨rfl, rfl⟩
theorem r_X11_ones_11 : RW M_X11_ones 11 (.iload_n 0) 1 0 0 12 := ⟨rfl, rfl⟩
theorem r_X11_ones_12 : RW M_X11_ones 12 (.iload_n 2) 1 0 0 13 := ⟨rfl, rfl⟩
theorem r_X11_ones_13 : RW M_X11_ones 13 (.ishr) 1 0 0 14 := ⟨rfl, rfl⟩
theorem r_X11_ones_14 : RW M_X11_ones 14 (.iconst 1) 1 0 0 15 := ⟨rfl, rfl⟩
theorem r_X11_ones_15 : RW M_X11_ones 15 (.iand) 1 0 0 16 := ⟨rfl, rfl⟩
theorem r_X11_ones_16 : RW M_X11_ones 16 (.iadd) 1 0 0 17 := ⟨rfl, rfl⟩
theorem r_X11_ones_17 : RW M_X11_ones 17 (.istore_n 1) 1 0 0 18 := ⟨rfl, rfl⟩
theorem r_X11_ones_18 : RW M_X11_ones 18 (.iinc 2 1) 3 0 0 21 := ⟨rfl, rfl⟩
theorem r_X11_ones_21 : RW M_X11_ones 21 (.goto (-17)) 3 4 0 24 := ⟨rfl, rfl⟩
theorem r_X11_ones_24 : RW M_X11_ones 24 (.iload_n 1) 1 0 0 25 := ⟨rfl, rfl⟩
theorem r_X11_ones_25 : RW M_X11_ones 25 (.ireturn) 1 0 0 26 := ⟨rfl, rfl⟩
theorem r_X11_within_0 : RW M_X11_within 0 (.iload_n 0) 1 0 0 1 := ⟨rfl, rfl⟩
theorem r_X11_within_1 : RW M_X11_within 1 (.iload_n 1) 1 0 0 2 := ⟨rfl, rfl⟩
theorem r_X11_within_2 : RW M_X11_within 2 (.if_icmp .lt 12) 3 14 0 5 := ⟨rfl, rfl⟩
theorem r_X11_within_5 : RW M_X11_within 5 (.iload_n 0) 1 0 0 6 := ⟨rfl, rfl⟩
theorem r_X11_within_6 : RW M_X11_within 6 (.iload_n 2) 1 0 0 7 := ⟨rfl, rfl⟩
theorem r_X11_within_7 : RW M_X11_within 7 (.if_icmp .gt 7) 3 14 0 10 := ⟨rfl, rfl⟩
theorem r_X11_within_10 : RW M_X11_within 10 (.iconst 1) 1 0 0 11 := ⟨rfl, rfl⟩
theorem r_X11_within_11 : RW M_X11_within 11 (.goto 4) 3 15 0 14 := ⟨rfl, rfl⟩
theorem r_X11_within_14 : RW M_X11_within 14 (.iconst 0) 1 0 0 15 := ⟨rfl, rfl⟩
theorem r_X11_within_15 : RW M_X11_within 15 (.ireturn) 1 0 0 16 := ⟨rfl, rfl⟩
theorem c_bit {d : Nat} {I : Nat → Nat → Int32} {J : Nat → Nat → Int64} {n : Nat} (hn : n < 31) (hd : 1 ≤ d) : RV d 162 [.int (nI n)] I J (nI (2 ^ n)) := by
  refine RV.in (d0 := 0) hd mt_162 (Nat.le_of_ble_eq_true rfl) (fun d' hd' => ?_)
  show EV none M_X10_bit d' 0 [(0, .int (nI n))] [] (hp I J) _
  refine EV.o r_X10_bit_0 (icN (1) (v := 1)) ?_
  refine EV.l (lv' := [(0, _)]) r_X10_bit_1 rfl ?_
  refine EV.o r_X10_bit_2 (ishl1) ?_
  exact EV.rv r_X10_bit_3 (rfl)
theorem c_has {d : Nat} {I : Nat → Nat → Int32} {J : Nat → Nat → Int64} {x n : Nat} (hx : x < 2147483648) (hn : n < 32) (hd : 1 ≤ d) : RV d 163 [.int (nI x), .int (nI n)] I J (bI (x.testBit n)) := by
  refine RV.in (d0 := 0) hd mt_163 (Nat.le_of_ble_eq_true rfl) (fun d' hd' => ?_)
  show EV none M_X10_has d' 0 [(0, .int (nI x)), (1, .int (nI n))] [] (hp I J) _
  refine EV.l (lv' := [(0, _), (1, _)]) r_X10_has_0 rfl ?_
  refine EV.l (lv' := [(0, _), (1, _)]) r_X10_has_1 rfl ?_
  refine EV.o r_X10_has_2 (ishrN) ?_
  refine EV.o r_X10_has_3 (icN (1) (v := 1)) ?_
  refine EV.o r_X10_has_4 (ibitN) ?_
  refine EV.b0_eq r_X10_has_5 (fun h5 => ?_) (fun h5 => ?_)
  · -- 5 t
    refine EV.o r_X10_has_12 (icN (0) (v := 0)) ?_
    exact EV.rv r_X10_has_13 (by rw [h5]; rfl)
  · -- 5 f
    refine EV.o r_X10_has_8 (icN (1) (v := 1)) ?_
    refine EV.g r_X10_has_9 ?_
    exact EV.rv r_X10_has_13 (by rw [h5]; rfl)
theorem c_bc {d : Nat} {I : Nat → Nat → Int32} {J : Nat → Nat → Int64} {n : Nat} (hn : n < 512) (hd : 1 ≤ d) : RV d 322 [.int (nI n)] I J (nI (pc9 n)) := by
  refine RV.in (d0 := 0) hd mt_322 (Nat.le_of_ble_eq_true rfl) (fun d' hd' => ?_)
  show EV none M_J6_bitCount_0f7a4 d' 0 [(0, .int (nI n))] [] (hp I J) _
  refine EV.l (lv' := [(0, _)]) r_J6_bitCount_0f7a4_0 rfl ?_
  refine EV.l (lv' := [(0, _)]) r_J6_bitCount_0f7a4_1 rfl ?_
  refine EV.o r_J6_bitCount_0f7a4_2 (icN (1) (v := 1)) ?_
  refine EV.o r_J6_bitCount_0f7a4_3 rfl ?_
  refine EV.lcw r_J6_bitCount_0f7a4_4 ?_
  refine EV.o r_J6_bitCount_0f7a4_7 rfl ?_
  refine EV.o r_J6_bitCount_0f7a4_8 rfl ?_
  refine EV.l (lv' := [(0, _)]) r_J6_bitCount_0f7a4_9 rfl ?_
  refine EV.l (lv' := [(0, _)]) r_J6_bitCount_0f7a4_10 rfl ?_
  refine EV.lcw r_J6_bitCount_0f7a4_11 ?_
  refine EV.o r_J6_bitCount_0f7a4_14 rfl ?_
  refine EV.l (lv' := [(0, _)]) r_J6_bitCount_0f7a4_15 rfl ?_
  refine EV.o r_J6_bitCount_0f7a4_16 (icN (2) (v := 2)) ?_
  refine EV.o r_J6_bitCount_0f7a4_17 rfl ?_
  refine EV.lcw r_J6_bitCount_0f7a4_18 ?_
  refine EV.o r_J6_bitCount_0f7a4_21 rfl ?_
  refine EV.o r_J6_bitCount_0f7a4_22 rfl ?_
  refine EV.l (lv' := [(0, _)]) r_J6_bitCount_0f7a4_23 rfl ?_
  refine EV.l (lv' := [(0, _)]) r_J6_bitCount_0f7a4_24 rfl ?_
  refine EV.l (lv' := [(0, _)]) r_J6_bitCount_0f7a4_25 rfl ?_
  refine EV.o r_J6_bitCount_0f7a4_26 (icN (4) (v := 4)) ?_
  refine EV.o r_J6_bitCount_0f7a4_27 rfl ?_
  refine EV.o r_J6_bitCount_0f7a4_28 rfl ?_
  refine EV.lcw r_J6_bitCount_0f7a4_29 ?_
  refine EV.o r_J6_bitCount_0f7a4_32 rfl ?_
  refine EV.l (lv' := [(0, _)]) r_J6_bitCount_0f7a4_33 rfl ?_
  refine EV.l (lv' := [(0, _)]) r_J6_bitCount_0f7a4_34 rfl ?_
  refine EV.l (lv' := [(0, _)]) r_J6_bitCount_0f7a4_35 rfl ?_
  refine EV.o r_J6_bitCount_0f7a4_36 (bpN (8) 8) ?_
  refine EV.o r_J6_bitCount_0f7a4_38 rfl ?_
  refine EV.o r_J6_bitCount_0f7a4_39 rfl ?_
  refine EV.l (lv' := [(0, _)]) r_J6_bitCount_0f7a4_40 rfl ?_
  refine EV.l (lv' := [(0, _)]) r_J6_bitCount_0f7a4_41 rfl ?_
  refine EV.l (lv' := [(0, _)]) r_J6_bitCount_0f7a4_42 rfl ?_
  refine EV.o r_J6_bitCount_0f7a4_43 (bpN (16) 16) ?_
  refine EV.o r_J6_bitCount_0f7a4_45 rfl ?_
  refine EV.o r_J6_bitCount_0f7a4_46 rfl ?_
  refine EV.l (lv' := [(0, _)]) r_J6_bitCount_0f7a4_47 rfl ?_
  refine EV.l (lv' := [(0, _)]) r_J6_bitCount_0f7a4_48 rfl ?_
  refine EV.o r_J6_bitCount_0f7a4_49 (bpN (63) 63) ?_
  refine EV.o r_J6_bitCount_0f7a4_51 rfl ?_
  exact EV.rv r_J6_bitCount_0f7a4_52 (bc_ok n hn)
theorem m_ones {d : Nat} {I : Nat → Nat → Int32} {J : Nat → Nat → Int64} {x : Nat} (hx : x < 2147483648) (hd : 1 ≤ d) : RV d 213 [.int (nI x)] I J (nI (pc9 x)) := by
  refine RV.in (d0 := 0) hd mt_213 (Nat.le_of_ble_eq_true rfl) (fun d' hd' => ?_)
  show EV none M_X11_ones d' 0 [(0, .int (nI x))] [] (hp I J) _
  refine EV.o r_X11_ones_0 (icN (0) (v := 0)) ?_
  refine EV.l (lv' := [(0, _), (1, _)]) r_X11_ones_1 rfl ?_
  refine EV.o r_X11_ones_2 (icN (0) (v := 0)) ?_
  refine EV.l (lv' := [(0, _), (1, _), (2, _)]) r_X11_ones_3 rfl ?_
  have L4 : ∀ y_ : Nat, (fun k => k ≤ 9 → EV none M_X11_ones d' 4 [(0, .int (nI x)), (1, .int (nI (pcn x k))), (2, .int (nI k))] [] (hp I J) (QV I J (nI (pc9 x)))) y_ := by
    refine ev_loop (fun k => 9 - k) ?_
    intro k ih4 hx4
    try dsimp only at ih4
    try dsimp only at hx4
    try dsimp only
    refine EV.l (lv' := [(0, _), (1, _), (2, _)]) r_X11_ones_4 rfl ?_
    refine EV.o r_X11_ones_5 (bpN (9) 9) ?_
    refine EV.n2_ge r_X11_ones_7 (fun h7 => ?_) (fun h7 => ?_)
    · -- 7 t
      refine EV.l (lv' := [(0, _), (1, _), (2, _)]) r_X11_ones_24 rfl ?_
      exact EV.rv r_X11_ones_25 (by rw [show k = 9 by omega]; rfl)
    · -- 7 f
      refine EV.l (lv' := [(0, _), (1, _), (2, _)]) r_X11_ones_10 rfl ?_
      refine EV.l (lv' := [(0, _), (1, _), (2, _)]) r_X11_ones_11 rfl ?_
      refine EV.l (lv' := [(0, _), (1, _), (2, _)]) r_X11_ones_12 rfl ?_
      refine EV.o r_X11_ones_13 (ishrN) ?_
      refine EV.o r_X11_ones_14 (icN (1) (v := 1)) ?_
      refine EV.o r_X11_ones_15 (ibitN) ?_
      refine EV.o r_X11_ones_16 iaddN ?_
      refine EV.l (lv' := [(0, _), (1, _), (2, _)]) r_X11_ones_17 rfl ?_
      refine EV.l (lv' := [(0, _), (1, _), (2, _)]) r_X11_ones_18 rfl ?_
      rw [inc_nI]
      refine EV.g r_X11_ones_21 ?_
      refine EV.sub ?_ rfl ?_ (ih4 (k + 1) ?_ ?_)
      · rw [pcn_s]
      · rfl
      · omega
      · omega
  have h0 := L4 (0)
  try dsimp only at h0
  refine EV.sub ?_ rfl ?_ (h0 ?_)
  · rfl
  · rfl
  · omega
theorem m_withinN {d : Nat} {I : Nat → Nat → Int32} {J : Nat → Nat → Int64} {v a b : Nat} (hv : v < 2147483648) (ha : a < 2147483648) (hb : b < 2147483648) (hd : 1 ≤ d) : RV d 170 [.int (nI v), .int (nI a), .int (nI b)] I J (bI (decide (a ≤ v) && decide (v ≤ b))) := by
  refine RV.in (d0 := 0) hd mt_170 (Nat.le_of_ble_eq_true rfl) (fun d' hd' => ?_)
  show EV none M_X11_within d' 0 [(0, .int (nI v)), (1, .int (nI a)), (2, .int (nI b))] [] (hp I J) _
  refine EV.l (lv' := [(0, _), (1, _), (2, _)]) r_X11_within_0 rfl ?_
  refine EV.l (lv' := [(0, _), (1, _), (2, _)]) r_X11_within_1 rfl ?_
  refine EV.n2_lt r_X11_within_2 (fun h2 => ?_) (fun h2 => ?_)
  · -- 2 t
    refine EV.o r_X11_within_14 (icN (0) (v := 0)) ?_
    exact EV.rv r_X11_within_15 (by first | (rw [decide_eq_true h2, decide_eq_true h7]; rfl) | (rw [decide_eq_false (by omega : ¬ a ≤ v)]; rfl) | (rw [decide_eq_false (by omega : ¬ v ≤ b), Bool.and_false]; rfl))
  · -- 2 f
    refine EV.l (lv' := [(0, _), (1, _), (2, _)]) r_X11_within_5 rfl ?_
    refine EV.l (lv' := [(0, _), (1, _), (2, _)]) r_X11_within_6 rfl ?_
    refine EV.n2_gt r_X11_within_7 (fun h7 => ?_) (fun h7 => ?_)
    · -- 7 t
      refine EV.o r_X11_within_14 (icN (0) (v := 0)) ?_
      exact EV.rv r_X11_within_15 (by first | (rw [decide_eq_true h2, decide_eq_true h7]; rfl) | (rw [decide_eq_false (by omega : ¬ a ≤ v)]; rfl) | (rw [decide_eq_false (by omega : ¬ v ≤ b), Bool.and_false]; rfl))
    · -- 7 f
      refine EV.o r_X11_within_10 (icN (1) (v := 1)) ?_
      refine EV.g r_X11_within_11 ?_
      exact EV.rv r_X11_within_15 (by first | (rw [decide_eq_true h2, decide_eq_true h7]; rfl) | (rw [decide_eq_false (by omega : ¬ a ≤ v)]; rfl) | (rw [decide_eq_false (by omega : ¬ v ≤ b), Bool.and_false]; rfl))
theorem m_held {d : Nat} {I : Nat → Nat → Int32} {J : Nat → Nat → Int64} {v : Nat} (hv : v < 2147483648) (hd : 1 ≤ d) : RV d 215 [.int (nI v)] I J (nI (min 400 v)) := by
  refine RV.in (d0 := 0) hd mt_215 (Nat.le_of_ble_eq_true rfl) (fun d' hd' => ?_)
  show EV none M_X11_held d' 0 [(0, .int (nI v))] [] (hp I J) _
  refine EV.l (lv' := [(0, _)]) r_X11_held_0 rfl ?_
  refine EV.o r_X11_held_1 (spN (400) 400) ?_
  refine EV.n2_le r_X11_held_4 (fun h4 => ?_) (fun h4 => ?_)
  · -- 4 t
    refine EV.l (lv' := [(0, _)]) r_X11_held_13 rfl ?_
    exact EV.rv r_X11_held_14 (congrArg nI (by omega))
  · -- 4 f
    refine EV.o r_X11_held_7 (spN (400) 400) ?_
    refine EV.g r_X11_held_10 ?_
    exact EV.rv r_X11_held_14 (congrArg nI (by omega))
