/-! KIND: longs. -/
def nL (n : Nat) : Int64 := Int64.ofNat n
theorem nL_add (a b : Nat) : nL a + nL b = nL (a + b) := (Int64.ofNat_add a b).symm
theorem nL_mul (a b : Nat) : nL a * nL b = nL (a * b) := (Int64.ofNat_mul a b).symm
theorem nL_int {n : Nat} (h : n < 9223372036854775808) : (nL n).toInt = n := Int64.toInt_ofNat_of_lt h
theorem nL_inj {a b : Nat} (ha : a < 9223372036854775808) (hb_ : b < 9223372036854775808) : nL a = nL b ↔ a = b := by
  rw [← Int64.toInt_inj, nL_int ha, nL_int hb_]
  omega
theorem nL_lt {a b : Nat} (ha : a < 9223372036854775808) (hb_ : b < 9223372036854775808) : nL a < nL b ↔ a < b := by
  rw [Int64.lt_iff_toInt_lt, nL_int ha, nL_int hb_]
  omega
theorem nL_div {a b : Nat} (ha : a < 9223372036854775808) (hb_ : b < 9223372036854775808) (h0 : 0 < b) : nL a / nL b = nL (a / b) := by
  apply Int64.toInt_inj.mp
  have h3 : a / b ≤ a := Nat.div_le_self a b
  rw [Int64.toInt_div_of_ne_left _ _ (fun e => by have h5 := congrArg Int64.toInt e; rw [nL_int ha, Int64.toInt_minValue] at h5; omega), nL_int ha, nL_int hb_, nL_int (by omega)]
  exact (Int.ofNat_tdiv a b).symm
theorem nL_sub {a b : Nat} (h : b ≤ a) : nL a - nL b = nL (a - b) := by
  have e : nL a = nL (a - b) + nL b := by rw [nL_add]; congr 1; omega
  rw [e]
  exact Int64.add_sub_cancel _ _
theorem nI_long {n : Nat} (h : n < 2147483648) : (nI n).toInt64 = nL n := by
  apply Int64.toInt_inj.mp
  rw [nL_int (by omega), Int32.toInt_toInt64, nI_toInt h]
section SL
variable {st : List Value} {x y : Nat}
theorem lc0 : stk (.lconst 0) st = some (.long (nL 0) :: st) := rfl
theorem lc1 : stk (.lconst 1) st = some (.long (nL 1) :: st) := rfl
theorem laddN : stk .ladd (.long (nL y) :: .long (nL x) :: st) = some (.long (nL (x + y)) :: st) := by rw [← nL_add]; rfl
theorem lmulN : stk .lmul (.long (nL y) :: .long (nL x) :: st) = some (.long (nL (x * y)) :: st) := by rw [← nL_mul]; rfl
theorem i2lN (h : x < 2147483648 := by omega) : stk .i2l (.int (nI x) :: st) = some (.long (nL x) :: st) := by rw [← nI_long h]; rfl
theorem ldivN (h0 : 0 < y) (hx : x < 9223372036854775808) (hy : y < 9223372036854775808) : stk .ldiv (.long (nL y) :: .long (nL x) :: st) = some (.long (nL (x / y)) :: st) := by
  have h : ¬ nL y = 0 := fun e => by have := (nL_inj hy (by decide : 0 < 9223372036854775808)).mp e; omega
  show (if nL y = 0 then none else some (Value.long (nL x / nL y) :: st)) = _
  rw [if_neg h, nL_div hx hy h0]
theorem lremN (h0 : 0 < y) (hx : x < 9223372036854775808) (hy : y < 9223372036854775808) : stk .lrem (.long (nL y) :: .long (nL x) :: st) = some (.long (nL (x % y)) :: st) := by
  have h : ¬ nL y = 0 := fun e => by have := (nL_inj hy (by decide : 0 < 9223372036854775808)).mp e; omega
  show (if nL y = 0 then none else some (Value.long (nL x - nL x / nL y * nL y) :: st)) = _
  have h2 := Nat.div_mul_le_self x y
  have h3 := Nat.mod_eq_sub_div_mul (x := x) (k := y)
  rw [if_neg h, nL_div hx hy h0, nL_mul, nL_sub h2, h3]
theorem land1 : stk .land (.long (nL 1) :: .long (nL x) :: st) = some (.long (nL (x % 2)) :: st) := by
  have h : nL x &&& nL 1 = nL (x % 2) := by
    have e : nL x &&& nL 1 = nL (x &&& 1) := congrArg Int64.ofBitVec (BitVec.ofNat_and (w := 64)).symm
    rw [e, Nat.and_one_is_mod]
  rw [← h]; rfl
theorem lshr1 (hx : x < 9223372036854775808) : stk .lshr (.int (nI 1) :: .long (nL x) :: st) = some (.long (nL (x / 2)) :: st) := by
  have h : nL x >>> ((nI 1).toInt64 &&& 63) = nL (x / 2) := by
    apply Int64.toBitVec_inj.mp
    have e : (nL x >>> ((nI 1).toInt64 &&& 63)).toBitVec = (BitVec.ofNat 64 x).sshiftRight 1 := rfl
    rw [e]
    have hm : (BitVec.ofNat 64 x).msb = false := by
      rw [BitVec.msb_eq_false_iff_two_mul_lt, BitVec.toNat_ofNat, Nat.mod_eq_of_lt (by omega)]
      omega
    apply BitVec.eq_of_toNat_eq
    rw [BitVec.sshiftRight_eq_of_msb_false hm, BitVec.toNat_ushiftRight, BitVec.toNat_ofNat, Nat.mod_eq_of_lt (by omega), Nat.shiftRight_eq_div_pow]
    show x / 2 ^ 1 = (BitVec.ofNat 64 (x / 2)).toNat
    rw [BitVec.toNat_ofNat, Nat.mod_eq_of_lt (by omega)]
  rw [← h]; rfl
def cmpN (x y : Nat) : Int := if x < y then -1 else if x = y then 0 else 1
theorem lcmpN (hx : x < 9223372036854775808) (hy : y < 9223372036854775808) : stk .lcmp (.long (nL y) :: .long (nL x) :: st) = some (.int (zI (cmpN x y)) :: st) := by
  have h : lg_cmp (nL x) (nL y) = zI (cmpN x y) := by
    unfold lg_cmp cmpN
    simp only [nL_lt hx hy, nL_lt hy hx, nL_inj hx hy]
    (repeat' split) <;> first | rfl | omega
  rw [← h]; rfl
end SL
theorem cmp_gt {x y : Nat} : cmpN x y ≤ 0 ↔ x ≤ y := by unfold cmpN; (repeat' split) <;> omega
theorem cmp_0 {x y : Nat} : cmpN x y = 0 ↔ x = y := by unfold cmpN; (repeat' split) <;> omega
theorem cmp_b (x y : Nat) : -1 ≤ cmpN x y ∧ cmpN x y ≤ 1 := by unfold cmpN; (repeat' split) <;> omega
section LJ
variable {sc : Option (Nat × (Nat → Int32))} {M : MI} {d pc : Nat} {lv : LV} {st : List Value} {G : AH} {Q : (Option Value ⊕ Nat) → AH → Nat → Prop} {I : Nat → Nat → Int32} {J : Nat → Nat → Int64}
theorem EV.k0_le {o : Int} {a b pq x y : Nat} (hr : RW M pc (.ifCond .le o) 3 a b pq) (kt : x ≤ y → EV sc M d a lv st G Q) (kf : y < x → EV sc M d pq lv st G Q) : EV sc M d pc lv (.int (zI (cmpN x y)) :: st) G Q := by
  have hc_ := cmp_b x y
  exact EV.z0_le hr (fun h => kt (cmp_gt.mp h)) (fun h => kf (Nat.lt_of_not_le (fun z => by have := cmp_gt.mpr z; omega))) (by omega) (by omega)
theorem EV.k0_eq {o : Int} {a b pq x y : Nat} (hr : RW M pc (.ifCond .eq o) 3 a b pq) (kt : x = y → EV sc M d a lv st G Q) (kf : ¬ x = y → EV sc M d pq lv st G Q) : EV sc M d pc lv (.int (zI (cmpN x y)) :: st) G Q := by
  have hc_ := cmp_b x y
  exact EV.z0_eq hr (fun h => kt (cmp_0.mp h)) (fun h => kf (fun z => h (cmp_0.mpr z))) (by omega) (by omega)
theorem EV.k0_ne {o : Int} {a b pq x y : Nat} (hr : RW M pc (.ifCond .ne o) 3 a b pq) (kt : ¬ x = y → EV sc M d a lv st G Q) (kf : x = y → EV sc M d pq lv st G Q) : EV sc M d pc lv (.int (zI (cmpN x y)) :: st) G Q := by
  have hc_ := cmp_b x y
  exact EV.z0_ne hr (fun h => kt (fun z => h (cmp_0.mpr z))) (fun h => kf (cmp_0.mp h)) (by omega) (by omega)
theorem EV.lc2 {idx len a b pq : Nat} (hr : RW M pc (.ldc2_w idx) len a b pq) (k : EV sc M d pq lv (.long (nL a) :: st) G Q) : EV sc M d pc lv st G Q := EV.ldc hr.1 rfl (hr.2.symm ▸ k)
theorem EV.laN {len a b o n jn pq : Nat} {v : Int64} (hr : RW M pc .laload len a b pq) (hl : LAYO[o]? = some (.inr (.inl n))) (hv : J o jn = v) (k : EV sc M d pq lv (.long v :: st) (hp I J) Q) (hn : jn < n := by omega) (hn2 : n < 2147483648 := by omega) : EV sc M d pc lv (.int (nI jn) :: .ref o :: st) (hp I J) Q := by
  subst hv
  exact EV.laloadI hr.1 hl rfl hn hn2 (hr.2.symm ▸ k)
theorem EV.laSn {len a b o n jn pq : Nat} {x : Int64} (hr : RW M pc .lastore len a b pq) (hl : LAYO[o]? = some (.inr (.inl n))) (k : ∀ J2, J2 = wr J o jn x → EV sc M d pq lv st (hp I J2) Q) (hn : jn < n := by omega) (hn2 : n < 2147483648 := by omega) : EV sc M d pc lv (.long x :: .int (nI jn) :: .ref o :: st) (hp I J) Q := EV.lastoreI hr.1 hl rfl hn hn2 (hr.2.symm ▸ k _ rfl)
end LJ
def RLV (d j : Nat) (as : List Value) (I : Nat → Nat → Int32) (J : Nat → Nat → Int64) (v : Int64) : Prop := Cl d j as (hp I J) (.inl (some (.long v))) (hp I J) 0
def QLV (I : Nat → Nat → Int32) (J : Nat → Nat → Int64) (v : Int64) (r : Option Value ⊕ Nat) (G : AH) (k : Nat) : Prop := r = .inl (some (.long v)) ∧ G = hp I J ∧ k = 0
def RLI (d j : Nat) (as : List Value) (I : Nat → Nat → Int32) (J : Nat → Nat → Int64) (P : Int64 → (Nat → Nat → Int32) → (Nat → Nat → Int64) → Prop) : Prop := ∃ v I' J', P v I' J' ∧ Cl d j as (hp I J) (.inl (some (.long v))) (hp I' J') 0
def QLI (P : Int64 → (Nat → Nat → Int32) → (Nat → Nat → Int64) → Prop) (r : Option Value ⊕ Nat) (G : AH) (k : Nat) : Prop := ∃ v I' J', P v I' J' ∧ r = .inl (some (.long v)) ∧ G = hp I' J' ∧ k = 0
section LR
variable {sc : Option (Nat × (Nat → Int32))} {M : MI} {d pc j : Nat} {lv : LV} {st as : List Value} {I : Nat → Nat → Int32} {J : Nat → Nat → Int64} {Q : (Option Value ⊕ Nat) → AH → Nat → Prop}
theorem RLV.in {v : Int64} {d0 : Nat} (hd : d0 + 1 ≤ d) (hM : MT[j]? = some M) (hs : (lg_sl as).length ≤ M.ml) (h : ∀ d', d0 ≤ d' → EV none M d' 0 (lv_args 0 as) [] (hp I J) (QLV I J v)) : RLV d j as I J v := by
  obtain ⟨d', rfl⟩ : ∃ d', d = d' + 1 := ⟨d - 1, by omega⟩
  exact Cl.of (CL.intro hM hs (h d' (by omega)))
theorem RLI.in {P : Int64 → (Nat → Nat → Int32) → (Nat → Nat → Int64) → Prop} {d0 : Nat} (hd : d0 + 1 ≤ d) (hM : MT[j]? = some M) (hs : (lg_sl as).length ≤ M.ml) (h : ∀ d', d0 ≤ d' → EV none M d' 0 (lv_args 0 as) [] (hp I J) (QLI P)) : RLI d j as I J P := by
  obtain ⟨d', rfl⟩ : ∃ d', d = d' + 1 := ⟨d - 1, by omega⟩
  obtain ⟨r, G, k, h1, h3⟩ := CL.intro hM hs (h d' (by omega))
  unfold QLI at h3
  obtain ⟨v, I', J', h2, e1, e2, e3⟩ := h3
  rw [e1, e2, e3] at h1
  exact ⟨v, I', J', h2, h1⟩
theorem EV.rlv {len a b pq : Nat} {x v : Int64} (hr : RW M pc .lreturn len a b pq) (hx : x = v) (h : retop M.rt .lreturn [.long x] = some (some (.long x)) := by rfl) : EV sc M d pc lv [.long x] (hp I J) (QLV I J v) := EV.ret hr.1 h ⟨congrArg (fun z => Sum.inl (some (Value.long z))) hx, rfl, rfl⟩
theorem EV.rli {len a b pq : Nat} {x : Int64} {P : Int64 → (Nat → Nat → Int32) → (Nat → Nat → Int64) → Prop} (hr : RW M pc .lreturn len a b pq) (hx : P x I J) (h : retop M.rt .lreturn [.long x] = some (some (.long x)) := by rfl) : EV sc M d pc lv [.long x] (hp I J) (QLI P) := EV.ret hr.1 h ⟨x, I, J, hx, rfl, rfl, rfl⟩
theorem EV.clv {i : Instr} {a b pq : Nat} {rest : List Value} {v : Int64} (hr : RW M pc i 3 a b pq) (hA : invA MT i a st (hp I J) = some (as, rest)) (hc_ : RLV d a as I J v) (k : EV sc M d pq lv (.long v :: rest) (hp I J) Q) (hi : isInv i = true := by rfl) (ha : a < 900 := by decide) (hw : Nat.ble (wcs rest) 8 = true := by rfl) : EV sc M d pc lv st (hp I J) Q :=
  EV.inv hr.1 hi ha hA (Nat.le_of_ble_eq_true hw) hc_ rfl (EV.mono (hr.2.symm ▸ k) (fun _ _ _ h => by rw [Nat.zero_add]; exact h))
end LR
def wv (n k : Nat) : Nat → Nat
  | 0 => 1
  | i + 1 => wv n k i * (n - k + (i + 1)) / (i + 1)
def avs (n k q : Nat) : Nat → Nat
  | 0 => 0
  | t + 1 => avs n k q t + wv n (k + t) (k + t) * q ^ (k + t) * (16 - q) ^ (n - (k + t))
def hlv : Nat → Nat → Nat → Nat × Nat
  | 0, a, b => (a, b)
  | f + 1, a, b => if 1 < b ∧ a % 2 = 0 then hlv f (a / 2) (b / 2) else (a, b)
def kk (q : Nat) : Nat → Nat → Nat
  | 0, j => if j = 0 then 1 else 0
  | t + 1, j => kk q t j * (16 - q) + (if 0 < j then kk q t (j - 1) * q else 0)
def Cn : Nat → Nat → Nat
  | 0, 0 => 1
  | 0, _ + 1 => 0
  | n + 1, 0 => Cn n 0
  | n + 1, j + 1 => Cn n (j + 1) + Cn n j
theorem wv_e : ∀ n, n < 13 → ∀ k, k < n + 1 → wv n k k = Cn n k := by decide +kernel
theorem wv_b : ∀ n, n < 13 → ∀ k, k < n + 1 → ∀ i, i < k + 1 → wv n k i ≤ 924 := by decide +kernel
theorem Cn_0 (n : Nat) : Cn n 0 = 1 := by
  induction n with
  | zero => rfl
  | succ n ih => exact ih
theorem kk_0 (q n : Nat) : kk q n 0 = (16 - q) ^ n := by
  induction n with
  | zero => rfl
  | succ n ih =>
    show kk q n 0 * (16 - q) + (if 0 < 0 then _ else 0) = _
    rw [if_neg (Nat.lt_irrefl 0), ih, Nat.pow_succ, Nat.add_zero]
theorem Cn_gt : ∀ n j, n < j → Cn n j = 0
  | 0, 0, h => absurd h (Nat.lt_irrefl 0)
  | 0, _ + 1, _ => rfl
  | _ + 1, 0, h => absurd h (Nat.not_lt_zero _)
  | n + 1, j + 1, h => by
    show Cn n (j + 1) + Cn n j = 0
    rw [Cn_gt n (j + 1) (by omega), Cn_gt n j (by omega)]
theorem kk_c (q n : Nat) : ∀ j, kk q n j = Cn n j * q ^ j * (16 - q) ^ (n - j) := by
  induction n with
  | zero =>
    intro j
    cases j with
    | zero => rfl
    | succ j => show 0 = 0 * _ * _; rw [Nat.zero_mul, Nat.zero_mul]
  | succ n ih =>
    intro j
    cases j with
    | zero => rw [kk_0, Cn_0, Nat.pow_zero, Nat.one_mul, Nat.sub_zero]; first | done | rw [Nat.one_mul]
    | succ j =>
      show kk q n (j + 1) * (16 - q) + (if 0 < j + 1 then kk q n j * q else 0) = (Cn n (j + 1) + Cn n j) * q ^ (j + 1) * (16 - q) ^ (n + 1 - (j + 1))
      rw [if_pos (Nat.succ_pos j), ih (j + 1), ih j, Nat.add_mul, Nat.add_mul, Nat.add_sub_add_right]
      refine congr (congrArg _ ?_) ?_
      · by_cases h : j + 1 ≤ n
        · rw [Nat.mul_assoc _ ((16 - q) ^ (n - (j + 1))), ← Nat.pow_succ]
          congr 2
          omega
        · rw [Cn_gt n (j + 1) (by omega), Nat.zero_mul, Nat.zero_mul, Nat.zero_mul, Nat.zero_mul]
      · rw [Nat.pow_succ]
        ac_rfl
/-- the model's sum from k to 13 -/
def kks (q n k : Nat) : Nat → Nat
  | 0 => 0
  | t + 1 => kks q n k t + kk q n (k + t)
theorem kks_a {n q k : Nat} (hn : n ≤ 12) (hk : k ≤ n) : ∀ t, k + t ≤ n + 1 → kks q n k t = avs n k q t
  | 0, _ => rfl
  | t + 1, h => by
    show kks q n k t + kk q n (k + t) = avs n k q t + _
    rw [kks_a hn hk t (by omega), kk_c, wv_e n (by omega) (k + t) (by omega)]
theorem kks_z {n q k : Nat} : ∀ t, kks q n k (n + 1 - k + t) = kks q n k (n + 1 - k)
  | 0 => rfl
  | t + 1 => by
    show kks q n k (n + 1 - k + t) + kk q n (k + (n + 1 - k + t)) = _
    rw [kks_z t, kk_c, Cn_gt _ _ (by omega), Nat.zero_mul, Nat.zero_mul]
    rfl
theorem kks_e {n q k : Nat} (hn : n ≤ 12) : kks q n k (14 - k) = avs n k q (n + 1 - k) := by
  have h : 14 - k = n + 1 - k + (14 - k - (n + 1 - k)) := by omega
  rw [h, kks_z]
  by_cases h2 : k ≤ n
  · exact kks_a hn h2 _ (by omega)
  · rw [show n + 1 - k = 0 by omega]
    rfl
theorem avs_b {n q k : Nat} (hn : n ≤ 12) (hq : q ≤ 16) : ∀ t, k + t ≤ n + 1 → avs n k q t ≤ t * (924 * 16 ^ 12)
  | 0, _ => Nat.zero_le _
  | t + 1, h => by
    show avs n k q t + _ ≤ _
    have h1 := avs_b (k := k) hn hq t (by omega)
    have h2 := wv_b n (by omega) (k + t) (by omega) (k + t) (by omega)
    have h3 : q ^ (k + t) ≤ 16 ^ (k + t) := Nat.pow_le_pow_left hq _
    have h4 : (16 - q) ^ (n - (k + t)) ≤ 16 ^ (n - (k + t)) := Nat.pow_le_pow_left (Nat.sub_le _ _) _
    have h5 : 16 ^ (k + t) * 16 ^ (n - (k + t)) = 16 ^ n := by rw [← Nat.pow_add]; congr 1; omega
    have h6 : 16 ^ n ≤ 16 ^ 12 := Nat.pow_le_pow_right (by decide) hn
    have h7 : wv n (k + t) (k + t) * q ^ (k + t) * (16 - q) ^ (n - (k + t)) ≤ 924 * 16 ^ 12 := by
      rw [Nat.mul_assoc]
      exact Nat.mul_le_mul h2 (Nat.le_trans (Nat.mul_le_mul h3 h4) (by rw [h5]; exact h6))
    rw [Nat.add_mul, Nat.one_mul]
    exact Nat.add_le_add h1 h7
/-- above, and below, of KIND -/
def kdA (n k q : Nat) : Nat := avs n k q (n + 1 - k)
theorem kdA_b {n q k : Nat} (hn : n ≤ 12) (hq : q ≤ 16) : kdA n k q < 9223372036854775808 := by
  unfold kdA
  by_cases h : k ≤ n + 1
  · refine Nat.lt_of_le_of_lt (avs_b hn hq _ (by omega)) (Nat.lt_of_le_of_lt (Nat.mul_le_mul_right _ (by omega : n + 1 - k ≤ 13)) (by decide))
  · rw [show n + 1 - k = 0 by omega]
    exact (by decide : 0 < 9223372036854775808)
theorem p16 {n : Nat} (hn : n ≤ 12) : 16 ^ n ≤ 281474976710656 := Nat.pow_le_pow_right (n := 16) (by decide) hn
def kdG (n k q : Nat) : Nat := Nat.gcd (kdA n k q) (16 ^ n)
theorem hlv_g : ∀ e f a, e ≤ f → hlv f a (2 ^ e) = (a / Nat.gcd a (2 ^ e), 2 ^ e / Nat.gcd a (2 ^ e))
  | 0, f, a, _ => by
    have h : hlv f a (2 ^ 0) = (a, 2 ^ 0) := by
      cases f with
      | zero => rfl
      | succ f => show (if 1 < 2 ^ 0 ∧ _ then _ else _) = _; rw [if_neg (fun z => absurd z.1 (by decide))]
    rw [h, Nat.pow_zero, Nat.gcd_one_right, Nat.div_one, Nat.div_one]
  | e + 1, 0, a, h => absurd h (by omega)
  | e + 1, f + 1, a, h => by
    have hp : 0 < 2 ^ e := Nat.two_pow_pos e
    have hq : 2 ^ (e + 1) = 2 * 2 ^ e := by rw [Nat.pow_succ, Nat.mul_comm]
    show (if 1 < 2 ^ (e + 1) ∧ a % 2 = 0 then hlv f (a / 2) (2 ^ (e + 1) / 2) else (a, 2 ^ (e + 1))) = _
    by_cases ha : a % 2 = 0
    · rw [if_pos ⟨by omega, ha⟩, show 2 ^ (e + 1) / 2 = 2 ^ e by omega, hlv_g e f (a / 2) (by omega)]
      have e1 : a = 2 * (a / 2) := by omega
      have e2 : Nat.gcd a (2 ^ (e + 1)) = 2 * Nat.gcd (a / 2) (2 ^ e) := by rw [hq, ← Nat.gcd_mul_left, ← e1]
      rw [e2, ← Nat.div_div_eq_div_mul, ← Nat.div_div_eq_div_mul, show 2 ^ (e + 1) / 2 = 2 ^ e by omega]
    · rw [if_neg (fun z => ha z.2)]
      have e2 : Nat.gcd a (2 ^ (e + 1)) = 1 := by
        have c : Nat.Coprime a 2 := by
          rw [Nat.coprime_comm, Nat.coprime_iff_gcd_eq_one, Nat.gcd_rec, show a % 2 = 1 by omega]
          rfl
        exact Nat.Coprime.pow_right (e + 1) c
      rw [e2, Nat.div_one, Nat.div_one]
theorem p2_16 (n : Nat) : 16 ^ n = 2 ^ (4 * n) := by rw [Nat.pow_mul]
theorem hlv_k {n k q : Nat} (hn : n ≤ 12) : hlv 48 (kdA n k q) (16 ^ n) = (kdA n k q / kdG n k q, 16 ^ n / kdG n k q) := by
  unfold kdG
  rw [p2_16]
  exact hlv_g (4 * n) 48 _ (by omega)
theorem hlv_x {f a b x y : Nat} (h : hlv f a b = (x, y)) (he : f = 0 ∨ b ≤ 1 ∨ ¬ a % 2 = 0) : a = x ∧ b = y := by
  have h2 : hlv f a b = (a, b) := by
    cases f with
    | zero => rfl
    | succ f => show (if 1 < b ∧ a % 2 = 0 then _ else (a, b)) = _; rw [if_neg (by omega)]
  have h3 := h2.symm.trans h
  exact ⟨congrArg Prod.fst h3, congrArg Prod.snd h3⟩
theorem hlv_s {f a b : Nat} {p : Nat × Nat} (h : hlv f a b = p) (hf : 0 < f) (hb_ : 1 < b) (ha : a % 2 = 0) : hlv (f - 1) (a / 2) (b / 2) = p := by
  obtain ⟨g, rfl⟩ : ∃ g, f = g + 1 := ⟨f - 1, by omega⟩
  rw [← h]
  show _ = (if 1 < b ∧ a % 2 = 0 then hlv g (a / 2) (b / 2) else (a, b))
  rw [if_pos ⟨hb_, ha⟩]
  rfl
theorem kk_fill {J : Nat → Nat → Int64} {q i : Nat} {x : Int64} (h : ∀ j, j < i → J 133 j = nL (kk q 0 j)) (hv : x = nL (kk q 0 i)) : ∀ j, j < i + 1 → wr J 133 i x 133 j = nL (kk q 0 j) := by
  intro j hj
  by_cases e : j = i
  · rw [e, wr_same, hv]
  · rw [wr_ne (Or.inr e)]; exact h j (by omega)
theorem kk_step {J : Nat → Nat → Int64} {q t m x : Nat} (hm : 0 < m) (h1 : ∀ j, j < m → J 133 j = nL (kk q t j)) (h2 : ∀ j, m ≤ j → j < 14 → J 133 j = nL (kk q (t + 1) j)) (hx : x = kk q t (m - 1) * (16 - q) + (if 0 < m - 1 then kk q t (m - 1 - 1) * q else 0)) : (∀ j, j < m - 1 → wr J 133 (m - 1) (nL x) 133 j = nL (kk q t j)) ∧ ∀ j, m - 1 ≤ j → j < 14 → wr J 133 (m - 1) (nL x) 133 j = nL (kk q (t + 1) j) := by
  refine ⟨fun j hj => ?_, fun j hj hj2 => ?_⟩
  · rw [wr_ne (Or.inr (by omega))]; exact h1 j (by omega)
  · by_cases e : j = m - 1
    · rw [e, wr_same, hx]; rfl
    · rw [wr_ne (Or.inr e)]; exact h2 j (by omega) hj2
theorem gcd_st {x z g : Nat} (h : Nat.gcd x z = g) : Nat.gcd z (x % z) = g := by rw [← h, Nat.gcd_comm x z, Nat.gcd_rec z x, Nat.gcd_comm]
theorem r_X10_kind_0 : RW M_X10_kind 0 (.aload_n 0) 1 0 0 1 := ⟨rfl, rfl⟩
theorem r_X10_kind_1 : RW M_X10_kind 1 (.iload_n 1) 1 0 0 2 := ⟨rfl, rfl⟩
theorem r_X10_kind_2 : RW M_X10_kind 2 (.ifCond .lt 23) 3 25 0 5 := ⟨rfl, rfl⟩
theorem r_X10_kind_5 : RW M_X10_kind 5 (.iload_n 1) 1 0 0 6 := ⟨rfl, rfl⟩
theorem r_X10_kind_6 : RW M_X10_kind 6 (.bipush 12) 2 0 0 8 := ⟨rfl, rfl⟩
theorem r_X10_kind_8 : RW M_X10_kind 8 (.if_icmp .gt 17) 3 25 0 11 := ⟨rfl, rfl⟩
theorem r_X10_kind_11 : RW M_X10_kind 11 (.iload_n 2) 1 0 0 12 := ⟨rfl, rfl⟩
theorem r_X10_kind_12 : RW M_X10_kind 12 (.ifCond .lt 13) 3 25 0 15 := ⟨rfl, rfl⟩
theorem r_X10_kind_15 : RW M_X10_kind 15 (.iload_n 2) 1 0 0 16 := ⟨rfl, rfl⟩
theorem r_X10_kind_16 : RW M_X10_kind 16 (.bipush 13) 2 0 0 18 := ⟨rfl, rfl⟩
theorem r_X10_kind_18 : RW M_X10_kind 18 (.if_icmp .gt 7) 3 25 0 21 := ⟨rfl, rfl⟩
theorem r_X10_kind_21 : RW M_X10_kind 21 (.iconst 1) 1 0 0 22 := ⟨rfl, rfl⟩
theorem r_X10_kind_22 : RW M_X10_kind 22 (.goto 4) 3 26 0 25 := ⟨rfl, rfl⟩
theorem r_X10_kind_25 : RW M_X10_kind 25 (.iconst 0) 1 0 0 26 := ⟨rfl, rfl⟩
theorem r_X10_kind_26 : RW M_X10_kind 26 (.invokevirtual 175) 3 159 0 29 := ⟨rfl, rfl⟩
theorem r_X10_kind_29 : RW M_X10_kind 29 (.aload_n 0) 1 0 0 30 := ⟨rfl, rfl⟩
theorem r_X10_kind_30 : RW M_X10_kind 30 (.iload_n 3) 1 0 0 31 := ⟨rfl, rfl⟩
theorem r_X10_kind_31 : RW M_X10_kind 31 (.ifCond .lt 24) 3 55 0 34 := ⟨rfl, rfl⟩
theorem r_X10_kind_34 : RW M_X10_kind 34 (.iload_n 3) 1 0 0 35 := ⟨rfl, rfl⟩
theorem r_X10_kind_35 : RW M_X10_kind 35 (.bipush 16) 2 0 0 37 := ⟨rfl, rfl⟩
theorem r_X10_kind_37 : RW M_X10_kind 37 (.if_icmp .gt 18) 3 55 0 40 := ⟨rfl, rfl⟩
theorem r_X10_kind_40 : RW M_X10_kind 40 (.iload 4) 2 0 0 42 := ⟨rfl, rfl⟩
theorem r_X10_kind_42 : RW M_X10_kind 42 (.ifCond .eq 9) 3 51 0 45 := ⟨rfl, rfl⟩
theorem r_X10_kind_45 : RW M_X10_kind 45 (.iload 4) 2 0 0 47 := ⟨rfl, rfl⟩
theorem r_X10_kind_47 : RW M_X10_kind 47 (.iconst 1) 1 0 0 48 := ⟨rfl, rfl⟩
theorem r_X10_kind_48 : RW M_X10_kind 48 (.if_icmp .ne 7) 3 55 0 51 := ⟨rfl, rfl⟩
theorem r_X10_kind_51 : RW M_X10_kind 51 (.iconst 1) 1 0 0 52 := ⟨rfl, rfl⟩
theorem r_X10_kind_52 : RW M_X10_kind 52 (.goto 4) 3 56 0 55 := ⟨rfl, rfl⟩
theorem r_X10_kind_55 : RW M_X10_kind 55 (.iconst 0) 1 0 0 56 := ⟨rfl, rfl⟩
theorem r_X10_kind_56 : RW M_X10_kind 56 (.invokevirtual 175) 3 159 0 59 := ⟨rfl, rfl⟩
theorem r_X10_kind_59 : RW M_X10_kind 59 (.lconst 0) 1 0 0 60 := ⟨rfl, rfl⟩
theorem r_X10_kind_60 : RW M_X10_kind 60 (.lstore 5) 2 0 0 62 := ⟨rfl, rfl⟩
theorem r_X10_kind_62 : RW M_X10_kind 62 (.iload_n 2) 1 0 0 63 := ⟨rfl, rfl⟩
theorem r_X10_kind_63 : RW M_X10_kind 63 (.istore 7) 2 0 0 65 := ⟨rfl, rfl⟩
theorem r_X10_kind_65 : RW M_X10_kind 65 (.iload 7) 2 0 0 67 := ⟨rfl, rfl⟩
theorem r_X10_kind_67 : RW M_X10_kind 67 (.iload_n 1) 1 0 0 68 := ⟨rfl, rfl⟩
theorem r_X10_kind_68 : RW M_X10_kind 68 (.if_icmp .gt 39) 3 107 0 71 := ⟨rfl, rfl⟩
theorem r_X10_kind_71 : RW M_X10_kind 71 (.lload 5) 2 0 0 73 := ⟨rfl, rfl⟩
theorem r_X10_kind_73 : RW M_X10_kind 73 (.iload_n 1) 1 0 0 74 := ⟨rfl, rfl⟩
theorem r_X10_kind_74 : RW M_X10_kind 74 (.iload 7) 2 0 0 76 := ⟨rfl, rfl⟩
theorem r_X10_kind_76 : RW M_X10_kind 76 (.invokestatic 297) 3 165 0 79 := ⟨rfl, rfl⟩
theorem r_X10_kind_79 : RW M_X10_kind 79 (.iload_n 3) 1 0 0 80 := ⟨rfl, rfl⟩
theorem r_X10_kind_80 : RW M_X10_kind 80 (.iload 7) 2 0 0 82 := ⟨rfl, rfl⟩
theorem r_X10_kind_82 : RW M_X10_kind 82 (.invokestatic 301) 3 164 0 85 := ⟨rfl, rfl⟩
theorem r_X10_kind_85 : RW M_X10_kind 85 (.lmul) 1 0 0 86 := ⟨rfl, rfl⟩
theorem r_X10_kind_86 : RW M_X10_kind 86 (.bipush 16) 2 0 0 88 := ⟨rfl, rfl⟩
theorem r_X10_kind_88 : RW M_X10_kind 88 (.iload_n 3) 1 0 0 89 := ⟨rfl, rfl⟩
theorem r_X10_kind_89 : RW M_X10_kind 89 (.isub) 1 0 0 90 := ⟨rfl, rfl⟩
theorem r_X10_kind_90 : RW M_X10_kind 90 (.iload_n 1) 1 0 0 91 := ⟨rfl, rfl⟩
theorem r_X10_kind_91 : RW M_X10_kind 91 (.iload 7) 2 0 0 93 := ⟨rfl, rfl⟩
theorem r_X10_kind_93 : RW M_X10_kind 93 (.isub) 1 0 0 94 := ⟨rfl, rfl⟩
theorem r_X10_kind_94 : RW M_X10_kind 94 (.invokestatic 301) 3 164 0 97 := ⟨rfl, rfl⟩
theorem r_X10_kind_97 : RW M_X10_kind 97 (.lmul) 1 0 0 98 := ⟨rfl, rfl⟩
theorem r_X10_kind_98 : RW M_X10_kind 98 (.ladd) 1 0 0 99 := ⟨rfl, rfl⟩
theorem r_X10_kind_99 : RW M_X10_kind 99 (.lstore 5) 2 0 0 101 := ⟨rfl, rfl⟩
theorem r_X10_kind_101 : RW M_X10_kind 101 (.iinc 7 1) 3 0 0 104 := ⟨rfl, rfl⟩
theorem r_X10_kind_104 : RW M_X10_kind 104 (.goto (-39)) 3 65 0 107 := ⟨rfl, rfl⟩
theorem r_X10_kind_107 : RW M_X10_kind 107 (.bipush 16) 2 0 0 109 := ⟨rfl, rfl⟩
theorem r_X10_kind_109 : RW M_X10_kind 109 (.iload_n 1) 1 0 0 110 := ⟨rfl, rfl⟩
theorem r_X10_kind_110 : RW M_X10_kind 110 (.invokestatic 301) 3 164 0 113 := ⟨rfl, rfl⟩
theorem r_X10_kind_113 : RW M_X10_kind 113 (.lstore 7) 2 0 0 115 := ⟨rfl, rfl⟩
theorem r_X10_kind_115 : RW M_X10_kind 115 (.iconst 0) 1 0 0 116 := ⟨rfl, rfl⟩
theorem r_X10_kind_116 : RW M_X10_kind 116 (.istore 9) 2 0 0 118 := ⟨rfl, rfl⟩
theorem r_X10_kind_118 : RW M_X10_kind 118 (.iload 9) 2 0 0 120 := ⟨rfl, rfl⟩
theorem r_X10_kind_120 : RW M_X10_kind 120 (.bipush 48) 2 0 0 122 := ⟨rfl, rfl⟩
theorem r_X10_kind_122 : RW M_X10_kind 122 (.if_icmp .ge 37) 3 159 0 125 := ⟨rfl, rfl⟩
theorem r_X10_kind_125 : RW M_X10_kind 125 (.lload 7) 2 0 0 127 := ⟨rfl, rfl⟩
theorem r_X10_kind_127 : RW M_X10_kind 127 (.lconst 1) 1 0 0 128 := ⟨rfl, rfl⟩
theorem r_X10_kind_128 : RW M_X10_kind 128 (.lcmp) 1 0 0 129 := ⟨rfl, rfl⟩
theorem r_X10_kind_129 : RW M_X10_kind 129 (.ifCond .le 30) 3 159 0 132 := ⟨rfl, rfl⟩
theorem r_X10_kind_132 : RW M_X10_kind 132 (.lload 5) 2 0 0 134 := ⟨rfl, rfl⟩
theorem r_X10_kind_134 : RW M_X10_kind 134 (.lconst 1) 1 0 0 135 := ⟨rfl, rfl⟩
theorem r_X10_kind_135 : RW M_X10_kind 135 (.land) 1 0 0 136 := ⟨rfl, rfl⟩
theorem r_X10_kind_136 : RW M_X10_kind 136 (.lconst 0) 1 0 0 137 := ⟨rfl, rfl⟩
theorem r_X10_kind_137 : RW M_X10_kind 137 (.lcmp) 1 0 0 138 := ⟨rfl, rfl⟩
theorem r_X10_kind_138 : RW M_X10_kind 138 (.ifCond .ne 21) 3 159 0 141 := ⟨rfl, rfl⟩
theorem r_X10_kind_141 : RW M_X10_kind 141 (.lload 5) 2 0 0 143 := ⟨rfl, rfl⟩
theorem r_X10_kind_143 : RW M_X10_kind 143 (.iconst 1) 1 0 0 144 := ⟨rfl, rfl⟩
theorem r_X10_kind_144 : RW M_X10_kind 144 (.lshr) 1 0 0 145 := ⟨rfl, rfl⟩
theorem r_X10_kind_145 : RW M_X10_kind 145 (.lstore 5) 2 0 0 147 := ⟨rfl, rfl⟩
theorem r_X10_kind_147 : RW M_X10_kind 147 (.lload 7) 2 0 0 149 := ⟨rfl, rfl⟩
theorem r_X10_kind_149 : RW M_X10_kind 149 (.iconst 1) 1 0 0 150 := ⟨rfl, rfl⟩
theorem r_X10_kind_150 : RW M_X10_kind 150 (.lshr) 1 0 0 151 := ⟨rfl, rfl⟩
theorem r_X10_kind_151 : RW M_X10_kind 151 (.lstore 7) 2 0 0 153 := ⟨rfl, rfl⟩
theorem r_X10_kind_153 : RW M_X10_kind 153 (.iinc 9 1) 3 0 0 156 := ⟨rfl, rfl⟩
theorem r_X10_kind_156 : RW M_X10_kind 156 (.goto (-38)) 3 118 0 159 := ⟨rfl, rfl⟩
theorem r_X10_kind_159 : RW M_X10_kind 159 (.iload 4) 2 0 0 161 := ⟨rfl, rfl⟩
theorem r_X10_kind_161 : RW M_X10_kind 161 (.ifCond .ne 8) 3 169 0 164 := ⟨rfl, rfl⟩
theorem r_X10_kind_164 : RW M_X10_kind 164 (.lload 5) 2 0 0 166 := ⟨rfl, rfl⟩
theorem r_X10_kind_166 : RW M_X10_kind 166 (.goto 5) 3 171 0 169 := ⟨rfl, rfl⟩
theorem r_X10_kind_169 : RW M_X10_kind 169 (.lload 7) 2 0 0 171 := ⟨rfl, rfl⟩
theorem r_X10_kind_171 : RW M_X10_kind 171 (.lreturn) 1 0 0 172 := ⟨rfl, rfl⟩
theorem r_X10_power_0 : RW M_X10_power 0 (.lconst 1) 1 0 0 1 := ⟨rfl, rfl⟩
theorem r_X10_power_1 : RW M_X10_power 1 (.lstore_n 2) 1 0 0 2 := ⟨rfl, rfl⟩
theorem r_X10_power_2 : RW M_X10_power 2 (.iconst 0) 1 0 0 3 := ⟨rfl, rfl⟩
theorem r_X10_power_3 : RW M_X10_power 3 (.istore 4) 2 0 0 5 := ⟨rfl, rfl⟩
theorem r_X10_power_5 : RW M_X10_power 5 (.iload 4) 2 0 0 7 := ⟨rfl, rfl⟩
theorem r_X10_power_7 : RW M_X10_power 7 (.iload_n 1) 1 0 0 8 := ⟨rfl, rfl⟩
theorem r_X10_power_8 : RW M_X10_power 8 (.if_icmp .ge 14) 3 22 0 11 := ⟨rfl, rfl⟩
theorem r_X10_power_11 : RW M_X10_power 11 (.lload_n 2) 1 0 0 12 := ⟨rfl, rfl⟩
theorem r_X10_power_12 : RW M_X10_power 12 (.iload_n 0) 1 0 0 13 := ⟨rfl, rfl⟩
theorem r_X10_power_13 : RW M_X10_power 13 (.i2l) 1 0 0 14 := ⟨rfl, rfl⟩
theorem r_X10_power_14 : RW M_X10_power 14 (.lmul) 1 0 0 15 := ⟨rfl, rfl⟩
theorem r_X10_power_15 : RW M_X10_power 15 (.lstore_n 2) 1 0 0 16 := ⟨rfl, rfl⟩
theorem r_X10_power_16 : RW M_X10_power 16 (.iinc 4 1) 3 0 0 19 := ⟨rfl, rfl⟩
theorem r_X10_power_19 : RW M_X10_power 19 (.goto (-14)) 3 5 0 22 := ⟨rfl, rfl⟩
theorem r_X10_power_22 : RW M_X10_power 22 (.lload_n 2) 1 0 0 23 := ⟨rfl, rfl⟩
theorem r_X10_power_23 : RW M_X10_power 23 (.lreturn) 1 0 0 24 := ⟨rfl, rfl⟩
theorem r_X10_waysToChoose_0 : RW M_X10_waysToChoose 0 (.lconst 1) 1 0 0 1 := ⟨rfl, rfl⟩
theorem r_X10_waysToChoose_1 : RW M_X10_waysToChoose 1 (.lstore_n 2) 1 0 0 2 := ⟨rfl, rfl⟩
theorem r_X10_waysToChoose_2 : RW M_X10_waysToChoose 2 (.iconst 1) 1 0 0 3 := ⟨rfl, rfl⟩
theorem r_X10_waysToChoose_3 : RW M_X10_waysToChoose 3 (.istore 4) 2 0 0 5 := ⟨rfl, rfl⟩
theorem r_X10_waysToChoose_5 : RW M_X10_waysToChoose 5 (.iload 4) 2 0 0 7 := ⟨rfl, rfl⟩
theorem r_X10_waysToChoose_7 : RW M_X10_waysToChoose 7 (.iload_n 1) 1 0 0 8 := ⟨rfl, rfl⟩
theorem r_X10_waysToChoose_8 : RW M_X10_waysToChoose 8 (.if_icmp .gt 23) 3 31 0 11 := ⟨rfl, rfl⟩
theorem r_X10_waysToChoose_11 : RW M_X10_waysToChoose 11 (.lload_n 2) 1 0 0 12 := ⟨rfl, rfl⟩
theorem r_X10_waysToChoose_12 : RW M_X10_waysToChoose 12 (.iload_n 0) 1 0 0 13 := ⟨rfl, rfl⟩
theorem r_X10_waysToChoose_13 : RW M_X10_waysToChoose 13 (.iload_n 1) 1 0 0 14 := ⟨rfl, rfl⟩
theorem r_X10_waysToChoose_14 : RW M_X10_waysToChoose 14 (.isub) 1 0 0 15 := ⟨rfl, rfl⟩
theorem r_X10_waysToChoose_15 : RW M_X10_waysToChoose 15 (.iload 4) 2 0 0 17 := ⟨rfl, rfl⟩
theorem r_X10_waysToChoose_17 : RW M_X10_waysToChoose 17 (.iadd) 1 0 0 18 := ⟨rfl, rfl⟩
theorem r_X10_waysToChoose_18 : RW M_X10_waysToChoose 18 (.i2l) 1 0 0 19 := ⟨rfl, rfl⟩
theorem r_X10_waysToChoose_19 : RW M_X10_waysToChoose 19 (.lmul) 1 0 0 20 := ⟨rfl, rfl⟩
theorem r_X10_waysToChoose_20 : RW M_X10_waysToChoose 20 (.iload 4) 2 0 0 22 := ⟨rfl, rfl⟩
theorem r_X10_waysToChoose_22 : RW M_X10_waysToChoose 22 (.i2l) 1 0 0 23 := ⟨rfl, rfl⟩
theorem r_X10_waysToChoose_23 : RW M_X10_waysToChoose 23 (.ldiv) 1 0 0 24 := ⟨rfl, rfl⟩
theorem r_X10_waysToChoose_24 : RW M_X10_waysToChoose 24 (.lstore_n 2) 1 0 0 25 := ⟨rfl, rfl⟩
theorem r_X10_waysToChoose_25 : RW M_X10_waysToChoose 25 (.iinc 4 1) 3 0 0 28 := ⟨rfl, rfl⟩
theorem r_X10_waysToChoose_28 : RW M_X10_waysToChoose 28 (.goto (-23)) 3 5 0 31 := ⟨rfl, rfl⟩
theorem r_X10_waysToChoose_31 : RW M_X10_waysToChoose 31 (.lload_n 2) 1 0 0 32 := ⟨rfl, rfl⟩
theorem r_X10_waysToChoose_32 : RW M_X10_waysToChoose 32 (.lreturn) 1 0 0 33 := ⟨rfl, rfl⟩
theorem r_X11_kind_0 : RW M_X11_kind 0 (.aload_n 0) 1 0 0 1 := ⟨rfl, rfl⟩
theorem r_X11_kind_1 : RW M_X11_kind 1 (.iconst 0) 1 0 0 2 := ⟨rfl, rfl⟩
theorem r_X11_kind_2 : RW M_X11_kind 2 (.putfield 3) 3 11 0 5 := ⟨rfl, rfl⟩
theorem r_X11_kind_5 : RW M_X11_kind 5 (.aload_n 0) 1 0 0 6 := ⟨rfl, rfl⟩
theorem r_X11_kind_6 : RW M_X11_kind 6 (.iload_n 1) 1 0 0 7 := ⟨rfl, rfl⟩
theorem r_X11_kind_7 : RW M_X11_kind 7 (.iconst 0) 1 0 0 8 := ⟨rfl, rfl⟩
theorem r_X11_kind_8 : RW M_X11_kind 8 (.bipush 12) 2 0 0 10 := ⟨rfl, rfl⟩
theorem r_X11_kind_10 : RW M_X11_kind 10 (.invokestatic 392) 3 170 0 13 := ⟨rfl, rfl⟩
theorem r_X11_kind_13 : RW M_X11_kind 13 (.ifCond .eq 37) 3 50 0 16 := ⟨rfl, rfl⟩
theorem r_X11_kind_16 : RW M_X11_kind 16 (.iload_n 2) 1 0 0 17 := ⟨rfl, rfl⟩
theorem r_X11_kind_17 : RW M_X11_kind 17 (.iconst 0) 1 0 0 18 := ⟨rfl, rfl⟩
theorem r_X11_kind_18 : RW M_X11_kind 18 (.bipush 13) 2 0 0 20 := ⟨rfl, rfl⟩
theorem r_X11_kind_20 : RW M_X11_kind 20 (.invokestatic 392) 3 170 0 23 := ⟨rfl, rfl⟩
theorem r_X11_kind_23 : RW M_X11_kind 23 (.ifCond .eq 27) 3 50 0 26 := ⟨rfl, rfl⟩
theorem r_X11_kind_26 : RW M_X11_kind 26 (.iload_n 3) 1 0 0 27 := ⟨rfl, rfl⟩
theorem r_X11_kind_27 : RW M_X11_kind 27 (.iconst 0) 1 0 0 28 := ⟨rfl, rfl⟩
theorem r_X11_kind_28 : RW M_X11_kind 28 (.bipush 16) 2 0 0 30 := ⟨rfl, rfl⟩
theorem r_X11_kind_30 : RW M_X11_kind 30 (.invokestatic 392) 3 170 0 33 := ⟨rfl, rfl⟩
theorem r_X11_kind_33 : RW M_X11_kind 33 (.ifCond .eq 17) 3 50 0 36 := ⟨rfl, rfl⟩
theorem r_X11_kind_36 : RW M_X11_kind 36 (.iload 4) 2 0 0 38 := ⟨rfl, rfl⟩
theorem r_X11_kind_38 : RW M_X11_kind 38 (.iconst 0) 1 0 0 39 := ⟨rfl, rfl⟩
theorem r_X11_kind_39 : RW M_X11_kind 39 (.iconst 1) 1 0 0 40 := ⟨rfl, rfl⟩
theorem r_X11_kind_40 : RW M_X11_kind 40 (.invokestatic 392) 3 170 0 43 := ⟨rfl, rfl⟩
theorem r_X11_kind_43 : RW M_X11_kind 43 (.ifCond .eq 7) 3 50 0 46 := ⟨rfl, rfl⟩
theorem r_X11_kind_46 : RW M_X11_kind 46 (.iconst 1) 1 0 0 47 := ⟨rfl, rfl⟩
theorem r_X11_kind_47 : RW M_X11_kind 47 (.goto 4) 3 51 0 50 := ⟨rfl, rfl⟩
theorem r_X11_kind_50 : RW M_X11_kind 50 (.iconst 0) 1 0 0 51 := ⟨rfl, rfl⟩
theorem r_X11_kind_51 : RW M_X11_kind 51 (.iconst 1) 1 0 0 52 := ⟨rfl, rfl⟩
theorem r_X11_kind_52 : RW M_X11_kind 52 (.iconst 1) 1 0 0 53 := ⟨rfl, rfl⟩
theorem r_X11_kind_53 : RW M_X11_kind 53 (.invokevirtual 210) 3 169 0 56 := ⟨rfl, rfl⟩
theorem r_X11_kind_56 : RW M_X11_kind 56 (.ifCond .ne 5) 3 61 0 59 := ⟨rfl, rfl⟩
theorem r_X11_kind_59 : RW M_X11_kind 59 (.lconst 0) 1 0 0 60 := ⟨rfl, rfl⟩
theorem r_X11_kind_60 : RW M_X11_kind 60 (.lreturn) 1 0 0 61 := ⟨rfl, rfl⟩
theorem r_X11_kind_61 : RW M_X11_kind 61 (.iconst 0) 1 0 0 62 := ⟨rfl, rfl⟩
theorem r_X11_kind_62 : RW M_X11_kind 62 (.istore 5) 2 0 0 64 := ⟨rfl, rfl⟩
theorem r_X11_kind_64 : RW M_X11_kind 64 (.iload 5) 2 0 0 66 := ⟨rfl, rfl⟩
theorem r_X11_kind_66 : RW M_X11_kind 66 (.bipush 14) 2 0 0 68 := ⟨rfl, rfl⟩
theorem r_X11_kind_68 : RW M_X11_kind 68 (.if_icmp .ge 26) 3 94 0 71 := ⟨rfl, rfl⟩
theorem r_X11_kind_71 : RW M_X11_kind 71 (.aload_n 0) 1 0 0 72 := ⟨rfl, rfl⟩
theorem r_X11_kind_72 : RW M_X11_kind 72 (.getfield 95) 3 11 52 75 := ⟨rfl, rfl⟩
theorem r_X11_kind_75 : RW M_X11_kind 75 (.iload 5) 2 0 0 77 := ⟨rfl, rfl⟩
theorem r_X11_kind_77 : RW M_X11_kind 77 (.iload 5) 2 0 0 79 := ⟨rfl, rfl⟩
theorem r_X11_kind_79 : RW M_X11_kind 79 (.ifCond .ne 7) 3 86 0 82 := ⟨rfl, rfl⟩
theorem r_X11_kind_82 : RW M_X11_kind 82 (.lconst 1) 1 0 0 83 := ⟨rfl, rfl⟩
theorem r_X11_kind_83 : RW M_X11_kind 83 (.goto 4) 3 87 0 86 := ⟨rfl, rfl⟩
theorem r_X11_kind_86 : RW M_X11_kind 86 (.lconst 0) 1 0 0 87 := ⟨rfl, rfl⟩
theorem r_X11_kind_87 : RW M_X11_kind 87 (.lastore) 1 0 0 88 := ⟨rfl, rfl⟩
theorem r_X11_kind_88 : RW M_X11_kind 88 (.iinc 5 1) 3 0 0 91 := ⟨rfl, rfl⟩
theorem r_X11_kind_91 : RW M_X11_kind 91 (.goto (-27)) 3 64 0 94 := ⟨rfl, rfl⟩
theorem r_X11_kind_94 : RW M_X11_kind 94 (.lconst 1) 1 0 0 95 := ⟨rfl, rfl⟩
theorem r_X11_kind_95 : RW M_X11_kind 95 (.lstore 5) 2 0 0 97 := ⟨rfl, rfl⟩
theorem r_X11_kind_97 : RW M_X11_kind 97 (.iconst 0) 1 0 0 98 := ⟨rfl, rfl⟩
theorem r_X11_kind_98 : RW M_X11_kind 98 (.istore 7) 2 0 0 100 := ⟨rfl, rfl⟩
theorem r_X11_kind_100 : RW M_X11_kind 100 (.iload 7) 2 0 8 102 := ⟨rfl, rfl⟩
theorem r_X11_kind_102 : RW M_X11_kind 102 (.iload_n 1) 1 0 0 103 := ⟨rfl, rfl⟩
theorem r_X11_kind_103 : RW M_X11_kind 103 (.if_icmp .ge 74) 3 177 0 106 := ⟨rfl, rfl⟩
theorem r_X11_kind_106 : RW M_X11_kind 106 (.bipush 13) 2 0 0 108 := ⟨rfl, rfl⟩
theorem r_X11_kind_108 : RW M_X11_kind 108 (.istore 8) 2 0 0 110 := ⟨rfl, rfl⟩
theorem r_X11_kind_110 : RW M_X11_kind 110 (.iload 8) 2 0 0 112 := ⟨rfl, rfl⟩
theorem r_X11_kind_112 : RW M_X11_kind 112 (.ifCond .lt 51) 3 163 0 115 := ⟨rfl, rfl⟩
theorem r_X11_kind_115 : RW M_X11_kind 115 (.aload_n 0) 1 0 0 116 := ⟨rfl, rfl⟩
theorem r_X11_kind_116 : RW M_X11_kind 116 (.getfield 95) 3 11 52 119 := ⟨rfl, rfl⟩
theorem r_X11_kind_119 : RW M_X11_kind 119 (.iload 8) 2 0 0 121 := ⟨rfl, rfl⟩
theorem r_X11_kind_121 : RW M_X11_kind 121 (.aload_n 0) 1 0 0 122 := ⟨rfl, rfl⟩
theorem r_X11_kind_122 : RW M_X11_kind 122 (.getfield 95) 3 11 52 125 := ⟨rfl, rfl⟩
theorem r_X11_kind_125 : RW M_X11_kind 125 (.iload 8) 2 0 0 127 := ⟨rfl, rfl⟩
theorem r_X11_kind_127 : RW M_X11_kind 127 (.laload) 1 0 0 128 := ⟨rfl, rfl⟩
theorem r_X11_kind_128 : RW M_X11_kind 128 (.bipush 16) 2 0 0 130 := ⟨rfl, rfl⟩
theorem r_X11_kind_130 : RW M_X11_kind 130 (.iload_n 3) 1 0 0 131 := ⟨rfl, rfl⟩
theorem r_X11_kind_131 : RW M_X11_kind 131 (.isub) 1 0 0 132 := ⟨rfl, rfl⟩
theorem r_X11_kind_132 : RW M_X11_kind 132 (.i2l) 1 0 0 133 := ⟨rfl, rfl⟩
theorem r_X11_kind_133 : RW M_X11_kind 133 (.lmul) 1 0 0 134 := ⟨rfl, rfl⟩
theorem r_X11_kind_134 : RW M_X11_kind 134 (.iload 8) 2 0 0 136 := ⟨rfl, rfl⟩
theorem r_X11_kind_136 : RW M_X11_kind 136 (.ifCond .le 18) 3 154 0 139 := ⟨rfl, rfl⟩
theorem r_X11_kind_139 : RW M_X11_kind 139 (.aload_n 0) 1 0 0 140 := ⟨rfl, rfl⟩
theorem r_X11_kind_140 : RW M_X11_kind 140 (.getfield 95) 3 11 52 143 := ⟨rfl, rfl⟩
theorem r_X11_kind_143 : RW M_X11_kind 143 (.iload 8) 2 0 0 145 := ⟨rfl, rfl⟩
theorem r_X11_kind_145 : RW M_X11_kind 145 (.iconst 1) 1 0 0 146 := ⟨rfl, rfl⟩
theorem r_X11_kind_146 : RW M_X11_kind 146 (.isub) 1 0 0 147 := ⟨rfl, rfl⟩
theorem r_X11_kind_147 : RW M_X11_kind 147 (.laload) 1 0 0 148 := ⟨rfl, rfl⟩
theorem r_X11_kind_148 : RW M_X11_kind 148 (.iload_n 3) 1 0 0 149 := ⟨rfl, rfl⟩
theorem r_X11_kind_149 : RW M_X11_kind 149 (.i2l) 1 0 0 150 := ⟨rfl, rfl⟩
theorem r_X11_kind_150 : RW M_X11_kind 150 (.lmul) 1 0 0 151 := ⟨rfl, rfl⟩
theorem r_X11_kind_151 : RW M_X11_kind 151 (.goto 4) 3 155 0 154 := ⟨rfl, rfl⟩
theorem r_X11_kind_154 : RW M_X11_kind 154 (.lconst 0) 1 0 0 155 := ⟨rfl, rfl⟩
theorem r_X11_kind_155 : RW M_X11_kind 155 (.ladd) 1 0 0 156 := ⟨rfl, rfl⟩
theorem r_X11_kind_156 : RW M_X11_kind 156 (.lastore) 1 0 0 157 := ⟨rfl, rfl⟩
theorem r_X11_kind_157 : RW M_X11_kind 157 (.iinc 8 (-1)) 3 0 0 160 := ⟨rfl, rfl⟩
theorem r_X11_kind_160 : RW M_X11_kind 160 (.goto (-50)) 3 110 0 163 := ⟨rfl, rfl⟩
theorem r_X11_kind_163 : RW M_X11_kind 163 (.lload 5) 2 0 0 165 := ⟨rfl, rfl⟩
theorem r_X11_kind_165 : RW M_X11_kind 165 (.ldc2_w 431) 3 16 0 168 := ⟨rfl, rfl⟩
theorem r_X11_kind_168 : RW M_X11_kind 168 (.lmul) 1 0 0 169 := ⟨rfl, rfl⟩
theorem r_X11_kind_169 : RW M_X11_kind 169 (.lstore 5) 2 0 0 171 := ⟨rfl, rfl⟩
theorem r_X11_kind_171 : RW M_X11_kind 171 (.iinc 7 1) 3 0 0 174 := ⟨rfl, rfl⟩
theorem r_X11_kind_174 : RW M_X11_kind 174 (.goto (-74)) 3 100 0 177 := ⟨rfl, rfl⟩
theorem r_X11_kind_177 : RW M_X11_kind 177 (.lconst 0) 1 0 0 178 := ⟨rfl, rfl⟩
theorem r_X11_kind_178 : RW M_X11_kind 178 (.lstore 7) 2 0 0 180 := ⟨rfl, rfl⟩
theorem r_X11_kind_180 : RW M_X11_kind 180 (.iload_n 2) 1 0 0 181 := ⟨rfl, rfl⟩
theorem r_X11_kind_181 : RW M_X11_kind 181 (.istore 9) 2 0 0 183 := ⟨rfl, rfl⟩
theorem r_X11_kind_183 : RW M_X11_kind 183 (.iload 9) 2 0 0 185 := ⟨rfl, rfl⟩
theorem r_X11_kind_185 : RW M_X11_kind 185 (.bipush 14) 2 0 0 187 := ⟨rfl, rfl⟩
theorem r_X11_kind_187 : RW M_X11_kind 187 (.if_icmp .ge 21) 3 208 0 190 := ⟨rfl, rfl⟩
theorem r_X11_kind_190 : RW M_X11_kind 190 (.lload 7) 2 0 0 192 := ⟨rfl, rfl⟩
theorem r_X11_kind_192 : RW M_X11_kind 192 (.aload_n 0) 1 0 0 193 := ⟨rfl, rfl⟩
theorem r_X11_kind_193 : RW M_X11_kind 193 (.getfield 95) 3 11 52 196 := ⟨rfl, rfl⟩
theorem r_X11_kind_196 : RW M_X11_kind 196 (.iload 9) 2 0 0 198 := ⟨rfl, rfl⟩
theorem r_X11_kind_198 : RW M_X11_kind 198 (.laload) 1 0 0 199 := ⟨rfl, rfl⟩
theorem r_X11_kind_199 : RW M_X11_kind 199 (.ladd) 1 0 0 200 := ⟨rfl, rfl⟩
theorem r_X11_kind_200 : RW M_X11_kind 200 (.lstore 7) 2 0 0 202 := ⟨rfl, rfl⟩
theorem r_X11_kind_202 : RW M_X11_kind 202 (.iinc 9 1) 3 0 0 205 := ⟨rfl, rfl⟩
theorem r_X11_kind_205 : RW M_X11_kind 205 (.goto (-22)) 3 183 0 208 := ⟨rfl, rfl⟩
theorem r_X11_kind_208 : RW M_X11_kind 208 (.lload 7) 2 0 0 210 := ⟨rfl, rfl⟩
theorem r_X11_kind_210 : RW M_X11_kind 210 (.lload 5) 2 0 0 212 := ⟨rfl, rfl⟩
theorem r_X11_kind_212 : RW M_X11_kind 212 (.iload 4) 2 0 0 214 := ⟨rfl, rfl⟩
theorem r_X11_kind_214 : RW M_X11_kind 214 (.invokestatic 433) 3 256 0 217 := ⟨rfl, rfl⟩
theorem r_X11_kind_217 : RW M_X11_kind 217 (.lreturn) 1 0 0 218 := ⟨rfl, rfl⟩
theorem r_X11_least_0 : RW M_X11_least 0 (.lload_n 0) 1 0 0 1 := ⟨rfl, rfl⟩
theorem r_X11_least_1 : RW M_X11_least 1 (.lstore 5) 2 0 0 3 := ⟨rfl, rfl⟩
theorem r_X11_least_3 : RW M_X11_least 3 (.lload_n 2) 1 0 0 4 := ⟨rfl, rfl⟩
theorem r_X11_least_4 : RW M_X11_least 4 (.lstore 7) 2 0 0 6 := ⟨rfl, rfl⟩
theorem r_X11_least_6 : RW M_X11_least 6 (.lload 7) 2 0 9 8 := ⟨rfl, rfl⟩
theorem r_X11_least_8 : RW M_X11_least 8 (.lconst 0) 1 0 0 9 := ⟨rfl, rfl⟩
theorem r_X11_least_9 : RW M_X11_least 9 (.lcmp) 1 0 0 10 := ⟨rfl, rfl⟩
theorem r_X11_least_10 : RW M_X11_least 10 (.ifCond .eq 21) 3 31 0 13 := ⟨rfl, rfl⟩
theorem r_X11_least_13 : RW M_X11_least 13 (.lload 5) 2 0 0 15 := ⟨rfl, rfl⟩
theorem r_X11_least_15 : RW M_X11_least 15 (.lload 7) 2 0 0 17 := ⟨rfl, rfl⟩
theorem r_X11_least_17 : RW M_X11_least 17 (.lrem) 1 0 0 18 := ⟨rfl, rfl⟩
theorem r_X11_least_18 : RW M_X11_least 18 (.lstore 9) 2 0 0 20 := ⟨rfl, rfl⟩
theorem r_X11_least_20 : RW M_X11_least 20 (.lload 7) 2 0 0 22 := ⟨rfl, rfl⟩
theorem r_X11_least_22 : RW M_X11_least 22 (.lstore 5) 2 0 0 24 := ⟨rfl, rfl⟩
theorem r_X11_least_24 : RW M_X11_least 24 (.lload 9) 2 0 0 26 := ⟨rfl, rfl⟩
theorem r_X11_least_26 : RW M_X11_least 26 (.lstore 7) 2 0 0 28 := ⟨rfl, rfl⟩
theorem r_X11_least_28 : RW M_X11_least 28 (.goto (-22)) 3 6 0 31 := ⟨rfl, rfl⟩
theorem r_X11_least_31 : RW M_X11_least 31 (.iload 4) 2 0 0 33 := ⟨rfl, rfl⟩
theorem r_X11_least_33 : RW M_X11_least 33 (.ifCond .ne 7) 3 40 0 36 := ⟨rfl, rfl⟩
theorem r_X11_least_36 : RW M_X11_least 36 (.lload_n 0) 1 0 0 37 := ⟨rfl, rfl⟩
theorem r_X11_least_37 : RW M_X11_least 37 (.goto 4) 3 41 0 40 := ⟨rfl, rfl⟩
theorem r_X11_least_40 : RW M_X11_least 40 (.lload_n 2) 1 0 0 41 := ⟨rfl, rfl⟩
theorem r_X11_least_41 : RW M_X11_least 41 (.lload 5) 2 0 0 43 := ⟨rfl, rfl⟩
theorem r_X11_least_43 : RW M_X11_least 43 (.ldiv) 1 0 0 44 := ⟨rfl, rfl⟩
theorem r_X11_least_44 : RW M_X11_least 44 (.lreturn) 1 0 0 45 := ⟨rfl, rfl⟩
theorem c_power {d : Nat} {I : Nat → Nat → Int32} {J : Nat → Nat → Int64} {b t : Nat} (hb_ : b < 2147483648) (ht : t < 2147483648) (hd : 1 ≤ d) : RLV d 164 [.int (nI b), .int (nI t)] I J (nL (b ^ t)) := by
  refine RLV.in (d0 := 0) hd mt_164 (Nat.le_of_ble_eq_true rfl) (fun d' hd' => ?_)
  show EV none M_X10_power d' 0 [(0, .int (nI b)), (1, .int (nI t))] [] (hp I J) _
  refine EV.o r_X10_power_0 lc1 ?_
  refine EV.l (lv' := [(0, _), (1, _), (2, _)]) r_X10_power_1 rfl ?_
  refine EV.o r_X10_power_2 (icN (0) (v := 0)) ?_
  refine EV.l (lv' := [(0, _), (1, _), (2, _), (4, _)]) r_X10_power_3 rfl ?_
  have L5 : ∀ y_ : Nat, (fun i => i ≤ t → EV none M_X10_power d' 5 [(0, .int (nI b)), (1, .int (nI t)), (2, .long (nL (b ^ i))), (4, .int (nI i))] [] (hp I J) (QLV I J (nL (b ^ t)))) y_ := by
    refine ev_loop (fun i => t - i) ?_
    intro i ih5 hx5
    try dsimp only at ih5
    try dsimp only at hx5
    try dsimp only
    refine EV.l (lv' := [(0, _), (1, _), (2, _), (4, _)]) r_X10_power_5 rfl ?_
    refine EV.l (lv' := [(0, _), (1, _), (2, _), (4, _)]) r_X10_power_7 rfl ?_
    refine EV.n2_ge r_X10_power_8 (fun h8 => ?_) (fun h8 => ?_)
    · -- 8 t
      refine EV.l (lv' := [(0, _), (1, _), (2, _), (4, _)]) r_X10_power_22 rfl ?_
      exact EV.rlv r_X10_power_23 (by rw [show i = t by omega])
    · -- 8 f
      refine EV.l (lv' := [(0, _), (1, _), (2, _), (4, _)]) r_X10_power_11 rfl ?_
      refine EV.l (lv' := [(0, _), (1, _), (2, _), (4, _)]) r_X10_power_12 rfl ?_
      refine EV.o r_X10_power_13 (i2lN) ?_
      refine EV.o r_X10_power_14 lmulN ?_
      refine EV.l (lv' := [(0, _), (1, _), (2, _), (4, _)]) r_X10_power_15 rfl ?_
      refine EV.l (lv' := [(0, _), (1, _), (2, _), (4, _)]) r_X10_power_16 rfl ?_
      rw [inc_nI]
      refine EV.g r_X10_power_19 ?_
      refine EV.sub ?_ rfl ?_ (ih5 (i + 1) ?_ ?_)
      · rfl
      · rfl
      · omega
      · omega
  have h0 := L5 (0)
  try dsimp only at h0
  refine EV.sub ?_ rfl ?_ (h0 ?_)
  · rfl
  · rfl
  · omega
theorem c_ways {d : Nat} {I : Nat → Nat → Int32} {J : Nat → Nat → Int64} {n k : Nat} (hn : n ≤ 12) (hk : k ≤ n) (hd : 1 ≤ d) : RLV d 165 [.int (nI n), .int (nI k)] I J (nL (wv n k k)) := by
  refine RLV.in (d0 := 0) hd mt_165 (Nat.le_of_ble_eq_true rfl) (fun d' hd' => ?_)
  show EV none M_X10_waysToChoose d' 0 [(0, .int (nI n)), (1, .int (nI k))] [] (hp I J) _
  refine EV.o r_X10_waysToChoose_0 lc1 ?_
  refine EV.l (lv' := [(0, _), (1, _), (2, _)]) r_X10_waysToChoose_1 rfl ?_
  refine EV.o r_X10_waysToChoose_2 (icN (1) (v := 1)) ?_
  refine EV.l (lv' := [(0, _), (1, _), (2, _), (4, _)]) r_X10_waysToChoose_3 rfl ?_
  have L5 : ∀ y_ : Nat, (fun m => m ≤ k → EV none M_X10_waysToChoose d' 5 [(0, .int (nI n)), (1, .int (nI k)), (2, .long (nL (wv n k m))), (4, .int (nI (m + 1)))] [] (hp I J) (QLV I J (nL (wv n k k)))) y_ := by
    refine ev_loop (fun m => k - m) ?_
    intro m ih5 hx5
    try dsimp only at ih5
    try dsimp only at hx5
    try dsimp only
    refine EV.l (lv' := [(0, _), (1, _), (2, _), (4, _)]) r_X10_waysToChoose_5 rfl ?_
    refine EV.l (lv' := [(0, _), (1, _), (2, _), (4, _)]) r_X10_waysToChoose_7 rfl ?_
    refine EV.n2_gt r_X10_waysToChoose_8 (fun h8 => ?_) (fun h8 => ?_)
    · -- 8 t
      refine EV.l (lv' := [(0, _), (1, _), (2, _), (4, _)]) r_X10_waysToChoose_31 rfl ?_
      exact EV.rlv r_X10_waysToChoose_32 (by rw [show m = k by omega])
    · -- 8 f
      have w1 := wv_b n (by omega) k (by omega) m (by omega)
      have w2 : wv n k m * (n - k + (m + 1)) ≤ 924 * 25 := Nat.mul_le_mul w1 (by omega)
      refine EV.l (lv' := [(0, _), (1, _), (2, _), (4, _)]) r_X10_waysToChoose_11 rfl ?_
      refine EV.l (lv' := [(0, _), (1, _), (2, _), (4, _)]) r_X10_waysToChoose_12 rfl ?_
      refine EV.l (lv' := [(0, _), (1, _), (2, _), (4, _)]) r_X10_waysToChoose_13 rfl ?_
      refine EV.o r_X10_waysToChoose_14 (isubN) ?_
      refine EV.l (lv' := [(0, _), (1, _), (2, _), (4, _)]) r_X10_waysToChoose_15 rfl ?_
      refine EV.o r_X10_waysToChoose_17 iaddN ?_
      refine EV.o r_X10_waysToChoose_18 (i2lN) ?_
      refine EV.o r_X10_waysToChoose_19 lmulN ?_
      refine EV.l (lv' := [(0, _), (1, _), (2, _), (4, _)]) r_X10_waysToChoose_20 rfl ?_
      refine EV.o r_X10_waysToChoose_22 (i2lN) ?_
      refine EV.o r_X10_waysToChoose_23 (ldivN (by omega) (by omega) (by omega)) ?_
      refine EV.l (lv' := [(0, _), (1, _), (2, _), (4, _)]) r_X10_waysToChoose_24 rfl ?_
      refine EV.l (lv' := [(0, _), (1, _), (2, _), (4, _)]) r_X10_waysToChoose_25 rfl ?_
      rw [inc_nI]
      refine EV.g r_X10_waysToChoose_28 ?_
      refine EV.sub ?_ rfl ?_ (ih5 (m + 1) ?_ ?_)
      · rfl
      · rfl
      · omega
      · omega
  have h0 := L5 (0)
  try dsimp only at h0
  refine EV.sub ?_ rfl ?_ (h0 ?_)
  · rfl
  · rfl
  · omega
theorem c_kind0 {d : Nat} {I : Nat → Nat → Int32} {J : Nat → Nat → Int64} {n k q : Nat} (hn : n ≤ 12) (hk : k ≤ 13) (hq : q ≤ 16) (hd : 3 ≤ d) : RLV d 134 [.ref 0, .int (nI n), .int (nI k), .int (nI q), .int (nI 0)] I J (nL (kdA n k q / kdG n k q)) := by
  refine RLV.in (d0 := 2) hd mt_134 (Nat.le_of_ble_eq_true rfl) (fun d' hd' => ?_)
  have b16 := p16 hn
  show EV none M_X10_kind d' 0 [(0, .ref 0), (1, .int (nI n)), (2, .int (nI k)), (3, .int (nI q)), (4, .int (nI 0))] [] (hp I J) _
  refine EV.l (lv' := [(0, _), (1, _), (2, _), (3, _), (4, _)]) r_X10_kind_0 rfl ?_
  refine EV.l (lv' := [(0, _), (1, _), (2, _), (3, _), (4, _)]) r_X10_kind_1 rfl ?_
  refine EV.n0_lt r_X10_kind_2 (fun h2 => ?_) (fun h2 => ?_)
  · -- 2 t
    refine EV.o r_X10_kind_25 (icN (0) (v := 0)) ?_
    omega
  · -- 2 f
    refine EV.l (lv' := [(0, _), (1, _), (2, _), (3, _), (4, _)]) r_X10_kind_5 rfl ?_
    refine EV.o r_X10_kind_6 (bpN (12) 12) ?_
    refine EV.n2_gt r_X10_kind_8 (fun h8 => ?_) (fun h8 => ?_)
    · -- 8 t
      refine EV.o r_X10_kind_25 (icN (0) (v := 0)) ?_
      omega
    · -- 8 f
      refine EV.l (lv' := [(0, _), (1, _), (2, _), (3, _), (4, _)]) r_X10_kind_11 rfl ?_
      refine EV.n0_lt r_X10_kind_12 (fun h12 => ?_) (fun h12 => ?_)
      · -- 12 t
        refine EV.o r_X10_kind_25 (icN (0) (v := 0)) ?_
        omega
      · -- 12 f
        refine EV.l (lv' := [(0, _), (1, _), (2, _), (3, _), (4, _)]) r_X10_kind_15 rfl ?_
        refine EV.o r_X10_kind_16 (bpN (13) 13) ?_
        refine EV.n2_gt r_X10_kind_18 (fun h18 => ?_) (fun h18 => ?_)
        · -- 18 t
          refine EV.o r_X10_kind_25 (icN (0) (v := 0)) ?_
          omega
        · -- 18 f
          refine EV.o r_X10_kind_21 (icN (1) (v := 1)) ?_
          refine EV.g r_X10_kind_22 ?_
          refine EV.cu r_X10_kind_26 (aV1 mt_159 la_0) (c_arg1 (by omega)) (fun I2 e2 => ?_)
          have e2 := e2.symm; subst e2
          refine EV.l (lv' := [(0, _), (1, _), (2, _), (3, _), (4, _)]) r_X10_kind_29 rfl ?_
          refine EV.l (lv' := [(0, _), (1, _), (2, _), (3, _), (4, _)]) r_X10_kind_30 rfl ?_
          refine EV.n0_lt r_X10_kind_31 (fun h31 => ?_) (fun h31 => ?_)
          · -- 31 t
            refine EV.o r_X10_kind_55 (icN (0) (v := 0)) ?_
            omega
          · -- 31 f
            refine EV.l (lv' := [(0, _), (1, _), (2, _), (3, _), (4, _)]) r_X10_kind_34 rfl ?_
            refine EV.o r_X10_kind_35 (bpN (16) 16) ?_
            refine EV.n2_gt r_X10_kind_37 (fun h37 => ?_) (fun h37 => ?_)
            · -- 37 t
              refine EV.o r_X10_kind_55 (icN (0) (v := 0)) ?_
              omega
            · -- 37 f
              refine EV.l (lv' := [(0, _), (1, _), (2, _), (3, _), (4, _)]) r_X10_kind_40 rfl ?_
              refine EV.n0_eq r_X10_kind_42 (fun h42 => ?_) (fun h42 => ?_)
              · -- 42 t
                refine EV.o r_X10_kind_51 (icN (1) (v := 1)) ?_
                refine EV.g r_X10_kind_52 ?_
                refine EV.cu r_X10_kind_56 (aV1 mt_159 la_0) (c_arg1 (by omega)) (fun I2 e2 => ?_)
                have e2 := e2.symm; subst e2
                refine EV.o r_X10_kind_59 lc0 ?_
                refine EV.l (lv' := [(0, _), (1, _), (2, _), (3, _), (4, _), (5, _)]) r_X10_kind_60 rfl ?_
                refine EV.l (lv' := [(0, _), (1, _), (2, _), (3, _), (4, _), (5, _)]) r_X10_kind_62 rfl ?_
                refine EV.l (lv' := [(0, _), (1, _), (2, _), (3, _), (4, _), (5, _), (7, _)]) r_X10_kind_63 rfl ?_
                have L65 : ∀ y_ : Nat, (fun t => t ≤ n + 1 - k → EV none M_X10_kind d' 65 [(0, .ref 0), (1, .int (nI n)), (2, .int (nI k)), (3, .int (nI q)), (4, .int (nI 0)), (5, .long (nL (avs n k q t))), (7, .int (nI (k + t)))] [] (hp I J) (QLV I J (nL (kdA n k q / kdG n k q)))) y_ := by
                  refine ev_loop (fun t => n + 1 - k - t) ?_
                  intro t ih65 hx65
                  try dsimp only at ih65
                  try dsimp only at hx65
                  try dsimp only
                  refine EV.l (lv' := [(0, _), (1, _), (2, _), (3, _), (4, _), (5, _), (7, _)]) r_X10_kind_65 rfl ?_
                  refine EV.l (lv' := [(0, _), (1, _), (2, _), (3, _), (4, _), (5, _), (7, _)]) r_X10_kind_67 rfl ?_
                  refine EV.n2_gt r_X10_kind_68 (fun h68 => ?_) (fun h68 => ?_)
                  · -- 68 t
                    refine EV.o r_X10_kind_107 (bpN (16) 16) ?_
                    refine EV.l (lv' := [(0, _), (1, _), (2, _), (3, _), (4, _), (5, _), (7, _)]) r_X10_kind_109 rfl ?_
                    refine EV.clv r_X10_kind_110 (aS2 mt_164) (c_power (by omega) (by omega) (by omega)) ?_
                    refine EV.l (lv' := [(0, _), (1, _), (2, _), (3, _), (4, _), (5, _), (7, _)]) r_X10_kind_113 rfl ?_
                    refine EV.o r_X10_kind_115 (icN (0) (v := 0)) ?_
                    refine EV.l (lv' := [(0, _), (1, _), (2, _), (3, _), (4, _), (5, _), (7, _), (9, _)]) r_X10_kind_116 rfl ?_
                    have L118 : ∀ y_ : Nat × Nat × Nat, (fun y => (y.2.2 ≤ 48 ∧ hlv (48 - y.2.2) y.1 y.2.1 = (kdA n k q / kdG n k q, 16 ^ n / kdG n k q) ∧ y.1 < 9223372036854775808 ∧ y.2.1 < 9223372036854775808) → EV none M_X10_kind d' 118 [(0, .ref 0), (1, .int (nI n)), (2, .int (nI k)), (3, .int (nI q)), (4, .int (nI 0)), (5, .long (nL y.1)), (7, .long (nL y.2.1)), (9, .int (nI y.2.2))] [] (hp I J) (QLV I J (nL (kdA n k q / kdG n k q)))) y_ := by
                      refine ev_loop (fun y => 48 - y.2.2) ?_
                      intro ⟨a, b, i⟩ ih118 hx118
                      try dsimp only at ih118
                      try dsimp only at hx118
                      try dsimp only
                      refine EV.l (lv' := [(0, _), (1, _), (2, _), (3, _), (4, _), (5, _), (7, _), (9, _)]) r_X10_kind_118 rfl ?_
                      refine EV.o r_X10_kind_120 (bpN (48) 48) ?_
                      refine EV.n2_ge r_X10_kind_122 (fun h122 => ?_) (fun h122 => ?_)
                      · -- 122 t
                        refine EV.l (lv' := [(0, _), (1, _), (2, _), (3, _), (4, _), (5, _), (7, _), (9, _)]) r_X10_kind_159 rfl ?_
                        refine EV.n0_ne r_X10_kind_161 (fun h161 => ?_) (fun h161 => ?_)
                        · omega
                        · -- 161 f
                          refine EV.l (lv' := [(0, _), (1, _), (2, _), (3, _), (4, _), (5, _), (7, _), (9, _)]) r_X10_kind_164 rfl ?_
                          refine EV.g r_X10_kind_166 ?_
                          exact EV.rlv r_X10_kind_171 (congrArg nL (hlv_x hx118.2.1 (by omega)).1)
                      · -- 122 f
                        refine EV.l (lv' := [(0, _), (1, _), (2, _), (3, _), (4, _), (5, _), (7, _), (9, _)]) r_X10_kind_125 rfl ?_
                        refine EV.o r_X10_kind_127 lc1 ?_
                        refine EV.o r_X10_kind_128 (lcmpN (by omega) (by omega)) ?_
                        refine EV.k0_le r_X10_kind_129 (fun h129 => ?_) (fun h129 => ?_)
                        · -- 129 t
                          refine EV.l (lv' := [(0, _), (1, _), (2, _), (3, _), (4, _), (5, _), (7, _), (9, _)]) r_X10_kind_159 rfl ?_
                          refine EV.n0_ne r_X10_kind_161 (fun h161 => ?_) (fun h161 => ?_)
                          · omega
                          · -- 161 f
                            refine EV.l (lv' := [(0, _), (1, _), (2, _), (3, _), (4, _), (5, _), (7, _), (9, _)]) r_X10_kind_164 rfl ?_
                            refine EV.g r_X10_kind_166 ?_
                            exact EV.rlv r_X10_kind_171 (congrArg nL (hlv_x hx118.2.1 (by omega)).1)
                        · -- 129 f
                          refine EV.l (lv' := [(0, _), (1, _), (2, _), (3, _), (4, _), (5, _), (7, _), (9, _)]) r_X10_kind_132 rfl ?_
                          refine EV.o r_X10_kind_134 lc1 ?_
                          refine EV.o r_X10_kind_135 land1 ?_
                          refine EV.o r_X10_kind_136 lc0 ?_
                          refine EV.o r_X10_kind_137 (lcmpN (by omega) (by omega)) ?_
                          refine EV.k0_ne r_X10_kind_138 (fun h138 => ?_) (fun h138 => ?_)
                          · -- 138 t
                            refine EV.l (lv' := [(0, _), (1, _), (2, _), (3, _), (4, _), (5, _), (7, _), (9, _)]) r_X10_kind_159 rfl ?_
                            refine EV.n0_ne r_X10_kind_161 (fun h161 => ?_) (fun h161 => ?_)
                            · omega
                            · -- 161 f
                              refine EV.l (lv' := [(0, _), (1, _), (2, _), (3, _), (4, _), (5, _), (7, _), (9, _)]) r_X10_kind_164 rfl ?_
                              refine EV.g r_X10_kind_166 ?_
                              exact EV.rlv r_X10_kind_171 (congrArg nL (hlv_x hx118.2.1 (by omega)).1)
                          · -- 138 f
                            refine EV.l (lv' := [(0, _), (1, _), (2, _), (3, _), (4, _), (5, _), (7, _), (9, _)]) r_X10_kind_141 rfl ?_
                            refine EV.o r_X10_kind_143 (icN (1) (v := 1)) ?_
                            refine EV.o r_X10_kind_144 (lshr1 (by omega)) ?_
                            refine EV.l (lv' := [(0, _), (1, _), (2, _), (3, _), (4, _), (5, _), (7, _), (9, _)]) r_X10_kind_145 rfl ?_
                            refine EV.l (lv' := [(0, _), (1, _), (2, _), (3, _), (4, _), (5, _), (7, _), (9, _)]) r_X10_kind_147 rfl ?_
                            refine EV.o r_X10_kind_149 (icN (1) (v := 1)) ?_
                            refine EV.o r_X10_kind_150 (lshr1 (by omega)) ?_
                            refine EV.l (lv' := [(0, _), (1, _), (2, _), (3, _), (4, _), (5, _), (7, _), (9, _)]) r_X10_kind_151 rfl ?_
                            refine EV.l (lv' := [(0, _), (1, _), (2, _), (3, _), (4, _), (5, _), (7, _), (9, _)]) r_X10_kind_153 rfl ?_
                            rw [inc_nI]
                            refine EV.g r_X10_kind_156 ?_
                            refine EV.sub ?_ rfl ?_ (ih118 (a / 2, b / 2, i + 1) ?_ ?_)
                            · (try dsimp only) <;> (rfl)
                            · (try dsimp only) <;> (rfl)
                            · (try dsimp only) <;> (omega)
                            · (try dsimp only) <;> (have z1 := hlv_s (f := 48 - i) (a := a) (b := b) hx118.2.1 (by omega) (by omega) (by omega); exact ⟨by omega, z1, by omega, by omega⟩)
                    have h0 := L118 ((kdA n k q, 16 ^ n, 0))
                    try dsimp only at h0
                    refine EV.sub ?_ rfl ?_ (h0 ?_)
                    · (try dsimp only) <;> (rw [show t = n + 1 - k by omega]; rfl)
                    · (try dsimp only) <;> (rfl)
                    · (try dsimp only) <;> (exact ⟨by omega, hlv_k hn, kdA_b hn hq, by omega⟩)
                  · -- 68 f
                    refine EV.l (lv' := [(0, _), (1, _), (2, _), (3, _), (4, _), (5, _), (7, _)]) r_X10_kind_71 rfl ?_
                    refine EV.l (lv' := [(0, _), (1, _), (2, _), (3, _), (4, _), (5, _), (7, _)]) r_X10_kind_73 rfl ?_
                    refine EV.l (lv' := [(0, _), (1, _), (2, _), (3, _), (4, _), (5, _), (7, _)]) r_X10_kind_74 rfl ?_
                    refine EV.clv r_X10_kind_76 (aS2 mt_165) (c_ways hn (by omega) (by omega)) ?_
                    refine EV.l (lv' := [(0, _), (1, _), (2, _), (3, _), (4, _), (5, _), (7, _)]) r_X10_kind_79 rfl ?_
                    refine EV.l (lv' := [(0, _), (1, _), (2, _), (3, _), (4, _), (5, _), (7, _)]) r_X10_kind_80 rfl ?_
                    refine EV.clv r_X10_kind_82 (aS2 mt_164) (c_power (by omega) (by omega) (by omega)) ?_
                    refine EV.o r_X10_kind_85 lmulN ?_
                    refine EV.o r_X10_kind_86 (bpN (16) 16) ?_
                    refine EV.l (lv' := [(0, _), (1, _), (2, _), (3, _), (4, _), (5, _), (7, _)]) r_X10_kind_88 rfl ?_
                    refine EV.o r_X10_kind_89 (isubN) ?_
                    refine EV.l (lv' := [(0, _), (1, _), (2, _), (3, _), (4, _), (5, _), (7, _)]) r_X10_kind_90 rfl ?_
                    refine EV.l (lv' := [(0, _), (1, _), (2, _), (3, _), (4, _), (5, _), (7, _)]) r_X10_kind_91 rfl ?_
                    refine EV.o r_X10_kind_93 (isubN) ?_
                    refine EV.clv r_X10_kind_94 (aS2 mt_164) (c_power (by omega) (by omega) (by omega)) ?_
                    refine EV.o r_X10_kind_97 lmulN ?_
                    refine EV.o r_X10_kind_98 laddN ?_
                    refine EV.l (lv' := [(0, _), (1, _), (2, _), (3, _), (4, _), (5, _), (7, _)]) r_X10_kind_99 rfl ?_
                    refine EV.l (lv' := [(0, _), (1, _), (2, _), (3, _), (4, _), (5, _), (7, _)]) r_X10_kind_101 rfl ?_
                    rw [inc_nI]
                    refine EV.g r_X10_kind_104 ?_
                    refine EV.sub ?_ rfl ?_ (ih65 (t + 1) ?_ ?_)
                    · rfl
                    · rfl
                    · omega
                    · omega
                have h0 := L65 (0)
                try dsimp only at h0
                refine EV.sub ?_ rfl ?_ (h0 ?_)
                · rfl
                · rfl
                · omega
              · omega
theorem c_kind1 {d : Nat} {I : Nat → Nat → Int32} {J : Nat → Nat → Int64} {n k q : Nat} (hn : n ≤ 12) (hk : k ≤ 13) (hq : q ≤ 16) (hd : 3 ≤ d) : RLV d 134 [.ref 0, .int (nI n), .int (nI k), .int (nI q), .int (nI 1)] I J (nL (16 ^ n / kdG n k q)) := by
  refine RLV.in (d0 := 2) hd mt_134 (Nat.le_of_ble_eq_true rfl) (fun d' hd' => ?_)
  have b16 := p16 hn
  show EV none M_X10_kind d' 0 [(0, .ref 0), (1, .int (nI n)), (2, .int (nI k)), (3, .int (nI q)), (4, .int (nI 1))] [] (hp I J) _
  refine EV.l (lv' := [(0, _), (1, _), (2, _), (3, _), (4, _)]) r_X10_kind_0 rfl ?_
  refine EV.l (lv' := [(0, _), (1, _), (2, _), (3, _), (4, _)]) r_X10_kind_1 rfl ?_
  refine EV.n0_lt r_X10_kind_2 (fun h2 => ?_) (fun h2 => ?_)
  · -- 2 t
    refine EV.o r_X10_kind_25 (icN (0) (v := 0)) ?_
    omega
  · -- 2 f
    refine EV.l (lv' := [(0, _), (1, _), (2, _), (3, _), (4, _)]) r_X10_kind_5 rfl ?_
    refine EV.o r_X10_kind_6 (bpN (12) 12) ?_
    refine EV.n2_gt r_X10_kind_8 (fun h8 => ?_) (fun h8 => ?_)
    · -- 8 t
      refine EV.o r_X10_kind_25 (icN (0) (v := 0)) ?_
      omega
    · -- 8 f
      refine EV.l (lv' := [(0, _), (1, _), (2, _), (3, _), (4, _)]) r_X10_kind_11 rfl ?_
      refine EV.n0_lt r_X10_kind_12 (fun h12 => ?_) (fun h12 => ?_)
      · -- 12 t
        refine EV.o r_X10_kind_25 (icN (0) (v := 0)) ?_
        omega
      · -- 12 f
        refine EV.l (lv' := [(0, _), (1, _), (2, _), (3, _), (4, _)]) r_X10_kind_15 rfl ?_
        refine EV.o r_X10_kind_16 (bpN (13) 13) ?_
        refine EV.n2_gt r_X10_kind_18 (fun h18 => ?_) (fun h18 => ?_)
        · -- 18 t
          refine EV.o r_X10_kind_25 (icN (0) (v := 0)) ?_
          omega
        · -- 18 f
          refine EV.o r_X10_kind_21 (icN (1) (v := 1)) ?_
          refine EV.g r_X10_kind_22 ?_
          refine EV.cu r_X10_kind_26 (aV1 mt_159 la_0) (c_arg1 (by omega)) (fun I2 e2 => ?_)
          have e2 := e2.symm; subst e2
          refine EV.l (lv' := [(0, _), (1, _), (2, _), (3, _), (4, _)]) r_X10_kind_29 rfl ?_
          refine EV.l (lv' := [(0, _), (1, _), (2, _), (3, _), (4, _)]) r_X10_kind_30 rfl ?_
          refine EV.n0_lt r_X10_kind_31 (fun h31 => ?_) (fun h31 => ?_)
          · -- 31 t
            refine EV.o r_X10_kind_55 (icN (0) (v := 0)) ?_
            omega
          · -- 31 f
            refine EV.l (lv' := [(0, _), (1, _), (2, _), (3, _), (4, _)]) r_X10_kind_34 rfl ?_
            refine EV.o r_X10_kind_35 (bpN (16) 16) ?_
            refine EV.n2_gt r_X10_kind_37 (fun h37 => ?_) (fun h37 => ?_)
            · -- 37 t
              refine EV.o r_X10_kind_55 (icN (0) (v := 0)) ?_
              omega
            · -- 37 f
              refine EV.l (lv' := [(0, _), (1, _), (2, _), (3, _), (4, _)]) r_X10_kind_40 rfl ?_
              refine EV.n0_eq r_X10_kind_42 (fun h42 => ?_) (fun h42 => ?_)
              · omega
              · -- 42 f
                refine EV.l (lv' := [(0, _), (1, _), (2, _), (3, _), (4, _)]) r_X10_kind_45 rfl ?_
                refine EV.o r_X10_kind_47 (icN (1) (v := 1)) ?_
                refine EV.n2_ne r_X10_kind_48 (fun h48 => ?_) (fun h48 => ?_)
                · omega
                · -- 48 f
                  refine EV.o r_X10_kind_51 (icN (1) (v := 1)) ?_
                  refine EV.g r_X10_kind_52 ?_
                  refine EV.cu r_X10_kind_56 (aV1 mt_159 la_0) (c_arg1 (by omega)) (fun I2 e2 => ?_)
                  have e2 := e2.symm; subst e2
                  refine EV.o r_X10_kind_59 lc0 ?_
                  refine EV.l (lv' := [(0, _), (1, _), (2, _), (3, _), (4, _), (5, _)]) r_X10_kind_60 rfl ?_
                  refine EV.l (lv' := [(0, _), (1, _), (2, _), (3, _), (4, _), (5, _)]) r_X10_kind_62 rfl ?_
                  refine EV.l (lv' := [(0, _), (1, _), (2, _), (3, _), (4, _), (5, _), (7, _)]) r_X10_kind_63 rfl ?_
                  have L65 : ∀ y_ : Nat, (fun t => t ≤ n + 1 - k → EV none M_X10_kind d' 65 [(0, .ref 0), (1, .int (nI n)), (2, .int (nI k)), (3, .int (nI q)), (4, .int (nI 1)), (5, .long (nL (avs n k q t))), (7, .int (nI (k + t)))] [] (hp I J) (QLV I J (nL (16 ^ n / kdG n k q)))) y_ := by
                    refine ev_loop (fun t => n + 1 - k - t) ?_
                    intro t ih65 hx65
                    try dsimp only at ih65
                    try dsimp only at hx65
                    try dsimp only
                    refine EV.l (lv' := [(0, _), (1, _), (2, _), (3, _), (4, _), (5, _), (7, _)]) r_X10_kind_65 rfl ?_
                    refine EV.l (lv' := [(0, _), (1, _), (2, _), (3, _), (4, _), (5, _), (7, _)]) r_X10_kind_67 rfl ?_
                    refine EV.n2_gt r_X10_kind_68 (fun h68 => ?_) (fun h68 => ?_)
                    · -- 68 t
                      refine EV.o r_X10_kind_107 (bpN (16) 16) ?_
                      refine EV.l (lv' := [(0, _), (1, _), (2, _), (3, _), (4, _), (5, _), (7, _)]) r_X10_kind_109 rfl ?_
                      refine EV.clv r_X10_kind_110 (aS2 mt_164) (c_power (by omega) (by omega) (by omega)) ?_
                      refine EV.l (lv' := [(0, _), (1, _), (2, _), (3, _), (4, _), (5, _), (7, _)]) r_X10_kind_113 rfl ?_
                      refine EV.o r_X10_kind_115 (icN (0) (v := 0)) ?_
                      refine EV.l (lv' := [(0, _), (1, _), (2, _), (3, _), (4, _), (5, _), (7, _), (9, _)]) r_X10_kind_116 rfl ?_
                      have L118 : ∀ y_ : Nat × Nat × Nat, (fun y => (y.2.2 ≤ 48 ∧ hlv (48 - y.2.2) y.1 y.2.1 = (kdA n k q / kdG n k q, 16 ^ n / kdG n k q) ∧ y.1 < 9223372036854775808 ∧ y.2.1 < 9223372036854775808) → EV none M_X10_kind d' 118 [(0, .ref 0), (1, .int (nI n)), (2, .int (nI k)), (3, .int (nI q)), (4, .int (nI 1)), (5, .long (nL y.1)), (7, .long (nL y.2.1)), (9, .int (nI y.2.2))] [] (hp I J) (QLV I J (nL (16 ^ n / kdG n k q)))) y_ := by
                        refine ev_loop (fun y => 48 - y.2.2) ?_
                        intro ⟨a, b, i⟩ ih118 hx118
                        try dsimp only at ih118
                        try dsimp only at hx118
                        try dsimp only
                        refine EV.l (lv' := [(0, _), (1, _), (2, _), (3, _), (4, _), (5, _), (7, _), (9, _)]) r_X10_kind_118 rfl ?_
                        refine EV.o r_X10_kind_120 (bpN (48) 48) ?_
                        refine EV.n2_ge r_X10_kind_122 (fun h122 => ?_) (fun h122 => ?_)
                        · -- 122 t
                          refine EV.l (lv' := [(0, _), (1, _), (2, _), (3, _), (4, _), (5, _), (7, _), (9, _)]) r_X10_kind_159 rfl ?_
                          refine EV.n0_ne r_X10_kind_161 (fun h161 => ?_) (fun h161 => ?_)
                          · -- 161 t
                            refine EV.l (lv' := [(0, _), (1, _), (2, _), (3, _), (4, _), (5, _), (7, _), (9, _)]) r_X10_kind_169 rfl ?_
                            exact EV.rlv r_X10_kind_171 (congrArg nL (hlv_x hx118.2.1 (by omega)).2)
                          · omega
                        · -- 122 f
                          refine EV.l (lv' := [(0, _), (1, _), (2, _), (3, _), (4, _), (5, _), (7, _), (9, _)]) r_X10_kind_125 rfl ?_
                          refine EV.o r_X10_kind_127 lc1 ?_
                          refine EV.o r_X10_kind_128 (lcmpN (by omega) (by omega)) ?_
                          refine EV.k0_le r_X10_kind_129 (fun h129 => ?_) (fun h129 => ?_)
                          · -- 129 t
                            refine EV.l (lv' := [(0, _), (1, _), (2, _), (3, _), (4, _), (5, _), (7, _), (9, _)]) r_X10_kind_159 rfl ?_
                            refine EV.n0_ne r_X10_kind_161 (fun h161 => ?_) (fun h161 => ?_)
                            · -- 161 t
                              refine EV.l (lv' := [(0, _), (1, _), (2, _), (3, _), (4, _), (5, _), (7, _), (9, _)]) r_X10_kind_169 rfl ?_
                              exact EV.rlv r_X10_kind_171 (congrArg nL (hlv_x hx118.2.1 (by omega)).2)
                            · omega
                          · -- 129 f
                            refine EV.l (lv' := [(0, _), (1, _), (2, _), (3, _), (4, _), (5, _), (7, _), (9, _)]) r_X10_kind_132 rfl ?_
                            refine EV.o r_X10_kind_134 lc1 ?_
                            refine EV.o r_X10_kind_135 land1 ?_
                            refine EV.o r_X10_kind_136 lc0 ?_
                            refine EV.o r_X10_kind_137 (lcmpN (by omega) (by omega)) ?_
                            refine EV.k0_ne r_X10_kind_138 (fun h138 => ?_) (fun h138 => ?_)
                            · -- 138 t
                              refine EV.l (lv' := [(0, _), (1, _), (2, _), (3, _), (4, _), (5, _), (7, _), (9, _)]) r_X10_kind_159 rfl ?_
                              refine EV.n0_ne r_X10_kind_161 (fun h161 => ?_) (fun h161 => ?_)
                              · -- 161 t
                                refine EV.l (lv' := [(0, _), (1, _), (2, _), (3, _), (4, _), (5, _), (7, _), (9, _)]) r_X10_kind_169 rfl ?_
                                exact EV.rlv r_X10_kind_171 (congrArg nL (hlv_x hx118.2.1 (by omega)).2)
                              · omega
                            · -- 138 f
                              refine EV.l (lv' := [(0, _), (1, _), (2, _), (3, _), (4, _), (5, _), (7, _), (9, _)]) r_X10_kind_141 rfl ?_
                              refine EV.o r_X10_kind_143 (icN (1) (v := 1)) ?_
                              refine EV.o r_X10_kind_144 (lshr1 (by omega)) ?_
                              refine EV.l (lv' := [(0, _), (1, _), (2, _), (3, _), (4, _), (5, _), (7, _), (9, _)]) r_X10_kind_145 rfl ?_
                              refine EV.l (lv' := [(0, _), (1, _), (2, _), (3, _), (4, _), (5, _), (7, _), (9, _)]) r_X10_kind_147 rfl ?_
                              refine EV.o r_X10_kind_149 (icN (1) (v := 1)) ?_
                              refine EV.o r_X10_kind_150 (lshr1 (by omega)) ?_
                              refine EV.l (lv' := [(0, _), (1, _), (2, _), (3, _), (4, _), (5, _), (7, _), (9, _)]) r_X10_kind_151 rfl ?_
                              refine EV.l (lv' := [(0, _), (1, _), (2, _), (3, _), (4, _), (5, _), (7, _), (9, _)]) r_X10_kind_153 rfl ?_
                              rw [inc_nI]
                              refine EV.g r_X10_kind_156 ?_
                              refine EV.sub ?_ rfl ?_ (ih118 (a / 2, b / 2, i + 1) ?_ ?_)
                              · (try dsimp only) <;> (rfl)
                              · (try dsimp only) <;> (rfl)
                              · (try dsimp only) <;> (omega)
                              · (try dsimp only) <;> (have z1 := hlv_s (f := 48 - i) (a := a) (b := b) hx118.2.1 (by omega) (by omega) (by omega); exact ⟨by omega, z1, by omega, by omega⟩)
                      have h0 := L118 ((kdA n k q, 16 ^ n, 0))
                      try dsimp only at h0
                      refine EV.sub ?_ rfl ?_ (h0 ?_)
                      · (try dsimp only) <;> (rw [show t = n + 1 - k by omega]; rfl)
                      · (try dsimp only) <;> (rfl)
                      · (try dsimp only) <;> (exact ⟨by omega, hlv_k hn, kdA_b hn hq, by omega⟩)
                    · -- 68 f
                      refine EV.l (lv' := [(0, _), (1, _), (2, _), (3, _), (4, _), (5, _), (7, _)]) r_X10_kind_71 rfl ?_
                      refine EV.l (lv' := [(0, _), (1, _), (2, _), (3, _), (4, _), (5, _), (7, _)]) r_X10_kind_73 rfl ?_
                      refine EV.l (lv' := [(0, _), (1, _), (2, _), (3, _), (4, _), (5, _), (7, _)]) r_X10_kind_74 rfl ?_
                      refine EV.clv r_X10_kind_76 (aS2 mt_165) (c_ways hn (by omega) (by omega)) ?_
                      refine EV.l (lv' := [(0, _), (1, _), (2, _), (3, _), (4, _), (5, _), (7, _)]) r_X10_kind_79 rfl ?_
                      refine EV.l (lv' := [(0, _), (1, _), (2, _), (3, _), (4, _), (5, _), (7, _)]) r_X10_kind_80 rfl ?_
                      refine EV.clv r_X10_kind_82 (aS2 mt_164) (c_power (by omega) (by omega) (by omega)) ?_
                      refine EV.o r_X10_kind_85 lmulN ?_
                      refine EV.o r_X10_kind_86 (bpN (16) 16) ?_
                      refine EV.l (lv' := [(0, _), (1, _), (2, _), (3, _), (4, _), (5, _), (7, _)]) r_X10_kind_88 rfl ?_
                      refine EV.o r_X10_kind_89 (isubN) ?_
                      refine EV.l (lv' := [(0, _), (1, _), (2, _), (3, _), (4, _), (5, _), (7, _)]) r_X10_kind_90 rfl ?_
                      refine EV.l (lv' := [(0, _), (1, _), (2, _), (3, _), (4, _), (5, _), (7, _)]) r_X10_kind_91 rfl ?_
                      refine EV.o r_X10_kind_93 (isubN) ?_
                      refine EV.clv r_X10_kind_94 (aS2 mt_164) (c_power (by omega) (by omega) (by omega)) ?_
                      refine EV.o r_X10_kind_97 lmulN ?_
                      refine EV.o r_X10_kind_98 laddN ?_
                      refine EV.l (lv' := [(0, _), (1, _), (2, _), (3, _), (4, _), (5, _), (7, _)]) r_X10_kind_99 rfl ?_
                      refine EV.l (lv' := [(0, _), (1, _), (2, _), (3, _), (4, _), (5, _), (7, _)]) r_X10_kind_101 rfl ?_
                      rw [inc_nI]
                      refine EV.g r_X10_kind_104 ?_
                      refine EV.sub ?_ rfl ?_ (ih65 (t + 1) ?_ ?_)
                      · rfl
                      · rfl
                      · omega
                      · omega
                  have h0 := L65 (0)
                  try dsimp only at h0
                  refine EV.sub ?_ rfl ?_ (h0 ?_)
                  · rfl
                  · rfl
                  · omega
theorem c_kindX {d : Nat} {I : Nat → Nat → Int32} {J : Nat → Nat → Int64} {κ : CT} (hc_ : HC 4 κ I) (cb : CB κ) {n : Int} (n1 : -2147483648 ≤ n) (n2 : n < 2147483648) {k : Int} (k1 : -2147483648 ≤ k) (k2 : k < 2147483648) {q : Int} (q1 : -2147483648 ≤ q) (q2 : q < 2147483648) {h : Int} (h1 : -2147483648 ≤ h) (h2 : h < 2147483648) (hx : ¬ (0 ≤ n ∧ n ≤ 12 ∧ 0 ≤ k ∧ k ≤ 13 ∧ 0 ≤ q ∧ q ≤ 16 ∧ 0 ≤ h ∧ h ≤ 1)) (hd : 9 ≤ d) : RX d 134 [.ref 0, .int (zI n), .int (zI k), .int (zI q), .int (zI h)] I J 1 (fun I' => I' = ref1 I 14) := by
  refine RX.in (d0 := 8) hd mt_134 (Nat.le_of_ble_eq_true rfl) (fun d' hd' => ?_)
  have bns := cb.ns; have bnb := cb.nb; have bnc := cb.nc; have bnr := cb.nr
  have pn := Nat.two_pow_pos κ.ns; have qn := pow_ns cb; have pc := Nat.two_pow_pos κ.nc; have qc := pow_nc cb
  show EV none M_X10_kind d' 0 [(0, .ref 0), (1, .int (zI n)), (2, .int (zI k)), (3, .int (zI q)), (4, .int (zI h))] [] (hp I J) _
  refine EV.l (lv' := [(0, _), (1, _), (2, _), (3, _), (4, _)]) r_X10_kind_0 rfl ?_
  refine EV.l (lv' := [(0, _), (1, _), (2, _), (3, _), (4, _)]) r_X10_kind_1 rfl ?_
  refine EV.z0_lt r_X10_kind_2 (fun h2 => ?_) (fun h2 => ?_)
  · -- 2 t
    refine EV.o r_X10_kind_25 (icN (0) (v := 0)) ?_
    exact EV.cx r_X10_kind_26 (aV1 mt_159 la_0) (c_arg0 (by omega)) (fun _ h => h)
  · -- 2 f
    refine EV.l (lv' := [(0, _), (1, _), (2, _), (3, _), (4, _)]) r_X10_kind_5 rfl ?_
    refine EV.o r_X10_kind_6 (bpN (12) 12) ?_
    refine EV.zn2_gt r_X10_kind_8 (fun h8 => ?_) (fun h8 => ?_)
    · -- 8 t
      refine EV.o r_X10_kind_25 (icN (0) (v := 0)) ?_
      exact EV.cx r_X10_kind_26 (aV1 mt_159 la_0) (c_arg0 (by omega)) (fun _ h => h)
    · -- 8 f
      refine EV.l (lv' := [(0, _), (1, _), (2, _), (3, _), (4, _)]) r_X10_kind_11 rfl ?_
      refine EV.z0_lt r_X10_kind_12 (fun h12 => ?_) (fun h12 => ?_)
      · -- 12 t
        refine EV.o r_X10_kind_25 (icN (0) (v := 0)) ?_
        exact EV.cx r_X10_kind_26 (aV1 mt_159 la_0) (c_arg0 (by omega)) (fun _ h => h)
      · -- 12 f
        refine EV.l (lv' := [(0, _), (1, _), (2, _), (3, _), (4, _)]) r_X10_kind_15 rfl ?_
        refine EV.o r_X10_kind_16 (bpN (13) 13) ?_
        refine EV.zn2_gt r_X10_kind_18 (fun h18 => ?_) (fun h18 => ?_)
        · -- 18 t
          refine EV.o r_X10_kind_25 (icN (0) (v := 0)) ?_
          exact EV.cx r_X10_kind_26 (aV1 mt_159 la_0) (c_arg0 (by omega)) (fun _ h => h)
        · -- 18 f
          refine EV.o r_X10_kind_21 (icN (1) (v := 1)) ?_
          refine EV.g r_X10_kind_22 ?_
          refine EV.cu r_X10_kind_26 (aV1 mt_159 la_0) (c_arg1 (by omega)) (fun I2 e2 => ?_)
          have e2 := e2.symm; subst e2
          refine EV.l (lv' := [(0, _), (1, _), (2, _), (3, _), (4, _)]) r_X10_kind_29 rfl ?_
          refine EV.l (lv' := [(0, _), (1, _), (2, _), (3, _), (4, _)]) r_X10_kind_30 rfl ?_
          refine EV.z0_lt r_X10_kind_31 (fun h31 => ?_) (fun h31 => ?_)
          · -- 31 t
            refine EV.o r_X10_kind_55 (icN (0) (v := 0)) ?_
            exact EV.cx r_X10_kind_56 (aV1 mt_159 la_0) (c_arg0 (by omega)) (fun _ h => h)
          · -- 31 f
            refine EV.l (lv' := [(0, _), (1, _), (2, _), (3, _), (4, _)]) r_X10_kind_34 rfl ?_
            refine EV.o r_X10_kind_35 (bpN (16) 16) ?_
            refine EV.zn2_gt r_X10_kind_37 (fun h37 => ?_) (fun h37 => ?_)
            · -- 37 t
              refine EV.o r_X10_kind_55 (icN (0) (v := 0)) ?_
              exact EV.cx r_X10_kind_56 (aV1 mt_159 la_0) (c_arg0 (by omega)) (fun _ h => h)
            · -- 37 f
              refine EV.l (lv' := [(0, _), (1, _), (2, _), (3, _), (4, _)]) r_X10_kind_40 rfl ?_
              refine EV.z0_eq r_X10_kind_42 (fun h42 => ?_) (fun h42 => ?_)
              · -- 42 t
                refine EV.o r_X10_kind_51 (icN (1) (v := 1)) ?_
                refine EV.g r_X10_kind_52 ?_
                omega
              · -- 42 f
                refine EV.l (lv' := [(0, _), (1, _), (2, _), (3, _), (4, _)]) r_X10_kind_45 rfl ?_
                refine EV.o r_X10_kind_47 (icN (1) (v := 1)) ?_
                refine EV.zn2_ne r_X10_kind_48 (fun h48 => ?_) (fun h48 => ?_)
                · -- 48 t
                  refine EV.o r_X10_kind_55 (icN (0) (v := 0)) ?_
                  exact EV.cx r_X10_kind_56 (aV1 mt_159 la_0) (c_arg0 (by omega)) (fun _ h => h)
                · -- 48 f
                  refine EV.o r_X10_kind_51 (icN (1) (v := 1)) ?_
                  refine EV.g r_X10_kind_52 ?_
                  omega
theorem m_least0 {d : Nat} {I : Nat → Nat → Int32} {J : Nat → Nat → Int64} {a b : Nat} (ha : a < 9223372036854775808) (hb_ : b < 9223372036854775808) (h0 : 0 < b) (hd : 1 ≤ d) : RLV d 256 [.long (nL (a)), .long (nL (b)), .int (nI 0)] I J (nL (a / Nat.gcd a b)) := by
  refine RLV.in (d0 := 0) hd mt_256 (Nat.le_of_ble_eq_true rfl) (fun d' hd' => ?_)
  show EV none M_X11_least d' 0 [(0, .long (nL (a))), (2, .long (nL (b))), (4, .int (nI 0))] [] (hp I J) _
  refine EV.l (lv' := [(0, _), (2, _), (4, _)]) r_X11_least_0 rfl ?_
  refine EV.l (lv' := [(0, _), (2, _), (4, _), (5, _)]) r_X11_least_1 rfl ?_
  refine EV.l (lv' := [(0, _), (2, _), (4, _), (5, _)]) r_X11_least_3 rfl ?_
  refine EV.l (lv' := [(0, _), (2, _), (4, _), (5, _), (7, _)]) r_X11_least_4 rfl ?_
  have L6 : ∀ y_ : Nat × Nat, (fun y => (Nat.gcd y.1 y.2 = Nat.gcd a b ∧ y.1 < 9223372036854775808 ∧ y.2 < 9223372036854775808) → EV none M_X11_least d' 6 [(0, .long (nL (a))), (2, .long (nL (b))), (4, .int (nI 0)), (5, .long (nL y.1)), (7, .long (nL y.2))] [] (hp I J) (QLV I J (nL (a / Nat.gcd a b)))) y_ := by
    refine ev_loop (fun y => y.2) ?_
    intro ⟨x, z⟩ ih6 hx6
    try dsimp only at ih6
    try dsimp only at hx6
    try dsimp only
    refine EV.l (lv' := [(0, _), (2, _), (4, _), (5, _), (7, _)]) r_X11_least_6 rfl ?_
    refine EV.o r_X11_least_8 lc0 ?_
    refine EV.o r_X11_least_9 (lcmpN (by omega) (by omega)) ?_
    refine EV.k0_eq r_X11_least_10 (fun h10 => ?_) (fun h10 => ?_)
    · -- 10 t
      have g0 : x = Nat.gcd a b := by rw [← hx6.1, h10, Nat.gcd_zero_right]
      have g1 : 0 < x := by rw [g0]; exact Nat.gcd_pos_of_pos_right _ h0
      refine EV.l (lv' := [(0, _), (2, _), (4, _), (5, _), (7, _)]) r_X11_least_31 rfl ?_
      refine EV.n0_ne r_X11_least_33 (fun h33 => ?_) (fun h33 => ?_)
      · omega
      · -- 33 f
        refine EV.l (lv' := [(0, _), (2, _), (4, _), (5, _), (7, _)]) r_X11_least_36 rfl ?_
        refine EV.g r_X11_least_37 ?_
        refine EV.l (lv' := [(0, _), (2, _), (4, _), (5, _), (7, _)]) r_X11_least_41 rfl ?_
        refine EV.o r_X11_least_43 (ldivN (by omega) (by omega) (by omega)) ?_
        exact EV.rlv r_X11_least_44 (congrArg (fun w => nL (a / w)) g0)
    · -- 10 f
      refine EV.l (lv' := [(0, _), (2, _), (4, _), (5, _), (7, _)]) r_X11_least_13 rfl ?_
      refine EV.l (lv' := [(0, _), (2, _), (4, _), (5, _), (7, _)]) r_X11_least_15 rfl ?_
      refine EV.o r_X11_least_17 (lremN (by omega) (by omega) (by omega)) ?_
      refine EV.l (lv' := [(0, _), (2, _), (4, _), (5, _), (7, _), (9, _)]) r_X11_least_18 rfl ?_
      refine EV.l (lv' := [(0, _), (2, _), (4, _), (5, _), (7, _), (9, _)]) r_X11_least_20 rfl ?_
      refine EV.l (lv' := [(0, _), (2, _), (4, _), (5, _), (7, _), (9, _)]) r_X11_least_22 rfl ?_
      refine EV.l (lv' := [(0, _), (2, _), (4, _), (5, _), (7, _), (9, _)]) r_X11_least_24 rfl ?_
      refine EV.l (lv' := [(0, _), (2, _), (4, _), (5, _), (7, _), (9, _)]) r_X11_least_26 rfl ?_
      refine EV.g r_X11_least_28 ?_
      refine EV.fg (lv' := [(0, _), (2, _), (4, _), (5, _), (7, _)]) r_X11_least_6 rfl rfl rfl ?_
      refine EV.sub ?_ rfl ?_ (ih6 (z, x % z) ?_ ?_)
      · (try dsimp only) <;> (rfl)
      · (try dsimp only) <;> (rfl)
      · (try dsimp only) <;> (exact Nat.mod_lt _ (by omega))
      · (try dsimp only) <;> (exact ⟨gcd_st hx6.1, hx6.2.2, Nat.lt_of_le_of_lt (Nat.mod_le _ _) hx6.2.1⟩)
  have h0 := L6 ((a, b))
  try dsimp only at h0
  refine EV.sub ?_ rfl ?_ (h0 ?_)
  · (try dsimp only) <;> (rfl)
  · (try dsimp only) <;> (rfl)
  · (try dsimp only) <;> (exact ⟨rfl, ha, hb_⟩)
