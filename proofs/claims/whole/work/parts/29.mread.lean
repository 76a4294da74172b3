/-! What the model reads; best ones. -/
def MC (κ : CT) (I : Nat → Nat → Int32) : Prop := (I 106 22 = nI κ.ns) ∧ (I 106 23 = nI κ.nr) ∧ (I 106 24 = nI κ.nb) ∧ (I 106 25 = nI κ.nc) ∧ (∀ j, j < κ.ns → I 113 (3 * j) = nI (κ.sm j)) ∧ (∀ j, j < κ.ns → I 113 (3 * j + 1) = nI (κ.ss j)) ∧ (∀ j, j < κ.ns → I 113 (3 * j + 2) = nI (κ.sw j)) ∧ (∀ j, j < κ.nr → I 114 (3 * j) = nI (κ.r1 j)) ∧ (∀ j, j < κ.nr → I 114 (3 * j + 1) = nI (κ.r2 j)) ∧ (∀ j, j < κ.nr → I 114 (3 * j + 2) = nI (κ.r3 j)) ∧ (∀ j, j < κ.nb → I 115 (2 * j) = nI (κ.bm j)) ∧ (∀ j, j < κ.nb → I 115 (2 * j + 1) = nI (κ.bs j)) ∧ (∀ j, j < κ.nc → I 116 (2 * j) = nI (κ.cc j)) ∧ (∀ j, j < κ.nc → I 116 (2 * j + 1) = nI (κ.cs j))
theorem MC.ns {κ : CT} {I : Nat → Nat → Int32} (h_ : MC κ I) : I 106 22 = nI κ.ns := h_.1
theorem MC.nr {κ : CT} {I : Nat → Nat → Int32} (h_ : MC κ I) : I 106 23 = nI κ.nr := h_.2.1
theorem MC.nb {κ : CT} {I : Nat → Nat → Int32} (h_ : MC κ I) : I 106 24 = nI κ.nb := h_.2.2.1
theorem MC.nc {κ : CT} {I : Nat → Nat → Int32} (h_ : MC κ I) : I 106 25 = nI κ.nc := h_.2.2.2.1
theorem MC.sm {κ : CT} {I : Nat → Nat → Int32} (h_ : MC κ I) : ∀ j, j < κ.ns → I 113 (3 * j) = nI (κ.sm j) := h_.2.2.2.2.1
theorem MC.ss {κ : CT} {I : Nat → Nat → Int32} (h_ : MC κ I) : ∀ j, j < κ.ns → I 113 (3 * j + 1) = nI (κ.ss j) := h_.2.2.2.2.2.1
theorem MC.sw {κ : CT} {I : Nat → Nat → Int32} (h_ : MC κ I) : ∀ j, j < κ.ns → I 113 (3 * j + 2) = nI (κ.sw j) := h_.2.2.2.2.2.2.1
theorem MC.r1 {κ : CT} {I : Nat → Nat → Int32} (h_ : MC κ I) : ∀ j, j < κ.nr → I 114 (3 * j) = nI (κ.r1 j) := h_.2.2.2.2.2.2.2.1
theorem MC.r2 {κ : CT} {I : Nat → Nat → Int32} (h_ : MC κ I) : ∀ j, j < κ.nr → I 114 (3 * j + 1) = nI (κ.r2 j) := h_.2.2.2.2.2.2.2.2.1
theorem MC.r3 {κ : CT} {I : Nat → Nat → Int32} (h_ : MC κ I) : ∀ j, j < κ.nr → I 114 (3 * j + 2) = nI (κ.r3 j) := h_.2.2.2.2.2.2.2.2.2.1
theorem MC.bm {κ : CT} {I : Nat → Nat → Int32} (h_ : MC κ I) : ∀ j, j < κ.nb → I 115 (2 * j) = nI (κ.bm j) := h_.2.2.2.2.2.2.2.2.2.2.1
theorem MC.bs {κ : CT} {I : Nat → Nat → Int32} (h_ : MC κ I) : ∀ j, j < κ.nb → I 115 (2 * j + 1) = nI (κ.bs j) := h_.2.2.2.2.2.2.2.2.2.2.2.1
theorem MC.cc {κ : CT} {I : Nat → Nat → Int32} (h_ : MC κ I) : ∀ j, j < κ.nc → I 116 (2 * j) = nI (κ.cc j) := h_.2.2.2.2.2.2.2.2.2.2.2.2.1
theorem MC.cs {κ : CT} {I : Nat → Nat → Int32} (h_ : MC κ I) : ∀ j, j < κ.nc → I 116 (2 * j + 1) = nI (κ.cs j) := h_.2.2.2.2.2.2.2.2.2.2.2.2.2
def MR (a : Nat) (κ : CT) (η : HS) (I : Nat → Nat → Int32) : Prop := (∀ j, j < κ.ns → I a (0 + j) = nI (η.sa j)) ∧ (∀ j, j < κ.ns → I a (9 + j) = nI (η.nt.testBit j).toNat) ∧ (∀ j, j < κ.nb → I a (18 + j) = nI (η.be j)) ∧ (∀ j, j < κ.nb → I a (22 + j) = nI (η.le j)) ∧ (∀ j, j < κ.nc → I a (26 + j) = nI (η.cr j)) ∧ (I a 30 = nI η.mi)
theorem MR.sa {a : Nat} {κ : CT} {η : HS} {I : Nat → Nat → Int32} (h_ : MR a κ η I) : ∀ j, j < κ.ns → I a (0 + j) = nI (η.sa j) := h_.1
theorem MR.nt {a : Nat} {κ : CT} {η : HS} {I : Nat → Nat → Int32} (h_ : MR a κ η I) : ∀ j, j < κ.ns → I a (9 + j) = nI (η.nt.testBit j).toNat := h_.2.1
theorem MR.be {a : Nat} {κ : CT} {η : HS} {I : Nat → Nat → Int32} (h_ : MR a κ η I) : ∀ j, j < κ.nb → I a (18 + j) = nI (η.be j) := h_.2.2.1
theorem MR.le {a : Nat} {κ : CT} {η : HS} {I : Nat → Nat → Int32} (h_ : MR a κ η I) : ∀ j, j < κ.nb → I a (22 + j) = nI (η.le j) := h_.2.2.2.1
theorem MR.cr {a : Nat} {κ : CT} {η : HS} {I : Nat → Nat → Int32} (h_ : MR a κ η I) : ∀ j, j < κ.nc → I a (26 + j) = nI (η.cr j) := h_.2.2.2.2.1
theorem MR.mi {a : Nat} {κ : CT} {η : HS} {I : Nat → Nat → Int32} (h_ : MR a κ η I) : I a 30 = nI η.mi := h_.2.2.2.2.2
section BT
variable {sc : Option (Nat × (Nat → Int32))} {M : MI} {d pc : Nat} {lv : LV} {st : List Value} {G : AH} {Q : (Option Value ⊕ Nat) → AH → Nat → Prop}
theorem bt_1 {p : Bool} : p.toNat = 1 ↔ p = true := by cases p <;> decide
theorem bt_0 {p : Bool} : p.toNat = 0 ↔ p = false := by cases p <;> decide
theorem bt_lt (p : Bool) : p.toNat < 2147483648 := by cases p <;> decide
theorem EV.bt_eq {o : Int} {a b pq : Nat} {p : Bool} (hr : RW M pc (.if_icmp .eq o) 3 a b pq) (kt : p = true → EV sc M d a lv st G Q) (kf : p = false → EV sc M d pq lv st G Q) : EV sc M d pc lv (.int (nI 1) :: .int (nI p.toNat) :: st) G Q := EV.n2_eq hr (fun h => kt (bt_1.mp h)) (fun h => kf (by cases p <;> simp at h ⊢)) (bt_lt p) (by decide)
theorem EV.bt_ne {o : Int} {a b pq : Nat} {p : Bool} (hr : RW M pc (.if_icmp .ne o) 3 a b pq) (kt : p = false → EV sc M d a lv st G Q) (kf : p = true → EV sc M d pq lv st G Q) : EV sc M d pc lv (.int (nI 1) :: .int (nI p.toNat) :: st) G Q := EV.n2_ne hr (fun h => kt (by cases p <;> simp at h ⊢)) (fun h => kf (bt_1.mp h)) (bt_lt p) (by decide)
theorem EV.bz_eq {o : Int} {a b pq : Nat} {p : Bool} (hr : RW M pc (.ifCond .eq o) 3 a b pq) (kt : p = false → EV sc M d a lv st G Q) (kf : p = true → EV sc M d pq lv st G Q) : EV sc M d pc lv (.int (nI p.toNat) :: st) G Q := EV.b0_eq hr kt kf
theorem EV.bz_ne {o : Int} {a b pq : Nat} {p : Bool} (hr : RW M pc (.ifCond .ne o) 3 a b pq) (kt : p = true → EV sc M d a lv st G Q) (kf : p = false → EV sc M d pq lv st G Q) : EV sc M d pc lv (.int (nI p.toNat) :: st) G Q := EV.b0_ne hr kt kf
theorem opI_some {i : Nat} : opI (some i) = nI i := rfl
theorem op_m1 {n : Nat} (h : n < 2147483648) : ¬ nI n = zI (-1) := by
  rw [← zI_nat]
  exact fun e => by have := (zI_eqI (by omega) (by omega) (by omega) (by omega)).mp e; omega
theorem opI_m1 {o : Option Nat} (h : ∀ i, o = some i → i < 2147483648) : opI o = zI (-1) ↔ o = none := by
  cases o with
  | none => exact ⟨fun _ => rfl, fun _ => rfl⟩
  | some i => exact ⟨fun e => absurd e (op_m1 (h i rfl)), fun e => nomatch e⟩
theorem EV.op_eq {o : Int} {a b pq : Nat} {q : Option Nat} (hr : RW M pc (.if_icmp .eq o) 3 a b pq) (kt : q = none → EV sc M d a lv st G Q) (kf : (∃ i, q = some i) → EV sc M d pq lv st G Q) (h : ∀ i, q = some i → i < 2147483648) : EV sc M d pc lv (.int (zI (-1)) :: .int (opI q) :: st) G Q := EV.if2 (p := q = none) hr.1 (opI_m1 h).symm kt (fun e => hr.2.symm ▸ kf (by cases q with
  | none => exact absurd rfl e
  | some i => exact ⟨i, rfl⟩))
theorem EV.op_ne {o : Int} {a b pq : Nat} {q : Option Nat} (hr : RW M pc (.if_icmp .ne o) 3 a b pq) (kt : (∃ i, q = some i) → EV sc M d a lv st G Q) (kf : q = none → EV sc M d pq lv st G Q) (h : ∀ i, q = some i → i < 2147483648) : EV sc M d pc lv (.int (zI (-1)) :: .int (opI q) :: st) G Q := EV.if2 (p := ¬ q = none) hr.1 (not_congr (opI_m1 h)).symm (fun e => kt (by cases q with
  | none => exact absurd rfl e
  | some i => exact ⟨i, rfl⟩)) (fun e => hr.2.symm ▸ kf (Decidable.not_not.mp e))
end BT
section BST
variable {p : Nat → Bool} {lt : Nat → Nat → Bool} {k b : Nat}
theorem bst_n (h : p k = false) : bst p lt (k + 1) = bst p lt k := by
  show (match bst p lt k with | none => _ | some b => _) = _
  cases bst p lt k <;> simp [h]
theorem bst_0 (h : p k = true) (e : bst p lt k = none) : bst p lt (k + 1) = some k := by
  show (match bst p lt k with | none => _ | some b => _) = _
  rw [e]; simp [h]
theorem bst_t (h : p k = true) (e : bst p lt k = some b) (l : lt k b = true) : bst p lt (k + 1) = some k := by
  show (match bst p lt k with | none => _ | some b => _) = _
  rw [e]; simp [h, l]
theorem bst_f (h : p k = true) (e : bst p lt k = some b) (l : lt k b = false) : bst p lt (k + 1) = some b := by
  show (match bst p lt k with | none => _ | some b => _) = _
  rw [e]; simp [h, l]
end BST
theorem bst_lt {p : Nat → Bool} {lt : Nat → Nat → Bool} : ∀ {k b : Nat}, bst p lt k = some b → b < k
  | 0, b, h => nomatch h
  | k + 1, b, h => by
    have ih : ∀ c, bst p lt k = some c → c < k := fun c => bst_lt
    have h : (match bst p lt k with
      | none => if p k = true then some k else none
      | some b => if p k = true ∧ lt k b = true then some k else some b) = some b := h
    cases e : bst p lt k with
    | none => rw [e] at h; simp at h; omega
    | some c =>
      have h3 := ih c e
      rw [e] at h
      simp only at h
      split at h
      · cases h; omega
      · cases h; omega
def heav (κ : CT) (x : Nat) : Option Nat := bst (fun i => x.testBit i) (fun i b => decide (κ.sw b < κ.sw i)) κ.ns
def nxt (κ : CT) (η : HS) : Option Nat := bst (fun i => decide (η.mi ≤ η.sa i)) (fun i b => decide (η.sa i < η.sa b)) κ.ns
def wtS (κ : CT) (x s : Nat) : Nat → Nat
  | 0 => 0
  | k + 1 => wtS κ x s k + if x.testBit k = true ∧ κ.ss k = s then κ.sw k else 0
theorem wtS_t {κ : CT} {x s k : Nat} (h : x.testBit k = true) (h1 : κ.ss k = s) : wtS κ x s k + κ.sw k = wtS κ x s (k + 1) := by show _ = _ + ite _ _ _; rw [if_pos ⟨h, h1⟩]
theorem wtS_f {κ : CT} {x s k : Nat} (h : x.testBit k = false) : wtS κ x s k + 0 = wtS κ x s (k + 1) := by show _ = _ + ite _ _ _; rw [if_neg (fun z => by rw [h] at z; exact absurd z.1 (by decide))]
theorem wtS_g {κ : CT} {x s k : Nat} (h : ¬ κ.ss k = s) : wtS κ x s k + 0 = wtS κ x s (k + 1) := by show _ = _ + ite _ _ _; rw [if_neg (fun z => h z.2)]
theorem lean_wt {κ : CT} {x : Nat} (h : ∀ j, κ.ss j ≤ 1) : ∀ k, (wtS κ x 1 k : Int) - (wtS κ x 0 k : Int) = leanN κ x k
  | 0 => rfl
  | k + 1 => by
    have ih := lean_wt (κ := κ) (x := x) h k
    have h1 := h k
    unfold wtS leanN
    by_cases hx : x.testBit k = true
    · by_cases hs : κ.ss k = 1
      · simp only [hx, hs, true_and, if_true]
        have : ¬ (1 : Nat) = 0 := by decide
        simp only [this, if_false]
        omega
      · have h0 : κ.ss k = 0 := by omega
        have : ¬ (0 : Nat) = 1 := by decide
        simp only [hx, h0, this, true_and, if_true, if_false]
        omega
    · rw [if_neg (fun z => hx z.1), if_neg (fun z => hx z.1), if_neg hx]
      omega
theorem mk_z {p : Nat → Bool} {n : Nat} (h : p n = false) : mk p n ||| 0 = mk p (n + 1) := by rw [Nat.or_zero]; exact mk_f h
theorem mk_b {p : Nat → Bool} {n : Nat} : mk p n ||| (p n).toNat * 2 ^ n = mk p (n + 1) := by
  cases h : p n
  · rw [Bool.toNat_false, Nat.zero_mul]; exact mk_z h
  · rw [Bool.toNat_true, Nat.one_mul]; exact mk_t h
theorem mk_self {x n : Nat} (h : x < 2 ^ n) : mk (fun i => x.testBit i) n = x := eq_of_bits (mk_lt _ n) h (fun i hi => by rw [mk_bit]; simp [hi])
theorem ishlB {b : Bool} {k : Nat} {st : List Value} (hk : k < 31 := by omega) : stk .ishl (.int (nI k) :: .int (nI b.toNat) :: st) = some (.int (nI (b.toNat * 2 ^ k)) :: st) := by
  refine ishlN ?_ (by omega)
  have h1 : 2 ^ k < 2 ^ 31 := Nat.pow_lt_pow_right (by decide) hk
  cases b
  · rw [Bool.toNat_false, Nat.zero_mul]; decide
  · rw [Bool.toNat_true, Nat.one_mul]; omega
def sumN (f : Nat → Nat) : Nat → Nat
  | 0 => 0
  | k + 1 => sumN f k + f k
theorem cpy0 {I : Nat → Nat → Int32} {q o n : Nat} (h : o ≠ q) : wr (cpy I q 0 o 0 n) q n (cpy I q 0 o 0 n o n) = cpy I q 0 o 0 (n + 1) := by
  have := cpy_succ (I := I) (q := q) (p := 0) (o := o) (f := 0) (n := n) h
  rwa [Nat.zero_add] at this
theorem r_X11_allFrom_0 : RW M_X11_allFrom 0 (.iload_n 1) 1 0 0 1 := ⟨rfl, rfl⟩
theorem r_X11_allFrom_1 : RW M_X11_allFrom 1 (.istore_n 2) 1 0 0 2 := ⟨rfl, rfl⟩
theorem r_X11_allFrom_2 : RW M_X11_allFrom 2 (.iconst 0) 1 0 0 3 := ⟨rfl, rfl⟩
theorem r_X11_allFrom_3 : RW M_X11_allFrom 3 (.istore_n 3) 1 0 0 4 := ⟨rfl, rfl⟩
theorem r_X11_allFrom_4 : RW M_X11_allFrom 4 (.iload_n 3) 1 0 4 5 := ⟨rfl, rfl⟩
theorem r_X11_allFrom_5 : RW M_X11_allFrom 5 (.bipush 9) 2 0 0 7 := ⟨rfl, rfl⟩
theorem r_X11_allFrom_7 : RW M_X11_allFrom 7 (.if_icmp .ge 79) 3 86 0 10 := ⟨rfl, rfl⟩
theorem r_X11_allFrom_10 : RW M_X11_allFrom 10 (.iconst 0) 1 0 0 11 := ⟨rfl, rfl⟩
theorem r_X11_allFrom_11 : RW M_X11_allFrom 11 (.istore 4) 2 0 0 13 := ⟨rfl, rfl⟩
theorem r_X11_allFrom_13 : RW M_X11_allFrom 13 (.iload 4) 2 0 0 15 := ⟨rfl, rfl⟩
theorem r_X11_allFrom_15 : RW M_X11_allFrom 15 (.aload_n 0) 1 0 0 16 := ⟨rfl, rfl⟩
theorem r_X11_allFrom_16 : RW M_X11_allFrom 16 (.getfield 169) 3 11 23 19 := ⟨rfl, rfl⟩
theorem r_X11_allFrom_19 : RW M_X11_allFrom 19 (.if_icmp .ge 61) 3 80 0 22 := ⟨rfl, rfl⟩
theorem r_X11_allFrom_22 : RW M_X11_allFrom 22 (.iload_n 2) 1 0 0 23 := ⟨rfl, rfl⟩
theorem r_X11_allFrom_23 : RW M_X11_allFrom 23 (.aload_n 0) 1 0 0 24 := ⟨rfl, rfl⟩
theorem r_X11_allFrom_24 : RW M_X11_allFrom 24 (.getfield 38) 3 11 15 27 := ⟨rfl, rfl⟩
theorem r_X11_allFrom_27 : RW M_X11_allFrom 27 (.iconst 3) 1 0 0 28 := ⟨rfl, rfl⟩
theorem r_X11_allFrom_28 : RW M_X11_allFrom 28 (.iload 4) 2 0 0 30 := ⟨rfl, rfl⟩
theorem r_X11_allFrom_30 : RW M_X11_allFrom 30 (.imul) 1 0 0 31 := ⟨rfl, rfl⟩
theorem r_X11_allFrom_31 : RW M_X11_allFrom 31 (.iaload) 1 0 0 32 := ⟨rfl, rfl⟩
theorem r_X11_allFrom_32 : RW M_X11_allFrom 32 (.ishr) 1 0 0 33 := ⟨rfl, rfl⟩
theorem r_X11_allFrom_33 : RW M_X11_allFrom 33 (.iconst 1) 1 0 0 34 := ⟨rfl, rfl⟩
theorem r_X11_allFrom_34 : RW M_X11_allFrom 34 (.iand) 1 0 0 35 := ⟨rfl, rfl⟩
theorem r_X11_allFrom_35 : RW M_X11_allFrom 35 (.iconst 1) 1 0 0 36 := ⟨rfl, rfl⟩
theorem r_X11_allFrom_36 : RW M_X11_allFrom 36 (.if_icmp .ne 38) 3 74 0 39 := ⟨rfl, rfl⟩
theorem r_X11_allFrom_39 : RW M_X11_allFrom 39 (.iload_n 2) 1 0 0 40 := ⟨rfl, rfl⟩
theorem r_X11_allFrom_40 : RW M_X11_allFrom 40 (.aload_n 0) 1 0 0 41 := ⟨rfl, rfl⟩
theorem r_X11_allFrom_41 : RW M_X11_allFrom 41 (.getfield 38) 3 11 15 44 := ⟨rfl, rfl⟩
theorem r_X11_allFrom_44 : RW M_X11_allFrom 44 (.iconst 3) 1 0 0 45 := ⟨rfl, rfl⟩
theorem r_X11_allFrom_45 : RW M_X11_allFrom 45 (.iload 4) 2 0 0 47 := ⟨rfl, rfl⟩
theorem r_X11_allFrom_47 : RW M_X11_allFrom 47 (.imul) 1 0 0 48 := ⟨rfl, rfl⟩
theorem r_X11_allFrom_48 : RW M_X11_allFrom 48 (.iconst 1) 1 0 0 49 := ⟨rfl, rfl⟩
theorem r_X11_allFrom_49 : RW M_X11_allFrom 49 (.iadd) 1 0 0 50 := ⟨rfl, rfl⟩
theorem r_X11_allFrom_50 : RW M_X11_allFrom 50 (.iaload) 1 0 0 51 := ⟨rfl, rfl⟩
theorem r_X11_allFrom_51 : RW M_X11_allFrom 51 (.ishr) 1 0 0 52 := ⟨rfl, rfl⟩
theorem r_X11_allFrom_52 : RW M_X11_allFrom 52 (.iconst 1) 1 0 0 53 := ⟨rfl, rfl⟩
theorem r_X11_allFrom_53 : RW M_X11_allFrom 53 (.iand) 1 0 0 54 := ⟨rfl, rfl⟩
theorem r_X11_allFrom_54 : RW M_X11_allFrom 54 (.iconst 1) 1 0 0 55 := ⟨rfl, rfl⟩
theorem r_X11_allFrom_55 : RW M_X11_allFrom 55 (.if_icmp .ne 19) 3 74 0 58 := ⟨rfl, rfl⟩
theorem r_X11_allFrom_58 : RW M_X11_allFrom 58 (.iload_n 2) 1 0 0 59 := ⟨rfl, rfl⟩
theorem r_X11_allFrom_59 : RW M_X11_allFrom 59 (.iconst 1) 1 0 0 60 := ⟨rfl, rfl⟩
theorem r_X11_allFrom_60 : RW M_X11_allFrom 60 (.aload_n 0) 1 0 0 61 := ⟨rfl, rfl⟩
theorem r_X11_allFrom_61 : RW M_X11_allFrom 61 (.getfield 38) 3 11 15 64 := ⟨rfl, rfl⟩
theorem r_X11_allFrom_64 : RW M_X11_allFrom 64 (.iconst 3) 1 0 0 65 := ⟨rfl, rfl⟩
theorem r_X11_allFrom_65 : RW M_X11_allFrom 65 (.iload 4) 2 0 0 67 := ⟨rfl, rfl⟩
theorem r_X11_allFrom_67 : RW M_X11_allFrom 67 (.imul) 1 0 0 68 := ⟨rfl, rfl⟩
theorem r_X11_allFrom_68 : RW M_X11_allFrom 68 (.iconst 2) 1 0 0 69 := ⟨rfl, rfl⟩
theorem r_X11_allFrom_69 : RW M_X11_allFrom 69 (.iadd) 1 0 0 70 := ⟨rfl, rfl⟩
theorem r_X11_allFrom_70 : RW M_X11_allFrom 70 (.iaload) 1 0 0 71 := ⟨rfl, rfl⟩
theorem r_X11_allFrom_71 : RW M_X11_allFrom 71 (.ishl) 1 0 0 72 := ⟨rfl, rfl⟩
theorem r_X11_allFrom_72 : RW M_X11_allFrom 72 (.ior) 1 0 0 73 := ⟨rfl, rfl⟩
theorem r_X11_allFrom_73 : RW M_X11_allFrom 73 (.istore_n 2) 1 0 0 74 := ⟨rfl, rfl⟩
theorem r_X11_allFrom_74 : RW M_X11_allFrom 74 (.iinc 4 1) 3 0 0 77 := ⟨rfl, rfl⟩
theorem r_X11_allFrom_77 : RW M_X11_allFrom 77 (.goto (-64)) 3 13 0 80 := ⟨rfl, rfl⟩
theorem r_X11_allFrom_80 : RW M_X11_allFrom 80 (.iinc 3 1) 3 0 0 83 := ⟨rfl, rfl⟩
theorem r_X11_allFrom_83 : RW M_X11_allFrom 83 (.goto (-79)) 3 4 0 86 := ⟨rfl, rfl⟩
theorem r_X11_allFrom_86 : RW M_X11_allFrom 86 (.iload_n 2) 1 0 0 87 := ⟨rfl, rfl⟩
theorem r_X11_allFrom_87 : RW M_X11_allFrom 87 (.ireturn) 1 0 0 88 := ⟨rfl, rfl⟩
theorem r_X11_heaviestOf_0 : RW M_X11_heaviestOf 0 (.iconst (-1)) 1 0 0 1 := ⟨rfl, rfl⟩
theorem r_X11_heaviestOf_1 : RW M_X11_heaviestOf 1 (.istore_n 2) 1 0 0 2 := ⟨rfl, rfl⟩
theorem r_X11_heaviestOf_2 : RW M_X11_heaviestOf 2 (.iconst 0) 1 0 0 3 := ⟨rfl, rfl⟩
theorem r_X11_heaviestOf_3 : RW M_X11_heaviestOf 3 (.istore_n 3) 1 0 0 4 := ⟨rfl, rfl⟩
theorem r_X11_heaviestOf_4 : RW M_X11_heaviestOf 4 (.iload_n 3) 1 0 0 5 := ⟨rfl, rfl⟩
theorem r_X11_heaviestOf_5 : RW M_X11_heaviestOf 5 (.aload_n 0) 1 0 0 6 := ⟨rfl, rfl⟩
theorem r_X11_heaviestOf_6 : RW M_X11_heaviestOf 6 (.getfield 166) 3 11 22 9 := ⟨rfl, rfl⟩
theorem r_X11_heaviestOf_9 : RW M_X11_heaviestOf 9 (.if_icmp .ge 48) 3 57 0 12 := ⟨rfl, rfl⟩
theorem r_X11_heaviestOf_12 : RW M_X11_heaviestOf 12 (.iload_n 1) 1 0 0 13 := ⟨rfl, rfl⟩
theorem r_X11_heaviestOf_13 : RW M_X11_heaviestOf 13 (.iload_n 3) 1 0 0 14 := ⟨rfl, rfl⟩
theorem r_X11_heaviestOf_14 : RW M_X11_heaviestOf 14 (.ishr) 1 0 0 15 := ⟨rfl, rfl⟩
theorem r_X11_heaviestOf_15 : RW M_X11_heaviestOf 15 (.iconst 1) 1 0 0 16 := ⟨rfl, rfl⟩
theorem r_X11_heaviestOf_16 : RW M_X11_heaviestOf 16 (.iand) 1 0 0 17 := ⟨rfl, rfl⟩
theorem r_X11_heaviestOf_17 : RW M_X11_heaviestOf 17 (.iconst 1) 1 0 0 18 := ⟨rfl, rfl⟩
theorem r_X11_heaviestOf_18 : RW M_X11_heaviestOf 18 (.if_icmp .ne 33) 3 51 0 21 := ⟨rfl, rfl⟩
theorem r_X11_heaviestOf_21 : RW M_X11_heaviestOf 21 (.iload_n 2) 1 0 0 22 := ⟨rfl, rfl⟩
theorem r_X11_heaviestOf_22 : RW M_X11_heaviestOf 22 (.iconst (-1)) 1 0 0 23 := ⟨rfl, rfl⟩
theorem r_X11_heaviestOf_23 : RW M_X11_heaviestOf 23 (.if_icmp .eq 26) 3 49 0 26 := ⟨rfl, rfl⟩
theorem r_X11_heaviestOf_26 : RW M_X11_heaviestOf 26 (.aload_n 0) 1 0 0 27 := ⟨rfl, rfl⟩
theorem r_X11_heaviestOf_27 : RW M_X11_heaviestOf 27 (.getfield 35) 3 11 14 30 := ⟨rfl, rfl⟩
theorem r_X11_heaviestOf_30 : RW M_X11_heaviestOf 30 (.iconst 3) 1 0 0 31 := ⟨rfl, rfl⟩
theorem r_X11_heaviestOf_31 : RW M_X11_heaviestOf 31 (.iload_n 3) 1 0 0 32 := ⟨rfl, rfl⟩
theorem r_X11_heaviestOf_32 : RW M_X11_heaviestOf 32 (.imul) 1 0 0 33 := ⟨rfl, rfl⟩
theorem r_X11_heaviestOf_33 : RW M_X11_heaviestOf 33 (.iconst 2) 1 0 0 34 := ⟨rfl, rfl⟩
theorem r_X11_heaviestOf_34 : RW M_X11_heaviestOf 34 (.iadd) 1 0 0 35 := ⟨rfl, rfl⟩
theorem r_X11_heaviestOf_35 : RW M_X11_heaviestOf 35 (.iaload) 1 0 0 36 := ⟨rfl, rfl⟩
theorem r_X11_heaviestOf_36 : RW M_X11_heaviestOf 36 (.aload_n 0) 1 0 0 37 := ⟨rfl, rfl⟩
theorem r_X11_heaviestOf_37 : RW M_X11_heaviestOf 37 (.getfield 35) 3 11 14 40 := ⟨rfl, rfl⟩
theorem r_X11_heaviestOf_40 : RW M_X11_heaviestOf 40 (.iconst 3) 1 0 0 41 := ⟨rfl, rfl⟩
theorem r_X11_heaviestOf_41 : RW M_X11_heaviestOf 41 (.iload_n 2) 1 0 0 42 := ⟨rfl, rfl⟩
theorem r_X11_heaviestOf_42 : RW M_X11_heaviestOf 42 (.imul) 1 0 0 43 := ⟨rfl, rfl⟩
theorem r_X11_heaviestOf_43 : RW M_X11_heaviestOf 43 (.iconst 2) 1 0 0 44 := ⟨rfl, rfl⟩
theorem r_X11_heaviestOf_44 : RW M_X11_heaviestOf 44 (.iadd) 1 0 0 45 := ⟨rfl, rfl⟩
theorem r_X11_heaviestOf_45 : RW M_X11_heaviestOf 45 (.iaload) 1 0 0 46 := ⟨rfl, rfl⟩
theorem r_X11_heaviestOf_46 : RW M_X11_heaviestOf 46 (.if_icmp .le 5) 3 51 0 49 := ⟨rfl, rfl⟩
theorem r_X11_heaviestOf_49 : RW M_X11_heaviestOf 49 (.iload_n 3) 1 0 0 50 := ⟨rfl, rfl⟩
theorem r_X11_heaviestOf_50 : RW M_X11_heaviestOf 50 (.istore_n 2) 1 0 0 51 := ⟨rfl, rfl⟩
theorem r_X11_heaviestOf_51 : RW M_X11_heaviestOf 51 (.iinc 3 1) 3 0 0 54 := ⟨rfl, rfl⟩
theorem r_X11_heaviestOf_54 : RW M_X11_heaviestOf 54 (.goto (-50)) 3 4 0 57 := ⟨rfl, rfl⟩
theorem r_X11_heaviestOf_57 : RW M_X11_heaviestOf 57 (.iload_n 2) 1 0 0 58 := ⟨rfl, rfl⟩
theorem r_X11_heaviestOf_58 : RW M_X11_heaviestOf 58 (.ireturn) 1 0 0 59 := ⟨rfl, rfl⟩
theorem r_X11_leanOf_0 : RW M_X11_leanOf 0 (.aload_n 0) 1 0 0 1 := ⟨rfl, rfl⟩
theorem r_X11_leanOf_1 : RW M_X11_leanOf 1 (.aload_n 0) 1 0 0 2 := ⟨rfl, rfl⟩
theorem r_X11_leanOf_2 : RW M_X11_leanOf 2 (.iload_n 1) 1 0 0 3 := ⟨rfl, rfl⟩
theorem r_X11_leanOf_3 : RW M_X11_leanOf 3 (.invokevirtual 364) 3 223 0 6 := ⟨rfl, rfl⟩
theorem r_X11_leanOf_6 : RW M_X11_leanOf 6 (.iconst 1) 1 0 0 7 := ⟨rfl, rfl⟩
theorem r_X11_leanOf_7 : RW M_X11_leanOf 7 (.invokevirtual 367) 3 224 0 10 := ⟨rfl, rfl⟩
theorem r_X11_leanOf_10 : RW M_X11_leanOf 10 (.aload_n 0) 1 0 0 11 := ⟨rfl, rfl⟩
theorem r_X11_leanOf_11 : RW M_X11_leanOf 11 (.aload_n 0) 1 0 0 12 := ⟨rfl, rfl⟩
theorem r_X11_leanOf_12 : RW M_X11_leanOf 12 (.iload_n 1) 1 0 0 13 := ⟨rfl, rfl⟩
theorem r_X11_leanOf_13 : RW M_X11_leanOf 13 (.invokevirtual 364) 3 223 0 16 := ⟨rfl, rfl⟩
theorem r_X11_leanOf_16 : RW M_X11_leanOf 16 (.iconst 0) 1 0 0 17 := ⟨rfl, rfl⟩
theorem r_X11_leanOf_17 : RW M_X11_leanOf 17 (.invokevirtual 367) 3 224 0 20 := ⟨rfl, rfl⟩
theorem r_X11_leanOf_20 : RW M_X11_leanOf 20 (.isub) 1 0 0 21 := ⟨rfl, rfl⟩
theorem r_X11_leanOf_21 : RW M_X11_leanOf 21 (.ireturn) 1 0 0 22 := ⟨rfl, rfl⟩
theorem r_X11_notedNow_0 : RW M_X11_notedNow 0 (.iconst 0) 1 0 0 1 := ⟨rfl, rfl⟩
theorem r_X11_notedNow_1 : RW M_X11_notedNow 1 (.istore_n 1) 1 0 0 2 := ⟨rfl, rfl⟩
theorem r_X11_notedNow_2 : RW M_X11_notedNow 2 (.iconst 0) 1 0 0 3 := ⟨rfl, rfl⟩
theorem r_X11_notedNow_3 : RW M_X11_notedNow 3 (.istore_n 2) 1 0 0 4 := ⟨rfl, rfl⟩
theorem r_X11_notedNow_4 : RW M_X11_notedNow 4 (.iload_n 2) 1 0 0 5 := ⟨rfl, rfl⟩
theorem r_X11_notedNow_5 : RW M_X11_notedNow 5 (.aload_n 0) 1 0 0 6 := ⟨rfl, rfl⟩
theorem r_X11_notedNow_6 : RW M_X11_notedNow 6 (.getfield 166) 3 11 22 9 := ⟨rfl, rfl⟩
theorem r_X11_notedNow_9 : RW M_X11_notedNow 9 (.if_icmp .ge 23) 3 32 0 12 := ⟨rfl, rfl⟩
theorem r_X11_notedNow_12 : RW M_X11_notedNow 12 (.iload_n 1) 1 0 0 13 := ⟨rfl, rfl⟩
theorem r_X11_notedNow_13 : RW M_X11_notedNow 13 (.aload_n 0) 1 0 0 14 := ⟨rfl, rfl⟩
theorem r_X11_notedNow_14 : RW M_X11_notedNow 14 (.getfield 74) 3 11 43 17 := ⟨rfl, rfl⟩
theorem r_X11_notedNow_17 : RW M_X11_notedNow 17 (.bipush 9) 2 0 0 19 := ⟨rfl, rfl⟩
theorem r_X11_notedNow_19 : RW M_X11_notedNow 19 (.iload_n 2) 1 0 0 20 := ⟨rfl, rfl⟩
theorem r_X11_notedNow_20 : RW M_X11_notedNow 20 (.iadd) 1 0 0 21 := ⟨rfl, rfl⟩
theorem r_X11_notedNow_21 : RW M_X11_notedNow 21 (.iaload) 1 0 0 22 := ⟨rfl, rfl⟩
theorem r_X11_notedNow_22 : RW M_X11_notedNow 22 (.iload_n 2) 1 0 0 23 := ⟨rfl, rfl⟩
theorem r_X11_notedNow_23 : RW M_X11_notedNow 23 (.ishl) 1 0 0 24 := ⟨rfl, rfl⟩
theorem r_X11_notedNow_24 : RW M_X11_notedNow 24 (.ior) 1 0 0 25 := ⟨rfl, rfl⟩
theorem r_X11_notedNow_25 : RW M_X11_notedNow 25 (.istore_n 1) 1 0 0 26 := ⟨rfl, rfl⟩
theorem r_X11_notedNow_26 : RW M_X11_notedNow 26 (.iinc 2 1) 3 0 0 29 := ⟨rfl, rfl⟩
theorem r_X11_notedNow_29 : RW M_X11_notedNow 29 (.goto (-25)) 3 4 0 32 := ⟨rfl, rfl⟩
theorem r_X11_notedNow_32 : RW M_X11_notedNow 32 (.iload_n 1) 1 0 0 33 := ⟨rfl, rfl⟩
theorem r_X11_notedNow_33 : RW M_X11_notedNow 33 (.ireturn) 1 0 0 34 := ⟨rfl, rfl⟩
theorem r_X11_saidBy_0 : RW M_X11_saidBy 0 (.iconst 0) 1 0 0 1 := ⟨rfl, rfl⟩
theorem r_X11_saidBy_1 : RW M_X11_saidBy 1 (.istore_n 2) 1 0 0 2 := ⟨rfl, rfl⟩
theorem r_X11_saidBy_2 : RW M_X11_saidBy 2 (.iconst 0) 1 0 0 3 := ⟨rfl, rfl⟩
theorem r_X11_saidBy_3 : RW M_X11_saidBy 3 (.istore_n 3) 1 0 0 4 := ⟨rfl, rfl⟩
theorem r_X11_saidBy_4 : RW M_X11_saidBy 4 (.iload_n 3) 1 0 0 5 := ⟨rfl, rfl⟩
theorem r_X11_saidBy_5 : RW M_X11_saidBy 5 (.aload_n 0) 1 0 0 6 := ⟨rfl, rfl⟩
theorem r_X11_saidBy_6 : RW M_X11_saidBy 6 (.getfield 166) 3 11 22 9 := ⟨rfl, rfl⟩
theorem r_X11_saidBy_9 : RW M_X11_saidBy 9 (.if_icmp .ge 31) 3 40 0 12 := ⟨rfl, rfl⟩
theorem r_X11_saidBy_12 : RW M_X11_saidBy 12 (.iload_n 2) 1 0 0 13 := ⟨rfl, rfl⟩
theorem r_X11_saidBy_13 : RW M_X11_saidBy 13 (.aload_n 0) 1 0 0 14 := ⟨rfl, rfl⟩
theorem r_X11_saidBy_14 : RW M_X11_saidBy 14 (.getfield 74) 3 11 43 17 := ⟨rfl, rfl⟩
theorem r_X11_saidBy_17 : RW M_X11_saidBy 17 (.iconst 0) 1 0 0 18 := ⟨rfl, rfl⟩
theorem r_X11_saidBy_18 : RW M_X11_saidBy 18 (.iload_n 3) 1 0 0 19 := ⟨rfl, rfl⟩
theorem r_X11_saidBy_19 : RW M_X11_saidBy 19 (.iadd) 1 0 0 20 := ⟨rfl, rfl⟩
theorem r_X11_saidBy_20 : RW M_X11_saidBy 20 (.iaload) 1 0 0 21 := ⟨rfl, rfl⟩
theorem r_X11_saidBy_21 : RW M_X11_saidBy 21 (.iload_n 1) 1 0 0 22 := ⟨rfl, rfl⟩
theorem r_X11_saidBy_22 : RW M_X11_saidBy 22 (.if_icmp .gt 9) 3 31 0 25 := ⟨rfl, rfl⟩
theorem r_X11_saidBy_25 : RW M_X11_saidBy 25 (.iconst 1) 1 0 0 26 := ⟨rfl, rfl⟩
theorem r_X11_saidBy_26 : RW M_X11_saidBy 26 (.iload_n 3) 1 0 0 27 := ⟨rfl, rfl⟩
theorem r_X11_saidBy_27 : RW M_X11_saidBy 27 (.ishl) 1 0 0 28 := ⟨rfl, rfl⟩
theorem r_X11_saidBy_28 : RW M_X11_saidBy 28 (.goto 4) 3 32 0 31 := ⟨rfl, rfl⟩
theorem r_X11_saidBy_31 : RW M_X11_saidBy 31 (.iconst 0) 1 0 0 32 := ⟨rfl, rfl⟩
theorem r_X11_saidBy_32 : RW M_X11_saidBy 32 (.ior) 1 0 0 33 := ⟨rfl, rfl⟩
theorem r_X11_saidBy_33 : RW M_X11_saidBy 33 (.istore_n 2) 1 0 0 34 := ⟨rfl, rfl⟩
theorem r_X11_saidBy_34 : RW M_X11_saidBy 34 (.iinc 3 1) 3 0 0 37 := ⟨rfl, rfl⟩
theorem r_X11_saidBy_37 : RW M_X11_saidBy 37 (.goto (-33)) 3 4 0 40 := ⟨rfl, rfl⟩
theorem r_X11_saidBy_40 : RW M_X11_saidBy 40 (.iload_n 2) 1 0 0 41 := ⟨rfl, rfl⟩
theorem r_X11_saidBy_41 : RW M_X11_saidBy 41 (.ireturn) 1 0 0 42 := ⟨rfl, rfl⟩
theorem r_X11_sumOf_0 : RW M_X11_sumOf 0 (.iconst 0) 1 0 0 1 := ⟨rfl, rfl⟩
theorem r_X11_sumOf_1 : RW M_X11_sumOf 1 (.istore_n 3) 1 0 0 2 := ⟨rfl, rfl⟩
theorem r_X11_sumOf_2 : RW M_X11_sumOf 2 (.iconst 0) 1 0 0 3 := ⟨rfl, rfl⟩
theorem r_X11_sumOf_3 : RW M_X11_sumOf 3 (.istore 4) 2 0 0 5 := ⟨rfl, rfl⟩
theorem r_X11_sumOf_5 : RW M_X11_sumOf 5 (.iload 4) 2 0 0 7 := ⟨rfl, rfl⟩
theorem r_X11_sumOf_7 : RW M_X11_sumOf 7 (.iload_n 2) 1 0 0 8 := ⟨rfl, rfl⟩
theorem r_X11_sumOf_8 : RW M_X11_sumOf 8 (.if_icmp .ge 21) 3 29 0 11 := ⟨rfl, rfl⟩
theorem r_X11_sumOf_11 : RW M_X11_sumOf 11 (.iload_n 3) 1 0 0 12 := ⟨rfl, rfl⟩
theorem r_X11_sumOf_12 : RW M_X11_sumOf 12 (.aload_n 0) 1 0 0 13 := ⟨rfl, rfl⟩
theorem r_X11_sumOf_13 : RW M_X11_sumOf 13 (.getfield 74) 3 11 43 16 := ⟨rfl, rfl⟩
theorem r_X11_sumOf_16 : RW M_X11_sumOf 16 (.iload_n 1) 1 0 0 17 := ⟨rfl, rfl⟩
theorem r_X11_sumOf_17 : RW M_X11_sumOf 17 (.iload 4) 2 0 0 19 := ⟨rfl, rfl⟩
theorem r_X11_sumOf_19 : RW M_X11_sumOf 19 (.iadd) 1 0 0 20 := ⟨rfl, rfl⟩
theorem r_X11_sumOf_20 : RW M_X11_sumOf 20 (.iaload) 1 0 0 21 := ⟨rfl, rfl⟩
theorem r_X11_sumOf_21 : RW M_X11_sumOf 21 (.iadd) 1 0 0 22 := ⟨rfl, rfl⟩
theorem r_X11_sumOf_22 : RW M_X11_sumOf 22 (.istore_n 3) 1 0 0 23 := ⟨rfl, rfl⟩
theorem r_X11_sumOf_23 : RW M_X11_sumOf 23 (.iinc 4 1) 3 0 0 26 := ⟨rfl, rfl⟩
theorem r_X11_sumOf_26 : RW M_X11_sumOf 26 (.goto (-21)) 3 5 0 29 := ⟨rfl, rfl⟩
theorem r_X11_sumOf_29 : RW M_X11_sumOf 29 (.iload_n 3) 1 0 0 30 := ⟨rfl, rfl⟩
theorem r_X11_sumOf_30 : RW M_X11_sumOf 30 (.ireturn) 1 0 0 31 := ⟨rfl, rfl⟩
theorem r_X11_weightOf_0 : RW M_X11_weightOf 0 (.iconst 0) 1 0 0 1 := ⟨rfl, rfl⟩
theorem r_X11_weightOf_1 : RW M_X11_weightOf 1 (.istore_n 3) 1 0 0 2 := ⟨rfl, rfl⟩
theorem r_X11_weightOf_2 : RW M_X11_weightOf 2 (.iconst 0) 1 0 0 3 := ⟨rfl, rfl⟩
theorem r_X11_weightOf_3 : RW M_X11_weightOf 3 (.istore 4) 2 0 0 5 := ⟨rfl, rfl⟩
theorem r_X11_weightOf_5 : RW M_X11_weightOf 5 (.iload 4) 2 0 0 7 := ⟨rfl, rfl⟩
theorem r_X11_weightOf_7 : RW M_X11_weightOf 7 (.aload_n 0) 1 0 0 8 := ⟨rfl, rfl⟩
theorem r_X11_weightOf_8 : RW M_X11_weightOf 8 (.getfield 166) 3 11 22 11 := ⟨rfl, rfl⟩
theorem r_X11_weightOf_11 : RW M_X11_weightOf 11 (.if_icmp .ge 52) 3 63 0 14 := ⟨rfl, rfl⟩
theorem r_X11_weightOf_14 : RW M_X11_weightOf 14 (.iload_n 3) 1 0 0 15 := ⟨rfl, rfl⟩
theorem r_X11_weightOf_15 : RW M_X11_weightOf 15 (.iload_n 1) 1 0 0 16 := ⟨rfl, rfl⟩
theorem r_X11_weightOf_16 : RW M_X11_weightOf 16 (.iload 4) 2 0 0 18 := ⟨rfl, rfl⟩
theorem r_X11_weightOf_18 : RW M_X11_weightOf 18 (.ishr) 1 0 0 19 := ⟨rfl, rfl⟩
theorem r_X11_weightOf_19 : RW M_X11_weightOf 19 (.iconst 1) 1 0 0 20 := ⟨rfl, rfl⟩
theorem r_X11_weightOf_20 : RW M_X11_weightOf 20 (.iand) 1 0 0 21 := ⟨rfl, rfl⟩
theorem r_X11_weightOf_21 : RW M_X11_weightOf 21 (.iconst 1) 1 0 0 22 := ⟨rfl, rfl⟩
theorem r_X11_weightOf_22 : RW M_X11_weightOf 22 (.if_icmp .ne 32) 3 54 0 25 := ⟨rfl, rfl⟩
theorem r_X11_weightOf_25 : RW M_X11_weightOf 25 (.aload_n 0) 1 0 0 26 := ⟨rfl, rfl⟩
theorem r_X11_weightOf_26 : RW M_X11_weightOf 26 (.getfield 35) 3 11 14 29 := ⟨rfl, rfl⟩
theorem r_X11_weightOf_29 : RW M_X11_weightOf 29 (.iconst 3) 1 0 0 30 := ⟨rfl, rfl⟩
theorem r_X11_weightOf_30 : RW M_X11_weightOf 30 (.iload 4) 2 0 0 32 := ⟨rfl, rfl⟩
theorem r_X11_weightOf_32 : RW M_X11_weightOf 32 (.imul) 1 0 0 33 := ⟨rfl, rfl⟩
theorem r_X11_weightOf_33 : RW M_X11_weightOf 33 (.iconst 1) 1 0 0 34 := ⟨rfl, rfl⟩
theorem r_X11_weightOf_34 : RW M_X11_weightOf 34 (.iadd) 1 0 0 35 := ⟨rfl, rfl⟩
theorem r_X11_weightOf_35 : RW M_X11_weightOf 35 (.iaload) 1 0 0 36 := ⟨rfl, rfl⟩
theorem r_X11_weightOf_36 : RW M_X11_weightOf 36 (.iload_n 2) 1 0 0 37 := ⟨rfl, rfl⟩
theorem r_X11_weightOf_37 : RW M_X11_weightOf 37 (.if_icmp .ne 17) 3 54 0 40 := ⟨rfl, rfl⟩
theorem r_X11_weightOf_40 : RW M_X11_weightOf 40 (.aload_n 0) 1 0 0 41 := ⟨rfl, rfl⟩
theorem r_X11_weightOf_41 : RW M_X11_weightOf 41 (.getfield 35) 3 11 14 44 := ⟨rfl, rfl⟩
theorem r_X11_weightOf_44 : RW M_X11_weightOf 44 (.iconst 3) 1 0 0 45 := ⟨rfl, rfl⟩
theorem r_X11_weightOf_45 : RW M_X11_weightOf 45 (.iload 4) 2 0 0 47 := ⟨rfl, rfl⟩
theorem r_X11_weightOf_47 : RW M_X11_weightOf 47 (.imul) 1 0 0 48 := ⟨rfl, rfl⟩
theorem r_X11_weightOf_48 : RW M_X11_weightOf 48 (.iconst 2) 1 0 0 49 := ⟨rfl, rfl⟩
theorem r_X11_weightOf_49 : RW M_X11_weightOf 49 (.iadd) 1 0 0 50 := ⟨rfl, rfl⟩
theorem r_X11_weightOf_50 : RW M_X11_weightOf 50 (.iaload) 1 0 0 51 := ⟨rfl, rfl⟩
theorem r_X11_weightOf_51 : RW M_X11_weightOf 51 (.goto 4) 3 55 0 54 := ⟨rfl, rfl⟩
theorem r_X11_weightOf_54 : RW M_X11_weightOf 54 (.iconst 0) 1 0 0 55 := ⟨rfl, rfl⟩
theorem r_X11_weightOf_55 : RW M_X11_weightOf 55 (.iadd) 1 0 0 56 := ⟨rfl, rfl⟩
theorem r_X11_weightOf_56 : RW M_X11_weightOf 56 (.istore_n 3) 1 0 0 57 := ⟨rfl, rfl⟩
theorem r_X11_weightOf_57 : RW M_X11_weightOf 57 (.iinc 4 1) 3 0 0 60 := ⟨rfl, rfl⟩
theorem r_X11_weightOf_60 : RW M_X11_weightOf 60 (.goto (-55)) 3 5 0 63 := ⟨rfl, rfl⟩
theorem r_X11_weightOf_63 : RW M_X11_weightOf 63 (.iload_n 3) 1 0 0 64 := ⟨rfl, rfl⟩
theorem r_X11_weightOf_64 : RW M_X11_weightOf 64 (.ireturn) 1 0 0 65 := ⟨rfl, rfl⟩
theorem r_X1_heaviest_0 : RW M_X1_heaviest 0 (.iconst (-1)) 1 0 0 1 := ⟨rfl, rfl⟩
theorem r_X1_heaviest_1 : RW M_X1_heaviest 1 (.istore_n 2) 1 0 0 2 := ⟨rfl, rfl⟩
theorem r_X1_heaviest_2 : RW M_X1_heaviest 2 (.iconst 0) 1 0 0 3 := ⟨rfl, rfl⟩
theorem r_X1_heaviest_3 : RW M_X1_heaviest 3 (.istore_n 3) 1 0 0 4 := ⟨rfl, rfl⟩
theorem r_X1_heaviest_4 : RW M_X1_heaviest 4 (.iload_n 3) 1 0 0 5 := ⟨rfl, rfl⟩
theorem r_X1_heaviest_5 : RW M_X1_heaviest 5 (.aload_n 0) 1 0 0 6 := ⟨rfl, rfl⟩
theorem r_X1_heaviest_6 : RW M_X1_heaviest 6 (.getfield 47) 3 1 10 9 := ⟨rfl, rfl⟩
theorem r_X1_heaviest_9 : RW M_X1_heaviest 9 (.if_icmp .ge 43) 3 52 0 12 := ⟨rfl, rfl⟩
theorem r_X1_heaviest_12 : RW M_X1_heaviest 12 (.iload_n 1) 1 0 0 13 := ⟨rfl, rfl⟩
theorem r_X1_heaviest_13 : RW M_X1_heaviest 13 (.iload_n 3) 1 0 0 14 := ⟨rfl, rfl⟩
theorem r_X1_heaviest_14 : RW M_X1_heaviest 14 (.invokestatic 123) 3 163 0 17 := ⟨rfl, rfl⟩
theorem r_X1_heaviest_17 : RW M_X1_heaviest 17 (.ifCond .eq 29) 3 46 0 20 := ⟨rfl, rfl⟩
theorem r_X1_heaviest_20 : RW M_X1_heaviest 20 (.iload_n 2) 1 0 0 21 := ⟨rfl, rfl⟩
theorem r_X1_heaviest_21 : RW M_X1_heaviest 21 (.iconst (-1)) 1 0 0 22 := ⟨rfl, rfl⟩
theorem r_X1_heaviest_22 : RW M_X1_heaviest 22 (.if_icmp .eq 22) 3 44 0 25 := ⟨rfl, rfl⟩
theorem r_X1_heaviest_25 : RW M_X1_heaviest 25 (.aload_n 0) 1 0 0 26 := ⟨rfl, rfl⟩
theorem r_X1_heaviest_26 : RW M_X1_heaviest 26 (.getfield 23) 3 1 2 29 := ⟨rfl, rfl⟩
theorem r_X1_heaviest_29 : RW M_X1_heaviest 29 (.iload_n 3) 1 0 0 30 := ⟨rfl, rfl⟩
theorem r_X1_heaviest_30 : RW M_X1_heaviest 30 (.invokevirtual 120) 3 92 0 33 := ⟨rfl, rfl⟩
theorem r_X1_heaviest_33 : RW M_X1_heaviest 33 (.aload_n 0) 1 0 0 34 := ⟨rfl, rfl⟩
theorem r_X1_heaviest_34 : RW M_X1_heaviest 34 (.getfield 23) 3 1 2 37 := ⟨rfl, rfl⟩
theorem r_X1_heaviest_37 : RW M_X1_heaviest 37 (.iload_n 2) 1 0 0 38 := ⟨rfl, rfl⟩
theorem r_X1_heaviest_38 : RW M_X1_heaviest 38 (.invokevirtual 120) 3 92 0 41 := ⟨rfl, rfl⟩
theorem r_X1_heaviest_41 : RW M_X1_heaviest 41 (.if_icmp .le 5) 3 46 0 44 := ⟨rfl, rfl⟩
theorem r_X1_heaviest_44 : RW M_X1_heaviest 44 (.iload_n 3) 1 0 0 45 := ⟨rfl, rfl⟩
theorem r_X1_heaviest_45 : RW M_X1_heaviest 45 (.istore_n 2) 1 0 0 46 := ⟨rfl, rfl⟩
theorem r_X1_heaviest_46 : RW M_X1_heaviest 46 (.iinc 3 1) 3 0 0 49 := ⟨rfl, rfl⟩
theorem r_X1_heaviest_49 : RW M_X1_heaviest 49 (.goto (-45)) 3 4 0 52 := ⟨rfl, rfl⟩
theorem r_X1_heaviest_52 : RW M_X1_heaviest 52 (.iload_n 2) 1 0 0 53 := ⟨rfl, rfl⟩
theorem r_X1_heaviest_53 : RW M_X1_heaviest 53 (.ireturn) 1 0 0 54 := ⟨rfl, rfl⟩
theorem r_X2_nextSaid_0 : RW M_X2_nextSaid 0 (.iconst (-1)) 1 0 0 1 := ⟨rfl, rfl⟩
theorem r_X2_nextSaid_1 : RW M_X2_nextSaid 1 (.istore_n 1) 1 0 0 2 := ⟨rfl, rfl⟩
theorem r_X2_nextSaid_2 : RW M_X2_nextSaid 2 (.iconst 0) 1 0 0 3 := ⟨rfl, rfl⟩
theorem r_X2_nextSaid_3 : RW M_X2_nextSaid 3 (.istore_n 2) 1 0 0 4 := ⟨rfl, rfl⟩
theorem r_X2_nextSaid_4 : RW M_X2_nextSaid 4 (.iload_n 2) 1 0 0 5 := ⟨rfl, rfl⟩
theorem r_X2_nextSaid_5 : RW M_X2_nextSaid 5 (.aload_n 0) 1 0 0 6 := ⟨rfl, rfl⟩
theorem r_X2_nextSaid_6 : RW M_X2_nextSaid 6 (.getfield 32) 3 2 0 9 := ⟨rfl, rfl⟩
theorem r_X2_nextSaid_9 : RW M_X2_nextSaid 9 (.getfield 128) 3 1 10 12 := ⟨rfl, rfl⟩
theorem r_X2_nextSaid_12 : RW M_X2_nextSaid 12 (.if_icmp .ge 50) 3 62 0 15 := ⟨rfl, rfl⟩
theorem r_X2_nextSaid_15 : RW M_X2_nextSaid 15 (.aload_n 0) 1 0 0 16 := ⟨rfl, rfl⟩
theorem r_X2_nextSaid_16 : RW M_X2_nextSaid 16 (.getfield 16) 3 2 2 19 := ⟨rfl, rfl⟩
theorem r_X2_nextSaid_19 : RW M_X2_nextSaid 19 (.iload_n 2) 1 0 0 20 := ⟨rfl, rfl⟩
theorem r_X2_nextSaid_20 : RW M_X2_nextSaid 20 (.invokevirtual 69) 3 92 0 23 := ⟨rfl, rfl⟩
theorem r_X2_nextSaid_23 : RW M_X2_nextSaid 23 (.aload_n 0) 1 0 0 24 := ⟨rfl, rfl⟩
theorem r_X2_nextSaid_24 : RW M_X2_nextSaid 24 (.getfield 40) 3 2 7 27 := ⟨rfl, rfl⟩
theorem r_X2_nextSaid_27 : RW M_X2_nextSaid 27 (.if_icmp .lt 29) 3 56 0 30 := ⟨rfl, rfl⟩
theorem r_X2_nextSaid_30 : RW M_X2_nextSaid 30 (.iload_n 1) 1 0 0 31 := ⟨rfl, rfl⟩
theorem r_X2_nextSaid_31 : RW M_X2_nextSaid 31 (.iconst (-1)) 1 0 0 32 := ⟨rfl, rfl⟩
theorem r_X2_nextSaid_32 : RW M_X2_nextSaid 32 (.if_icmp .eq 22) 3 54 0 35 := ⟨rfl, rfl⟩
theorem r_X2_nextSaid_35 : RW M_X2_nextSaid 35 (.aload_n 0) 1 0 0 36 := ⟨rfl, rfl⟩
theorem r_X2_nextSaid_36 : RW M_X2_nextSaid 36 (.getfield 16) 3 2 2 39 := ⟨rfl, rfl⟩
theorem r_X2_nextSaid_39 : RW M_X2_nextSaid 39 (.iload_n 2) 1 0 0 40 := ⟨rfl, rfl⟩
theorem r_X2_nextSaid_40 : RW M_X2_nextSaid 40 (.invokevirtual 69) 3 92 0 43 := ⟨rfl, rfl⟩
theorem r_X2_nextSaid_43 : RW M_X2_nextSaid 43 (.aload_n 0) 1 0 0 44 := ⟨rfl, rfl⟩
theorem r_X2_nextSaid_44 : RW M_X2_nextSaid 44 (.getfield 16) 3 2 2 47 := ⟨rfl, rfl⟩
theorem r_X2_nextSaid_47 : RW M_X2_nextSaid 47 (.iload_n 1) 1 0 0 48 := ⟨rfl, rfl⟩
theorem r_X2_nextSaid_48 : RW M_X2_nextSaid 48 (.invokevirtual 69) 3 92 0 51 := ⟨rfl, rfl⟩
theorem r_X2_nextSaid_51 : RW M_X2_nextSaid 51 (.if_icmp .ge 5) 3 56 0 54 := ⟨rfl, rfl⟩
theorem r_X2_nextSaid_54 : RW M_X2_nextSaid 54 (.iload_n 2) 1 0 0 55 := ⟨rfl, rfl⟩
theorem r_X2_nextSaid_55 : RW M_X2_nextSaid 55 (.istore_n 1) 1 0 0 56 := ⟨rfl, rfl⟩
theorem r_X2_nextSaid_56 : RW M_X2_nextSaid 56 (.iinc 2 1) 3 0 0 59 := ⟨rfl, rfl⟩
theorem r_X2_nextSaid_59 : RW M_X2_nextSaid 59 (.goto (-55)) 3 4 0 62 := ⟨rfl, rfl⟩
theorem r_X2_nextSaid_62 : RW M_X2_nextSaid 62 (.iload_n 1) 1 0 0 63 := ⟨rfl, rfl⟩
theorem r_X2_nextSaid_63 : RW M_X2_nextSaid 63 (.ireturn) 1 0 0 64 := ⟨rfl, rfl⟩
theorem m_allFrom {d : Nat} {I : Nat → Nat → Int32} {J : Nat → Nat → Int64} {κ : CT} (mc : MC κ I) (cb : CB κ) {x : Nat} (hx : x < 2 ^ κ.ns)  (hd : 1 ≤ d) : RV d 223 [.ref 106, .int (nI x)] I J (nI (clo κ x)) := by
  refine RV.in (d0 := 0) hd mt_223 (Nat.le_of_ble_eq_true rfl) (fun d' hd' => ?_)
  have bns := cb.ns; have bnb := cb.nb; have bnc := cb.nc; have bnr := cb.nr
  have pn := pow_ns cb
  show EV none M_X11_allFrom d' 0 [(0, .ref 106), (1, .int (nI x))] [] (hp I J) _
  refine EV.l (lv' := [(0, _), (1, _)]) r_X11_allFrom_0 rfl ?_
  refine EV.l (lv' := [(0, _), (1, _), (2, _)]) r_X11_allFrom_1 rfl ?_
  refine EV.o r_X11_allFrom_2 (icN (0) (v := 0)) ?_
  refine EV.l (lv' := [(0, _), (1, _), (2, _), (3, _)]) r_X11_allFrom_3 rfl ?_
  have L4 : ∀ y_ : Nat, (fun p => p ≤ 9 → EV none M_X11_allFrom d' 4 [(0, .ref 106), (1, .int (nI x)), (2, .int (nI (it κ x p))), (3, .int (nI p))] [] (hp I J) (QV I J (nI (clo κ x)))) y_ := by
    refine ev_loop (fun p => 9 - p) ?_
    intro p ih4 hx4
    try dsimp only at ih4
    try dsimp only at hx4
    try dsimp only
    have b3 := it_lt cb hx p
    refine EV.l (lv' := [(0, _), (1, _), (2, _), (3, _)]) r_X11_allFrom_4 rfl ?_
    refine EV.o r_X11_allFrom_5 (bpN (9) 9) ?_
    refine EV.n2_ge r_X11_allFrom_7 (fun h7 => ?_) (fun h7 => ?_)
    · -- 7 t
      refine EV.l (lv' := [(0, _), (1, _), (2, _), (3, _)]) r_X11_allFrom_86 rfl ?_
      exact EV.rv r_X11_allFrom_87 (by rw [show p = 9 by omega]; rfl)
    · -- 7 f
      refine EV.o r_X11_allFrom_10 (icN (0) (v := 0)) ?_
      refine EV.l (lv' := [(0, _), (1, _), (2, _), (3, _), (4, _)]) r_X11_allFrom_11 rfl ?_
      have L13 : ∀ y_ : Nat, (fun r => r ≤ κ.nr → EV none M_X11_allFrom d' 13 [(0, .ref 106), (1, .int (nI x)), (2, .int (nI (rnd κ (it κ x p) r))), (3, .int (nI p)), (4, .int (nI r))] [] (hp I J) (QV I J (nI (clo κ x)))) y_ := by
        refine ev_loop (fun r => κ.nr - r) ?_
        intro r ih13 hx13
        try dsimp only at ih13
        try dsimp only at hx13
        try dsimp only
        have b4 := rnd_lt cb b3 r hx13
        refine EV.l (lv' := [(0, _), (1, _), (2, _), (3, _), (4, _)]) r_X11_allFrom_13 rfl ?_
        refine EV.l (lv' := [(0, _), (1, _), (2, _), (3, _), (4, _)]) r_X11_allFrom_15 rfl ?_
        refine EV.getV r_X11_allFrom_16 la_106 (mc.nr) ?_
        refine EV.n2_ge r_X11_allFrom_19 (fun h19 => ?_) (fun h19 => ?_)
        · -- 19 t
          obtain rfl : r = κ.nr := by omega
          refine EV.l (lv' := [(0, _), (1, _), (2, _), (3, _), (4, _)]) r_X11_allFrom_80 rfl ?_
          rw [inc_nI]
          refine EV.g r_X11_allFrom_83 ?_
          refine EV.fg (lv' := [(0, _), (1, _), (2, _), (3, _)]) r_X11_allFrom_4 rfl rfl rfl ?_
          refine EV.sub ?_ rfl ?_ (ih4 (p + 1) ?_ ?_)
          · rfl
          · rfl
          · omega
          · omega
        · -- 19 f
          have b5 := cb.r3 r (by omega); have b6 := cb.r1 r (by omega); have b7 := cb.r2 r (by omega)
          refine EV.l (lv' := [(0, _), (1, _), (2, _), (3, _), (4, _)]) r_X11_allFrom_22 rfl ?_
          refine EV.l (lv' := [(0, _), (1, _), (2, _), (3, _), (4, _)]) r_X11_allFrom_23 rfl ?_
          refine EV.gR r_X11_allFrom_24 la_106 ?_
          refine EV.o r_X11_allFrom_27 (icN (3) (v := 3)) ?_
          refine EV.l (lv' := [(0, _), (1, _), (2, _), (3, _), (4, _)]) r_X11_allFrom_28 rfl ?_
          refine EV.o r_X11_allFrom_30 imulN ?_
          refine EV.iaN r_X11_allFrom_31 la_114 (mc.r1 _ (by omega)) ?_
          refine EV.o r_X11_allFrom_32 (ishrN) ?_
          refine EV.o r_X11_allFrom_33 (icN (1) (v := 1)) ?_
          refine EV.o r_X11_allFrom_34 ibitN ?_
          refine EV.o r_X11_allFrom_35 (icN (1) (v := 1)) ?_
          refine EV.bt_ne r_X11_allFrom_36 (fun h36 => ?_) (fun h36 => ?_)
          · -- 36 t
            refine EV.l (lv' := [(0, _), (1, _), (2, _), (3, _), (4, _)]) r_X11_allFrom_74 rfl ?_
            rw [inc_nI]
            refine EV.g r_X11_allFrom_77 ?_
            refine EV.sub ?_ rfl ?_ (ih13 (r + 1) ?_ ?_)
            · first | rw [rnd_t (by unfold usedB; simp only [*]; rfl)] | rw [rnd_f (by unfold usedB; simp only [*]; rfl)] | rw [rnd_f (by unfold usedB; simp only [*, Bool.and_false])]
            · rfl
            · omega
            · omega
          · -- 36 f
            refine EV.l (lv' := [(0, _), (1, _), (2, _), (3, _), (4, _)]) r_X11_allFrom_39 rfl ?_
            refine EV.l (lv' := [(0, _), (1, _), (2, _), (3, _), (4, _)]) r_X11_allFrom_40 rfl ?_
            refine EV.gR r_X11_allFrom_41 la_106 ?_
            refine EV.o r_X11_allFrom_44 (icN (3) (v := 3)) ?_
            refine EV.l (lv' := [(0, _), (1, _), (2, _), (3, _), (4, _)]) r_X11_allFrom_45 rfl ?_
            refine EV.o r_X11_allFrom_47 imulN ?_
            refine EV.o r_X11_allFrom_48 (icN (1) (v := 1)) ?_
            refine EV.o r_X11_allFrom_49 iaddN ?_
            refine EV.iaN r_X11_allFrom_50 la_114 (mc.r2 _ (by omega)) ?_
            refine EV.o r_X11_allFrom_51 (ishrN) ?_
            refine EV.o r_X11_allFrom_52 (icN (1) (v := 1)) ?_
            refine EV.o r_X11_allFrom_53 ibitN ?_
            refine EV.o r_X11_allFrom_54 (icN (1) (v := 1)) ?_
            refine EV.bt_ne r_X11_allFrom_55 (fun h55 => ?_) (fun h55 => ?_)
            · -- 55 t
              refine EV.l (lv' := [(0, _), (1, _), (2, _), (3, _), (4, _)]) r_X11_allFrom_74 rfl ?_
              rw [inc_nI]
              refine EV.g r_X11_allFrom_77 ?_
              refine EV.sub ?_ rfl ?_ (ih13 (r + 1) ?_ ?_)
              · first | rw [rnd_t (by unfold usedB; simp only [*]; rfl)] | rw [rnd_f (by unfold usedB; simp only [*]; rfl)] | rw [rnd_f (by unfold usedB; simp only [*, Bool.and_false])]
              · rfl
              · omega
              · omega
            · -- 55 f
              refine EV.l (lv' := [(0, _), (1, _), (2, _), (3, _), (4, _)]) r_X11_allFrom_58 rfl ?_
              refine EV.o r_X11_allFrom_59 (icN (1) (v := 1)) ?_
              refine EV.l (lv' := [(0, _), (1, _), (2, _), (3, _), (4, _)]) r_X11_allFrom_60 rfl ?_
              refine EV.gR r_X11_allFrom_61 la_106 ?_
              refine EV.o r_X11_allFrom_64 (icN (3) (v := 3)) ?_
              refine EV.l (lv' := [(0, _), (1, _), (2, _), (3, _), (4, _)]) r_X11_allFrom_65 rfl ?_
              refine EV.o r_X11_allFrom_67 imulN ?_
              refine EV.o r_X11_allFrom_68 (icN (2) (v := 2)) ?_
              refine EV.o r_X11_allFrom_69 iaddN ?_
              refine EV.iaN r_X11_allFrom_70 la_114 (mc.r3 _ (by omega)) ?_
              refine EV.o r_X11_allFrom_71 (ishl1) ?_
              refine EV.o r_X11_allFrom_72 iorN ?_
              refine EV.l (lv' := [(0, _), (1, _), (2, _), (3, _), (4, _)]) r_X11_allFrom_73 rfl ?_
              refine EV.l (lv' := [(0, _), (1, _), (2, _), (3, _), (4, _)]) r_X11_allFrom_74 rfl ?_
              rw [inc_nI]
              refine EV.g r_X11_allFrom_77 ?_
              refine EV.sub ?_ rfl ?_ (ih13 (r + 1) ?_ ?_)
              · first | rw [rnd_t (by unfold usedB; simp only [*]; rfl)] | rw [rnd_f (by unfold usedB; simp only [*]; rfl)] | rw [rnd_f (by unfold usedB; simp only [*, Bool.and_false])]
              · rfl
              · omega
              · omega
      have h0 := L13 (0)
      try dsimp only at h0
      refine EV.sub ?_ rfl ?_ (h0 ?_)
      · rfl
      · rfl
      · omega
  have h0 := L4 (0)
  try dsimp only at h0
  refine EV.sub ?_ rfl ?_ (h0 ?_)
  · rfl
  · rfl
  · omega
theorem m_weight {d : Nat} {I : Nat → Nat → Int32} {J : Nat → Nat → Int64} {κ : CT} (mc : MC κ I) (cb : CB κ) {x s : Nat} (hx : x < 512) (hs : s < 2)  (hd : 1 ≤ d) : RV d 224 [.ref 106, .int (nI x), .int (nI s)] I J (nI (wtS κ x s κ.ns)) := by
  refine RV.in (d0 := 0) hd mt_224 (Nat.le_of_ble_eq_true rfl) (fun d' hd' => ?_)
  have bns := cb.ns; have bnb := cb.nb; have bnc := cb.nc; have bnr := cb.nr
  show EV none M_X11_weightOf d' 0 [(0, .ref 106), (1, .int (nI x)), (2, .int (nI s))] [] (hp I J) _
  refine EV.o r_X11_weightOf_0 (icN (0) (v := 0)) ?_
  refine EV.l (lv' := [(0, _), (1, _), (2, _), (3, _)]) r_X11_weightOf_1 rfl ?_
  refine EV.o r_X11_weightOf_2 (icN (0) (v := 0)) ?_
  refine EV.l (lv' := [(0, _), (1, _), (2, _), (3, _), (4, _)]) r_X11_weightOf_3 rfl ?_
  have L5 : ∀ y_ : Nat, (fun i => i ≤ κ.ns → EV none M_X11_weightOf d' 5 [(0, .ref 106), (1, .int (nI x)), (2, .int (nI s)), (3, .int (nI (wtS κ x s i))), (4, .int (nI i))] [] (hp I J) (QV I J (nI (wtS κ x s κ.ns)))) y_ := by
    refine ev_loop (fun i => κ.ns - i) ?_
    intro i ih5 hx5
    try dsimp only at ih5
    try dsimp only at hx5
    try dsimp only
    have b1 := cb.ss i; have b2 := cb.sw i
    refine EV.l (lv' := [(0, _), (1, _), (2, _), (3, _), (4, _)]) r_X11_weightOf_5 rfl ?_
    refine EV.l (lv' := [(0, _), (1, _), (2, _), (3, _), (4, _)]) r_X11_weightOf_7 rfl ?_
    refine EV.getV r_X11_weightOf_8 la_106 (mc.ns) ?_
    refine EV.n2_ge r_X11_weightOf_11 (fun h11 => ?_) (fun h11 => ?_)
    · -- 11 t
      refine EV.l (lv' := [(0, _), (1, _), (2, _), (3, _), (4, _)]) r_X11_weightOf_63 rfl ?_
      exact EV.rv r_X11_weightOf_64 (by rw [show i = κ.ns by omega])
    · -- 11 f
      refine EV.l (lv' := [(0, _), (1, _), (2, _), (3, _), (4, _)]) r_X11_weightOf_14 rfl ?_
      refine EV.l (lv' := [(0, _), (1, _), (2, _), (3, _), (4, _)]) r_X11_weightOf_15 rfl ?_
      refine EV.l (lv' := [(0, _), (1, _), (2, _), (3, _), (4, _)]) r_X11_weightOf_16 rfl ?_
      refine EV.o r_X11_weightOf_18 (ishrN) ?_
      refine EV.o r_X11_weightOf_19 (icN (1) (v := 1)) ?_
      refine EV.o r_X11_weightOf_20 ibitN ?_
      refine EV.o r_X11_weightOf_21 (icN (1) (v := 1)) ?_
      refine EV.bt_ne r_X11_weightOf_22 (fun h22 => ?_) (fun h22 => ?_)
      · -- 22 t
        refine EV.o r_X11_weightOf_54 (icN (0) (v := 0)) ?_
        refine EV.o r_X11_weightOf_55 iaddN ?_
        refine EV.l (lv' := [(0, _), (1, _), (2, _), (3, _), (4, _)]) r_X11_weightOf_56 rfl ?_
        refine EV.l (lv' := [(0, _), (1, _), (2, _), (3, _), (4, _)]) r_X11_weightOf_57 rfl ?_
        rw [inc_nI]
        refine EV.g r_X11_weightOf_60 ?_
        refine EV.sub ?_ rfl ?_ (ih5 (i + 1) ?_ ?_)
        · first | rw [wtS_t (by assumption) (by assumption)] | rw [wtS_f (by assumption)] | rw [wtS_g (by assumption)]
        · rfl
        · omega
        · omega
      · -- 22 f
        refine EV.l (lv' := [(0, _), (1, _), (2, _), (3, _), (4, _)]) r_X11_weightOf_25 rfl ?_
        refine EV.gR r_X11_weightOf_26 la_106 ?_
        refine EV.o r_X11_weightOf_29 (icN (3) (v := 3)) ?_
        refine EV.l (lv' := [(0, _), (1, _), (2, _), (3, _), (4, _)]) r_X11_weightOf_30 rfl ?_
        refine EV.o r_X11_weightOf_32 imulN ?_
        refine EV.o r_X11_weightOf_33 (icN (1) (v := 1)) ?_
        refine EV.o r_X11_weightOf_34 iaddN ?_
        refine EV.iaN r_X11_weightOf_35 la_113 (mc.ss _ (by omega)) ?_
        refine EV.l (lv' := [(0, _), (1, _), (2, _), (3, _), (4, _)]) r_X11_weightOf_36 rfl ?_
        refine EV.n2_ne r_X11_weightOf_37 (fun h37 => ?_) (fun h37 => ?_)
        · -- 37 t
          refine EV.o r_X11_weightOf_54 (icN (0) (v := 0)) ?_
          refine EV.o r_X11_weightOf_55 iaddN ?_
          refine EV.l (lv' := [(0, _), (1, _), (2, _), (3, _), (4, _)]) r_X11_weightOf_56 rfl ?_
          refine EV.l (lv' := [(0, _), (1, _), (2, _), (3, _), (4, _)]) r_X11_weightOf_57 rfl ?_
          rw [inc_nI]
          refine EV.g r_X11_weightOf_60 ?_
          refine EV.sub ?_ rfl ?_ (ih5 (i + 1) ?_ ?_)
          · first | rw [wtS_t (by assumption) (by assumption)] | rw [wtS_f (by assumption)] | rw [wtS_g (by assumption)]
          · rfl
          · omega
          · omega
        · -- 37 f
          refine EV.l (lv' := [(0, _), (1, _), (2, _), (3, _), (4, _)]) r_X11_weightOf_40 rfl ?_
          refine EV.gR r_X11_weightOf_41 la_106 ?_
          refine EV.o r_X11_weightOf_44 (icN (3) (v := 3)) ?_
          refine EV.l (lv' := [(0, _), (1, _), (2, _), (3, _), (4, _)]) r_X11_weightOf_45 rfl ?_
          refine EV.o r_X11_weightOf_47 imulN ?_
          refine EV.o r_X11_weightOf_48 (icN (2) (v := 2)) ?_
          refine EV.o r_X11_weightOf_49 iaddN ?_
          refine EV.iaN r_X11_weightOf_50 la_113 (mc.sw _ (by omega)) ?_
          refine EV.g r_X11_weightOf_51 ?_
          refine EV.o r_X11_weightOf_55 iaddN ?_
          refine EV.l (lv' := [(0, _), (1, _), (2, _), (3, _), (4, _)]) r_X11_weightOf_56 rfl ?_
          refine EV.l (lv' := [(0, _), (1, _), (2, _), (3, _), (4, _)]) r_X11_weightOf_57 rfl ?_
          rw [inc_nI]
          refine EV.g r_X11_weightOf_60 ?_
          refine EV.sub ?_ rfl ?_ (ih5 (i + 1) ?_ ?_)
          · first | rw [wtS_t (by assumption) (by assumption)] | rw [wtS_f (by assumption)] | rw [wtS_g (by assumption)]
          · rfl
          · omega
          · omega
  have h0 := L5 (0)
  try dsimp only at h0
  refine EV.sub ?_ rfl ?_ (h0 ?_)
  · rfl
  · rfl
  · omega
theorem m_lean {d : Nat} {I : Nat → Nat → Int32} {J : Nat → Nat → Int64} {κ : CT} (mc : MC κ I) (cb : CB κ) {x : Nat} (hx : x < 2 ^ κ.ns)  (hd : 2 ≤ d) : RV d 225 [.ref 106, .int (nI x)] I J (zI (lean κ x)) := by
  refine RV.in (d0 := 1) hd mt_225 (Nat.le_of_ble_eq_true rfl) (fun d' hd' => ?_)
  have bns := cb.ns; have bnb := cb.nb; have bnc := cb.nc; have bnr := cb.nr
  have pn := pow_ns cb; have px := clo_lt cb hx
  show EV none M_X11_leanOf d' 0 [(0, .ref 106), (1, .int (nI x))] [] (hp I J) _
  refine EV.l (lv' := [(0, _), (1, _)]) r_X11_leanOf_0 rfl ?_
  refine EV.l (lv' := [(0, _), (1, _)]) r_X11_leanOf_1 rfl ?_
  refine EV.l (lv' := [(0, _), (1, _)]) r_X11_leanOf_2 rfl ?_
  refine EV.cv r_X11_leanOf_3 (aV1 mt_223 la_106) (m_allFrom mc cb hx (by omega)) ?_
  refine EV.o r_X11_leanOf_6 (icN (1) (v := 1)) ?_
  refine EV.cv r_X11_leanOf_7 (aV2 mt_224 la_106) (m_weight mc cb (by omega) (by omega) (by omega)) ?_
  refine EV.l (lv' := [(0, _), (1, _)]) r_X11_leanOf_10 rfl ?_
  refine EV.l (lv' := [(0, _), (1, _)]) r_X11_leanOf_11 rfl ?_
  refine EV.l (lv' := [(0, _), (1, _)]) r_X11_leanOf_12 rfl ?_
  refine EV.cv r_X11_leanOf_13 (aV1 mt_223 la_106) (m_allFrom mc cb hx (by omega)) ?_
  refine EV.o r_X11_leanOf_16 (icN (0) (v := 0)) ?_
  refine EV.cv r_X11_leanOf_17 (aV2 mt_224 la_106) (m_weight mc cb (by omega) (by omega) (by omega)) ?_
  refine EV.o r_X11_leanOf_20 (isubNZ) ?_
  exact EV.rv r_X11_leanOf_21 (congrArg zI (lean_wt cb.ss κ.ns))
theorem m_saidBy {d : Nat} {I : Nat → Nat → Int32} {J : Nat → Nat → Int64} {κ : CT} {η : HS} (mc : MC κ I) (cb : CB κ) (mr : MR 126 κ η I) (hb : HB κ η) {m : Nat} (hm : m < 100000)  (hd : 1 ≤ d) : RV d 222 [.ref 106, .int (nI m)] I J (nI (mk (fun i => decide (η.sa i ≤ m)) κ.ns)) := by
  refine RV.in (d0 := 0) hd mt_222 (Nat.le_of_ble_eq_true rfl) (fun d' hd' => ?_)
  have bns := cb.ns; have bnb := cb.nb; have bnc := cb.nc; have bnr := cb.nr
  show EV none M_X11_saidBy d' 0 [(0, .ref 106), (1, .int (nI m))] [] (hp I J) _
  refine EV.o r_X11_saidBy_0 (icN (0) (v := 0)) ?_
  refine EV.l (lv' := [(0, _), (1, _), (2, _)]) r_X11_saidBy_1 rfl ?_
  refine EV.o r_X11_saidBy_2 (icN (0) (v := 0)) ?_
  refine EV.l (lv' := [(0, _), (1, _), (2, _), (3, _)]) r_X11_saidBy_3 rfl ?_
  have L4 : ∀ y_ : Nat, (fun i => i ≤ κ.ns → EV none M_X11_saidBy d' 4 [(0, .ref 106), (1, .int (nI m)), (2, .int (nI (mk (fun i => decide (η.sa i ≤ m)) i))), (3, .int (nI i))] [] (hp I J) (QV I J (nI (mk (fun i => decide (η.sa i ≤ m)) κ.ns)))) y_ := by
    refine ev_loop (fun i => κ.ns - i) ?_
    intro i ih4 hx4
    try dsimp only at ih4
    try dsimp only at hx4
    try dsimp only
    refine EV.l (lv' := [(0, _), (1, _), (2, _), (3, _)]) r_X11_saidBy_4 rfl ?_
    refine EV.l (lv' := [(0, _), (1, _), (2, _), (3, _)]) r_X11_saidBy_5 rfl ?_
    refine EV.getV r_X11_saidBy_6 la_106 (mc.ns) ?_
    refine EV.n2_ge r_X11_saidBy_9 (fun h9 => ?_) (fun h9 => ?_)
    · -- 9 t
      refine EV.l (lv' := [(0, _), (1, _), (2, _), (3, _)]) r_X11_saidBy_40 rfl ?_
      exact EV.rv r_X11_saidBy_41 (by rw [show i = κ.ns by omega])
    · -- 9 f
      have b1 := hb.sa i
      refine EV.l (lv' := [(0, _), (1, _), (2, _), (3, _)]) r_X11_saidBy_12 rfl ?_
      refine EV.l (lv' := [(0, _), (1, _), (2, _), (3, _)]) r_X11_saidBy_13 rfl ?_
      refine EV.gR r_X11_saidBy_14 la_106 ?_
      refine EV.o r_X11_saidBy_17 (icN (0) (v := 0)) ?_
      refine EV.l (lv' := [(0, _), (1, _), (2, _), (3, _)]) r_X11_saidBy_18 rfl ?_
      refine EV.o r_X11_saidBy_19 iaddN ?_
      refine EV.iaN r_X11_saidBy_20 la_126 (mr.sa _ (by omega)) ?_
      refine EV.l (lv' := [(0, _), (1, _), (2, _), (3, _)]) r_X11_saidBy_21 rfl ?_
      refine EV.n2_gt r_X11_saidBy_22 (fun h22 => ?_) (fun h22 => ?_)
      · -- 22 t
        refine EV.o r_X11_saidBy_31 (icN (0) (v := 0)) ?_
        refine EV.o r_X11_saidBy_32 iorN ?_
        refine EV.l (lv' := [(0, _), (1, _), (2, _), (3, _)]) r_X11_saidBy_33 rfl ?_
        refine EV.l (lv' := [(0, _), (1, _), (2, _), (3, _)]) r_X11_saidBy_34 rfl ?_
        rw [inc_nI]
        refine EV.g r_X11_saidBy_37 ?_
        refine EV.sub ?_ rfl ?_ (ih4 (i + 1) ?_ ?_)
        · first | rw [mk_t (p := fun i => decide (η.sa i ≤ m)) (decide_eq_true (by omega))] | rw [mk_z (p := fun i => decide (η.sa i ≤ m)) (decide_eq_false (by omega))] | rw [mk_t (p := fun i => decide (η.sa i ≤ m)) (by assumption)] | rw [mk_z (p := fun i => decide (η.sa i ≤ m)) (by assumption)]
        · rfl
        · omega
        · omega
      · -- 22 f
        refine EV.o r_X11_saidBy_25 (icN (1) (v := 1)) ?_
        refine EV.l (lv' := [(0, _), (1, _), (2, _), (3, _)]) r_X11_saidBy_26 rfl ?_
        refine EV.o r_X11_saidBy_27 (ishl1) ?_
        refine EV.g r_X11_saidBy_28 ?_
        refine EV.o r_X11_saidBy_32 iorN ?_
        refine EV.l (lv' := [(0, _), (1, _), (2, _), (3, _)]) r_X11_saidBy_33 rfl ?_
        refine EV.l (lv' := [(0, _), (1, _), (2, _), (3, _)]) r_X11_saidBy_34 rfl ?_
        rw [inc_nI]
        refine EV.g r_X11_saidBy_37 ?_
        refine EV.sub ?_ rfl ?_ (ih4 (i + 1) ?_ ?_)
        · first | rw [mk_t (p := fun i => decide (η.sa i ≤ m)) (decide_eq_true (by omega))] | rw [mk_z (p := fun i => decide (η.sa i ≤ m)) (decide_eq_false (by omega))] | rw [mk_t (p := fun i => decide (η.sa i ≤ m)) (by assumption)] | rw [mk_z (p := fun i => decide (η.sa i ≤ m)) (by assumption)]
        · rfl
        · omega
        · omega
  have h0 := L4 (0)
  try dsimp only at h0
  refine EV.sub ?_ rfl ?_ (h0 ?_)
  · rfl
  · rfl
  · omega
theorem m_noted {d : Nat} {I : Nat → Nat → Int32} {J : Nat → Nat → Int64} {κ : CT} {η : HS} (mc : MC κ I) (cb : CB κ) (mr : MR 126 κ η I) (hb : HB κ η)  (hd : 1 ≤ d) : RV d 235 [.ref 106] I J (nI η.nt) := by
  refine RV.in (d0 := 0) hd mt_235 (Nat.le_of_ble_eq_true rfl) (fun d' hd' => ?_)
  have bns := cb.ns; have bnb := cb.nb; have bnc := cb.nc; have bnr := cb.nr
  show EV none M_X11_notedNow d' 0 [(0, .ref 106)] [] (hp I J) _
  refine EV.o r_X11_notedNow_0 (icN (0) (v := 0)) ?_
  refine EV.l (lv' := [(0, _), (1, _)]) r_X11_notedNow_1 rfl ?_
  refine EV.o r_X11_notedNow_2 (icN (0) (v := 0)) ?_
  refine EV.l (lv' := [(0, _), (1, _), (2, _)]) r_X11_notedNow_3 rfl ?_
  have L4 : ∀ y_ : Nat, (fun i => i ≤ κ.ns → EV none M_X11_notedNow d' 4 [(0, .ref 106), (1, .int (nI (mk (fun j => η.nt.testBit j) i))), (2, .int (nI i))] [] (hp I J) (QV I J (nI η.nt))) y_ := by
    refine ev_loop (fun i => κ.ns - i) ?_
    intro i ih4 hx4
    try dsimp only at ih4
    try dsimp only at hx4
    try dsimp only
    refine EV.l (lv' := [(0, _), (1, _), (2, _)]) r_X11_notedNow_4 rfl ?_
    refine EV.l (lv' := [(0, _), (1, _), (2, _)]) r_X11_notedNow_5 rfl ?_
    refine EV.getV r_X11_notedNow_6 la_106 (mc.ns) ?_
    refine EV.n2_ge r_X11_notedNow_9 (fun h9 => ?_) (fun h9 => ?_)
    · -- 9 t
      refine EV.l (lv' := [(0, _), (1, _), (2, _)]) r_X11_notedNow_32 rfl ?_
      exact EV.rv r_X11_notedNow_33 (by rw [show i = κ.ns by omega, mk_self hb.nt])
    · -- 9 f
      refine EV.l (lv' := [(0, _), (1, _), (2, _)]) r_X11_notedNow_12 rfl ?_
      refine EV.l (lv' := [(0, _), (1, _), (2, _)]) r_X11_notedNow_13 rfl ?_
      refine EV.gR r_X11_notedNow_14 la_106 ?_
      refine EV.o r_X11_notedNow_17 (bpN (9) 9) ?_
      refine EV.l (lv' := [(0, _), (1, _), (2, _)]) r_X11_notedNow_19 rfl ?_
      refine EV.o r_X11_notedNow_20 iaddN ?_
      refine EV.iaN r_X11_notedNow_21 la_126 (mr.nt _ (by omega)) ?_
      refine EV.l (lv' := [(0, _), (1, _), (2, _)]) r_X11_notedNow_22 rfl ?_
      refine EV.o r_X11_notedNow_23 (ishlB) ?_
      refine EV.o r_X11_notedNow_24 iorN ?_
      refine EV.l (lv' := [(0, _), (1, _), (2, _)]) r_X11_notedNow_25 rfl ?_
      refine EV.l (lv' := [(0, _), (1, _), (2, _)]) r_X11_notedNow_26 rfl ?_
      rw [inc_nI]
      refine EV.g r_X11_notedNow_29 ?_
      refine EV.sub ?_ rfl ?_ (ih4 (i + 1) ?_ ?_)
      · rw [mk_b (p := fun j => η.nt.testBit j)]
      · rfl
      · omega
      · omega
  have h0 := L4 (0)
  try dsimp only at h0
  refine EV.sub ?_ rfl ?_ (h0 ?_)
  · rfl
  · rfl
  · omega
theorem m_sumOf {d : Nat} {I : Nat → Nat → Int32} {J : Nat → Nat → Int64} {f : Nat → Nat} {a n : Nat} (hf : ∀ k, k < n → I 126 (a + k) = nI (f k)) (ha : a + n ≤ 31) (hd : 1 ≤ d) : RV d 214 [.ref 106, .int (nI a), .int (nI n)] I J (nI (sumN f n)) := by
  refine RV.in (d0 := 0) hd mt_214 (Nat.le_of_ble_eq_true rfl) (fun d' hd' => ?_)
  show EV none M_X11_sumOf d' 0 [(0, .ref 106), (1, .int (nI a)), (2, .int (nI n))] [] (hp I J) _
  refine EV.o r_X11_sumOf_0 (icN (0) (v := 0)) ?_
  refine EV.l (lv' := [(0, _), (1, _), (2, _), (3, _)]) r_X11_sumOf_1 rfl ?_
  refine EV.o r_X11_sumOf_2 (icN (0) (v := 0)) ?_
  refine EV.l (lv' := [(0, _), (1, _), (2, _), (3, _), (4, _)]) r_X11_sumOf_3 rfl ?_
  have L5 : ∀ y_ : Nat, (fun i => i ≤ n → EV none M_X11_sumOf d' 5 [(0, .ref 106), (1, .int (nI a)), (2, .int (nI n)), (3, .int (nI (sumN f i))), (4, .int (nI i))] [] (hp I J) (QV I J (nI (sumN f n)))) y_ := by
    refine ev_loop (fun i => n - i) ?_
    intro i ih5 hx5
    try dsimp only at ih5
    try dsimp only at hx5
    try dsimp only
    refine EV.l (lv' := [(0, _), (1, _), (2, _), (3, _), (4, _)]) r_X11_sumOf_5 rfl ?_
    refine EV.l (lv' := [(0, _), (1, _), (2, _), (3, _), (4, _)]) r_X11_sumOf_7 rfl ?_
    refine EV.n2_ge r_X11_sumOf_8 (fun h8 => ?_) (fun h8 => ?_)
    · -- 8 t
      refine EV.l (lv' := [(0, _), (1, _), (2, _), (3, _), (4, _)]) r_X11_sumOf_29 rfl ?_
      exact EV.rv r_X11_sumOf_30 (by rw [show i = n by omega])
    · -- 8 f
      refine EV.l (lv' := [(0, _), (1, _), (2, _), (3, _), (4, _)]) r_X11_sumOf_11 rfl ?_
      refine EV.l (lv' := [(0, _), (1, _), (2, _), (3, _), (4, _)]) r_X11_sumOf_12 rfl ?_
      refine EV.gR r_X11_sumOf_13 la_106 ?_
      refine EV.l (lv' := [(0, _), (1, _), (2, _), (3, _), (4, _)]) r_X11_sumOf_16 rfl ?_
      refine EV.l (lv' := [(0, _), (1, _), (2, _), (3, _), (4, _)]) r_X11_sumOf_17 rfl ?_
      refine EV.o r_X11_sumOf_19 iaddN ?_
      refine EV.iaN r_X11_sumOf_20 la_126 (hf _ (by omega)) ?_
      refine EV.o r_X11_sumOf_21 iaddN ?_
      refine EV.l (lv' := [(0, _), (1, _), (2, _), (3, _), (4, _)]) r_X11_sumOf_22 rfl ?_
      refine EV.l (lv' := [(0, _), (1, _), (2, _), (3, _), (4, _)]) r_X11_sumOf_23 rfl ?_
      rw [inc_nI]
      refine EV.g r_X11_sumOf_26 ?_
      refine EV.sub ?_ rfl ?_ (ih5 (i + 1) ?_ ?_)
      · rfl
      · rfl
      · omega
      · omega
  have h0 := L5 (0)
  try dsimp only at h0
  refine EV.sub ?_ rfl ?_ (h0 ?_)
  · rfl
  · rfl
  · omega
theorem m_heaviest {d : Nat} {I : Nat → Nat → Int32} {J : Nat → Nat → Int64} {κ : CT} (mc : MC κ I) (cb : CB κ) {x : Nat} (hx : x < 512)  (hd : 1 ≤ d) : RV d 264 [.ref 106, .int (nI x)] I J (opI (heav κ x)) := by
  refine RV.in (d0 := 0) hd mt_264 (Nat.le_of_ble_eq_true rfl) (fun d' hd' => ?_)
  have bns := cb.ns; have bnb := cb.nb; have bnc := cb.nc; have bnr := cb.nr
  show EV none M_X11_heaviestOf d' 0 [(0, .ref 106), (1, .int (nI x))] [] (hp I J) _
  refine EV.o r_X11_heaviestOf_0 (icZ (-1)) ?_
  refine EV.l (lv' := [(0, _), (1, _), (2, _)]) r_X11_heaviestOf_1 rfl ?_
  refine EV.o r_X11_heaviestOf_2 (icN (0) (v := 0)) ?_
  refine EV.l (lv' := [(0, _), (1, _), (2, _), (3, _)]) r_X11_heaviestOf_3 rfl ?_
  have L4 : ∀ y_ : Nat, (fun i => i ≤ κ.ns → EV none M_X11_heaviestOf d' 4 [(0, .ref 106), (1, .int (nI x)), (2, .int (opI (bst (fun i => x.testBit i) (fun i b => decide (κ.sw b < κ.sw i)) i))), (3, .int (nI i))] [] (hp I J) (QV I J (opI (heav κ x)))) y_ := by
    refine ev_loop (fun i => κ.ns - i) ?_
    intro i ih4 hx4
    try dsimp only at ih4
    try dsimp only at hx4
    try dsimp only
    have b2 := cb.sw i
    refine EV.l (lv' := [(0, _), (1, _), (2, _), (3, _)]) r_X11_heaviestOf_4 rfl ?_
    refine EV.l (lv' := [(0, _), (1, _), (2, _), (3, _)]) r_X11_heaviestOf_5 rfl ?_
    refine EV.getV r_X11_heaviestOf_6 la_106 (mc.ns) ?_
    refine EV.n2_ge r_X11_heaviestOf_9 (fun h9 => ?_) (fun h9 => ?_)
    · -- 9 t
      refine EV.l (lv' := [(0, _), (1, _), (2, _), (3, _)]) r_X11_heaviestOf_57 rfl ?_
      exact EV.rv r_X11_heaviestOf_58 (by rw [show i = κ.ns by omega]; rfl)
    · -- 9 f
      refine EV.l (lv' := [(0, _), (1, _), (2, _), (3, _)]) r_X11_heaviestOf_12 rfl ?_
      refine EV.l (lv' := [(0, _), (1, _), (2, _), (3, _)]) r_X11_heaviestOf_13 rfl ?_
      refine EV.o r_X11_heaviestOf_14 (ishrN) ?_
      refine EV.o r_X11_heaviestOf_15 (icN (1) (v := 1)) ?_
      refine EV.o r_X11_heaviestOf_16 ibitN ?_
      refine EV.o r_X11_heaviestOf_17 (icN (1) (v := 1)) ?_
      refine EV.bt_ne r_X11_heaviestOf_18 (fun h18 => ?_) (fun h18 => ?_)
      · -- 18 t
        refine EV.l (lv' := [(0, _), (1, _), (2, _), (3, _)]) r_X11_heaviestOf_51 rfl ?_
        rw [inc_nI]
        refine EV.g r_X11_heaviestOf_54 ?_
        refine EV.sub ?_ rfl ?_ (ih4 (i + 1) ?_ ?_)
        · first | (rw [bst_n (p := fun i => x.testBit i) (by assumption)] <;> rfl) | (rw [bst_0 (p := fun i => x.testBit i) (by assumption) (by assumption)] <;> rfl) | (rw [bst_t (p := fun i => x.testBit i) (by assumption) (by assumption) (decide_eq_true (by omega))] <;> rfl) | (rw [bst_f (p := fun i => x.testBit i) (by assumption) (by assumption) (decide_eq_false (by omega))] <;> rfl) | (rw [bst_n (p := fun i => x.testBit i) (decide_eq_false (by omega))] <;> rfl) | (rw [bst_0 (p := fun i => x.testBit i) (decide_eq_true (by omega)) (by assumption)] <;> rfl) | (rw [bst_t (p := fun i => x.testBit i) (decide_eq_true (by omega)) (by assumption) (decide_eq_true (by omega))] <;> rfl) | (rw [bst_f (p := fun i => x.testBit i) (decide_eq_true (by omega)) (by assumption) (decide_eq_false (by omega))] <;> rfl)
        · rfl
        · omega
        · omega
      · -- 18 f
        refine EV.l (lv' := [(0, _), (1, _), (2, _), (3, _)]) r_X11_heaviestOf_21 rfl ?_
        refine EV.o r_X11_heaviestOf_22 (icZ (-1)) ?_
        refine EV.op_eq r_X11_heaviestOf_23 (fun h23 => ?_) (fun h23 => ?_) (fun c ec => by have := bst_lt ec; omega)
        · -- 23 t
          refine EV.l (lv' := [(0, _), (1, _), (2, _), (3, _)]) r_X11_heaviestOf_49 rfl ?_
          refine EV.l (lv' := [(0, _), (1, _), (2, _), (3, _)]) r_X11_heaviestOf_50 rfl ?_
          refine EV.l (lv' := [(0, _), (1, _), (2, _), (3, _)]) r_X11_heaviestOf_51 rfl ?_
          rw [inc_nI]
          refine EV.g r_X11_heaviestOf_54 ?_
          refine EV.sub ?_ rfl ?_ (ih4 (i + 1) ?_ ?_)
          · first | (rw [bst_n (p := fun i => x.testBit i) (by assumption)] <;> rfl) | (rw [bst_0 (p := fun i => x.testBit i) (by assumption) (by assumption)] <;> rfl) | (rw [bst_t (p := fun i => x.testBit i) (by assumption) (by assumption) (decide_eq_true (by omega))] <;> rfl) | (rw [bst_f (p := fun i => x.testBit i) (by assumption) (by assumption) (decide_eq_false (by omega))] <;> rfl) | (rw [bst_n (p := fun i => x.testBit i) (decide_eq_false (by omega))] <;> rfl) | (rw [bst_0 (p := fun i => x.testBit i) (decide_eq_true (by omega)) (by assumption)] <;> rfl) | (rw [bst_t (p := fun i => x.testBit i) (decide_eq_true (by omega)) (by assumption) (decide_eq_true (by omega))] <;> rfl) | (rw [bst_f (p := fun i => x.testBit i) (decide_eq_true (by omega)) (by assumption) (decide_eq_false (by omega))] <;> rfl)
          · rfl
          · omega
          · omega
        · -- 23 f
          obtain ⟨c, ec⟩ := h23
          rw [ec, opI_some]
          have bc := bst_lt ec
          have b3 := cb.sw c
          refine EV.l (lv' := [(0, _), (1, _), (2, _), (3, _)]) r_X11_heaviestOf_26 rfl ?_
          refine EV.gR r_X11_heaviestOf_27 la_106 ?_
          refine EV.o r_X11_heaviestOf_30 (icN (3) (v := 3)) ?_
          refine EV.l (lv' := [(0, _), (1, _), (2, _), (3, _)]) r_X11_heaviestOf_31 rfl ?_
          refine EV.o r_X11_heaviestOf_32 imulN ?_
          refine EV.o r_X11_heaviestOf_33 (icN (2) (v := 2)) ?_
          refine EV.o r_X11_heaviestOf_34 iaddN ?_
          refine EV.iaN r_X11_heaviestOf_35 la_113 (mc.sw _ (by omega)) ?_
          refine EV.l (lv' := [(0, _), (1, _), (2, _), (3, _)]) r_X11_heaviestOf_36 rfl ?_
          refine EV.gR r_X11_heaviestOf_37 la_106 ?_
          refine EV.o r_X11_heaviestOf_40 (icN (3) (v := 3)) ?_
          refine EV.l (lv' := [(0, _), (1, _), (2, _), (3, _)]) r_X11_heaviestOf_41 rfl ?_
          refine EV.o r_X11_heaviestOf_42 imulN ?_
          refine EV.o r_X11_heaviestOf_43 (icN (2) (v := 2)) ?_
          refine EV.o r_X11_heaviestOf_44 iaddN ?_
          refine EV.iaN r_X11_heaviestOf_45 la_113 (mc.sw _ (by omega)) ?_
          refine EV.n2_le r_X11_heaviestOf_46 (fun h46 => ?_) (fun h46 => ?_)
          · -- 46 t
            refine EV.l (lv' := [(0, _), (1, _), (2, _), (3, _)]) r_X11_heaviestOf_51 rfl ?_
            rw [inc_nI]
            refine EV.g r_X11_heaviestOf_54 ?_
            refine EV.sub ?_ rfl ?_ (ih4 (i + 1) ?_ ?_)
            · first | (rw [bst_n (p := fun i => x.testBit i) (by assumption)] <;> rfl) | (rw [bst_0 (p := fun i => x.testBit i) (by assumption) (by assumption)] <;> rfl) | (rw [bst_t (p := fun i => x.testBit i) (by assumption) (by assumption) (decide_eq_true (by omega))] <;> rfl) | (rw [bst_f (p := fun i => x.testBit i) (by assumption) (by assumption) (decide_eq_false (by omega))] <;> rfl) | (rw [bst_n (p := fun i => x.testBit i) (decide_eq_false (by omega))] <;> rfl) | (rw [bst_0 (p := fun i => x.testBit i) (decide_eq_true (by omega)) (by assumption)] <;> rfl) | (rw [bst_t (p := fun i => x.testBit i) (decide_eq_true (by omega)) (by assumption) (decide_eq_true (by omega))] <;> rfl) | (rw [bst_f (p := fun i => x.testBit i) (decide_eq_true (by omega)) (by assumption) (decide_eq_false (by omega))] <;> rfl)
            · rfl
            · omega
            · omega
          · -- 46 f
            refine EV.l (lv' := [(0, _), (1, _), (2, _), (3, _)]) r_X11_heaviestOf_49 rfl ?_
            refine EV.l (lv' := [(0, _), (1, _), (2, _), (3, _)]) r_X11_heaviestOf_50 rfl ?_
            refine EV.l (lv' := [(0, _), (1, _), (2, _), (3, _)]) r_X11_heaviestOf_51 rfl ?_
            rw [inc_nI]
            refine EV.g r_X11_heaviestOf_54 ?_
            refine EV.sub ?_ rfl ?_ (ih4 (i + 1) ?_ ?_)
            · first | (rw [bst_n (p := fun i => x.testBit i) (by assumption)] <;> rfl) | (rw [bst_0 (p := fun i => x.testBit i) (by assumption) (by assumption)] <;> rfl) | (rw [bst_t (p := fun i => x.testBit i) (by assumption) (by assumption) (decide_eq_true (by omega))] <;> rfl) | (rw [bst_f (p := fun i => x.testBit i) (by assumption) (by assumption) (decide_eq_false (by omega))] <;> rfl) | (rw [bst_n (p := fun i => x.testBit i) (decide_eq_false (by omega))] <;> rfl) | (rw [bst_0 (p := fun i => x.testBit i) (decide_eq_true (by omega)) (by assumption)] <;> rfl) | (rw [bst_t (p := fun i => x.testBit i) (decide_eq_true (by omega)) (by assumption) (decide_eq_true (by omega))] <;> rfl) | (rw [bst_f (p := fun i => x.testBit i) (decide_eq_true (by omega)) (by assumption) (decide_eq_false (by omega))] <;> rfl)
            · rfl
            · omega
            · omega
  have h0 := L4 (0)
  try dsimp only at h0
  refine EV.sub ?_ rfl ?_ (h0 ?_)
  · rfl
  · rfl
  · omega
theorem b_heaviest {d : Nat} {I : Nat → Nat → Int32} {J : Nat → Nat → Int64} {κ : CT} (hc : HC 4 κ I) (cb : CB κ) {x : Nat} (hx : x < 512)  (hd : 2 ≤ d) : RV d 18 [.ref 4, .int (nI x)] I J (opI (heav κ x)) := by
  refine RV.in (d0 := 1) hd mt_18 (Nat.le_of_ble_eq_true rfl) (fun d' hd' => ?_)
  have bns := cb.ns; have bnb := cb.nb; have bnc := cb.nc; have bnr := cb.nr
  show EV none M_X1_heaviest d' 0 [(0, .ref 4), (1, .int (nI x))] [] (hp I J) _
  refine EV.o r_X1_heaviest_0 (icZ (-1)) ?_
  refine EV.l (lv' := [(0, _), (1, _), (2, _)]) r_X1_heaviest_1 rfl ?_
  refine EV.o r_X1_heaviest_2 (icN (0) (v := 0)) ?_
  refine EV.l (lv' := [(0, _), (1, _), (2, _), (3, _)]) r_X1_heaviest_3 rfl ?_
  have L4 : ∀ y_ : Nat, (fun i => i ≤ κ.ns → EV none M_X1_heaviest d' 4 [(0, .ref 4), (1, .int (nI x)), (2, .int (opI (bst (fun i => x.testBit i) (fun i b => decide (κ.sw b < κ.sw i)) i))), (3, .int (nI i))] [] (hp I J) (QV I J (opI (heav κ x)))) y_ := by
    refine ev_loop (fun i => κ.ns - i) ?_
    intro i ih4 hx4
    try dsimp only at ih4
    try dsimp only at hx4
    try dsimp only
    have b2 := cb.sw i
    refine EV.l (lv' := [(0, _), (1, _), (2, _), (3, _)]) r_X1_heaviest_4 rfl ?_
    refine EV.l (lv' := [(0, _), (1, _), (2, _), (3, _)]) r_X1_heaviest_5 rfl ?_
    refine EV.getV r_X1_heaviest_6 la_4 (hc.ns) ?_
    refine EV.n2_ge r_X1_heaviest_9 (fun h9 => ?_) (fun h9 => ?_)
    · -- 9 t
      refine EV.l (lv' := [(0, _), (1, _), (2, _), (3, _)]) r_X1_heaviest_52 rfl ?_
      exact EV.rv r_X1_heaviest_53 (by rw [show i = κ.ns by omega]; rfl)
    · -- 9 f
      refine EV.l (lv' := [(0, _), (1, _), (2, _), (3, _)]) r_X1_heaviest_12 rfl ?_
      refine EV.l (lv' := [(0, _), (1, _), (2, _), (3, _)]) r_X1_heaviest_13 rfl ?_
      refine EV.cv r_X1_heaviest_14 (aS2 mt_163) (c_has (by omega) (by omega) (by omega)) ?_
      refine EV.b0_eq r_X1_heaviest_17 (fun h17 => ?_) (fun h17 => ?_)
      · -- 17 t
        refine EV.l (lv' := [(0, _), (1, _), (2, _), (3, _)]) r_X1_heaviest_46 rfl ?_
        rw [inc_nI]
        refine EV.g r_X1_heaviest_49 ?_
        refine EV.sub ?_ rfl ?_ (ih4 (i + 1) ?_ ?_)
        · first | (rw [bst_n (p := fun i => x.testBit i) (by assumption)] <;> rfl) | (rw [bst_0 (p := fun i => x.testBit i) (by assumption) (by assumption)] <;> rfl) | (rw [bst_t (p := fun i => x.testBit i) (by assumption) (by assumption) (decide_eq_true (by omega))] <;> rfl) | (rw [bst_f (p := fun i => x.testBit i) (by assumption) (by assumption) (decide_eq_false (by omega))] <;> rfl) | (rw [bst_n (p := fun i => x.testBit i) (decide_eq_false (by omega))] <;> rfl) | (rw [bst_0 (p := fun i => x.testBit i) (decide_eq_true (by omega)) (by assumption)] <;> rfl) | (rw [bst_t (p := fun i => x.testBit i) (decide_eq_true (by omega)) (by assumption) (decide_eq_true (by omega))] <;> rfl) | (rw [bst_f (p := fun i => x.testBit i) (decide_eq_true (by omega)) (by assumption) (decide_eq_false (by omega))] <;> rfl)
        · rfl
        · omega
        · omega
      · -- 17 f
        refine EV.l (lv' := [(0, _), (1, _), (2, _), (3, _)]) r_X1_heaviest_20 rfl ?_
        refine EV.o r_X1_heaviest_21 (icZ (-1)) ?_
        refine EV.op_eq r_X1_heaviest_22 (fun h22 => ?_) (fun h22 => ?_) (fun c ec => by have := bst_lt ec; omega)
        · -- 22 t
          refine EV.l (lv' := [(0, _), (1, _), (2, _), (3, _)]) r_X1_heaviest_44 rfl ?_
          refine EV.l (lv' := [(0, _), (1, _), (2, _), (3, _)]) r_X1_heaviest_45 rfl ?_
          refine EV.l (lv' := [(0, _), (1, _), (2, _), (3, _)]) r_X1_heaviest_46 rfl ?_
          rw [inc_nI]
          refine EV.g r_X1_heaviest_49 ?_
          refine EV.sub ?_ rfl ?_ (ih4 (i + 1) ?_ ?_)
          · first | (rw [bst_n (p := fun i => x.testBit i) (by assumption)] <;> rfl) | (rw [bst_0 (p := fun i => x.testBit i) (by assumption) (by assumption)] <;> rfl) | (rw [bst_t (p := fun i => x.testBit i) (by assumption) (by assumption) (decide_eq_true (by omega))] <;> rfl) | (rw [bst_f (p := fun i => x.testBit i) (by assumption) (by assumption) (decide_eq_false (by omega))] <;> rfl) | (rw [bst_n (p := fun i => x.testBit i) (decide_eq_false (by omega))] <;> rfl) | (rw [bst_0 (p := fun i => x.testBit i) (decide_eq_true (by omega)) (by assumption)] <;> rfl) | (rw [bst_t (p := fun i => x.testBit i) (decide_eq_true (by omega)) (by assumption) (decide_eq_true (by omega))] <;> rfl) | (rw [bst_f (p := fun i => x.testBit i) (decide_eq_true (by omega)) (by assumption) (decide_eq_false (by omega))] <;> rfl)
          · rfl
          · omega
          · omega
        · -- 22 f
          obtain ⟨c, ec⟩ := h22
          rw [ec, opI_some]
          have bc := bst_lt ec
          have b3 := cb.sw c
          refine EV.l (lv' := [(0, _), (1, _), (2, _), (3, _)]) r_X1_heaviest_25 rfl ?_
          refine EV.gR r_X1_heaviest_26 la_4 ?_
          refine EV.l (lv' := [(0, _), (1, _), (2, _), (3, _)]) r_X1_heaviest_29 rfl ?_
          refine EV.cv r_X1_heaviest_30 (aV1 mt_92 la_9) (c_getN (by omega) la_9 la_10 (hc.sw _ (by omega))) ?_
          refine EV.l (lv' := [(0, _), (1, _), (2, _), (3, _)]) r_X1_heaviest_33 rfl ?_
          refine EV.gR r_X1_heaviest_34 la_4 ?_
          refine EV.l (lv' := [(0, _), (1, _), (2, _), (3, _)]) r_X1_heaviest_37 rfl ?_
          refine EV.cv r_X1_heaviest_38 (aV1 mt_92 la_9) (c_getN (by omega) la_9 la_10 (hc.sw _ (by omega))) ?_
          refine EV.n2_le r_X1_heaviest_41 (fun h41 => ?_) (fun h41 => ?_)
          · -- 41 t
            refine EV.l (lv' := [(0, _), (1, _), (2, _), (3, _)]) r_X1_heaviest_46 rfl ?_
            rw [inc_nI]
            refine EV.g r_X1_heaviest_49 ?_
            refine EV.sub ?_ rfl ?_ (ih4 (i + 1) ?_ ?_)
            · first | (rw [bst_n (p := fun i => x.testBit i) (by assumption)] <;> rfl) | (rw [bst_0 (p := fun i => x.testBit i) (by assumption) (by assumption)] <;> rfl) | (rw [bst_t (p := fun i => x.testBit i) (by assumption) (by assumption) (decide_eq_true (by omega))] <;> rfl) | (rw [bst_f (p := fun i => x.testBit i) (by assumption) (by assumption) (decide_eq_false (by omega))] <;> rfl) | (rw [bst_n (p := fun i => x.testBit i) (decide_eq_false (by omega))] <;> rfl) | (rw [bst_0 (p := fun i => x.testBit i) (decide_eq_true (by omega)) (by assumption)] <;> rfl) | (rw [bst_t (p := fun i => x.testBit i) (decide_eq_true (by omega)) (by assumption) (decide_eq_true (by omega))] <;> rfl) | (rw [bst_f (p := fun i => x.testBit i) (decide_eq_true (by omega)) (by assumption) (decide_eq_false (by omega))] <;> rfl)
            · rfl
            · omega
            · omega
          · -- 41 f
            refine EV.l (lv' := [(0, _), (1, _), (2, _), (3, _)]) r_X1_heaviest_44 rfl ?_
            refine EV.l (lv' := [(0, _), (1, _), (2, _), (3, _)]) r_X1_heaviest_45 rfl ?_
            refine EV.l (lv' := [(0, _), (1, _), (2, _), (3, _)]) r_X1_heaviest_46 rfl ?_
            rw [inc_nI]
            refine EV.g r_X1_heaviest_49 ?_
            refine EV.sub ?_ rfl ?_ (ih4 (i + 1) ?_ ?_)
            · first | (rw [bst_n (p := fun i => x.testBit i) (by assumption)] <;> rfl) | (rw [bst_0 (p := fun i => x.testBit i) (by assumption) (by assumption)] <;> rfl) | (rw [bst_t (p := fun i => x.testBit i) (by assumption) (by assumption) (decide_eq_true (by omega))] <;> rfl) | (rw [bst_f (p := fun i => x.testBit i) (by assumption) (by assumption) (decide_eq_false (by omega))] <;> rfl) | (rw [bst_n (p := fun i => x.testBit i) (decide_eq_false (by omega))] <;> rfl) | (rw [bst_0 (p := fun i => x.testBit i) (decide_eq_true (by omega)) (by assumption)] <;> rfl) | (rw [bst_t (p := fun i => x.testBit i) (decide_eq_true (by omega)) (by assumption) (decide_eq_true (by omega))] <;> rfl) | (rw [bst_f (p := fun i => x.testBit i) (decide_eq_true (by omega)) (by assumption) (decide_eq_false (by omega))] <;> rfl)
            · rfl
            · omega
            · omega
  have h0 := L4 (0)
  try dsimp only at h0
  refine EV.sub ?_ rfl ?_ (h0 ?_)
  · rfl
  · rfl
  · omega
theorem c71_next {d : Nat} {I : Nat → Nat → Int32} {J : Nat → Nat → Int64} {κ : CT} {η : HS} (hc : HC 4 κ I) (cb : CB κ) (hh : HH 71 η I) (hb : HB κ η)  (hd : 2 ≤ d) : RV d 39 [.ref 71] I J (opI (nxt κ η)) := by
  refine RV.in (d0 := 1) hd mt_39 (Nat.le_of_ble_eq_true rfl) (fun d' hd' => ?_)
  have bns := cb.ns; have bnb := cb.nb; have bnc := cb.nc; have bnr := cb.nr
  have b0 := hb.mi
  show EV none M_X2_nextSaid d' 0 [(0, .ref 71)] [] (hp I J) _
  refine EV.o r_X2_nextSaid_0 (icZ (-1)) ?_
  refine EV.l (lv' := [(0, _), (1, _)]) r_X2_nextSaid_1 rfl ?_
  refine EV.o r_X2_nextSaid_2 (icN (0) (v := 0)) ?_
  refine EV.l (lv' := [(0, _), (1, _), (2, _)]) r_X2_nextSaid_3 rfl ?_
  have L4 : ∀ y_ : Nat, (fun i => i ≤ κ.ns → EV none M_X2_nextSaid d' 4 [(0, .ref 71), (1, .int (opI (bst (fun i => decide (η.mi ≤ η.sa i)) (fun i b => decide (η.sa i < η.sa b)) i))), (2, .int (nI i))] [] (hp I J) (QV I J (opI (nxt κ η)))) y_ := by
    refine ev_loop (fun i => κ.ns - i) ?_
    intro i ih4 hx4
    try dsimp only at ih4
    try dsimp only at hx4
    try dsimp only
    have b2 := hb.sa i
    refine EV.l (lv' := [(0, _), (1, _), (2, _)]) r_X2_nextSaid_4 rfl ?_
    refine EV.l (lv' := [(0, _), (1, _), (2, _)]) r_X2_nextSaid_5 rfl ?_
    refine EV.gR r_X2_nextSaid_6 la_71 ?_
    refine EV.getV r_X2_nextSaid_9 la_4 (hc.ns) ?_
    refine EV.n2_ge r_X2_nextSaid_12 (fun h12 => ?_) (fun h12 => ?_)
    · -- 12 t
      refine EV.l (lv' := [(0, _), (1, _), (2, _)]) r_X2_nextSaid_62 rfl ?_
      exact EV.rv r_X2_nextSaid_63 (by rw [show i = κ.ns by omega]; rfl)
    · -- 12 f
      refine EV.l (lv' := [(0, _), (1, _), (2, _)]) r_X2_nextSaid_15 rfl ?_
      refine EV.gR r_X2_nextSaid_16 la_71 ?_
      refine EV.l (lv' := [(0, _), (1, _), (2, _)]) r_X2_nextSaid_19 rfl ?_
      refine EV.cv r_X2_nextSaid_20 (aV1 mt_92 la_72) (c_getN (by omega) la_72 la_73 (hh.sa _ (by omega))) ?_
      refine EV.l (lv' := [(0, _), (1, _), (2, _)]) r_X2_nextSaid_23 rfl ?_
      refine EV.getV r_X2_nextSaid_24 la_71 (hh.mi) ?_
      refine EV.n2_lt r_X2_nextSaid_27 (fun h27 => ?_) (fun h27 => ?_)
      · -- 27 t
        refine EV.l (lv' := [(0, _), (1, _), (2, _)]) r_X2_nextSaid_56 rfl ?_
        rw [inc_nI]
        refine EV.g r_X2_nextSaid_59 ?_
        refine EV.sub ?_ rfl ?_ (ih4 (i + 1) ?_ ?_)
        · first | (rw [bst_n (p := fun i => decide (η.mi ≤ η.sa i)) (by assumption)] <;> rfl) | (rw [bst_0 (p := fun i => decide (η.mi ≤ η.sa i)) (by assumption) (by assumption)] <;> rfl) | (rw [bst_t (p := fun i => decide (η.mi ≤ η.sa i)) (by assumption) (by assumption) (decide_eq_true (by omega))] <;> rfl) | (rw [bst_f (p := fun i => decide (η.mi ≤ η.sa i)) (by assumption) (by assumption) (decide_eq_false (by omega))] <;> rfl) | (rw [bst_n (p := fun i => decide (η.mi ≤ η.sa i)) (decide_eq_false (by omega))] <;> rfl) | (rw [bst_0 (p := fun i => decide (η.mi ≤ η.sa i)) (decide_eq_true (by omega)) (by assumption)] <;> rfl) | (rw [bst_t (p := fun i => decide (η.mi ≤ η.sa i)) (decide_eq_true (by omega)) (by assumption) (decide_eq_true (by omega))] <;> rfl) | (rw [bst_f (p := fun i => decide (η.mi ≤ η.sa i)) (decide_eq_true (by omega)) (by assumption) (decide_eq_false (by omega))] <;> rfl)
        · rfl
        · omega
        · omega
      · -- 27 f
        refine EV.l (lv' := [(0, _), (1, _), (2, _)]) r_X2_nextSaid_30 rfl ?_
        refine EV.o r_X2_nextSaid_31 (icZ (-1)) ?_
        refine EV.op_eq r_X2_nextSaid_32 (fun h32 => ?_) (fun h32 => ?_) (fun c ec => by have := bst_lt ec; omega)
        · -- 32 t
          refine EV.l (lv' := [(0, _), (1, _), (2, _)]) r_X2_nextSaid_54 rfl ?_
          refine EV.l (lv' := [(0, _), (1, _), (2, _)]) r_X2_nextSaid_55 rfl ?_
          refine EV.l (lv' := [(0, _), (1, _), (2, _)]) r_X2_nextSaid_56 rfl ?_
          rw [inc_nI]
          refine EV.g r_X2_nextSaid_59 ?_
          refine EV.sub ?_ rfl ?_ (ih4 (i + 1) ?_ ?_)
          · first | (rw [bst_n (p := fun i => decide (η.mi ≤ η.sa i)) (by assumption)] <;> rfl) | (rw [bst_0 (p := fun i => decide (η.mi ≤ η.sa i)) (by assumption) (by assumption)] <;> rfl) | (rw [bst_t (p := fun i => decide (η.mi ≤ η.sa i)) (by assumption) (by assumption) (decide_eq_true (by omega))] <;> rfl) | (rw [bst_f (p := fun i => decide (η.mi ≤ η.sa i)) (by assumption) (by assumption) (decide_eq_false (by omega))] <;> rfl) | (rw [bst_n (p := fun i => decide (η.mi ≤ η.sa i)) (decide_eq_false (by omega))] <;> rfl) | (rw [bst_0 (p := fun i => decide (η.mi ≤ η.sa i)) (decide_eq_true (by omega)) (by assumption)] <;> rfl) | (rw [bst_t (p := fun i => decide (η.mi ≤ η.sa i)) (decide_eq_true (by omega)) (by assumption) (decide_eq_true (by omega))] <;> rfl) | (rw [bst_f (p := fun i => decide (η.mi ≤ η.sa i)) (decide_eq_true (by omega)) (by assumption) (decide_eq_false (by omega))] <;> rfl)
          · rfl
          · omega
          · omega
        · -- 32 f
          obtain ⟨c, ec⟩ := h32
          rw [ec, opI_some]
          have bc := bst_lt ec
          have b3 := hb.sa c
          refine EV.l (lv' := [(0, _), (1, _), (2, _)]) r_X2_nextSaid_35 rfl ?_
          refine EV.gR r_X2_nextSaid_36 la_71 ?_
          refine EV.l (lv' := [(0, _), (1, _), (2, _)]) r_X2_nextSaid_39 rfl ?_
          refine EV.cv r_X2_nextSaid_40 (aV1 mt_92 la_72) (c_getN (by omega) la_72 la_73 (hh.sa _ (by omega))) ?_
          refine EV.l (lv' := [(0, _), (1, _), (2, _)]) r_X2_nextSaid_43 rfl ?_
          refine EV.gR r_X2_nextSaid_44 la_71 ?_
          refine EV.l (lv' := [(0, _), (1, _), (2, _)]) r_X2_nextSaid_47 rfl ?_
          refine EV.cv r_X2_nextSaid_48 (aV1 mt_92 la_72) (c_getN (by omega) la_72 la_73 (hh.sa _ (by omega))) ?_
          refine EV.n2_ge r_X2_nextSaid_51 (fun h51 => ?_) (fun h51 => ?_)
          · -- 51 t
            refine EV.l (lv' := [(0, _), (1, _), (2, _)]) r_X2_nextSaid_56 rfl ?_
            rw [inc_nI]
            refine EV.g r_X2_nextSaid_59 ?_
            refine EV.sub ?_ rfl ?_ (ih4 (i + 1) ?_ ?_)
            · first | (rw [bst_n (p := fun i => decide (η.mi ≤ η.sa i)) (by assumption)] <;> rfl) | (rw [bst_0 (p := fun i => decide (η.mi ≤ η.sa i)) (by assumption) (by assumption)] <;> rfl) | (rw [bst_t (p := fun i => decide (η.mi ≤ η.sa i)) (by assumption) (by assumption) (decide_eq_true (by omega))] <;> rfl) | (rw [bst_f (p := fun i => decide (η.mi ≤ η.sa i)) (by assumption) (by assumption) (decide_eq_false (by omega))] <;> rfl) | (rw [bst_n (p := fun i => decide (η.mi ≤ η.sa i)) (decide_eq_false (by omega))] <;> rfl) | (rw [bst_0 (p := fun i => decide (η.mi ≤ η.sa i)) (decide_eq_true (by omega)) (by assumption)] <;> rfl) | (rw [bst_t (p := fun i => decide (η.mi ≤ η.sa i)) (decide_eq_true (by omega)) (by assumption) (decide_eq_true (by omega))] <;> rfl) | (rw [bst_f (p := fun i => decide (η.mi ≤ η.sa i)) (decide_eq_true (by omega)) (by assumption) (decide_eq_false (by omega))] <;> rfl)
            · rfl
            · omega
            · omega
          · -- 51 f
            refine EV.l (lv' := [(0, _), (1, _), (2, _)]) r_X2_nextSaid_54 rfl ?_
            refine EV.l (lv' := [(0, _), (1, _), (2, _)]) r_X2_nextSaid_55 rfl ?_
            refine EV.l (lv' := [(0, _), (1, _), (2, _)]) r_X2_nextSaid_56 rfl ?_
            rw [inc_nI]
            refine EV.g r_X2_nextSaid_59 ?_
            refine EV.sub ?_ rfl ?_ (ih4 (i + 1) ?_ ?_)
            · first | (rw [bst_n (p := fun i => decide (η.mi ≤ η.sa i)) (by assumption)] <;> rfl) | (rw [bst_0 (p := fun i => decide (η.mi ≤ η.sa i)) (by assumption) (by assumption)] <;> rfl) | (rw [bst_t (p := fun i => decide (η.mi ≤ η.sa i)) (by assumption) (by assumption) (decide_eq_true (by omega))] <;> rfl) | (rw [bst_f (p := fun i => decide (η.mi ≤ η.sa i)) (by assumption) (by assumption) (decide_eq_false (by omega))] <;> rfl) | (rw [bst_n (p := fun i => decide (η.mi ≤ η.sa i)) (decide_eq_false (by omega))] <;> rfl) | (rw [bst_0 (p := fun i => decide (η.mi ≤ η.sa i)) (decide_eq_true (by omega)) (by assumption)] <;> rfl) | (rw [bst_t (p := fun i => decide (η.mi ≤ η.sa i)) (decide_eq_true (by omega)) (by assumption) (decide_eq_true (by omega))] <;> rfl) | (rw [bst_f (p := fun i => decide (η.mi ≤ η.sa i)) (decide_eq_true (by omega)) (by assumption) (decide_eq_false (by omega))] <;> rfl)
            · rfl
            · omega
            · omega
  have h0 := L4 (0)
  try dsimp only at h0
  refine EV.sub ?_ rfl ?_ (h0 ?_)
  · rfl
  · rfl
  · omega
