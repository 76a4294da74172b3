/-! Questions of the class. -/
def opW (κ : CT) (o : Option Nat) : Int32 := match o with
  | none => zI (-1)
  | some b => nI (κ.sw b)
def opS (η : HS) (o : Option Nat) : Int32 := match o with
  | none => zI (-1)
  | some b => nI (η.sa b)
theorem opW_some {κ : CT} {b : Nat} : opW κ (some b) = nI (κ.sw b) := rfl
theorem opS_some {η : HS} {b : Nat} : opS η (some b) = nI (η.sa b) := rfl
/-- the first of which p holds -/
def fst1 (p : Nat → Bool) (n : Nat) : Option Nat := bst p (fun _ _ => false) n
theorem fst1_none {p : Nat → Bool} : ∀ {n : Nat}, (∀ j, j < n → p j = false) → fst1 p n = none
  | 0, _ => rfl
  | n + 1, h => by
    have ih := fst1_none (p := p) (n := n) (fun j hj => h j (by omega))
    exact (bst_n (h n (by omega))).trans ih
theorem fst1_stay {p : Nat → Bool} {k b : Nat} (h : fst1 p k = some b) : ∀ m, fst1 p (k + m) = some b
  | 0 => h
  | m + 1 => by
    have ih := fst1_stay h m
    cases hp : p (k + m) with
    | false => exact (bst_n hp).trans ih
    | true => exact bst_f hp ih rfl
theorem fst1_at {p : Nat → Bool} {k n : Nat} (hk : k < n) (hp : p k = true) (h : ∀ j, j < k → p j = false) : fst1 p n = some k := by
  have h1 : fst1 p (k + 1) = some k := bst_0 hp (fst1_none h)
  have h2 := fst1_stay h1 (n - (k + 1))
  rwa [show k + 1 + (n - (k + 1)) = n by omega] at h2
theorem all_s {p : Nat → Bool} {k : Nat} (h : ∀ j, j < k → p j = false) (hk : p k = false) : ∀ j, j < k + 1 → p j = false := by
  intro j hj
  rcases Nat.lt_or_ge j k with h2 | h2
  · exact h j h2
  · have e : j = k := by omega
    rw [e]; exact hk
def dlyB (κ : CT) (η : HS) (i k : Nat) : Bool := decide (birds κ η (min 400 (η.sa i + k)) = 0)
def pr1 (η : HS) (b o : Nat) : Bool := decide (η.be b ≤ η.be o + η.wk o - 1 ∧ η.be o ≤ η.be b + η.wk b - 1)
def prIn (η : HS) (b : Nat) : Nat → Nat
  | 0 => 0
  | o + 1 => prIn η b o + (pr1 η b o).toNat
def prs (η : HS) : Nat → Nat
  | 0 => 0
  | b + 1 => prs η b + prIn η b b
theorem prIn_le (η : HS) (b : Nat) : ∀ o, prIn η b o ≤ o
  | 0 => Nat.le_refl _
  | o + 1 => by
    have ih := prIn_le η b o
    have h2 : (pr1 η b o).toNat ≤ 1 := Bool.toNat_le _
    unfold prIn
    omega
theorem prs_le (η : HS) : ∀ b, prs η b ≤ b * b
  | 0 => Nat.le_refl _
  | b + 1 => by
    have ih := prs_le η b
    have h2 := prIn_le η b b
    have h3 : (b + 1) * (b + 1) = b * b + b + b + 1 := by rw [Nat.add_mul, Nat.mul_add]; omega
    unfold prs
    omega
theorem prIn_t {η : HS} {b o : Nat} (h : pr1 η b o = true) : prIn η b o + 1 = prIn η b (o + 1) := by show _ = _ + _; rw [h]; rfl
theorem prIn_f {η : HS} {b o : Nat} (h : pr1 η b o = false) : prIn η b o = prIn η b (o + 1) := by show _ = _ + _; rw [h]; rfl
theorem and_lt9 {x y n : Nat} (h : x < n) : x &&& y < n := Nat.lt_of_le_of_lt Nat.and_le_left h
theorem andc_lt9 {x y : Nat} (h : x < 512) : andc x y < 512 := andc_lt (n := 9) h
theorem xor_lt9 {x i n : Nat} (h : x < 2 ^ n) (hi : i < n) : x ^^^ 2 ^ i < 2 ^ n := Nat.xor_lt_two_pow h (Nat.pow_lt_pow_right (by decide) hi)
theorem heav_lt {κ : CT} {x b : Nat} (h : heav κ x = some b) : b < κ.ns := bst_lt h
theorem nxt_lt {κ : CT} {η : HS} {b : Nat} (h : nxt κ η = some b) : b < κ.ns := bst_lt h
theorem r_X10_at_0 : RW M_X10_at 0 (.aload_n 0) 1 0 0 1 := ⟨rfl, rfl⟩
theorem r_X10_at_1 : RW M_X10_at 1 (.iload_n 1) 1 0 0 2 := ⟨rfl, rfl⟩
theorem r_X10_at_2 : RW M_X10_at 2 (.ifCond .lt 23) 3 25 0 5 := ⟨rfl, rfl⟩
theorem r_X10_at_5 : RW M_X10_at 5 (.iload_n 1) 1 0 0 6 := ⟨rfl, rfl⟩
theorem r_X10_at_6 : RW M_X10_at 6 (.sipush 499) 3 0 0 9 := ⟨rfl, rfl⟩
theorem r_X10_at_9 : RW M_X10_at 9 (.if_icmp .gt 16) 3 25 0 12 := ⟨rfl, rfl⟩
theorem r_X10_at_12 : RW M_X10_at 12 (.iload_n 2) 1 0 0 13 := ⟨rfl, rfl⟩
theorem r_X10_at_13 : RW M_X10_at 13 (.ifCond .lt 12) 3 25 0 16 := ⟨rfl, rfl⟩
theorem r_X10_at_16 : RW M_X10_at 16 (.iload_n 2) 1 0 0 17 := ⟨rfl, rfl⟩
theorem r_X10_at_17 : RW M_X10_at 17 (.iconst 2) 1 0 0 18 := ⟨rfl, rfl⟩
theorem r_X10_at_18 : RW M_X10_at 18 (.if_icmp .gt 7) 3 25 0 21 := ⟨rfl, rfl⟩
theorem r_X10_at_21 : RW M_X10_at 21 (.iconst 1) 1 0 0 22 := ⟨rfl, rfl⟩
theorem r_X10_at_22 : RW M_X10_at 22 (.goto 4) 3 26 0 25 := ⟨rfl, rfl⟩
theorem r_X10_at_25 : RW M_X10_at 25 (.iconst 0) 1 0 0 26 := ⟨rfl, rfl⟩
theorem r_X10_at_26 : RW M_X10_at 26 (.invokevirtual 175) 3 159 0 29 := ⟨rfl, rfl⟩
theorem r_X10_at_29 : RW M_X10_at 29 (.iload_n 2) 1 0 0 30 := ⟨rfl, rfl⟩
theorem r_X10_at_30 : RW M_X10_at 30 (.lookupswitch 45 #[(0, 26), (1, 35)]) 26 0 0 56 := ⟨rfl, rfl⟩
theorem r_X10_at_56 : RW M_X10_at 56 (.aload_n 0) 1 0 0 57 := ⟨rfl, rfl⟩
theorem r_X10_at_57 : RW M_X10_at 57 (.getfield 58) 3 10 8 60 := ⟨rfl, rfl⟩
theorem r_X10_at_60 : RW M_X10_at 60 (.iload_n 1) 1 0 0 61 := ⟨rfl, rfl⟩
theorem r_X10_at_61 : RW M_X10_at 61 (.invokevirtual 204) 3 34 0 64 := ⟨rfl, rfl⟩
theorem r_X10_at_64 : RW M_X10_at 64 (.ireturn) 1 0 0 65 := ⟨rfl, rfl⟩
theorem r_X10_at_65 : RW M_X10_at 65 (.aload_n 0) 1 0 0 66 := ⟨rfl, rfl⟩
theorem r_X10_at_66 : RW M_X10_at 66 (.getfield 58) 3 10 8 69 := ⟨rfl, rfl⟩
theorem r_X10_at_69 : RW M_X10_at 69 (.iload_n 1) 1 0 0 70 := ⟨rfl, rfl⟩
theorem r_X10_at_70 : RW M_X10_at 70 (.iload_n 1) 1 0 0 71 := ⟨rfl, rfl⟩
theorem r_X10_at_71 : RW M_X10_at 71 (.invokevirtual 260) 3 37 0 74 := ⟨rfl, rfl⟩
theorem r_X10_at_74 : RW M_X10_at 74 (.ireturn) 1 0 0 75 := ⟨rfl, rfl⟩
theorem r_X10_at_75 : RW M_X10_at 75 (.aload_n 0) 1 0 0 76 := ⟨rfl, rfl⟩
theorem r_X10_at_76 : RW M_X10_at 76 (.getfield 19) 3 10 1 79 := ⟨rfl, rfl⟩
theorem r_X10_at_79 : RW M_X10_at 79 (.aload_n 0) 1 0 0 80 := ⟨rfl, rfl⟩
theorem r_X10_at_80 : RW M_X10_at 80 (.getfield 58) 3 10 8 83 := ⟨rfl, rfl⟩
theorem r_X10_at_83 : RW M_X10_at 83 (.iload_n 1) 1 0 0 84 := ⟨rfl, rfl⟩
theorem r_X10_at_84 : RW M_X10_at 84 (.invokevirtual 195) 3 38 0 87 := ⟨rfl, rfl⟩
theorem r_X10_at_87 : RW M_X10_at 87 (.invokevirtual 207) 3 22 0 90 := ⟨rfl, rfl⟩
theorem r_X10_at_90 : RW M_X10_at 90 (.ireturn) 1 0 0 91 := ⟨rfl, rfl⟩
theorem r_X10_bird_0 : RW M_X10_bird 0 (.aload_n 0) 1 0 0 1 := ⟨rfl, rfl⟩
theorem r_X10_bird_1 : RW M_X10_bird 1 (.iload_n 1) 1 0 0 2 := ⟨rfl, rfl⟩
theorem r_X10_bird_2 : RW M_X10_bird 2 (.aload_n 0) 1 0 0 3 := ⟨rfl, rfl⟩
theorem r_X10_bird_3 : RW M_X10_bird 3 (.getfield 19) 3 10 1 6 := ⟨rfl, rfl⟩
theorem r_X10_bird_6 : RW M_X10_bird 6 (.getfield 182) 3 1 12 9 := ⟨rfl, rfl⟩
theorem r_X10_bird_9 : RW M_X10_bird 9 (.invokevirtual 210) 3 160 0 12 := ⟨rfl, rfl⟩
theorem r_X10_bird_12 : RW M_X10_bird 12 (.aload_n 0) 1 0 0 13 := ⟨rfl, rfl⟩
theorem r_X10_bird_13 : RW M_X10_bird 13 (.iload_n 2) 1 0 0 14 := ⟨rfl, rfl⟩
theorem r_X10_bird_14 : RW M_X10_bird 14 (.ifCond .lt 12) 3 26 0 17 := ⟨rfl, rfl⟩
theorem r_X10_bird_17 : RW M_X10_bird 17 (.iload_n 2) 1 0 0 18 := ⟨rfl, rfl⟩
theorem r_X10_bird_18 : RW M_X10_bird 18 (.iconst 4) 1 0 0 19 := ⟨rfl, rfl⟩
theorem r_X10_bird_19 : RW M_X10_bird 19 (.if_icmp .gt 7) 3 26 0 22 := ⟨rfl, rfl⟩
theorem r_X10_bird_22 : RW M_X10_bird 22 (.iconst 1) 1 0 0 23 := ⟨rfl, rfl⟩
theorem r_X10_bird_23 : RW M_X10_bird 23 (.goto 4) 3 27 0 26 := ⟨rfl, rfl⟩
theorem r_X10_bird_26 : RW M_X10_bird 26 (.iconst 0) 1 0 0 27 := ⟨rfl, rfl⟩
theorem r_X10_bird_27 : RW M_X10_bird 27 (.invokevirtual 175) 3 159 0 30 := ⟨rfl, rfl⟩
theorem r_X10_bird_30 : RW M_X10_bird 30 (.iload_n 2) 1 0 0 31 := ⟨rfl, rfl⟩
theorem r_X10_bird_31 : RW M_X10_bird 31 (.tableswitch 77 0 3 #[29, 41, 53, 65]) 29 0 0 60 := ⟨rfl, rfl⟩
theorem r_X10_bird_60 : RW M_X10_bird 60 (.aload_n 0) 1 0 0 61 := ⟨rfl, rfl⟩
theorem r_X10_bird_61 : RW M_X10_bird 61 (.getfield 58) 3 10 8 64 := ⟨rfl, rfl⟩
theorem r_X10_bird_64 : RW M_X10_bird 64 (.getfield 235) 3 2 3 67 := ⟨rfl, rfl⟩
theorem r_X10_bird_67 : RW M_X10_bird 67 (.iload_n 1) 1 0 0 68 := ⟨rfl, rfl⟩
theorem r_X10_bird_68 : RW M_X10_bird 68 (.invokevirtual 217) 3 92 0 71 := ⟨rfl, rfl⟩
theorem r_X10_bird_71 : RW M_X10_bird 71 (.ireturn) 1 0 0 72 := ⟨rfl, rfl⟩
theorem r_X10_bird_72 : RW M_X10_bird 72 (.aload_n 0) 1 0 0 73 := ⟨rfl, rfl⟩
theorem r_X10_bird_73 : RW M_X10_bird 73 (.getfield 19) 3 10 1 76 := ⟨rfl, rfl⟩
theorem r_X10_bird_76 : RW M_X10_bird 76 (.getfield 238) 3 1 7 79 := ⟨rfl, rfl⟩
theorem r_X10_bird_79 : RW M_X10_bird 79 (.iload_n 1) 1 0 0 80 := ⟨rfl, rfl⟩
theorem r_X10_bird_80 : RW M_X10_bird 80 (.invokevirtual 217) 3 92 0 83 := ⟨rfl, rfl⟩
theorem r_X10_bird_83 : RW M_X10_bird 83 (.ireturn) 1 0 0 84 := ⟨rfl, rfl⟩
theorem r_X10_bird_84 : RW M_X10_bird 84 (.aload_n 0) 1 0 0 85 := ⟨rfl, rfl⟩
theorem r_X10_bird_85 : RW M_X10_bird 85 (.getfield 58) 3 10 8 88 := ⟨rfl, rfl⟩
theorem r_X10_bird_88 : RW M_X10_bird 88 (.getfield 241) 3 2 5 91 := ⟨rfl, rfl⟩
theorem r_X10_bird_91 : RW M_X10_bird 91 (.iload_n 1) 1 0 0 92 := ⟨rfl, rfl⟩
theorem r_X10_bird_92 : RW M_X10_bird 92 (.invokevirtual 217) 3 92 0 95 := ⟨rfl, rfl⟩
theorem r_X10_bird_95 : RW M_X10_bird 95 (.ireturn) 1 0 0 96 := ⟨rfl, rfl⟩
theorem r_X10_bird_96 : RW M_X10_bird 96 (.aload_n 0) 1 0 0 97 := ⟨rfl, rfl⟩
theorem r_X10_bird_97 : RW M_X10_bird 97 (.getfield 58) 3 10 8 100 := ⟨rfl, rfl⟩
theorem r_X10_bird_100 : RW M_X10_bird 100 (.getfield 244) 3 2 4 103 := ⟨rfl, rfl⟩
theorem r_X10_bird_103 : RW M_X10_bird 103 (.iload_n 1) 1 0 0 104 := ⟨rfl, rfl⟩
theorem r_X10_bird_104 : RW M_X10_bird 104 (.invokevirtual 217) 3 92 0 107 := ⟨rfl, rfl⟩
theorem r_X10_bird_107 : RW M_X10_bird 107 (.ireturn) 1 0 0 108 := ⟨rfl, rfl⟩
theorem r_X10_bird_108 : RW M_X10_bird 108 (.aload_n 0) 1 0 0 109 := ⟨rfl, rfl⟩
theorem r_X10_bird_109 : RW M_X10_bird 109 (.getfield 58) 3 10 8 112 := ⟨rfl, rfl⟩
theorem r_X10_bird_112 : RW M_X10_bird 112 (.iload_n 1) 1 0 0 113 := ⟨rfl, rfl⟩
theorem r_X10_bird_113 : RW M_X10_bird 113 (.invokevirtual 247) 3 33 0 116 := ⟨rfl, rfl⟩
theorem r_X10_bird_116 : RW M_X10_bird 116 (.ireturn) 1 0 0 117 := ⟨rfl, rfl⟩
theorem r_X10_counsel_0 : RW M_X10_counsel 0 (.aload_n 0) 1 0 0 1 := ⟨rfl, rfl⟩
theorem r_X10_counsel_1 : RW M_X10_counsel 1 (.iload_n 1) 1 0 0 2 := ⟨rfl, rfl⟩
theorem r_X10_counsel_2 : RW M_X10_counsel 2 (.aload_n 0) 1 0 0 3 := ⟨rfl, rfl⟩
theorem r_X10_counsel_3 : RW M_X10_counsel 3 (.getfield 19) 3 10 1 6 := ⟨rfl, rfl⟩
theorem r_X10_counsel_6 : RW M_X10_counsel 6 (.getfield 185) 3 1 13 9 := ⟨rfl, rfl⟩
theorem r_X10_counsel_9 : RW M_X10_counsel 9 (.invokevirtual 210) 3 160 0 12 := ⟨rfl, rfl⟩
theorem r_X10_counsel_12 : RW M_X10_counsel 12 (.aload_n 0) 1 0 0 13 := ⟨rfl, rfl⟩
theorem r_X10_counsel_13 : RW M_X10_counsel 13 (.iload_n 2) 1 0 0 14 := ⟨rfl, rfl⟩
theorem r_X10_counsel_14 : RW M_X10_counsel 14 (.ifCond .eq 8) 3 22 0 17 := ⟨rfl, rfl⟩
theorem r_X10_counsel_17 : RW M_X10_counsel 17 (.iload_n 2) 1 0 0 18 := ⟨rfl, rfl⟩
theorem r_X10_counsel_18 : RW M_X10_counsel 18 (.iconst 1) 1 0 0 19 := ⟨rfl, rfl⟩
theorem r_X10_counsel_19 : RW M_X10_counsel 19 (.if_icmp .ne 7) 3 26 0 22 := ⟨rfl, rfl⟩
theorem r_X10_counsel_22 : RW M_X10_counsel 22 (.iconst 1) 1 0 0 23 := ⟨rfl, rfl⟩
theorem r_X10_counsel_23 : RW M_X10_counsel 23 (.goto 4) 3 27 0 26 := ⟨rfl, rfl⟩
theorem r_X10_counsel_26 : RW M_X10_counsel 26 (.iconst 0) 1 0 0 27 := ⟨rfl, rfl⟩
theorem r_X10_counsel_27 : RW M_X10_counsel 27 (.invokevirtual 175) 3 159 0 30 := ⟨rfl, rfl⟩
theorem r_X10_counsel_30 : RW M_X10_counsel 30 (.iload_n 2) 1 0 0 31 := ⟨rfl, rfl⟩
theorem r_X10_counsel_31 : RW M_X10_counsel 31 (.ifCond .ne 17) 3 48 0 34 := ⟨rfl, rfl⟩
theorem r_X10_counsel_34 : RW M_X10_counsel 34 (.aload_n 0) 1 0 0 35 := ⟨rfl, rfl⟩
theorem r_X10_counsel_35 : RW M_X10_counsel 35 (.getfield 58) 3 10 8 38 := ⟨rfl, rfl⟩
theorem r_X10_counsel_38 : RW M_X10_counsel 38 (.getfield 250) 3 2 6 41 := ⟨rfl, rfl⟩
theorem r_X10_counsel_41 : RW M_X10_counsel 41 (.iload_n 1) 1 0 0 42 := ⟨rfl, rfl⟩
theorem r_X10_counsel_42 : RW M_X10_counsel 42 (.invokevirtual 217) 3 92 0 45 := ⟨rfl, rfl⟩
theorem r_X10_counsel_45 : RW M_X10_counsel 45 (.goto 14) 3 59 0 48 := ⟨rfl, rfl⟩
theorem r_X10_counsel_48 : RW M_X10_counsel 48 (.aload_n 0) 1 0 0 49 := ⟨rfl, rfl⟩
theorem r_X10_counsel_49 : RW M_X10_counsel 49 (.getfield 19) 3 10 1 52 := ⟨rfl, rfl⟩
theorem r_X10_counsel_52 : RW M_X10_counsel 52 (.getfield 253) 3 1 9 55 := ⟨rfl, rfl⟩
theorem r_X10_counsel_55 : RW M_X10_counsel 55 (.iload_n 1) 1 0 0 56 := ⟨rfl, rfl⟩
theorem r_X10_counsel_56 : RW M_X10_counsel 56 (.invokevirtual 217) 3 92 0 59 := ⟨rfl, rfl⟩
theorem r_X10_counsel_59 : RW M_X10_counsel 59 (.ireturn) 1 0 0 60 := ⟨rfl, rfl⟩
theorem r_X10_count_0 : RW M_X10_count 0 (.iload_n 1) 1 0 0 1 := ⟨rfl, rfl⟩
theorem r_X10_count_1 : RW M_X10_count 1 (.tableswitch 51 0 2 #[27, 35, 43]) 27 0 0 28 := ⟨rfl, rfl⟩
theorem r_X10_count_28 : RW M_X10_count 28 (.aload_n 0) 1 0 0 29 := ⟨rfl, rfl⟩
theorem r_X10_count_29 : RW M_X10_count 29 (.getfield 65) 3 10 9 32 := ⟨rfl, rfl⟩
theorem r_X10_count_32 : RW M_X10_count 32 (.getfield 367) 3 4 4 35 := ⟨rfl, rfl⟩
theorem r_X10_count_35 : RW M_X10_count 35 (.ireturn) 1 0 0 36 := ⟨rfl, rfl⟩
theorem r_X10_count_36 : RW M_X10_count 36 (.aload_n 0) 1 0 0 37 := ⟨rfl, rfl⟩
theorem r_X10_count_37 : RW M_X10_count 37 (.getfield 10) 3 10 0 40 := ⟨rfl, rfl⟩
theorem r_X10_count_40 : RW M_X10_count 40 (.getfield 87) 3 6 1 43 := ⟨rfl, rfl⟩
theorem r_X10_count_43 : RW M_X10_count 43 (.ireturn) 1 0 0 44 := ⟨rfl, rfl⟩
theorem r_X10_count_44 : RW M_X10_count 44 (.aload_n 0) 1 0 0 45 := ⟨rfl, rfl⟩
theorem r_X10_count_45 : RW M_X10_count 45 (.getfield 65) 3 10 9 48 := ⟨rfl, rfl⟩
theorem r_X10_count_48 : RW M_X10_count 48 (.getfield 131) 3 4 3 51 := ⟨rfl, rfl⟩
theorem r_X10_count_51 : RW M_X10_count 51 (.ireturn) 1 0 0 52 := ⟨rfl, rfl⟩
theorem r_X10_delay_0 : RW M_X10_delay 0 (.aload_n 0) 1 0 0 1 := ⟨rfl, rfl⟩
theorem r_X10_delay_1 : RW M_X10_delay 1 (.iload_n 1) 1 0 0 2 := ⟨rfl, rfl⟩
theorem r_X10_delay_2 : RW M_X10_delay 2 (.aload_n 0) 1 0 0 3 := ⟨rfl, rfl⟩
theorem r_X10_delay_3 : RW M_X10_delay 3 (.getfield 19) 3 10 1 6 := ⟨rfl, rfl⟩
theorem r_X10_delay_6 : RW M_X10_delay 6 (.getfield 121) 3 1 10 9 := ⟨rfl, rfl⟩
theorem r_X10_delay_9 : RW M_X10_delay 9 (.invokevirtual 210) 3 160 0 12 := ⟨rfl, rfl⟩
theorem r_X10_delay_12 : RW M_X10_delay 12 (.iconst 0) 1 0 0 13 := ⟨rfl, rfl⟩
theorem r_X10_delay_13 : RW M_X10_delay 13 (.istore_n 2) 1 0 0 14 := ⟨rfl, rfl⟩
theorem r_X10_delay_14 : RW M_X10_delay 14 (.iload_n 2) 1 0 0 15 := ⟨rfl, rfl⟩
theorem r_X10_delay_15 : RW M_X10_delay 15 (.bipush 9) 2 0 0 17 := ⟨rfl, rfl⟩
theorem r_X10_delay_17 : RW M_X10_delay 17 (.if_icmp .gt 40) 3 57 0 20 := ⟨rfl, rfl⟩
theorem r_X10_delay_20 : RW M_X10_delay 20 (.aload_n 0) 1 0 0 21 := ⟨rfl, rfl⟩
theorem r_X10_delay_21 : RW M_X10_delay 21 (.getfield 58) 3 10 8 24 := ⟨rfl, rfl⟩
theorem r_X10_delay_24 : RW M_X10_delay 24 (.sipush 400) 3 0 0 27 := ⟨rfl, rfl⟩
theorem r_X10_delay_27 : RW M_X10_delay 27 (.aload_n 0) 1 0 0 28 := ⟨rfl, rfl⟩
theorem r_X10_delay_28 : RW M_X10_delay 28 (.getfield 58) 3 10 8 31 := ⟨rfl, rfl⟩
theorem r_X10_delay_31 : RW M_X10_delay 31 (.getfield 213) 3 2 2 34 := ⟨rfl, rfl⟩
theorem r_X10_delay_34 : RW M_X10_delay 34 (.iload_n 1) 1 0 0 35 := ⟨rfl, rfl⟩
theorem r_X10_delay_35 : RW M_X10_delay 35 (.invokevirtual 217) 3 92 0 38 := ⟨rfl, rfl⟩
theorem r_X10_delay_38 : RW M_X10_delay 38 (.iload_n 2) 1 0 0 39 := ⟨rfl, rfl⟩
theorem r_X10_delay_39 : RW M_X10_delay 39 (.iadd) 1 0 0 40 := ⟨rfl, rfl⟩
theorem r_X10_delay_40 : RW M_X10_delay 40 (.invokestatic 319) 3 900 0 43 := ⟨rfl, rfl⟩
theorem r_X10_delay_43 : RW M_X10_delay 43 (.invokevirtual 204) 3 34 0 46 := ⟨rfl, rfl⟩
theorem r_X10_delay_46 : RW M_X10_delay 46 (.ifCond .ne 5) 3 51 0 49 := ⟨rfl, rfl⟩
theorem r_X10_delay_49 : RW M_X10_delay 49 (.iload_n 2) 1 0 0 50 := ⟨rfl, rfl⟩
theorem r_X10_delay_50 : RW M_X10_delay 50 (.ireturn) 1 0 0 51 := ⟨rfl, rfl⟩
theorem r_X10_delay_51 : RW M_X10_delay 51 (.iinc 2 1) 3 0 0 54 := ⟨rfl, rfl⟩
theorem r_X10_delay_54 : RW M_X10_delay 54 (.goto (-40)) 3 14 0 57 := ⟨rfl, rfl⟩
theorem r_X10_delay_57 : RW M_X10_delay 57 (.iconst (-1)) 1 0 0 58 := ⟨rfl, rfl⟩
theorem r_X10_delay_58 : RW M_X10_delay 58 (.ireturn) 1 0 0 59 := ⟨rfl, rfl⟩
theorem r_X10_fault_0 : RW M_X10_fault 0 (.aload_n 0) 1 0 0 1 := ⟨rfl, rfl⟩
theorem r_X10_fault_1 : RW M_X10_fault 1 (.getfield 10) 3 10 0 4 := ⟨rfl, rfl⟩
theorem r_X10_fault_4 : RW M_X10_fault 4 (.getfield 169) 3 6 8 7 := ⟨rfl, rfl⟩
theorem r_X10_fault_7 : RW M_X10_fault 7 (.ireturn) 1 0 0 8 := ⟨rfl, rfl⟩
theorem r_X10_leaders_0 : RW M_X10_leaders 0 (.aload_n 0) 1 0 0 1 := ⟨rfl, rfl⟩
theorem r_X10_leaders_1 : RW M_X10_leaders 1 (.iload_n 1) 1 0 0 2 := ⟨rfl, rfl⟩
theorem r_X10_leaders_2 : RW M_X10_leaders 2 (.aload_n 0) 1 0 0 3 := ⟨rfl, rfl⟩
theorem r_X10_leaders_3 : RW M_X10_leaders 3 (.getfield 19) 3 10 1 6 := ⟨rfl, rfl⟩
theorem r_X10_leaders_6 : RW M_X10_leaders 6 (.getfield 182) 3 1 12 9 := ⟨rfl, rfl⟩
theorem r_X10_leaders_9 : RW M_X10_leaders 9 (.invokevirtual 210) 3 160 0 12 := ⟨rfl, rfl⟩
theorem r_X10_leaders_12 : RW M_X10_leaders 12 (.aload_n 0) 1 0 0 13 := ⟨rfl, rfl⟩
theorem r_X10_leaders_13 : RW M_X10_leaders 13 (.iload_n 2) 1 0 0 14 := ⟨rfl, rfl⟩
theorem r_X10_leaders_14 : RW M_X10_leaders 14 (.iconst 1) 1 0 0 15 := ⟨rfl, rfl⟩
theorem r_X10_leaders_15 : RW M_X10_leaders 15 (.if_icmp .lt 13) 3 28 0 18 := ⟨rfl, rfl⟩
theorem r_X10_leaders_18 : RW M_X10_leaders 18 (.iload_n 2) 1 0 0 19 := ⟨rfl, rfl⟩
theorem r_X10_leaders_19 : RW M_X10_leaders 19 (.bipush 9) 2 0 0 21 := ⟨rfl, rfl⟩
theorem r_X10_leaders_21 : RW M_X10_leaders 21 (.if_icmp .gt 7) 3 28 0 24 := ⟨rfl, rfl⟩
theorem r_X10_leaders_24 : RW M_X10_leaders 24 (.iconst 1) 1 0 0 25 := ⟨rfl, rfl⟩
theorem r_X10_leaders_25 : RW M_X10_leaders 25 (.goto 4) 3 29 0 28 := ⟨rfl, rfl⟩
theorem r_X10_leaders_28 : RW M_X10_leaders 28 (.iconst 0) 1 0 0 29 := ⟨rfl, rfl⟩
theorem r_X10_leaders_29 : RW M_X10_leaders 29 (.invokevirtual 175) 3 159 0 32 := ⟨rfl, rfl⟩
theorem r_X10_leaders_32 : RW M_X10_leaders 32 (.iconst 0) 1 0 0 33 := ⟨rfl, rfl⟩
theorem r_X10_leaders_33 : RW M_X10_leaders 33 (.istore_n 3) 1 0 0 34 := ⟨rfl, rfl⟩
theorem r_X10_leaders_34 : RW M_X10_leaders 34 (.iconst 0) 1 0 0 35 := ⟨rfl, rfl⟩
theorem r_X10_leaders_35 : RW M_X10_leaders 35 (.istore 4) 2 0 0 37 := ⟨rfl, rfl⟩
theorem r_X10_leaders_37 : RW M_X10_leaders 37 (.iload 4) 2 0 0 39 := ⟨rfl, rfl⟩
theorem r_X10_leaders_39 : RW M_X10_leaders 39 (.aload_n 0) 1 0 0 40 := ⟨rfl, rfl⟩
theorem r_X10_leaders_40 : RW M_X10_leaders 40 (.getfield 19) 3 10 1 43 := ⟨rfl, rfl⟩
theorem r_X10_leaders_43 : RW M_X10_leaders 43 (.getfield 185) 3 1 13 46 := ⟨rfl, rfl⟩
theorem r_X10_leaders_46 : RW M_X10_leaders 46 (.if_icmp .ge 31) 3 77 0 49 := ⟨rfl, rfl⟩
theorem r_X10_leaders_49 : RW M_X10_leaders 49 (.aload_n 0) 1 0 0 50 := ⟨rfl, rfl⟩
theorem r_X10_leaders_50 : RW M_X10_leaders 50 (.getfield 58) 3 10 8 53 := ⟨rfl, rfl⟩
theorem r_X10_leaders_53 : RW M_X10_leaders 53 (.iload 4) 2 0 0 55 := ⟨rfl, rfl⟩
theorem r_X10_leaders_55 : RW M_X10_leaders 55 (.iload_n 1) 1 0 0 56 := ⟨rfl, rfl⟩
theorem r_X10_leaders_56 : RW M_X10_leaders 56 (.iload_n 2) 1 0 0 57 := ⟨rfl, rfl⟩
theorem r_X10_leaders_57 : RW M_X10_leaders 57 (.invokevirtual 342) 3 41 0 60 := ⟨rfl, rfl⟩
theorem r_X10_leaders_60 : RW M_X10_leaders 60 (.ifCond .eq 11) 3 71 0 63 := ⟨rfl, rfl⟩
theorem r_X10_leaders_63 : RW M_X10_leaders 63 (.iload_n 3) 1 0 0 64 := ⟨rfl, rfl⟩
theorem r_X10_leaders_64 : RW M_X10_leaders 64 (.iload 4) 2 0 0 66 := ⟨rfl, rfl⟩
theorem r_X10_leaders_66 : RW M_X10_leaders 66 (.invokestatic 346) 3 162 0 69 := ⟨rfl, rfl⟩
theorem r_X10_leaders_69 : RW M_X10_leaders 69 (.ior) 1 0 0 70 := ⟨rfl, rfl⟩
theorem r_X10_leaders_70 : RW M_X10_leaders 70 (.istore_n 3) 1 0 0 71 := ⟨rfl, rfl⟩
theorem r_X10_leaders_71 : RW M_X10_leaders 71 (.iinc 4 1) 3 0 0 74 := ⟨rfl, rfl⟩
theorem r_X10_leaders_74 : RW M_X10_leaders 74 (.goto (-37)) 3 37 0 77 := ⟨rfl, rfl⟩
theorem r_X10_leaders_77 : RW M_X10_leaders 77 (.iload_n 3) 1 0 0 78 := ⟨rfl, rfl⟩
theorem r_X10_leaders_78 : RW M_X10_leaders 78 (.ireturn) 1 0 0 79 := ⟨rfl, rfl⟩
theorem r_X10_loss_0 : RW M_X10_loss 0 (.aload_n 0) 1 0 0 1 := ⟨rfl, rfl⟩
theorem r_X10_loss_1 : RW M_X10_loss 1 (.iload_n 1) 1 0 0 2 := ⟨rfl, rfl⟩
theorem r_X10_loss_2 : RW M_X10_loss 2 (.ifCond .eq 8) 3 10 0 5 := ⟨rfl, rfl⟩
theorem r_X10_loss_5 : RW M_X10_loss 5 (.iload_n 1) 1 0 0 6 := ⟨rfl, rfl⟩
theorem r_X10_loss_6 : RW M_X10_loss 6 (.iconst 1) 1 0 0 7 := ⟨rfl, rfl⟩
theorem r_X10_loss_7 : RW M_X10_loss 7 (.if_icmp .ne 7) 3 14 0 10 := ⟨rfl, rfl⟩
theorem r_X10_loss_10 : RW M_X10_loss 10 (.iconst 1) 1 0 0 11 := ⟨rfl, rfl⟩
theorem r_X10_loss_11 : RW M_X10_loss 11 (.goto 4) 3 15 0 14 := ⟨rfl, rfl⟩
theorem r_X10_loss_14 : RW M_X10_loss 14 (.iconst 0) 1 0 0 15 := ⟨rfl, rfl⟩
theorem r_X10_loss_15 : RW M_X10_loss 15 (.invokevirtual 175) 3 159 0 18 := ⟨rfl, rfl⟩
theorem r_X10_loss_18 : RW M_X10_loss 18 (.aload_n 0) 1 0 0 19 := ⟨rfl, rfl⟩
theorem r_X10_loss_19 : RW M_X10_loss 19 (.aload_n 0) 1 0 0 20 := ⟨rfl, rfl⟩
theorem r_X10_loss_20 : RW M_X10_loss 20 (.getfield 19) 3 10 1 23 := ⟨rfl, rfl⟩
theorem r_X10_loss_23 : RW M_X10_loss 23 (.aload_n 0) 1 0 0 24 := ⟨rfl, rfl⟩
theorem r_X10_loss_24 : RW M_X10_loss 24 (.getfield 19) 3 10 1 27 := ⟨rfl, rfl⟩
theorem r_X10_loss_27 : RW M_X10_loss 27 (.invokevirtual 324) 3 14 0 30 := ⟨rfl, rfl⟩
theorem r_X10_loss_30 : RW M_X10_loss 30 (.aload_n 0) 1 0 0 31 := ⟨rfl, rfl⟩
theorem r_X10_loss_31 : RW M_X10_loss 31 (.getfield 58) 3 10 8 34 := ⟨rfl, rfl⟩
theorem r_X10_loss_34 : RW M_X10_loss 34 (.invokevirtual 191) 3 36 0 37 := ⟨rfl, rfl⟩
theorem r_X10_loss_37 : RW M_X10_loss 37 (.iconst (-1)) 1 0 0 38 := ⟨rfl, rfl⟩
theorem r_X10_loss_38 : RW M_X10_loss 38 (.ixor) 1 0 0 39 := ⟨rfl, rfl⟩
theorem r_X10_loss_39 : RW M_X10_loss 39 (.iand) 1 0 0 40 := ⟨rfl, rfl⟩
theorem r_X10_loss_40 : RW M_X10_loss 40 (.invokevirtual 327) 3 18 0 43 := ⟨rfl, rfl⟩
theorem r_X10_loss_43 : RW M_X10_loss 43 (.iload_n 1) 1 0 0 44 := ⟨rfl, rfl⟩
theorem r_X10_loss_44 : RW M_X10_loss 44 (.invokevirtual 330) 3 161 0 47 := ⟨rfl, rfl⟩
theorem r_X10_loss_47 : RW M_X10_loss 47 (.ireturn) 1 0 0 48 := ⟨rfl, rfl⟩
theorem r_X10_next_0 : RW M_X10_next 0 (.aload_n 0) 1 0 0 1 := ⟨rfl, rfl⟩
theorem r_X10_next_1 : RW M_X10_next 1 (.iload_n 1) 1 0 0 2 := ⟨rfl, rfl⟩
theorem r_X10_next_2 : RW M_X10_next 2 (.ifCond .eq 8) 3 10 0 5 := ⟨rfl, rfl⟩
theorem r_X10_next_5 : RW M_X10_next 5 (.iload_n 1) 1 0 0 6 := ⟨rfl, rfl⟩
theorem r_X10_next_6 : RW M_X10_next 6 (.iconst 1) 1 0 0 7 := ⟨rfl, rfl⟩
theorem r_X10_next_7 : RW M_X10_next 7 (.if_icmp .ne 7) 3 14 0 10 := ⟨rfl, rfl⟩
theorem r_X10_next_10 : RW M_X10_next 10 (.iconst 1) 1 0 0 11 := ⟨rfl, rfl⟩
theorem r_X10_next_11 : RW M_X10_next 11 (.goto 4) 3 15 0 14 := ⟨rfl, rfl⟩
theorem r_X10_next_14 : RW M_X10_next 14 (.iconst 0) 1 0 0 15 := ⟨rfl, rfl⟩
theorem r_X10_next_15 : RW M_X10_next 15 (.invokevirtual 175) 3 159 0 18 := ⟨rfl, rfl⟩
theorem r_X10_next_18 : RW M_X10_next 18 (.aload_n 0) 1 0 0 19 := ⟨rfl, rfl⟩
theorem r_X10_next_19 : RW M_X10_next 19 (.getfield 58) 3 10 8 22 := ⟨rfl, rfl⟩
theorem r_X10_next_22 : RW M_X10_next 22 (.invokevirtual 333) 3 39 0 25 := ⟨rfl, rfl⟩
theorem r_X10_next_25 : RW M_X10_next 25 (.istore_n 2) 1 0 0 26 := ⟨rfl, rfl⟩
theorem r_X10_next_26 : RW M_X10_next 26 (.iload_n 1) 1 0 0 27 := ⟨rfl, rfl⟩
theorem r_X10_next_27 : RW M_X10_next 27 (.ifCond .eq 8) 3 35 0 30 := ⟨rfl, rfl⟩
theorem r_X10_next_30 : RW M_X10_next 30 (.iload_n 2) 1 0 0 31 := ⟨rfl, rfl⟩
theorem r_X10_next_31 : RW M_X10_next 31 (.iconst (-1)) 1 0 0 32 := ⟨rfl, rfl⟩
theorem r_X10_next_32 : RW M_X10_next 32 (.if_icmp .ne 7) 3 39 0 35 := ⟨rfl, rfl⟩
theorem r_X10_next_35 : RW M_X10_next 35 (.iload_n 2) 1 0 0 36 := ⟨rfl, rfl⟩
theorem r_X10_next_36 : RW M_X10_next 36 (.goto 14) 3 50 0 39 := ⟨rfl, rfl⟩
theorem r_X10_next_39 : RW M_X10_next 39 (.aload_n 0) 1 0 0 40 := ⟨rfl, rfl⟩
theorem r_X10_next_40 : RW M_X10_next 40 (.getfield 58) 3 10 8 43 := ⟨rfl, rfl⟩
theorem r_X10_next_43 : RW M_X10_next 43 (.getfield 213) 3 2 2 46 := ⟨rfl, rfl⟩
theorem r_X10_next_46 : RW M_X10_next 46 (.iload_n 2) 1 0 0 47 := ⟨rfl, rfl⟩
theorem r_X10_next_47 : RW M_X10_next 47 (.invokevirtual 217) 3 92 0 50 := ⟨rfl, rfl⟩
theorem r_X10_next_50 : RW M_X10_next 50 (.ireturn) 1 0 0 51 := ⟨rfl, rfl⟩
theorem r_X10_over_0 : RW M_X10_over 0 (.aload_n 0) 1 0 0 1 := ⟨rfl, rfl⟩
theorem r_X10_over_1 : RW M_X10_over 1 (.iload_n 1) 1 0 0 2 := ⟨rfl, rfl⟩
theorem r_X10_over_2 : RW M_X10_over 2 (.aload_n 0) 1 0 0 3 := ⟨rfl, rfl⟩
theorem r_X10_over_3 : RW M_X10_over 3 (.getfield 19) 3 10 1 6 := ⟨rfl, rfl⟩
theorem r_X10_over_6 : RW M_X10_over 6 (.getfield 182) 3 1 12 9 := ⟨rfl, rfl⟩
theorem r_X10_over_9 : RW M_X10_over 9 (.invokevirtual 210) 3 160 0 12 := ⟨rfl, rfl⟩
theorem r_X10_over_12 : RW M_X10_over 12 (.aload_n 0) 1 0 0 13 := ⟨rfl, rfl⟩
theorem r_X10_over_13 : RW M_X10_over 13 (.getfield 58) 3 10 8 16 := ⟨rfl, rfl⟩
theorem r_X10_over_16 : RW M_X10_over 16 (.aload_n 0) 1 0 0 17 := ⟨rfl, rfl⟩
theorem r_X10_over_17 : RW M_X10_over 17 (.getfield 58) 3 10 8 20 := ⟨rfl, rfl⟩
theorem r_X10_over_20 : RW M_X10_over 20 (.getfield 235) 3 2 3 23 := ⟨rfl, rfl⟩
theorem r_X10_over_23 : RW M_X10_over 23 (.iload_n 1) 1 0 0 24 := ⟨rfl, rfl⟩
theorem r_X10_over_24 : RW M_X10_over 24 (.invokevirtual 217) 3 92 0 27 := ⟨rfl, rfl⟩
theorem r_X10_over_27 : RW M_X10_over 27 (.aload_n 0) 1 0 0 28 := ⟨rfl, rfl⟩
theorem r_X10_over_28 : RW M_X10_over 28 (.getfield 58) 3 10 8 31 := ⟨rfl, rfl⟩
theorem r_X10_over_31 : RW M_X10_over 31 (.iload_n 1) 1 0 0 32 := ⟨rfl, rfl⟩
theorem r_X10_over_32 : RW M_X10_over 32 (.invokevirtual 247) 3 33 0 35 := ⟨rfl, rfl⟩
theorem r_X10_over_35 : RW M_X10_over 35 (.invokevirtual 260) 3 37 0 38 := ⟨rfl, rfl⟩
theorem r_X10_over_38 : RW M_X10_over 38 (.ireturn) 1 0 0 39 := ⟨rfl, rfl⟩
theorem r_X10_pairs_0 : RW M_X10_pairs 0 (.iconst 0) 1 0 0 1 := ⟨rfl, rfl⟩
theorem r_X10_pairs_1 : RW M_X10_pairs 1 (.istore_n 1) 1 0 0 2 := ⟨rfl, rfl⟩
theorem r_X10_pairs_2 : RW M_X10_pairs 2 (.iconst 0) 1 0 0 3 := ⟨rfl, rfl⟩
theorem r_X10_pairs_3 : RW M_X10_pairs 3 (.istore_n 2) 1 0 0 4 := ⟨rfl, rfl⟩
theorem r_X10_pairs_4 : RW M_X10_pairs 4 (.iload_n 2) 1 0 3 5 := ⟨rfl, rfl⟩
theorem r_X10_pairs_5 : RW M_X10_pairs 5 (.aload_n 0) 1 0 0 6 := ⟨rfl, rfl⟩
theorem r_X10_pairs_6 : RW M_X10_pairs 6 (.getfield 19) 3 10 1 9 := ⟨rfl, rfl⟩
theorem r_X10_pairs_9 : RW M_X10_pairs 9 (.getfield 182) 3 1 12 12 := ⟨rfl, rfl⟩
theorem r_X10_pairs_12 : RW M_X10_pairs 12 (.if_icmp .ge 69) 3 81 0 15 := ⟨rfl, rfl⟩
theorem r_X10_pairs_15 : RW M_X10_pairs 15 (.iconst 0) 1 0 0 16 := ⟨rfl, rfl⟩
theorem r_X10_pairs_16 : RW M_X10_pairs 16 (.istore_n 3) 1 0 0 17 := ⟨rfl, rfl⟩
theorem r_X10_pairs_17 : RW M_X10_pairs 17 (.iload_n 3) 1 0 0 18 := ⟨rfl, rfl⟩
theorem r_X10_pairs_18 : RW M_X10_pairs 18 (.iload_n 2) 1 0 0 19 := ⟨rfl, rfl⟩
theorem r_X10_pairs_19 : RW M_X10_pairs 19 (.if_icmp .ge 56) 3 75 0 22 := ⟨rfl, rfl⟩
theorem r_X10_pairs_22 : RW M_X10_pairs 22 (.aload_n 0) 1 0 0 23 := ⟨rfl, rfl⟩
theorem r_X10_pairs_23 : RW M_X10_pairs 23 (.getfield 58) 3 10 8 26 := ⟨rfl, rfl⟩
theorem r_X10_pairs_26 : RW M_X10_pairs 26 (.getfield 235) 3 2 3 29 := ⟨rfl, rfl⟩
theorem r_X10_pairs_29 : RW M_X10_pairs 29 (.iload_n 2) 1 0 0 30 := ⟨rfl, rfl⟩
theorem r_X10_pairs_30 : RW M_X10_pairs 30 (.invokevirtual 217) 3 92 0 33 := ⟨rfl, rfl⟩
theorem r_X10_pairs_33 : RW M_X10_pairs 33 (.aload_n 0) 1 0 0 34 := ⟨rfl, rfl⟩
theorem r_X10_pairs_34 : RW M_X10_pairs 34 (.getfield 58) 3 10 8 37 := ⟨rfl, rfl⟩
theorem r_X10_pairs_37 : RW M_X10_pairs 37 (.iload_n 3) 1 0 0 38 := ⟨rfl, rfl⟩
theorem r_X10_pairs_38 : RW M_X10_pairs 38 (.invokevirtual 247) 3 33 0 41 := ⟨rfl, rfl⟩
theorem r_X10_pairs_41 : RW M_X10_pairs 41 (.if_icmp .gt 28) 3 69 0 44 := ⟨rfl, rfl⟩
theorem r_X10_pairs_44 : RW M_X10_pairs 44 (.aload_n 0) 1 0 0 45 := ⟨rfl, rfl⟩
theorem r_X10_pairs_45 : RW M_X10_pairs 45 (.getfield 58) 3 10 8 48 := ⟨rfl, rfl⟩
theorem r_X10_pairs_48 : RW M_X10_pairs 48 (.getfield 235) 3 2 3 51 := ⟨rfl, rfl⟩
theorem r_X10_pairs_51 : RW M_X10_pairs 51 (.iload_n 3) 1 0 0 52 := ⟨rfl, rfl⟩
theorem r_X10_pairs_52 : RW M_X10_pairs 52 (.invokevirtual 217) 3 92 0 55 := ⟨rfl, rfl⟩
theorem r_X10_pairs_55 : RW M_X10_pairs 55 (.aload_n 0) 1 0 0 56 := ⟨rfl, rfl⟩
theorem r_X10_pairs_56 : RW M_X10_pairs 56 (.getfield 58) 3 10 8 59 := ⟨rfl, rfl⟩
theorem r_X10_pairs_59 : RW M_X10_pairs 59 (.iload_n 2) 1 0 0 60 := ⟨rfl, rfl⟩
theorem r_X10_pairs_60 : RW M_X10_pairs 60 (.invokevirtual 247) 3 33 0 63 := ⟨rfl, rfl⟩
theorem r_X10_pairs_63 : RW M_X10_pairs 63 (.if_icmp .gt 6) 3 69 0 66 := ⟨rfl, rfl⟩
theorem r_X10_pairs_66 : RW M_X10_pairs 66 (.iinc 1 1) 3 0 0 69 := ⟨rfl, rfl⟩
theorem r_X10_pairs_69 : RW M_X10_pairs 69 (.iinc 3 1) 3 0 0 72 := ⟨rfl, rfl⟩
theorem r_X10_pairs_72 : RW M_X10_pairs 72 (.goto (-55)) 3 17 0 75 := ⟨rfl, rfl⟩
theorem r_X10_pairs_75 : RW M_X10_pairs 75 (.iinc 2 1) 3 0 0 78 := ⟨rfl, rfl⟩
theorem r_X10_pairs_78 : RW M_X10_pairs 78 (.goto (-74)) 3 4 0 81 := ⟨rfl, rfl⟩
theorem r_X10_pairs_81 : RW M_X10_pairs 81 (.iload_n 1) 1 0 0 82 := ⟨rfl, rfl⟩
theorem r_X10_pairs_82 : RW M_X10_pairs 82 (.ireturn) 1 0 0 83 := ⟨rfl, rfl⟩
theorem r_X10_point_0 : RW M_X10_point 0 (.aload_n 0) 1 0 0 1 := ⟨rfl, rfl⟩
theorem r_X10_point_1 : RW M_X10_point 1 (.iload_n 1) 1 0 0 2 := ⟨rfl, rfl⟩
theorem r_X10_point_2 : RW M_X10_point 2 (.ifCond .eq 8) 3 10 0 5 := ⟨rfl, rfl⟩
theorem r_X10_point_5 : RW M_X10_point 5 (.iload_n 1) 1 0 0 6 := ⟨rfl, rfl⟩
theorem r_X10_point_6 : RW M_X10_point 6 (.iconst 1) 1 0 0 7 := ⟨rfl, rfl⟩
theorem r_X10_point_7 : RW M_X10_point 7 (.if_icmp .ne 16) 3 23 0 10 := ⟨rfl, rfl⟩
theorem r_X10_point_10 : RW M_X10_point 10 (.iload_n 2) 1 0 0 11 := ⟨rfl, rfl⟩
theorem r_X10_point_11 : RW M_X10_point 11 (.ifCond .eq 8) 3 19 0 14 := ⟨rfl, rfl⟩
theorem r_X10_point_14 : RW M_X10_point 14 (.iload_n 2) 1 0 0 15 := ⟨rfl, rfl⟩
theorem r_X10_point_15 : RW M_X10_point 15 (.iconst 1) 1 0 0 16 := ⟨rfl, rfl⟩
theorem r_X10_point_16 : RW M_X10_point 16 (.if_icmp .ne 7) 3 23 0 19 := ⟨rfl, rfl⟩
theorem r_X10_point_19 : RW M_X10_point 19 (.iconst 1) 1 0 0 20 := ⟨rfl, rfl⟩
theorem r_X10_point_20 : RW M_X10_point 20 (.goto 4) 3 24 0 23 := ⟨rfl, rfl⟩
theorem r_X10_point_23 : RW M_X10_point 23 (.iconst 0) 1 0 0 24 := ⟨rfl, rfl⟩
theorem r_X10_point_24 : RW M_X10_point 24 (.invokevirtual 175) 3 159 0 27 := ⟨rfl, rfl⟩
theorem r_X10_point_27 : RW M_X10_point 27 (.aload_n 0) 1 0 0 28 := ⟨rfl, rfl⟩
theorem r_X10_point_28 : RW M_X10_point 28 (.aload_n 0) 1 0 0 29 := ⟨rfl, rfl⟩
theorem r_X10_point_29 : RW M_X10_point 29 (.getfield 19) 3 10 1 32 := ⟨rfl, rfl⟩
theorem r_X10_point_32 : RW M_X10_point 32 (.aload_n 0) 1 0 0 33 := ⟨rfl, rfl⟩
theorem r_X10_point_33 : RW M_X10_point 33 (.getfield 19) 3 10 1 36 := ⟨rfl, rfl⟩
theorem r_X10_point_36 : RW M_X10_point 36 (.iload_n 1) 1 0 0 37 := ⟨rfl, rfl⟩
theorem r_X10_point_37 : RW M_X10_point 37 (.invokevirtual 336) 3 16 0 40 := ⟨rfl, rfl⟩
theorem r_X10_point_40 : RW M_X10_point 40 (.aload_n 0) 1 0 0 41 := ⟨rfl, rfl⟩
theorem r_X10_point_41 : RW M_X10_point 41 (.getfield 58) 3 10 8 44 := ⟨rfl, rfl⟩
theorem r_X10_point_44 : RW M_X10_point 44 (.aload_n 0) 1 0 0 45 := ⟨rfl, rfl⟩
theorem r_X10_point_45 : RW M_X10_point 45 (.getfield 58) 3 10 8 48 := ⟨rfl, rfl⟩
theorem r_X10_point_48 : RW M_X10_point 48 (.getfield 188) 3 2 7 51 := ⟨rfl, rfl⟩
theorem r_X10_point_51 : RW M_X10_point 51 (.invokevirtual 195) 3 38 0 54 := ⟨rfl, rfl⟩
theorem r_X10_point_54 : RW M_X10_point 54 (.iand) 1 0 0 55 := ⟨rfl, rfl⟩
theorem r_X10_point_55 : RW M_X10_point 55 (.invokevirtual 327) 3 18 0 58 := ⟨rfl, rfl⟩
theorem r_X10_point_58 : RW M_X10_point 58 (.iload_n 2) 1 0 0 59 := ⟨rfl, rfl⟩
theorem r_X10_point_59 : RW M_X10_point 59 (.invokevirtual 330) 3 161 0 62 := ⟨rfl, rfl⟩
theorem r_X10_point_62 : RW M_X10_point 62 (.ireturn) 1 0 0 63 := ⟨rfl, rfl⟩
theorem r_X10_proof_0 : RW M_X10_proof 0 (.aload_n 0) 1 0 0 1 := ⟨rfl, rfl⟩
theorem r_X10_proof_1 : RW M_X10_proof 1 (.iload_n 1) 1 0 0 2 := ⟨rfl, rfl⟩
theorem r_X10_proof_2 : RW M_X10_proof 2 (.aload_n 0) 1 0 0 3 := ⟨rfl, rfl⟩
theorem r_X10_proof_3 : RW M_X10_proof 3 (.getfield 19) 3 10 1 6 := ⟨rfl, rfl⟩
theorem r_X10_proof_6 : RW M_X10_proof 6 (.getfield 121) 3 1 10 9 := ⟨rfl, rfl⟩
theorem r_X10_proof_9 : RW M_X10_proof 9 (.invokevirtual 210) 3 160 0 12 := ⟨rfl, rfl⟩
theorem r_X10_purse_0 : RW M_X10_purse 0 (.aload_n 0) 1 0 0 1 := ⟨rfl, rfl⟩
theorem r_X10_purse_1 : RW M_X10_purse 1 (.iload_n 1) 1 0 0 2 := ⟨rfl, rfl⟩
theorem r_X10_purse_2 : RW M_X10_purse 2 (.aload_n 0) 1 0 0 3 := ⟨rfl, rfl⟩
theorem r_X10_purse_3 : RW M_X10_purse 3 (.getfield 19) 3 10 1 6 := ⟨rfl, rfl⟩
theorem r_X10_purse_6 : RW M_X10_purse 6 (.getfield 185) 3 1 13 9 := ⟨rfl, rfl⟩
theorem r_X10_purse_9 : RW M_X10_purse 9 (.invokevirtual 264) 3 158 0 12 := ⟨rfl, rfl⟩
theorem r_X10_purse_12 : RW M_X10_purse 12 (.aload_n 0) 1 0 0 13 := ⟨rfl, rfl⟩
theorem r_X10_purse_13 : RW M_X10_purse 13 (.getfield 58) 3 10 8 16 := ⟨rfl, rfl⟩
theorem r_X10_purse_16 : RW M_X10_purse 16 (.iload_n 1) 1 0 0 17 := ⟨rfl, rfl⟩
theorem r_X10_purse_17 : RW M_X10_purse 17 (.bipush 40) 2 0 0 19 := ⟨rfl, rfl⟩
theorem r_X10_purse_19 : RW M_X10_purse 19 (.invokevirtual 316) 3 32 0 22 := ⟨rfl, rfl⟩
theorem r_X10_purse_22 : RW M_X10_purse 22 (.ireturn) 1 0 0 23 := ⟨rfl, rfl⟩
theorem r_X10_sayingOrWeight_0 : RW M_X10_sayingOrWeight 0 (.iload_n 2) 1 0 0 1 := ⟨rfl, rfl⟩
theorem r_X10_sayingOrWeight_1 : RW M_X10_sayingOrWeight 1 (.ifCond .eq 8) 3 9 0 4 := ⟨rfl, rfl⟩
theorem r_X10_sayingOrWeight_4 : RW M_X10_sayingOrWeight 4 (.iload_n 1) 1 0 0 5 := ⟨rfl, rfl⟩
theorem r_X10_sayingOrWeight_5 : RW M_X10_sayingOrWeight 5 (.iconst (-1)) 1 0 0 6 := ⟨rfl, rfl⟩
theorem r_X10_sayingOrWeight_6 : RW M_X10_sayingOrWeight 6 (.if_icmp .ne 7) 3 13 0 9 := ⟨rfl, rfl⟩
theorem r_X10_sayingOrWeight_9 : RW M_X10_sayingOrWeight 9 (.iload_n 1) 1 0 0 10 := ⟨rfl, rfl⟩
theorem r_X10_sayingOrWeight_10 : RW M_X10_sayingOrWeight 10 (.goto 14) 3 24 0 13 := ⟨rfl, rfl⟩
theorem r_X10_sayingOrWeight_13 : RW M_X10_sayingOrWeight 13 (.aload_n 0) 1 0 0 14 := ⟨rfl, rfl⟩
theorem r_X10_sayingOrWeight_14 : RW M_X10_sayingOrWeight 14 (.getfield 19) 3 10 1 17 := ⟨rfl, rfl⟩
theorem r_X10_sayingOrWeight_17 : RW M_X10_sayingOrWeight 17 (.getfield 225) 3 1 2 20 := ⟨rfl, rfl⟩
theorem r_X10_sayingOrWeight_20 : RW M_X10_sayingOrWeight 20 (.iload_n 1) 1 0 0 21 := ⟨rfl, rfl⟩
theorem r_X10_sayingOrWeight_21 : RW M_X10_sayingOrWeight 21 (.invokevirtual 217) 3 92 0 24 := ⟨rfl, rfl⟩
theorem r_X10_sayingOrWeight_24 : RW M_X10_sayingOrWeight 24 (.ireturn) 1 0 0 25 := ⟨rfl, rfl⟩
theorem r_X10_side_0 : RW M_X10_side 0 (.aload_n 0) 1 0 0 1 := ⟨rfl, rfl⟩
theorem r_X10_side_1 : RW M_X10_side 1 (.iload_n 1) 1 0 0 2 := ⟨rfl, rfl⟩
theorem r_X10_side_2 : RW M_X10_side 2 (.ifCond .eq 8) 3 10 0 5 := ⟨rfl, rfl⟩
theorem r_X10_side_5 : RW M_X10_side 5 (.iload_n 1) 1 0 0 6 := ⟨rfl, rfl⟩
theorem r_X10_side_6 : RW M_X10_side 6 (.iconst 1) 1 0 0 7 := ⟨rfl, rfl⟩
theorem r_X10_side_7 : RW M_X10_side 7 (.if_icmp .ne 16) 3 23 0 10 := ⟨rfl, rfl⟩
theorem r_X10_side_10 : RW M_X10_side 10 (.iload_n 2) 1 0 0 11 := ⟨rfl, rfl⟩
theorem r_X10_side_11 : RW M_X10_side 11 (.ifCond .lt 12) 3 23 0 14 := ⟨rfl, rfl⟩
theorem r_X10_side_14 : RW M_X10_side 14 (.iload_n 2) 1 0 0 15 := ⟨rfl, rfl⟩
theorem r_X10_side_15 : RW M_X10_side 15 (.iconst 2) 1 0 0 16 := ⟨rfl, rfl⟩
theorem r_X10_side_16 : RW M_X10_side 16 (.if_icmp .gt 7) 3 23 0 19 := ⟨rfl, rfl⟩
theorem r_X10_side_19 : RW M_X10_side 19 (.iconst 1) 1 0 0 20 := ⟨rfl, rfl⟩
theorem r_X10_side_20 : RW M_X10_side 20 (.goto 4) 3 24 0 23 := ⟨rfl, rfl⟩
theorem r_X10_side_23 : RW M_X10_side 23 (.iconst 0) 1 0 0 24 := ⟨rfl, rfl⟩
theorem r_X10_side_24 : RW M_X10_side 24 (.invokevirtual 175) 3 159 0 27 := ⟨rfl, rfl⟩
theorem r_X10_side_27 : RW M_X10_side 27 (.aload_n 0) 1 0 0 28 := ⟨rfl, rfl⟩
theorem r_X10_side_28 : RW M_X10_side 28 (.getfield 19) 3 10 1 31 := ⟨rfl, rfl⟩
theorem r_X10_side_31 : RW M_X10_side 31 (.iload_n 1) 1 0 0 32 := ⟨rfl, rfl⟩
theorem r_X10_side_32 : RW M_X10_side 32 (.invokevirtual 336) 3 16 0 35 := ⟨rfl, rfl⟩
theorem r_X10_side_35 : RW M_X10_side 35 (.istore_n 3) 1 0 0 36 := ⟨rfl, rfl⟩
theorem r_X10_side_36 : RW M_X10_side 36 (.iload_n 2) 1 0 0 37 := ⟨rfl, rfl⟩
theorem r_X10_side_37 : RW M_X10_side 37 (.lookupswitch 68 #[(0, 27), (1, 51)]) 27 0 0 64 := ⟨rfl, rfl⟩
theorem r_X10_side_64 : RW M_X10_side 64 (.aload_n 0) 1 0 0 65 := ⟨rfl, rfl⟩
theorem r_X10_side_65 : RW M_X10_side 65 (.getfield 19) 3 10 1 68 := ⟨rfl, rfl⟩
theorem r_X10_side_68 : RW M_X10_side 68 (.iload_n 3) 1 0 0 69 := ⟨rfl, rfl⟩
theorem r_X10_side_69 : RW M_X10_side 69 (.aload_n 0) 1 0 0 70 := ⟨rfl, rfl⟩
theorem r_X10_side_70 : RW M_X10_side 70 (.getfield 58) 3 10 8 73 := ⟨rfl, rfl⟩
theorem r_X10_side_73 : RW M_X10_side 73 (.aload_n 0) 1 0 0 74 := ⟨rfl, rfl⟩
theorem r_X10_side_74 : RW M_X10_side 74 (.getfield 58) 3 10 8 77 := ⟨rfl, rfl⟩
theorem r_X10_side_77 : RW M_X10_side 77 (.getfield 188) 3 2 7 80 := ⟨rfl, rfl⟩
theorem r_X10_side_80 : RW M_X10_side 80 (.invokevirtual 195) 3 38 0 83 := ⟨rfl, rfl⟩
theorem r_X10_side_83 : RW M_X10_side 83 (.iand) 1 0 0 84 := ⟨rfl, rfl⟩
theorem r_X10_side_84 : RW M_X10_side 84 (.invokevirtual 339) 3 17 0 87 := ⟨rfl, rfl⟩
theorem r_X10_side_87 : RW M_X10_side 87 (.ireturn) 1 0 0 88 := ⟨rfl, rfl⟩
theorem r_X10_side_88 : RW M_X10_side 88 (.aload_n 0) 1 0 0 89 := ⟨rfl, rfl⟩
theorem r_X10_side_89 : RW M_X10_side 89 (.getfield 19) 3 10 1 92 := ⟨rfl, rfl⟩
theorem r_X10_side_92 : RW M_X10_side 92 (.iload_n 3) 1 0 0 93 := ⟨rfl, rfl⟩
theorem r_X10_side_93 : RW M_X10_side 93 (.aload_n 0) 1 0 0 94 := ⟨rfl, rfl⟩
theorem r_X10_side_94 : RW M_X10_side 94 (.getfield 58) 3 10 8 97 := ⟨rfl, rfl⟩
theorem r_X10_side_97 : RW M_X10_side 97 (.getfield 201) 3 2 8 100 := ⟨rfl, rfl⟩
theorem r_X10_side_100 : RW M_X10_side 100 (.iand) 1 0 0 101 := ⟨rfl, rfl⟩
theorem r_X10_side_101 : RW M_X10_side 101 (.invokevirtual 339) 3 17 0 104 := ⟨rfl, rfl⟩
theorem r_X10_side_104 : RW M_X10_side 104 (.ireturn) 1 0 0 105 := ⟨rfl, rfl⟩
theorem r_X10_side_105 : RW M_X10_side 105 (.aload_n 0) 1 0 0 106 := ⟨rfl, rfl⟩
theorem r_X10_side_106 : RW M_X10_side 106 (.getfield 19) 3 10 1 109 := ⟨rfl, rfl⟩
theorem r_X10_side_109 : RW M_X10_side 109 (.iload_n 3) 1 0 0 110 := ⟨rfl, rfl⟩
theorem r_X10_side_110 : RW M_X10_side 110 (.invokevirtual 339) 3 17 0 113 := ⟨rfl, rfl⟩
theorem r_X10_side_113 : RW M_X10_side 113 (.ireturn) 1 0 0 114 := ⟨rfl, rfl⟩
theorem r_X10_status_0 : RW M_X10_status 0 (.iload_n 1) 1 0 0 1 := ⟨rfl, rfl⟩
theorem r_X10_status_1 : RW M_X10_status 1 (.ifCond .ne 10) 3 11 0 4 := ⟨rfl, rfl⟩
theorem r_X10_status_4 : RW M_X10_status 4 (.aload_n 0) 1 0 0 5 := ⟨rfl, rfl⟩
theorem r_X10_status_5 : RW M_X10_status 5 (.getfield 376) 3 10 13 8 := ⟨rfl, rfl⟩
theorem r_X10_status_8 : RW M_X10_status 8 (.goto 16) 3 24 0 11 := ⟨rfl, rfl⟩
theorem r_X10_status_11 : RW M_X10_status 11 (.iload_n 1) 1 0 0 12 := ⟨rfl, rfl⟩
theorem r_X10_status_12 : RW M_X10_status 12 (.iconst 1) 1 0 0 13 := ⟨rfl, rfl⟩
theorem r_X10_status_13 : RW M_X10_status 13 (.if_icmp .ne 10) 3 23 0 16 := ⟨rfl, rfl⟩
theorem r_X10_status_16 : RW M_X10_status 16 (.aload_n 0) 1 0 0 17 := ⟨rfl, rfl⟩
theorem r_X10_status_17 : RW M_X10_status 17 (.getfield 379) 3 10 14 20 := ⟨rfl, rfl⟩
theorem r_X10_status_20 : RW M_X10_status 20 (.goto 4) 3 24 0 23 := ⟨rfl, rfl⟩
theorem r_X10_status_23 : RW M_X10_status 23 (.iconst (-1)) 1 0 0 24 := ⟨rfl, rfl⟩
theorem r_X10_status_24 : RW M_X10_status 24 (.ireturn) 1 0 0 25 := ⟨rfl, rfl⟩
theorem r_X10_swing_0 : RW M_X10_swing 0 (.aload_n 0) 1 0 0 1 := ⟨rfl, rfl⟩
theorem r_X10_swing_1 : RW M_X10_swing 1 (.iload_n 1) 1 0 0 2 := ⟨rfl, rfl⟩
theorem r_X10_swing_2 : RW M_X10_swing 2 (.aload_n 0) 1 0 0 3 := ⟨rfl, rfl⟩
theorem r_X10_swing_3 : RW M_X10_swing 3 (.getfield 19) 3 10 1 6 := ⟨rfl, rfl⟩
theorem r_X10_swing_6 : RW M_X10_swing 6 (.getfield 121) 3 1 10 9 := ⟨rfl, rfl⟩
theorem r_X10_swing_9 : RW M_X10_swing 9 (.invokevirtual 210) 3 160 0 12 := ⟨rfl, rfl⟩
theorem r_X10_swing_12 : RW M_X10_swing 12 (.aload_n 0) 1 0 0 13 := ⟨rfl, rfl⟩
theorem r_X10_swing_13 : RW M_X10_swing 13 (.getfield 19) 3 10 1 16 := ⟨rfl, rfl⟩
theorem r_X10_swing_16 : RW M_X10_swing 16 (.aload_n 0) 1 0 0 17 := ⟨rfl, rfl⟩
theorem r_X10_swing_17 : RW M_X10_swing 17 (.getfield 58) 3 10 8 20 := ⟨rfl, rfl⟩
theorem r_X10_swing_20 : RW M_X10_swing 20 (.aload_n 0) 1 0 0 21 := ⟨rfl, rfl⟩
theorem r_X10_swing_21 : RW M_X10_swing 21 (.getfield 58) 3 10 8 24 := ⟨rfl, rfl⟩
theorem r_X10_swing_24 : RW M_X10_swing 24 (.getfield 188) 3 2 7 27 := ⟨rfl, rfl⟩
theorem r_X10_swing_27 : RW M_X10_swing 27 (.invokevirtual 195) 3 38 0 30 := ⟨rfl, rfl⟩
theorem r_X10_swing_30 : RW M_X10_swing 30 (.iload_n 1) 1 0 0 31 := ⟨rfl, rfl⟩
theorem r_X10_swing_31 : RW M_X10_swing 31 (.invokestatic 346) 3 162 0 34 := ⟨rfl, rfl⟩
theorem r_X10_swing_34 : RW M_X10_swing 34 (.ixor) 1 0 0 35 := ⟨rfl, rfl⟩
theorem r_X10_swing_35 : RW M_X10_swing 35 (.invokevirtual 207) 3 22 0 38 := ⟨rfl, rfl⟩
theorem r_X10_swing_38 : RW M_X10_swing 38 (.ireturn) 1 0 0 39 := ⟨rfl, rfl⟩
theorem r_X10_used_0 : RW M_X10_used 0 (.aload_n 0) 1 0 0 1 := ⟨rfl, rfl⟩
theorem r_X10_used_1 : RW M_X10_used 1 (.getfield 19) 3 10 1 4 := ⟨rfl, rfl⟩
theorem r_X10_used_4 : RW M_X10_used 4 (.aload_n 0) 1 0 0 5 := ⟨rfl, rfl⟩
theorem r_X10_used_5 : RW M_X10_used 5 (.getfield 19) 3 10 1 8 := ⟨rfl, rfl⟩
theorem r_X10_used_8 : RW M_X10_used 8 (.aload_n 0) 1 0 0 9 := ⟨rfl, rfl⟩
theorem r_X10_used_9 : RW M_X10_used 9 (.getfield 58) 3 10 8 12 := ⟨rfl, rfl⟩
theorem r_X10_used_12 : RW M_X10_used 12 (.aload_n 0) 1 0 0 13 := ⟨rfl, rfl⟩
theorem r_X10_used_13 : RW M_X10_used 13 (.getfield 58) 3 10 8 16 := ⟨rfl, rfl⟩
theorem r_X10_used_16 : RW M_X10_used 16 (.getfield 188) 3 2 7 19 := ⟨rfl, rfl⟩
theorem r_X10_used_19 : RW M_X10_used 19 (.invokevirtual 195) 3 38 0 22 := ⟨rfl, rfl⟩
theorem r_X10_used_22 : RW M_X10_used 22 (.invokevirtual 198) 3 19 0 25 := ⟨rfl, rfl⟩
theorem r_X10_used_25 : RW M_X10_used 25 (.invokevirtual 349) 3 21 0 28 := ⟨rfl, rfl⟩
theorem r_X10_used_28 : RW M_X10_used 28 (.ireturn) 1 0 0 29 := ⟨rfl, rfl⟩
theorem r_X10_when_0 : RW M_X10_when 0 (.aload_n 0) 1 0 0 1 := ⟨rfl, rfl⟩
theorem r_X10_when_1 : RW M_X10_when 1 (.iload_n 1) 1 0 0 2 := ⟨rfl, rfl⟩
theorem r_X10_when_2 : RW M_X10_when 2 (.ifCond .lt 12) 3 14 0 5 := ⟨rfl, rfl⟩
theorem r_X10_when_5 : RW M_X10_when 5 (.iload_n 1) 1 0 0 6 := ⟨rfl, rfl⟩
theorem r_X10_when_6 : RW M_X10_when 6 (.iconst 2) 1 0 0 7 := ⟨rfl, rfl⟩
theorem r_X10_when_7 : RW M_X10_when 7 (.if_icmp .gt 7) 3 14 0 10 := ⟨rfl, rfl⟩
theorem r_X10_when_10 : RW M_X10_when 10 (.iconst 1) 1 0 0 11 := ⟨rfl, rfl⟩
theorem r_X10_when_11 : RW M_X10_when 11 (.goto 4) 3 15 0 14 := ⟨rfl, rfl⟩
theorem r_X10_when_14 : RW M_X10_when 14 (.iconst 0) 1 0 0 15 := ⟨rfl, rfl⟩
theorem r_X10_when_15 : RW M_X10_when 15 (.invokevirtual 175) 3 159 0 18 := ⟨rfl, rfl⟩
theorem r_X10_when_18 : RW M_X10_when 18 (.iload_n 1) 1 0 0 19 := ⟨rfl, rfl⟩
theorem r_X10_when_19 : RW M_X10_when 19 (.lookupswitch 67 #[(0, 25), (1, 45)]) 25 0 0 44 := ⟨rfl, rfl⟩
theorem r_X10_when_44 : RW M_X10_when 44 (.aload_n 0) 1 0 0 45 := ⟨rfl, rfl⟩
theorem r_X10_when_45 : RW M_X10_when 45 (.getfield 58) 3 10 8 48 := ⟨rfl, rfl⟩
theorem r_X10_when_48 : RW M_X10_when 48 (.aload_n 0) 1 0 0 49 := ⟨rfl, rfl⟩
theorem r_X10_when_49 : RW M_X10_when 49 (.getfield 58) 3 10 8 52 := ⟨rfl, rfl⟩
theorem r_X10_when_52 : RW M_X10_when 52 (.getfield 188) 3 2 7 55 := ⟨rfl, rfl⟩
theorem r_X10_when_55 : RW M_X10_when 55 (.iconst 1) 1 0 0 56 := ⟨rfl, rfl⟩
theorem r_X10_when_56 : RW M_X10_when 56 (.iadd) 1 0 0 57 := ⟨rfl, rfl⟩
theorem r_X10_when_57 : RW M_X10_when 57 (.sipush 400) 3 0 0 60 := ⟨rfl, rfl⟩
theorem r_X10_when_60 : RW M_X10_when 60 (.invokevirtual 260) 3 37 0 63 := ⟨rfl, rfl⟩
theorem r_X10_when_63 : RW M_X10_when 63 (.ireturn) 1 0 0 64 := ⟨rfl, rfl⟩
theorem r_X10_when_64 : RW M_X10_when 64 (.aload_n 0) 1 0 0 65 := ⟨rfl, rfl⟩
theorem r_X10_when_65 : RW M_X10_when 65 (.getfield 58) 3 10 8 68 := ⟨rfl, rfl⟩
theorem r_X10_when_68 : RW M_X10_when 68 (.aload_n 0) 1 0 0 69 := ⟨rfl, rfl⟩
theorem r_X10_when_69 : RW M_X10_when 69 (.getfield 58) 3 10 8 72 := ⟨rfl, rfl⟩
theorem r_X10_when_72 : RW M_X10_when 72 (.getfield 188) 3 2 7 75 := ⟨rfl, rfl⟩
theorem r_X10_when_75 : RW M_X10_when 75 (.aload_n 0) 1 0 0 76 := ⟨rfl, rfl⟩
theorem r_X10_when_76 : RW M_X10_when 76 (.getfield 58) 3 10 8 79 := ⟨rfl, rfl⟩
theorem r_X10_when_79 : RW M_X10_when 79 (.getfield 188) 3 2 7 82 := ⟨rfl, rfl⟩
theorem r_X10_when_82 : RW M_X10_when 82 (.invokevirtual 260) 3 37 0 85 := ⟨rfl, rfl⟩
theorem r_X10_when_85 : RW M_X10_when 85 (.ireturn) 1 0 0 86 := ⟨rfl, rfl⟩
theorem r_X10_when_86 : RW M_X10_when 86 (.aload_n 0) 1 0 0 87 := ⟨rfl, rfl⟩
theorem r_X10_when_87 : RW M_X10_when 87 (.getfield 58) 3 10 8 90 := ⟨rfl, rfl⟩
theorem r_X10_when_90 : RW M_X10_when 90 (.iconst 0) 1 0 0 91 := ⟨rfl, rfl⟩
theorem r_X10_when_91 : RW M_X10_when 91 (.aload_n 0) 1 0 0 92 := ⟨rfl, rfl⟩
theorem r_X10_when_92 : RW M_X10_when 92 (.getfield 58) 3 10 8 95 := ⟨rfl, rfl⟩
theorem r_X10_when_95 : RW M_X10_when 95 (.getfield 188) 3 2 7 98 := ⟨rfl, rfl⟩
theorem r_X10_when_98 : RW M_X10_when 98 (.iconst 1) 1 0 0 99 := ⟨rfl, rfl⟩
theorem r_X10_when_99 : RW M_X10_when 99 (.isub) 1 0 0 100 := ⟨rfl, rfl⟩
theorem r_X10_when_100 : RW M_X10_when 100 (.invokevirtual 260) 3 37 0 103 := ⟨rfl, rfl⟩
theorem r_X10_when_103 : RW M_X10_when 103 (.ireturn) 1 0 0 104 := ⟨rfl, rfl⟩
theorem r_X10_would_0 : RW M_X10_would 0 (.aload_n 0) 1 0 0 1 := ⟨rfl, rfl⟩
theorem r_X10_would_1 : RW M_X10_would 1 (.iload_n 1) 1 0 0 2 := ⟨rfl, rfl⟩
theorem r_X10_would_2 : RW M_X10_would 2 (.iconst 1) 1 0 0 3 := ⟨rfl, rfl⟩
theorem r_X10_would_3 : RW M_X10_would 3 (.if_icmp .lt 24) 3 27 0 6 := ⟨rfl, rfl⟩
theorem r_X10_would_6 : RW M_X10_would 6 (.iload_n 1) 1 0 0 7 := ⟨rfl, rfl⟩
theorem r_X10_would_7 : RW M_X10_would 7 (.bipush 20) 2 0 0 9 := ⟨rfl, rfl⟩
theorem r_X10_would_9 : RW M_X10_would 9 (.if_icmp .gt 18) 3 27 0 12 := ⟨rfl, rfl⟩
theorem r_X10_would_12 : RW M_X10_would 12 (.iload_n 2) 1 0 0 13 := ⟨rfl, rfl⟩
theorem r_X10_would_13 : RW M_X10_would 13 (.ifCond .lt 14) 3 27 0 16 := ⟨rfl, rfl⟩
theorem r_X10_would_16 : RW M_X10_would 16 (.iload_n 2) 1 0 0 17 := ⟨rfl, rfl⟩
theorem r_X10_would_17 : RW M_X10_would 17 (.sipush 400) 3 0 0 20 := ⟨rfl, rfl⟩
theorem r_X10_would_20 : RW M_X10_would 20 (.if_icmp .gt 7) 3 27 0 23 := ⟨rfl, rfl⟩
theorem r_X10_would_23 : RW M_X10_would 23 (.iconst 1) 1 0 0 24 := ⟨rfl, rfl⟩
theorem r_X10_would_24 : RW M_X10_would 24 (.goto 4) 3 28 0 27 := ⟨rfl, rfl⟩
theorem r_X10_would_27 : RW M_X10_would 27 (.iconst 0) 1 0 0 28 := ⟨rfl, rfl⟩
theorem r_X10_would_28 : RW M_X10_would 28 (.invokevirtual 175) 3 159 0 31 := ⟨rfl, rfl⟩
theorem r_X10_would_31 : RW M_X10_would 31 (.aload_n 0) 1 0 0 32 := ⟨rfl, rfl⟩
theorem r_X10_would_32 : RW M_X10_would 32 (.iload_n 3) 1 0 0 33 := ⟨rfl, rfl⟩
theorem r_X10_would_33 : RW M_X10_would 33 (.ifCond .lt 27) 3 60 0 36 := ⟨rfl, rfl⟩
theorem r_X10_would_36 : RW M_X10_would 36 (.iload_n 3) 1 0 0 37 := ⟨rfl, rfl⟩
theorem r_X10_would_37 : RW M_X10_would 37 (.sipush 160) 3 0 0 40 := ⟨rfl, rfl⟩
theorem r_X10_would_40 : RW M_X10_would 40 (.if_icmp .gt 20) 3 60 0 43 := ⟨rfl, rfl⟩
theorem r_X10_would_43 : RW M_X10_would 43 (.iload 4) 2 0 0 45 := ⟨rfl, rfl⟩
theorem r_X10_would_45 : RW M_X10_would 45 (.ifCond .lt 15) 3 60 0 48 := ⟨rfl, rfl⟩
theorem r_X10_would_48 : RW M_X10_would 48 (.iload 4) 2 0 0 50 := ⟨rfl, rfl⟩
theorem r_X10_would_50 : RW M_X10_would 50 (.sipush 999) 3 0 0 53 := ⟨rfl, rfl⟩
theorem r_X10_would_53 : RW M_X10_would 53 (.if_icmp .gt 7) 3 60 0 56 := ⟨rfl, rfl⟩
theorem r_X10_would_56 : RW M_X10_would 56 (.iconst 1) 1 0 0 57 := ⟨rfl, rfl⟩
theorem r_X10_would_57 : RW M_X10_would 57 (.goto 4) 3 61 0 60 := ⟨rfl, rfl⟩
theorem r_X10_would_60 : RW M_X10_would 60 (.iconst 0) 1 0 0 61 := ⟨rfl, rfl⟩
theorem r_X10_would_61 : RW M_X10_would 61 (.invokevirtual 175) 3 159 0 64 := ⟨rfl, rfl⟩
theorem r_X10_would_64 : RW M_X10_would 64 (.aload_n 0) 1 0 0 65 := ⟨rfl, rfl⟩
theorem r_X10_would_65 : RW M_X10_would 65 (.iload 5) 2 0 0 67 := ⟨rfl, rfl⟩
theorem r_X10_would_67 : RW M_X10_would 67 (.ifCond .lt 25) 3 92 0 70 := ⟨rfl, rfl⟩
theorem r_X10_would_70 : RW M_X10_would 70 (.iload 5) 2 0 0 72 := ⟨rfl, rfl⟩
theorem r_X10_would_72 : RW M_X10_would 72 (.bipush 9) 2 0 0 74 := ⟨rfl, rfl⟩
theorem r_X10_would_74 : RW M_X10_would 74 (.if_icmp .gt 18) 3 92 0 77 := ⟨rfl, rfl⟩
theorem r_X10_would_77 : RW M_X10_would 77 (.iload 6) 2 0 0 79 := ⟨rfl, rfl⟩
theorem r_X10_would_79 : RW M_X10_would 79 (.ifCond .lt 13) 3 92 0 82 := ⟨rfl, rfl⟩
theorem r_X10_would_82 : RW M_X10_would 82 (.iload 6) 2 0 0 84 := ⟨rfl, rfl⟩
theorem r_X10_would_84 : RW M_X10_would 84 (.iconst 4) 1 0 0 85 := ⟨rfl, rfl⟩
theorem r_X10_would_85 : RW M_X10_would 85 (.if_icmp .ge 7) 3 92 0 88 := ⟨rfl, rfl⟩
theorem r_X10_would_88 : RW M_X10_would 88 (.iconst 1) 1 0 0 89 := ⟨rfl, rfl⟩
theorem r_X10_would_89 : RW M_X10_would 89 (.goto 4) 3 93 0 92 := ⟨rfl, rfl⟩
theorem r_X10_would_92 : RW M_X10_would 92 (.iconst 0) 1 0 0 93 := ⟨rfl, rfl⟩
theorem r_X10_would_93 : RW M_X10_would 93 (.invokevirtual 175) 3 159 0 96 := ⟨rfl, rfl⟩
theorem r_X10_would_96 : RW M_X10_would 96 (.aload_n 0) 1 0 0 97 := ⟨rfl, rfl⟩
theorem r_X10_would_97 : RW M_X10_would 97 (.getfield 29) 3 10 3 100 := ⟨rfl, rfl⟩
theorem r_X10_would_100 : RW M_X10_would 100 (.iload_n 1) 1 0 0 101 := ⟨rfl, rfl⟩
theorem r_X10_would_101 : RW M_X10_would 101 (.iload_n 2) 1 0 0 102 := ⟨rfl, rfl⟩
theorem r_X10_would_102 : RW M_X10_would 102 (.iload_n 3) 1 0 0 103 := ⟨rfl, rfl⟩
theorem r_X10_would_103 : RW M_X10_would 103 (.iload 4) 2 0 0 105 := ⟨rfl, rfl⟩
theorem r_X10_would_105 : RW M_X10_would 105 (.iload 5) 2 0 0 107 := ⟨rfl, rfl⟩
theorem r_X10_would_107 : RW M_X10_would 107 (.iload 6) 2 0 0 109 := ⟨rfl, rfl⟩
theorem r_X10_would_109 : RW M_X10_would 109 (.invokevirtual 256) 3 57 0 112 := ⟨rfl, rfl⟩
theorem r_X10_would_112 : RW M_X10_would 112 (.ireturn) 1 0 0 113 := ⟨rfl, rfl⟩
theorem c_bird0 {d : Nat} {I : Nat → Nat → Int32} {J : Nat → Nat → Int64} {κ : CT} {η : HS} (hc_ : HC 4 κ I) (cb : CB κ) (hh : HH 71 η I) (hb_ : HB κ η) (hw : HW κ η) {b : Nat} (h : b < κ.nb)  (hd : 9 ≤ d) : RV d 123 [.ref 0, .int (nI b), .int (nI 0)] I J (nI (η.be b)) := by
  refine RV.in (d0 := 8) hd mt_123 (Nat.le_of_ble_eq_true rfl) (fun d' hd' => ?_)
  have bns := cb.ns; have bnb := cb.nb; have bnc := cb.nc; have bnr := cb.nr
  have bm_ := hb_.mi
  have b1 := hb_.be b; have b2 := hb_.wk b; have b3 := hw.wk1 b h
  show EV none M_X10_bird d' 0 [(0, .ref 0), (1, .int (nI b)), (2, .int (nI 0))] [] (hp I J) _
  refine EV.l (lv' := [(0, _), (1, _), (2, _)]) r_X10_bird_0 rfl ?_
  refine EV.l (lv' := [(0, _), (1, _), (2, _)]) r_X10_bird_1 rfl ?_
  refine EV.l (lv' := [(0, _), (1, _), (2, _)]) r_X10_bird_2 rfl ?_
  refine EV.gR r_X10_bird_3 la_0 ?_
  refine EV.getV r_X10_bird_6 la_4 (hc_.nb) ?_
  refine EV.cu r_X10_bird_9 (aV2 mt_160 la_0) (c_there1 (by omega) (by omega) (by omega)) (fun I2 e2 => ?_)
  have e2 := e2.symm; subst e2
  refine EV.l (lv' := [(0, _), (1, _), (2, _)]) r_X10_bird_12 rfl ?_
  refine EV.l (lv' := [(0, _), (1, _), (2, _)]) r_X10_bird_13 rfl ?_
  refine EV.n0_lt r_X10_bird_14 (fun h14 => ?_) (fun h14 => ?_)
  · omega
  · -- 14 f
    refine EV.l (lv' := [(0, _), (1, _), (2, _)]) r_X10_bird_17 rfl ?_
    refine EV.o r_X10_bird_18 (icN (4) (v := 4)) ?_
    refine EV.n2_gt r_X10_bird_19 (fun h19 => ?_) (fun h19 => ?_)
    · omega
    · -- 19 f
      refine EV.o r_X10_bird_22 (icN (1) (v := 1)) ?_
      refine EV.g r_X10_bird_23 ?_
      refine EV.cu r_X10_bird_27 (aV1 mt_159 la_0) (c_arg1 (by omega)) (fun I2 e2 => ?_)
      have e2 := e2.symm; subst e2
      refine EV.l (lv' := [(0, _), (1, _), (2, _)]) r_X10_bird_30 rfl ?_
      refine EV.ts (q := 60) r_X10_bird_31 (by decide +kernel) ?_
      refine EV.l (lv' := [(0, _), (1, _), (2, _)]) r_X10_bird_60 rfl ?_
      refine EV.gR r_X10_bird_61 la_0 ?_
      refine EV.gR r_X10_bird_64 la_71 ?_
      refine EV.l (lv' := [(0, _), (1, _), (2, _)]) r_X10_bird_67 rfl ?_
      refine EV.cv r_X10_bird_68 (aV1 mt_92 la_74) (c_getN (by omega) la_74 la_75 (hh.be _ (by omega))) ?_
      exact EV.rv r_X10_bird_71 (rfl)
theorem c_bird1 {d : Nat} {I : Nat → Nat → Int32} {J : Nat → Nat → Int64} {κ : CT} {η : HS} (hc_ : HC 4 κ I) (cb : CB κ) (hh : HH 71 η I) (hb_ : HB κ η) (hw : HW κ η) {b : Nat} (h : b < κ.nb)  (hd : 9 ≤ d) : RV d 123 [.ref 0, .int (nI b), .int (nI 1)] I J (nI (κ.bs b)) := by
  refine RV.in (d0 := 8) hd mt_123 (Nat.le_of_ble_eq_true rfl) (fun d' hd' => ?_)
  have bns := cb.ns; have bnb := cb.nb; have bnc := cb.nc; have bnr := cb.nr
  have bm_ := hb_.mi
  have b1 := hb_.be b; have b2 := hb_.wk b; have b3 := hw.wk1 b h
  show EV none M_X10_bird d' 0 [(0, .ref 0), (1, .int (nI b)), (2, .int (nI 1))] [] (hp I J) _
  refine EV.l (lv' := [(0, _), (1, _), (2, _)]) r_X10_bird_0 rfl ?_
  refine EV.l (lv' := [(0, _), (1, _), (2, _)]) r_X10_bird_1 rfl ?_
  refine EV.l (lv' := [(0, _), (1, _), (2, _)]) r_X10_bird_2 rfl ?_
  refine EV.gR r_X10_bird_3 la_0 ?_
  refine EV.getV r_X10_bird_6 la_4 (hc_.nb) ?_
  refine EV.cu r_X10_bird_9 (aV2 mt_160 la_0) (c_there1 (by omega) (by omega) (by omega)) (fun I2 e2 => ?_)
  have e2 := e2.symm; subst e2
  refine EV.l (lv' := [(0, _), (1, _), (2, _)]) r_X10_bird_12 rfl ?_
  refine EV.l (lv' := [(0, _), (1, _), (2, _)]) r_X10_bird_13 rfl ?_
  refine EV.n0_lt r_X10_bird_14 (fun h14 => ?_) (fun h14 => ?_)
  · omega
  · -- 14 f
    refine EV.l (lv' := [(0, _), (1, _), (2, _)]) r_X10_bird_17 rfl ?_
    refine EV.o r_X10_bird_18 (icN (4) (v := 4)) ?_
    refine EV.n2_gt r_X10_bird_19 (fun h19 => ?_) (fun h19 => ?_)
    · omega
    · -- 19 f
      refine EV.o r_X10_bird_22 (icN (1) (v := 1)) ?_
      refine EV.g r_X10_bird_23 ?_
      refine EV.cu r_X10_bird_27 (aV1 mt_159 la_0) (c_arg1 (by omega)) (fun I2 e2 => ?_)
      have e2 := e2.symm; subst e2
      refine EV.l (lv' := [(0, _), (1, _), (2, _)]) r_X10_bird_30 rfl ?_
      refine EV.ts (q := 72) r_X10_bird_31 (by decide +kernel) ?_
      refine EV.l (lv' := [(0, _), (1, _), (2, _)]) r_X10_bird_72 rfl ?_
      refine EV.gR r_X10_bird_73 la_0 ?_
      refine EV.gR r_X10_bird_76 la_4 ?_
      refine EV.l (lv' := [(0, _), (1, _), (2, _)]) r_X10_bird_79 rfl ?_
      refine EV.cv r_X10_bird_80 (aV1 mt_92 la_19) (c_getN (by omega) la_19 la_20 (hc_.bs _ (by omega))) ?_
      exact EV.rv r_X10_bird_83 (rfl)
theorem c_bird2 {d : Nat} {I : Nat → Nat → Int32} {J : Nat → Nat → Int64} {κ : CT} {η : HS} (hc_ : HC 4 κ I) (cb : CB κ) (hh : HH 71 η I) (hb_ : HB κ η) (hw : HW κ η) {b : Nat} (h : b < κ.nb)  (hd : 9 ≤ d) : RV d 123 [.ref 0, .int (nI b), .int (nI 2)] I J (nI (η.wk b)) := by
  refine RV.in (d0 := 8) hd mt_123 (Nat.le_of_ble_eq_true rfl) (fun d' hd' => ?_)
  have bns := cb.ns; have bnb := cb.nb; have bnc := cb.nc; have bnr := cb.nr
  have bm_ := hb_.mi
  have b1 := hb_.be b; have b2 := hb_.wk b; have b3 := hw.wk1 b h
  show EV none M_X10_bird d' 0 [(0, .ref 0), (1, .int (nI b)), (2, .int (nI 2))] [] (hp I J) _
  refine EV.l (lv' := [(0, _), (1, _), (2, _)]) r_X10_bird_0 rfl ?_
  refine EV.l (lv' := [(0, _), (1, _), (2, _)]) r_X10_bird_1 rfl ?_
  refine EV.l (lv' := [(0, _), (1, _), (2, _)]) r_X10_bird_2 rfl ?_
  refine EV.gR r_X10_bird_3 la_0 ?_
  refine EV.getV r_X10_bird_6 la_4 (hc_.nb) ?_
  refine EV.cu r_X10_bird_9 (aV2 mt_160 la_0) (c_there1 (by omega) (by omega) (by omega)) (fun I2 e2 => ?_)
  have e2 := e2.symm; subst e2
  refine EV.l (lv' := [(0, _), (1, _), (2, _)]) r_X10_bird_12 rfl ?_
  refine EV.l (lv' := [(0, _), (1, _), (2, _)]) r_X10_bird_13 rfl ?_
  refine EV.n0_lt r_X10_bird_14 (fun h14 => ?_) (fun h14 => ?_)
  · omega
  · -- 14 f
    refine EV.l (lv' := [(0, _), (1, _), (2, _)]) r_X10_bird_17 rfl ?_
    refine EV.o r_X10_bird_18 (icN (4) (v := 4)) ?_
    refine EV.n2_gt r_X10_bird_19 (fun h19 => ?_) (fun h19 => ?_)
    · omega
    · -- 19 f
      refine EV.o r_X10_bird_22 (icN (1) (v := 1)) ?_
      refine EV.g r_X10_bird_23 ?_
      refine EV.cu r_X10_bird_27 (aV1 mt_159 la_0) (c_arg1 (by omega)) (fun I2 e2 => ?_)
      have e2 := e2.symm; subst e2
      refine EV.l (lv' := [(0, _), (1, _), (2, _)]) r_X10_bird_30 rfl ?_
      refine EV.ts (q := 84) r_X10_bird_31 (by decide +kernel) ?_
      refine EV.l (lv' := [(0, _), (1, _), (2, _)]) r_X10_bird_84 rfl ?_
      refine EV.gR r_X10_bird_85 la_0 ?_
      refine EV.gR r_X10_bird_88 la_71 ?_
      refine EV.l (lv' := [(0, _), (1, _), (2, _)]) r_X10_bird_91 rfl ?_
      refine EV.cv r_X10_bird_92 (aV1 mt_92 la_78) (c_getN (by omega) la_78 la_79 (hh.wk _ (by omega))) ?_
      exact EV.rv r_X10_bird_95 (rfl)
theorem c_bird3 {d : Nat} {I : Nat → Nat → Int32} {J : Nat → Nat → Int64} {κ : CT} {η : HS} (hc_ : HC 4 κ I) (cb : CB κ) (hh : HH 71 η I) (hb_ : HB κ η) (hw : HW κ η) {b : Nat} (h : b < κ.nb)  (hd : 9 ≤ d) : RV d 123 [.ref 0, .int (nI b), .int (nI 3)] I J (nI (η.le b)) := by
  refine RV.in (d0 := 8) hd mt_123 (Nat.le_of_ble_eq_true rfl) (fun d' hd' => ?_)
  have bns := cb.ns; have bnb := cb.nb; have bnc := cb.nc; have bnr := cb.nr
  have bm_ := hb_.mi
  have b1 := hb_.be b; have b2 := hb_.wk b; have b3 := hw.wk1 b h
  show EV none M_X10_bird d' 0 [(0, .ref 0), (1, .int (nI b)), (2, .int (nI 3))] [] (hp I J) _
  refine EV.l (lv' := [(0, _), (1, _), (2, _)]) r_X10_bird_0 rfl ?_
  refine EV.l (lv' := [(0, _), (1, _), (2, _)]) r_X10_bird_1 rfl ?_
  refine EV.l (lv' := [(0, _), (1, _), (2, _)]) r_X10_bird_2 rfl ?_
  refine EV.gR r_X10_bird_3 la_0 ?_
  refine EV.getV r_X10_bird_6 la_4 (hc_.nb) ?_
  refine EV.cu r_X10_bird_9 (aV2 mt_160 la_0) (c_there1 (by omega) (by omega) (by omega)) (fun I2 e2 => ?_)
  have e2 := e2.symm; subst e2
  refine EV.l (lv' := [(0, _), (1, _), (2, _)]) r_X10_bird_12 rfl ?_
  refine EV.l (lv' := [(0, _), (1, _), (2, _)]) r_X10_bird_13 rfl ?_
  refine EV.n0_lt r_X10_bird_14 (fun h14 => ?_) (fun h14 => ?_)
  · omega
  · -- 14 f
    refine EV.l (lv' := [(0, _), (1, _), (2, _)]) r_X10_bird_17 rfl ?_
    refine EV.o r_X10_bird_18 (icN (4) (v := 4)) ?_
    refine EV.n2_gt r_X10_bird_19 (fun h19 => ?_) (fun h19 => ?_)
    · omega
    · -- 19 f
      refine EV.o r_X10_bird_22 (icN (1) (v := 1)) ?_
      refine EV.g r_X10_bird_23 ?_
      refine EV.cu r_X10_bird_27 (aV1 mt_159 la_0) (c_arg1 (by omega)) (fun I2 e2 => ?_)
      have e2 := e2.symm; subst e2
      refine EV.l (lv' := [(0, _), (1, _), (2, _)]) r_X10_bird_30 rfl ?_
      refine EV.ts (q := 96) r_X10_bird_31 (by decide +kernel) ?_
      refine EV.l (lv' := [(0, _), (1, _), (2, _)]) r_X10_bird_96 rfl ?_
      refine EV.gR r_X10_bird_97 la_0 ?_
      refine EV.gR r_X10_bird_100 la_71 ?_
      refine EV.l (lv' := [(0, _), (1, _), (2, _)]) r_X10_bird_103 rfl ?_
      refine EV.cv r_X10_bird_104 (aV1 mt_92 la_76) (c_getN (by omega) la_76 la_77 (hh.le _ (by omega))) ?_
      exact EV.rv r_X10_bird_107 (rfl)
theorem c_bird4 {d : Nat} {I : Nat → Nat → Int32} {J : Nat → Nat → Int64} {κ : CT} {η : HS} (hc_ : HC 4 κ I) (cb : CB κ) (hh : HH 71 η I) (hb_ : HB κ η) (hw : HW κ η) {b : Nat} (h : b < κ.nb)  (hd : 9 ≤ d) : RV d 123 [.ref 0, .int (nI b), .int (nI 4)] I J (nI (η.be b + η.wk b - 1)) := by
  refine RV.in (d0 := 8) hd mt_123 (Nat.le_of_ble_eq_true rfl) (fun d' hd' => ?_)
  have bns := cb.ns; have bnb := cb.nb; have bnc := cb.nc; have bnr := cb.nr
  have bm_ := hb_.mi
  have b1 := hb_.be b; have b2 := hb_.wk b; have b3 := hw.wk1 b h
  show EV none M_X10_bird d' 0 [(0, .ref 0), (1, .int (nI b)), (2, .int (nI 4))] [] (hp I J) _
  refine EV.l (lv' := [(0, _), (1, _), (2, _)]) r_X10_bird_0 rfl ?_
  refine EV.l (lv' := [(0, _), (1, _), (2, _)]) r_X10_bird_1 rfl ?_
  refine EV.l (lv' := [(0, _), (1, _), (2, _)]) r_X10_bird_2 rfl ?_
  refine EV.gR r_X10_bird_3 la_0 ?_
  refine EV.getV r_X10_bird_6 la_4 (hc_.nb) ?_
  refine EV.cu r_X10_bird_9 (aV2 mt_160 la_0) (c_there1 (by omega) (by omega) (by omega)) (fun I2 e2 => ?_)
  have e2 := e2.symm; subst e2
  refine EV.l (lv' := [(0, _), (1, _), (2, _)]) r_X10_bird_12 rfl ?_
  refine EV.l (lv' := [(0, _), (1, _), (2, _)]) r_X10_bird_13 rfl ?_
  refine EV.n0_lt r_X10_bird_14 (fun h14 => ?_) (fun h14 => ?_)
  · omega
  · -- 14 f
    refine EV.l (lv' := [(0, _), (1, _), (2, _)]) r_X10_bird_17 rfl ?_
    refine EV.o r_X10_bird_18 (icN (4) (v := 4)) ?_
    refine EV.n2_gt r_X10_bird_19 (fun h19 => ?_) (fun h19 => ?_)
    · omega
    · -- 19 f
      refine EV.o r_X10_bird_22 (icN (1) (v := 1)) ?_
      refine EV.g r_X10_bird_23 ?_
      refine EV.cu r_X10_bird_27 (aV1 mt_159 la_0) (c_arg1 (by omega)) (fun I2 e2 => ?_)
      have e2 := e2.symm; subst e2
      refine EV.l (lv' := [(0, _), (1, _), (2, _)]) r_X10_bird_30 rfl ?_
      refine EV.ts (q := 108) r_X10_bird_31 (by decide +kernel) ?_
      refine EV.l (lv' := [(0, _), (1, _), (2, _)]) r_X10_bird_108 rfl ?_
      refine EV.gR r_X10_bird_109 la_0 ?_
      refine EV.l (lv' := [(0, _), (1, _), (2, _)]) r_X10_bird_112 rfl ?_
      refine EV.cv r_X10_bird_113 (aV1 mt_33 la_71) (c71_lastOn hc_ cb hh hb_ hw (by omega) (by omega)) ?_
      exact EV.rv r_X10_bird_116 (rfl)
theorem c_birdT {d : Nat} {I : Nat → Nat → Int32} {J : Nat → Nat → Int64} {κ : CT} (hc_ : HC 4 κ I) (cb : CB κ) {x : Int} (x1 : -2147483648 ≤ x) (x2 : x < 2147483648) (hx : x < 0 ∨ (κ.nb : Int) ≤ x) {y : Int32}  (hd : 9 ≤ d) : RX d 123 [.ref 0, .int (zI x), .int y] I J 0 (fun I' => I' = ref1 I 13) := by
  refine RX.in (d0 := 8) hd mt_123 (Nat.le_of_ble_eq_true rfl) (fun d' hd' => ?_)
  have bns := cb.ns; have bnb := cb.nb; have bnc := cb.nc; have bnr := cb.nr
  have pn := Nat.two_pow_pos κ.ns; have qn := pow_ns cb; have pc := Nat.two_pow_pos κ.nc; have qc := pow_nc cb
  show EV none M_X10_bird d' 0 [(0, .ref 0), (1, .int (zI x)), (2, .int y)] [] (hp I J) _
  refine EV.l (lv' := [(0, _), (1, _), (2, _)]) r_X10_bird_0 rfl ?_
  refine EV.l (lv' := [(0, _), (1, _), (2, _)]) r_X10_bird_1 rfl ?_
  refine EV.l (lv' := [(0, _), (1, _), (2, _)]) r_X10_bird_2 rfl ?_
  refine EV.gR r_X10_bird_3 la_0 ?_
  refine EV.getV r_X10_bird_6 la_4 (hc_.nb) ?_
  exact EV.cx r_X10_bird_9 (aV2 mt_160 la_0) (c_there0 (z_out (by omega) (by omega) (by omega) (by omega)) (by omega)) (fun _ h => h)
theorem c_birdX {d : Nat} {I : Nat → Nat → Int32} {J : Nat → Nat → Int64} {κ : CT} (hc_ : HC 4 κ I) (cb : CB κ) {b : Nat} (h : b < κ.nb) {y : Int} (y1 : -2147483648 ≤ y) (y2 : y < 2147483648) (hy : ¬ (0 ≤ y ∧ y ≤ 4))  (hd : 9 ≤ d) : RX d 123 [.ref 0, .int (nI b), .int (zI y)] I J 1 (fun I' => I' = ref1 I 14) := by
  refine RX.in (d0 := 8) hd mt_123 (Nat.le_of_ble_eq_true rfl) (fun d' hd' => ?_)
  have bns := cb.ns; have bnb := cb.nb; have bnc := cb.nc; have bnr := cb.nr
  have pn := Nat.two_pow_pos κ.ns; have qn := pow_ns cb; have pc := Nat.two_pow_pos κ.nc; have qc := pow_nc cb
  show EV none M_X10_bird d' 0 [(0, .ref 0), (1, .int (nI b)), (2, .int (zI y))] [] (hp I J) _
  refine EV.l (lv' := [(0, _), (1, _), (2, _)]) r_X10_bird_0 rfl ?_
  refine EV.l (lv' := [(0, _), (1, _), (2, _)]) r_X10_bird_1 rfl ?_
  refine EV.l (lv' := [(0, _), (1, _), (2, _)]) r_X10_bird_2 rfl ?_
  refine EV.gR r_X10_bird_3 la_0 ?_
  refine EV.getV r_X10_bird_6 la_4 (hc_.nb) ?_
  refine EV.cu r_X10_bird_9 (aV2 mt_160 la_0) (c_there1 (by omega) (by omega) (by omega)) (fun I2 e2 => ?_)
  have e2 := e2.symm; subst e2
  refine EV.l (lv' := [(0, _), (1, _), (2, _)]) r_X10_bird_12 rfl ?_
  refine EV.l (lv' := [(0, _), (1, _), (2, _)]) r_X10_bird_13 rfl ?_
  refine EV.z0_lt r_X10_bird_14 (fun h14 => ?_) (fun h14 => ?_)
  · -- 14 t
    refine EV.o r_X10_bird_26 (icN (0) (v := 0)) ?_
    exact EV.cx r_X10_bird_27 (aV1 mt_159 la_0) (c_arg0 (by omega)) (fun _ h => h)
  · -- 14 f
    refine EV.l (lv' := [(0, _), (1, _), (2, _)]) r_X10_bird_17 rfl ?_
    refine EV.o r_X10_bird_18 (icN (4) (v := 4)) ?_
    refine EV.zn2_gt r_X10_bird_19 (fun h19 => ?_) (fun h19 => ?_)
    · -- 19 t
      refine EV.o r_X10_bird_26 (icN (0) (v := 0)) ?_
      exact EV.cx r_X10_bird_27 (aV1 mt_159 la_0) (c_arg0 (by omega)) (fun _ h => h)
    · -- 19 f
      refine EV.o r_X10_bird_22 (icN (1) (v := 1)) ?_
      refine EV.g r_X10_bird_23 ?_
      omega
theorem c_counsel0 {d : Nat} {I : Nat → Nat → Int32} {J : Nat → Nat → Int64} {κ : CT} {η : HS} (hc_ : HC 4 κ I) (cb : CB κ) (hh : HH 71 η I) (hb_ : HB κ η) (hw : HW κ η) {k : Nat} (h : k < κ.nc)  (hd : 9 ≤ d) : RV d 124 [.ref 0, .int (nI k), .int (nI 0)] I J (nI (η.cr k)) := by
  refine RV.in (d0 := 8) hd mt_124 (Nat.le_of_ble_eq_true rfl) (fun d' hd' => ?_)
  have bns := cb.ns; have bnb := cb.nb; have bnc := cb.nc; have bnr := cb.nr
  have bm_ := hb_.mi
  show EV none M_X10_counsel d' 0 [(0, .ref 0), (1, .int (nI k)), (2, .int (nI 0))] [] (hp I J) _
  refine EV.l (lv' := [(0, _), (1, _), (2, _)]) r_X10_counsel_0 rfl ?_
  refine EV.l (lv' := [(0, _), (1, _), (2, _)]) r_X10_counsel_1 rfl ?_
  refine EV.l (lv' := [(0, _), (1, _), (2, _)]) r_X10_counsel_2 rfl ?_
  refine EV.gR r_X10_counsel_3 la_0 ?_
  refine EV.getV r_X10_counsel_6 la_4 (hc_.nc) ?_
  refine EV.cu r_X10_counsel_9 (aV2 mt_160 la_0) (c_there1 (by omega) (by omega) (by omega)) (fun I2 e2 => ?_)
  have e2 := e2.symm; subst e2
  refine EV.l (lv' := [(0, _), (1, _), (2, _)]) r_X10_counsel_12 rfl ?_
  refine EV.l (lv' := [(0, _), (1, _), (2, _)]) r_X10_counsel_13 rfl ?_
  refine EV.n0_eq r_X10_counsel_14 (fun h14 => ?_) (fun h14 => ?_)
  · -- 14 t
    refine EV.o r_X10_counsel_22 (icN (1) (v := 1)) ?_
    refine EV.g r_X10_counsel_23 ?_
    refine EV.cu r_X10_counsel_27 (aV1 mt_159 la_0) (c_arg1 (by omega)) (fun I2 e2 => ?_)
    have e2 := e2.symm; subst e2
    refine EV.l (lv' := [(0, _), (1, _), (2, _)]) r_X10_counsel_30 rfl ?_
    refine EV.n0_ne r_X10_counsel_31 (fun h31 => ?_) (fun h31 => ?_)
    · omega
    · -- 31 f
      refine EV.l (lv' := [(0, _), (1, _), (2, _)]) r_X10_counsel_34 rfl ?_
      refine EV.gR r_X10_counsel_35 la_0 ?_
      refine EV.gR r_X10_counsel_38 la_71 ?_
      refine EV.l (lv' := [(0, _), (1, _), (2, _)]) r_X10_counsel_41 rfl ?_
      refine EV.cv r_X10_counsel_42 (aV1 mt_92 la_80) (c_getN (by omega) la_80 la_81 (hh.cr _ (by omega))) ?_
      refine EV.g r_X10_counsel_45 ?_
      exact EV.rv r_X10_counsel_59 (rfl)
  · omega
theorem c_counsel1 {d : Nat} {I : Nat → Nat → Int32} {J : Nat → Nat → Int64} {κ : CT} {η : HS} (hc_ : HC 4 κ I) (cb : CB κ) (hh : HH 71 η I) (hb_ : HB κ η) (hw : HW κ η) {k : Nat} (h : k < κ.nc)  (hd : 9 ≤ d) : RV d 124 [.ref 0, .int (nI k), .int (nI 1)] I J (nI (κ.cs k)) := by
  refine RV.in (d0 := 8) hd mt_124 (Nat.le_of_ble_eq_true rfl) (fun d' hd' => ?_)
  have bns := cb.ns; have bnb := cb.nb; have bnc := cb.nc; have bnr := cb.nr
  have bm_ := hb_.mi
  show EV none M_X10_counsel d' 0 [(0, .ref 0), (1, .int (nI k)), (2, .int (nI 1))] [] (hp I J) _
  refine EV.l (lv' := [(0, _), (1, _), (2, _)]) r_X10_counsel_0 rfl ?_
  refine EV.l (lv' := [(0, _), (1, _), (2, _)]) r_X10_counsel_1 rfl ?_
  refine EV.l (lv' := [(0, _), (1, _), (2, _)]) r_X10_counsel_2 rfl ?_
  refine EV.gR r_X10_counsel_3 la_0 ?_
  refine EV.getV r_X10_counsel_6 la_4 (hc_.nc) ?_
  refine EV.cu r_X10_counsel_9 (aV2 mt_160 la_0) (c_there1 (by omega) (by omega) (by omega)) (fun I2 e2 => ?_)
  have e2 := e2.symm; subst e2
  refine EV.l (lv' := [(0, _), (1, _), (2, _)]) r_X10_counsel_12 rfl ?_
  refine EV.l (lv' := [(0, _), (1, _), (2, _)]) r_X10_counsel_13 rfl ?_
  refine EV.n0_eq r_X10_counsel_14 (fun h14 => ?_) (fun h14 => ?_)
  · omega
  · -- 14 f
    refine EV.l (lv' := [(0, _), (1, _), (2, _)]) r_X10_counsel_17 rfl ?_
    refine EV.o r_X10_counsel_18 (icN (1) (v := 1)) ?_
    refine EV.n2_ne r_X10_counsel_19 (fun h19 => ?_) (fun h19 => ?_)
    · omega
    · -- 19 f
      refine EV.o r_X10_counsel_22 (icN (1) (v := 1)) ?_
      refine EV.g r_X10_counsel_23 ?_
      refine EV.cu r_X10_counsel_27 (aV1 mt_159 la_0) (c_arg1 (by omega)) (fun I2 e2 => ?_)
      have e2 := e2.symm; subst e2
      refine EV.l (lv' := [(0, _), (1, _), (2, _)]) r_X10_counsel_30 rfl ?_
      refine EV.n0_ne r_X10_counsel_31 (fun h31 => ?_) (fun h31 => ?_)
      · -- 31 t
        refine EV.l (lv' := [(0, _), (1, _), (2, _)]) r_X10_counsel_48 rfl ?_
        refine EV.gR r_X10_counsel_49 la_0 ?_
        refine EV.gR r_X10_counsel_52 la_4 ?_
        refine EV.l (lv' := [(0, _), (1, _), (2, _)]) r_X10_counsel_55 rfl ?_
        refine EV.cv r_X10_counsel_56 (aV1 mt_92 la_23) (c_getN (by omega) la_23 la_24 (hc_.cs _ (by omega))) ?_
        exact EV.rv r_X10_counsel_59 (rfl)
      · omega
theorem c_counselT {d : Nat} {I : Nat → Nat → Int32} {J : Nat → Nat → Int64} {κ : CT} (hc_ : HC 4 κ I) (cb : CB κ) {x : Int} (x1 : -2147483648 ≤ x) (x2 : x < 2147483648) (hx : x < 0 ∨ (κ.nc : Int) ≤ x) {y : Int32}  (hd : 9 ≤ d) : RX d 124 [.ref 0, .int (zI x), .int y] I J 0 (fun I' => I' = ref1 I 13) := by
  refine RX.in (d0 := 8) hd mt_124 (Nat.le_of_ble_eq_true rfl) (fun d' hd' => ?_)
  have bns := cb.ns; have bnb := cb.nb; have bnc := cb.nc; have bnr := cb.nr
  have pn := Nat.two_pow_pos κ.ns; have qn := pow_ns cb; have pc := Nat.two_pow_pos κ.nc; have qc := pow_nc cb
  show EV none M_X10_counsel d' 0 [(0, .ref 0), (1, .int (zI x)), (2, .int y)] [] (hp I J) _
  refine EV.l (lv' := [(0, _), (1, _), (2, _)]) r_X10_counsel_0 rfl ?_
  refine EV.l (lv' := [(0, _), (1, _), (2, _)]) r_X10_counsel_1 rfl ?_
  refine EV.l (lv' := [(0, _), (1, _), (2, _)]) r_X10_counsel_2 rfl ?_
  refine EV.gR r_X10_counsel_3 la_0 ?_
  refine EV.getV r_X10_counsel_6 la_4 (hc_.nc) ?_
  exact EV.cx r_X10_counsel_9 (aV2 mt_160 la_0) (c_there0 (z_out (by omega) (by omega) (by omega) (by omega)) (by omega)) (fun _ h => h)
theorem c_counselX {d : Nat} {I : Nat → Nat → Int32} {J : Nat → Nat → Int64} {κ : CT} (hc_ : HC 4 κ I) (cb : CB κ) {k : Nat} (h : k < κ.nc) {y : Int} (y1 : -2147483648 ≤ y) (y2 : y < 2147483648) (hy : ¬ (0 ≤ y ∧ y ≤ 1))  (hd : 9 ≤ d) : RX d 124 [.ref 0, .int (nI k), .int (zI y)] I J 1 (fun I' => I' = ref1 I 14) := by
  refine RX.in (d0 := 8) hd mt_124 (Nat.le_of_ble_eq_true rfl) (fun d' hd' => ?_)
  have bns := cb.ns; have bnb := cb.nb; have bnc := cb.nc; have bnr := cb.nr
  have pn := Nat.two_pow_pos κ.ns; have qn := pow_ns cb; have pc := Nat.two_pow_pos κ.nc; have qc := pow_nc cb
  show EV none M_X10_counsel d' 0 [(0, .ref 0), (1, .int (nI k)), (2, .int (zI y))] [] (hp I J) _
  refine EV.l (lv' := [(0, _), (1, _), (2, _)]) r_X10_counsel_0 rfl ?_
  refine EV.l (lv' := [(0, _), (1, _), (2, _)]) r_X10_counsel_1 rfl ?_
  refine EV.l (lv' := [(0, _), (1, _), (2, _)]) r_X10_counsel_2 rfl ?_
  refine EV.gR r_X10_counsel_3 la_0 ?_
  refine EV.getV r_X10_counsel_6 la_4 (hc_.nc) ?_
  refine EV.cu r_X10_counsel_9 (aV2 mt_160 la_0) (c_there1 (by omega) (by omega) (by omega)) (fun I2 e2 => ?_)
  have e2 := e2.symm; subst e2
  refine EV.l (lv' := [(0, _), (1, _), (2, _)]) r_X10_counsel_12 rfl ?_
  refine EV.l (lv' := [(0, _), (1, _), (2, _)]) r_X10_counsel_13 rfl ?_
  refine EV.z0_eq r_X10_counsel_14 (fun h14 => ?_) (fun h14 => ?_)
  · -- 14 t
    refine EV.o r_X10_counsel_22 (icN (1) (v := 1)) ?_
    refine EV.g r_X10_counsel_23 ?_
    omega
  · -- 14 f
    refine EV.l (lv' := [(0, _), (1, _), (2, _)]) r_X10_counsel_17 rfl ?_
    refine EV.o r_X10_counsel_18 (icN (1) (v := 1)) ?_
    refine EV.zn2_ne r_X10_counsel_19 (fun h19 => ?_) (fun h19 => ?_)
    · -- 19 t
      refine EV.o r_X10_counsel_26 (icN (0) (v := 0)) ?_
      exact EV.cx r_X10_counsel_27 (aV1 mt_159 la_0) (c_arg0 (by omega)) (fun _ h => h)
    · -- 19 f
      refine EV.o r_X10_counsel_22 (icN (1) (v := 1)) ?_
      refine EV.g r_X10_counsel_23 ?_
      omega
theorem c_sayT {d : Nat} {I : Nat → Nat → Int32} {J : Nat → Nat → Int64} {κ : CT} (hc_ : HC 4 κ I) (cb : CB κ) {x : Int} (x1 : -2147483648 ≤ x) (x2 : x < 2147483648) (hx : x < 0 ∨ (κ.ns : Int) ≤ x) {y : Int32}  (hd : 9 ≤ d) : RX d 122 [.ref 0, .int (zI x), .int y] I J 0 (fun I' => I' = ref1 I 13) := by
  refine RX.in (d0 := 8) hd mt_122 (Nat.le_of_ble_eq_true rfl) (fun d' hd' => ?_)
  have bns := cb.ns; have bnb := cb.nb; have bnc := cb.nc; have bnr := cb.nr
  have pn := Nat.two_pow_pos κ.ns; have qn := pow_ns cb; have pc := Nat.two_pow_pos κ.nc; have qc := pow_nc cb
  show EV none M_X10_saying d' 0 [(0, .ref 0), (1, .int (zI x)), (2, .int y)] [] (hp I J) _
  refine EV.l (lv' := [(0, _), (1, _), (2, _)]) r_X10_saying_0 rfl ?_
  refine EV.l (lv' := [(0, _), (1, _), (2, _)]) r_X10_saying_1 rfl ?_
  refine EV.l (lv' := [(0, _), (1, _), (2, _)]) r_X10_saying_2 rfl ?_
  refine EV.gR r_X10_saying_3 la_0 ?_
  refine EV.getV r_X10_saying_6 la_4 (hc_.ns) ?_
  exact EV.cx r_X10_saying_9 (aV2 mt_160 la_0) (c_there0 (z_out (by omega) (by omega) (by omega) (by omega)) (by omega)) (fun _ h => h)
theorem c_sayX {d : Nat} {I : Nat → Nat → Int32} {J : Nat → Nat → Int64} {κ : CT} (hc_ : HC 4 κ I) (cb : CB κ) {i : Nat} (h : i < κ.ns) {y : Int} (y1 : -2147483648 ≤ y) (y2 : y < 2147483648) (hy : ¬ (0 ≤ y ∧ y ≤ 5))  (hd : 9 ≤ d) : RX d 122 [.ref 0, .int (nI i), .int (zI y)] I J 1 (fun I' => I' = ref1 I 14) := by
  refine RX.in (d0 := 8) hd mt_122 (Nat.le_of_ble_eq_true rfl) (fun d' hd' => ?_)
  have bns := cb.ns; have bnb := cb.nb; have bnc := cb.nc; have bnr := cb.nr
  have pn := Nat.two_pow_pos κ.ns; have qn := pow_ns cb; have pc := Nat.two_pow_pos κ.nc; have qc := pow_nc cb
  show EV none M_X10_saying d' 0 [(0, .ref 0), (1, .int (nI i)), (2, .int (zI y))] [] (hp I J) _
  refine EV.l (lv' := [(0, _), (1, _), (2, _)]) r_X10_saying_0 rfl ?_
  refine EV.l (lv' := [(0, _), (1, _), (2, _)]) r_X10_saying_1 rfl ?_
  refine EV.l (lv' := [(0, _), (1, _), (2, _)]) r_X10_saying_2 rfl ?_
  refine EV.gR r_X10_saying_3 la_0 ?_
  refine EV.getV r_X10_saying_6 la_4 (hc_.ns) ?_
  refine EV.cu r_X10_saying_9 (aV2 mt_160 la_0) (c_there1 (by omega) (by omega) (by omega)) (fun I2 e2 => ?_)
  have e2 := e2.symm; subst e2
  refine EV.l (lv' := [(0, _), (1, _), (2, _)]) r_X10_saying_12 rfl ?_
  refine EV.l (lv' := [(0, _), (1, _), (2, _)]) r_X10_saying_13 rfl ?_
  refine EV.z0_lt r_X10_saying_14 (fun h14 => ?_) (fun h14 => ?_)
  · -- 14 t
    refine EV.o r_X10_saying_26 (icN (0) (v := 0)) ?_
    exact EV.cx r_X10_saying_27 (aV1 mt_159 la_0) (c_arg0 (by omega)) (fun _ h => h)
  · -- 14 f
    refine EV.l (lv' := [(0, _), (1, _), (2, _)]) r_X10_saying_17 rfl ?_
    refine EV.o r_X10_saying_18 (icN (5) (v := 5)) ?_
    refine EV.zn2_gt r_X10_saying_19 (fun h19 => ?_) (fun h19 => ?_)
    · -- 19 t
      refine EV.o r_X10_saying_26 (icN (0) (v := 0)) ?_
      exact EV.cx r_X10_saying_27 (aV1 mt_159 la_0) (c_arg0 (by omega)) (fun _ h => h)
    · -- 19 f
      refine EV.o r_X10_saying_22 (icN (1) (v := 1)) ?_
      refine EV.g r_X10_saying_23 ?_
      omega
theorem c_tellX {d : Nat} {I : Nat → Nat → Int32} {J : Nat → Nat → Int64} {κ : CT} (hc_ : HC 4 κ I) (cb : CB κ) {y : Int} (y1 : -2147483648 ≤ y) (y2 : y < 2147483648) (hy : ¬ (0 ≤ y ∧ y ≤ 11))  (hd : 9 ≤ d) : RX d 120 [.ref 0, .int (zI y)] I J 1 (fun I' => I' = ref1 I 14) := by
  refine RX.in (d0 := 8) hd mt_120 (Nat.le_of_ble_eq_true rfl) (fun d' hd' => ?_)
  have bns := cb.ns; have bnb := cb.nb; have bnc := cb.nc; have bnr := cb.nr
  have pn := Nat.two_pow_pos κ.ns; have qn := pow_ns cb; have pc := Nat.two_pow_pos κ.nc; have qc := pow_nc cb
  show EV none M_X10_told d' 0 [(0, .ref 0), (1, .int (zI y))] [] (hp I J) _
  refine EV.l (lv' := [(0, _), (1, _)]) r_X10_told_0 rfl ?_
  refine EV.l (lv' := [(0, _), (1, _)]) r_X10_told_1 rfl ?_
  refine EV.z0_lt r_X10_told_2 (fun h2 => ?_) (fun h2 => ?_)
  · -- 2 t
    refine EV.o r_X10_told_15 (icN (0) (v := 0)) ?_
    exact EV.cx r_X10_told_16 (aV1 mt_159 la_0) (c_arg0 (by omega)) (fun _ h => h)
  · -- 2 f
    refine EV.l (lv' := [(0, _), (1, _)]) r_X10_told_5 rfl ?_
    refine EV.o r_X10_told_6 (bpN (11) 11) ?_
    refine EV.zn2_gt r_X10_told_8 (fun h8 => ?_) (fun h8 => ?_)
    · -- 8 t
      refine EV.o r_X10_told_15 (icN (0) (v := 0)) ?_
      exact EV.cx r_X10_told_16 (aV1 mt_159 la_0) (c_arg0 (by omega)) (fun _ h => h)
    · -- 8 f
      refine EV.o r_X10_told_11 (icN (1) (v := 1)) ?_
      refine EV.g r_X10_told_12 ?_
      omega
theorem c_follX {d : Nat} {I : Nat → Nat → Int32} {J : Nat → Nat → Int64} {κ : CT} (hc_ : HC 4 κ I) (cb : CB κ) {x : Int} (x1 : -2147483648 ≤ x) (x2 : x < 2147483648) (hx : x < 0 ∨ ((2 ^ κ.ns : Nat) : Int) ≤ x)  (hd : 9 ≤ d) : RX d 129 [.ref 0, .int (zI x)] I J 1 (fun I' => I' = ref1 I 14) := by
  refine RX.in (d0 := 8) hd mt_129 (Nat.le_of_ble_eq_true rfl) (fun d' hd' => ?_)
  have bns := cb.ns; have bnb := cb.nb; have bnc := cb.nc; have bnr := cb.nr
  have pn := Nat.two_pow_pos κ.ns; have qn := pow_ns cb; have pc := Nat.two_pow_pos κ.nc; have qc := pow_nc cb
  show EV none M_X10_follows d' 0 [(0, .ref 0), (1, .int (zI x))] [] (hp I J) _
  refine EV.l (lv' := [(0, _), (1, _)]) r_X10_follows_0 rfl ?_
  refine EV.l (lv' := [(0, _), (1, _)]) r_X10_follows_1 rfl ?_
  refine EV.l (lv' := [(0, _), (1, _)]) r_X10_follows_2 rfl ?_
  refine EV.gR r_X10_follows_3 la_0 ?_
  refine EV.getV r_X10_follows_6 la_4 (hc_.ns) ?_
  exact EV.cx r_X10_follows_9 (aV2 mt_158 la_0) (c_bits0 (z_out (by omega) (by omega) (by omega) (by omega)) (by omega) (by omega)) (fun _ h => h)
theorem c_at0 {d : Nat} {I : Nat → Nat → Int32} {J : Nat → Nat → Int64} {κ : CT} {η : HS} (hc_ : HC 4 κ I) (cb : CB κ) (hh : HH 71 η I) (hb_ : HB κ η) (hw : HW κ η) {n : Nat} (h : n ≤ 499)  (hd : 9 ≤ d) : RV d 126 [.ref 0, .int (nI n), .int (nI 0)] I J (nI (birds κ η n)) := by
  refine RV.in (d0 := 8) hd mt_126 (Nat.le_of_ble_eq_true rfl) (fun d' hd' => ?_)
  have bns := cb.ns; have bnb := cb.nb; have bnc := cb.nc; have bnr := cb.nr
  have bm_ := hb_.mi
  show EV none M_X10_at d' 0 [(0, .ref 0), (1, .int (nI n)), (2, .int (nI 0))] [] (hp I J) _
  refine EV.l (lv' := [(0, _), (1, _), (2, _)]) r_X10_at_0 rfl ?_
  refine EV.l (lv' := [(0, _), (1, _), (2, _)]) r_X10_at_1 rfl ?_
  refine EV.n0_lt r_X10_at_2 (fun h2 => ?_) (fun h2 => ?_)
  · -- 2 t
    refine EV.o r_X10_at_25 (icN (0) (v := 0)) ?_
    omega
  · -- 2 f
    refine EV.l (lv' := [(0, _), (1, _), (2, _)]) r_X10_at_5 rfl ?_
    refine EV.o r_X10_at_6 (spN (499) 499) ?_
    refine EV.n2_gt r_X10_at_9 (fun h9 => ?_) (fun h9 => ?_)
    · -- 9 t
      refine EV.o r_X10_at_25 (icN (0) (v := 0)) ?_
      omega
    · -- 9 f
      refine EV.l (lv' := [(0, _), (1, _), (2, _)]) r_X10_at_12 rfl ?_
      refine EV.n0_lt r_X10_at_13 (fun h13 => ?_) (fun h13 => ?_)
      · omega
      · -- 13 f
        refine EV.l (lv' := [(0, _), (1, _), (2, _)]) r_X10_at_16 rfl ?_
        refine EV.o r_X10_at_17 (icN (2) (v := 2)) ?_
        refine EV.n2_gt r_X10_at_18 (fun h18 => ?_) (fun h18 => ?_)
        · omega
        · -- 18 f
          refine EV.o r_X10_at_21 (icN (1) (v := 1)) ?_
          refine EV.g r_X10_at_22 ?_
          refine EV.cu r_X10_at_26 (aV1 mt_159 la_0) (c_arg1 (by omega)) (fun I2 e2 => ?_)
          have e2 := e2.symm; subst e2
          refine EV.l (lv' := [(0, _), (1, _), (2, _)]) r_X10_at_29 rfl ?_
          refine EV.ls (q := 56) r_X10_at_30 (by decide +kernel) ?_
          refine EV.l (lv' := [(0, _), (1, _), (2, _)]) r_X10_at_56 rfl ?_
          refine EV.gR r_X10_at_57 la_0 ?_
          refine EV.l (lv' := [(0, _), (1, _), (2, _)]) r_X10_at_60 rfl ?_
          refine EV.cv r_X10_at_61 (aV1 mt_34 la_71) (c71_birdsOn hc_ cb hh hb_ hw (by omega) (by omega)) ?_
          exact EV.rv r_X10_at_64 (rfl)
theorem c_at1 {d : Nat} {I : Nat → Nat → Int32} {J : Nat → Nat → Int64} {κ : CT} {η : HS} (hc_ : HC 4 κ I) (cb : CB κ) (hh : HH 71 η I) (hb_ : HB κ η) (hw : HW κ η) {n : Nat} (h : n ≤ 499)  (hd : 9 ≤ d) : RV d 126 [.ref 0, .int (nI n), .int (nI 1)] I J (nI (sdB κ η n n)) := by
  refine RV.in (d0 := 8) hd mt_126 (Nat.le_of_ble_eq_true rfl) (fun d' hd' => ?_)
  have bns := cb.ns; have bnb := cb.nb; have bnc := cb.nc; have bnr := cb.nr
  have bm_ := hb_.mi
  show EV none M_X10_at d' 0 [(0, .ref 0), (1, .int (nI n)), (2, .int (nI 1))] [] (hp I J) _
  refine EV.l (lv' := [(0, _), (1, _), (2, _)]) r_X10_at_0 rfl ?_
  refine EV.l (lv' := [(0, _), (1, _), (2, _)]) r_X10_at_1 rfl ?_
  refine EV.n0_lt r_X10_at_2 (fun h2 => ?_) (fun h2 => ?_)
  · -- 2 t
    refine EV.o r_X10_at_25 (icN (0) (v := 0)) ?_
    omega
  · -- 2 f
    refine EV.l (lv' := [(0, _), (1, _), (2, _)]) r_X10_at_5 rfl ?_
    refine EV.o r_X10_at_6 (spN (499) 499) ?_
    refine EV.n2_gt r_X10_at_9 (fun h9 => ?_) (fun h9 => ?_)
    · -- 9 t
      refine EV.o r_X10_at_25 (icN (0) (v := 0)) ?_
      omega
    · -- 9 f
      refine EV.l (lv' := [(0, _), (1, _), (2, _)]) r_X10_at_12 rfl ?_
      refine EV.n0_lt r_X10_at_13 (fun h13 => ?_) (fun h13 => ?_)
      · omega
      · -- 13 f
        refine EV.l (lv' := [(0, _), (1, _), (2, _)]) r_X10_at_16 rfl ?_
        refine EV.o r_X10_at_17 (icN (2) (v := 2)) ?_
        refine EV.n2_gt r_X10_at_18 (fun h18 => ?_) (fun h18 => ?_)
        · omega
        · -- 18 f
          refine EV.o r_X10_at_21 (icN (1) (v := 1)) ?_
          refine EV.g r_X10_at_22 ?_
          refine EV.cu r_X10_at_26 (aV1 mt_159 la_0) (c_arg1 (by omega)) (fun I2 e2 => ?_)
          have e2 := e2.symm; subst e2
          refine EV.l (lv' := [(0, _), (1, _), (2, _)]) r_X10_at_29 rfl ?_
          refine EV.ls (q := 65) r_X10_at_30 (by decide +kernel) ?_
          refine EV.l (lv' := [(0, _), (1, _), (2, _)]) r_X10_at_65 rfl ?_
          refine EV.gR r_X10_at_66 la_0 ?_
          refine EV.l (lv' := [(0, _), (1, _), (2, _)]) r_X10_at_69 rfl ?_
          refine EV.l (lv' := [(0, _), (1, _), (2, _)]) r_X10_at_70 rfl ?_
          refine EV.cv r_X10_at_71 (aV2 mt_37 la_71) (c71_said hc_ cb hh hb_ (by omega) (by omega) (by omega)) ?_
          exact EV.rv r_X10_at_74 (rfl)
theorem c_at2 {d : Nat} {I : Nat → Nat → Int32} {J : Nat → Nat → Int64} {κ : CT} {η : HS} (hc_ : HC 4 κ I) (cb : CB κ) (hh : HH 71 η I) (hb_ : HB κ η) (hw : HW κ η) {n : Nat} (h : n ≤ 499)  (hd : 9 ≤ d) : RV d 126 [.ref 0, .int (nI n), .int (nI 2)] I J (zI (lean κ (heard κ η n))) := by
  refine RV.in (d0 := 8) hd mt_126 (Nat.le_of_ble_eq_true rfl) (fun d' hd' => ?_)
  have bns := cb.ns; have bnb := cb.nb; have bnc := cb.nc; have bnr := cb.nr
  have bm_ := hb_.mi
  show EV none M_X10_at d' 0 [(0, .ref 0), (1, .int (nI n)), (2, .int (nI 2))] [] (hp I J) _
  refine EV.l (lv' := [(0, _), (1, _), (2, _)]) r_X10_at_0 rfl ?_
  refine EV.l (lv' := [(0, _), (1, _), (2, _)]) r_X10_at_1 rfl ?_
  refine EV.n0_lt r_X10_at_2 (fun h2 => ?_) (fun h2 => ?_)
  · -- 2 t
    refine EV.o r_X10_at_25 (icN (0) (v := 0)) ?_
    omega
  · -- 2 f
    refine EV.l (lv' := [(0, _), (1, _), (2, _)]) r_X10_at_5 rfl ?_
    refine EV.o r_X10_at_6 (spN (499) 499) ?_
    refine EV.n2_gt r_X10_at_9 (fun h9 => ?_) (fun h9 => ?_)
    · -- 9 t
      refine EV.o r_X10_at_25 (icN (0) (v := 0)) ?_
      omega
    · -- 9 f
      refine EV.l (lv' := [(0, _), (1, _), (2, _)]) r_X10_at_12 rfl ?_
      refine EV.n0_lt r_X10_at_13 (fun h13 => ?_) (fun h13 => ?_)
      · omega
      · -- 13 f
        refine EV.l (lv' := [(0, _), (1, _), (2, _)]) r_X10_at_16 rfl ?_
        refine EV.o r_X10_at_17 (icN (2) (v := 2)) ?_
        refine EV.n2_gt r_X10_at_18 (fun h18 => ?_) (fun h18 => ?_)
        · omega
        · -- 18 f
          refine EV.o r_X10_at_21 (icN (1) (v := 1)) ?_
          refine EV.g r_X10_at_22 ?_
          refine EV.cu r_X10_at_26 (aV1 mt_159 la_0) (c_arg1 (by omega)) (fun I2 e2 => ?_)
          have e2 := e2.symm; subst e2
          refine EV.l (lv' := [(0, _), (1, _), (2, _)]) r_X10_at_29 rfl ?_
          refine EV.ls (q := 75) r_X10_at_30 (by decide +kernel) ?_
          refine EV.l (lv' := [(0, _), (1, _), (2, _)]) r_X10_at_75 rfl ?_
          refine EV.gR r_X10_at_76 la_0 ?_
          refine EV.l (lv' := [(0, _), (1, _), (2, _)]) r_X10_at_79 rfl ?_
          refine EV.gR r_X10_at_80 la_0 ?_
          refine EV.l (lv' := [(0, _), (1, _), (2, _)]) r_X10_at_83 rfl ?_
          refine EV.cv r_X10_at_84 (aV1 mt_38 la_71) (c71_heard hc_ cb hh hb_ hw (by omega) (by omega)) ?_
          refine EV.cv r_X10_at_87 (aV1 mt_22 la_4) (b_lean hc_ cb (heard_lt _) (by omega)) ?_
          exact EV.rv r_X10_at_90 (rfl)
theorem c_atX {d : Nat} {I : Nat → Nat → Int32} {J : Nat → Nat → Int64} {κ : CT} (hc_ : HC 4 κ I) (cb : CB κ) {x : Int} (x1 : -2147483648 ≤ x) (x2 : x < 2147483648) {y : Int} (y1 : -2147483648 ≤ y) (y2 : y < 2147483648) (hy : ¬ (0 ≤ x ∧ x ≤ 499 ∧ 0 ≤ y ∧ y ≤ 2))  (hd : 9 ≤ d) : RX d 126 [.ref 0, .int (zI x), .int (zI y)] I J 1 (fun I' => I' = ref1 I 14) := by
  refine RX.in (d0 := 8) hd mt_126 (Nat.le_of_ble_eq_true rfl) (fun d' hd' => ?_)
  have bns := cb.ns; have bnb := cb.nb; have bnc := cb.nc; have bnr := cb.nr
  have pn := Nat.two_pow_pos κ.ns; have qn := pow_ns cb; have pc := Nat.two_pow_pos κ.nc; have qc := pow_nc cb
  show EV none M_X10_at d' 0 [(0, .ref 0), (1, .int (zI x)), (2, .int (zI y))] [] (hp I J) _
  refine EV.l (lv' := [(0, _), (1, _), (2, _)]) r_X10_at_0 rfl ?_
  refine EV.l (lv' := [(0, _), (1, _), (2, _)]) r_X10_at_1 rfl ?_
  refine EV.z0_lt r_X10_at_2 (fun h2 => ?_) (fun h2 => ?_)
  · -- 2 t
    refine EV.o r_X10_at_25 (icN (0) (v := 0)) ?_
    exact EV.cx r_X10_at_26 (aV1 mt_159 la_0) (c_arg0 (by omega)) (fun _ h => h)
  · -- 2 f
    refine EV.l (lv' := [(0, _), (1, _), (2, _)]) r_X10_at_5 rfl ?_
    refine EV.o r_X10_at_6 (spN (499) 499) ?_
    refine EV.zn2_gt r_X10_at_9 (fun h9 => ?_) (fun h9 => ?_)
    · -- 9 t
      refine EV.o r_X10_at_25 (icN (0) (v := 0)) ?_
      exact EV.cx r_X10_at_26 (aV1 mt_159 la_0) (c_arg0 (by omega)) (fun _ h => h)
    · -- 9 f
      refine EV.l (lv' := [(0, _), (1, _), (2, _)]) r_X10_at_12 rfl ?_
      refine EV.z0_lt r_X10_at_13 (fun h13 => ?_) (fun h13 => ?_)
      · -- 13 t
        refine EV.o r_X10_at_25 (icN (0) (v := 0)) ?_
        exact EV.cx r_X10_at_26 (aV1 mt_159 la_0) (c_arg0 (by omega)) (fun _ h => h)
      · -- 13 f
        refine EV.l (lv' := [(0, _), (1, _), (2, _)]) r_X10_at_16 rfl ?_
        refine EV.o r_X10_at_17 (icN (2) (v := 2)) ?_
        refine EV.zn2_gt r_X10_at_18 (fun h18 => ?_) (fun h18 => ?_)
        · -- 18 t
          refine EV.o r_X10_at_25 (icN (0) (v := 0)) ?_
          exact EV.cx r_X10_at_26 (aV1 mt_159 la_0) (c_arg0 (by omega)) (fun _ h => h)
        · -- 18 f
          refine EV.o r_X10_at_21 (icN (1) (v := 1)) ?_
          refine EV.g r_X10_at_22 ?_
          omega
theorem c_sow0 {d : Nat} {I : Nat → Nat → Int32} {J : Nat → Nat → Int64} {v : Int32}  (hd : 3 ≤ d) : RV d 161 [.ref 0, .int v, .int (nI 0)] I J (v) := by
  refine RV.in (d0 := 2) hd mt_161 (Nat.le_of_ble_eq_true rfl) (fun d' hd' => ?_)
  show EV none M_X10_sayingOrWeight d' 0 [(0, .ref 0), (1, .int v), (2, .int (nI 0))] [] (hp I J) _
  refine EV.l (lv' := [(0, _), (1, _), (2, _)]) r_X10_sayingOrWeight_0 rfl ?_
  refine EV.n0_eq r_X10_sayingOrWeight_1 (fun h1 => ?_) (fun h1 => ?_)
  · -- 1 t
    refine EV.l (lv' := [(0, _), (1, _), (2, _)]) r_X10_sayingOrWeight_9 rfl ?_
    refine EV.g r_X10_sayingOrWeight_10 ?_
    exact EV.rv r_X10_sayingOrWeight_24 (rfl)
  · omega
theorem c_sow1 {d : Nat} {I : Nat → Nat → Int32} {J : Nat → Nat → Int64} {κ : CT} (hc_ : HC 4 κ I) {x : Option Nat} (h : ∀ b, x = some b → b < 9)  (hd : 3 ≤ d) : RV d 161 [.ref 0, .int (opI x), .int (nI 1)] I J (opW κ x) := by
  refine RV.in (d0 := 2) hd mt_161 (Nat.le_of_ble_eq_true rfl) (fun d' hd' => ?_)
  show EV none M_X10_sayingOrWeight d' 0 [(0, .ref 0), (1, .int (opI x)), (2, .int (nI 1))] [] (hp I J) _
  refine EV.l (lv' := [(0, _), (1, _), (2, _)]) r_X10_sayingOrWeight_0 rfl ?_
  refine EV.n0_eq r_X10_sayingOrWeight_1 (fun h1 => ?_) (fun h1 => ?_)
  · omega
  · -- 1 f
    refine EV.l (lv' := [(0, _), (1, _), (2, _)]) r_X10_sayingOrWeight_4 rfl ?_
    refine EV.o r_X10_sayingOrWeight_5 (icZ (-1)) ?_
    refine EV.op_ne r_X10_sayingOrWeight_6 (fun h6 => ?_) (fun h6 => ?_) (fun c ec_ => by have := h c ec_; omega)
    · -- 6 t
      obtain ⟨c, ec_⟩ := h6
      have hc9 := h c ec_
      subst ec_
      rw [opI_some]
      refine EV.l (lv' := [(0, _), (1, _), (2, _)]) r_X10_sayingOrWeight_13 rfl ?_
      refine EV.gR r_X10_sayingOrWeight_14 la_0 ?_
      refine EV.gR r_X10_sayingOrWeight_17 la_4 ?_
      refine EV.l (lv' := [(0, _), (1, _), (2, _)]) r_X10_sayingOrWeight_20 rfl ?_
      refine EV.cv r_X10_sayingOrWeight_21 (aV1 mt_92 la_9) (c_getN (by omega) la_9 la_10 (hc_.sw _ (by omega))) ?_
      exact EV.rv r_X10_sayingOrWeight_24 (rfl)
    · -- 6 f
      subst h6
      refine EV.l (lv' := [(0, _), (1, _), (2, _)]) r_X10_sayingOrWeight_9 rfl ?_
      refine EV.g r_X10_sayingOrWeight_10 ?_
      exact EV.rv r_X10_sayingOrWeight_24 (rfl)
theorem c_loss0 {d : Nat} {I : Nat → Nat → Int32} {J : Nat → Nat → Int64} {κ : CT} {η : HS} (hc_ : HC 4 κ I) (cb : CB κ) (hh : HH 71 η I) (hb_ : HB κ η) (hw : HW κ η)  (hd : 9 ≤ d) : RV d 137 [.ref 0, .int (nI 0)] I J (opI (heav κ (andc (2 ^ κ.ns - 1) (cnt κ η)))) := by
  refine RV.in (d0 := 8) hd mt_137 (Nat.le_of_ble_eq_true rfl) (fun d' hd' => ?_)
  have bns := cb.ns; have bnb := cb.nb; have bnc := cb.nc; have bnr := cb.nr
  have bm_ := hb_.mi
  have p0 := pow_ns cb; have p1 := Nat.two_pow_pos κ.ns; have ac : andc (2 ^ κ.ns - 1) (cnt κ η) < 512 := andc_lt9 (by omega)
  show EV none M_X10_loss d' 0 [(0, .ref 0), (1, .int (nI 0))] [] (hp I J) _
  refine EV.l (lv' := [(0, _), (1, _)]) r_X10_loss_0 rfl ?_
  refine EV.l (lv' := [(0, _), (1, _)]) r_X10_loss_1 rfl ?_
  refine EV.n0_eq r_X10_loss_2 (fun h2 => ?_) (fun h2 => ?_)
  · -- 2 t
    refine EV.o r_X10_loss_10 (icN (1) (v := 1)) ?_
    refine EV.g r_X10_loss_11 ?_
    refine EV.cu r_X10_loss_15 (aV1 mt_159 la_0) (c_arg1 (by omega)) (fun I2 e2 => ?_)
    have e2 := e2.symm; subst e2
    refine EV.l (lv' := [(0, _), (1, _)]) r_X10_loss_18 rfl ?_
    refine EV.l (lv' := [(0, _), (1, _)]) r_X10_loss_19 rfl ?_
    refine EV.gR r_X10_loss_20 la_0 ?_
    refine EV.l (lv' := [(0, _), (1, _)]) r_X10_loss_23 rfl ?_
    refine EV.gR r_X10_loss_24 la_0 ?_
    refine EV.cv r_X10_loss_27 (aV0 mt_14 la_4) (b_all hc_ cb (by omega)) ?_
    refine EV.l (lv' := [(0, _), (1, _)]) r_X10_loss_30 rfl ?_
    refine EV.gR r_X10_loss_31 la_0 ?_
    refine EV.cv r_X10_loss_34 (aV0 mt_36 la_71) (c71_counting hc_ cb hh hb_ hw (by omega)) ?_
    refine EV.o r_X10_loss_37 (icZ (-1)) ?_
    refine EV.o r_X10_loss_38 inotN ?_
    refine EV.o r_X10_loss_39 iandC ?_
    refine EV.cv r_X10_loss_40 (aV1 mt_18 la_4) (b_heaviest hc_ cb (by omega) (by omega)) ?_
    refine EV.l (lv' := [(0, _), (1, _)]) r_X10_loss_43 rfl ?_
    refine EV.cv r_X10_loss_44 (aV2 mt_161 la_0) (c_sow0 (by omega)) ?_
    exact EV.rv r_X10_loss_47 (rfl)
  · omega
theorem c_loss1 {d : Nat} {I : Nat → Nat → Int32} {J : Nat → Nat → Int64} {κ : CT} {η : HS} (hc_ : HC 4 κ I) (cb : CB κ) (hh : HH 71 η I) (hb_ : HB κ η) (hw : HW κ η)  (hd : 9 ≤ d) : RV d 137 [.ref 0, .int (nI 1)] I J (opW κ (heav κ (andc (2 ^ κ.ns - 1) (cnt κ η)))) := by
  refine RV.in (d0 := 8) hd mt_137 (Nat.le_of_ble_eq_true rfl) (fun d' hd' => ?_)
  have bns := cb.ns; have bnb := cb.nb; have bnc := cb.nc; have bnr := cb.nr
  have bm_ := hb_.mi
  have p0 := pow_ns cb; have p1 := Nat.two_pow_pos κ.ns; have ac : andc (2 ^ κ.ns - 1) (cnt κ η) < 512 := andc_lt9 (by omega)
  show EV none M_X10_loss d' 0 [(0, .ref 0), (1, .int (nI 1))] [] (hp I J) _
  refine EV.l (lv' := [(0, _), (1, _)]) r_X10_loss_0 rfl ?_
  refine EV.l (lv' := [(0, _), (1, _)]) r_X10_loss_1 rfl ?_
  refine EV.n0_eq r_X10_loss_2 (fun h2 => ?_) (fun h2 => ?_)
  · omega
  · -- 2 f
    refine EV.l (lv' := [(0, _), (1, _)]) r_X10_loss_5 rfl ?_
    refine EV.o r_X10_loss_6 (icN (1) (v := 1)) ?_
    refine EV.n2_ne r_X10_loss_7 (fun h7 => ?_) (fun h7 => ?_)
    · omega
    · -- 7 f
      refine EV.o r_X10_loss_10 (icN (1) (v := 1)) ?_
      refine EV.g r_X10_loss_11 ?_
      refine EV.cu r_X10_loss_15 (aV1 mt_159 la_0) (c_arg1 (by omega)) (fun I2 e2 => ?_)
      have e2 := e2.symm; subst e2
      refine EV.l (lv' := [(0, _), (1, _)]) r_X10_loss_18 rfl ?_
      refine EV.l (lv' := [(0, _), (1, _)]) r_X10_loss_19 rfl ?_
      refine EV.gR r_X10_loss_20 la_0 ?_
      refine EV.l (lv' := [(0, _), (1, _)]) r_X10_loss_23 rfl ?_
      refine EV.gR r_X10_loss_24 la_0 ?_
      refine EV.cv r_X10_loss_27 (aV0 mt_14 la_4) (b_all hc_ cb (by omega)) ?_
      refine EV.l (lv' := [(0, _), (1, _)]) r_X10_loss_30 rfl ?_
      refine EV.gR r_X10_loss_31 la_0 ?_
      refine EV.cv r_X10_loss_34 (aV0 mt_36 la_71) (c71_counting hc_ cb hh hb_ hw (by omega)) ?_
      refine EV.o r_X10_loss_37 (icZ (-1)) ?_
      refine EV.o r_X10_loss_38 inotN ?_
      refine EV.o r_X10_loss_39 iandC ?_
      refine EV.cv r_X10_loss_40 (aV1 mt_18 la_4) (b_heaviest hc_ cb (by omega) (by omega)) ?_
      refine EV.l (lv' := [(0, _), (1, _)]) r_X10_loss_43 rfl ?_
      refine EV.cv r_X10_loss_44 (aV2 mt_161 la_0) (c_sow1 hc_ (fun b e => by have := heav_lt e; omega) (by omega)) ?_
      exact EV.rv r_X10_loss_47 (rfl)
theorem c_lossX {d : Nat} {I : Nat → Nat → Int32} {J : Nat → Nat → Int64} {κ : CT} (hc_ : HC 4 κ I) (cb : CB κ) {y : Int} (y1 : -2147483648 ≤ y) (y2 : y < 2147483648) (hy : ¬ (0 ≤ y ∧ y ≤ 1))  (hd : 9 ≤ d) : RX d 137 [.ref 0, .int (zI y)] I J 1 (fun I' => I' = ref1 I 14) := by
  refine RX.in (d0 := 8) hd mt_137 (Nat.le_of_ble_eq_true rfl) (fun d' hd' => ?_)
  have bns := cb.ns; have bnb := cb.nb; have bnc := cb.nc; have bnr := cb.nr
  have pn := Nat.two_pow_pos κ.ns; have qn := pow_ns cb; have pc := Nat.two_pow_pos κ.nc; have qc := pow_nc cb
  show EV none M_X10_loss d' 0 [(0, .ref 0), (1, .int (zI y))] [] (hp I J) _
  refine EV.l (lv' := [(0, _), (1, _)]) r_X10_loss_0 rfl ?_
  refine EV.l (lv' := [(0, _), (1, _)]) r_X10_loss_1 rfl ?_
  refine EV.z0_eq r_X10_loss_2 (fun h2 => ?_) (fun h2 => ?_)
  · -- 2 t
    refine EV.o r_X10_loss_10 (icN (1) (v := 1)) ?_
    refine EV.g r_X10_loss_11 ?_
    omega
  · -- 2 f
    refine EV.l (lv' := [(0, _), (1, _)]) r_X10_loss_5 rfl ?_
    refine EV.o r_X10_loss_6 (icN (1) (v := 1)) ?_
    refine EV.zn2_ne r_X10_loss_7 (fun h7 => ?_) (fun h7 => ?_)
    · -- 7 t
      refine EV.o r_X10_loss_14 (icN (0) (v := 0)) ?_
      exact EV.cx r_X10_loss_15 (aV1 mt_159 la_0) (c_arg0 (by omega)) (fun _ h => h)
    · -- 7 f
      refine EV.o r_X10_loss_10 (icN (1) (v := 1)) ?_
      refine EV.g r_X10_loss_11 ?_
      omega
theorem c_next0 {d : Nat} {I : Nat → Nat → Int32} {J : Nat → Nat → Int64} {κ : CT} {η : HS} (hc_ : HC 4 κ I) (cb : CB κ) (hh : HH 71 η I) (hb_ : HB κ η) (hw : HW κ η)  (hd : 9 ≤ d) : RV d 138 [.ref 0, .int (nI 0)] I J (opI (nxt κ η)) := by
  refine RV.in (d0 := 8) hd mt_138 (Nat.le_of_ble_eq_true rfl) (fun d' hd' => ?_)
  have bns := cb.ns; have bnb := cb.nb; have bnc := cb.nc; have bnr := cb.nr
  have bm_ := hb_.mi
  show EV none M_X10_next d' 0 [(0, .ref 0), (1, .int (nI 0))] [] (hp I J) _
  refine EV.l (lv' := [(0, _), (1, _)]) r_X10_next_0 rfl ?_
  refine EV.l (lv' := [(0, _), (1, _)]) r_X10_next_1 rfl ?_
  refine EV.n0_eq r_X10_next_2 (fun h2 => ?_) (fun h2 => ?_)
  · -- 2 t
    refine EV.o r_X10_next_10 (icN (1) (v := 1)) ?_
    refine EV.g r_X10_next_11 ?_
    refine EV.cu r_X10_next_15 (aV1 mt_159 la_0) (c_arg1 (by omega)) (fun I2 e2 => ?_)
    have e2 := e2.symm; subst e2
    refine EV.l (lv' := [(0, _), (1, _)]) r_X10_next_18 rfl ?_
    refine EV.gR r_X10_next_19 la_0 ?_
    refine EV.cv r_X10_next_22 (aV0 mt_39 la_71) (c71_next hc_ cb hh hb_ (by omega)) ?_
    refine EV.l (lv' := [(0, _), (1, _), (2, _)]) r_X10_next_25 rfl ?_
    refine EV.l (lv' := [(0, _), (1, _), (2, _)]) r_X10_next_26 rfl ?_
    refine EV.n0_eq r_X10_next_27 (fun h27 => ?_) (fun h27 => ?_)
    · -- 27 t
      refine EV.l (lv' := [(0, _), (1, _), (2, _)]) r_X10_next_35 rfl ?_
      refine EV.g r_X10_next_36 ?_
      exact EV.rv r_X10_next_50 (rfl)
    · omega
  · omega
theorem c_next1 {d : Nat} {I : Nat → Nat → Int32} {J : Nat → Nat → Int64} {κ : CT} {η : HS} (hc_ : HC 4 κ I) (cb : CB κ) (hh : HH 71 η I) (hb_ : HB κ η) (hw : HW κ η)  (hd : 9 ≤ d) : RV d 138 [.ref 0, .int (nI 1)] I J (opS η (nxt κ η)) := by
  refine RV.in (d0 := 8) hd mt_138 (Nat.le_of_ble_eq_true rfl) (fun d' hd' => ?_)
  have bns := cb.ns; have bnb := cb.nb; have bnc := cb.nc; have bnr := cb.nr
  have bm_ := hb_.mi
  show EV none M_X10_next d' 0 [(0, .ref 0), (1, .int (nI 1))] [] (hp I J) _
  refine EV.l (lv' := [(0, _), (1, _)]) r_X10_next_0 rfl ?_
  refine EV.l (lv' := [(0, _), (1, _)]) r_X10_next_1 rfl ?_
  refine EV.n0_eq r_X10_next_2 (fun h2 => ?_) (fun h2 => ?_)
  · omega
  · -- 2 f
    refine EV.l (lv' := [(0, _), (1, _)]) r_X10_next_5 rfl ?_
    refine EV.o r_X10_next_6 (icN (1) (v := 1)) ?_
    refine EV.n2_ne r_X10_next_7 (fun h7 => ?_) (fun h7 => ?_)
    · omega
    · -- 7 f
      refine EV.o r_X10_next_10 (icN (1) (v := 1)) ?_
      refine EV.g r_X10_next_11 ?_
      refine EV.cu r_X10_next_15 (aV1 mt_159 la_0) (c_arg1 (by omega)) (fun I2 e2 => ?_)
      have e2 := e2.symm; subst e2
      refine EV.l (lv' := [(0, _), (1, _)]) r_X10_next_18 rfl ?_
      refine EV.gR r_X10_next_19 la_0 ?_
      refine EV.cv r_X10_next_22 (aV0 mt_39 la_71) (c71_next hc_ cb hh hb_ (by omega)) ?_
      refine EV.l (lv' := [(0, _), (1, _), (2, _)]) r_X10_next_25 rfl ?_
      refine EV.l (lv' := [(0, _), (1, _), (2, _)]) r_X10_next_26 rfl ?_
      refine EV.n0_eq r_X10_next_27 (fun h27 => ?_) (fun h27 => ?_)
      · omega
      · -- 27 f
        refine EV.l (lv' := [(0, _), (1, _), (2, _)]) r_X10_next_30 rfl ?_
        refine EV.o r_X10_next_31 (icZ (-1)) ?_
        refine EV.op_ne r_X10_next_32 (fun h32 => ?_) (fun h32 => ?_) (fun c ec_ => by have := nxt_lt ec_; omega)
        · -- 32 t
          obtain ⟨c, ec_⟩ := h32
          have hc9 := nxt_lt ec_
          rw [ec_, opI_some, opS_some]
          refine EV.l (lv' := [(0, _), (1, _), (2, _)]) r_X10_next_39 rfl ?_
          refine EV.gR r_X10_next_40 la_0 ?_
          refine EV.gR r_X10_next_43 la_71 ?_
          refine EV.l (lv' := [(0, _), (1, _), (2, _)]) r_X10_next_46 rfl ?_
          refine EV.cv r_X10_next_47 (aV1 mt_92 la_72) (c_getN (by omega) la_72 la_73 (hh.sa _ (by omega))) ?_
          exact EV.rv r_X10_next_50 (rfl)
        · -- 32 f
          rw [h32]
          refine EV.l (lv' := [(0, _), (1, _), (2, _)]) r_X10_next_35 rfl ?_
          refine EV.g r_X10_next_36 ?_
          exact EV.rv r_X10_next_50 (rfl)
theorem c_nextX {d : Nat} {I : Nat → Nat → Int32} {J : Nat → Nat → Int64} {κ : CT} (hc_ : HC 4 κ I) (cb : CB κ) {y : Int} (y1 : -2147483648 ≤ y) (y2 : y < 2147483648) (hy : ¬ (0 ≤ y ∧ y ≤ 1))  (hd : 9 ≤ d) : RX d 138 [.ref 0, .int (zI y)] I J 1 (fun I' => I' = ref1 I 14) := by
  refine RX.in (d0 := 8) hd mt_138 (Nat.le_of_ble_eq_true rfl) (fun d' hd' => ?_)
  have bns := cb.ns; have bnb := cb.nb; have bnc := cb.nc; have bnr := cb.nr
  have pn := Nat.two_pow_pos κ.ns; have qn := pow_ns cb; have pc := Nat.two_pow_pos κ.nc; have qc := pow_nc cb
  show EV none M_X10_next d' 0 [(0, .ref 0), (1, .int (zI y))] [] (hp I J) _
  refine EV.l (lv' := [(0, _), (1, _)]) r_X10_next_0 rfl ?_
  refine EV.l (lv' := [(0, _), (1, _)]) r_X10_next_1 rfl ?_
  refine EV.z0_eq r_X10_next_2 (fun h2 => ?_) (fun h2 => ?_)
  · -- 2 t
    refine EV.o r_X10_next_10 (icN (1) (v := 1)) ?_
    refine EV.g r_X10_next_11 ?_
    omega
  · -- 2 f
    refine EV.l (lv' := [(0, _), (1, _)]) r_X10_next_5 rfl ?_
    refine EV.o r_X10_next_6 (icN (1) (v := 1)) ?_
    refine EV.zn2_ne r_X10_next_7 (fun h7 => ?_) (fun h7 => ?_)
    · -- 7 t
      refine EV.o r_X10_next_14 (icN (0) (v := 0)) ?_
      exact EV.cx r_X10_next_15 (aV1 mt_159 la_0) (c_arg0 (by omega)) (fun _ h => h)
    · -- 7 f
      refine EV.o r_X10_next_10 (icN (1) (v := 1)) ?_
      refine EV.g r_X10_next_11 ?_
      omega
theorem c_side0 {d : Nat} {I : Nat → Nat → Int32} {J : Nat → Nat → Int64} {κ : CT} {η : HS} (hc_ : HC 4 κ I) (cb : CB κ) (hh : HH 71 η I) (hb_ : HB κ η) (hw : HW κ η) {s : Nat} (h : s < 2)  (hd : 9 ≤ d) : RV d 139 [.ref 0, .int (nI s), .int (nI 0)] I J (nI (wtOf κ (ofSd κ s &&& heard κ η η.mi) κ.ns)) := by
  refine RV.in (d0 := 8) hd mt_139 (Nat.le_of_ble_eq_true rfl) (fun d' hd' => ?_)
  have bns := cb.ns; have bnb := cb.nb; have bnc := cb.nc; have bnr := cb.nr
  have bm_ := hb_.mi
  have o9 : ofSd κ s < 512 := mk_ns cb _
  have o1 : ofSd κ s &&& heard κ η η.mi < 512 := and_lt9 o9; have o2 : ofSd κ s &&& η.nt < 512 := and_lt9 o9
  show EV none M_X10_side d' 0 [(0, .ref 0), (1, .int (nI s)), (2, .int (nI 0))] [] (hp I J) _
  refine EV.l (lv' := [(0, _), (1, _), (2, _)]) r_X10_side_0 rfl ?_
  refine EV.l (lv' := [(0, _), (1, _), (2, _)]) r_X10_side_1 rfl ?_
  refine EV.n0_eq r_X10_side_2 (fun h2 => ?_) (fun h2 => ?_)
  · -- 2 t
    refine EV.l (lv' := [(0, _), (1, _), (2, _)]) r_X10_side_10 rfl ?_
    refine EV.n0_lt r_X10_side_11 (fun h11 => ?_) (fun h11 => ?_)
    · omega
    · -- 11 f
      refine EV.l (lv' := [(0, _), (1, _), (2, _)]) r_X10_side_14 rfl ?_
      refine EV.o r_X10_side_15 (icN (2) (v := 2)) ?_
      refine EV.n2_gt r_X10_side_16 (fun h16 => ?_) (fun h16 => ?_)
      · omega
      · -- 16 f
        refine EV.o r_X10_side_19 (icN (1) (v := 1)) ?_
        refine EV.g r_X10_side_20 ?_
        refine EV.cu r_X10_side_24 (aV1 mt_159 la_0) (c_arg1 (by omega)) (fun I2 e2 => ?_)
        have e2 := e2.symm; subst e2
        refine EV.l (lv' := [(0, _), (1, _), (2, _)]) r_X10_side_27 rfl ?_
        refine EV.gR r_X10_side_28 la_0 ?_
        refine EV.l (lv' := [(0, _), (1, _), (2, _)]) r_X10_side_31 rfl ?_
        refine EV.cv r_X10_side_32 (aV1 mt_16 la_4) (b_ofSide hc_ cb (by omega) (by omega)) ?_
        refine EV.l (lv' := [(0, _), (1, _), (2, _), (3, _)]) r_X10_side_35 rfl ?_
        refine EV.l (lv' := [(0, _), (1, _), (2, _), (3, _)]) r_X10_side_36 rfl ?_
        refine EV.ls (q := 64) r_X10_side_37 (by decide +kernel) ?_
        refine EV.l (lv' := [(0, _), (1, _), (2, _), (3, _)]) r_X10_side_64 rfl ?_
        refine EV.gR r_X10_side_65 la_0 ?_
        refine EV.l (lv' := [(0, _), (1, _), (2, _), (3, _)]) r_X10_side_68 rfl ?_
        refine EV.l (lv' := [(0, _), (1, _), (2, _), (3, _)]) r_X10_side_69 rfl ?_
        refine EV.gR r_X10_side_70 la_0 ?_
        refine EV.l (lv' := [(0, _), (1, _), (2, _), (3, _)]) r_X10_side_73 rfl ?_
        refine EV.gR r_X10_side_74 la_0 ?_
        refine EV.getV r_X10_side_77 la_71 (hh.mi) ?_
        refine EV.cv r_X10_side_80 (aV1 mt_38 la_71) (c71_heard hc_ cb hh hb_ hw (by omega) (by omega)) ?_
        refine EV.o r_X10_side_83 iandN ?_
        refine EV.cv r_X10_side_84 (aV1 mt_17 la_4) (b_weight hc_ cb (by omega) (by omega)) ?_
        exact EV.rv r_X10_side_87 (rfl)
  · -- 2 f
    refine EV.l (lv' := [(0, _), (1, _), (2, _)]) r_X10_side_5 rfl ?_
    refine EV.o r_X10_side_6 (icN (1) (v := 1)) ?_
    refine EV.n2_ne r_X10_side_7 (fun h7 => ?_) (fun h7 => ?_)
    · -- 7 t
      refine EV.o r_X10_side_23 (icN (0) (v := 0)) ?_
      omega
    · -- 7 f
      refine EV.l (lv' := [(0, _), (1, _), (2, _)]) r_X10_side_10 rfl ?_
      refine EV.n0_lt r_X10_side_11 (fun h11 => ?_) (fun h11 => ?_)
      · omega
      · -- 11 f
        refine EV.l (lv' := [(0, _), (1, _), (2, _)]) r_X10_side_14 rfl ?_
        refine EV.o r_X10_side_15 (icN (2) (v := 2)) ?_
        refine EV.n2_gt r_X10_side_16 (fun h16 => ?_) (fun h16 => ?_)
        · omega
        · -- 16 f
          refine EV.o r_X10_side_19 (icN (1) (v := 1)) ?_
          refine EV.g r_X10_side_20 ?_
          refine EV.cu r_X10_side_24 (aV1 mt_159 la_0) (c_arg1 (by omega)) (fun I2 e2 => ?_)
          have e2 := e2.symm; subst e2
          refine EV.l (lv' := [(0, _), (1, _), (2, _)]) r_X10_side_27 rfl ?_
          refine EV.gR r_X10_side_28 la_0 ?_
          refine EV.l (lv' := [(0, _), (1, _), (2, _)]) r_X10_side_31 rfl ?_
          refine EV.cv r_X10_side_32 (aV1 mt_16 la_4) (b_ofSide hc_ cb (by omega) (by omega)) ?_
          refine EV.l (lv' := [(0, _), (1, _), (2, _), (3, _)]) r_X10_side_35 rfl ?_
          refine EV.l (lv' := [(0, _), (1, _), (2, _), (3, _)]) r_X10_side_36 rfl ?_
          refine EV.ls (q := 64) r_X10_side_37 (by decide +kernel) ?_
          refine EV.l (lv' := [(0, _), (1, _), (2, _), (3, _)]) r_X10_side_64 rfl ?_
          refine EV.gR r_X10_side_65 la_0 ?_
          refine EV.l (lv' := [(0, _), (1, _), (2, _), (3, _)]) r_X10_side_68 rfl ?_
          refine EV.l (lv' := [(0, _), (1, _), (2, _), (3, _)]) r_X10_side_69 rfl ?_
          refine EV.gR r_X10_side_70 la_0 ?_
          refine EV.l (lv' := [(0, _), (1, _), (2, _), (3, _)]) r_X10_side_73 rfl ?_
          refine EV.gR r_X10_side_74 la_0 ?_
          refine EV.getV r_X10_side_77 la_71 (hh.mi) ?_
          refine EV.cv r_X10_side_80 (aV1 mt_38 la_71) (c71_heard hc_ cb hh hb_ hw (by omega) (by omega)) ?_
          refine EV.o r_X10_side_83 iandN ?_
          refine EV.cv r_X10_side_84 (aV1 mt_17 la_4) (b_weight hc_ cb (by omega) (by omega)) ?_
          exact EV.rv r_X10_side_87 (rfl)
