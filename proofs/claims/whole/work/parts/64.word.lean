/-! Words. -/
section TX
variable {sc : Option (Nat × (Nat → Int32))} {M : MI} {d pc : Nat} {lv : LV} {st : List Value} {G : AH} {Q : (Option Value ⊕ Nat) → AH → Nat → Prop}
theorem EV.lcT {i : Instr} {len a pq : Nat} (hr : RW M pc i len a 1 pq) (h : ldop i a 1 = some (.ref (spc + 1 + a))) (k : EV sc M d pq lv (.ref (spc + 1 + a) :: st) G Q) (h1 : stk i st = none := by rfl) (h2 : locop i M.ml 1 lv st = none := by rfl) (h3 : jmp i a pc st = none := by rfl) (h4 : heapop FTY sc i a 1 st G = none := by rfl) : EV sc M d pc lv st G Q := EV.ldc hr.1 h (hr.2.symm ▸ k) h1 h2 h3 h4
theorem tx_o (k : Nat) : spc + 1 + k - spc - 1 = k := by omega
theorem prim_len {T : List (List Nat)} {o : Nat} {t : List Nat} (h : spc < o) (ht : T[o - spc - 1]? = some t) : prim T 902 [.ref o] G = some (.inl (some (.int (nI t.length))), G, 0, 0) := by
  have e : prim T 902 [.ref o] G = (if spc < o then (match T[o - spc - 1]? with | some t => some (.inl (some (.int (Int32.ofNat t.length))), G, 0, 0) | none => none) else none) := rfl
  rw [e, if_pos h, ht]
  rfl
theorem prim_chr {T : List (List Nat)} {o j : Nat} {t : List Nat} (h : spc < o) (ht : T[o - spc - 1]? = some t) (h2 : (nI j).toNatClampNeg = j) (hj : j < t.length) (h3 : ¬ nI j < 0) : prim T 903 [.ref o, .int (nI j)] G = some (.inl (some (.int (nI (t.getD j 0)))), G, 0, 0) := by
  have e : prim T 903 [.ref o, .int (nI j)] G = (if spc < o then (match T[o - spc - 1]? with | some t => if nI j < 0 ∨ t.length ≤ (nI j).toNatClampNeg then none else some (.inl (some (.int (Int32.ofNat (t.getD (nI j).toNatClampNeg 0)))), G, 0, 0) | none => none) else none) := rfl
  rw [e, if_pos h, ht]
  show ((if nI j < 0 ∨ t.length ≤ (nI j).toNatClampNeg then none else some (.inl (some (.int (Int32.ofNat (t.getD (nI j).toNatClampNeg 0)))), G, 0, 0)) : Option Res) = _
  rw [h2, if_neg (fun z => z.elim h3 (fun z => by omega))]
  rfl
theorem EV.tl {idx b k pq : Nat} {t : List Nat} (hr : RW M pc (.invokevirtual idx) 3 902 b pq) (ht : TXS[k]? = some t) (kk : EV sc M d pq lv (.int (nI t.length) :: st) G Q) (hw : Nat.ble (wcs st) 8 = true := by rfl) : EV sc M d pc lv (.ref (spc + 1 + k) :: st) G Q := by
  refine EV.prim (as := [.ref (spc + 1 + k)]) (rest := st) (v := some (.int (nI t.length))) hr.1 rfl (by decide) (by unfold invA npar recvOk; simp) (Nat.le_of_ble_eq_true hw) ?_ (hr.2.symm ▸ kk)
  exact prim_len (by omega) (by rw [tx_o]; exact ht)
theorem EV.tc {idx b k j pq : Nat} {t : List Nat} (hr : RW M pc (.invokevirtual idx) 3 903 b pq) (ht : TXS[k]? = some t) (kk : EV sc M d pq lv (.int (nI (t.getD j 0)) :: st) G Q) (hj : j < t.length := by omega) (hl : t.length < 100 := by omega) (hw : Nat.ble (wcs st) 8 = true := by rfl) : EV sc M d pc lv (.int (nI j) :: .ref (spc + 1 + k) :: st) G Q := by
  refine EV.prim (as := [.ref (spc + 1 + k), .int (nI j)]) (rest := st) (v := some (.int (nI (t.getD j 0)))) hr.1 rfl (by decide) (by unfold invA npar recvOk; simp) (Nat.le_of_ble_eq_true hw) ?_ (hr.2.symm ▸ kk)
  have h2 : (nI j).toNatClampNeg = j := nI_clamp (by omega)
  have h3 := nI_pos (n := j) (by omega)
  exact prim_chr (by omega) (by rw [tx_o]; exact ht) h2 hj h3
end TX
/-- the word t stands at s -/
def isW (g : Nat → Nat) (n s : Nat) (t : List Nat) : Bool := decide (kdp g n s = 2 ∧ pep g n s = s + t.length ∧ ∀ i, i < t.length → g (s + i) = t.getD i 0)
theorem isW_t {g : Nat → Nat} {n s : Nat} {t : List Nat} (h : kdp g n s = 2 ∧ pep g n s = s + t.length ∧ ∀ i, i < t.length → g (s + i) = t.getD i 0) : isW g n s t = true := decide_eq_true h
theorem isW_f {g : Nat → Nat} {n s : Nat} {t : List Nat} (h : ¬ (kdp g n s = 2 ∧ pep g n s = s + t.length ∧ ∀ i, i < t.length → g (s + i) = t.getD i 0)) : isW g n s t = false := decide_eq_false h
theorem pep_ge {g : Nat → Nat} {n s : Nat} (hs : s ≤ n) : s ≤ pep g n s := by
  unfold pep
  (repeat' split) <;> first | exact scp_ge hs | omega
theorem kd2_pe {g : Nat → Nat} {n s : Nat} (h : kdp g n s = 2) : s < n ∧ pep g n s = scp isL g n s ∧ isL (g s) = true := by
  by_cases z : n ≤ s
  · rw [(kd_0 z).1] at h; exact absurd h (by decide)
  · cases h1 : isD (g s) with
    | true => rw [(kd_1 (by omega) h1).1] at h; exact absurd h (by decide)
    | false =>
      cases h2 : isL (g s) with
      | true => exact ⟨by omega, (kd_2 (by omega) h1 h2).2, rfl⟩
      | false => rw [(kd_3 (by omega) h1 h2).1] at h; exact absurd h (by decide)
/-- all of t are letters, and there is one -/
def ltr (t : List Nat) : Prop := 0 < t.length ∧ ∀ i, i < t.length → isL (t.getD i 0) = true
theorem run_l {g : Nat → Nat} {n s m : Nat} (h : ∀ i, i < m → s + i < n ∧ isL (g (s + i)) = true) : scp isL g n s = scp isL g n (s + m) := by
  induction m with
  | zero => rfl
  | succ m ih => rw [ih (fun i hi => h i (by omega))]; exact scp_go (h m (by omega)).1 (h m (by omega)).2
theorem isL_D {x : Nat} (h : isL x = true) : isD x = false := by
  have h2 : 97 ≤ x ∧ x ≤ 122 := of_decide_eq_true h
  exact decide_eq_false (by omega)
theorem ltr.b {t : List Nat} (h : ltr t) {i : Nat} (hi : i < t.length) : t.getD i 0 < 123 := by
  have h2 : 97 ≤ t.getD i 0 ∧ t.getD i 0 ≤ 122 := of_decide_eq_true (h.2 i hi)
  omega
/-- as the model sees it -/
theorem isW_m {g : Nat → Nat} {n s : Nat} {t : List Nat} (lt : ltr t) (hs : s ≤ n) : isW g n s t = true ↔ (∀ i, i < t.length → s + i < n ∧ g (s + i) = t.getD i 0) ∧ (n ≤ s + t.length ∨ isL (g (s + t.length)) = false) := by
  constructor
  · intro h
    have h2 : kdp g n s = 2 ∧ pep g n s = s + t.length ∧ ∀ i, i < t.length → g (s + i) = t.getD i 0 := of_decide_eq_true h
    have h3 := kd2_pe h2.1
    have h4 := pep_le (g := g) hs
    refine ⟨fun i hi => ⟨by omega, h2.2.2 i hi⟩, ?_⟩
    have h5 := scp_at (p := isL) (g := g) hs
    rw [← h3.2.1, h2.2.1] at h5
    exact h5
  · intro h
    have h0 := h.1 0 lt.1
    have e0 : isL (g s) = true := by have := lt.2 0 lt.1; rw [← h0.2] at this; exact this
    have k2 := kd_2 (g := g) (n := n) (s := s) (by omega) (isL_D e0) e0
    have r := run_l (g := g) (n := n) (s := s) (m := t.length) (fun i hi => ⟨(h.1 i hi).1, by rw [(h.1 i hi).2]; exact lt.2 i hi⟩)
    exact isW_t ⟨k2.1, by rw [k2.2, r]; exact scp_no h.2, fun i hi => (h.1 i hi).2⟩
theorem isW_no {g : Nat → Nat} {n s : Nat} {t : List Nat} (lt : ltr t) (hs : s ≤ n) (h : ¬ ((∀ i, i < t.length → s + i < n ∧ g (s + i) = t.getD i 0) ∧ (n ≤ s + t.length ∨ isL (g (s + t.length)) = false))) : isW g n s t = false := by
  cases e : isW g n s t with
  | false => rfl
  | true => exact absurd ((isW_m lt hs).mp e) h
theorem r_X6_seesWord_0 : RW M_X6_seesWord 0 (.aload_n 0) 1 0 0 1 := ⟨rfl, rfl⟩
theorem r_X6_seesWord_1 : RW M_X6_seesWord 1 (.getfield 53) 3 6 3 4 := ⟨rfl, rfl⟩
theorem r_X6_seesWord_4 : RW M_X6_seesWord 4 (.iconst 2) 1 0 0 5 := ⟨rfl, rfl⟩
theorem r_X6_seesWord_5 : RW M_X6_seesWord 5 (.if_icmp .ne 19) 3 24 0 8 := ⟨rfl, rfl⟩
theorem r_X6_seesWord_8 : RW M_X6_seesWord 8 (.aload_n 0) 1 0 0 9 := ⟨rfl, rfl⟩
theorem r_X6_seesWord_9 : RW M_X6_seesWord 9 (.getfield 37) 3 6 5 12 := ⟨rfl, rfl⟩
theorem r_X6_seesWord_12 : RW M_X6_seesWord 12 (.aload_n 0) 1 0 0 13 := ⟨rfl, rfl⟩
theorem r_X6_seesWord_13 : RW M_X6_seesWord 13 (.getfield 47) 3 6 4 16 := ⟨rfl, rfl⟩
theorem r_X6_seesWord_16 : RW M_X6_seesWord 16 (.isub) 1 0 0 17 := ⟨rfl, rfl⟩
theorem r_X6_seesWord_17 : RW M_X6_seesWord 17 (.aload_n 1) 1 0 0 18 := ⟨rfl, rfl⟩
theorem r_X6_seesWord_18 : RW M_X6_seesWord 18 (.invokevirtual 70) 3 902 0 21 := ⟨rfl, rfl⟩
theorem r_X6_seesWord_21 : RW M_X6_seesWord 21 (.if_icmp .eq 5) 3 26 0 24 := ⟨rfl, rfl⟩
theorem r_X6_seesWord_24 : RW M_X6_seesWord 24 (.iconst 0) 1 0 0 25 := ⟨rfl, rfl⟩
theorem r_X6_seesWord_25 : RW M_X6_seesWord 25 (.ireturn) 1 0 0 26 := ⟨rfl, rfl⟩
theorem r_X6_seesWord_26 : RW M_X6_seesWord 26 (.iconst 0) 1 0 0 27 := ⟨rfl, rfl⟩
theorem r_X6_seesWord_27 : RW M_X6_seesWord 27 (.istore_n 2) 1 0 0 28 := ⟨rfl, rfl⟩
theorem r_X6_seesWord_28 : RW M_X6_seesWord 28 (.iload_n 2) 1 0 0 29 := ⟨rfl, rfl⟩
theorem r_X6_seesWord_29 : RW M_X6_seesWord 29 (.aload_n 1) 1 0 0 30 := ⟨rfl, rfl⟩
theorem r_X6_seesWord_30 : RW M_X6_seesWord 30 (.invokevirtual 70) 3 902 0 33 := ⟨rfl, rfl⟩
theorem r_X6_seesWord_33 : RW M_X6_seesWord 33 (.if_icmp .ge 32) 3 65 0 36 := ⟨rfl, rfl⟩
theorem r_X6_seesWord_36 : RW M_X6_seesWord 36 (.aload_n 0) 1 0 0 37 := ⟨rfl, rfl⟩
theorem r_X6_seesWord_37 : RW M_X6_seesWord 37 (.getfield 14) 3 6 0 40 := ⟨rfl, rfl⟩
theorem r_X6_seesWord_40 : RW M_X6_seesWord 40 (.aload_n 0) 1 0 0 41 := ⟨rfl, rfl⟩
theorem r_X6_seesWord_41 : RW M_X6_seesWord 41 (.getfield 47) 3 6 4 44 := ⟨rfl, rfl⟩
theorem r_X6_seesWord_44 : RW M_X6_seesWord 44 (.iload_n 2) 1 0 0 45 := ⟨rfl, rfl⟩
theorem r_X6_seesWord_45 : RW M_X6_seesWord 45 (.iadd) 1 0 0 46 := ⟨rfl, rfl⟩
theorem r_X6_seesWord_46 : RW M_X6_seesWord 46 (.invokevirtual 43) 3 92 0 49 := ⟨rfl, rfl⟩
theorem r_X6_seesWord_49 : RW M_X6_seesWord 49 (.aload_n 1) 1 0 0 50 := ⟨rfl, rfl⟩
theorem r_X6_seesWord_50 : RW M_X6_seesWord 50 (.iload_n 2) 1 0 0 51 := ⟨rfl, rfl⟩
theorem r_X6_seesWord_51 : RW M_X6_seesWord 51 (.invokevirtual 75) 3 903 0 54 := ⟨rfl, rfl⟩
theorem r_X6_seesWord_54 : RW M_X6_seesWord 54 (.if_icmp .eq 5) 3 59 0 57 := ⟨rfl, rfl⟩
theorem r_X6_seesWord_57 : RW M_X6_seesWord 57 (.iconst 0) 1 0 0 58 := ⟨rfl, rfl⟩
theorem r_X6_seesWord_58 : RW M_X6_seesWord 58 (.ireturn) 1 0 0 59 := ⟨rfl, rfl⟩
theorem r_X6_seesWord_59 : RW M_X6_seesWord 59 (.iinc 2 1) 3 0 0 62 := ⟨rfl, rfl⟩
theorem r_X6_seesWord_62 : RW M_X6_seesWord 62 (.goto (-34)) 3 28 0 65 := ⟨rfl, rfl⟩
theorem r_X6_seesWord_65 : RW M_X6_seesWord 65 (.iconst 1) 1 0 0 66 := ⟨rfl, rfl⟩
theorem r_X6_seesWord_66 : RW M_X6_seesWord 66 (.ireturn) 1 0 0 67 := ⟨rfl, rfl⟩
theorem c_wordG {d : Nat} {I : Nat → Nat → Int32} {J : Nat → Nat → Int64} {g : Nat → Nat} {n s : Nat} (tp : ∀ j, j < 600 → I 3 j = nI (g j)) (gb : ∀ j, g j < 256) (hn : n ≤ 600) (rg : RG g n s I) {k : Nat} {t : List Nat} (ht : TXS[k]? = some t) (tl : t.length < 100) (lt : ltr t)  (hd : 2 ≤ d) : RV d 84 [.ref 1, .ref (spc + 1 + k)] I J (bI (isW g n s t)) := by
  refine RV.in (d0 := 1) hd mt_84 (Nat.le_of_ble_eq_true rfl) (fun d' hd' => ?_)
  have k4 := kdp_lt (g := g) (n := n) (s := s)
  have sn := rg.sn
  have pg := pep_ge (g := g) rg.sn
  have pl_ := pep_le (g := g) rg.sn
  show EV none M_X6_seesWord d' 0 [(0, .ref 1), (1, .ref (spc + 1 + k))] [] (hp I J) _
  refine EV.l (lv' := [(0, _), (1, _)]) r_X6_seesWord_0 rfl ?_
  refine EV.getV r_X6_seesWord_1 la_1 (rg.rc.kd) ?_
  refine EV.o r_X6_seesWord_4 (icN (2) (v := 2)) ?_
  refine EV.n2_ne r_X6_seesWord_5 (fun h5 => ?_) (fun h5 => ?_)
  · -- 5 t
    refine EV.o r_X6_seesWord_24 (icN (0) (v := 0)) ?_
    exact EV.rv r_X6_seesWord_25 (by rw [isW_f (by omega)]; rfl)
  · -- 5 f
    refine EV.l (lv' := [(0, _), (1, _)]) r_X6_seesWord_8 rfl ?_
    refine EV.getV r_X6_seesWord_9 la_1 (rg.rc.pe) ?_
    refine EV.l (lv' := [(0, _), (1, _)]) r_X6_seesWord_12 rfl ?_
    refine EV.getV r_X6_seesWord_13 la_1 (rg.rc.st) ?_
    refine EV.o r_X6_seesWord_16 (isubN) ?_
    refine EV.l (lv' := [(0, _), (1, _)]) r_X6_seesWord_17 rfl ?_
    refine EV.tl r_X6_seesWord_18 ht ?_
    refine EV.n2_eq r_X6_seesWord_21 (fun h21 => ?_) (fun h21 => ?_)
    · -- 21 t
      refine EV.o r_X6_seesWord_26 (icN (0) (v := 0)) ?_
      refine EV.l (lv' := [(0, _), (1, _), (2, _)]) r_X6_seesWord_27 rfl ?_
      have L28 : ∀ y_ : Nat, (fun i => (i ≤ t.length ∧ ∀ j, j < i → g (s + j) = t.getD j 0) → EV none M_X6_seesWord d' 28 [(0, .ref 1), (1, .ref (spc + 1 + k)), (2, .int (nI i))] [] (hp I J) (QV I J (bI (isW g n s t)))) y_ := by
        refine ev_loop (fun i => t.length - i) ?_
        intro i ih28 hx28
        try dsimp only at ih28
        try dsimp only at hx28
        try dsimp only
        refine EV.l (lv' := [(0, _), (1, _), (2, _)]) r_X6_seesWord_28 rfl ?_
        refine EV.l (lv' := [(0, _), (1, _), (2, _)]) r_X6_seesWord_29 rfl ?_
        refine EV.tl r_X6_seesWord_30 ht ?_
        refine EV.n2_ge r_X6_seesWord_33 (fun h33 => ?_) (fun h33 => ?_)
        · -- 33 t
          refine EV.o r_X6_seesWord_65 (icN (1) (v := 1)) ?_
          exact EV.rv r_X6_seesWord_66 (by rw [isW_t ⟨by omega, by omega, fun j hj => hx28.2 j (by omega)⟩]; rfl)
        · -- 33 f
          have gb1 := gb (s + i)
          have tb_ := lt.b (i := i) (by omega)
          refine EV.l (lv' := [(0, _), (1, _), (2, _)]) r_X6_seesWord_36 rfl ?_
          refine EV.gR r_X6_seesWord_37 la_1 ?_
          refine EV.l (lv' := [(0, _), (1, _), (2, _)]) r_X6_seesWord_40 rfl ?_
          refine EV.getV r_X6_seesWord_41 la_1 (rg.rc.st) ?_
          refine EV.l (lv' := [(0, _), (1, _), (2, _)]) r_X6_seesWord_44 rfl ?_
          refine EV.o r_X6_seesWord_45 iaddN ?_
          refine EV.cv r_X6_seesWord_46 (aV1 mt_92 la_2) (c_tp tp (by omega) (by omega)) ?_
          refine EV.l (lv' := [(0, _), (1, _), (2, _)]) r_X6_seesWord_49 rfl ?_
          refine EV.l (lv' := [(0, _), (1, _), (2, _)]) r_X6_seesWord_50 rfl ?_
          refine EV.tc r_X6_seesWord_51 ht ?_
          refine EV.n2_eq r_X6_seesWord_54 (fun h54 => ?_) (fun h54 => ?_)
          · -- 54 t
            refine EV.l (lv' := [(0, _), (1, _), (2, _)]) r_X6_seesWord_59 rfl ?_
            rw [inc_nI]
            refine EV.g r_X6_seesWord_62 ?_
            refine EV.sub ?_ rfl ?_ (ih28 (i + 1) ?_ ?_)
            · rfl
            · rfl
            · omega
            · exact ⟨by omega, fun j hj => by by_cases z : j = i; (rw [z]; exact h54); exact hx28.2 j (by omega)⟩
          · -- 54 f
            refine EV.o r_X6_seesWord_57 (icN (0) (v := 0)) ?_
            exact EV.rv r_X6_seesWord_58 (by rw [isW_f (fun z => h54 (z.2.2 i (by omega)))]; rfl)
      have h0 := L28 (0)
      try dsimp only at h0
      refine EV.sub ?_ rfl ?_ (h0 ?_)
      · rfl
      · rfl
      · exact ⟨Nat.zero_le _, fun j hj => absurd hj (Nat.not_lt_zero j)⟩
    · -- 21 f
      refine EV.o r_X6_seesWord_24 (icN (0) (v := 0)) ?_
      exact EV.rv r_X6_seesWord_25 (by rw [isW_f (by omega)]; rfl)
theorem c_wordB {d : Nat} {I : Nat → Nat → Int32} {J : Nat → Nat → Int64} {n k f m : Nat} (rb : RB n k f I)  (hd : 1 ≤ d) : RV d 84 [.ref 1, .ref (spc + 1 + m)] I J (bI false) := by
  refine RV.in (d0 := 0) hd mt_84 (Nat.le_of_ble_eq_true rfl) (fun d' hd' => ?_)
  show EV none M_X6_seesWord d' 0 [(0, .ref 1), (1, .ref (spc + 1 + m))] [] (hp I J) _
  refine EV.l (lv' := [(0, _), (1, _)]) r_X6_seesWord_0 rfl ?_
  refine EV.getV r_X6_seesWord_1 la_1 (rb.kd) ?_
  refine EV.o r_X6_seesWord_4 (icN (2) (v := 2)) ?_
  refine EV.n2_ne r_X6_seesWord_5 (fun h5 => ?_) (fun h5 => ?_)
  · -- 5 t
    refine EV.o r_X6_seesWord_24 (icN (0) (v := 0)) ?_
    exact EV.rv r_X6_seesWord_25 (rfl)
  · omega
