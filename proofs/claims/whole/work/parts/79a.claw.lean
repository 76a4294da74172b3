/-! A LAW is read: the class. -/
theorem tx_5 : TXS[5]? = some tLeast := by decide
theorem tx_6 : TXS[6]? = some tMost := by decide
theorem tx_7 : TXS[7]? = some tSteps := by decide
theorem tx_8 : TXS[8]? = some tBegin := by decide
theorem tx_9 : TXS[9]? = some tCrumbs := by decide
theorem tx_10 : TXS[10]? = some tLed := by decide
theorem tx_11 : TXS[11]? = some tNotes := by decide
theorem tx_12 : TXS[12]? = some tBird := by decide
def ecd (w o : Nat) : Int := if w = 0 then (o : Int) else if w = 1 then -1 - (o : Int) else opc w
theorem enc_put {l : LW} {w o k : Nat} : enc (addc l w o) k = if k = l.n then ecd w o else enc l k := by
  show (if put l.what l.n w k = 0 then ((put l.of l.n o k : Nat) : Int) else if put l.what l.n w k = 1 then -1 - ((put l.of l.n o k : Nat) : Int) else opc (put l.what l.n w k)) = _
  by_cases e : k = l.n
  · subst e
    rw [put_s, put_s, if_pos rfl]
    rfl
  · rw [put_n e, put_n e, if_neg e]
    rfl
theorem HL.add {l : LW} {w o : Nat} {I I' : Nat → Nat → Int32} (h : HL 53 l I) (e1 : I' 53 3 = nI (l.n + 1)) (e2 : I' 55 = wr I 55 l.n (zI (ecd w o)) 55) : HL 53 (addc l w o) I' := by
  refine ⟨e1, fun k hk => ?_⟩
  have hk : k < l.n + 1 := hk
  show I' 55 k = _
  rw [e2, enc_put]
  by_cases e : k = l.n
  · subst e
    rw [if_pos rfl]
    exact wr_same
  · rw [if_neg e, wr_ne (Or.inr e)]
    exact h.pa k (by omega)
def LSc (g : Nat → Nat) (n : Nat) (x : LX) (I : Nat → Nat → Int32) : Prop := (∀ j, j < 600 → I 3 j = nI (g j)) ∧ RD g n x.2 I ∧ ∀ s, x.2 = .inl s → HL 53 x.1 I ∧ x.1.n ≤ s
/-- the Reader and the scratch law alone were at work -/
def LF (I I' : Nat → Nat → Int32) : Prop := ∀ o, o ≠ 1 → o ≠ 53 → o ≠ 55 → I' o = I o
theorem LF.rf {I : Nat → Nat → Int32} : LF I I := fun _ _ _ _ => rfl
theorem LF.tr {I I1 I2 : Nat → Nat → Int32} (h : LF I I1) (h2 : LF I1 I2) : LF I I2 := fun o a b c => (h2 o a b c).trans (h o a b c)
theorem RO.lf {I I' : Nat → Nat → Int32} (h : RO I I') : LF I I' := fun o a _ _ => h o a
theorem HL.ro {l : LW} {I I' : Nat → Nat → Int32} (h : HL 53 l I) (f : RO I I') : HL 53 l I' := h.fr (f _ (by decide)) (f _ (by decide))
/-- a step of the Reader -/
theorem LSc.ro {g : Nat → Nat} {n : Nat} {x : LX} {r2 : RST} {I I' : Nat → Nat → Int32} (h : LSc g n x I) (rd : RD g n r2 I') (f : RO I I') (hp : ∀ s2, r2 = .inl s2 → ∃ s, x.2 = .inl s ∧ s ≤ s2) : LSc g n (x.1, r2) I' := by
  refine ⟨tp_fr h.1 (f 3 (by decide)), rd, fun s2 e => ?_⟩
  obtain ⟨s, e1, h1⟩ := hp s2 e
  have z := h.2.2 s e1
  exact ⟨z.1.ro f, Nat.le_trans z.2 h1⟩
theorem LSc.adv {g : Nat → Nat} {n s : Nat} {x : LX} {I I' : Nat → Nat → Int32} (h : LSc g n x I) (e : x.2 = .inl s) (hs : s < n) (rc : RCp g n (nxp g n s) I') (f : RFr I I') : LSc g n (x.1, .inl (nxp g n s)) I' := by
  have rg : RG g n s I := by have z := h.2.1; rw [e] at z; exact z
  exact h.ro (r2 := .inl (nxp g n s)) (rg.ad rc f) f.1 (fun s2 e2 => by cases e2; exact ⟨s, e, Nat.le_of_lt (nxp_gt hs)⟩)
theorem LSc.sgn {g : Nat → Nat} {n c : Nat} {x : LX} {I I' : Nat → Nat → Int32} (h : LSc g n x I) (rd : RD g n (tkS g n c x.2) I') (f : RO I I') : LSc g n (x.1, tkS g n c x.2) I' := h.ro rd f (fun s2 e => by obtain ⟨s, e1, h1⟩ := tkS_q e; exact ⟨s, e1, Nat.le_of_lt h1.1⟩)
theorem LSc.rg {g : Nat → Nat} {n s : Nat} {l : LW} {I : Nat → Nat → Int32} (h : LSc g n (l, .inl s) I) : RG g n s I := h.2.1
theorem LSc.rg2 {g : Nat → Nat} {n s : Nat} {x : LX} {I : Nat → Nat → Int32} (h : LSc g n x I) (e : x.2 = .inl s) : RG g n s I := by have z := h.2.1; rw [e] at z; exact z
def CUn (j D k : Nat) (g : Nat → Nat) (n : Nat) (f : LX → LX) : Prop := ∀ (d : Nat) (I : Nat → Nat → Int32) (J : Nat → Nat → Int64) (x : LX), D ≤ d → LSc g n x I → RU d j [.ref 53, .ref 1, .int (nI k)] I J (fun I' => LSc g n (f x) I' ∧ LF I I')
theorem seS_t {g : Nat → Nat} {n c : Nat} {r : RST} (h : seS g n c r = true) : ∃ s, r = .inl s ∧ kdp g n s = 3 ∧ g s = c := by
  cases r with
  | inl s => exact ⟨s, rfl, of_decide_eq_true h⟩
  | inr q => exact absurd (show false = true from h) (by decide)
theorem seS_f {g : Nat → Nat} {n c : Nat} {r : RST} (h : seS g n c r = false) {s : Nat} (e : r = .inl s) : ¬ (kdp g n s = 3 ∧ g s = c) := by
  subst e
  exact of_decide_eq_false h
theorem c_seesS1 {d : Nat} {I : Nat → Nat → Int32} {J : Nat → Nat → Int64} {g : Nat → Nat} {n c : Nat} {r : RST} (rd : RD g n r I) (gb : ∀ j, g j < 256) (h : seS g n c r = true) (hc2 : c < 256) (hd : 1 ≤ d) : RV d 83 [.ref 1, .int (nI c)] I J (nI 1) := by
  have z := c_seesS (J := J) rd gb hc2 hd
  rw [h] at z
  exact z
theorem c_seesS0 {d : Nat} {I : Nat → Nat → Int32} {J : Nat → Nat → Int64} {g : Nat → Nat} {n c : Nat} {r : RST} (rd : RD g n r I) (gb : ∀ j, g j < 256) (h : seS g n c r = false) (hc2 : c < 256) (hd : 1 ≤ d) : RV d 83 [.ref 1, .int (nI c)] I J (nI 0) := by
  have z := c_seesS (J := J) rd gb hc2 hd
  rw [h] at z
  exact z
theorem c_wordB0 {d : Nat} {I : Nat → Nat → Int32} {J : Nat → Nat → Int64} {n k f m : Nat} (rb : RB n k f I) (hd : 1 ≤ d) : RV d 84 [.ref 1, .ref (spc + 1 + m)] I J (nI 0) := c_wordB rb hd
theorem c_seesNB0 {d : Nat} {I : Nat → Nat → Int32} {J : Nat → Nat → Int64} {n k f : Nat} (rb : RB n k f I) (hd : 1 ≤ d) : RV d 82 [.ref 1] I J (nI 0) := c_seesNB rb hd
theorem c_seesSB0 {d : Nat} {I : Nat → Nat → Int32} {J : Nat → Nat → Int64} {n k f : Nat} {x : Int32} (rb : RB n k f I) (hd : 1 ≤ d) : RV d 83 [.ref 1, .int x] I J (nI 0) := c_seesSB rb hd
theorem row_any {z : Int} {n : Nat} (h1 : -2147483648 ≤ z) (h2 : z < 2147483648) : (∃ j : Nat, j < n ∧ zI z = nI j) ∨ (z < 0 ∨ (n : Int) ≤ z) := by
  by_cases h : z < 0 ∨ (n : Int) ≤ z
  · exact Or.inr h
  · refine Or.inl ⟨z.toNat, by omega, ?_⟩
    rw [← zI_nat, show ((z.toNat : Nat) : Int) = z by omega]
/-- where the reading of a chain of signs stands -/
def LSI (g : Nat → Nat) (n : Nat) (op : Nat → Nat) (f : LX → LX) (x0 : LX) (I : Nat → Nat → Int32) (i : Nat) (x : LX) (M : Nat → Nat → Int32) : Prop := LSc g n x M ∧ LF I M ∧ i ≤ 150 ∧ (∀ s, x.2 = .inl s → i ≤ s) ∧ lop g n op f (150 - i) x = lop g n op f 150 x0
theorem LSI.fin {g : Nat → Nat} {n i : Nat} {op : Nat → Nat} {f : LX → LX} {x0 x : LX} {I M : Nat → Nat → Int32} (h : LSI g n op f x0 I i x M) (e : ∀ s, x.2 = .inl s → op s = 0) : LSc g n (lop g n op f 150 x0) M ∧ LF I M := by
  have z := h.2.2.2.2
  rw [lop_stop e] at z
  rw [← z]
  exact ⟨h.1, h.2.1⟩
theorem LSI.full {g : Nat → Nat} {n i : Nat} {op : Nat → Nat} {f : LX → LX} {x0 x : LX} {I M : Nat → Nat → Int32} (h : LSI g n op f x0 I i x M) (hop : ∀ s, op s ≠ 0 → kdp g n s = 3 ∧ 2 ≤ op s ∧ op s ≤ 8) (hn : n ≤ 150) (hi : 150 ≤ i) : ∀ s, x.2 = .inl s → op s = 0 := fun s e => Classical.byContradiction fun z => by
  have a := op_lt hop z
  have b := h.2.2.2.1 s e
  omega
theorem LSI.next {g : Nat → Nat} {n i s w : Nat} {op : Nat → Nat} {f : LX → LX} {x0 x : LX} {I M M2 : Nat → Nat → Int32} (h : LSI g n op f x0 I i x M) (pf : PG g n f) (hop : ∀ s, op s ≠ 0 → kdp g n s = 3 ∧ 2 ≤ op s ∧ op s ≤ 8) (e : x.2 = .inl s) (hw : op s = w) (hw0 : w ≠ 0) (hi : i < 150) (ls : LSc g n (addc (f (x.1, .inl (nxp g n s))).1 w 0, (f (x.1, .inl (nxp g n s))).2) M2) (lf : LF M M2) : LSI g n op f x0 I (i + 1) (addc (f (x.1, .inl (nxp g n s))).1 w 0, (f (x.1, .inl (nxp g n s))).2) M2 := by
  have ho : op s ≠ 0 := by rw [hw]; exact hw0
  have a := op_lt hop ho
  refine ⟨ls, h.2.1.tr lf, hi, fun s2 e2 => ?_, ?_⟩
  · have p := pf.2 x.1 (nxp g n s) s2 (nxp_le (Nat.le_of_lt a.1)) e2
    have b := h.2.2.2.1 s e
    omega
  · rw [← h.2.2.2.2, show 150 - i = 150 - (i + 1) + 1 by omega]
    obtain ⟨l, r⟩ := x
    have e : r = .inl s := e
    subst e
    rw [lop_go ho, hw]
/-- behind a unit there is room for one code more -/
theorem PG.lt {g : Nat → Nat} {n s : Nat} {f : LX → LX} (pf : PG g n f) {l : LW} (hs : s < n) (hl : l.n ≤ s) : ∀ s2, (f (l, .inl (nxp g n s))).2 = .inl s2 → (f (l, .inl (nxp g n s))).1.n < s2 := fun s2 e => by
  have p := pf.2 l (nxp g n s) s2 (nxp_le (Nat.le_of_lt hs)) e
  have a := nxp_gt (g := g) hs
  omega
theorem opSu_2 {g : Nat → Nat} {n s : Nat} (h : kdp g n s = 3 ∧ g s = 43) : opSu g n s = 2 := if_pos h
theorem opSu_3b {g : Nat → Nat} {n s : Nat} (h0 : ¬ (kdp g n s = 3 ∧ g s = 43)) (h : kdp g n s = 3 ∧ g s = 45) : opSu g n s = 3 := (if_neg h0).trans (if_pos h)
theorem opSu_0 {g : Nat → Nat} {n s : Nat} (h0 : ¬ (kdp g n s = 3 ∧ g s = 43)) (h : ¬ (kdp g n s = 3 ∧ g s = 45)) : opSu g n s = 0 := (if_neg h0).trans (if_neg h)
theorem opPr_4 {g : Nat → Nat} {n s : Nat} (h : kdp g n s = 3 ∧ g s = 42) : opPr g n s = 4 := if_pos h
theorem opPr_5 {g : Nat → Nat} {n s : Nat} (h0 : ¬ (kdp g n s = 3 ∧ g s = 42)) (h : kdp g n s = 3 ∧ g s = 47) : opPr g n s = 5 := (if_neg h0).trans (if_pos h)
theorem opPr_8 {g : Nat → Nat} {n s : Nat} (h0 : ¬ (kdp g n s = 3 ∧ g s = 42)) (h1 : ¬ (kdp g n s = 3 ∧ g s = 47)) (h : kdp g n s = 3 ∧ g s = 37) : opPr g n s = 8 := (if_neg h0).trans ((if_neg h1).trans (if_pos h))
theorem opPr_0 {g : Nat → Nat} {n s : Nat} (h0 : ¬ (kdp g n s = 3 ∧ g s = 42)) (h1 : ¬ (kdp g n s = 3 ∧ g s = 47)) (h : ¬ (kdp g n s = 3 ∧ g s = 37)) : opPr g n s = 0 := (if_neg h0).trans ((if_neg h1).trans (if_neg h))
theorem r_X3_addPart_0 : RW M_X3_addPart 0 (.aload_n 0) 1 0 0 1 := ⟨rfl, rfl⟩
theorem r_X3_addPart_1 : RW M_X3_addPart 1 (.getfield 14) 3 3 0 4 := ⟨rfl, rfl⟩
theorem r_X3_addPart_4 : RW M_X3_addPart 4 (.aload_n 0) 1 0 0 5 := ⟨rfl, rfl⟩
theorem r_X3_addPart_5 : RW M_X3_addPart 5 (.getfield 30) 3 3 3 8 := ⟨rfl, rfl⟩
theorem r_X3_addPart_8 : RW M_X3_addPart 8 (.iload_n 1) 1 0 0 9 := ⟨rfl, rfl⟩
theorem r_X3_addPart_9 : RW M_X3_addPart 9 (.invokevirtual 26) 3 93 0 12 := ⟨rfl, rfl⟩
theorem r_X3_addPart_12 : RW M_X3_addPart 12 (.aload_n 0) 1 0 0 13 := ⟨rfl, rfl⟩
theorem r_X3_addPart_13 : RW M_X3_addPart 13 (.dup) 1 0 0 14 := ⟨rfl, rfl⟩
theorem r_X3_addPart_14 : RW M_X3_addPart 14 (.getfield 30) 3 3 3 17 := ⟨rfl, rfl⟩
theorem r_X3_addPart_17 : RW M_X3_addPart 17 (.iconst 1) 1 0 0 18 := ⟨rfl, rfl⟩
theorem r_X3_addPart_18 : RW M_X3_addPart 18 (.iadd) 1 0 0 19 := ⟨rfl, rfl⟩
theorem r_X3_addPart_19 : RW M_X3_addPart 19 (.putfield 30) 3 3 3 22 := ⟨rfl, rfl⟩
theorem r_X3_addPart_22 : RW M_X3_addPart 22 (.return_) 1 0 0 23 := ⟨rfl, rfl⟩
theorem r_X3_readChoice_0 : RW M_X3_readChoice 0 (.aload_n 1) 1 0 0 1 := ⟨rfl, rfl⟩
theorem r_X3_readChoice_1 : RW M_X3_readChoice 1 (.iload_n 2) 1 0 0 2 := ⟨rfl, rfl⟩
theorem r_X3_readChoice_2 : RW M_X3_readChoice 2 (.bipush 6) 2 0 0 4 := ⟨rfl, rfl⟩
theorem r_X3_readChoice_4 : RW M_X3_readChoice 4 (.if_icmp .ge 7) 3 11 0 7 := ⟨rfl, rfl⟩
theorem r_X3_readChoice_7 : RW M_X3_readChoice 7 (.iconst 1) 1 0 0 8 := ⟨rfl, rfl⟩
theorem r_X3_readChoice_8 : RW M_X3_readChoice 8 (.goto 4) 3 12 0 11 := ⟨rfl, rfl⟩
theorem r_X3_readChoice_11 : RW M_X3_readChoice 11 (.iconst 0) 1 0 0 12 := ⟨rfl, rfl⟩
theorem r_X3_readChoice_12 : RW M_X3_readChoice 12 (.invokevirtual 74) 3 87 0 15 := ⟨rfl, rfl⟩
theorem r_X3_readChoice_15 : RW M_X3_readChoice 15 (.ifCond .eq 42) 3 57 0 18 := ⟨rfl, rfl⟩
theorem r_X3_readChoice_18 : RW M_X3_readChoice 18 (.aload_n 1) 1 0 0 19 := ⟨rfl, rfl⟩
theorem r_X3_readChoice_19 : RW M_X3_readChoice 19 (.bipush 91) 2 0 0 21 := ⟨rfl, rfl⟩
theorem r_X3_readChoice_21 : RW M_X3_readChoice 21 (.invokevirtual 78) 3 86 0 24 := ⟨rfl, rfl⟩
theorem r_X3_readChoice_24 : RW M_X3_readChoice 24 (.aload_n 0) 1 0 0 25 := ⟨rfl, rfl⟩
theorem r_X3_readChoice_25 : RW M_X3_readChoice 25 (.aload_n 1) 1 0 0 26 := ⟨rfl, rfl⟩
theorem r_X3_readChoice_26 : RW M_X3_readChoice 26 (.iload_n 2) 1 0 0 27 := ⟨rfl, rfl⟩
theorem r_X3_readChoice_27 : RW M_X3_readChoice 27 (.iconst 1) 1 0 0 28 := ⟨rfl, rfl⟩
theorem r_X3_readChoice_28 : RW M_X3_readChoice 28 (.iadd) 1 0 0 29 := ⟨rfl, rfl⟩
theorem r_X3_readChoice_29 : RW M_X3_readChoice 29 (.invokevirtual 38) 3 51 0 32 := ⟨rfl, rfl⟩
theorem r_X3_readChoice_32 : RW M_X3_readChoice 32 (.aload_n 1) 1 0 0 33 := ⟨rfl, rfl⟩
theorem r_X3_readChoice_33 : RW M_X3_readChoice 33 (.bipush 44) 2 0 0 35 := ⟨rfl, rfl⟩
theorem r_X3_readChoice_35 : RW M_X3_readChoice 35 (.invokevirtual 78) 3 86 0 38 := ⟨rfl, rfl⟩
theorem r_X3_readChoice_38 : RW M_X3_readChoice 38 (.aload_n 0) 1 0 0 39 := ⟨rfl, rfl⟩
theorem r_X3_readChoice_39 : RW M_X3_readChoice 39 (.aload_n 1) 1 0 0 40 := ⟨rfl, rfl⟩
theorem r_X3_readChoice_40 : RW M_X3_readChoice 40 (.iload_n 2) 1 0 0 41 := ⟨rfl, rfl⟩
theorem r_X3_readChoice_41 : RW M_X3_readChoice 41 (.iconst 1) 1 0 0 42 := ⟨rfl, rfl⟩
theorem r_X3_readChoice_42 : RW M_X3_readChoice 42 (.iadd) 1 0 0 43 := ⟨rfl, rfl⟩
theorem r_X3_readChoice_43 : RW M_X3_readChoice 43 (.invokevirtual 38) 3 51 0 46 := ⟨rfl, rfl⟩
theorem r_X3_readChoice_46 : RW M_X3_readChoice 46 (.aload_n 1) 1 0 0 47 := ⟨rfl, rfl⟩
theorem r_X3_readChoice_47 : RW M_X3_readChoice 47 (.bipush 93) 2 0 0 49 := ⟨rfl, rfl⟩
theorem r_X3_readChoice_49 : RW M_X3_readChoice 49 (.invokevirtual 78) 3 86 0 52 := ⟨rfl, rfl⟩
theorem r_X3_readChoice_52 : RW M_X3_readChoice 52 (.aload_n 0) 1 0 0 53 := ⟨rfl, rfl⟩
theorem r_X3_readChoice_53 : RW M_X3_readChoice 53 (.iload_n 3) 1 0 0 54 := ⟨rfl, rfl⟩
theorem r_X3_readChoice_54 : RW M_X3_readChoice 54 (.invokevirtual 61) 3 56 0 57 := ⟨rfl, rfl⟩
theorem r_X3_readChoice_57 : RW M_X3_readChoice 57 (.return_) 1 0 0 58 := ⟨rfl, rfl⟩
theorem r_X3_readInput_0 : RW M_X3_readInput 0 (.aload_n 1) 1 0 0 1 := ⟨rfl, rfl⟩
theorem r_X3_readInput_1 : RW M_X3_readInput 1 (.ldc 98) 2 7 1 3 := ⟨rfl, rfl⟩
theorem r_X3_readInput_3 : RW M_X3_readInput 3 (.invokevirtual 84) 3 84 0 6 := ⟨rfl, rfl⟩
theorem r_X3_readInput_6 : RW M_X3_readInput 6 (.ifCond .eq 7) 3 13 0 9 := ⟨rfl, rfl⟩
theorem r_X3_readInput_9 : RW M_X3_readInput 9 (.iconst (-1)) 1 0 0 10 := ⟨rfl, rfl⟩
theorem r_X3_readInput_10 : RW M_X3_readInput 10 (.goto 74) 3 84 0 13 := ⟨rfl, rfl⟩
theorem r_X3_readInput_13 : RW M_X3_readInput 13 (.aload_n 1) 1 0 0 14 := ⟨rfl, rfl⟩
theorem r_X3_readInput_14 : RW M_X3_readInput 14 (.ldc 100) 2 8 1 16 := ⟨rfl, rfl⟩
theorem r_X3_readInput_16 : RW M_X3_readInput 16 (.invokevirtual 84) 3 84 0 19 := ⟨rfl, rfl⟩
theorem r_X3_readInput_19 : RW M_X3_readInput 19 (.ifCond .eq 8) 3 27 0 22 := ⟨rfl, rfl⟩
theorem r_X3_readInput_22 : RW M_X3_readInput 22 (.bipush (-2)) 2 0 0 24 := ⟨rfl, rfl⟩
theorem r_X3_readInput_24 : RW M_X3_readInput 24 (.goto 60) 3 84 0 27 := ⟨rfl, rfl⟩
theorem r_X3_readInput_27 : RW M_X3_readInput 27 (.aload_n 1) 1 0 0 28 := ⟨rfl, rfl⟩
theorem r_X3_readInput_28 : RW M_X3_readInput 28 (.ldc 102) 2 9 1 30 := ⟨rfl, rfl⟩
theorem r_X3_readInput_30 : RW M_X3_readInput 30 (.invokevirtual 84) 3 84 0 33 := ⟨rfl, rfl⟩
theorem r_X3_readInput_33 : RW M_X3_readInput 33 (.ifCond .eq 8) 3 41 0 36 := ⟨rfl, rfl⟩
theorem r_X3_readInput_36 : RW M_X3_readInput 36 (.bipush (-3)) 2 0 0 38 := ⟨rfl, rfl⟩
theorem r_X3_readInput_38 : RW M_X3_readInput 38 (.goto 46) 3 84 0 41 := ⟨rfl, rfl⟩
theorem r_X3_readInput_41 : RW M_X3_readInput 41 (.aload_n 1) 1 0 0 42 := ⟨rfl, rfl⟩
theorem r_X3_readInput_42 : RW M_X3_readInput 42 (.ldc 104) 2 10 1 44 := ⟨rfl, rfl⟩
theorem r_X3_readInput_44 : RW M_X3_readInput 44 (.invokevirtual 84) 3 84 0 47 := ⟨rfl, rfl⟩
theorem r_X3_readInput_47 : RW M_X3_readInput 47 (.ifCond .eq 8) 3 55 0 50 := ⟨rfl, rfl⟩
theorem r_X3_readInput_50 : RW M_X3_readInput 50 (.bipush (-4)) 2 0 0 52 := ⟨rfl, rfl⟩
theorem r_X3_readInput_52 : RW M_X3_readInput 52 (.goto 32) 3 84 0 55 := ⟨rfl, rfl⟩
theorem r_X3_readInput_55 : RW M_X3_readInput 55 (.aload_n 1) 1 0 0 56 := ⟨rfl, rfl⟩
theorem r_X3_readInput_56 : RW M_X3_readInput 56 (.ldc 106) 2 11 1 58 := ⟨rfl, rfl⟩
theorem r_X3_readInput_58 : RW M_X3_readInput 58 (.invokevirtual 84) 3 84 0 61 := ⟨rfl, rfl⟩
theorem r_X3_readInput_61 : RW M_X3_readInput 61 (.ifCond .eq 8) 3 69 0 64 := ⟨rfl, rfl⟩
theorem r_X3_readInput_64 : RW M_X3_readInput 64 (.bipush (-5)) 2 0 0 66 := ⟨rfl, rfl⟩
theorem r_X3_readInput_66 : RW M_X3_readInput 66 (.goto 18) 3 84 0 69 := ⟨rfl, rfl⟩
theorem r_X3_readInput_69 : RW M_X3_readInput 69 (.aload_n 1) 1 0 0 70 := ⟨rfl, rfl⟩
theorem r_X3_readInput_70 : RW M_X3_readInput 70 (.ldc 108) 2 12 1 72 := ⟨rfl, rfl⟩
theorem r_X3_readInput_72 : RW M_X3_readInput 72 (.invokevirtual 84) 3 84 0 75 := ⟨rfl, rfl⟩
theorem r_X3_readInput_75 : RW M_X3_readInput 75 (.ifCond .eq 8) 3 83 0 78 := ⟨rfl, rfl⟩
theorem r_X3_readInput_78 : RW M_X3_readInput 78 (.bipush (-6)) 2 0 0 80 := ⟨rfl, rfl⟩
theorem r_X3_readInput_80 : RW M_X3_readInput 80 (.goto 4) 3 84 0 83 := ⟨rfl, rfl⟩
theorem r_X3_readInput_83 : RW M_X3_readInput 83 (.iconst 0) 1 0 0 84 := ⟨rfl, rfl⟩
theorem r_X3_readInput_84 : RW M_X3_readInput 84 (.istore_n 2) 1 0 0 85 := ⟨rfl, rfl⟩
theorem r_X3_readInput_85 : RW M_X3_readInput 85 (.iload_n 2) 1 0 0 86 := ⟨rfl, rfl⟩
theorem r_X3_readInput_86 : RW M_X3_readInput 86 (.ifCond .ne 11) 3 97 0 89 := ⟨rfl, rfl⟩
theorem r_X3_readInput_89 : RW M_X3_readInput 89 (.aload_n 1) 1 0 0 90 := ⟨rfl, rfl⟩
theorem r_X3_readInput_90 : RW M_X3_readInput 90 (.iconst 1) 1 0 0 91 := ⟨rfl, rfl⟩
theorem r_X3_readInput_91 : RW M_X3_readInput 91 (.invokevirtual 48) 3 88 0 94 := ⟨rfl, rfl⟩
theorem r_X3_readInput_94 : RW M_X3_readInput 94 (.goto 12) 3 106 0 97 := ⟨rfl, rfl⟩
theorem r_X3_readInput_97 : RW M_X3_readInput 97 (.aload_n 1) 1 0 0 98 := ⟨rfl, rfl⟩
theorem r_X3_readInput_98 : RW M_X3_readInput 98 (.invokevirtual 58) 3 78 0 101 := ⟨rfl, rfl⟩
theorem r_X3_readInput_101 : RW M_X3_readInput 101 (.aload_n 0) 1 0 0 102 := ⟨rfl, rfl⟩
theorem r_X3_readInput_102 : RW M_X3_readInput 102 (.iload_n 2) 1 0 0 103 := ⟨rfl, rfl⟩
theorem r_X3_readInput_103 : RW M_X3_readInput 103 (.invokevirtual 61) 3 56 0 106 := ⟨rfl, rfl⟩
theorem r_X3_readInput_106 : RW M_X3_readInput 106 (.return_) 1 0 0 107 := ⟨rfl, rfl⟩
theorem r_X3_readProduct_0 : RW M_X3_readProduct 0 (.aload_n 0) 1 0 0 1 := ⟨rfl, rfl⟩
theorem r_X3_readProduct_1 : RW M_X3_readProduct 1 (.aload_n 1) 1 0 0 2 := ⟨rfl, rfl⟩
theorem r_X3_readProduct_2 : RW M_X3_readProduct 2 (.iload_n 2) 1 0 0 3 := ⟨rfl, rfl⟩
theorem r_X3_readProduct_3 : RW M_X3_readProduct 3 (.invokevirtual 64) 3 53 0 6 := ⟨rfl, rfl⟩
theorem r_X3_readProduct_6 : RW M_X3_readProduct 6 (.iconst 0) 1 0 0 7 := ⟨rfl, rfl⟩
theorem r_X3_readProduct_7 : RW M_X3_readProduct 7 (.istore_n 3) 1 0 0 8 := ⟨rfl, rfl⟩
theorem r_X3_readProduct_8 : RW M_X3_readProduct 8 (.iload_n 3) 1 0 4 9 := ⟨rfl, rfl⟩
theorem r_X3_readProduct_9 : RW M_X3_readProduct 9 (.sipush 150) 3 0 0 12 := ⟨rfl, rfl⟩
theorem r_X3_readProduct_12 : RW M_X3_readProduct 12 (.if_icmp .ge 76) 3 88 0 15 := ⟨rfl, rfl⟩
theorem r_X3_readProduct_15 : RW M_X3_readProduct 15 (.aload_n 1) 1 0 0 16 := ⟨rfl, rfl⟩
theorem r_X3_readProduct_16 : RW M_X3_readProduct 16 (.bipush 42) 2 0 0 18 := ⟨rfl, rfl⟩
theorem r_X3_readProduct_18 : RW M_X3_readProduct 18 (.invokevirtual 54) 3 83 0 21 := ⟨rfl, rfl⟩
theorem r_X3_readProduct_21 : RW M_X3_readProduct 21 (.ifCond .eq 8) 3 29 0 24 := ⟨rfl, rfl⟩
theorem r_X3_readProduct_24 : RW M_X3_readProduct 24 (.bipush (-13)) 2 0 0 26 := ⟨rfl, rfl⟩
theorem r_X3_readProduct_26 : RW M_X3_readProduct 26 (.goto 32) 3 58 0 29 := ⟨rfl, rfl⟩
theorem r_X3_readProduct_29 : RW M_X3_readProduct 29 (.aload_n 1) 1 0 0 30 := ⟨rfl, rfl⟩
theorem r_X3_readProduct_30 : RW M_X3_readProduct 30 (.bipush 47) 2 0 0 32 := ⟨rfl, rfl⟩
theorem r_X3_readProduct_32 : RW M_X3_readProduct 32 (.invokevirtual 54) 3 83 0 35 := ⟨rfl, rfl⟩
theorem r_X3_readProduct_35 : RW M_X3_readProduct 35 (.ifCond .eq 8) 3 43 0 38 := ⟨rfl, rfl⟩
theorem r_X3_readProduct_38 : RW M_X3_readProduct 38 (.bipush (-14)) 2 0 0 40 := ⟨rfl, rfl⟩
theorem r_X3_readProduct_40 : RW M_X3_readProduct 40 (.goto 18) 3 58 0 43 := ⟨rfl, rfl⟩
theorem r_X3_readProduct_43 : RW M_X3_readProduct 43 (.aload_n 1) 1 0 0 44 := ⟨rfl, rfl⟩
theorem r_X3_readProduct_44 : RW M_X3_readProduct 44 (.bipush 37) 2 0 0 46 := ⟨rfl, rfl⟩
theorem r_X3_readProduct_46 : RW M_X3_readProduct 46 (.invokevirtual 54) 3 83 0 49 := ⟨rfl, rfl⟩
theorem r_X3_readProduct_49 : RW M_X3_readProduct 49 (.ifCond .eq 8) 3 57 0 52 := ⟨rfl, rfl⟩
theorem r_X3_readProduct_52 : RW M_X3_readProduct 52 (.bipush (-15)) 2 0 0 54 := ⟨rfl, rfl⟩
theorem r_X3_readProduct_54 : RW M_X3_readProduct 54 (.goto 4) 3 58 0 57 := ⟨rfl, rfl⟩
theorem r_X3_readProduct_57 : RW M_X3_readProduct 57 (.iconst 0) 1 0 0 58 := ⟨rfl, rfl⟩
theorem r_X3_readProduct_58 : RW M_X3_readProduct 58 (.istore 4) 2 0 0 60 := ⟨rfl, rfl⟩
theorem r_X3_readProduct_60 : RW M_X3_readProduct 60 (.iload 4) 2 0 0 62 := ⟨rfl, rfl⟩
theorem r_X3_readProduct_62 : RW M_X3_readProduct 62 (.ifCond .ne 4) 3 66 0 65 := ⟨rfl, rfl⟩
theorem r_X3_readProduct_65 : RW M_X3_readProduct 65 (.return_) 1 0 0 66 := ⟨rfl, rfl⟩
theorem r_X3_readProduct_66 : RW M_X3_readProduct 66 (.aload_n 1) 1 0 0 67 := ⟨rfl, rfl⟩
theorem r_X3_readProduct_67 : RW M_X3_readProduct 67 (.invokevirtual 58) 3 78 0 70 := ⟨rfl, rfl⟩
theorem r_X3_readProduct_70 : RW M_X3_readProduct 70 (.aload_n 0) 1 0 0 71 := ⟨rfl, rfl⟩
theorem r_X3_readProduct_71 : RW M_X3_readProduct 71 (.aload_n 1) 1 0 0 72 := ⟨rfl, rfl⟩
theorem r_X3_readProduct_72 : RW M_X3_readProduct 72 (.iload_n 2) 1 0 0 73 := ⟨rfl, rfl⟩
theorem r_X3_readProduct_73 : RW M_X3_readProduct 73 (.invokevirtual 64) 3 53 0 76 := ⟨rfl, rfl⟩
theorem r_X3_readProduct_76 : RW M_X3_readProduct 76 (.aload_n 0) 1 0 0 77 := ⟨rfl, rfl⟩
theorem r_X3_readProduct_77 : RW M_X3_readProduct 77 (.iload 4) 2 0 0 79 := ⟨rfl, rfl⟩
theorem r_X3_readProduct_79 : RW M_X3_readProduct 79 (.invokevirtual 61) 3 56 0 82 := ⟨rfl, rfl⟩
theorem r_X3_readProduct_82 : RW M_X3_readProduct 82 (.iinc 3 1) 3 0 0 85 := ⟨rfl, rfl⟩
theorem r_X3_readProduct_85 : RW M_X3_readProduct 85 (.goto (-77)) 3 8 0 88 := ⟨rfl, rfl⟩
theorem r_X3_readProduct_88 : RW M_X3_readProduct 88 (.return_) 1 0 0 89 := ⟨rfl, rfl⟩
theorem r_X3_readSum_0 : RW M_X3_readSum 0 (.aload_n 0) 1 0 0 1 := ⟨rfl, rfl⟩
theorem r_X3_readSum_1 : RW M_X3_readSum 1 (.aload_n 1) 1 0 0 2 := ⟨rfl, rfl⟩
theorem r_X3_readSum_2 : RW M_X3_readSum 2 (.iload_n 2) 1 0 0 3 := ⟨rfl, rfl⟩
theorem r_X3_readSum_3 : RW M_X3_readSum 3 (.invokevirtual 51) 3 52 0 6 := ⟨rfl, rfl⟩
theorem r_X3_readSum_6 : RW M_X3_readSum 6 (.iconst 0) 1 0 0 7 := ⟨rfl, rfl⟩
theorem r_X3_readSum_7 : RW M_X3_readSum 7 (.istore_n 3) 1 0 0 8 := ⟨rfl, rfl⟩
theorem r_X3_readSum_8 : RW M_X3_readSum 8 (.iload_n 3) 1 0 4 9 := ⟨rfl, rfl⟩
theorem r_X3_readSum_9 : RW M_X3_readSum 9 (.sipush 150) 3 0 0 12 := ⟨rfl, rfl⟩
theorem r_X3_readSum_12 : RW M_X3_readSum 12 (.if_icmp .ge 61) 3 73 0 15 := ⟨rfl, rfl⟩
theorem r_X3_readSum_15 : RW M_X3_readSum 15 (.aload_n 1) 1 0 0 16 := ⟨rfl, rfl⟩
theorem r_X3_readSum_16 : RW M_X3_readSum 16 (.bipush 43) 2 0 0 18 := ⟨rfl, rfl⟩
theorem r_X3_readSum_18 : RW M_X3_readSum 18 (.invokevirtual 54) 3 83 0 21 := ⟨rfl, rfl⟩
theorem r_X3_readSum_21 : RW M_X3_readSum 21 (.ifCond .ne 12) 3 33 0 24 := ⟨rfl, rfl⟩
theorem r_X3_readSum_24 : RW M_X3_readSum 24 (.aload_n 1) 1 0 0 25 := ⟨rfl, rfl⟩
theorem r_X3_readSum_25 : RW M_X3_readSum 25 (.bipush 45) 2 0 0 27 := ⟨rfl, rfl⟩
theorem r_X3_readSum_27 : RW M_X3_readSum 27 (.invokevirtual 54) 3 83 0 30 := ⟨rfl, rfl⟩
theorem r_X3_readSum_30 : RW M_X3_readSum 30 (.ifCond .eq 43) 3 73 0 33 := ⟨rfl, rfl⟩
theorem r_X3_readSum_33 : RW M_X3_readSum 33 (.aload_n 1) 1 0 0 34 := ⟨rfl, rfl⟩
theorem r_X3_readSum_34 : RW M_X3_readSum 34 (.bipush 43) 2 0 0 36 := ⟨rfl, rfl⟩
theorem r_X3_readSum_36 : RW M_X3_readSum 36 (.invokevirtual 54) 3 83 0 39 := ⟨rfl, rfl⟩
theorem r_X3_readSum_39 : RW M_X3_readSum 39 (.ifCond .eq 8) 3 47 0 42 := ⟨rfl, rfl⟩
theorem r_X3_readSum_42 : RW M_X3_readSum 42 (.bipush (-11)) 2 0 0 44 := ⟨rfl, rfl⟩
theorem r_X3_readSum_44 : RW M_X3_readSum 44 (.goto 5) 3 49 0 47 := ⟨rfl, rfl⟩
theorem r_X3_readSum_47 : RW M_X3_readSum 47 (.bipush (-12)) 2 0 0 49 := ⟨rfl, rfl⟩
theorem r_X3_readSum_49 : RW M_X3_readSum 49 (.istore 4) 2 0 0 51 := ⟨rfl, rfl⟩
theorem r_X3_readSum_51 : RW M_X3_readSum 51 (.aload_n 1) 1 0 0 52 := ⟨rfl, rfl⟩
theorem r_X3_readSum_52 : RW M_X3_readSum 52 (.invokevirtual 58) 3 78 0 55 := ⟨rfl, rfl⟩
theorem r_X3_readSum_55 : RW M_X3_readSum 55 (.aload_n 0) 1 0 0 56 := ⟨rfl, rfl⟩
theorem r_X3_readSum_56 : RW M_X3_readSum 56 (.aload_n 1) 1 0 0 57 := ⟨rfl, rfl⟩
theorem r_X3_readSum_57 : RW M_X3_readSum 57 (.iload_n 2) 1 0 0 58 := ⟨rfl, rfl⟩
theorem r_X3_readSum_58 : RW M_X3_readSum 58 (.invokevirtual 51) 3 52 0 61 := ⟨rfl, rfl⟩
theorem r_X3_readSum_61 : RW M_X3_readSum 61 (.aload_n 0) 1 0 0 62 := ⟨rfl, rfl⟩
theorem r_X3_readSum_62 : RW M_X3_readSum 62 (.iload 4) 2 0 0 64 := ⟨rfl, rfl⟩
theorem r_X3_readSum_64 : RW M_X3_readSum 64 (.invokevirtual 61) 3 56 0 67 := ⟨rfl, rfl⟩
theorem r_X3_readSum_67 : RW M_X3_readSum 67 (.iinc 3 1) 3 0 0 70 := ⟨rfl, rfl⟩
theorem r_X3_readSum_70 : RW M_X3_readSum 70 (.goto (-62)) 3 8 0 73 := ⟨rfl, rfl⟩
theorem r_X3_readSum_73 : RW M_X3_readSum 73 (.return_) 1 0 0 74 := ⟨rfl, rfl⟩
theorem r_X3_readUnit_0 : RW M_X3_readUnit 0 (.aload_n 1) 1 0 0 1 := ⟨rfl, rfl⟩
theorem r_X3_readUnit_1 : RW M_X3_readUnit 1 (.invokevirtual 67) 3 82 0 4 := ⟨rfl, rfl⟩
theorem r_X3_readUnit_4 : RW M_X3_readUnit 4 (.ifCond .eq 18) 3 22 0 7 := ⟨rfl, rfl⟩
theorem r_X3_readUnit_7 : RW M_X3_readUnit 7 (.aload_n 0) 1 0 0 8 := ⟨rfl, rfl⟩
theorem r_X3_readUnit_8 : RW M_X3_readUnit 8 (.aload_n 1) 1 0 0 9 := ⟨rfl, rfl⟩
theorem r_X3_readUnit_9 : RW M_X3_readUnit 9 (.iconst 0) 1 0 0 10 := ⟨rfl, rfl⟩
theorem r_X3_readUnit_10 : RW M_X3_readUnit 10 (.sipush 999) 3 0 0 13 := ⟨rfl, rfl⟩
theorem r_X3_readUnit_13 : RW M_X3_readUnit 13 (.invokevirtual 70) 3 85 0 16 := ⟨rfl, rfl⟩
theorem r_X3_readUnit_16 : RW M_X3_readUnit 16 (.invokevirtual 61) 3 56 0 19 := ⟨rfl, rfl⟩
theorem r_X3_readUnit_19 : RW M_X3_readUnit 19 (.goto 92) 3 111 0 22 := ⟨rfl, rfl⟩
theorem r_X3_readUnit_22 : RW M_X3_readUnit 22 (.aload_n 1) 1 0 0 23 := ⟨rfl, rfl⟩
theorem r_X3_readUnit_23 : RW M_X3_readUnit 23 (.bipush 40) 2 0 0 25 := ⟨rfl, rfl⟩
theorem r_X3_readUnit_25 : RW M_X3_readUnit 25 (.invokevirtual 54) 3 83 0 28 := ⟨rfl, rfl⟩
theorem r_X3_readUnit_28 : RW M_X3_readUnit 28 (.ifCond .eq 38) 3 66 0 31 := ⟨rfl, rfl⟩
theorem r_X3_readUnit_31 : RW M_X3_readUnit 31 (.aload_n 1) 1 0 0 32 := ⟨rfl, rfl⟩
theorem r_X3_readUnit_32 : RW M_X3_readUnit 32 (.iload_n 2) 1 0 0 33 := ⟨rfl, rfl⟩
theorem r_X3_readUnit_33 : RW M_X3_readUnit 33 (.bipush 6) 2 0 0 35 := ⟨rfl, rfl⟩
theorem r_X3_readUnit_35 : RW M_X3_readUnit 35 (.if_icmp .ge 7) 3 42 0 38 := ⟨rfl, rfl⟩
theorem r_X3_readUnit_38 : RW M_X3_readUnit 38 (.iconst 1) 1 0 0 39 := ⟨rfl, rfl⟩
theorem r_X3_readUnit_39 : RW M_X3_readUnit 39 (.goto 4) 3 43 0 42 := ⟨rfl, rfl⟩
theorem r_X3_readUnit_42 : RW M_X3_readUnit 42 (.iconst 0) 1 0 0 43 := ⟨rfl, rfl⟩
theorem r_X3_readUnit_43 : RW M_X3_readUnit 43 (.invokevirtual 74) 3 87 0 46 := ⟨rfl, rfl⟩
theorem r_X3_readUnit_46 : RW M_X3_readUnit 46 (.ifCond .eq 65) 3 111 0 49 := ⟨rfl, rfl⟩
theorem r_X3_readUnit_49 : RW M_X3_readUnit 49 (.aload_n 0) 1 0 0 50 := ⟨rfl, rfl⟩
theorem r_X3_readUnit_50 : RW M_X3_readUnit 50 (.aload_n 1) 1 0 0 51 := ⟨rfl, rfl⟩
theorem r_X3_readUnit_51 : RW M_X3_readUnit 51 (.iload_n 2) 1 0 0 52 := ⟨rfl, rfl⟩
theorem r_X3_readUnit_52 : RW M_X3_readUnit 52 (.iconst 1) 1 0 0 53 := ⟨rfl, rfl⟩
theorem r_X3_readUnit_53 : RW M_X3_readUnit 53 (.iadd) 1 0 0 54 := ⟨rfl, rfl⟩
theorem r_X3_readUnit_54 : RW M_X3_readUnit 54 (.invokevirtual 38) 3 51 0 57 := ⟨rfl, rfl⟩
theorem r_X3_readUnit_57 : RW M_X3_readUnit 57 (.aload_n 1) 1 0 0 58 := ⟨rfl, rfl⟩
theorem r_X3_readUnit_58 : RW M_X3_readUnit 58 (.bipush 41) 2 0 0 60 := ⟨rfl, rfl⟩
theorem r_X3_readUnit_60 : RW M_X3_readUnit 60 (.invokevirtual 78) 3 86 0 63 := ⟨rfl, rfl⟩
theorem r_X3_readUnit_63 : RW M_X3_readUnit 63 (.goto 48) 3 111 0 66 := ⟨rfl, rfl⟩
theorem r_X3_readUnit_66 : RW M_X3_readUnit 66 (.aload_n 1) 1 0 0 67 := ⟨rfl, rfl⟩
theorem r_X3_readUnit_67 : RW M_X3_readUnit 67 (.ldc 82) 2 5 1 69 := ⟨rfl, rfl⟩
theorem r_X3_readUnit_69 : RW M_X3_readUnit 69 (.invokevirtual 84) 3 84 0 72 := ⟨rfl, rfl⟩
theorem r_X3_readUnit_72 : RW M_X3_readUnit 72 (.ifCond .eq 14) 3 86 0 75 := ⟨rfl, rfl⟩
theorem r_X3_readUnit_75 : RW M_X3_readUnit 75 (.aload_n 0) 1 0 0 76 := ⟨rfl, rfl⟩
theorem r_X3_readUnit_76 : RW M_X3_readUnit 76 (.aload_n 1) 1 0 0 77 := ⟨rfl, rfl⟩
theorem r_X3_readUnit_77 : RW M_X3_readUnit 77 (.iload_n 2) 1 0 0 78 := ⟨rfl, rfl⟩
theorem r_X3_readUnit_78 : RW M_X3_readUnit 78 (.bipush (-16)) 2 0 0 80 := ⟨rfl, rfl⟩
theorem r_X3_readUnit_80 : RW M_X3_readUnit 80 (.invokevirtual 88) 3 54 0 83 := ⟨rfl, rfl⟩
theorem r_X3_readUnit_83 : RW M_X3_readUnit 83 (.goto 28) 3 111 0 86 := ⟨rfl, rfl⟩
theorem r_X3_readUnit_86 : RW M_X3_readUnit 86 (.aload_n 1) 1 0 0 87 := ⟨rfl, rfl⟩
theorem r_X3_readUnit_87 : RW M_X3_readUnit 87 (.ldc 92) 2 6 1 89 := ⟨rfl, rfl⟩
theorem r_X3_readUnit_89 : RW M_X3_readUnit 89 (.invokevirtual 84) 3 84 0 92 := ⟨rfl, rfl⟩
theorem r_X3_readUnit_92 : RW M_X3_readUnit 92 (.ifCond .eq 14) 3 106 0 95 := ⟨rfl, rfl⟩
theorem r_X3_readUnit_95 : RW M_X3_readUnit 95 (.aload_n 0) 1 0 0 96 := ⟨rfl, rfl⟩
theorem r_X3_readUnit_96 : RW M_X3_readUnit 96 (.aload_n 1) 1 0 0 97 := ⟨rfl, rfl⟩
theorem r_X3_readUnit_97 : RW M_X3_readUnit 97 (.iload_n 2) 1 0 0 98 := ⟨rfl, rfl⟩
theorem r_X3_readUnit_98 : RW M_X3_readUnit 98 (.bipush (-17)) 2 0 0 100 := ⟨rfl, rfl⟩
theorem r_X3_readUnit_100 : RW M_X3_readUnit 100 (.invokevirtual 88) 3 54 0 103 := ⟨rfl, rfl⟩
theorem r_X3_readUnit_103 : RW M_X3_readUnit 103 (.goto 8) 3 111 0 106 := ⟨rfl, rfl⟩
theorem r_X3_readUnit_106 : RW M_X3_readUnit 106 (.aload_n 0) 1 0 0 107 := ⟨rfl, rfl⟩
theorem r_X3_readUnit_107 : RW M_X3_readUnit 107 (.aload_n 1) 1 0 0 108 := ⟨rfl, rfl⟩
theorem r_X3_readUnit_108 : RW M_X3_readUnit 108 (.invokevirtual 94) 3 55 0 111 := ⟨rfl, rfl⟩
theorem r_X3_readUnit_111 : RW M_X3_readUnit 111 (.return_) 1 0 0 112 := ⟨rfl, rfl⟩
theorem c_setO {d : Nat} {I : Nat → Nat → Int32} {J : Nat → Nat → Int64} {r n : Nat} (lr : LAYO[r]? = some (.inr (.inr (7, [some (r + 1)])))) (lc_ : LAYO[r + 1]? = some (.inl n)) (hn : n < 100000) (hsr : r < 1000) {z : Int} (z1 : -2147483648 ≤ z) (z2 : z < 2147483648) (hz : z < 0 ∨ (n : Int) ≤ z) {v : Int32}  (hd : 1 ≤ d) : RU d 93 [.ref r, .int (zI z), .int v] I J (fun I' => I' = I) := by
  refine RU.in (d0 := 0) hd mt_93 (Nat.le_of_ble_eq_true rfl) (fun d' hd' => ?_)
  show EV none M_X7_set d' 0 [(0, .ref r), (1, .int (zI z)), (2, .int v)] [] (hp I J) _
  refine EV.l (lv' := [(0, _), (1, _), (2, _)]) r_X7_set_0 rfl ?_
  refine EV.z0_lt r_X7_set_1 (fun h1 => ?_) (fun h1 => ?_)
  · -- 1 t
    exact EV.ru r_X7_set_20 (rfl)
  · -- 1 f
    refine EV.l (lv' := [(0, _), (1, _), (2, _)]) r_X7_set_4 rfl ?_
    refine EV.l (lv' := [(0, _), (1, _), (2, _)]) r_X7_set_5 rfl ?_
    refine EV.gR r_X7_set_6 lr ?_
    refine EV.al r_X7_set_9 lc_ ?_ (by unfold spc; omega)
    refine EV.zn2_ge r_X7_set_10 (fun h10 => ?_) (fun h10 => ?_)
    · -- 10 t
      exact EV.ru r_X7_set_20 (rfl)
    · omega
theorem c_setX {d : Nat} {I : Nat → Nat → Int32} {J : Nat → Nat → Int64} {r n : Nat} {x v : Int32} (hr : LAYO[r]? = some (.inr (.inr (7, [some (r + 1)])))) (hl : LAYO[r + 1]? = some (.inl n)) (hn : n < 100000) (hs : r < 1000) (hd : 1 ≤ d) : RU d 93 [.ref r, .int x, .int v] I J (fun I' => ∀ o, o ≠ r + 1 → I' o = I o) := by
  obtain ⟨z, z1, z2, e⟩ := i_z x
  subst e
  rcases row_any (n := n) z1 z2 with h | h
  · obtain ⟨j, hj, ej⟩ := h
    rw [ej]
    obtain ⟨I', e, h2⟩ := c_set (I := I) (J := J) (v := v) hr hl hn hs hj hd
    exact ⟨I', fun o ho => by rw [e]; exact wr_row ho, h2⟩
  · obtain ⟨I', e, h2⟩ := c_setO (I := I) (J := J) (v := v) hr hl hn hs z1 z2 h hd
    exact ⟨I', fun o ho => by rw [e], h2⟩
theorem c_addG {d : Nat} {I : Nat → Nat → Int32} {J : Nat → Nat → Int64} {l : LW} {w o : Nat} (hl : HL 53 l I) (h150 : l.n < 150)  (hd : 2 ≤ d) : RU d 56 [.ref 53, .int (zI (ecd w o))] I J (fun I' => HL 53 (addc l w o) I' ∧ ∀ o, o ≠ 53 → o ≠ 55 → I' o = I o) := by
  refine RU.in (d0 := 1) hd mt_56 (Nat.le_of_ble_eq_true rfl) (fun d' hd' => ?_)
  show EV none M_X3_addPart d' 0 [(0, .ref 53), (1, .int (zI (ecd w o)))] [] (hp I J) _
  refine EV.l (lv' := [(0, _), (1, _)]) r_X3_addPart_0 rfl ?_
  refine EV.gR r_X3_addPart_1 la_53 ?_
  refine EV.l (lv' := [(0, _), (1, _)]) r_X3_addPart_4 rfl ?_
  refine EV.getV r_X3_addPart_5 la_53 (hl.n) ?_
  refine EV.l (lv' := [(0, _), (1, _)]) r_X3_addPart_8 rfl ?_
  refine EV.cu r_X3_addPart_9 (aV2 mt_93 la_54) (c_set la_54 la_55 (by decide) (by decide) (by omega) (by omega)) (fun I2 e2 => ?_)
  refine EV.l (lv' := [(0, _), (1, _)]) r_X3_addPart_12 rfl ?_
  refine EV.o r_X3_addPart_13 rfl ?_
  refine EV.getV r_X3_addPart_14 la_53 (((congrFun ((congrFun e2 53).trans (wr_row (by decide))) 3).trans hl.n)) ?_
  refine EV.o r_X3_addPart_17 (icN (1) (v := 1)) ?_
  refine EV.o r_X3_addPart_18 iaddN ?_
  refine EV.pIn r_X3_addPart_19 la_53 (fun I3 e3 => ?_)
  exact EV.ru r_X3_addPart_22 (⟨hl.add ((congrFun (congrFun e3 53) 3).trans wr_same) (((congrFun e3 55).trans (wr_row (by decide))).trans (congrFun e2 55)), fun o a b => ((congrFun e3 o).trans (wr_row a)).trans ((congrFun e2 o).trans (wr_row b))⟩)
theorem c_addB {d : Nat} {I : Nat → Nat → Int32} {J : Nat → Nat → Int64} {v : Int32}  (hd : 2 ≤ d) : RU d 56 [.ref 53, .int v] I J (fun I' => ∀ o, o ≠ 53 → o ≠ 55 → I' o = I o) := by
  refine RU.in (d0 := 1) hd mt_56 (Nat.le_of_ble_eq_true rfl) (fun d' hd' => ?_)
  show EV none M_X3_addPart d' 0 [(0, .ref 53), (1, .int v)] [] (hp I J) _
  refine EV.l (lv' := [(0, _), (1, _)]) r_X3_addPart_0 rfl ?_
  refine EV.gR r_X3_addPart_1 la_53 ?_
  refine EV.l (lv' := [(0, _), (1, _)]) r_X3_addPart_4 rfl ?_
  refine EV.gI r_X3_addPart_5 la_53 ?_
  refine EV.l (lv' := [(0, _), (1, _)]) r_X3_addPart_8 rfl ?_
  refine EV.cu r_X3_addPart_9 (aV2 mt_93 la_54) (c_setX la_54 la_55 (by decide) (by decide) (by omega)) (fun I2 h2 => ?_)
  refine EV.l (lv' := [(0, _), (1, _)]) r_X3_addPart_12 rfl ?_
  refine EV.o r_X3_addPart_13 rfl ?_
  refine EV.gI r_X3_addPart_14 la_53 ?_
  refine EV.o r_X3_addPart_17 (icN (1) (v := 1)) ?_
  refine EV.o r_X3_addPart_18 rfl ?_
  refine EV.pIn r_X3_addPart_19 la_53 (fun I3 e3 => ?_)
  exact EV.ru r_X3_addPart_22 (fun o a b => ((congrFun e3 o).trans (wr_row a)).trans (h2 o b))
theorem c_addL {d : Nat} {I : Nat → Nat → Int32} {J : Nat → Nat → Int64} {g : Nat → Nat} {n w o : Nat} {x : LX} {v : Int32} (ls : LSc g n x I) (hn : n ≤ 150) (hs : ∀ s, x.2 = .inl s → x.1.n < s) (hv : ∀ s, x.2 = .inl s → v = zI (ecd w o)) (hd : 2 ≤ d) : RU d 56 [.ref 53, .int v] I J (fun I' => LSc g n (addc x.1 w o, x.2) I' ∧ LF I I') := by
  obtain ⟨l, r⟩ := x
  cases r with
  | inl s =>
    have rg := ls.rg
    have sn := rg.sn
    have z := ls.2.2 s rfl
    have h1 : l.n < s := hs s rfl
    rw [hv s rfl]
    obtain ⟨I', h, hc_⟩ := c_addG (l := l) (I := I) (J := J) (w := w) (o := o) z.1 (by omega) hd
    exact ⟨I', ⟨⟨tp_fr ls.1 (h.2 3 (by decide) (by decide)), ls.2.1.fr (h.2 1 (by decide) (by decide)), fun s2 e => by cases e; exact ⟨h.1, h1⟩⟩, fun o _ a b => h.2 o a b⟩, hc_⟩
  | inr q =>
    obtain ⟨I', h, hc_⟩ := c_addB (I := I) (J := J) (v := v) hd
    exact ⟨I', ⟨⟨tp_fr ls.1 (h 3 (by decide) (by decide)), ls.2.1.fr (h 1 (by decide) (by decide)), fun s2 e => inr_ne e⟩, fun o _ a b => h o a b⟩, hc_⟩
theorem c_inpG {d : Nat} {I : Nat → Nat → Int32} {J : Nat → Nat → Int64} {g : Nat → Nat} {n s : Nat} {l : LW} (gb : ∀ j, g j < 256) (hn : n ≤ 150) (ls : LSc g n (l, .inl s) I)  (hd : 5 ≤ d) : RU d 55 [.ref 53, .ref 1] I J (fun I' => LSc g n (inpG g n l s) I' ∧ LF I I') := by
  refine RU.in (d0 := 4) hd mt_55 (Nat.le_of_ble_eq_true rfl) (fun d' hd' => ?_)
  show EV none M_X3_readInput d' 0 [(0, .ref 53), (1, .ref 1)] [] (hp I J) _
  refine EV.l (lv' := [(0, _), (1, _)]) r_X3_readInput_0 rfl ?_
  refine EV.lcT r_X3_readInput_1 rfl ?_
  refine EV.cv r_X3_readInput_3 (aV1 mt_84 la_1) (c_wordG ls.1 gb (by omega) ls.rg tx_7 (by decide) lSteps (by omega)) ?_
  refine EV.b0_eq r_X3_readInput_6 (fun h6 => ?_) (fun h6 => ?_)
  · -- 6 t
    refine EV.l (lv' := [(0, _), (1, _)]) r_X3_readInput_13 rfl ?_
    refine EV.lcT r_X3_readInput_14 rfl ?_
    refine EV.cv r_X3_readInput_16 (aV1 mt_84 la_1) (c_wordG ls.1 gb (by omega) ls.rg tx_8 (by decide) lBegin (by omega)) ?_
    refine EV.b0_eq r_X3_readInput_19 (fun h19 => ?_) (fun h19 => ?_)
    · -- 19 t
      refine EV.l (lv' := [(0, _), (1, _)]) r_X3_readInput_27 rfl ?_
      refine EV.lcT r_X3_readInput_28 rfl ?_
      refine EV.cv r_X3_readInput_30 (aV1 mt_84 la_1) (c_wordG ls.1 gb (by omega) ls.rg tx_9 (by decide) lCrumbs (by omega)) ?_
      refine EV.b0_eq r_X3_readInput_33 (fun h33 => ?_) (fun h33 => ?_)
      · -- 33 t
        refine EV.l (lv' := [(0, _), (1, _)]) r_X3_readInput_41 rfl ?_
        refine EV.lcT r_X3_readInput_42 rfl ?_
        refine EV.cv r_X3_readInput_44 (aV1 mt_84 la_1) (c_wordG ls.1 gb (by omega) ls.rg tx_10 (by decide) lLed (by omega)) ?_
        refine EV.b0_eq r_X3_readInput_47 (fun h47 => ?_) (fun h47 => ?_)
        · -- 47 t
          refine EV.l (lv' := [(0, _), (1, _)]) r_X3_readInput_55 rfl ?_
          refine EV.lcT r_X3_readInput_56 rfl ?_
          refine EV.cv r_X3_readInput_58 (aV1 mt_84 la_1) (c_wordG ls.1 gb (by omega) ls.rg tx_11 (by decide) lNotes (by omega)) ?_
          refine EV.b0_eq r_X3_readInput_61 (fun h61 => ?_) (fun h61 => ?_)
          · -- 61 t
            refine EV.l (lv' := [(0, _), (1, _)]) r_X3_readInput_69 rfl ?_
            refine EV.lcT r_X3_readInput_70 rfl ?_
            refine EV.cv r_X3_readInput_72 (aV1 mt_84 la_1) (c_wordG ls.1 gb (by omega) ls.rg tx_12 (by decide) lBird (by omega)) ?_
            refine EV.b0_eq r_X3_readInput_75 (fun h75 => ?_) (fun h75 => ?_)
            · -- 75 t
              have fk : fct g n s = 6 := (if_neg (bf_n h6)).trans ((if_neg (bf_n h19)).trans ((if_neg (bf_n h33)).trans ((if_neg (bf_n h47)).trans ((if_neg (bf_n h61)).trans (if_neg (bf_n h75))))))
              refine EV.o r_X3_readInput_83 (icN (0) (v := 0)) ?_
              refine EV.l (lv' := [(0, _), (1, _), (2, _)]) r_X3_readInput_84 rfl ?_
              refine EV.l (lv' := [(0, _), (1, _), (2, _)]) r_X3_readInput_85 rfl ?_
              refine EV.n0_ne r_X3_readInput_86 (fun h86 => ?_) (fun h86 => ?_)
              · omega
              · -- 86 f
                refine EV.l (lv' := [(0, _), (1, _), (2, _)]) r_X3_readInput_89 rfl ?_
                refine EV.o r_X3_readInput_90 (icN (1) (v := 1)) ?_
                refine EV.cu r_X3_readInput_91 (aV1 mt_88 la_1) (c_fail (r := .inl s) ls.rg (by decide) (by decide) (by omega)) (fun I2 h2 => ?_)
                refine EV.g r_X3_readInput_94 ?_
                exact EV.ru r_X3_readInput_106 (by have t : inpG g n l s = (l, .inr (1, s)) := if_pos fk; rw [t]; exact ⟨ls.ro (r2 := .inr (1, s)) h2.1 h2.2 (fun s2 e => inr_ne e), h2.2.lf⟩)
            · -- 75 f
              have fk : fct g n s = 5 := (if_neg (bf_n h6)).trans ((if_neg (bf_n h19)).trans ((if_neg (bf_n h33)).trans ((if_neg (bf_n h47)).trans ((if_neg (bf_n h61)).trans (if_pos h75)))))
              refine EV.o r_X3_readInput_78 (bpZ (-6)) ?_
              refine EV.g r_X3_readInput_80 ?_
              refine EV.l (lv' := [(0, _), (1, _), (2, _)]) r_X3_readInput_84 rfl ?_
              refine EV.l (lv' := [(0, _), (1, _), (2, _)]) r_X3_readInput_85 rfl ?_
              refine EV.z0_ne r_X3_readInput_86 (fun h86 => ?_) (fun h86 => ?_)
              · -- 86 t
                refine EV.l (lv' := [(0, _), (1, _), (2, _)]) r_X3_readInput_97 rfl ?_
                refine EV.cu r_X3_readInput_98 (aV0 mt_78 la_1) (c_advance ls.1 gb ls.rg.en (by omega) ls.rg.rc.pe (pep_le ls.rg.sn) (by omega)) (fun I2 h2 => ?_)
                obtain ⟨rc, fr_⟩ := h2
                have sn : s < n := kd_lt (by rw [(fct_w (g := g) (n := n) (s := s) (by omega)).1]; decide)
                have ls2 := ls.adv rfl sn rc fr_
                refine EV.l (lv' := [(0, _), (1, _), (2, _)]) r_X3_readInput_101 rfl ?_
                refine EV.l (lv' := [(0, _), (1, _), (2, _)]) r_X3_readInput_102 rfl ?_
                refine EV.cu r_X3_readInput_103 (aV1 mt_56 la_53) (c_addL (x := (l, .inl (nxp g n s))) (w := 1) (o := 5) ls2 hn (fun s2 e => by have a1 := nxp_gt (g := g) sn; have a2 : l.n ≤ s := (ls.2.2 s rfl).2; cases e; show l.n < nxp g n s; omega) (fun _ _ => by decide) (by omega)) (fun I3 h3 => ?_)
                exact EV.ru r_X3_readInput_106 (by have t : inpG g n l s = (addc l 1 5, .inl (nxp g n s)) := (if_neg (by omega)).trans (by rw [fk]); rw [t]; exact ⟨h3.1, (show RO I I2 from fr_.1).lf.tr h3.2⟩)
              · omega
          · -- 61 f
            have fk : fct g n s = 4 := (if_neg (bf_n h6)).trans ((if_neg (bf_n h19)).trans ((if_neg (bf_n h33)).trans ((if_neg (bf_n h47)).trans (if_pos h61))))
            refine EV.o r_X3_readInput_64 (bpZ (-5)) ?_
            refine EV.g r_X3_readInput_66 ?_
            refine EV.l (lv' := [(0, _), (1, _), (2, _)]) r_X3_readInput_84 rfl ?_
            refine EV.l (lv' := [(0, _), (1, _), (2, _)]) r_X3_readInput_85 rfl ?_
            refine EV.z0_ne r_X3_readInput_86 (fun h86 => ?_) (fun h86 => ?_)
            · -- 86 t
              refine EV.l (lv' := [(0, _), (1, _), (2, _)]) r_X3_readInput_97 rfl ?_
              refine EV.cu r_X3_readInput_98 (aV0 mt_78 la_1) (c_advance ls.1 gb ls.rg.en (by omega) ls.rg.rc.pe (pep_le ls.rg.sn) (by omega)) (fun I2 h2 => ?_)
              obtain ⟨rc, fr_⟩ := h2
              have sn : s < n := kd_lt (by rw [(fct_w (g := g) (n := n) (s := s) (by omega)).1]; decide)
              have ls2 := ls.adv rfl sn rc fr_
              refine EV.l (lv' := [(0, _), (1, _), (2, _)]) r_X3_readInput_101 rfl ?_
              refine EV.l (lv' := [(0, _), (1, _), (2, _)]) r_X3_readInput_102 rfl ?_
              refine EV.cu r_X3_readInput_103 (aV1 mt_56 la_53) (c_addL (x := (l, .inl (nxp g n s))) (w := 1) (o := 4) ls2 hn (fun s2 e => by have a1 := nxp_gt (g := g) sn; have a2 : l.n ≤ s := (ls.2.2 s rfl).2; cases e; show l.n < nxp g n s; omega) (fun _ _ => by decide) (by omega)) (fun I3 h3 => ?_)
              exact EV.ru r_X3_readInput_106 (by have t : inpG g n l s = (addc l 1 4, .inl (nxp g n s)) := (if_neg (by omega)).trans (by rw [fk]); rw [t]; exact ⟨h3.1, (show RO I I2 from fr_.1).lf.tr h3.2⟩)
            · omega
        · -- 47 f
          have fk : fct g n s = 3 := (if_neg (bf_n h6)).trans ((if_neg (bf_n h19)).trans ((if_neg (bf_n h33)).trans (if_pos h47)))
          refine EV.o r_X3_readInput_50 (bpZ (-4)) ?_
          refine EV.g r_X3_readInput_52 ?_
          refine EV.l (lv' := [(0, _), (1, _), (2, _)]) r_X3_readInput_84 rfl ?_
          refine EV.l (lv' := [(0, _), (1, _), (2, _)]) r_X3_readInput_85 rfl ?_
          refine EV.z0_ne r_X3_readInput_86 (fun h86 => ?_) (fun h86 => ?_)
          · -- 86 t
            refine EV.l (lv' := [(0, _), (1, _), (2, _)]) r_X3_readInput_97 rfl ?_
            refine EV.cu r_X3_readInput_98 (aV0 mt_78 la_1) (c_advance ls.1 gb ls.rg.en (by omega) ls.rg.rc.pe (pep_le ls.rg.sn) (by omega)) (fun I2 h2 => ?_)
            obtain ⟨rc, fr_⟩ := h2
            have sn : s < n := kd_lt (by rw [(fct_w (g := g) (n := n) (s := s) (by omega)).1]; decide)
            have ls2 := ls.adv rfl sn rc fr_
            refine EV.l (lv' := [(0, _), (1, _), (2, _)]) r_X3_readInput_101 rfl ?_
            refine EV.l (lv' := [(0, _), (1, _), (2, _)]) r_X3_readInput_102 rfl ?_
            refine EV.cu r_X3_readInput_103 (aV1 mt_56 la_53) (c_addL (x := (l, .inl (nxp g n s))) (w := 1) (o := 3) ls2 hn (fun s2 e => by have a1 := nxp_gt (g := g) sn; have a2 : l.n ≤ s := (ls.2.2 s rfl).2; cases e; show l.n < nxp g n s; omega) (fun _ _ => by decide) (by omega)) (fun I3 h3 => ?_)
            exact EV.ru r_X3_readInput_106 (by have t : inpG g n l s = (addc l 1 3, .inl (nxp g n s)) := (if_neg (by omega)).trans (by rw [fk]); rw [t]; exact ⟨h3.1, (show RO I I2 from fr_.1).lf.tr h3.2⟩)
          · omega
      · -- 33 f
        have fk : fct g n s = 2 := (if_neg (bf_n h6)).trans ((if_neg (bf_n h19)).trans (if_pos h33))
        refine EV.o r_X3_readInput_36 (bpZ (-3)) ?_
        refine EV.g r_X3_readInput_38 ?_
        refine EV.l (lv' := [(0, _), (1, _), (2, _)]) r_X3_readInput_84 rfl ?_
        refine EV.l (lv' := [(0, _), (1, _), (2, _)]) r_X3_readInput_85 rfl ?_
        refine EV.z0_ne r_X3_readInput_86 (fun h86 => ?_) (fun h86 => ?_)
        · -- 86 t
          refine EV.l (lv' := [(0, _), (1, _), (2, _)]) r_X3_readInput_97 rfl ?_
          refine EV.cu r_X3_readInput_98 (aV0 mt_78 la_1) (c_advance ls.1 gb ls.rg.en (by omega) ls.rg.rc.pe (pep_le ls.rg.sn) (by omega)) (fun I2 h2 => ?_)
          obtain ⟨rc, fr_⟩ := h2
          have sn : s < n := kd_lt (by rw [(fct_w (g := g) (n := n) (s := s) (by omega)).1]; decide)
          have ls2 := ls.adv rfl sn rc fr_
          refine EV.l (lv' := [(0, _), (1, _), (2, _)]) r_X3_readInput_101 rfl ?_
          refine EV.l (lv' := [(0, _), (1, _), (2, _)]) r_X3_readInput_102 rfl ?_
          refine EV.cu r_X3_readInput_103 (aV1 mt_56 la_53) (c_addL (x := (l, .inl (nxp g n s))) (w := 1) (o := 2) ls2 hn (fun s2 e => by have a1 := nxp_gt (g := g) sn; have a2 : l.n ≤ s := (ls.2.2 s rfl).2; cases e; show l.n < nxp g n s; omega) (fun _ _ => by decide) (by omega)) (fun I3 h3 => ?_)
          exact EV.ru r_X3_readInput_106 (by have t : inpG g n l s = (addc l 1 2, .inl (nxp g n s)) := (if_neg (by omega)).trans (by rw [fk]); rw [t]; exact ⟨h3.1, (show RO I I2 from fr_.1).lf.tr h3.2⟩)
        · omega
    · -- 19 f
      have fk : fct g n s = 1 := (if_neg (bf_n h6)).trans (if_pos h19)
      refine EV.o r_X3_readInput_22 (bpZ (-2)) ?_
      refine EV.g r_X3_readInput_24 ?_
      refine EV.l (lv' := [(0, _), (1, _), (2, _)]) r_X3_readInput_84 rfl ?_
      refine EV.l (lv' := [(0, _), (1, _), (2, _)]) r_X3_readInput_85 rfl ?_
      refine EV.z0_ne r_X3_readInput_86 (fun h86 => ?_) (fun h86 => ?_)
      · -- 86 t
        refine EV.l (lv' := [(0, _), (1, _), (2, _)]) r_X3_readInput_97 rfl ?_
        refine EV.cu r_X3_readInput_98 (aV0 mt_78 la_1) (c_advance ls.1 gb ls.rg.en (by omega) ls.rg.rc.pe (pep_le ls.rg.sn) (by omega)) (fun I2 h2 => ?_)
        obtain ⟨rc, fr_⟩ := h2
        have sn : s < n := kd_lt (by rw [(fct_w (g := g) (n := n) (s := s) (by omega)).1]; decide)
        have ls2 := ls.adv rfl sn rc fr_
        refine EV.l (lv' := [(0, _), (1, _), (2, _)]) r_X3_readInput_101 rfl ?_
        refine EV.l (lv' := [(0, _), (1, _), (2, _)]) r_X3_readInput_102 rfl ?_
        refine EV.cu r_X3_readInput_103 (aV1 mt_56 la_53) (c_addL (x := (l, .inl (nxp g n s))) (w := 1) (o := 1) ls2 hn (fun s2 e => by have a1 := nxp_gt (g := g) sn; have a2 : l.n ≤ s := (ls.2.2 s rfl).2; cases e; show l.n < nxp g n s; omega) (fun _ _ => by decide) (by omega)) (fun I3 h3 => ?_)
        exact EV.ru r_X3_readInput_106 (by have t : inpG g n l s = (addc l 1 1, .inl (nxp g n s)) := (if_neg (by omega)).trans (by rw [fk]); rw [t]; exact ⟨h3.1, (show RO I I2 from fr_.1).lf.tr h3.2⟩)
      · omega
  · -- 6 f
    have fk : fct g n s = 0 := if_pos h6
    refine EV.o r_X3_readInput_9 (icZ (-1)) ?_
    refine EV.g r_X3_readInput_10 ?_
    refine EV.l (lv' := [(0, _), (1, _), (2, _)]) r_X3_readInput_84 rfl ?_
    refine EV.l (lv' := [(0, _), (1, _), (2, _)]) r_X3_readInput_85 rfl ?_
    refine EV.z0_ne r_X3_readInput_86 (fun h86 => ?_) (fun h86 => ?_)
    · -- 86 t
      refine EV.l (lv' := [(0, _), (1, _), (2, _)]) r_X3_readInput_97 rfl ?_
      refine EV.cu r_X3_readInput_98 (aV0 mt_78 la_1) (c_advance ls.1 gb ls.rg.en (by omega) ls.rg.rc.pe (pep_le ls.rg.sn) (by omega)) (fun I2 h2 => ?_)
      obtain ⟨rc, fr_⟩ := h2
      have sn : s < n := kd_lt (by rw [(fct_w (g := g) (n := n) (s := s) (by omega)).1]; decide)
      have ls2 := ls.adv rfl sn rc fr_
      refine EV.l (lv' := [(0, _), (1, _), (2, _)]) r_X3_readInput_101 rfl ?_
      refine EV.l (lv' := [(0, _), (1, _), (2, _)]) r_X3_readInput_102 rfl ?_
      refine EV.cu r_X3_readInput_103 (aV1 mt_56 la_53) (c_addL (x := (l, .inl (nxp g n s))) (w := 1) (o := 0) ls2 hn (fun s2 e => by have a1 := nxp_gt (g := g) sn; have a2 : l.n ≤ s := (ls.2.2 s rfl).2; cases e; show l.n < nxp g n s; omega) (fun _ _ => by decide) (by omega)) (fun I3 h3 => ?_)
      exact EV.ru r_X3_readInput_106 (by have t : inpG g n l s = (addc l 1 0, .inl (nxp g n s)) := (if_neg (by omega)).trans (by rw [fk]); rw [t]; exact ⟨h3.1, (show RO I I2 from fr_.1).lf.tr h3.2⟩)
    · omega
theorem c_inpB {d : Nat} {I : Nat → Nat → Int32} {J : Nat → Nat → Int64} {g : Nat → Nat} {n : Nat} {l : LW} {q : Nat × Nat} (ls : LSc g n (l, .inr q) I)  (hd : 3 ≤ d) : RU d 55 [.ref 53, .ref 1] I J (fun I' => I' = I) := by
  refine RU.in (d0 := 2) hd mt_55 (Nat.le_of_ble_eq_true rfl) (fun d' hd' => ?_)
  show EV none M_X3_readInput d' 0 [(0, .ref 53), (1, .ref 1)] [] (hp I J) _
  refine EV.l (lv' := [(0, _), (1, _)]) r_X3_readInput_0 rfl ?_
  refine EV.lcT r_X3_readInput_1 rfl ?_
  refine EV.cv r_X3_readInput_3 (aV1 mt_84 la_1) (c_wordB0 (show RB n q.1 q.2 I from ls.2.1) (by omega)) ?_
  refine EV.n0_eq r_X3_readInput_6 (fun h6 => ?_) (fun h6 => ?_)
  · -- 6 t
    refine EV.l (lv' := [(0, _), (1, _)]) r_X3_readInput_13 rfl ?_
    refine EV.lcT r_X3_readInput_14 rfl ?_
    refine EV.cv r_X3_readInput_16 (aV1 mt_84 la_1) (c_wordB0 (show RB n q.1 q.2 I from ls.2.1) (by omega)) ?_
    refine EV.n0_eq r_X3_readInput_19 (fun h19 => ?_) (fun h19 => ?_)
    · -- 19 t
      refine EV.l (lv' := [(0, _), (1, _)]) r_X3_readInput_27 rfl ?_
      refine EV.lcT r_X3_readInput_28 rfl ?_
      refine EV.cv r_X3_readInput_30 (aV1 mt_84 la_1) (c_wordB0 (show RB n q.1 q.2 I from ls.2.1) (by omega)) ?_
      refine EV.n0_eq r_X3_readInput_33 (fun h33 => ?_) (fun h33 => ?_)
      · -- 33 t
        refine EV.l (lv' := [(0, _), (1, _)]) r_X3_readInput_41 rfl ?_
        refine EV.lcT r_X3_readInput_42 rfl ?_
        refine EV.cv r_X3_readInput_44 (aV1 mt_84 la_1) (c_wordB0 (show RB n q.1 q.2 I from ls.2.1) (by omega)) ?_
        refine EV.n0_eq r_X3_readInput_47 (fun h47 => ?_) (fun h47 => ?_)
        · -- 47 t
          refine EV.l (lv' := [(0, _), (1, _)]) r_X3_readInput_55 rfl ?_
          refine EV.lcT r_X3_readInput_56 rfl ?_
          refine EV.cv r_X3_readInput_58 (aV1 mt_84 la_1) (c_wordB0 (show RB n q.1 q.2 I from ls.2.1) (by omega)) ?_
          refine EV.n0_eq r_X3_readInput_61 (fun h61 => ?_) (fun h61 => ?_)
          · -- 61 t
            refine EV.l (lv' := [(0, _), (1, _)]) r_X3_readInput_69 rfl ?_
            refine EV.lcT r_X3_readInput_70 rfl ?_
            refine EV.cv r_X3_readInput_72 (aV1 mt_84 la_1) (c_wordB0 (show RB n q.1 q.2 I from ls.2.1) (by omega)) ?_
            refine EV.n0_eq r_X3_readInput_75 (fun h75 => ?_) (fun h75 => ?_)
            · -- 75 t
              refine EV.o r_X3_readInput_83 (icN (0) (v := 0)) ?_
              refine EV.l (lv' := [(0, _), (1, _), (2, _)]) r_X3_readInput_84 rfl ?_
              refine EV.l (lv' := [(0, _), (1, _), (2, _)]) r_X3_readInput_85 rfl ?_
              refine EV.n0_ne r_X3_readInput_86 (fun h86 => ?_) (fun h86 => ?_)
              · omega
              · -- 86 f
                refine EV.l (lv' := [(0, _), (1, _), (2, _)]) r_X3_readInput_89 rfl ?_
                refine EV.o r_X3_readInput_90 (icN (1) (v := 1)) ?_
                refine EV.cu r_X3_readInput_91 (aV1 mt_88 la_1) (c_failB (show RB n q.1 q.2 I from ls.2.1) (by omega)) (fun I2 h2 => ?_)
                refine EV.g r_X3_readInput_94 ?_
                exact EV.ru r_X3_readInput_106 (h2)
            · omega
          · omega
        · omega
      · omega
    · omega
  · omega
theorem c_unitB {d : Nat} {I : Nat → Nat → Int32} {J : Nat → Nat → Int64} {g : Nat → Nat} {n : Nat} {l : LW} {q : Nat × Nat} (ls : LSc g n (l, .inr q) I) {k : Nat}  (hd : 4 ≤ d) : RU d 53 [.ref 53, .ref 1, .int (nI k)] I J (fun I' => I' = I) := by
  refine RU.in (d0 := 3) hd mt_53 (Nat.le_of_ble_eq_true rfl) (fun d' hd' => ?_)
  show EV none M_X3_readUnit d' 0 [(0, .ref 53), (1, .ref 1), (2, .int (nI k))] [] (hp I J) _
  refine EV.l (lv' := [(0, _), (1, _), (2, _)]) r_X3_readUnit_0 rfl ?_
  refine EV.cv r_X3_readUnit_1 (aV0 mt_82 la_1) (c_seesNB0 (show RB n q.1 q.2 I from ls.2.1) (by omega)) ?_
  refine EV.n0_eq r_X3_readUnit_4 (fun h4 => ?_) (fun h4 => ?_)
  · -- 4 t
    refine EV.l (lv' := [(0, _), (1, _), (2, _)]) r_X3_readUnit_22 rfl ?_
    refine EV.o r_X3_readUnit_23 (bpN (40) 40) ?_
    refine EV.cv r_X3_readUnit_25 (aV1 mt_83 la_1) (c_seesSB0 (show RB n q.1 q.2 I from ls.2.1) (by omega)) ?_
    refine EV.n0_eq r_X3_readUnit_28 (fun h28 => ?_) (fun h28 => ?_)
    · -- 28 t
      refine EV.l (lv' := [(0, _), (1, _), (2, _)]) r_X3_readUnit_66 rfl ?_
      refine EV.lcT r_X3_readUnit_67 rfl ?_
      refine EV.cv r_X3_readUnit_69 (aV1 mt_84 la_1) (c_wordB0 (show RB n q.1 q.2 I from ls.2.1) (by omega)) ?_
      refine EV.n0_eq r_X3_readUnit_72 (fun h72 => ?_) (fun h72 => ?_)
      · -- 72 t
        refine EV.l (lv' := [(0, _), (1, _), (2, _)]) r_X3_readUnit_86 rfl ?_
        refine EV.lcT r_X3_readUnit_87 rfl ?_
        refine EV.cv r_X3_readUnit_89 (aV1 mt_84 la_1) (c_wordB0 (show RB n q.1 q.2 I from ls.2.1) (by omega)) ?_
        refine EV.n0_eq r_X3_readUnit_92 (fun h92 => ?_) (fun h92 => ?_)
        · -- 92 t
          refine EV.l (lv' := [(0, _), (1, _), (2, _)]) r_X3_readUnit_106 rfl ?_
          refine EV.l (lv' := [(0, _), (1, _), (2, _)]) r_X3_readUnit_107 rfl ?_
          refine EV.cu r_X3_readUnit_108 (aV1 mt_55 la_53) (c_inpB ls (by omega)) (fun I2 h2 => ?_)
          exact EV.ru r_X3_readUnit_111 (h2)
        · omega
      · omega
    · omega
  · omega
theorem c_choice {d : Nat} {I : Nat → Nat → Int32} {J : Nat → Nat → Int64} {g : Nat → Nat} {n s : Nat} {l : LW} (gb : ∀ j, g j < 256) (hn : n ≤ 150) (ls : LSc g n (l, .inl s) I) (sn : s < n) {sub : LX → LX} {o k D : Nat} (hD : 5 ≤ D) (hko : k + o = 6) (ps : 0 < o → PG g n sub) (ih : 0 < o → CUn 51 D (k + 1) g n sub) {w : Nat} (hw : ecd w 0 = opc w)  (hd : D + 1 ≤ d) : RU d 54 [.ref 53, .ref 1, .int (nI k), .int (zI (opc w))] I J (fun I' => LSc g n (twoG g n sub o w l s) I' ∧ LF I I') := by
  refine RU.in (d0 := D) hd mt_54 (Nat.le_of_ble_eq_true rfl) (fun d' hd' => ?_)
  show EV none M_X3_readChoice d' 0 [(0, .ref 53), (1, .ref 1), (2, .int (nI k)), (3, .int (zI (opc w)))] [] (hp I J) _
  refine EV.l (lv' := [(0, _), (1, _), (2, _), (3, _)]) r_X3_readChoice_0 rfl ?_
  refine EV.l (lv' := [(0, _), (1, _), (2, _), (3, _)]) r_X3_readChoice_1 rfl ?_
  refine EV.o r_X3_readChoice_2 (bpN (6) 6) ?_
  refine EV.n2_ge r_X3_readChoice_4 (fun h4 => ?_) (fun h4 => ?_)
  · -- 4 t
    refine EV.o r_X3_readChoice_11 (icN (0) (v := 0)) ?_
    refine EV.ci r_X3_readChoice_12 (aV1 mt_87 la_1) (c_room0 ls.rg (by omega)) (fun v I2 h2 => ?_)
    obtain ⟨e, rb2, ro2⟩ := h2
    subst e
    refine EV.n0_eq r_X3_readChoice_15 (fun h15 => ?_) (fun h15 => ?_)
    · -- 15 t
      exact EV.ru r_X3_readChoice_57 (by have t : twoG g n sub o w l s = (l, .inr (3, s)) := if_neg (by omega); rw [t]; exact ⟨ls.ro (r2 := .inr (3, s)) rb2 ro2 (fun s2 e => inr_ne e), ro2.lf⟩)
    · omega
  · -- 4 f
    refine EV.o r_X3_readChoice_7 (icN (1) (v := 1)) ?_
    refine EV.g r_X3_readChoice_8 ?_
    refine EV.ci r_X3_readChoice_12 (aV1 mt_87 la_1) (c_room1 ls.1 gb (by omega) ls.rg (by omega)) (fun v I2 h2 => ?_)
    obtain ⟨e, rg2, ro2⟩ := h2
    subst e
    have ls2 : LSc g n (l, .inl (nxp g n s)) I2 := ls.ro (r2 := .inl (nxp g n s)) rg2 ro2 (fun s2 e => by cases e; exact ⟨s, rfl, Nat.le_of_lt (nxp_gt sn)⟩)
    refine EV.n0_eq r_X3_readChoice_15 (fun h15 => ?_) (fun h15 => ?_)
    · omega
    · -- 15 f
      refine EV.l (lv' := [(0, _), (1, _), (2, _), (3, _)]) r_X3_readChoice_18 rfl ?_
      refine EV.o r_X3_readChoice_19 (bpN (91) 91) ?_
      refine EV.cu r_X3_readChoice_21 (aV1 mt_86 la_1) (c_sign (ls2).1 gb (by omega) (ls2).2.1 (by decide) (by omega)) (fun I3 h3 => ?_)
      have s3 : LSc g n (((l, .inl (nxp g n s)) : LX).1, tkS g n 91 ((l, .inl (nxp g n s)) : LX).2) I3 := (ls2 : LSc g n ((l, .inl (nxp g n s)) : LX) I2).sgn h3.1 h3.2
      refine EV.l (lv' := [(0, _), (1, _), (2, _), (3, _)]) r_X3_readChoice_24 rfl ?_
      refine EV.l (lv' := [(0, _), (1, _), (2, _), (3, _)]) r_X3_readChoice_25 rfl ?_
      refine EV.l (lv' := [(0, _), (1, _), (2, _), (3, _)]) r_X3_readChoice_26 rfl ?_
      refine EV.o r_X3_readChoice_27 (icN (1) (v := 1)) ?_
      refine EV.o r_X3_readChoice_28 iaddN ?_
      refine EV.cu r_X3_readChoice_29 (aV2 mt_51 la_53) (ih (by omega) d' I3 J (((l, .inl (nxp g n s)) : LX).1, tkS g n 91 ((l, .inl (nxp g n s)) : LX).2) (by omega) s3) (fun I4 h4 => ?_)
      refine EV.l (lv' := [(0, _), (1, _), (2, _), (3, _)]) r_X3_readChoice_32 rfl ?_
      refine EV.o r_X3_readChoice_33 (bpN (44) 44) ?_
      refine EV.cu r_X3_readChoice_35 (aV1 mt_86 la_1) (c_sign (h4.1).1 gb (by omega) (h4.1).2.1 (by decide) (by omega)) (fun I5 h5 => ?_)
      have s5 : LSc g n ((sub (((l, .inl (nxp g n s)) : LX).1, tkS g n 91 ((l, .inl (nxp g n s)) : LX).2)).1, tkS g n 44 (sub (((l, .inl (nxp g n s)) : LX).1, tkS g n 91 ((l, .inl (nxp g n s)) : LX).2)).2) I5 := (h4.1 : LSc g n (sub (((l, .inl (nxp g n s)) : LX).1, tkS g n 91 ((l, .inl (nxp g n s)) : LX).2)) I4).sgn h5.1 h5.2
      refine EV.l (lv' := [(0, _), (1, _), (2, _), (3, _)]) r_X3_readChoice_38 rfl ?_
      refine EV.l (lv' := [(0, _), (1, _), (2, _), (3, _)]) r_X3_readChoice_39 rfl ?_
      refine EV.l (lv' := [(0, _), (1, _), (2, _), (3, _)]) r_X3_readChoice_40 rfl ?_
      refine EV.o r_X3_readChoice_41 (icN (1) (v := 1)) ?_
      refine EV.o r_X3_readChoice_42 iaddN ?_
      refine EV.cu r_X3_readChoice_43 (aV2 mt_51 la_53) (ih (by omega) d' I5 J ((sub (((l, .inl (nxp g n s)) : LX).1, tkS g n 91 ((l, .inl (nxp g n s)) : LX).2)).1, tkS g n 44 (sub (((l, .inl (nxp g n s)) : LX).1, tkS g n 91 ((l, .inl (nxp g n s)) : LX).2)).2) (by omega) s5) (fun I6 h6 => ?_)
      refine EV.l (lv' := [(0, _), (1, _), (2, _), (3, _)]) r_X3_readChoice_46 rfl ?_
      refine EV.o r_X3_readChoice_47 (bpN (93) 93) ?_
      refine EV.cu r_X3_readChoice_49 (aV1 mt_86 la_1) (c_sign (h6.1).1 gb (by omega) (h6.1).2.1 (by decide) (by omega)) (fun I7 h7 => ?_)
      have s7 : LSc g n ((sub ((sub (((l, .inl (nxp g n s)) : LX).1, tkS g n 91 ((l, .inl (nxp g n s)) : LX).2)).1, tkS g n 44 (sub (((l, .inl (nxp g n s)) : LX).1, tkS g n 91 ((l, .inl (nxp g n s)) : LX).2)).2)).1, tkS g n 93 (sub ((sub (((l, .inl (nxp g n s)) : LX).1, tkS g n 91 ((l, .inl (nxp g n s)) : LX).2)).1, tkS g n 44 (sub (((l, .inl (nxp g n s)) : LX).1, tkS g n 91 ((l, .inl (nxp g n s)) : LX).2)).2)).2) I7 := (h6.1 : LSc g n (sub ((sub (((l, .inl (nxp g n s)) : LX).1, tkS g n 91 ((l, .inl (nxp g n s)) : LX).2)).1, tkS g n 44 (sub (((l, .inl (nxp g n s)) : LX).1, tkS g n 91 ((l, .inl (nxp g n s)) : LX).2)).2)) I6).sgn h7.1 h7.2
      refine EV.l (lv' := [(0, _), (1, _), (2, _), (3, _)]) r_X3_readChoice_52 rfl ?_
      refine EV.l (lv' := [(0, _), (1, _), (2, _), (3, _)]) r_X3_readChoice_53 rfl ?_
      refine EV.cu r_X3_readChoice_54 (aV1 mt_56 la_53) (c_addL (x := ((sub ((sub (((l, .inl (nxp g n s)) : LX).1, tkS g n 91 ((l, .inl (nxp g n s)) : LX).2)).1, tkS g n 44 (sub (((l, .inl (nxp g n s)) : LX).1, tkS g n 91 ((l, .inl (nxp g n s)) : LX).2)).2)).1, tkS g n 93 (sub ((sub (((l, .inl (nxp g n s)) : LX).1, tkS g n 91 ((l, .inl (nxp g n s)) : LX).2)).1, tkS g n 44 (sub (((l, .inl (nxp g n s)) : LX).1, tkS g n 91 ((l, .inl (nxp g n s)) : LX).2)).2)).2)) (w := w) (o := 0) s7 hn (fun s2 e => by obtain ⟨s9, e9, h9⟩ := tkS_q e; exact Nat.lt_of_le_of_lt (h6.1.2.2 s9 e9).2 h9.1) (fun _ _ => by rw [hw]) (by omega)) (fun I8 h8 => ?_)
      exact EV.ru r_X3_readChoice_57 (by unfold twoG; rw [if_pos (by omega)]; exact ⟨h8.1, ((((((ro2.lf).tr h3.2.lf).tr h4.2).tr h5.2.lf).tr h6.2).tr h7.2.lf).tr h8.2⟩)
theorem c_unitG {d : Nat} {I : Nat → Nat → Int32} {J : Nat → Nat → Int64} {g : Nat → Nat} {n s : Nat} {l : LW} (gb : ∀ j, g j < 256) (hn : n ≤ 150) (ls : LSc g n (l, .inl s) I) {sub : LX → LX} {o k D : Nat} (hD : 5 ≤ D) (hko : k + o = 6) (ps : 0 < o → PG g n sub) (ih : 0 < o → CUn 51 D (k + 1) g n sub)  (hd : D + 1 + 1 ≤ d) : RU d 53 [.ref 53, .ref 1, .int (nI k)] I J (fun I' => LSc g n (uniG g n sub o l s) I' ∧ LF I I') := by
  refine RU.in (d0 := D + 1) hd mt_53 (Nat.le_of_ble_eq_true rfl) (fun d' hd' => ?_)
  show EV none M_X3_readUnit d' 0 [(0, .ref 53), (1, .ref 1), (2, .int (nI k))] [] (hp I J) _
  refine EV.l (lv' := [(0, _), (1, _), (2, _)]) r_X3_readUnit_0 rfl ?_
  refine EV.cv r_X3_readUnit_1 (aV0 mt_82 la_1) (c_seesNG ls.rg (by omega)) ?_
  refine EV.p0_eq r_X3_readUnit_4 (fun h4 => ?_) (fun h4 => ?_)
  · -- 4 t
    refine EV.l (lv' := [(0, _), (1, _), (2, _)]) r_X3_readUnit_22 rfl ?_
    refine EV.o r_X3_readUnit_23 (bpN (40) 40) ?_
    refine EV.cv r_X3_readUnit_25 (aV1 mt_83 la_1) (c_seesSG ls.rg gb (by decide) (by omega)) ?_
    refine EV.p0_eq r_X3_readUnit_28 (fun h28 => ?_) (fun h28 => ?_)
    · -- 28 t
      refine EV.l (lv' := [(0, _), (1, _), (2, _)]) r_X3_readUnit_66 rfl ?_
      refine EV.lcT r_X3_readUnit_67 rfl ?_
      refine EV.cv r_X3_readUnit_69 (aV1 mt_84 la_1) (c_wordG ls.1 gb (by omega) ls.rg tx_5 (by decide) lLeast (by omega)) ?_
      refine EV.b0_eq r_X3_readUnit_72 (fun h72 => ?_) (fun h72 => ?_)
      · -- 72 t
        refine EV.l (lv' := [(0, _), (1, _), (2, _)]) r_X3_readUnit_86 rfl ?_
        refine EV.lcT r_X3_readUnit_87 rfl ?_
        refine EV.cv r_X3_readUnit_89 (aV1 mt_84 la_1) (c_wordG ls.1 gb (by omega) ls.rg tx_6 (by decide) lMost (by omega)) ?_
        refine EV.b0_eq r_X3_readUnit_92 (fun h92 => ?_) (fun h92 => ?_)
        · -- 92 t
          refine EV.l (lv' := [(0, _), (1, _), (2, _)]) r_X3_readUnit_106 rfl ?_
          refine EV.l (lv' := [(0, _), (1, _), (2, _)]) r_X3_readUnit_107 rfl ?_
          refine EV.cu r_X3_readUnit_108 (aV1 mt_55 la_53) (c_inpG gb hn ls (by omega)) (fun I2 h2 => ?_)
          exact EV.ru r_X3_readUnit_111 (by unfold uniG; rw [if_neg h4, if_neg h28, if_neg (bf_n h72), if_neg (bf_n h92)]; exact h2)
        · -- 92 f
          have sn : s < n := kd_lt (by rw [(of_decide_eq_true h92).1]; decide)
          refine EV.l (lv' := [(0, _), (1, _), (2, _)]) r_X3_readUnit_95 rfl ?_
          refine EV.l (lv' := [(0, _), (1, _), (2, _)]) r_X3_readUnit_96 rfl ?_
          refine EV.l (lv' := [(0, _), (1, _), (2, _)]) r_X3_readUnit_97 rfl ?_
          refine EV.o r_X3_readUnit_98 (bpZ (-17)) ?_
          rw [show (-17 : Int) = opc 7 by decide]
          refine EV.cu r_X3_readUnit_100 (aV3 mt_54 la_53) (c_choice gb hn ls sn hD hko ps ih (w := 7) (by decide) (by omega)) (fun I2 h2 => ?_)
          refine EV.g r_X3_readUnit_103 ?_
          exact EV.ru r_X3_readUnit_111 (by unfold uniG; rw [if_neg h4, if_neg h28, if_neg (bf_n h72), if_pos h92]; exact h2)
      · -- 72 f
        have sn : s < n := kd_lt (by rw [(of_decide_eq_true h72).1]; decide)
        refine EV.l (lv' := [(0, _), (1, _), (2, _)]) r_X3_readUnit_75 rfl ?_
        refine EV.l (lv' := [(0, _), (1, _), (2, _)]) r_X3_readUnit_76 rfl ?_
        refine EV.l (lv' := [(0, _), (1, _), (2, _)]) r_X3_readUnit_77 rfl ?_
        refine EV.o r_X3_readUnit_78 (bpZ (-16)) ?_
        rw [show (-16 : Int) = opc 6 by decide]
        refine EV.cu r_X3_readUnit_80 (aV3 mt_54 la_53) (c_choice gb hn ls sn hD hko ps ih (w := 6) (by decide) (by omega)) (fun I2 h2 => ?_)
        refine EV.g r_X3_readUnit_83 ?_
        exact EV.ru r_X3_readUnit_111 (by unfold uniG; rw [if_neg h4, if_neg h28, if_pos h72]; exact h2)
    · -- 28 f
      have sn : s < n := kd_lt (by rw [h28.1]; decide)
      refine EV.l (lv' := [(0, _), (1, _), (2, _)]) r_X3_readUnit_31 rfl ?_
      refine EV.l (lv' := [(0, _), (1, _), (2, _)]) r_X3_readUnit_32 rfl ?_
      refine EV.o r_X3_readUnit_33 (bpN (6) 6) ?_
      refine EV.n2_ge r_X3_readUnit_35 (fun h35 => ?_) (fun h35 => ?_)
      · -- 35 t
        refine EV.o r_X3_readUnit_42 (icN (0) (v := 0)) ?_
        refine EV.ci r_X3_readUnit_43 (aV1 mt_87 la_1) (c_room0 ls.rg (by omega)) (fun v I2 h2 => ?_)
        obtain ⟨e, rb2, ro2⟩ := h2
        subst e
        refine EV.n0_eq r_X3_readUnit_46 (fun h46 => ?_) (fun h46 => ?_)
        · -- 46 t
          exact EV.ru r_X3_readUnit_111 (by unfold uniG; rw [if_neg h4, if_pos h28]; unfold parG; rw [if_neg (by omega)]; exact ⟨ls.ro (r2 := .inr (3, s)) rb2 ro2 (fun s2 e => inr_ne e), ro2.lf⟩)
        · omega
      · -- 35 f
        refine EV.o r_X3_readUnit_38 (icN (1) (v := 1)) ?_
        refine EV.g r_X3_readUnit_39 ?_
        refine EV.ci r_X3_readUnit_43 (aV1 mt_87 la_1) (c_room1 ls.1 gb (by omega) ls.rg (by omega)) (fun v I2 h2 => ?_)
        obtain ⟨e, rg2, ro2⟩ := h2
        subst e
        have ls2 : LSc g n (l, .inl (nxp g n s)) I2 := ls.ro (r2 := .inl (nxp g n s)) rg2 ro2 (fun s2 e => by cases e; exact ⟨s, rfl, Nat.le_of_lt (nxp_gt sn)⟩)
        refine EV.n0_eq r_X3_readUnit_46 (fun h46 => ?_) (fun h46 => ?_)
        · omega
        · -- 46 f
          refine EV.l (lv' := [(0, _), (1, _), (2, _)]) r_X3_readUnit_49 rfl ?_
          refine EV.l (lv' := [(0, _), (1, _), (2, _)]) r_X3_readUnit_50 rfl ?_
          refine EV.l (lv' := [(0, _), (1, _), (2, _)]) r_X3_readUnit_51 rfl ?_
          refine EV.o r_X3_readUnit_52 (icN (1) (v := 1)) ?_
          refine EV.o r_X3_readUnit_53 iaddN ?_
          refine EV.cu r_X3_readUnit_54 (aV2 mt_51 la_53) (ih (by omega) d' I2 J ((l, .inl (nxp g n s)) : LX) (by omega) ls2) (fun I3 h3 => ?_)
          refine EV.l (lv' := [(0, _), (1, _), (2, _)]) r_X3_readUnit_57 rfl ?_
          refine EV.o r_X3_readUnit_58 (bpN (41) 41) ?_
          refine EV.cu r_X3_readUnit_60 (aV1 mt_86 la_1) (c_sign h3.1.1 gb (by omega) h3.1.2.1 (by decide) (by omega)) (fun I4 h4b => ?_)
          have s4 := h3.1.sgn h4b.1 h4b.2
          refine EV.g r_X3_readUnit_63 ?_
          exact EV.ru r_X3_readUnit_111 (by unfold uniG; rw [if_neg h4, if_pos h28]; unfold parG; rw [if_pos (by omega)]; exact ⟨s4, ((ro2.lf).tr h3.2).tr h4b.2.lf⟩)
  · -- 4 f
    refine EV.l (lv' := [(0, _), (1, _), (2, _)]) r_X3_readUnit_7 rfl ?_
    refine EV.l (lv' := [(0, _), (1, _), (2, _)]) r_X3_readUnit_8 rfl ?_
    refine EV.o r_X3_readUnit_9 (icN (0) (v := 0)) ?_
    refine EV.o r_X3_readUnit_10 (spN (999) 999) ?_
    refine EV.ci r_X3_readUnit_13 (aV2 mt_85 la_1) (c_numN ls.1 gb (by omega) (show RD g n (.inl s) I from ls.rg) (by omega) (by omega) (by omega)) (fun v I2 h2 => ?_)
    obtain ⟨x, e, xl, xh, rd2, xe, ro2⟩ := h2
    subst e
    refine EV.cu r_X3_readUnit_16 (aV1 mt_56 la_53) (c_addL (x := (l, (tkN g n 0 ((999 : Nat) : Int) (.inl s)).2)) (w := 0) (o := (tkN g n 0 ((999 : Nat) : Int) (.inl s)).1) (ls.ro rd2 ro2 (fun s2 e => ⟨s, rfl, Nat.le_of_lt (tkN_q e).1⟩)) hn (fun s2 e => Nat.lt_of_le_of_lt (ls.2.2 s rfl).2 (tkN_q e).1) (fun s2 e => by rw [xe s2 e]; exact (zI_nat _).symm) (by omega)) (fun I3 h3 => ?_)
    refine EV.g r_X3_readUnit_19 ?_
    exact EV.ru r_X3_readUnit_111 (by unfold uniG; rw [if_pos h4]; exact ⟨h3.1, ro2.lf.tr h3.2⟩)
theorem c_unit {g : Nat → Nat} {n : Nat} {sub : LX → LX} {o k D : Nat} (gb : ∀ j, g j < 256) (hn : n ≤ 150) (hD : 5 ≤ D) (hko : k + o = 6) (ps : 0 < o → PG g n sub) (ih : 0 < o → CUn 51 D (k + 1) g n sub) : CUn 53 (D + 2) k g n (uni g n sub o) := by
  intro d I J x hd ls
  obtain ⟨l, r⟩ := x
  cases r with
  | inl s => exact c_unitG gb hn ls hD hko ps ih (by omega)
  | inr q =>
    obtain ⟨I', e, h⟩ := c_unitB (d := d) (I := I) (J := J) (k := k) ls (by omega)
    subst e
    exact ⟨_, ⟨ls, LF.rf⟩, h⟩
