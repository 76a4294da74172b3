/-! Rows of the law. -/
theorem r_L_law__0 : RW M_L_law_ 0 (.new 8) 3 10 0 3 := ⟨by decide +kernel, rfl⟩
theorem r_L_law__3 : RW M_L_law_ 3 (.dup) 1 0 0 4 := ⟨by decide +kernel, rfl⟩
theorem r_L_law__4 : RW M_L_law_ 4 (.invokespecial 112) 3 112 0 7 := ⟨by decide +kernel, rfl⟩
theorem r_L_law__7 : RW M_L_law_ 7 (.astore_n 1) 1 0 0 8 := ⟨by decide +kernel, rfl⟩
theorem r_L_law__8 : RW M_L_law_ 8 (.new 113) 3 11 0 11 := ⟨by decide +kernel, rfl⟩
theorem r_L_law__11 : RW M_L_law_ 11 (.dup) 1 0 0 12 := ⟨by decide +kernel, rfl⟩
theorem r_L_law__12 : RW M_L_law_ 12 (.invokespecial 115) 3 171 0 15 := ⟨by decide +kernel, rfl⟩
theorem r_L_law__15 : RW M_L_law_ 15 (.astore_n 2) 1 0 0 16 := ⟨by decide +kernel, rfl⟩
theorem r_L_law__16 : RW M_L_law_ 16 (.iconst 1) 1 0 0 17 := ⟨by decide +kernel, rfl⟩
theorem r_L_law__17 : RW M_L_law_ 17 (.newarray .long) 2 0 0 19 := ⟨by decide +kernel, rfl⟩
theorem r_L_law__19 : RW M_L_law_ 19 (.astore_n 3) 1 0 0 20 := ⟨by decide +kernel, rfl⟩
theorem r_L_law__20 : RW M_L_law_ 20 (.iconst 0) 1 0 0 21 := ⟨by decide +kernel, rfl⟩
theorem r_L_law__21 : RW M_L_law_ 21 (.istore 4) 2 0 0 23 := ⟨by decide +kernel, rfl⟩
/-! The law's runs. -/
section ST
variable {sc : Option (Nat × (Nat → Int32))} {orc : Nat → List Value → AH → Option Res} {M : MI} {pc c z : Nat} {lv : LV} {st : List Value} {G : AH}
theorem run_st {n : Nat} {cf cf' : Cfg} {r : Res} (h : step1 CLS FTY MT TXS sc orc M cf = some (.inl cf')) (k : run CLS FTY MT TXS sc orc M n cf' = some r) : run CLS FTY MT TXS sc orc M (n + 1) cf = some r := by
  unfold run
  rw [h]
  exact k
theorem st_o {i : Instr} {len a b pq : Nat} {st' : List Value} (hr : RW M pc i len a b pq) (h : stk i st = some st') : step1 CLS FTY MT TXS sc orc M (pc, lv, st, G, c, z) = some (.inl (pq, lv, st', G, c, z)) := by
  rw [← hr.2]
  have e := hr.1
  unfold step1
  simp only [e, h]
theorem st_l {i : Instr} {len a b pq : Nat} {lv' : LV} {st' : List Value} (hr : RW M pc i len a b pq) (h : locop i M.ml b lv st = some (lv', st')) (h1 : stk i st = none := by rfl) : step1 CLS FTY MT TXS sc orc M (pc, lv, st, G, c, z) = some (.inl (pq, lv', st', G, c, z)) := by
  rw [← hr.2]
  have e := hr.1
  unfold step1
  simp only [e, h1, h]
theorem st_n {idx len a b pq : Nat} {q : vw_C} (hr : RW M pc (.new idx) len a b pq) (ha : a < 1000) (hc : CLS[a]? = some q) (hk : okA lv st G = true) : step1 CLS FTY MT TXS sc orc M (pc, lv, st, G, c, z) = some (.inl (pq, lv, .ref G.length :: st, G ++ [oC a ((List.range q.2.2).map fun k => dfl (FTY a k))], c + 1, z + q.2.2)) := by
  rw [← hr.2]
  have e := hr.1
  have e2 : newop CLS FTY M.hd (.new idx) len a pc lv st G c z = some (.inl (pc + len, lv, .ref G.length :: st, G ++ [oC a ((List.range q.2.2).map fun k => dfl (FTY a k))], c + 1, z + q.2.2)) := by
    unfold newop
    simp only [hc, hk, if_true]
    rw [if_neg (by omega)]
  unfold step1
  simp only [e, stk, locop, jmp, heapop, ldop, retop, e2]
theorem st_a {len a b pq : Nat} (hr : RW M pc (.newarray .long) len a b pq) (hk : okA lv st G = true) : step1 CLS FTY MT TXS sc orc M (pc, lv, .int (Int32.ofInt 1) :: st, G, c, z) = some (.inl (pq, lv, .ref G.length :: st, G ++ [oL 1 (fun _ => 0)], c + 1, z + 1)) := by
  rw [← hr.2]
  have e := hr.1
  have e1 : (Int32.ofInt 1).toNatClampNeg = 1 := by decide +kernel
  have e3 : ¬ Int32.ofInt 1 < 0 := by decide +kernel
  have e2 : newop CLS FTY M.hd (.newarray .long) len a pc lv (.int (Int32.ofInt 1) :: st) G c z = some (.inl (pc + len, lv, .ref G.length :: st, G ++ [oL 1 (fun _ => 0)], c + 1, z + 1)) := by
    unfold newop
    simp only [e1]
    rw [if_neg (by rw [hk]; intro h; rcases h with h | h | h; exact e3 h; omega; cases h)]
  unfold step1
  simp only [e, stk, locop, jmp, heapop, ldop, retop, e2]
theorem st_i {idx len a b c1 z1 pq : Nat} {as rest : List Value} {v : Option Value} {G1 : AH} (hr : RW M pc (.invokespecial idx) len a b pq) (hp3 : pc + 3 = pq) (ha : a < 900) (hA : invA MT (.invokespecial idx) a st G = some (as, rest)) (hw : wcs rest ≤ 8) (hc : orc a as G = some (.inl v, G1, c1, z1)) (hk : okA lv rest G = true) : step1 CLS FTY MT TXS sc orc M (pc, lv, st, G, c, z) = some (.inl (pq, lv, v.toList ++ rest, G1, c + c1, z + z1)) := by
  rw [← hp3]
  have e := hr.1
  obtain ⟨e1, e2, e3, e4, e5, e6, e7⟩ := inv_none (i := .invokespecial idx) (st := st) (lv := lv) (pc := pc) (G := G) (sc := sc) rfl (a := a) (b := b) (n := M.ml) (len := len) (hd := M.hd) (c := c) (z := z)
  unfold step1
  simp only [e, e1, e2, e3, e4, e5, e6, e7, invA_op hA]
  unfold calls
  rw [if_neg (by omega), if_neg (by omega), hc]
  simp only [hk, or_true, if_true]
end ST
theorem aI0 {st : List Value} {G : AH} {a o idx : Nat} {M' : MI} (hM : MT[a]? = some M') (hn : M'.np = 0 := by rfl) (ha : a < 900 := by decide) : invA MT (.invokespecial idx) a (.ref o :: st) G = some ([.ref o], st) := by
  unfold invA
  rw [npm hM ha, hn]
  simp
theorem law_begin {L : Nat} {xs : Nat → Int32} (hL : L ≤ 3584) : EV (some (L, xs)) M_L_law_ 41 19 [(0, .ref spc), (1, .ref 0), (2, .ref 106)] [.ref 135] gC (QN 512) := by
  refine EV.l (lv' := [(0, .ref spc), (1, .ref 0), (2, .ref 106), (3, .ref 135)]) r_L_law__19 rfl ?_
  refine EV.o r_L_law__20 (icN (0) (v := 0)) ?_
  refine EV.l (lv' := [(0, _), (1, _), (2, _), (3, _), (4, _)]) r_L_law__21 rfl ?_
  rw [gC_hp]
  exact lw_loop hL 512 0 I0 J0 S0 (by omega) (by decide) INVS_0
theorem law_runs : LawRuns := by
  intro L xs hL
  obtain ⟨res, G9, k, ⟨n0, h9⟩, hq, hk⟩ := law_begin (xs := xs) hL
  obtain ⟨cA, zA9, hA, lA, cAb, zAb, okA1, okA2⟩ := ctA_f
  obtain ⟨cB, zB, hB, lB, cBb, zBb, okB1, -, -⟩ := ctB_f
  have callA : call CLS FTY MT TXS (n0 + 3000) 41 112 [.ref 0] [ob10] = some (.inl none, gA, cA, zA9) := call_up (by omega) _ _ _ _ _ hA
  have callB : call CLS FTY MT TXS (n0 + 3000) 41 171 [.ref 106] (gA ++ [ob11]) = some (.inl none, gB, cB, zB) := call_up (by omega) _ _ _ _ _ hB
  generalize ho : call CLS FTY MT TXS (n0 + 3000) 41 = orc at callA callB
  have s1 : step1 CLS FTY MT TXS (some (L, xs)) orc M_L_law_ (0, [(0, .ref spc)], [], [], 0, 0) = some (.inl (3, [(0, .ref spc)], [.ref 0], [ob10], 1, 15)) := st_n (q := ("CourtMoorhens", KT10, 15)) r_L_law__0 (by decide) rfl (by decide +kernel)
  have s2 : step1 CLS FTY MT TXS (some (L, xs)) orc M_L_law_ (3, [(0, .ref spc)], [.ref 0], [ob10], 1, 15) = some (.inl (4, [(0, .ref spc)], [.ref 0, .ref 0], [ob10], 1, 15)) := st_o r_L_law__3 rfl
  have s3 : step1 CLS FTY MT TXS (some (L, xs)) orc M_L_law_ (4, [(0, .ref spc)], [.ref 0, .ref 0], [ob10], 1, 15) = some (.inl (7, [(0, .ref spc)], [.ref 0], gA, 1 + cA, 15 + zA9)) := st_i (v := none) r_L_law__4 rfl (by decide) (aI0 mt_112) (by decide) callA (by decide +kernel)
  have s4 : ∀ G c z, step1 CLS FTY MT TXS (some (L, xs)) orc M_L_law_ (7, [(0, .ref spc)], [.ref 0], G, c, z) = some (.inl (8, [(0, .ref spc), (1, .ref 0)], [], G, c, z)) := fun G c z => st_l r_L_law__7 rfl
  have s5 : ∀ c z, step1 CLS FTY MT TXS (some (L, xs)) orc M_L_law_ (8, [(0, .ref spc), (1, .ref 0)], [], gA, c, z) = some (.inl (11, [(0, .ref spc), (1, .ref 0)], [.ref 106], gA ++ [ob11], c + 1, z + 56)) := fun c z => by
    have e := st_n (sc := some (L, xs)) (orc := orc) (c := c) (z := z) (st := []) (q := ("CourtMoorhensModel", KT11, 56)) r_L_law__8 (by decide) rfl okA1
    rw [lA] at e
    exact e
  have s6 : ∀ G c z, step1 CLS FTY MT TXS (some (L, xs)) orc M_L_law_ (11, [(0, .ref spc), (1, .ref 0)], [.ref 106], G, c, z) = some (.inl (12, [(0, .ref spc), (1, .ref 0)], [.ref 106, .ref 106], G, c, z)) := fun G c z => st_o r_L_law__11 rfl
  have s7 : ∀ c z, step1 CLS FTY MT TXS (some (L, xs)) orc M_L_law_ (12, [(0, .ref spc), (1, .ref 0)], [.ref 106, .ref 106], gA ++ [ob11], c, z) = some (.inl (15, [(0, .ref spc), (1, .ref 0)], [.ref 106], gB, c + cB, z + zB)) := fun c z => st_i (v := none) r_L_law__12 rfl (by decide) (aI0 mt_171) (by decide) callB okA2
  have s8 : ∀ G c z, step1 CLS FTY MT TXS (some (L, xs)) orc M_L_law_ (15, [(0, .ref spc), (1, .ref 0)], [.ref 106], G, c, z) = some (.inl (16, [(0, .ref spc), (1, .ref 0), (2, .ref 106)], [], G, c, z)) := fun G c z => st_l r_L_law__15 rfl
  have s9 : ∀ G c z, step1 CLS FTY MT TXS (some (L, xs)) orc M_L_law_ (16, [(0, .ref spc), (1, .ref 0), (2, .ref 106)], [], G, c, z) = some (.inl (17, [(0, .ref spc), (1, .ref 0), (2, .ref 106)], [.int (Int32.ofInt 1)], G, c, z)) := fun G c z => st_o r_L_law__16 rfl
  have s10 : ∀ c z, step1 CLS FTY MT TXS (some (L, xs)) orc M_L_law_ (17, [(0, .ref spc), (1, .ref 0), (2, .ref 106)], [.int (Int32.ofInt 1)], gB, c, z) = some (.inl (19, [(0, .ref spc), (1, .ref 0), (2, .ref 106)], [.ref 135], gC, c + 1, z + 1)) := fun c z => by
    have e := st_a (sc := some (L, xs)) (orc := orc) (c := c) (z := z) (st := []) r_L_law__17 okB1
    rw [lB] at e
    exact e
  have h10 := h9 (n0 + 3000) (n0 + 2990) (by omega) (by omega) (1 + cA + 1 + cB + 1) (15 + zA9 + 56 + zB + 1)
  rw [ho] at h10
  have h11 := run_st s1 (run_st s2 (run_st s3 (run_st (s4 _ _ _) (run_st (s5 _ _) (run_st (s6 _ _ _) (run_st (s7 _ _) (run_st (s8 _ _ _) (run_st (s9 _ _ _) (run_st (s10 _ _) h10)))))))))
  refine ⟨n0 + 3000, 41, (res, G9, 1 + cA + 1 + cB + 1 + k, 15 + zA9 + 56 + zB + 1 + 6 * k), by decide, ?_, hq, ?_, ?_⟩
  · rw [ho]
    exact h11
  · show 1 + cA + 1 + cB + 1 + k ≤ 601024
    omega
  · show 15 + zA9 + 56 + zB + 1 + 6 * k ≤ 7293034
    omega
