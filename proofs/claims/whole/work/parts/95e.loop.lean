/-! The law's loop. -/
section SCR
variable {M : MI} {d pc : Nat} {lv : LV} {st : List Value} {G : AH} {Q : (Option Value ⊕ Nat) → AH → Nat → Prop} {L : Nat} {xs : Nat → Int32}
theorem EV.sld {len a b jn pq : Nat} (hr : RW M pc .iaload len a b pq) (h1 : jn < L) (h2 : L < 2147483648) (k : EV (some (L, xs)) M d pq lv (.int (xs jn) :: st) G Q) : EV (some (L, xs)) M d pc lv (.int (nI jn) :: .ref spc :: st) G Q := by
  refine EV.hop hr.1 ?_ (hr.2.symm ▸ k)
  have e2 : (nI jn).toNatClampNeg = jn := nI_clamp (by omega)
  have e3 := nI_pos (n := jn) (by omega)
  simp only [heapop, e2, if_true]
  rw [if_neg (fun z => z.elim e3 (fun z => by omega))]
theorem EV.slen {len a b pq : Nat} (hr : RW M pc .arraylength len a b pq) (k : EV (some (L, xs)) M d pq lv (.int (nI L) :: st) G Q) : EV (some (L, xs)) M d pc lv (.ref spc :: st) G Q := by
  refine EV.hop hr.1 ?_ (hr.2.symm ▸ k)
  simp only [heapop]
  rfl
end SCR
theorem aS8 {st : List Value} {G : AH} {a : Nat} {x1 x2 x3 x4 x5 x6 x7 x8 : Value} {idx : Nat} {M' : MI} (hM : MT[a]? = some M') (hn : M'.np = 8 := by rfl) (ha : a < 900 := by decide) : invA MT (.invokestatic idx) a (x8 :: x7 :: x6 :: x5 :: x4 :: x3 :: x2 :: x1 :: st) G = some ([x1, x2, x3, x4, x5, x6, x7, x8], st) := by
  unfold invA
  rw [npm hM ha, hn]
  simp
theorem lg_self (v : Int64) : lg_cmp v v = nI 0 := by
  have h : ¬ v > v := fun h => by
    have h2 : v.toBitVec.slt v.toBitVec = true := h
    exact absurd (of_decide_eq_true h2) (Int.lt_irrefl _)
  unfold lg_cmp
  rw [if_neg h, if_pos rfl]
  rfl
theorem inc_7 {n : Nat} : nI n + Int32.ofInt 7 = nI (n + 7) := by rw [← nI_add]; rfl
def QN (n : Nat) (r : Option Value ⊕ Nat) (_ : AH) (k : Nat) : Prop := r = .inl (some (.int 1)) ∧ k ≤ n
theorem QN.of {n k k2 : Nat} {r : Option Value ⊕ Nat} {G G2 : AH} (h : QN n r G k) (e : k2 ≤ k + 1) : QN (n + 1) r G2 k2 := ⟨h.1, by have := h.2; omega⟩
def LVc (c : Nat) : LV := [(0, .ref spc), (1, .ref 0), (2, .ref 106), (3, .ref 135), (4, .int (nI (7 * c)))]
theorem lw_feed {L c n : Nat} {xs : Nat → Int32} {I : Nat → Nat → Int32} {J : Nat → Nat → Int64} {S : STT} (hL : L ≤ 3584) (hc2 : 7 * c + 6 < L) (inv : INVS S I) (cont : ∀ (I2 : Nat → Nat → Int32) (J2 : Nat → Nat → Int64) (S2 : STT), INVS S2 I2 → EV (some (L, xs)) M_L_law_ 41 23 (LVc (c + 1)) [] (hp I2 J2) (QN n)) : EV (some (L, xs)) M_L_law_ 41 228 (LVc c) [] (hp I J) (QN (n + 1)) := by
  obtain ⟨v, I1, h1, h2⟩ := ans_feed (a0 := xs (7 * c + 1)) (a1 := xs (7 * c + 2)) (a2 := xs (7 * c + 3)) (a3 := xs (7 * c + 4)) (a4 := xs (7 * c + 5)) inv J
  obtain ⟨I2, S2, h3, inv2, t2⟩ := h2 J
  show EV (some (L, xs)) M_L_law_ 41 228 [(0, .ref spc), (1, .ref 0), (2, .ref 106), (3, .ref 135), (4, .int (nI (7 * c)))] [] (hp I J) _
  refine EV.l (lv' := [(0, _), (1, _), (2, _), (3, _), (4, _)]) r_L_law__228 rfl ?_
  refine EV.l (lv' := [(0, _), (1, _), (2, _), (3, _), (4, _)]) r_L_law__229 rfl ?_
  refine EV.l (lv' := [(0, _), (1, _), (2, _), (3, _), (4, _)]) r_L_law__230 rfl ?_
  refine EV.o r_L_law__232 (icN (1) (v := 1)) ?_
  refine EV.o r_L_law__233 iaddN ?_
  refine EV.sld r_L_law__234 (by omega) (by omega) ?_
  refine EV.l (lv' := [(0, _), (1, _), (2, _), (3, _), (4, _)]) r_L_law__235 rfl ?_
  refine EV.l (lv' := [(0, _), (1, _), (2, _), (3, _), (4, _)]) r_L_law__236 rfl ?_
  refine EV.o r_L_law__238 (icN (2) (v := 2)) ?_
  refine EV.o r_L_law__239 iaddN ?_
  refine EV.sld r_L_law__240 (by omega) (by omega) ?_
  refine EV.l (lv' := [(0, _), (1, _), (2, _), (3, _), (4, _)]) r_L_law__241 rfl ?_
  refine EV.l (lv' := [(0, _), (1, _), (2, _), (3, _), (4, _)]) r_L_law__242 rfl ?_
  refine EV.o r_L_law__244 (icN (3) (v := 3)) ?_
  refine EV.o r_L_law__245 iaddN ?_
  refine EV.sld r_L_law__246 (by omega) (by omega) ?_
  refine EV.l (lv' := [(0, _), (1, _), (2, _), (3, _), (4, _)]) r_L_law__247 rfl ?_
  refine EV.l (lv' := [(0, _), (1, _), (2, _), (3, _), (4, _)]) r_L_law__248 rfl ?_
  refine EV.o r_L_law__250 (icN (4) (v := 4)) ?_
  refine EV.o r_L_law__251 iaddN ?_
  refine EV.sld r_L_law__252 (by omega) (by omega) ?_
  refine EV.l (lv' := [(0, _), (1, _), (2, _), (3, _), (4, _)]) r_L_law__253 rfl ?_
  refine EV.l (lv' := [(0, _), (1, _), (2, _), (3, _), (4, _)]) r_L_law__254 rfl ?_
  refine EV.o r_L_law__256 (icN (5) (v := 5)) ?_
  refine EV.o r_L_law__257 iaddN ?_
  refine EV.sld r_L_law__258 (by omega) (by omega) ?_
  refine EV.inv r_L_law__259.1 rfl (by decide) (aV5 mt_113 la_0) (Nat.le_of_ble_eq_true rfl) (h1) (hp_len _ _ _ _) ?_
  show EV (some (L, xs)) M_L_law_ 41 262 [(0, .ref spc), (1, .ref 0), (2, .ref 106), (3, .ref 135), (4, .int (nI (7 * c)))] [.int v] (hp I1 J) _
  refine EV.l (lv' := [(0, _), (1, _), (2, _), (3, _), (4, _)]) r_L_law__262 rfl ?_
  refine EV.l (lv' := [(0, _), (1, _), (2, _), (3, _), (4, _)]) r_L_law__263 rfl ?_
  refine EV.l (lv' := [(0, _), (1, _), (2, _), (3, _), (4, _)]) r_L_law__264 rfl ?_
  refine EV.o r_L_law__266 (icN (1) (v := 1)) ?_
  refine EV.o r_L_law__267 iaddN ?_
  refine EV.sld r_L_law__268 (by omega) (by omega) ?_
  refine EV.l (lv' := [(0, _), (1, _), (2, _), (3, _), (4, _)]) r_L_law__269 rfl ?_
  refine EV.l (lv' := [(0, _), (1, _), (2, _), (3, _), (4, _)]) r_L_law__270 rfl ?_
  refine EV.o r_L_law__272 (icN (2) (v := 2)) ?_
  refine EV.o r_L_law__273 iaddN ?_
  refine EV.sld r_L_law__274 (by omega) (by omega) ?_
  refine EV.l (lv' := [(0, _), (1, _), (2, _), (3, _), (4, _)]) r_L_law__275 rfl ?_
  refine EV.l (lv' := [(0, _), (1, _), (2, _), (3, _), (4, _)]) r_L_law__276 rfl ?_
  refine EV.o r_L_law__278 (icN (3) (v := 3)) ?_
  refine EV.o r_L_law__279 iaddN ?_
  refine EV.sld r_L_law__280 (by omega) (by omega) ?_
  refine EV.l (lv' := [(0, _), (1, _), (2, _), (3, _), (4, _)]) r_L_law__281 rfl ?_
  refine EV.l (lv' := [(0, _), (1, _), (2, _), (3, _), (4, _)]) r_L_law__282 rfl ?_
  refine EV.o r_L_law__284 (icN (4) (v := 4)) ?_
  refine EV.o r_L_law__285 iaddN ?_
  refine EV.sld r_L_law__286 (by omega) (by omega) ?_
  refine EV.l (lv' := [(0, _), (1, _), (2, _), (3, _), (4, _)]) r_L_law__287 rfl ?_
  refine EV.l (lv' := [(0, _), (1, _), (2, _), (3, _), (4, _)]) r_L_law__288 rfl ?_
  refine EV.o r_L_law__290 (icN (5) (v := 5)) ?_
  refine EV.o r_L_law__291 iaddN ?_
  refine EV.sld r_L_law__292 (by omega) (by omega) ?_
  refine EV.inv r_L_law__293.1 rfl (by decide) (aV5 mt_172 la_106) (Nat.le_of_ble_eq_true rfl) (h3) (hp_len _ _ _ _) ?_
  show EV (some (L, xs)) M_L_law_ 41 296 [(0, .ref spc), (1, .ref 0), (2, .ref 106), (3, .ref 135), (4, .int (nI (7 * c)))] [.int v, .int v] (hp I2 J) _
  refine EV.r2_eq r_L_law__296 (fun _ => ?_) (fun z => absurd rfl z)
  refine EV.l (lv' := [(0, _), (1, _), (2, _), (3, _), (4, _)]) r_L_law__2543 rfl ?_
  rw [inc_7]
  refine EV.g r_L_law__2546 ?_
  exact (cont I2 J _ inv2).mono (fun r G q h => QN.of h (by omega))
theorem lw_court {L c n : Nat} {xs : Nat → Int32} {I : Nat → Nat → Int32} {J : Nat → Nat → Int64} {S : STT} (hL : L ≤ 3584) (hc2 : 7 * c + 6 < L) (inv : INVS S I) (cont : ∀ (I2 : Nat → Nat → Int32) (J2 : Nat → Nat → Int64) (S2 : STT), INVS S2 I2 → EV (some (L, xs)) M_L_law_ 41 23 (LVc (c + 1)) [] (hp I2 J2) (QN n)) : EV (some (L, xs)) M_L_law_ 41 301 (LVc c) [] (hp I J) (QN (n + 1)) := by
  rcases ans_court (a0 := xs (7 * c + 1)) inv with hV | hX1
  · obtain ⟨v, I1, h1, h2⟩ := hV J
    obtain ⟨I2, S2, h3, inv2, t2⟩ := h2 (wr J 135 0 v.toInt64)
    show EV (some (L, xs)) M_L_law_ 41 301 [(0, .ref spc), (1, .ref 0), (2, .ref 106), (3, .ref 135), (4, .int (nI (7 * c)))] [] (hp I J) _
    refine EV.l (lv' := [(0, _), (1, _), (2, _), (3, _), (4, _)]) r_L_law__301 rfl ?_
    refine EV.l (lv' := [(0, _), (1, _), (2, _), (3, _), (4, _)]) r_L_law__302 rfl ?_
    refine EV.l (lv' := [(0, _), (1, _), (2, _), (3, _), (4, _)]) r_L_law__303 rfl ?_
    refine EV.o r_L_law__305 (icN (1) (v := 1)) ?_
    refine EV.o r_L_law__306 iaddN ?_
    refine EV.sld r_L_law__307 (by omega) (by omega) ?_
    refine EV.l (lv' := [(0, _), (1, _), (2, _), (3, _), (4, _)]) r_L_law__308 rfl ?_
    refine EV.inv r_L_law__309.1 rfl (by decide) (aS3 mt_291) (Nat.le_of_ble_eq_true rfl) (wv_court h1) (hp_len _ _ _ _) ?_
    show EV (some (L, xs)) M_L_law_ 41 312 [(0, .ref spc), (1, .ref 0), (2, .ref 106), (3, .ref 135), (4, .int (nI (7 * c)))] [.int (nI 0)] (hp I1 (wr J 135 0 v.toInt64)) _
    refine EV.l (lv' := [(0, _), (1, _), (2, _), (3, _), (4, _), (5, _)]) r_L_law__312 rfl ?_
    refine EV.l (lv' := [(0, _), (1, _), (2, _), (3, _), (4, _), (5, _)]) r_L_law__314 rfl ?_
    refine EV.l (lv' := [(0, _), (1, _), (2, _), (3, _), (4, _), (5, _)]) r_L_law__315 rfl ?_
    refine EV.l (lv' := [(0, _), (1, _), (2, _), (3, _), (4, _), (5, _)]) r_L_law__316 rfl ?_
    refine EV.o r_L_law__318 (icN (1) (v := 1)) ?_
    refine EV.o r_L_law__319 iaddN ?_
    refine EV.sld r_L_law__320 (by omega) (by omega) ?_
    refine EV.inv r_L_law__321.1 rfl (by decide) (aV1 mt_194 la_106) (Nat.le_of_ble_eq_true rfl) (h3) (hp_len _ _ _ _) ?_
    show EV (some (L, xs)) M_L_law_ 41 324 [(0, .ref spc), (1, .ref 0), (2, .ref 106), (3, .ref 135), (4, .int (nI (7 * c))), (5, .int (nI 0))] [.int v] (hp I2 (wr J 135 0 v.toInt64)) _
    refine EV.l (lv' := [(0, _), (1, _), (2, _), (3, _), (4, _), (5, _), (6, _)]) r_L_law__324 rfl ?_
    refine EV.l (lv' := [(0, _), (1, _), (2, _), (3, _), (4, _), (5, _), (6, _)]) r_L_law__326 rfl ?_
    refine EV.inv r_L_law__327.1 rfl (by decide) (aV0 mt_168 la_106) (Nat.le_of_ble_eq_true rfl) (m_thrown (d := 41) (by omega)) (hp_len _ _ _ _) ?_
    show EV (some (L, xs)) M_L_law_ 41 330 [(0, .ref spc), (1, .ref 0), (2, .ref 106), (3, .ref 135), (4, .int (nI (7 * c))), (5, .int (nI 0)), (6, .int v)] [.int (I2 106 0)] (hp I2 (wr J 135 0 v.toInt64)) _
    rw [t2]
    refine EV.l (lv' := [(0, _), (1, _), (2, _), (3, _), (4, _), (5, _), (6, _)]) r_L_law__330 rfl ?_
    refine EV.r2_eq r_L_law__332 (fun _ => ?_) (fun z => absurd rfl z)
    refine EV.l (lv' := [(0, _), (1, _), (2, _), (3, _), (4, _), (5, _), (6, _)]) r_L_law__337 rfl ?_
    refine EV.n0_ne r_L_law__339 (fun z => absurd rfl z) (fun _ => ?_)
    refine EV.l (lv' := [(0, _), (1, _), (2, _), (3, _), (4, _), (5, _), (6, _)]) r_L_law__342 rfl ?_
    refine EV.o r_L_law__343 (icN (0) (v := 0)) ?_
    refine EV.laloadI r_L_law__344.1 la_135 rfl (by decide) (by decide) ?_
    rw [show (wr J 135 0 v.toInt64) 135 0 = v.toInt64 from wr_same]
    show EV (some (L, xs)) M_L_law_ 41 345 [(0, .ref spc), (1, .ref 0), (2, .ref 106), (3, .ref 135), (4, .int (nI (7 * c))), (5, .int (nI 0)), (6, .int v)] [.long v.toInt64] (hp I2 (wr J 135 0 v.toInt64)) _
    refine EV.l (lv' := [(0, _), (1, _), (2, _), (3, _), (4, _), (5, _), (6, _)]) r_L_law__345 rfl ?_
    refine EV.o r_L_law__347 rfl ?_
    refine EV.o r_L_law__348 (st' := [.int (lg_cmp v.toInt64 v.toInt64)]) rfl ?_
    rw [lg_self]
    refine EV.n0_eq r_L_law__349 (fun _ => ?_) (fun z => absurd rfl z)
    refine EV.g r_L_law__354 ?_
    refine EV.l (lv' := [(0, _), (1, _), (2, _), (3, _), (4, _), (5, _), (6, _)]) r_L_law__2543 rfl ?_
    rw [inc_7]
    refine EV.g r_L_law__2546 ?_
    refine EV.fg (lv' := [(0, _), (1, _), (2, _), (3, _), (4, _)]) r_L_law__23 rfl rfl rfl ?_
    exact (cont I2 (wr J 135 0 v.toInt64) _ inv2).mono (fun r G q h => QN.of h (by omega))
  · obtain ⟨I1, h1, h2⟩ := hX1 J
    obtain ⟨b, I2, S2, h3, inv2, t2⟩ := h2 J
    show EV (some (L, xs)) M_L_law_ 41 301 [(0, .ref spc), (1, .ref 0), (2, .ref 106), (3, .ref 135), (4, .int (nI (7 * c)))] [] (hp I J) _
    refine EV.l (lv' := [(0, _), (1, _), (2, _), (3, _), (4, _)]) r_L_law__301 rfl ?_
    refine EV.l (lv' := [(0, _), (1, _), (2, _), (3, _), (4, _)]) r_L_law__302 rfl ?_
    refine EV.l (lv' := [(0, _), (1, _), (2, _), (3, _), (4, _)]) r_L_law__303 rfl ?_
    refine EV.o r_L_law__305 (icN (1) (v := 1)) ?_
    refine EV.o r_L_law__306 iaddN ?_
    refine EV.sld r_L_law__307 (by omega) (by omega) ?_
    refine EV.l (lv' := [(0, _), (1, _), (2, _), (3, _), (4, _)]) r_L_law__308 rfl ?_
    refine EV.inv r_L_law__309.1 rfl (by decide) (aS3 mt_291) (Nat.le_of_ble_eq_true rfl) (wx1_court h1) (hp_len _ _ _ _) ?_
    show EV (some (L, xs)) M_L_law_ 41 312 [(0, .ref spc), (1, .ref 0), (2, .ref 106), (3, .ref 135), (4, .int (nI (7 * c)))] [.int (nI 1)] (hp I1 J) _
    refine EV.l (lv' := [(0, _), (1, _), (2, _), (3, _), (4, _), (5, _)]) r_L_law__312 rfl ?_
    refine EV.l (lv' := [(0, _), (1, _), (2, _), (3, _), (4, _), (5, _)]) r_L_law__314 rfl ?_
    refine EV.l (lv' := [(0, _), (1, _), (2, _), (3, _), (4, _), (5, _)]) r_L_law__315 rfl ?_
    refine EV.l (lv' := [(0, _), (1, _), (2, _), (3, _), (4, _), (5, _)]) r_L_law__316 rfl ?_
    refine EV.o r_L_law__318 (icN (1) (v := 1)) ?_
    refine EV.o r_L_law__319 iaddN ?_
    refine EV.sld r_L_law__320 (by omega) (by omega) ?_
    refine EV.inv r_L_law__321.1 rfl (by decide) (aV1 mt_194 la_106) (Nat.le_of_ble_eq_true rfl) (h3) (hp_len _ _ _ _) ?_
    show EV (some (L, xs)) M_L_law_ 41 324 [(0, .ref spc), (1, .ref 0), (2, .ref 106), (3, .ref 135), (4, .int (nI (7 * c))), (5, .int (nI 1))] [.int b] (hp I2 J) _
    refine EV.l (lv' := [(0, _), (1, _), (2, _), (3, _), (4, _), (5, _), (6, _)]) r_L_law__324 rfl ?_
    refine EV.l (lv' := [(0, _), (1, _), (2, _), (3, _), (4, _), (5, _), (6, _)]) r_L_law__326 rfl ?_
    refine EV.inv r_L_law__327.1 rfl (by decide) (aV0 mt_168 la_106) (Nat.le_of_ble_eq_true rfl) (m_thrown (d := 41) (by omega)) (hp_len _ _ _ _) ?_
    show EV (some (L, xs)) M_L_law_ 41 330 [(0, .ref spc), (1, .ref 0), (2, .ref 106), (3, .ref 135), (4, .int (nI (7 * c))), (5, .int (nI 1)), (6, .int b)] [.int (I2 106 0)] (hp I2 J) _
    rw [t2]
    refine EV.l (lv' := [(0, _), (1, _), (2, _), (3, _), (4, _), (5, _), (6, _)]) r_L_law__330 rfl ?_
    refine EV.r2_eq r_L_law__332 (fun _ => ?_) (fun z => absurd rfl z)
    refine EV.l (lv' := [(0, _), (1, _), (2, _), (3, _), (4, _), (5, _), (6, _)]) r_L_law__337 rfl ?_
    refine EV.n0_ne r_L_law__339 (fun _ => ?_) (fun z => absurd z (by decide))
    refine EV.g r_L_law__354 ?_
    refine EV.l (lv' := [(0, _), (1, _), (2, _), (3, _), (4, _), (5, _), (6, _)]) r_L_law__2543 rfl ?_
    rw [inc_7]
    refine EV.g r_L_law__2546 ?_
    refine EV.fg (lv' := [(0, _), (1, _), (2, _), (3, _), (4, _)]) r_L_law__23 rfl rfl rfl ?_
    exact (cont I2 J _ inv2).mono (fun r G q h => QN.of h (by omega))
theorem lw_law {L c n : Nat} {xs : Nat → Int32} {I : Nat → Nat → Int32} {J : Nat → Nat → Int64} {S : STT} (hL : L ≤ 3584) (hc2 : 7 * c + 6 < L) (inv : INVS S I) (cont : ∀ (I2 : Nat → Nat → Int32) (J2 : Nat → Nat → Int64) (S2 : STT), INVS S2 I2 → EV (some (L, xs)) M_L_law_ 41 23 (LVc (c + 1)) [] (hp I2 J2) (QN n)) : EV (some (L, xs)) M_L_law_ 41 357 (LVc c) [] (hp I J) (QN (n + 1)) := by
  rcases ans_law (a0 := xs (7 * c + 1)) inv with hV | hX1
  · obtain ⟨v, I1, h1, h2⟩ := hV J
    obtain ⟨I2, S2, h3, inv2, t2⟩ := h2 (wr J 135 0 v.toInt64)
    show EV (some (L, xs)) M_L_law_ 41 357 [(0, .ref spc), (1, .ref 0), (2, .ref 106), (3, .ref 135), (4, .int (nI (7 * c)))] [] (hp I J) _
    refine EV.l (lv' := [(0, _), (1, _), (2, _), (3, _), (4, _)]) r_L_law__357 rfl ?_
    refine EV.l (lv' := [(0, _), (1, _), (2, _), (3, _), (4, _)]) r_L_law__358 rfl ?_
    refine EV.l (lv' := [(0, _), (1, _), (2, _), (3, _), (4, _)]) r_L_law__359 rfl ?_
    refine EV.o r_L_law__361 (icN (1) (v := 1)) ?_
    refine EV.o r_L_law__362 iaddN ?_
    refine EV.sld r_L_law__363 (by omega) (by omega) ?_
    refine EV.l (lv' := [(0, _), (1, _), (2, _), (3, _), (4, _)]) r_L_law__364 rfl ?_
    refine EV.inv r_L_law__365.1 rfl (by decide) (aS3 mt_292) (Nat.le_of_ble_eq_true rfl) (wv_law h1) (hp_len _ _ _ _) ?_
    show EV (some (L, xs)) M_L_law_ 41 368 [(0, .ref spc), (1, .ref 0), (2, .ref 106), (3, .ref 135), (4, .int (nI (7 * c)))] [.int (nI 0)] (hp I1 (wr J 135 0 v.toInt64)) _
    refine EV.l (lv' := [(0, _), (1, _), (2, _), (3, _), (4, _), (5, _)]) r_L_law__368 rfl ?_
    refine EV.l (lv' := [(0, _), (1, _), (2, _), (3, _), (4, _), (5, _)]) r_L_law__370 rfl ?_
    refine EV.l (lv' := [(0, _), (1, _), (2, _), (3, _), (4, _), (5, _)]) r_L_law__371 rfl ?_
    refine EV.l (lv' := [(0, _), (1, _), (2, _), (3, _), (4, _), (5, _)]) r_L_law__372 rfl ?_
    refine EV.o r_L_law__374 (icN (1) (v := 1)) ?_
    refine EV.o r_L_law__375 iaddN ?_
    refine EV.sld r_L_law__376 (by omega) (by omega) ?_
    refine EV.inv r_L_law__377.1 rfl (by decide) (aV1 mt_202 la_106) (Nat.le_of_ble_eq_true rfl) (h3) (hp_len _ _ _ _) ?_
    show EV (some (L, xs)) M_L_law_ 41 380 [(0, .ref spc), (1, .ref 0), (2, .ref 106), (3, .ref 135), (4, .int (nI (7 * c))), (5, .int (nI 0))] [.int v] (hp I2 (wr J 135 0 v.toInt64)) _
    refine EV.l (lv' := [(0, _), (1, _), (2, _), (3, _), (4, _), (5, _), (6, _)]) r_L_law__380 rfl ?_
    refine EV.l (lv' := [(0, _), (1, _), (2, _), (3, _), (4, _), (5, _), (6, _)]) r_L_law__382 rfl ?_
    refine EV.inv r_L_law__383.1 rfl (by decide) (aV0 mt_168 la_106) (Nat.le_of_ble_eq_true rfl) (m_thrown (d := 41) (by omega)) (hp_len _ _ _ _) ?_
    show EV (some (L, xs)) M_L_law_ 41 386 [(0, .ref spc), (1, .ref 0), (2, .ref 106), (3, .ref 135), (4, .int (nI (7 * c))), (5, .int (nI 0)), (6, .int v)] [.int (I2 106 0)] (hp I2 (wr J 135 0 v.toInt64)) _
    rw [t2]
    refine EV.l (lv' := [(0, _), (1, _), (2, _), (3, _), (4, _), (5, _), (6, _)]) r_L_law__386 rfl ?_
    refine EV.r2_eq r_L_law__388 (fun _ => ?_) (fun z => absurd rfl z)
    refine EV.l (lv' := [(0, _), (1, _), (2, _), (3, _), (4, _), (5, _), (6, _)]) r_L_law__393 rfl ?_
    refine EV.n0_ne r_L_law__395 (fun z => absurd rfl z) (fun _ => ?_)
    refine EV.l (lv' := [(0, _), (1, _), (2, _), (3, _), (4, _), (5, _), (6, _)]) r_L_law__398 rfl ?_
    refine EV.o r_L_law__399 (icN (0) (v := 0)) ?_
    refine EV.laloadI r_L_law__400.1 la_135 rfl (by decide) (by decide) ?_
    rw [show (wr J 135 0 v.toInt64) 135 0 = v.toInt64 from wr_same]
    show EV (some (L, xs)) M_L_law_ 41 401 [(0, .ref spc), (1, .ref 0), (2, .ref 106), (3, .ref 135), (4, .int (nI (7 * c))), (5, .int (nI 0)), (6, .int v)] [.long v.toInt64] (hp I2 (wr J 135 0 v.toInt64)) _
    refine EV.l (lv' := [(0, _), (1, _), (2, _), (3, _), (4, _), (5, _), (6, _)]) r_L_law__401 rfl ?_
    refine EV.o r_L_law__403 rfl ?_
    refine EV.o r_L_law__404 (st' := [.int (lg_cmp v.toInt64 v.toInt64)]) rfl ?_
    rw [lg_self]
    refine EV.n0_eq r_L_law__405 (fun _ => ?_) (fun z => absurd rfl z)
    refine EV.g r_L_law__410 ?_
    refine EV.l (lv' := [(0, _), (1, _), (2, _), (3, _), (4, _), (5, _), (6, _)]) r_L_law__2543 rfl ?_
    rw [inc_7]
    refine EV.g r_L_law__2546 ?_
    refine EV.fg (lv' := [(0, _), (1, _), (2, _), (3, _), (4, _)]) r_L_law__23 rfl rfl rfl ?_
    exact (cont I2 (wr J 135 0 v.toInt64) _ inv2).mono (fun r G q h => QN.of h (by omega))
  · obtain ⟨I1, h1, h2⟩ := hX1 J
    obtain ⟨b, I2, S2, h3, inv2, t2⟩ := h2 J
    show EV (some (L, xs)) M_L_law_ 41 357 [(0, .ref spc), (1, .ref 0), (2, .ref 106), (3, .ref 135), (4, .int (nI (7 * c)))] [] (hp I J) _
    refine EV.l (lv' := [(0, _), (1, _), (2, _), (3, _), (4, _)]) r_L_law__357 rfl ?_
    refine EV.l (lv' := [(0, _), (1, _), (2, _), (3, _), (4, _)]) r_L_law__358 rfl ?_
    refine EV.l (lv' := [(0, _), (1, _), (2, _), (3, _), (4, _)]) r_L_law__359 rfl ?_
    refine EV.o r_L_law__361 (icN (1) (v := 1)) ?_
    refine EV.o r_L_law__362 iaddN ?_
    refine EV.sld r_L_law__363 (by omega) (by omega) ?_
    refine EV.l (lv' := [(0, _), (1, _), (2, _), (3, _), (4, _)]) r_L_law__364 rfl ?_
    refine EV.inv r_L_law__365.1 rfl (by decide) (aS3 mt_292) (Nat.le_of_ble_eq_true rfl) (wx1_law h1) (hp_len _ _ _ _) ?_
    show EV (some (L, xs)) M_L_law_ 41 368 [(0, .ref spc), (1, .ref 0), (2, .ref 106), (3, .ref 135), (4, .int (nI (7 * c)))] [.int (nI 1)] (hp I1 J) _
    refine EV.l (lv' := [(0, _), (1, _), (2, _), (3, _), (4, _), (5, _)]) r_L_law__368 rfl ?_
    refine EV.l (lv' := [(0, _), (1, _), (2, _), (3, _), (4, _), (5, _)]) r_L_law__370 rfl ?_
    refine EV.l (lv' := [(0, _), (1, _), (2, _), (3, _), (4, _), (5, _)]) r_L_law__371 rfl ?_
    refine EV.l (lv' := [(0, _), (1, _), (2, _), (3, _), (4, _), (5, _)]) r_L_law__372 rfl ?_
    refine EV.o r_L_law__374 (icN (1) (v := 1)) ?_
    refine EV.o r_L_law__375 iaddN ?_
    refine EV.sld r_L_law__376 (by omega) (by omega) ?_
    refine EV.inv r_L_law__377.1 rfl (by decide) (aV1 mt_202 la_106) (Nat.le_of_ble_eq_true rfl) (h3) (hp_len _ _ _ _) ?_
    show EV (some (L, xs)) M_L_law_ 41 380 [(0, .ref spc), (1, .ref 0), (2, .ref 106), (3, .ref 135), (4, .int (nI (7 * c))), (5, .int (nI 1))] [.int b] (hp I2 J) _
    refine EV.l (lv' := [(0, _), (1, _), (2, _), (3, _), (4, _), (5, _), (6, _)]) r_L_law__380 rfl ?_
    refine EV.l (lv' := [(0, _), (1, _), (2, _), (3, _), (4, _), (5, _), (6, _)]) r_L_law__382 rfl ?_
    refine EV.inv r_L_law__383.1 rfl (by decide) (aV0 mt_168 la_106) (Nat.le_of_ble_eq_true rfl) (m_thrown (d := 41) (by omega)) (hp_len _ _ _ _) ?_
    show EV (some (L, xs)) M_L_law_ 41 386 [(0, .ref spc), (1, .ref 0), (2, .ref 106), (3, .ref 135), (4, .int (nI (7 * c))), (5, .int (nI 1)), (6, .int b)] [.int (I2 106 0)] (hp I2 J) _
    rw [t2]
    refine EV.l (lv' := [(0, _), (1, _), (2, _), (3, _), (4, _), (5, _), (6, _)]) r_L_law__386 rfl ?_
    refine EV.r2_eq r_L_law__388 (fun _ => ?_) (fun z => absurd rfl z)
    refine EV.l (lv' := [(0, _), (1, _), (2, _), (3, _), (4, _), (5, _), (6, _)]) r_L_law__393 rfl ?_
    refine EV.n0_ne r_L_law__395 (fun _ => ?_) (fun z => absurd z (by decide))
    refine EV.g r_L_law__410 ?_
    refine EV.l (lv' := [(0, _), (1, _), (2, _), (3, _), (4, _), (5, _), (6, _)]) r_L_law__2543 rfl ?_
    rw [inc_7]
    refine EV.g r_L_law__2546 ?_
    refine EV.fg (lv' := [(0, _), (1, _), (2, _), (3, _), (4, _)]) r_L_law__23 rfl rfl rfl ?_
    exact (cont I2 J _ inv2).mono (fun r G q h => QN.of h (by omega))
theorem lw_work {L c n : Nat} {xs : Nat → Int32} {I : Nat → Nat → Int32} {J : Nat → Nat → Int64} {S : STT} (hL : L ≤ 3584) (hc2 : 7 * c + 6 < L) (inv : INVS S I) (cont : ∀ (I2 : Nat → Nat → Int32) (J2 : Nat → Nat → Int64) (S2 : STT), INVS S2 I2 → EV (some (L, xs)) M_L_law_ 41 23 (LVc (c + 1)) [] (hp I2 J2) (QN n)) : EV (some (L, xs)) M_L_law_ 41 413 (LVc c) [] (hp I J) (QN (n + 1)) := by
  rcases ans_work (a0 := xs (7 * c + 1)) inv with hV | hX1
  · obtain ⟨v, I1, h1, h2⟩ := hV J
    obtain ⟨I2, S2, h3, inv2, t2⟩ := h2 (wr J 135 0 v.toInt64)
    show EV (some (L, xs)) M_L_law_ 41 413 [(0, .ref spc), (1, .ref 0), (2, .ref 106), (3, .ref 135), (4, .int (nI (7 * c)))] [] (hp I J) _
    refine EV.l (lv' := [(0, _), (1, _), (2, _), (3, _), (4, _)]) r_L_law__413 rfl ?_
    refine EV.l (lv' := [(0, _), (1, _), (2, _), (3, _), (4, _)]) r_L_law__414 rfl ?_
    refine EV.l (lv' := [(0, _), (1, _), (2, _), (3, _), (4, _)]) r_L_law__415 rfl ?_
    refine EV.o r_L_law__417 (icN (1) (v := 1)) ?_
    refine EV.o r_L_law__418 iaddN ?_
    refine EV.sld r_L_law__419 (by omega) (by omega) ?_
    refine EV.l (lv' := [(0, _), (1, _), (2, _), (3, _), (4, _)]) r_L_law__420 rfl ?_
    refine EV.inv r_L_law__421.1 rfl (by decide) (aS3 mt_293) (Nat.le_of_ble_eq_true rfl) (wv_work h1) (hp_len _ _ _ _) ?_
    show EV (some (L, xs)) M_L_law_ 41 424 [(0, .ref spc), (1, .ref 0), (2, .ref 106), (3, .ref 135), (4, .int (nI (7 * c)))] [.int (nI 0)] (hp I1 (wr J 135 0 v.toInt64)) _
    refine EV.l (lv' := [(0, _), (1, _), (2, _), (3, _), (4, _), (5, _)]) r_L_law__424 rfl ?_
    refine EV.l (lv' := [(0, _), (1, _), (2, _), (3, _), (4, _), (5, _)]) r_L_law__426 rfl ?_
    refine EV.l (lv' := [(0, _), (1, _), (2, _), (3, _), (4, _), (5, _)]) r_L_law__427 rfl ?_
    refine EV.l (lv' := [(0, _), (1, _), (2, _), (3, _), (4, _), (5, _)]) r_L_law__428 rfl ?_
    refine EV.o r_L_law__430 (icN (1) (v := 1)) ?_
    refine EV.o r_L_law__431 iaddN ?_
    refine EV.sld r_L_law__432 (by omega) (by omega) ?_
    refine EV.inv r_L_law__433.1 rfl (by decide) (aV1 mt_210 la_106) (Nat.le_of_ble_eq_true rfl) (h3) (hp_len _ _ _ _) ?_
    show EV (some (L, xs)) M_L_law_ 41 436 [(0, .ref spc), (1, .ref 0), (2, .ref 106), (3, .ref 135), (4, .int (nI (7 * c))), (5, .int (nI 0))] [.int v] (hp I2 (wr J 135 0 v.toInt64)) _
    refine EV.l (lv' := [(0, _), (1, _), (2, _), (3, _), (4, _), (5, _), (6, _)]) r_L_law__436 rfl ?_
    refine EV.l (lv' := [(0, _), (1, _), (2, _), (3, _), (4, _), (5, _), (6, _)]) r_L_law__438 rfl ?_
    refine EV.inv r_L_law__439.1 rfl (by decide) (aV0 mt_168 la_106) (Nat.le_of_ble_eq_true rfl) (m_thrown (d := 41) (by omega)) (hp_len _ _ _ _) ?_
    show EV (some (L, xs)) M_L_law_ 41 442 [(0, .ref spc), (1, .ref 0), (2, .ref 106), (3, .ref 135), (4, .int (nI (7 * c))), (5, .int (nI 0)), (6, .int v)] [.int (I2 106 0)] (hp I2 (wr J 135 0 v.toInt64)) _
    rw [t2]
    refine EV.l (lv' := [(0, _), (1, _), (2, _), (3, _), (4, _), (5, _), (6, _)]) r_L_law__442 rfl ?_
    refine EV.r2_eq r_L_law__444 (fun _ => ?_) (fun z => absurd rfl z)
    refine EV.l (lv' := [(0, _), (1, _), (2, _), (3, _), (4, _), (5, _), (6, _)]) r_L_law__449 rfl ?_
    refine EV.n0_ne r_L_law__451 (fun z => absurd rfl z) (fun _ => ?_)
    refine EV.l (lv' := [(0, _), (1, _), (2, _), (3, _), (4, _), (5, _), (6, _)]) r_L_law__454 rfl ?_
    refine EV.o r_L_law__455 (icN (0) (v := 0)) ?_
    refine EV.laloadI r_L_law__456.1 la_135 rfl (by decide) (by decide) ?_
    rw [show (wr J 135 0 v.toInt64) 135 0 = v.toInt64 from wr_same]
    show EV (some (L, xs)) M_L_law_ 41 457 [(0, .ref spc), (1, .ref 0), (2, .ref 106), (3, .ref 135), (4, .int (nI (7 * c))), (5, .int (nI 0)), (6, .int v)] [.long v.toInt64] (hp I2 (wr J 135 0 v.toInt64)) _
    refine EV.l (lv' := [(0, _), (1, _), (2, _), (3, _), (4, _), (5, _), (6, _)]) r_L_law__457 rfl ?_
    refine EV.o r_L_law__459 rfl ?_
    refine EV.o r_L_law__460 (st' := [.int (lg_cmp v.toInt64 v.toInt64)]) rfl ?_
    rw [lg_self]
    refine EV.n0_eq r_L_law__461 (fun _ => ?_) (fun z => absurd rfl z)
    refine EV.g r_L_law__466 ?_
    refine EV.l (lv' := [(0, _), (1, _), (2, _), (3, _), (4, _), (5, _), (6, _)]) r_L_law__2543 rfl ?_
    rw [inc_7]
    refine EV.g r_L_law__2546 ?_
    refine EV.fg (lv' := [(0, _), (1, _), (2, _), (3, _), (4, _)]) r_L_law__23 rfl rfl rfl ?_
    exact (cont I2 (wr J 135 0 v.toInt64) _ inv2).mono (fun r G q h => QN.of h (by omega))
  · obtain ⟨I1, h1, h2⟩ := hX1 J
    obtain ⟨b, I2, S2, h3, inv2, t2⟩ := h2 J
    show EV (some (L, xs)) M_L_law_ 41 413 [(0, .ref spc), (1, .ref 0), (2, .ref 106), (3, .ref 135), (4, .int (nI (7 * c)))] [] (hp I J) _
    refine EV.l (lv' := [(0, _), (1, _), (2, _), (3, _), (4, _)]) r_L_law__413 rfl ?_
    refine EV.l (lv' := [(0, _), (1, _), (2, _), (3, _), (4, _)]) r_L_law__414 rfl ?_
    refine EV.l (lv' := [(0, _), (1, _), (2, _), (3, _), (4, _)]) r_L_law__415 rfl ?_
    refine EV.o r_L_law__417 (icN (1) (v := 1)) ?_
    refine EV.o r_L_law__418 iaddN ?_
    refine EV.sld r_L_law__419 (by omega) (by omega) ?_
    refine EV.l (lv' := [(0, _), (1, _), (2, _), (3, _), (4, _)]) r_L_law__420 rfl ?_
    refine EV.inv r_L_law__421.1 rfl (by decide) (aS3 mt_293) (Nat.le_of_ble_eq_true rfl) (wx1_work h1) (hp_len _ _ _ _) ?_
    show EV (some (L, xs)) M_L_law_ 41 424 [(0, .ref spc), (1, .ref 0), (2, .ref 106), (3, .ref 135), (4, .int (nI (7 * c)))] [.int (nI 1)] (hp I1 J) _
    refine EV.l (lv' := [(0, _), (1, _), (2, _), (3, _), (4, _), (5, _)]) r_L_law__424 rfl ?_
    refine EV.l (lv' := [(0, _), (1, _), (2, _), (3, _), (4, _), (5, _)]) r_L_law__426 rfl ?_
    refine EV.l (lv' := [(0, _), (1, _), (2, _), (3, _), (4, _), (5, _)]) r_L_law__427 rfl ?_
    refine EV.l (lv' := [(0, _), (1, _), (2, _), (3, _), (4, _), (5, _)]) r_L_law__428 rfl ?_
    refine EV.o r_L_law__430 (icN (1) (v := 1)) ?_
    refine EV.o r_L_law__431 iaddN ?_
    refine EV.sld r_L_law__432 (by omega) (by omega) ?_
    refine EV.inv r_L_law__433.1 rfl (by decide) (aV1 mt_210 la_106) (Nat.le_of_ble_eq_true rfl) (h3) (hp_len _ _ _ _) ?_
    show EV (some (L, xs)) M_L_law_ 41 436 [(0, .ref spc), (1, .ref 0), (2, .ref 106), (3, .ref 135), (4, .int (nI (7 * c))), (5, .int (nI 1))] [.int b] (hp I2 J) _
    refine EV.l (lv' := [(0, _), (1, _), (2, _), (3, _), (4, _), (5, _), (6, _)]) r_L_law__436 rfl ?_
    refine EV.l (lv' := [(0, _), (1, _), (2, _), (3, _), (4, _), (5, _), (6, _)]) r_L_law__438 rfl ?_
    refine EV.inv r_L_law__439.1 rfl (by decide) (aV0 mt_168 la_106) (Nat.le_of_ble_eq_true rfl) (m_thrown (d := 41) (by omega)) (hp_len _ _ _ _) ?_
    show EV (some (L, xs)) M_L_law_ 41 442 [(0, .ref spc), (1, .ref 0), (2, .ref 106), (3, .ref 135), (4, .int (nI (7 * c))), (5, .int (nI 1)), (6, .int b)] [.int (I2 106 0)] (hp I2 J) _
    rw [t2]
    refine EV.l (lv' := [(0, _), (1, _), (2, _), (3, _), (4, _), (5, _), (6, _)]) r_L_law__442 rfl ?_
    refine EV.r2_eq r_L_law__444 (fun _ => ?_) (fun z => absurd rfl z)
    refine EV.l (lv' := [(0, _), (1, _), (2, _), (3, _), (4, _), (5, _), (6, _)]) r_L_law__449 rfl ?_
    refine EV.n0_ne r_L_law__451 (fun _ => ?_) (fun z => absurd z (by decide))
    refine EV.g r_L_law__466 ?_
    refine EV.l (lv' := [(0, _), (1, _), (2, _), (3, _), (4, _), (5, _), (6, _)]) r_L_law__2543 rfl ?_
    rw [inc_7]
    refine EV.g r_L_law__2546 ?_
    refine EV.fg (lv' := [(0, _), (1, _), (2, _), (3, _), (4, _)]) r_L_law__23 rfl rfl rfl ?_
    exact (cont I2 J _ inv2).mono (fun r G q h => QN.of h (by omega))
theorem lw_book {L c n : Nat} {xs : Nat → Int32} {I : Nat → Nat → Int32} {J : Nat → Nat → Int64} {S : STT} (hL : L ≤ 3584) (hc2 : 7 * c + 6 < L) (inv : INVS S I) (cont : ∀ (I2 : Nat → Nat → Int32) (J2 : Nat → Nat → Int64) (S2 : STT), INVS S2 I2 → EV (some (L, xs)) M_L_law_ 41 23 (LVc (c + 1)) [] (hp I2 J2) (QN n)) : EV (some (L, xs)) M_L_law_ 41 469 (LVc c) [] (hp I J) (QN (n + 1)) := by
  rcases ans_book (a0 := xs (7 * c + 1)) inv with hV | hX1
  · obtain ⟨v, I1, h1, h2⟩ := hV J
    obtain ⟨I2, S2, h3, inv2, t2⟩ := h2 (wr J 135 0 v.toInt64)
    show EV (some (L, xs)) M_L_law_ 41 469 [(0, .ref spc), (1, .ref 0), (2, .ref 106), (3, .ref 135), (4, .int (nI (7 * c)))] [] (hp I J) _
    refine EV.l (lv' := [(0, _), (1, _), (2, _), (3, _), (4, _)]) r_L_law__469 rfl ?_
    refine EV.l (lv' := [(0, _), (1, _), (2, _), (3, _), (4, _)]) r_L_law__470 rfl ?_
    refine EV.l (lv' := [(0, _), (1, _), (2, _), (3, _), (4, _)]) r_L_law__471 rfl ?_
    refine EV.o r_L_law__473 (icN (1) (v := 1)) ?_
    refine EV.o r_L_law__474 iaddN ?_
    refine EV.sld r_L_law__475 (by omega) (by omega) ?_
    refine EV.l (lv' := [(0, _), (1, _), (2, _), (3, _), (4, _)]) r_L_law__476 rfl ?_
    refine EV.inv r_L_law__477.1 rfl (by decide) (aS3 mt_294) (Nat.le_of_ble_eq_true rfl) (wv_book h1) (hp_len _ _ _ _) ?_
    show EV (some (L, xs)) M_L_law_ 41 480 [(0, .ref spc), (1, .ref 0), (2, .ref 106), (3, .ref 135), (4, .int (nI (7 * c)))] [.int (nI 0)] (hp I1 (wr J 135 0 v.toInt64)) _
    refine EV.l (lv' := [(0, _), (1, _), (2, _), (3, _), (4, _), (5, _)]) r_L_law__480 rfl ?_
    refine EV.l (lv' := [(0, _), (1, _), (2, _), (3, _), (4, _), (5, _)]) r_L_law__482 rfl ?_
    refine EV.l (lv' := [(0, _), (1, _), (2, _), (3, _), (4, _), (5, _)]) r_L_law__483 rfl ?_
    refine EV.l (lv' := [(0, _), (1, _), (2, _), (3, _), (4, _), (5, _)]) r_L_law__484 rfl ?_
    refine EV.o r_L_law__486 (icN (1) (v := 1)) ?_
    refine EV.o r_L_law__487 iaddN ?_
    refine EV.sld r_L_law__488 (by omega) (by omega) ?_
    refine EV.inv r_L_law__489.1 rfl (by decide) (aV1 mt_233 la_106) (Nat.le_of_ble_eq_true rfl) (h3) (hp_len _ _ _ _) ?_
    show EV (some (L, xs)) M_L_law_ 41 492 [(0, .ref spc), (1, .ref 0), (2, .ref 106), (3, .ref 135), (4, .int (nI (7 * c))), (5, .int (nI 0))] [.int v] (hp I2 (wr J 135 0 v.toInt64)) _
    refine EV.l (lv' := [(0, _), (1, _), (2, _), (3, _), (4, _), (5, _), (6, _)]) r_L_law__492 rfl ?_
    refine EV.l (lv' := [(0, _), (1, _), (2, _), (3, _), (4, _), (5, _), (6, _)]) r_L_law__494 rfl ?_
    refine EV.inv r_L_law__495.1 rfl (by decide) (aV0 mt_168 la_106) (Nat.le_of_ble_eq_true rfl) (m_thrown (d := 41) (by omega)) (hp_len _ _ _ _) ?_
    show EV (some (L, xs)) M_L_law_ 41 498 [(0, .ref spc), (1, .ref 0), (2, .ref 106), (3, .ref 135), (4, .int (nI (7 * c))), (5, .int (nI 0)), (6, .int v)] [.int (I2 106 0)] (hp I2 (wr J 135 0 v.toInt64)) _
    rw [t2]
    refine EV.l (lv' := [(0, _), (1, _), (2, _), (3, _), (4, _), (5, _), (6, _)]) r_L_law__498 rfl ?_
    refine EV.r2_eq r_L_law__500 (fun _ => ?_) (fun z => absurd rfl z)
    refine EV.l (lv' := [(0, _), (1, _), (2, _), (3, _), (4, _), (5, _), (6, _)]) r_L_law__505 rfl ?_
    refine EV.n0_ne r_L_law__507 (fun z => absurd rfl z) (fun _ => ?_)
    refine EV.l (lv' := [(0, _), (1, _), (2, _), (3, _), (4, _), (5, _), (6, _)]) r_L_law__510 rfl ?_
    refine EV.o r_L_law__511 (icN (0) (v := 0)) ?_
    refine EV.laloadI r_L_law__512.1 la_135 rfl (by decide) (by decide) ?_
    rw [show (wr J 135 0 v.toInt64) 135 0 = v.toInt64 from wr_same]
    show EV (some (L, xs)) M_L_law_ 41 513 [(0, .ref spc), (1, .ref 0), (2, .ref 106), (3, .ref 135), (4, .int (nI (7 * c))), (5, .int (nI 0)), (6, .int v)] [.long v.toInt64] (hp I2 (wr J 135 0 v.toInt64)) _
    refine EV.l (lv' := [(0, _), (1, _), (2, _), (3, _), (4, _), (5, _), (6, _)]) r_L_law__513 rfl ?_
    refine EV.o r_L_law__515 rfl ?_
    refine EV.o r_L_law__516 (st' := [.int (lg_cmp v.toInt64 v.toInt64)]) rfl ?_
    rw [lg_self]
    refine EV.n0_eq r_L_law__517 (fun _ => ?_) (fun z => absurd rfl z)
    refine EV.g r_L_law__522 ?_
    refine EV.l (lv' := [(0, _), (1, _), (2, _), (3, _), (4, _), (5, _), (6, _)]) r_L_law__2543 rfl ?_
    rw [inc_7]
    refine EV.g r_L_law__2546 ?_
    refine EV.fg (lv' := [(0, _), (1, _), (2, _), (3, _), (4, _)]) r_L_law__23 rfl rfl rfl ?_
    exact (cont I2 (wr J 135 0 v.toInt64) _ inv2).mono (fun r G q h => QN.of h (by omega))
  · obtain ⟨I1, h1, h2⟩ := hX1 J
    obtain ⟨b, I2, S2, h3, inv2, t2⟩ := h2 J
    show EV (some (L, xs)) M_L_law_ 41 469 [(0, .ref spc), (1, .ref 0), (2, .ref 106), (3, .ref 135), (4, .int (nI (7 * c)))] [] (hp I J) _
    refine EV.l (lv' := [(0, _), (1, _), (2, _), (3, _), (4, _)]) r_L_law__469 rfl ?_
    refine EV.l (lv' := [(0, _), (1, _), (2, _), (3, _), (4, _)]) r_L_law__470 rfl ?_
    refine EV.l (lv' := [(0, _), (1, _), (2, _), (3, _), (4, _)]) r_L_law__471 rfl ?_
    refine EV.o r_L_law__473 (icN (1) (v := 1)) ?_
    refine EV.o r_L_law__474 iaddN ?_
    refine EV.sld r_L_law__475 (by omega) (by omega) ?_
    refine EV.l (lv' := [(0, _), (1, _), (2, _), (3, _), (4, _)]) r_L_law__476 rfl ?_
    refine EV.inv r_L_law__477.1 rfl (by decide) (aS3 mt_294) (Nat.le_of_ble_eq_true rfl) (wx1_book h1) (hp_len _ _ _ _) ?_
    show EV (some (L, xs)) M_L_law_ 41 480 [(0, .ref spc), (1, .ref 0), (2, .ref 106), (3, .ref 135), (4, .int (nI (7 * c)))] [.int (nI 1)] (hp I1 J) _
    refine EV.l (lv' := [(0, _), (1, _), (2, _), (3, _), (4, _), (5, _)]) r_L_law__480 rfl ?_
    refine EV.l (lv' := [(0, _), (1, _), (2, _), (3, _), (4, _), (5, _)]) r_L_law__482 rfl ?_
    refine EV.l (lv' := [(0, _), (1, _), (2, _), (3, _), (4, _), (5, _)]) r_L_law__483 rfl ?_
    refine EV.l (lv' := [(0, _), (1, _), (2, _), (3, _), (4, _), (5, _)]) r_L_law__484 rfl ?_
    refine EV.o r_L_law__486 (icN (1) (v := 1)) ?_
    refine EV.o r_L_law__487 iaddN ?_
    refine EV.sld r_L_law__488 (by omega) (by omega) ?_
    refine EV.inv r_L_law__489.1 rfl (by decide) (aV1 mt_233 la_106) (Nat.le_of_ble_eq_true rfl) (h3) (hp_len _ _ _ _) ?_
    show EV (some (L, xs)) M_L_law_ 41 492 [(0, .ref spc), (1, .ref 0), (2, .ref 106), (3, .ref 135), (4, .int (nI (7 * c))), (5, .int (nI 1))] [.int b] (hp I2 J) _
    refine EV.l (lv' := [(0, _), (1, _), (2, _), (3, _), (4, _), (5, _), (6, _)]) r_L_law__492 rfl ?_
    refine EV.l (lv' := [(0, _), (1, _), (2, _), (3, _), (4, _), (5, _), (6, _)]) r_L_law__494 rfl ?_
    refine EV.inv r_L_law__495.1 rfl (by decide) (aV0 mt_168 la_106) (Nat.le_of_ble_eq_true rfl) (m_thrown (d := 41) (by omega)) (hp_len _ _ _ _) ?_
    show EV (some (L, xs)) M_L_law_ 41 498 [(0, .ref spc), (1, .ref 0), (2, .ref 106), (3, .ref 135), (4, .int (nI (7 * c))), (5, .int (nI 1)), (6, .int b)] [.int (I2 106 0)] (hp I2 J) _
    rw [t2]
    refine EV.l (lv' := [(0, _), (1, _), (2, _), (3, _), (4, _), (5, _), (6, _)]) r_L_law__498 rfl ?_
    refine EV.r2_eq r_L_law__500 (fun _ => ?_) (fun z => absurd rfl z)
    refine EV.l (lv' := [(0, _), (1, _), (2, _), (3, _), (4, _), (5, _), (6, _)]) r_L_law__505 rfl ?_
    refine EV.n0_ne r_L_law__507 (fun _ => ?_) (fun z => absurd z (by decide))
    refine EV.g r_L_law__522 ?_
    refine EV.l (lv' := [(0, _), (1, _), (2, _), (3, _), (4, _), (5, _), (6, _)]) r_L_law__2543 rfl ?_
    rw [inc_7]
    refine EV.g r_L_law__2546 ?_
    refine EV.fg (lv' := [(0, _), (1, _), (2, _), (3, _), (4, _)]) r_L_law__23 rfl rfl rfl ?_
    exact (cont I2 J _ inv2).mono (fun r G q h => QN.of h (by omega))
theorem lw_fault {L c n : Nat} {xs : Nat → Int32} {I : Nat → Nat → Int32} {J : Nat → Nat → Int64} {S : STT} (hL : L ≤ 3584) (hc2 : 7 * c + 6 < L) (inv : INVS S I) (cont : ∀ (I2 : Nat → Nat → Int32) (J2 : Nat → Nat → Int64) (S2 : STT), INVS S2 I2 → EV (some (L, xs)) M_L_law_ 41 23 (LVc (c + 1)) [] (hp I2 J2) (QN n)) : EV (some (L, xs)) M_L_law_ 41 525 (LVc c) [] (hp I J) (QN (n + 1)) := by
  obtain ⟨v, I1, h1, h2⟩ := ans_fault inv J
  obtain ⟨I2, S2, h3, inv2, t2⟩ := h2 J
  show EV (some (L, xs)) M_L_law_ 41 525 [(0, .ref spc), (1, .ref 0), (2, .ref 106), (3, .ref 135), (4, .int (nI (7 * c)))] [] (hp I J) _
  refine EV.l (lv' := [(0, _), (1, _), (2, _), (3, _), (4, _)]) r_L_law__525 rfl ?_
  refine EV.inv r_L_law__526.1 rfl (by decide) (aV0 mt_118 la_0) (Nat.le_of_ble_eq_true rfl) (h1) (hp_len _ _ _ _) ?_
  show EV (some (L, xs)) M_L_law_ 41 529 [(0, .ref spc), (1, .ref 0), (2, .ref 106), (3, .ref 135), (4, .int (nI (7 * c)))] [.int v] (hp I1 J) _
  refine EV.l (lv' := [(0, _), (1, _), (2, _), (3, _), (4, _)]) r_L_law__529 rfl ?_
  refine EV.inv r_L_law__530.1 rfl (by decide) (aV0 mt_186 la_106) (Nat.le_of_ble_eq_true rfl) (h3) (hp_len _ _ _ _) ?_
  show EV (some (L, xs)) M_L_law_ 41 533 [(0, .ref spc), (1, .ref 0), (2, .ref 106), (3, .ref 135), (4, .int (nI (7 * c)))] [.int v, .int v] (hp I2 J) _
  refine EV.r2_eq r_L_law__533 (fun _ => ?_) (fun z => absurd rfl z)
  refine EV.l (lv' := [(0, _), (1, _), (2, _), (3, _), (4, _)]) r_L_law__2543 rfl ?_
  rw [inc_7]
  refine EV.g r_L_law__2546 ?_
  exact (cont I2 J _ inv2).mono (fun r G q h => QN.of h (by omega))
theorem lw_undo {L c n : Nat} {xs : Nat → Int32} {I : Nat → Nat → Int32} {J : Nat → Nat → Int64} {S : STT} (hL : L ≤ 3584) (hc2 : 7 * c + 6 < L) (inv : INVS S I) (cont : ∀ (I2 : Nat → Nat → Int32) (J2 : Nat → Nat → Int64) (S2 : STT), INVS S2 I2 → EV (some (L, xs)) M_L_law_ 41 23 (LVc (c + 1)) [] (hp I2 J2) (QN n)) : EV (some (L, xs)) M_L_law_ 41 538 (LVc c) [] (hp I J) (QN (n + 1)) := by
  obtain ⟨v, I1, h1, h2⟩ := ans_undo inv J
  obtain ⟨I2, S2, h3, inv2, t2⟩ := h2 J
  show EV (some (L, xs)) M_L_law_ 41 538 [(0, .ref spc), (1, .ref 0), (2, .ref 106), (3, .ref 135), (4, .int (nI (7 * c)))] [] (hp I J) _
  refine EV.l (lv' := [(0, _), (1, _), (2, _), (3, _), (4, _)]) r_L_law__538 rfl ?_
  refine EV.inv r_L_law__539.1 rfl (by decide) (aV0 mt_119 la_0) (Nat.le_of_ble_eq_true rfl) (h1) (hp_len _ _ _ _) ?_
  show EV (some (L, xs)) M_L_law_ 41 542 [(0, .ref spc), (1, .ref 0), (2, .ref 106), (3, .ref 135), (4, .int (nI (7 * c)))] [.int v] (hp I1 J) _
  refine EV.l (lv' := [(0, _), (1, _), (2, _), (3, _), (4, _)]) r_L_law__542 rfl ?_
  refine EV.inv r_L_law__543.1 rfl (by decide) (aV0 mt_234 la_106) (Nat.le_of_ble_eq_true rfl) (h3) (hp_len _ _ _ _) ?_
  show EV (some (L, xs)) M_L_law_ 41 546 [(0, .ref spc), (1, .ref 0), (2, .ref 106), (3, .ref 135), (4, .int (nI (7 * c)))] [.int v, .int v] (hp I2 J) _
  refine EV.r2_eq r_L_law__546 (fun _ => ?_) (fun z => absurd rfl z)
  refine EV.l (lv' := [(0, _), (1, _), (2, _), (3, _), (4, _)]) r_L_law__2543 rfl ?_
  rw [inc_7]
  refine EV.g r_L_law__2546 ?_
  exact (cont I2 J _ inv2).mono (fun r G q h => QN.of h (by omega))
