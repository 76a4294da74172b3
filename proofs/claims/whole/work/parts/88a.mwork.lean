/-! WORK is read: the model. -/
theorem tx_31 : TXS[31]? = some tCall := by decide
theorem tx_32 : TXS[32]? = some tLead := by decide
theorem tx_33 : TXS[33]? = some tPut := by decide
theorem tx_34 : TXS[34]? = some tNote := by decide
theorem tx_35 : TXS[35]? = some tMinu := by decide
theorem tx_36 : TXS[36]? = some tAgai := by decide
theorem ofbCall : ofw tCall < 2147483648 := by decide
theorem ofbLead : ofw tLead < 2147483648 := by decide
theorem ofbPut : ofw tPut < 2147483648 := by decide
theorem ofbNote : ofw tNote < 2147483648 := by decide
theorem ofbMinu : ofw tMinu < 2147483648 := by decide
theorem ofbAgai : ofw tAgai < 2147483648 := by decide
def PM (P : PL) (I : Nat → Nat → Int32) : Prop := I 106 36 = nI (4 * P.m) ∧ ∀ j, j < P.m → I 123 (4 * j) = nI (P.k j) ∧ I 123 (4 * j + 1) = nI (P.a j) ∧ I 123 (4 * j + 2) = nI (if P.k j = 5 then 4 * P.b j else P.b j) ∧ I 123 (4 * j + 3) = nI (P.c j)
theorem PM.fr {P : PL} {I I' : Nat → Nat → Int32} (h : PM P I) (e : I' 106 36 = I 106 36) (e1 : I' 123 = I 123) : PM P I' := by
  unfold PM at h ⊢
  rw [e, e1]
  exact h
theorem PM.mo {P : PL} {I I' : Nat → Nat → Int32} (h : PM P I) (f : MO I I') : PM P I' := h.fr (f.2 36 (by decide) (by decide) (by decide)) (f.1 123 (by decide))
theorem PM.add {P : PL} {k a b c bb : Nat} {I I' : Nat → Nat → Int32} (h : PM P I) (hb_ : bb = if k = 5 then 4 * b else b) (em : I' 106 36 = nI (4 * P.m + 4)) (e : I' 123 = wr (wr (wr (wr I 123 (4 * P.m) (nI k)) 123 (4 * P.m + 1) (nI a)) 123 (4 * P.m + 2) (nI bb)) 123 (4 * P.m + 3) (nI c) 123) : PM (addS P k a b c) I' := by
  refine ⟨em, fun j hj => ?_⟩
  have hj : j < P.m + 1 := hj
  show I' 123 (4 * j) = nI (put P.k P.m k j) ∧ I' 123 (4 * j + 1) = nI (put P.a P.m a j) ∧ I' 123 (4 * j + 2) = nI (if put P.k P.m k j = 5 then 4 * put P.b P.m b j else put P.b P.m b j) ∧ I' 123 (4 * j + 3) = nI (put P.c P.m c j)
  rw [e]
  by_cases z : j = P.m
  · subst z
    rw [put_s, put_s, put_s, put_s, ← hb_]
    refine ⟨?_, ?_, ?_, wr_same⟩
    · rw [wr_ne (Or.inr (by omega)), wr_ne (Or.inr (by omega)), wr_ne (Or.inr (by omega))]; exact wr_same
    · rw [wr_ne (Or.inr (by omega)), wr_ne (Or.inr (by omega))]; exact wr_same
    · rw [wr_ne (Or.inr (by omega))]; exact wr_same
  · have hj2 : j < P.m := by omega
    have y := h.2 j hj2
    rw [put_n z, put_n z, put_n z, put_n z]
    refine ⟨?_, ?_, ?_, ?_⟩
    · rw [wr_ne (Or.inr (by omega)), wr_ne (Or.inr (by omega)), wr_ne (Or.inr (by omega)), wr_ne (Or.inr (by omega))]; exact y.1
    · rw [wr_ne (Or.inr (by omega)), wr_ne (Or.inr (by omega)), wr_ne (Or.inr (by omega)), wr_ne (Or.inr (by omega))]; exact y.2.1
    · rw [wr_ne (Or.inr (by omega)), wr_ne (Or.inr (by omega)), wr_ne (Or.inr (by omega)), wr_ne (Or.inr (by omega))]; exact y.2.2.1
    · rw [wr_ne (Or.inr (by omega)), wr_ne (Or.inr (by omega)), wr_ne (Or.inr (by omega)), wr_ne (Or.inr (by omega))]; exact y.2.2.2
theorem PM.cls {P : PL} {j : Nat} {I I' : Nat → Nat → Int32} (h : PM P I) (hk : P.k j = 5) (e36 : I' 106 36 = I 106 36) (e : I' 123 = wr I 123 (4 * j + 2) (nI (4 * P.m)) 123) : PM (clsA P j) I' := by
  refine ⟨e36.trans h.1, fun i hi => ?_⟩
  have z := h.2 i hi
  show I' 123 (4 * i) = nI (P.k i) ∧ I' 123 (4 * i + 1) = nI (P.a i) ∧ I' 123 (4 * i + 2) = nI (if P.k i = 5 then 4 * put P.b j P.m i else put P.b j P.m i) ∧ I' 123 (4 * i + 3) = nI (P.c i)
  rw [e]
  refine ⟨by rw [wr_ne (Or.inr (by omega))]; exact z.1, by rw [wr_ne (Or.inr (by omega))]; exact z.2.1, ?_, by rw [wr_ne (Or.inr (by omega))]; exact z.2.2.2⟩
  by_cases y : i = j
  · subst y
    rw [put_s, if_pos hk]
    exact wr_same
  · rw [put_n y, wr_ne (Or.inr (by omega))]
    exact z.2.2.1
def KM (κ : CT) (I : Nat → Nat → Int32) : Prop := I 106 22 = nI κ.ns ∧ I 106 24 = nI κ.nb ∧ I 106 25 = nI κ.nc
def LSv (g : Nat → Nat) (n : Nat) (κ : CT) (k : Nat) (x : WX) (I : Nat → Nat → Int32) : Prop := (∀ j, j < 600 → I 108 j = nI (g j)) ∧ MD g n x.2 I ∧ I 106 7 = nI k ∧ KM κ I ∧ ∀ s, x.2 = .inl s → PM x.1 I ∧ 4 * x.1.m ≤ s
/-- the model's reading and its scratch plan alone were at work -/
def VG (I I' : Nat → Nat → Int32) : Prop := (∀ j, j ≠ 4 → j ≠ 5 → j ≠ 6 → j ≠ 7 → j ≠ 36 → I' 106 j = I 106 j) ∧ ∀ o, o ≠ 106 → o ≠ 123 → I' o = I o
theorem VG.rf {I : Nat → Nat → Int32} : VG I I := ⟨fun _ _ _ _ _ _ => rfl, fun _ _ _ => rfl⟩
theorem VG.tr {I I1 I2 : Nat → Nat → Int32} (h : VG I I1) (h2 : VG I1 I2) : VG I I2 := ⟨fun j a b c d e => (h2.1 j a b c d e).trans (h.1 j a b c d e), fun o a b => (h2.2 o a b).trans (h.2 o a b)⟩
theorem MO.vg {I I' : Nat → Nat → Int32} (h : MO I I') : VG I I' := ⟨fun j a b c _ _ => h.2 j a b c, fun o a _ => h.1 o a⟩
theorem LSv.mk {g : Nat → Nat} {n k k2 : Nat} {κ : CT} {x : WX} {R : PL} {r : RST} {I I' : Nat → Nat → Int32} (h : LSv g n κ k x I) (vg : VG I I') (md : MD g n r I') (e7 : I' 106 7 = nI k2) (hp : ∀ s2, r = .inl s2 → PM R I' ∧ 4 * R.m ≤ s2) : LSv g n κ k2 (R, r) I' := ⟨tp_fm h.1 (vg.2 108 (by decide) (by decide)), md, e7, by unfold KM; rw [vg.1 22 (by decide) (by decide) (by decide) (by decide) (by decide), vg.1 24 (by decide) (by decide) (by decide) (by decide) (by decide), vg.1 25 (by decide) (by decide) (by decide) (by decide) (by decide)]; exact h.2.2.2.1, hp⟩
theorem LSv.mg {g : Nat → Nat} {n k s : Nat} {κ : CT} {P : PL} {I : Nat → Nat → Int32} (h : LSv g n κ k (P, .inl s) I) : MG g n s I := h.2.1
theorem LSv.mb {g : Nat → Nat} {n k : Nat} {κ : CT} {P : PL} {q : Nat × Nat} {I : Nat → Nat → Int32} (h : LSv g n κ k (P, .inr q) I) : MB n q.1 q.2 I := h.2.1
theorem LSv.pm {g : Nat → Nat} {n k s : Nat} {κ : CT} {P : PL} {I : Nat → Nat → Int32} (h : LSv g n κ k (P, .inl s) I) : PM P I := (h.2.2.2.2 s rfl).1
theorem LSv.m4 {g : Nat → Nat} {n k s : Nat} {κ : CT} {P : PL} {I : Nat → Nat → Int32} (h : LSv g n κ k (P, .inl s) I) : 4 * P.m ≤ s := (h.2.2.2.2 s rfl).2
theorem LSv.mo {g : Nat → Nat} {n k : Nat} {κ : CT} {x : WX} {r2 : RST} {I I' : Nat → Nat → Int32} (h : LSv g n κ k x I) (md : MD g n r2 I') (f : MO I I') (hp : ∀ s2, r2 = .inl s2 → ∃ s, x.2 = .inl s ∧ s ≤ s2) : LSv g n κ k (x.1, r2) I' := h.mk f.vg md ((f.2 7 (by decide) (by decide) (by decide)).trans h.2.2.1) (fun s2 e => by
  obtain ⟨s, e1, h1⟩ := hp s2 e
  have z := h.2.2.2.2 s e1
  exact ⟨z.1.mo f, Nat.le_trans z.2 h1⟩)
theorem LSv.sgs {g : Nat → Nat} {n k c : Nat} {κ : CT} {x : WX} {I I' : Nat → Nat → Int32} (h : LSv g n κ k x I) (md : MD g n (tkS g n c x.2) I') (f : MO I I') : LSv g n κ k (x.1, tkS g n c x.2) I' := h.mo md f (fun s2 e => by obtain ⟨s, e1, h1⟩ := tkS_q e; exact ⟨s, e1, Nat.le_of_lt h1.1⟩)
theorem LSv.to {g : Nat → Nat} {n k : Nat} {κ : CT} {x x2 : WX} {I : Nat → Nat → Int32} (h : LSv g n κ k x I) (e : x2 = x) : LSv g n κ k x2 I := by rw [e]; exact h
def sto (w : Nat) : Int := if w = ofw tCall then 0 else if w = ofw tLead then 1 else if w = ofw tPut then 2 else if w = ofw tNote then 3 else if w = ofw tMinu then 4 else if w = ofw tAgai then 5 else -1
theorem sto_k {g : Nat → Nat} {n s : Nat} (hs : s ≤ n) : sto (wdv g n s) = if kst g n s = 6 then -1 else (kst g n s : Int) := by
  unfold sto kst
  have w : ∀ t, ltr t → t.length ≤ 6 → (wdv g n s = ofw t ↔ isW g n s t = true) := fun t lt h6 => wdv_w hs lt h6
  by_cases e1 : isW g n s tCall = true
  · rw [if_pos ((w _ lCall (by decide)).mpr e1), if_pos e1]; rfl
  rw [if_neg (fun z => e1 ((w _ lCall (by decide)).mp z)), if_neg e1]
  by_cases e2 : isW g n s tLead = true
  · rw [if_pos ((w _ lLead (by decide)).mpr e2), if_pos e2]; rfl
  rw [if_neg (fun z => e2 ((w _ lLead (by decide)).mp z)), if_neg e2]
  by_cases e3 : isW g n s tPut = true
  · rw [if_pos ((w _ lPut (by decide)).mpr e3), if_pos e3]; rfl
  rw [if_neg (fun z => e3 ((w _ lPut (by decide)).mp z)), if_neg e3]
  by_cases e4 : isW g n s tNote = true
  · rw [if_pos ((w _ lNote (by decide)).mpr e4), if_pos e4]; rfl
  rw [if_neg (fun z => e4 ((w _ lNote (by decide)).mp z)), if_neg e4]
  by_cases e5 : isW g n s tMinu = true
  · rw [if_pos ((w _ lMinu (by decide)).mpr e5), if_pos e5]; rfl
  rw [if_neg (fun z => e5 ((w _ lMinu (by decide)).mp z)), if_neg e5]
  by_cases e6 : isW g n s tAgai = true
  · rw [if_pos ((w _ lAgai (by decide)).mpr e6), if_pos e6]; rfl
  rw [if_neg (fun z => e6 ((w _ lAgai (by decide)).mp z)), if_neg e6]
  rfl
theorem kst_le {g : Nat → Nat} {n s : Nat} : kst g n s = 0 ∨ kst g n s = 1 ∨ kst g n s = 2 ∨ kst g n s = 3 ∨ kst g n s = 4 ∨ kst g n s = 5 ∨ kst g n s = 6 := by unfold kst; (repeat' split) <;> omega
def CMs (D k : Nat) (g : Nat → Nat) (n : Nat) (κ : CT) (f : PL → Nat → WX) : Prop := ∀ (d : Nat) (I : Nat → Nat → Int32) (J : Nat → Nat → Int64) (P : PL) (s : Nat), D ≤ d → LSv g n κ k (P, .inl s) I → RU d 209 [.ref 106] I J (fun I' => LSv g n κ k (sgs g n f P s) I' ∧ VG I I')
theorem tkS_eof {g : Nat → Nat} {n c s : Nat} (h : n ≤ s) : tkS g n c (.inl s) = .inr (1, s) := if_neg fun z => by have := (kd_0 (g := g) h).1; omega
/-- where the reading of the steps of an again stands; R: what comes out in the end -/
def VWI (g : Nat → Nat) (n : Nat) (κ : CT) (k : Nat) (f : PL → Nat → WX) (R : WX) (I : Nat → Nat → Int32) (i : Nat) (x : WX) (M : Nat → Nat → Int32) : Prop := LSv g n κ k x M ∧ VG I M ∧ ((stps n (enB g n) f (150 - i) x = R ∧ ∀ s, x.2 = .inl s → i ≤ s) ∨ ∃ s, x.2 = .inr (1, s) ∧ R.2 = .inl s ∧ n ≤ s)
def VWF (g : Nat → Nat) (n : Nat) (κ : CT) (k : Nat) (R : WX) (I M : Nat → Nat → Int32) : Prop := ∃ x, LSv g n κ k x M ∧ VG I M ∧ tkS g n 93 x.2 = tkS g n 93 R.2 ∧ ∀ s, x.2 = .inl s → x = R
theorem VWI.bad {g : Nat → Nat} {n k i : Nat} {κ : CT} {f : PL → Nat → WX} {R x : WX} {I M : Nat → Nat → Int32} (h : VWI g n κ k f R I i x M) (e : okr x.2 = false) : VWF g n κ k R I M := by
  obtain ⟨h1, h2, h3⟩ := h
  obtain ⟨P, r⟩ := x
  obtain ⟨k2, f2, er⟩ := okr_f e
  have er : r = .inr (k2, f2) := er
  subst er
  rcases h3 with h3 | ⟨s, e1, e2, e3⟩
  · rw [stps_bad] at h3
    exact ⟨_, h1, h2, by rw [← h3.1], fun s z => inr_ne z⟩
  · refine ⟨_, h1, h2, ?_, fun s z => inr_ne z⟩
    rw [e1, e2, tkS_eof e3]
    rfl
theorem VWI.ok {g : Nat → Nat} {n k i s : Nat} {κ : CT} {f : PL → Nat → WX} {R : WX} {P : PL} {I M : Nat → Nat → Int32} (h : VWI g n κ k f R I i (P, .inl s) M) : stps n (enB g n) f (150 - i) (P, .inl s) = R ∧ i ≤ s := by
  rcases h.2.2 with h3 | ⟨s2, e1, -, -⟩
  · exact ⟨h3.1, h3.2 s rfl⟩
  · exact inr_ne e1.symm
theorem VWI.end {g : Nat → Nat} {n k i s : Nat} {κ : CT} {f : PL → Nat → WX} {R : WX} {P : PL} {I M M2 : Nat → Nat → Int32} (h : VWI g n κ k f R I i (P, .inl s) M) (e : enB g n s = true) (ls : LSv g n κ k (P, .inl s) M2) (vg : VG M M2) : VWF g n κ k R I M2 := by
  have z := h.ok.1
  rw [stps_end (Or.inr e)] at z
  exact ⟨_, ls, h.2.1.tr vg, by rw [← z], fun _ _ => z⟩
theorem VWI.next {g : Nat → Nat} {n k i s o : Nat} {κ : CT} {f : PL → Nat → WX} {R : WX} {P : PL} {I M M2 : Nat → Nat → Int32} (h : VWI g n κ k (sgs g n f) R I i (P, .inl s) M) (pf : PGw n κ o (sgs g n f)) (hn : n ≤ 150) (e : enB g n s = false) (h6 : n ≤ s → f P s = (P, .inr (1, s))) (ls : LSv g n κ k (sgs g n f P s) M2) (vg : VG M M2) : VWI g n κ k (sgs g n f) R I (i + 1) (sgs g n f P s) M2 := by
  have z := h.ok
  refine ⟨ls, h.2.1.tr vg, ?_⟩
  by_cases hs : s < n
  · refine Or.inl ⟨?_, fun s2 e2 => ?_⟩
    · rw [← z.1, show 150 - i = 150 - (i + 1) + 1 by omega, stps_go hs e]
    · have p := pf P s s2 hs e2
      omega
  · have y := z.1
    rw [stps_end (Or.inl (Nat.le_of_not_lt hs))] at y
    refine Or.inr ⟨s, ?_, by rw [← y], Nat.le_of_not_lt hs⟩
    unfold sgs
    rw [h6 (Nat.le_of_not_lt hs)]
    rfl
theorem stpT_eof {g : Nat → Nat} {n s o : Nat} {κ : CT} {P : PL} (h : n ≤ s) : stT g n κ o P s = (P, .inr (1, s)) := by
  have k : ¬ kst g n s < 6 := fun z => by have := (kst_3 z).1; omega
  cases o with
  | zero => exact stpT_6 _ _ P k
  | succ o => exact stpT_6 _ _ P k
theorem kst_x3 {g : Nat → Nat} {n s : Nat} (k : kst g n s = 3) : isW g n s tNote = true := by
  have z := kst_w (g := g) (n := n) (s := s) (by omega)
  rw [if_neg (by omega), if_neg (by omega), if_neg (by omega), if_pos k] at z
  exact z
theorem kst_x4 {g : Nat → Nat} {n s : Nat} (k : kst g n s = 4) : isW g n s tMinu = true := by
  have z := kst_w (g := g) (n := n) (s := s) (by omega)
  rw [if_neg (by omega), if_neg (by omega), if_neg (by omega), if_neg (by omega), if_pos k] at z
  exact z
theorem kst_x5 {g : Nat → Nat} {n s : Nat} (k : kst g n s = 5) : isW g n s tAgai = true := by
  have z := kst_w (g := g) (n := n) (s := s) (by omega)
  rw [if_neg (by omega), if_neg (by omega), if_neg (by omega), if_neg (by omega), if_neg (by omega)] at z
  exact z
theorem r_X11_readAgain_0 : RW M_X11_readAgain 0 (.aload_n 0) 1 0 0 1 := ⟨rfl, rfl⟩
theorem r_X11_readAgain_1 : RW M_X11_readAgain 1 (.iconst 5) 1 0 0 2 := ⟨rfl, rfl⟩
theorem r_X11_readAgain_2 : RW M_X11_readAgain 2 (.invokevirtual 261) 3 196 0 5 := ⟨rfl, rfl⟩
theorem r_X11_readAgain_5 : RW M_X11_readAgain 5 (.aload_n 0) 1 0 0 6 := ⟨rfl, rfl⟩
theorem r_X11_readAgain_6 : RW M_X11_readAgain 6 (.iconst 0) 1 0 0 7 := ⟨rfl, rfl⟩
theorem r_X11_readAgain_7 : RW M_X11_readAgain 7 (.bipush 40) 2 0 0 9 := ⟨rfl, rfl⟩
theorem r_X11_readAgain_9 : RW M_X11_readAgain 9 (.invokevirtual 206) 3 181 0 12 := ⟨rfl, rfl⟩
theorem r_X11_readAgain_12 : RW M_X11_readAgain 12 (.istore_n 1) 1 0 0 13 := ⟨rfl, rfl⟩
theorem r_X11_readAgain_13 : RW M_X11_readAgain 13 (.aload_n 0) 1 0 0 14 := ⟨rfl, rfl⟩
theorem r_X11_readAgain_14 : RW M_X11_readAgain 14 (.bipush 91) 2 0 0 16 := ⟨rfl, rfl⟩
theorem r_X11_readAgain_16 : RW M_X11_readAgain 16 (.invokevirtual 242) 3 182 0 19 := ⟨rfl, rfl⟩
theorem r_X11_readAgain_19 : RW M_X11_readAgain 19 (.aload_n 0) 1 0 0 20 := ⟨rfl, rfl⟩
theorem r_X11_readAgain_20 : RW M_X11_readAgain 20 (.getfield 294) 3 11 36 23 := ⟨rfl, rfl⟩
theorem r_X11_readAgain_23 : RW M_X11_readAgain 23 (.istore_n 2) 1 0 0 24 := ⟨rfl, rfl⟩
theorem r_X11_readAgain_24 : RW M_X11_readAgain 24 (.aload_n 0) 1 0 0 25 := ⟨rfl, rfl⟩
theorem r_X11_readAgain_25 : RW M_X11_readAgain 25 (.iconst 5) 1 0 0 26 := ⟨rfl, rfl⟩
theorem r_X11_readAgain_26 : RW M_X11_readAgain 26 (.iload_n 1) 1 0 0 27 := ⟨rfl, rfl⟩
theorem r_X11_readAgain_27 : RW M_X11_readAgain 27 (.iconst 0) 1 0 0 28 := ⟨rfl, rfl⟩
theorem r_X11_readAgain_28 : RW M_X11_readAgain 28 (.iconst 0) 1 0 0 29 := ⟨rfl, rfl⟩
theorem r_X11_readAgain_29 : RW M_X11_readAgain 29 (.invokevirtual 309) 3 206 0 32 := ⟨rfl, rfl⟩
theorem r_X11_readAgain_32 : RW M_X11_readAgain 32 (.aload_n 0) 1 0 0 33 := ⟨rfl, rfl⟩
theorem r_X11_readAgain_33 : RW M_X11_readAgain 33 (.invokevirtual 140) 3 173 0 36 := ⟨rfl, rfl⟩
theorem r_X11_readAgain_36 : RW M_X11_readAgain 36 (.ifCond .eq 19) 3 55 0 39 := ⟨rfl, rfl⟩
theorem r_X11_readAgain_39 : RW M_X11_readAgain 39 (.aload_n 0) 1 0 0 40 := ⟨rfl, rfl⟩
theorem r_X11_readAgain_40 : RW M_X11_readAgain 40 (.invokevirtual 123) 3 175 0 43 := ⟨rfl, rfl⟩
theorem r_X11_readAgain_43 : RW M_X11_readAgain 43 (.bipush 93) 2 0 0 45 := ⟨rfl, rfl⟩
theorem r_X11_readAgain_45 : RW M_X11_readAgain 45 (.if_icmp .eq 10) 3 55 0 48 := ⟨rfl, rfl⟩
theorem r_X11_readAgain_48 : RW M_X11_readAgain 48 (.aload_n 0) 1 0 0 49 := ⟨rfl, rfl⟩
theorem r_X11_readAgain_49 : RW M_X11_readAgain 49 (.invokevirtual 313) 3 209 0 52 := ⟨rfl, rfl⟩
theorem r_X11_readAgain_52 : RW M_X11_readAgain 52 (.goto (-20)) 3 32 0 55 := ⟨rfl, rfl⟩
theorem r_X11_readAgain_55 : RW M_X11_readAgain 55 (.aload_n 0) 1 0 0 56 := ⟨rfl, rfl⟩
theorem r_X11_readAgain_56 : RW M_X11_readAgain 56 (.bipush 93) 2 0 0 58 := ⟨rfl, rfl⟩
theorem r_X11_readAgain_58 : RW M_X11_readAgain 58 (.invokevirtual 242) 3 182 0 61 := ⟨rfl, rfl⟩
theorem r_X11_readAgain_61 : RW M_X11_readAgain 61 (.aload_n 0) 1 0 0 62 := ⟨rfl, rfl⟩
theorem r_X11_readAgain_62 : RW M_X11_readAgain 62 (.dup) 1 0 0 63 := ⟨rfl, rfl⟩
theorem r_X11_readAgain_63 : RW M_X11_readAgain 63 (.getfield 151) 3 11 7 66 := ⟨rfl, rfl⟩
theorem r_X11_readAgain_66 : RW M_X11_readAgain 66 (.iconst 1) 1 0 0 67 := ⟨rfl, rfl⟩
theorem r_X11_readAgain_67 : RW M_X11_readAgain 67 (.isub) 1 0 0 68 := ⟨rfl, rfl⟩
theorem r_X11_readAgain_68 : RW M_X11_readAgain 68 (.putfield 151) 3 11 7 71 := ⟨rfl, rfl⟩
theorem r_X11_readAgain_71 : RW M_X11_readAgain 71 (.aload_n 0) 1 0 0 72 := ⟨rfl, rfl⟩
theorem r_X11_readAgain_72 : RW M_X11_readAgain 72 (.invokevirtual 140) 3 173 0 75 := ⟨rfl, rfl⟩
theorem r_X11_readAgain_75 : RW M_X11_readAgain 75 (.ifCond .eq 15) 3 90 0 78 := ⟨rfl, rfl⟩
theorem r_X11_readAgain_78 : RW M_X11_readAgain 78 (.aload_n 0) 1 0 0 79 := ⟨rfl, rfl⟩
theorem r_X11_readAgain_79 : RW M_X11_readAgain 79 (.getfield 65) 3 11 34 82 := ⟨rfl, rfl⟩
theorem r_X11_readAgain_82 : RW M_X11_readAgain 82 (.iload_n 2) 1 0 0 83 := ⟨rfl, rfl⟩
theorem r_X11_readAgain_83 : RW M_X11_readAgain 83 (.iconst 2) 1 0 0 84 := ⟨rfl, rfl⟩
theorem r_X11_readAgain_84 : RW M_X11_readAgain 84 (.iadd) 1 0 0 85 := ⟨rfl, rfl⟩
theorem r_X11_readAgain_85 : RW M_X11_readAgain 85 (.aload_n 0) 1 0 0 86 := ⟨rfl, rfl⟩
theorem r_X11_readAgain_86 : RW M_X11_readAgain 86 (.getfield 294) 3 11 36 89 := ⟨rfl, rfl⟩
theorem r_X11_readAgain_89 : RW M_X11_readAgain 89 (.iastore) 1 0 0 90 := ⟨rfl, rfl⟩
theorem r_X11_readAgain_90 : RW M_X11_readAgain 90 (.return_) 1 0 0 91 := ⟨rfl, rfl⟩
theorem r_X11_readStep_0 : RW M_X11_readStep 0 (.aload_n 0) 1 0 0 1 := ⟨rfl, rfl⟩
theorem r_X11_readStep_1 : RW M_X11_readStep 1 (.invokevirtual 221) 3 178 0 4 := ⟨rfl, rfl⟩
theorem r_X11_readStep_4 : RW M_X11_readStep 4 (.invokestatic 316) 3 207 0 7 := ⟨rfl, rfl⟩
theorem r_X11_readStep_7 : RW M_X11_readStep 7 (.istore_n 1) 1 0 0 8 := ⟨rfl, rfl⟩
theorem r_X11_readStep_8 : RW M_X11_readStep 8 (.iload_n 1) 1 0 0 9 := ⟨rfl, rfl⟩
theorem r_X11_readStep_9 : RW M_X11_readStep 9 (.iconst (-1)) 1 0 0 10 := ⟨rfl, rfl⟩
theorem r_X11_readStep_10 : RW M_X11_readStep 10 (.if_icmp .ne 15) 3 25 0 13 := ⟨rfl, rfl⟩
theorem r_X11_readStep_13 : RW M_X11_readStep 13 (.aload_n 0) 1 0 0 14 := ⟨rfl, rfl⟩
theorem r_X11_readStep_14 : RW M_X11_readStep 14 (.iconst 1) 1 0 0 15 := ⟨rfl, rfl⟩
theorem r_X11_readStep_15 : RW M_X11_readStep 15 (.aload_n 0) 1 0 0 16 := ⟨rfl, rfl⟩
theorem r_X11_readStep_16 : RW M_X11_readStep 16 (.getfield 117) 3 11 4 19 := ⟨rfl, rfl⟩
theorem r_X11_readStep_19 : RW M_X11_readStep 19 (.invokevirtual 147) 3 174 0 22 := ⟨rfl, rfl⟩
theorem r_X11_readStep_22 : RW M_X11_readStep 22 (.goto 113) 3 135 0 25 := ⟨rfl, rfl⟩
theorem r_X11_readStep_25 : RW M_X11_readStep 25 (.iload_n 1) 1 0 0 26 := ⟨rfl, rfl⟩
theorem r_X11_readStep_26 : RW M_X11_readStep 26 (.iconst 5) 1 0 0 27 := ⟨rfl, rfl⟩
theorem r_X11_readStep_27 : RW M_X11_readStep 27 (.if_icmp .ne 10) 3 37 0 30 := ⟨rfl, rfl⟩
theorem r_X11_readStep_30 : RW M_X11_readStep 30 (.aload_n 0) 1 0 0 31 := ⟨rfl, rfl⟩
theorem r_X11_readStep_31 : RW M_X11_readStep 31 (.invokevirtual 319) 3 208 0 34 := ⟨rfl, rfl⟩
theorem r_X11_readStep_34 : RW M_X11_readStep 34 (.goto 101) 3 135 0 37 := ⟨rfl, rfl⟩
theorem r_X11_readStep_37 : RW M_X11_readStep 37 (.aload_n 0) 1 0 0 38 := ⟨rfl, rfl⟩
theorem r_X11_readStep_38 : RW M_X11_readStep 38 (.invokevirtual 236) 3 180 0 41 := ⟨rfl, rfl⟩
theorem r_X11_readStep_41 : RW M_X11_readStep 41 (.iload_n 1) 1 0 0 42 := ⟨rfl, rfl⟩
theorem r_X11_readStep_42 : RW M_X11_readStep 42 (.iconst 4) 1 0 0 43 := ⟨rfl, rfl⟩
theorem r_X11_readStep_43 : RW M_X11_readStep 43 (.if_icmp .ne 7) 3 50 0 46 := ⟨rfl, rfl⟩
theorem r_X11_readStep_46 : RW M_X11_readStep 46 (.iconst 0) 1 0 0 47 := ⟨rfl, rfl⟩
theorem r_X11_readStep_47 : RW M_X11_readStep 47 (.goto 26) 3 73 0 50 := ⟨rfl, rfl⟩
theorem r_X11_readStep_50 : RW M_X11_readStep 50 (.aload_n 0) 1 0 0 51 := ⟨rfl, rfl⟩
theorem r_X11_readStep_51 : RW M_X11_readStep 51 (.iconst 0) 1 0 0 52 := ⟨rfl, rfl⟩
theorem r_X11_readStep_52 : RW M_X11_readStep 52 (.iload_n 1) 1 0 0 53 := ⟨rfl, rfl⟩
theorem r_X11_readStep_53 : RW M_X11_readStep 53 (.iconst 3) 1 0 0 54 := ⟨rfl, rfl⟩
theorem r_X11_readStep_54 : RW M_X11_readStep 54 (.if_icmp .ne 10) 3 64 0 57 := ⟨rfl, rfl⟩
theorem r_X11_readStep_57 : RW M_X11_readStep 57 (.aload_n 0) 1 0 0 58 := ⟨rfl, rfl⟩
theorem r_X11_readStep_58 : RW M_X11_readStep 58 (.getfield 166) 3 11 22 61 := ⟨rfl, rfl⟩
theorem r_X11_readStep_61 : RW M_X11_readStep 61 (.goto 7) 3 68 0 64 := ⟨rfl, rfl⟩
theorem r_X11_readStep_64 : RW M_X11_readStep 64 (.aload_n 0) 1 0 0 65 := ⟨rfl, rfl⟩
theorem r_X11_readStep_65 : RW M_X11_readStep 65 (.getfield 175) 3 11 25 68 := ⟨rfl, rfl⟩
theorem r_X11_readStep_68 : RW M_X11_readStep 68 (.iconst 1) 1 0 0 69 := ⟨rfl, rfl⟩
theorem r_X11_readStep_69 : RW M_X11_readStep 69 (.isub) 1 0 0 70 := ⟨rfl, rfl⟩
theorem r_X11_readStep_70 : RW M_X11_readStep 70 (.invokevirtual 206) 3 181 0 73 := ⟨rfl, rfl⟩
theorem r_X11_readStep_73 : RW M_X11_readStep 73 (.istore_n 2) 1 0 0 74 := ⟨rfl, rfl⟩
theorem r_X11_readStep_74 : RW M_X11_readStep 74 (.iload_n 1) 1 0 0 75 := ⟨rfl, rfl⟩
theorem r_X11_readStep_75 : RW M_X11_readStep 75 (.iconst 2) 1 0 0 76 := ⟨rfl, rfl⟩
theorem r_X11_readStep_76 : RW M_X11_readStep 76 (.if_icmp .le 7) 3 83 0 79 := ⟨rfl, rfl⟩
theorem r_X11_readStep_79 : RW M_X11_readStep 79 (.iconst 0) 1 0 0 80 := ⟨rfl, rfl⟩
theorem r_X11_readStep_80 : RW M_X11_readStep 80 (.goto 26) 3 106 0 83 := ⟨rfl, rfl⟩
theorem r_X11_readStep_83 : RW M_X11_readStep 83 (.aload_n 0) 1 0 0 84 := ⟨rfl, rfl⟩
theorem r_X11_readStep_84 : RW M_X11_readStep 84 (.iconst 0) 1 0 0 85 := ⟨rfl, rfl⟩
theorem r_X11_readStep_85 : RW M_X11_readStep 85 (.iload_n 1) 1 0 0 86 := ⟨rfl, rfl⟩
theorem r_X11_readStep_86 : RW M_X11_readStep 86 (.iconst 2) 1 0 0 87 := ⟨rfl, rfl⟩
theorem r_X11_readStep_87 : RW M_X11_readStep 87 (.if_icmp .ne 10) 3 97 0 90 := ⟨rfl, rfl⟩
theorem r_X11_readStep_90 : RW M_X11_readStep 90 (.aload_n 0) 1 0 0 91 := ⟨rfl, rfl⟩
theorem r_X11_readStep_91 : RW M_X11_readStep 91 (.getfield 166) 3 11 22 94 := ⟨rfl, rfl⟩
theorem r_X11_readStep_94 : RW M_X11_readStep 94 (.goto 7) 3 101 0 97 := ⟨rfl, rfl⟩
theorem r_X11_readStep_97 : RW M_X11_readStep 97 (.aload_n 0) 1 0 0 98 := ⟨rfl, rfl⟩
theorem r_X11_readStep_98 : RW M_X11_readStep 98 (.getfield 172) 3 11 24 101 := ⟨rfl, rfl⟩
theorem r_X11_readStep_101 : RW M_X11_readStep 101 (.iconst 1) 1 0 0 102 := ⟨rfl, rfl⟩
theorem r_X11_readStep_102 : RW M_X11_readStep 102 (.isub) 1 0 0 103 := ⟨rfl, rfl⟩
theorem r_X11_readStep_103 : RW M_X11_readStep 103 (.invokevirtual 206) 3 181 0 106 := ⟨rfl, rfl⟩
theorem r_X11_readStep_106 : RW M_X11_readStep 106 (.istore_n 3) 1 0 0 107 := ⟨rfl, rfl⟩
theorem r_X11_readStep_107 : RW M_X11_readStep 107 (.aload_n 0) 1 0 0 108 := ⟨rfl, rfl⟩
theorem r_X11_readStep_108 : RW M_X11_readStep 108 (.iload_n 1) 1 0 0 109 := ⟨rfl, rfl⟩
theorem r_X11_readStep_109 : RW M_X11_readStep 109 (.iload_n 2) 1 0 0 110 := ⟨rfl, rfl⟩
theorem r_X11_readStep_110 : RW M_X11_readStep 110 (.iload_n 3) 1 0 0 111 := ⟨rfl, rfl⟩
theorem r_X11_readStep_111 : RW M_X11_readStep 111 (.iload_n 1) 1 0 0 112 := ⟨rfl, rfl⟩
theorem r_X11_readStep_112 : RW M_X11_readStep 112 (.iconst 1) 1 0 0 113 := ⟨rfl, rfl⟩
theorem r_X11_readStep_113 : RW M_X11_readStep 113 (.if_icmp .eq 8) 3 121 0 116 := ⟨rfl, rfl⟩
theorem r_X11_readStep_116 : RW M_X11_readStep 116 (.iload_n 1) 1 0 0 117 := ⟨rfl, rfl⟩
theorem r_X11_readStep_117 : RW M_X11_readStep 117 (.iconst 2) 1 0 0 118 := ⟨rfl, rfl⟩
theorem r_X11_readStep_118 : RW M_X11_readStep 118 (.if_icmp .ne 13) 3 131 0 121 := ⟨rfl, rfl⟩
theorem r_X11_readStep_121 : RW M_X11_readStep 121 (.aload_n 0) 1 0 0 122 := ⟨rfl, rfl⟩
theorem r_X11_readStep_122 : RW M_X11_readStep 122 (.iconst 1) 1 0 0 123 := ⟨rfl, rfl⟩
theorem r_X11_readStep_123 : RW M_X11_readStep 123 (.bipush 9) 2 0 0 125 := ⟨rfl, rfl⟩
theorem r_X11_readStep_125 : RW M_X11_readStep 125 (.invokevirtual 206) 3 181 0 128 := ⟨rfl, rfl⟩
theorem r_X11_readStep_128 : RW M_X11_readStep 128 (.goto 4) 3 132 0 131 := ⟨rfl, rfl⟩
theorem r_X11_readStep_131 : RW M_X11_readStep 131 (.iconst 0) 1 0 0 132 := ⟨rfl, rfl⟩
theorem r_X11_readStep_132 : RW M_X11_readStep 132 (.invokevirtual 309) 3 206 0 135 := ⟨rfl, rfl⟩
theorem r_X11_readStep_135 : RW M_X11_readStep 135 (.aload_n 0) 1 0 2 136 := ⟨rfl, rfl⟩
theorem r_X11_readStep_136 : RW M_X11_readStep 136 (.bipush 59) 2 0 0 138 := ⟨rfl, rfl⟩
theorem r_X11_readStep_138 : RW M_X11_readStep 138 (.invokevirtual 242) 3 182 0 141 := ⟨rfl, rfl⟩
theorem r_X11_readStep_141 : RW M_X11_readStep 141 (.return_) 1 0 0 142 := ⟨rfl, rfl⟩
theorem r_X11_stepOf_0 : RW M_X11_stepOf 0 (.iload_n 0) 1 0 0 1 := ⟨rfl, rfl⟩
theorem r_X11_stepOf_1 : RW M_X11_stepOf 1 (.ldc_w 297) 3 31 1 4 := ⟨rfl, rfl⟩
theorem r_X11_stepOf_4 : RW M_X11_stepOf 4 (.invokestatic 199) 3 179 0 7 := ⟨rfl, rfl⟩
theorem r_X11_stepOf_7 : RW M_X11_stepOf 7 (.if_icmp .ne 7) 3 14 0 10 := ⟨rfl, rfl⟩
theorem r_X11_stepOf_10 : RW M_X11_stepOf 10 (.iconst 0) 1 0 0 11 := ⟨rfl, rfl⟩
theorem r_X11_stepOf_11 : RW M_X11_stepOf 11 (.goto 74) 3 85 0 14 := ⟨rfl, rfl⟩
theorem r_X11_stepOf_14 : RW M_X11_stepOf 14 (.iload_n 0) 1 0 0 15 := ⟨rfl, rfl⟩
theorem r_X11_stepOf_15 : RW M_X11_stepOf 15 (.ldc_w 299) 3 32 1 18 := ⟨rfl, rfl⟩
theorem r_X11_stepOf_18 : RW M_X11_stepOf 18 (.invokestatic 199) 3 179 0 21 := ⟨rfl, rfl⟩
theorem r_X11_stepOf_21 : RW M_X11_stepOf 21 (.if_icmp .ne 7) 3 28 0 24 := ⟨rfl, rfl⟩
theorem r_X11_stepOf_24 : RW M_X11_stepOf 24 (.iconst 1) 1 0 0 25 := ⟨rfl, rfl⟩
theorem r_X11_stepOf_25 : RW M_X11_stepOf 25 (.goto 60) 3 85 0 28 := ⟨rfl, rfl⟩
theorem r_X11_stepOf_28 : RW M_X11_stepOf 28 (.iload_n 0) 1 0 0 29 := ⟨rfl, rfl⟩
theorem r_X11_stepOf_29 : RW M_X11_stepOf 29 (.ldc_w 301) 3 33 1 32 := ⟨rfl, rfl⟩
theorem r_X11_stepOf_32 : RW M_X11_stepOf 32 (.invokestatic 199) 3 179 0 35 := ⟨rfl, rfl⟩
theorem r_X11_stepOf_35 : RW M_X11_stepOf 35 (.if_icmp .ne 7) 3 42 0 38 := ⟨rfl, rfl⟩
theorem r_X11_stepOf_38 : RW M_X11_stepOf 38 (.iconst 2) 1 0 0 39 := ⟨rfl, rfl⟩
theorem r_X11_stepOf_39 : RW M_X11_stepOf 39 (.goto 46) 3 85 0 42 := ⟨rfl, rfl⟩
theorem r_X11_stepOf_42 : RW M_X11_stepOf 42 (.iload_n 0) 1 0 0 43 := ⟨rfl, rfl⟩
theorem r_X11_stepOf_43 : RW M_X11_stepOf 43 (.ldc_w 303) 3 34 1 46 := ⟨rfl, rfl⟩
theorem r_X11_stepOf_46 : RW M_X11_stepOf 46 (.invokestatic 199) 3 179 0 49 := ⟨rfl, rfl⟩
theorem r_X11_stepOf_49 : RW M_X11_stepOf 49 (.if_icmp .ne 7) 3 56 0 52 := ⟨rfl, rfl⟩
theorem r_X11_stepOf_52 : RW M_X11_stepOf 52 (.iconst 3) 1 0 0 53 := ⟨rfl, rfl⟩
theorem r_X11_stepOf_53 : RW M_X11_stepOf 53 (.goto 32) 3 85 0 56 := ⟨rfl, rfl⟩
theorem r_X11_stepOf_56 : RW M_X11_stepOf 56 (.iload_n 0) 1 0 0 57 := ⟨rfl, rfl⟩
theorem r_X11_stepOf_57 : RW M_X11_stepOf 57 (.ldc_w 305) 3 35 1 60 := ⟨rfl, rfl⟩
theorem r_X11_stepOf_60 : RW M_X11_stepOf 60 (.invokestatic 199) 3 179 0 63 := ⟨rfl, rfl⟩
theorem r_X11_stepOf_63 : RW M_X11_stepOf 63 (.if_icmp .ne 7) 3 70 0 66 := ⟨rfl, rfl⟩
theorem r_X11_stepOf_66 : RW M_X11_stepOf 66 (.iconst 4) 1 0 0 67 := ⟨rfl, rfl⟩
theorem r_X11_stepOf_67 : RW M_X11_stepOf 67 (.goto 18) 3 85 0 70 := ⟨rfl, rfl⟩
theorem r_X11_stepOf_70 : RW M_X11_stepOf 70 (.iload_n 0) 1 0 0 71 := ⟨rfl, rfl⟩
theorem r_X11_stepOf_71 : RW M_X11_stepOf 71 (.ldc_w 307) 3 36 1 74 := ⟨rfl, rfl⟩
theorem r_X11_stepOf_74 : RW M_X11_stepOf 74 (.invokestatic 199) 3 179 0 77 := ⟨rfl, rfl⟩
theorem r_X11_stepOf_77 : RW M_X11_stepOf 77 (.if_icmp .ne 7) 3 84 0 80 := ⟨rfl, rfl⟩
theorem r_X11_stepOf_80 : RW M_X11_stepOf 80 (.iconst 5) 1 0 0 81 := ⟨rfl, rfl⟩
theorem r_X11_stepOf_81 : RW M_X11_stepOf 81 (.goto 4) 3 85 0 84 := ⟨rfl, rfl⟩
theorem r_X11_stepOf_84 : RW M_X11_stepOf 84 (.iconst (-1)) 1 0 0 85 := ⟨rfl, rfl⟩
theorem r_X11_stepOf_85 : RW M_X11_stepOf 85 (.ireturn) 1 0 0 86 := ⟨rfl, rfl⟩
theorem r_X11_tellsStep_0 : RW M_X11_tellsStep 0 (.aload_n 0) 1 0 0 1 := ⟨rfl, rfl⟩
theorem r_X11_tellsStep_1 : RW M_X11_tellsStep 1 (.invokevirtual 140) 3 173 0 4 := ⟨rfl, rfl⟩
theorem r_X11_tellsStep_4 : RW M_X11_tellsStep 4 (.ifCond .ne 4) 3 8 0 7 := ⟨rfl, rfl⟩
theorem r_X11_tellsStep_7 : RW M_X11_tellsStep 7 (.return_) 1 0 0 8 := ⟨rfl, rfl⟩
theorem r_X11_tellsStep_8 : RW M_X11_tellsStep 8 (.aload_n 0) 1 0 0 9 := ⟨rfl, rfl⟩
theorem r_X11_tellsStep_9 : RW M_X11_tellsStep 9 (.getfield 65) 3 11 34 12 := ⟨rfl, rfl⟩
theorem r_X11_tellsStep_12 : RW M_X11_tellsStep 12 (.aload_n 0) 1 0 0 13 := ⟨rfl, rfl⟩
theorem r_X11_tellsStep_13 : RW M_X11_tellsStep 13 (.getfield 294) 3 11 36 16 := ⟨rfl, rfl⟩
theorem r_X11_tellsStep_16 : RW M_X11_tellsStep 16 (.iload_n 1) 1 0 0 17 := ⟨rfl, rfl⟩
theorem r_X11_tellsStep_17 : RW M_X11_tellsStep 17 (.iastore) 1 0 0 18 := ⟨rfl, rfl⟩
theorem r_X11_tellsStep_18 : RW M_X11_tellsStep 18 (.aload_n 0) 1 0 0 19 := ⟨rfl, rfl⟩
theorem r_X11_tellsStep_19 : RW M_X11_tellsStep 19 (.getfield 65) 3 11 34 22 := ⟨rfl, rfl⟩
theorem r_X11_tellsStep_22 : RW M_X11_tellsStep 22 (.aload_n 0) 1 0 0 23 := ⟨rfl, rfl⟩
theorem r_X11_tellsStep_23 : RW M_X11_tellsStep 23 (.getfield 294) 3 11 36 26 := ⟨rfl, rfl⟩
theorem r_X11_tellsStep_26 : RW M_X11_tellsStep 26 (.iconst 1) 1 0 0 27 := ⟨rfl, rfl⟩
theorem r_X11_tellsStep_27 : RW M_X11_tellsStep 27 (.iadd) 1 0 0 28 := ⟨rfl, rfl⟩
theorem r_X11_tellsStep_28 : RW M_X11_tellsStep 28 (.iload_n 2) 1 0 0 29 := ⟨rfl, rfl⟩
theorem r_X11_tellsStep_29 : RW M_X11_tellsStep 29 (.iastore) 1 0 0 30 := ⟨rfl, rfl⟩
theorem r_X11_tellsStep_30 : RW M_X11_tellsStep 30 (.aload_n 0) 1 0 0 31 := ⟨rfl, rfl⟩
theorem r_X11_tellsStep_31 : RW M_X11_tellsStep 31 (.getfield 65) 3 11 34 34 := ⟨rfl, rfl⟩
theorem r_X11_tellsStep_34 : RW M_X11_tellsStep 34 (.aload_n 0) 1 0 0 35 := ⟨rfl, rfl⟩
theorem r_X11_tellsStep_35 : RW M_X11_tellsStep 35 (.getfield 294) 3 11 36 38 := ⟨rfl, rfl⟩
theorem r_X11_tellsStep_38 : RW M_X11_tellsStep 38 (.iconst 2) 1 0 0 39 := ⟨rfl, rfl⟩
theorem r_X11_tellsStep_39 : RW M_X11_tellsStep 39 (.iadd) 1 0 0 40 := ⟨rfl, rfl⟩
theorem r_X11_tellsStep_40 : RW M_X11_tellsStep 40 (.iload_n 3) 1 0 0 41 := ⟨rfl, rfl⟩
theorem r_X11_tellsStep_41 : RW M_X11_tellsStep 41 (.iastore) 1 0 0 42 := ⟨rfl, rfl⟩
theorem r_X11_tellsStep_42 : RW M_X11_tellsStep 42 (.aload_n 0) 1 0 0 43 := ⟨rfl, rfl⟩
theorem r_X11_tellsStep_43 : RW M_X11_tellsStep 43 (.getfield 65) 3 11 34 46 := ⟨rfl, rfl⟩
theorem r_X11_tellsStep_46 : RW M_X11_tellsStep 46 (.aload_n 0) 1 0 0 47 := ⟨rfl, rfl⟩
theorem r_X11_tellsStep_47 : RW M_X11_tellsStep 47 (.getfield 294) 3 11 36 50 := ⟨rfl, rfl⟩
theorem r_X11_tellsStep_50 : RW M_X11_tellsStep 50 (.iconst 3) 1 0 0 51 := ⟨rfl, rfl⟩
theorem r_X11_tellsStep_51 : RW M_X11_tellsStep 51 (.iadd) 1 0 0 52 := ⟨rfl, rfl⟩
theorem r_X11_tellsStep_52 : RW M_X11_tellsStep 52 (.iload 4) 2 0 0 54 := ⟨rfl, rfl⟩
theorem r_X11_tellsStep_54 : RW M_X11_tellsStep 54 (.iastore) 1 0 0 55 := ⟨rfl, rfl⟩
theorem r_X11_tellsStep_55 : RW M_X11_tellsStep 55 (.aload_n 0) 1 0 0 56 := ⟨rfl, rfl⟩
theorem r_X11_tellsStep_56 : RW M_X11_tellsStep 56 (.dup) 1 0 0 57 := ⟨rfl, rfl⟩
theorem r_X11_tellsStep_57 : RW M_X11_tellsStep 57 (.getfield 294) 3 11 36 60 := ⟨rfl, rfl⟩
theorem r_X11_tellsStep_60 : RW M_X11_tellsStep 60 (.iconst 4) 1 0 0 61 := ⟨rfl, rfl⟩
theorem r_X11_tellsStep_61 : RW M_X11_tellsStep 61 (.iadd) 1 0 0 62 := ⟨rfl, rfl⟩
theorem r_X11_tellsStep_62 : RW M_X11_tellsStep 62 (.putfield 294) 3 11 36 65 := ⟨rfl, rfl⟩
theorem r_X11_tellsStep_65 : RW M_X11_tellsStep 65 (.return_) 1 0 0 66 := ⟨rfl, rfl⟩
theorem m_stepOf {d : Nat} {I : Nat → Nat → Int32} {J : Nat → Nat → Int64} {w : Nat} (hw : w < 2147483648) (hd : 2 ≤ d) : RV d 207 [.int (nI w)] I J (zI (sto w)) := by
  refine RV.in (d0 := 1) hd mt_207 (Nat.le_of_ble_eq_true rfl) (fun d' hd' => ?_)
  have o0 := ofbCall
  have o1 := ofbLead
  have o2 := ofbPut
  have o3 := ofbNote
  have o4 := ofbMinu
  have o5 := ofbAgai
  show EV none M_X11_stepOf d' 0 [(0, .int (nI w))] [] (hp I J) _
  refine EV.l (lv' := [(0, _)]) r_X11_stepOf_0 rfl ?_
  refine EV.lcT r_X11_stepOf_1 rfl ?_
  refine EV.cv r_X11_stepOf_4 (aS1 mt_179) (m_of tx_31 (by decide) lCall (by decide) (by omega)) ?_
  refine EV.n2_ne r_X11_stepOf_7 (fun h7 => ?_) (fun h7 => ?_)
  · -- 7 t
    refine EV.l (lv' := [(0, _)]) r_X11_stepOf_14 rfl ?_
    refine EV.lcT r_X11_stepOf_15 rfl ?_
    refine EV.cv r_X11_stepOf_18 (aS1 mt_179) (m_of tx_32 (by decide) lLead (by decide) (by omega)) ?_
    refine EV.n2_ne r_X11_stepOf_21 (fun h21 => ?_) (fun h21 => ?_)
    · -- 21 t
      refine EV.l (lv' := [(0, _)]) r_X11_stepOf_28 rfl ?_
      refine EV.lcT r_X11_stepOf_29 rfl ?_
      refine EV.cv r_X11_stepOf_32 (aS1 mt_179) (m_of tx_33 (by decide) lPut (by decide) (by omega)) ?_
      refine EV.n2_ne r_X11_stepOf_35 (fun h35 => ?_) (fun h35 => ?_)
      · -- 35 t
        refine EV.l (lv' := [(0, _)]) r_X11_stepOf_42 rfl ?_
        refine EV.lcT r_X11_stepOf_43 rfl ?_
        refine EV.cv r_X11_stepOf_46 (aS1 mt_179) (m_of tx_34 (by decide) lNote (by decide) (by omega)) ?_
        refine EV.n2_ne r_X11_stepOf_49 (fun h49 => ?_) (fun h49 => ?_)
        · -- 49 t
          refine EV.l (lv' := [(0, _)]) r_X11_stepOf_56 rfl ?_
          refine EV.lcT r_X11_stepOf_57 rfl ?_
          refine EV.cv r_X11_stepOf_60 (aS1 mt_179) (m_of tx_35 (by decide) lMinu (by decide) (by omega)) ?_
          refine EV.n2_ne r_X11_stepOf_63 (fun h63 => ?_) (fun h63 => ?_)
          · -- 63 t
            refine EV.l (lv' := [(0, _)]) r_X11_stepOf_70 rfl ?_
            refine EV.lcT r_X11_stepOf_71 rfl ?_
            refine EV.cv r_X11_stepOf_74 (aS1 mt_179) (m_of tx_36 (by decide) lAgai (by decide) (by omega)) ?_
            refine EV.n2_ne r_X11_stepOf_77 (fun h77 => ?_) (fun h77 => ?_)
            · -- 77 t
              refine EV.o r_X11_stepOf_84 (icZ (-1)) ?_
              exact EV.rv r_X11_stepOf_85 (by unfold sto; (repeat' split) <;> first | rfl | contradiction | (exfalso; simp_all))
            · -- 77 f
              refine EV.o r_X11_stepOf_80 (icN (5) (v := 5)) ?_
              refine EV.g r_X11_stepOf_81 ?_
              exact EV.rv r_X11_stepOf_85 (by unfold sto; (repeat' split) <;> first | rfl | contradiction | (exfalso; simp_all))
          · -- 63 f
            refine EV.o r_X11_stepOf_66 (icN (4) (v := 4)) ?_
            refine EV.g r_X11_stepOf_67 ?_
            exact EV.rv r_X11_stepOf_85 (by unfold sto; (repeat' split) <;> first | rfl | contradiction | (exfalso; simp_all))
        · -- 49 f
          refine EV.o r_X11_stepOf_52 (icN (3) (v := 3)) ?_
          refine EV.g r_X11_stepOf_53 ?_
          exact EV.rv r_X11_stepOf_85 (by unfold sto; (repeat' split) <;> first | rfl | contradiction | (exfalso; simp_all))
      · -- 35 f
        refine EV.o r_X11_stepOf_38 (icN (2) (v := 2)) ?_
        refine EV.g r_X11_stepOf_39 ?_
        exact EV.rv r_X11_stepOf_85 (by unfold sto; (repeat' split) <;> first | rfl | contradiction | (exfalso; simp_all))
    · -- 21 f
      refine EV.o r_X11_stepOf_24 (icN (1) (v := 1)) ?_
      refine EV.g r_X11_stepOf_25 ?_
      exact EV.rv r_X11_stepOf_85 (by unfold sto; (repeat' split) <;> first | rfl | contradiction | (exfalso; simp_all))
  · -- 7 f
    refine EV.o r_X11_stepOf_10 (icN (0) (v := 0)) ?_
    refine EV.g r_X11_stepOf_11 ?_
    exact EV.rv r_X11_stepOf_85 (by unfold sto; (repeat' split) <;> first | rfl | contradiction | (exfalso; simp_all))
theorem m_stepN {d : Nat} {I : Nat → Nat → Int32} {J : Nat → Nat → Int64} {w k : Nat} (e : sto w = (k : Int)) (hw : w < 2147483648) (hd : 2 ≤ d) : RV d 207 [.int (nI w)] I J (nI k) := by
  have h := m_stepOf (I := I) (J := J) hw hd
  rw [e, zI_nat] at h
  exact h
theorem m_stepZ {d : Nat} {I : Nat → Nat → Int32} {J : Nat → Nat → Int64} {w : Nat} (e : sto w = -1) (hw : w < 2147483648) (hd : 2 ≤ d) : RV d 207 [.int (nI w)] I J (zI (-1)) := by
  have h := m_stepOf (I := I) (J := J) hw hd
  rw [e] at h
  exact h
theorem m_tell1 {d : Nat} {I : Nat → Nat → Int32} {J : Nat → Nat → Int64} {g : Nat → Nat} {n s : Nat} {P : PL} (hn : n ≤ 150) (mg : MG g n s I) (pm : PM P I) (hm : 4 * P.m + 3 < 200) {k a b c bb : Nat} (hb_ : bb = if k = 5 then 4 * b else b)  (hd : 2 ≤ d) : RU d 206 [.ref 106, .int (nI k), .int (nI a), .int (nI bb), .int (nI c)] I J (fun I' => PM (addS P k a b c) I' ∧ (∀ j, j ≠ 36 → I' 106 j = I 106 j) ∧ ∀ o, o ≠ 106 → o ≠ 123 → I' o = I o) := by
  refine RU.in (d0 := 1) hd mt_206 (Nat.le_of_ble_eq_true rfl) (fun d' hd' => ?_)
  show EV none M_X11_tellsStep d' 0 [(0, .ref 106), (1, .int (nI k)), (2, .int (nI a)), (3, .int (nI bb)), (4, .int (nI c))] [] (hp I J) _
  refine EV.l (lv' := [(0, _), (1, _), (2, _), (3, _), (4, _)]) r_X11_tellsStep_0 rfl ?_
  refine EV.cv r_X11_tellsStep_1 (aV0 mt_173 la_106) (m_fineG mg (by omega)) ?_
  refine EV.n0_ne r_X11_tellsStep_4 (fun h4 => ?_) (fun h4 => ?_)
  · -- 4 t
    refine EV.l (lv' := [(0, _), (1, _), (2, _), (3, _), (4, _)]) r_X11_tellsStep_8 rfl ?_
    refine EV.gR r_X11_tellsStep_9 la_106 ?_
    refine EV.l (lv' := [(0, _), (1, _), (2, _), (3, _), (4, _)]) r_X11_tellsStep_12 rfl ?_
    refine EV.getV r_X11_tellsStep_13 la_106 (pm.1) ?_
    refine EV.l (lv' := [(0, _), (1, _), (2, _), (3, _), (4, _)]) r_X11_tellsStep_16 rfl ?_
    refine EV.iaSn r_X11_tellsStep_17 la_123 (fun I2 e2 => ?_)
    refine EV.l (lv' := [(0, _), (1, _), (2, _), (3, _), (4, _)]) r_X11_tellsStep_18 rfl ?_
    refine EV.gR r_X11_tellsStep_19 la_106 ?_
    refine EV.l (lv' := [(0, _), (1, _), (2, _), (3, _), (4, _)]) r_X11_tellsStep_22 rfl ?_
    refine EV.getV r_X11_tellsStep_23 la_106 ((show I2 106 36 = nI (4 * P.m) from by rw [e2, wr_row (by decide)]; exact pm.1)) ?_
    refine EV.o r_X11_tellsStep_26 (icN (1) (v := 1)) ?_
    refine EV.o r_X11_tellsStep_27 iaddN ?_
    refine EV.l (lv' := [(0, _), (1, _), (2, _), (3, _), (4, _)]) r_X11_tellsStep_28 rfl ?_
    refine EV.iaSn r_X11_tellsStep_29 la_123 (fun I3 e3 => ?_)
    refine EV.l (lv' := [(0, _), (1, _), (2, _), (3, _), (4, _)]) r_X11_tellsStep_30 rfl ?_
    refine EV.gR r_X11_tellsStep_31 la_106 ?_
    refine EV.l (lv' := [(0, _), (1, _), (2, _), (3, _), (4, _)]) r_X11_tellsStep_34 rfl ?_
    refine EV.getV r_X11_tellsStep_35 la_106 ((show I3 106 36 = nI (4 * P.m) from by rw [e3, wr_row (by decide), e2, wr_row (by decide)]; exact pm.1)) ?_
    refine EV.o r_X11_tellsStep_38 (icN (2) (v := 2)) ?_
    refine EV.o r_X11_tellsStep_39 iaddN ?_
    refine EV.l (lv' := [(0, _), (1, _), (2, _), (3, _), (4, _)]) r_X11_tellsStep_40 rfl ?_
    refine EV.iaSn r_X11_tellsStep_41 la_123 (fun I4 e4 => ?_)
    refine EV.l (lv' := [(0, _), (1, _), (2, _), (3, _), (4, _)]) r_X11_tellsStep_42 rfl ?_
    refine EV.gR r_X11_tellsStep_43 la_106 ?_
    refine EV.l (lv' := [(0, _), (1, _), (2, _), (3, _), (4, _)]) r_X11_tellsStep_46 rfl ?_
    refine EV.getV r_X11_tellsStep_47 la_106 ((show I4 106 36 = nI (4 * P.m) from by rw [e4, wr_row (by decide), e3, wr_row (by decide), e2, wr_row (by decide)]; exact pm.1)) ?_
    refine EV.o r_X11_tellsStep_50 (icN (3) (v := 3)) ?_
    refine EV.o r_X11_tellsStep_51 iaddN ?_
    refine EV.l (lv' := [(0, _), (1, _), (2, _), (3, _), (4, _)]) r_X11_tellsStep_52 rfl ?_
    refine EV.iaSn r_X11_tellsStep_54 la_123 (fun I5 e5 => ?_)
    refine EV.l (lv' := [(0, _), (1, _), (2, _), (3, _), (4, _)]) r_X11_tellsStep_55 rfl ?_
    refine EV.o r_X11_tellsStep_56 rfl ?_
    refine EV.getV r_X11_tellsStep_57 la_106 ((show I5 106 36 = nI (4 * P.m) from by rw [e5, wr_row (by decide), e4, wr_row (by decide), e3, wr_row (by decide), e2, wr_row (by decide)]; exact pm.1)) ?_
    refine EV.o r_X11_tellsStep_60 (icN (4) (v := 4)) ?_
    refine EV.o r_X11_tellsStep_61 iaddN ?_
    refine EV.pIn r_X11_tellsStep_62 la_106 (fun I6 e6 => ?_)
    exact EV.ru r_X11_tellsStep_65 (⟨pm.add hb_ (by rw [e6]; exact wr_same) (by rw [e6, wr_row (by decide), e5, e4, e3, e2]), fun j hj => by rw [e6, wr_ne (Or.inr hj), e5, wr_row (by decide), e4, wr_row (by decide), e3, wr_row (by decide), e2, wr_row (by decide)], fun o p1 p2 => by rw [e6, wr_row p1, e5, wr_row p2, e4, wr_row p2, e3, wr_row p2, e2, wr_row p2]⟩)
  · omega
theorem m_tell0 {d : Nat} {I : Nat → Nat → Int32} {J : Nat → Nat → Int64} {n k f : Nat} (hn : n ≤ 150) (mb : MB n k f I) {v1 v2 v3 v4 : Int32}  (hd : 2 ≤ d) : RU d 206 [.ref 106, .int v1, .int v2, .int v3, .int v4] I J (fun I' => I' = I) := by
  refine RU.in (d0 := 1) hd mt_206 (Nat.le_of_ble_eq_true rfl) (fun d' hd' => ?_)
  show EV none M_X11_tellsStep d' 0 [(0, .ref 106), (1, .int v1), (2, .int v2), (3, .int v3), (4, .int v4)] [] (hp I J) _
  refine EV.l (lv' := [(0, _), (1, _), (2, _), (3, _), (4, _)]) r_X11_tellsStep_0 rfl ?_
  refine EV.cv r_X11_tellsStep_1 (aV0 mt_173 la_106) (m_fineB mb (by omega) (by omega)) ?_
  refine EV.n0_ne r_X11_tellsStep_4 (fun h4 => ?_) (fun h4 => ?_)
  · omega
  · -- 4 f
    exact EV.ru r_X11_tellsStep_7 (rfl)
theorem m_opn1 {d : Nat} {I : Nat → Nat → Int32} {J : Nat → Nat → Int64} {g : Nat → Nat} {n s b k : Nat} (hn : n ≤ 150) (mg : MG g n s I) (e7 : I 106 7 = nI k) (a4 : I 106 4 = nI s) (hk : k < 6) (hb_ : s + b ≤ n) (hb2 : b < 100) (es : scp isB g n (s + b) = nxp g n s)  (hd : 3 ≤ d) : RU d 196 [.ref 106, .int (nI b)] I J (fun I' => MG g n (nxp g n s) I' ∧ I' 106 7 = nI (k + 1) ∧ (∀ j, j ≠ 4 → j ≠ 7 → I' 106 j = I 106 j) ∧ ∀ o, o ≠ 106 → I' o = I o) := by
  refine RU.in (d0 := 2) hd mt_196 (Nat.le_of_ble_eq_true rfl) (fun d' hd' => ?_)
  show EV none M_X11_opensOne d' 0 [(0, .ref 106), (1, .int (nI b))] [] (hp I J) _
  refine EV.l (lv' := [(0, _), (1, _)]) r_X11_opensOne_0 rfl ?_
  refine EV.cv r_X11_opensOne_1 (aV0 mt_173 la_106) (m_fineG mg (by omega)) ?_
  refine EV.n0_eq r_X11_opensOne_4 (fun h4 => ?_) (fun h4 => ?_)
  · omega
  · -- 4 f
    refine EV.l (lv' := [(0, _), (1, _)]) r_X11_opensOne_7 rfl ?_
    refine EV.getV r_X11_opensOne_8 la_106 (e7) ?_
    refine EV.o r_X11_opensOne_11 (bpN (6) 6) ?_
    refine EV.n2_ne r_X11_opensOne_13 (fun h13 => ?_) (fun h13 => ?_)
    · -- 13 t
      refine EV.l (lv' := [(0, _), (1, _)]) r_X11_opensOne_25 rfl ?_
      refine EV.cv r_X11_opensOne_26 (aV0 mt_173 la_106) (m_fineG mg (by omega)) ?_
      refine EV.n0_eq r_X11_opensOne_29 (fun h29 => ?_) (fun h29 => ?_)
      · omega
      · -- 29 f
        refine EV.l (lv' := [(0, _), (1, _)]) r_X11_opensOne_32 rfl ?_
        refine EV.o r_X11_opensOne_33 rfl ?_
        refine EV.getV r_X11_opensOne_34 la_106 (a4) ?_
        refine EV.l (lv' := [(0, _), (1, _)]) r_X11_opensOne_37 rfl ?_
        refine EV.o r_X11_opensOne_38 iaddN ?_
        refine EV.pIn r_X11_opensOne_39 la_106 (fun I2 e2 => ?_)
        have mg2 := mg.mv (I' := I2) (s2 := nxp g n s) (by rw [e2]; exact MP.rf.wr) hb_ (by rw [e2]; exact wr_same) es
        refine EV.l (lv' := [(0, _), (1, _)]) r_X11_opensOne_42 rfl ?_
        refine EV.o r_X11_opensOne_43 rfl ?_
        refine EV.getV r_X11_opensOne_44 la_106 ((show I2 106 7 = nI k from by rw [e2, wr_ne (Or.inr (by decide))]; exact e7)) ?_
        refine EV.o r_X11_opensOne_47 (icN (1) (v := 1)) ?_
        refine EV.o r_X11_opensOne_48 iaddN ?_
        refine EV.pIn r_X11_opensOne_49 la_106 (fun I3 e3 => ?_)
        exact EV.ru r_X11_opensOne_52 (⟨by rw [e3]; exact MD.w (r := .inl (nxp g n s)) mg2 (by decide), by rw [e3]; exact wr_same, fun j p4 p7 => by rw [e3, wr_ne (Or.inr p7), e2, wr_ne (Or.inr p4)], fun o p => by rw [e3, wr_row p, e2, wr_row p]⟩)
    · omega
theorem m_opn0 {d : Nat} {I : Nat → Nat → Int32} {J : Nat → Nat → Int64} {g : Nat → Nat} {n s : Nat} (hn : n ≤ 150) (mg : MG g n s I) (e7 : I 106 7 = nI 6) (a4 : I 106 4 = nI s) {b : Int32}  (hd : 3 ≤ d) : RU d 196 [.ref 106, .int b] I J (fun I' => MB n 3 s I' ∧ I' 106 7 = nI 7 ∧ VG I I') := by
  refine RU.in (d0 := 2) hd mt_196 (Nat.le_of_ble_eq_true rfl) (fun d' hd' => ?_)
  show EV none M_X11_opensOne d' 0 [(0, .ref 106), (1, .int b)] [] (hp I J) _
  refine EV.l (lv' := [(0, _), (1, _)]) r_X11_opensOne_0 rfl ?_
  refine EV.cv r_X11_opensOne_1 (aV0 mt_173 la_106) (m_fineG mg (by omega)) ?_
  refine EV.n0_eq r_X11_opensOne_4 (fun h4 => ?_) (fun h4 => ?_)
  · omega
  · -- 4 f
    refine EV.l (lv' := [(0, _), (1, _)]) r_X11_opensOne_7 rfl ?_
    refine EV.getV r_X11_opensOne_8 la_106 (e7) ?_
    refine EV.o r_X11_opensOne_11 (bpN (6) 6) ?_
    refine EV.n2_ne r_X11_opensOne_13 (fun h13 => ?_) (fun h13 => ?_)
    · omega
    · -- 13 f
      refine EV.l (lv' := [(0, _), (1, _)]) r_X11_opensOne_16 rfl ?_
      refine EV.o r_X11_opensOne_17 (icN (3) (v := 3)) ?_
      refine EV.l (lv' := [(0, _), (1, _)]) r_X11_opensOne_18 rfl ?_
      refine EV.getV r_X11_opensOne_19 la_106 (a4) ?_
      refine EV.cu r_X11_opensOne_22 (aV2 mt_174 la_106) (m_wrongG mg (by decide) (by decide) mg.sn (by omega)) (fun I2 h2 => ?_)
      obtain ⟨mb2, mo2⟩ := h2
      refine EV.l (lv' := [(0, _), (1, _)]) r_X11_opensOne_25 rfl ?_
      refine EV.cv r_X11_opensOne_26 (aV0 mt_173 la_106) (m_fineB mb2 (by omega) (by omega)) ?_
      refine EV.n0_eq r_X11_opensOne_29 (fun h29 => ?_) (fun h29 => ?_)
      · -- 29 t
        refine EV.l (lv' := [(0, _), (1, _)]) r_X11_opensOne_42 rfl ?_
        refine EV.o r_X11_opensOne_43 rfl ?_
        refine EV.getV r_X11_opensOne_44 la_106 (((mo2.2 7 (by decide) (by decide) (by decide)).trans e7)) ?_
        refine EV.o r_X11_opensOne_47 (icN (1) (v := 1)) ?_
        refine EV.o r_X11_opensOne_48 (iaddL (z := 7) rfl) ?_
        refine EV.pIn r_X11_opensOne_49 la_106 (fun I3 e3 => ?_)
        exact EV.ru r_X11_opensOne_52 (⟨by rw [e3]; exact MD.w (g := g) (r := .inr (3, s)) mb2 (by decide), by rw [e3]; exact wr_same, fun j p4 p5 p6 p7 p36 => by rw [e3, wr_ne (Or.inr p7)]; exact mo2.2 j p4 p5 p6, fun o p1 p2 => by rw [e3, wr_row p1]; exact mo2.1 o p1⟩)
      · omega
theorem m_agn0 {d : Nat} {I : Nat → Nat → Int32} {J : Nat → Nat → Int64} {g : Nat → Nat} {n s k : Nat} {κ : CT} {P : PL} (gb : ∀ j, g j < 256) (hn : n ≤ 150) (cb : CB κ) (ls : LSv g n κ k (P, .inl s) I) (a4 : I 106 4 = nI s) (hw : isW g n s tAgai = true) (hk : k = 6)  (hd : 5 ≤ d) : RU d 208 [.ref 106] I J (fun I' => LSv g n κ k (P, .inr (3, s)) I' ∧ VG I I') := by
  refine RU.in (d0 := 4) hd mt_208 (Nat.le_of_ble_eq_true rfl) (fun d' hd' => ?_)
  have kw := of_decide_eq_true hw
  have kw2 := kd2_pe kw.1
  have kw3 := kw.2.1
  have w5 : tAgai.length = 5 := rfl
  have wx := isW_nx hw (by decide)
  have pe5 := pep_le (g := g) (n := n) (s := s) (by omega)
  have es : scp isB g n (s + 5) = nxp g n s := by unfold nxp; rw [kw3, w5]
  have em := ls.pm.1
  have m4 := ls.m4
  subst hk
  show EV none M_X11_readAgain d' 0 [(0, .ref 106)] [] (hp I J) _
  refine EV.l (lv' := [(0, _)]) r_X11_readAgain_0 rfl ?_
  refine EV.o r_X11_readAgain_1 (icN (5) (v := 5)) ?_
  refine EV.cu r_X11_readAgain_2 (aV1 mt_196 la_106) (m_opn0 hn ls.mg ls.2.2.1 a4 (by omega)) (fun I2 h2 => ?_)
  obtain ⟨mb2, e72, vg2⟩ := h2
  refine EV.l (lv' := [(0, _)]) r_X11_readAgain_5 rfl ?_
  refine EV.o r_X11_readAgain_6 (icN (0) (v := 0)) ?_
  refine EV.o r_X11_readAgain_7 (bpN (40) 40) ?_
  refine EV.cv r_X11_readAgain_9 (aV2 mt_181 la_106) (m_numB mb2 (by omega) (by omega)) ?_
  refine EV.l (lv' := [(0, _), (1, _)]) r_X11_readAgain_12 rfl ?_
  refine EV.l (lv' := [(0, _), (1, _)]) r_X11_readAgain_13 rfl ?_
  refine EV.o r_X11_readAgain_14 (bpN (91) 91) ?_
  refine EV.cu r_X11_readAgain_16 (aV1 mt_182 la_106) (m_signB mb2 (by omega) (by omega)) (fun IQ eQ => ?_)
  have eQ := eQ.symm
  subst eQ
  refine EV.l (lv' := [(0, _), (1, _)]) r_X11_readAgain_19 rfl ?_
  refine EV.gI r_X11_readAgain_20 la_106 ?_
  refine EV.l (lv' := [(0, _), (1, _), (2, _)]) r_X11_readAgain_23 rfl ?_
  refine EV.l (lv' := [(0, _), (1, _), (2, _)]) r_X11_readAgain_24 rfl ?_
  refine EV.o r_X11_readAgain_25 (icN (5) (v := 5)) ?_
  refine EV.l (lv' := [(0, _), (1, _), (2, _)]) r_X11_readAgain_26 rfl ?_
  refine EV.o r_X11_readAgain_27 (icN (0) (v := 0)) ?_
  refine EV.o r_X11_readAgain_28 (icN (0) (v := 0)) ?_
  refine EV.cu r_X11_readAgain_29 (aV4 mt_206 la_106) (m_tell0 hn mb2 (by omega)) (fun IR eR => ?_)
  have eR := eR.symm
  subst eR
  refine EV.l (lv' := [(0, _), (1, _), (2, _)]) r_X11_readAgain_32 rfl ?_
  refine EV.cv r_X11_readAgain_33 (aV0 mt_173 la_106) (m_fineB mb2 (by omega) (by omega)) ?_
  refine EV.n0_eq r_X11_readAgain_36 (fun h36 => ?_) (fun h36 => ?_)
  · -- 36 t
    refine EV.l (lv' := [(0, _), (1, _), (2, _)]) r_X11_readAgain_55 rfl ?_
    refine EV.o r_X11_readAgain_56 (bpN (93) 93) ?_
    refine EV.cu r_X11_readAgain_58 (aV1 mt_182 la_106) (m_signB mb2 (by omega) (by omega)) (fun IQ eQ => ?_)
    have eQ := eQ.symm
    subst eQ
    refine EV.l (lv' := [(0, _), (1, _), (2, _)]) r_X11_readAgain_61 rfl ?_
    refine EV.o r_X11_readAgain_62 rfl ?_
    refine EV.getV r_X11_readAgain_63 la_106 (e72) ?_
    refine EV.o r_X11_readAgain_66 (icN (1) (v := 1)) ?_
    refine EV.o r_X11_readAgain_67 (isubL (z := 6) rfl) ?_
    refine EV.pIn r_X11_readAgain_68 la_106 (fun I3 e3 => ?_)
    have mb3 : MB n 3 s I3 := by rw [e3]; exact MD.w (g := g) (r := .inr (3, s)) mb2 (by decide)
    refine EV.l (lv' := [(0, _), (1, _), (2, _)]) r_X11_readAgain_71 rfl ?_
    refine EV.cv r_X11_readAgain_72 (aV0 mt_173 la_106) (m_fineB mb3 (by omega) (by omega)) ?_
    refine EV.n0_eq r_X11_readAgain_75 (fun h75 => ?_) (fun h75 => ?_)
    · -- 75 t
      exact EV.ru r_X11_readAgain_90 (⟨ls.mk (vg2.tr (by rw [e3]; exact ⟨fun j _ _ _ p7 _ => wr_ne (Or.inr p7), fun o p1 _ => wr_row p1⟩)) (r := .inr (3, s)) mb3 (by rw [e3]; exact wr_same) (fun s2 e => inr_ne e), vg2.tr (by rw [e3]; exact ⟨fun j _ _ _ p7 _ => wr_ne (Or.inr p7), fun o p1 _ => wr_row p1⟩)⟩)
    · omega
  · omega
theorem m_agn1a {d : Nat} {I : Nat → Nat → Int32} {J : Nat → Nat → Int64} {g : Nat → Nat} {n s k : Nat} {κ : CT} {P : PL} (gb : ∀ j, g j < 256) (hn : n ≤ 150) (cb : CB κ) (ls : LSv g n κ k (P, .inl s) I) (a4 : I 106 4 = nI s) (hw : isW g n s tAgai = true) (hk : k < 6) {f : PL → Nat → WX} {D o : Nat} (hD : 6 ≤ D) (pf : PGw n κ o (sgs g n f)) (f6 : ∀ P s, n ≤ s → f P s = (P, .inr (1, s))) (ih : CMs D (k + 1) g n κ f) {s4 : Nat} (e4 : tkS g n 91 (agT g n s).2 = .inl s4)  (hd : D + 1 ≤ d) : RU d 208 [.ref 106] I J (fun I' => LSv g n κ k (stAgn g n (stps n (enB g n) (sgs g n f) 150) P s) I' ∧ VG I I') := by
  refine RU.in (d0 := D) hd mt_208 (Nat.le_of_ble_eq_true rfl) (fun d' hd' => ?_)
  have kw := of_decide_eq_true hw
  have kw2 := kd2_pe kw.1
  have kw3 := kw.2.1
  have w5 : tAgai.length = 5 := rfl
  have wx := isW_nx hw (by decide)
  have pe5 := pep_le (g := g) (n := n) (s := s) (by omega)
  have es : scp isB g n (s + 5) = nxp g n s := by unfold nxp; rw [kw3, w5]
  have em := ls.pm.1
  have m4 := ls.m4
  show EV none M_X11_readAgain d' 0 [(0, .ref 106)] [] (hp I J) _
  refine EV.l (lv' := [(0, _)]) r_X11_readAgain_0 rfl ?_
  refine EV.o r_X11_readAgain_1 (icN (5) (v := 5)) ?_
  refine EV.cu r_X11_readAgain_2 (aV1 mt_196 la_106) (m_opn1 hn ls.mg ls.2.2.1 a4 hk (by omega) (by omega) es (by omega)) (fun I2 h2 => ?_)
  obtain ⟨mg2, e72, j2, o2⟩ := h2
  refine EV.l (lv' := [(0, _)]) r_X11_readAgain_5 rfl ?_
  refine EV.o r_X11_readAgain_6 (icN (0) (v := 0)) ?_
  refine EV.o r_X11_readAgain_7 (bpN (40) 40) ?_
  refine EV.ci r_X11_readAgain_9 (aV2 mt_181 la_106) (m_numN (lo := 0) (hi := 40) (tp_fm ls.1 (o2 108 (by decide))) gb (by omega) (r := .inl (nxp g n s)) mg2 (by omega) (by omega) (by omega)) (fun v3 I3 h3 => ?_)
  obtain ⟨md3, ve3, mo3⟩ := h3
  refine EV.l (lv' := [(0, _), (1, _)]) r_X11_readAgain_12 rfl ?_
  refine EV.l (lv' := [(0, _), (1, _)]) r_X11_readAgain_13 rfl ?_
  refine EV.o r_X11_readAgain_14 (bpN (91) 91) ?_
  refine EV.cu r_X11_readAgain_16 (aV1 mt_182 la_106) (m_sign (tp_fm ls.1 ((mo3.1 108 (by decide)).trans (o2 108 (by decide)))) gb (by omega) (r := (agT g n s).2) md3 (by decide) (by decide) (by decide) (by decide) (by omega)) (fun I4 h4 => ?_)
  obtain ⟨md4, mo4⟩ := h4
  have vg4 : VG I I4 := ⟨fun j p4 p5 p6 p7 p36 => (mo4.2 j p4 p5 p6).trans ((mo3.2 j p4 p5 p6).trans (j2 j p4 p7)), fun o p1 p2 => (mo4.1 o p1).trans ((mo3.1 o p1).trans (o2 o p1))⟩
  have e74 : I4 106 7 = nI (k + 1) := (mo4.2 7 (by decide) (by decide) (by decide)).trans ((mo3.2 7 (by decide) (by decide) (by decide)).trans e72)
  have e364 : I4 106 36 = nI (4 * P.m) := (mo4.2 36 (by decide) (by decide) (by decide)).trans ((mo3.2 36 (by decide) (by decide) (by decide)).trans ((j2 36 (by decide) (by decide)).trans em))
  have pm4 : PM P I4 := ls.pm.fr (e364.trans em.symm) ((mo4.1 123 (by decide)).trans ((mo3.1 123 (by decide)).trans (o2 123 (by decide))))
  have mg4 : MG g n s4 I4 := by have z := md4; rw [e4] at z; exact z
  have t3 : ∃ s3, (agT g n s).2 = .inl s3 := tkS_ok e4
  obtain ⟨s3, e3⟩ := t3
  have ve : v3 = nI (agT g n s).1 := ve3 s3 e3
  subst ve
  refine EV.l (lv' := [(0, _), (1, _)]) r_X11_readAgain_19 rfl ?_
  refine EV.getV r_X11_readAgain_20 la_106 (e364) ?_
  refine EV.l (lv' := [(0, _), (1, _), (2, _)]) r_X11_readAgain_23 rfl ?_
  refine EV.l (lv' := [(0, _), (1, _), (2, _)]) r_X11_readAgain_24 rfl ?_
  refine EV.o r_X11_readAgain_25 (icN (5) (v := 5)) ?_
  refine EV.l (lv' := [(0, _), (1, _), (2, _)]) r_X11_readAgain_26 rfl ?_
  refine EV.o r_X11_readAgain_27 (icN (0) (v := 0)) ?_
  refine EV.o r_X11_readAgain_28 (icN (0) (v := 0)) ?_
  refine EV.cu r_X11_readAgain_29 (aV4 mt_206 la_106) (m_tell1 (k := 5) (a := (agT g n s).1) (b := 0) (c := 0) hn mg4 pm4 (by omega) rfl (by omega)) (fun I5 h5 => ?_)
  obtain ⟨pm5, j5, o5⟩ := h5
  have vg5 : VG I I5 := vg4.tr ⟨fun j _ _ _ _ p36 => j5 j p36, fun o p1 p2 => o5 o p1 p2⟩
  have ls5 : LSv g n κ (k + 1) (agX g n P s) I5 := ls.mk vg5 (by rw [e4]; have z := mg4; unfold MG at z; show MG g n s4 I5; unfold MG; rw [j5 3 (by decide), j5 2 (by decide), j5 5 (by decide), j5 4 (by decide)]; exact z) ((j5 7 (by decide)).trans e74) (fun s2 z => ⟨pm5, by have z2 : tkS g n 91 (agT g n s).2 = .inl s2 := z; obtain ⟨s6, e7, h7b, -⟩ := tkS_q z2; have p := tkN_q (show (tkN g n 0 ((40 : Nat) : Int) (.inl (nxp g n s))).2 = .inl s6 from e7); show 4 * (P.m + 1) ≤ s2; omega⟩)
  have L32 : ∀ y_ : Nat × WX × (Nat → Nat → Int32), (fun y => VWI g n κ (k + 1) (sgs g n f) (stps n (enB g n) (sgs g n f) 150 (agX g n P s)) I5 y.1 y.2.1 y.2.2 → EV none M_X11_readAgain d' 32 [(0, .ref 106), (1, .int (nI (agT g n s).1)), (2, .int (nI (4 * P.m)))] [] (hp y.2.2 J) (QU J (fun I' => LSv g n κ k (stAgn g n (stps n (enB g n) (sgs g n f) 150) P s) I' ∧ VG I I'))) y_ := by
    refine ev_loop (fun y => 152 - y.1) ?_
    intro ⟨i, x, M⟩ ih32 hx32
    try dsimp only at ih32
    try dsimp only at hx32
    try dsimp only
    refine EV.l (lv' := [(0, _), (1, _), (2, _)]) r_X11_readAgain_32 rfl ?_
    refine EV.cv r_X11_readAgain_33 (aV0 mt_173 la_106) (m_fine hx32.1.2.1 (by omega) (by omega)) ?_
    refine EV.b0_eq r_X11_readAgain_36 (fun h36 => ?_) (fun h36 => ?_)
    · -- 36 t
      obtain ⟨xz, lz_, vgz, tkz, xzR⟩ := hx32.bad h36
      refine EV.l (lv' := [(0, _), (1, _), (2, _)]) r_X11_readAgain_55 rfl ?_
      refine EV.o r_X11_readAgain_56 (bpN (93) 93) ?_
      refine EV.cu r_X11_readAgain_58 (aV1 mt_182 la_106) (m_sign lz_.1 gb (by omega) lz_.2.1 (by decide) (by decide) (by decide) (by decide) (by omega)) (fun I9 h9 => ?_)
      have lz9 := lz_.sgs h9.1 h9.2
      have e79 : I9 106 7 = nI (k + 1) := lz9.2.2.1
      refine EV.l (lv' := [(0, _), (1, _), (2, _)]) r_X11_readAgain_61 rfl ?_
      refine EV.o r_X11_readAgain_62 rfl ?_
      refine EV.getV r_X11_readAgain_63 la_106 (e79) ?_
      refine EV.o r_X11_readAgain_66 (icN (1) (v := 1)) ?_
      refine EV.o r_X11_readAgain_67 (isubN) ?_
      refine EV.pIn r_X11_readAgain_68 la_106 (fun IA eA => ?_)
      rw [Nat.add_sub_cancel] at eA
      have vgA : VG I9 IA := by rw [eA]; exact ⟨fun j _ _ _ p7 _ => wr_ne (Or.inr p7), fun o p1 _ => wr_row p1⟩
      have md9 : MD g n (tkS g n 93 (stps n (enB g n) (sgs g n f) 150 (agX g n P s)).2) IA := by rw [← tkz, eA]; exact MD.w lz9.2.1 (by decide)
      have vgT := ((vg5.tr vgz).tr h9.2.vg).tr vgA
      have e7A : IA 106 7 = nI k := by rw [eA]; exact wr_same
      refine EV.l (lv' := [(0, _), (1, _), (2, _)]) r_X11_readAgain_71 rfl ?_
      refine EV.cv r_X11_readAgain_72 (aV0 mt_173 la_106) (m_fine md9 (by omega) (by omega)) ?_
      refine EV.b0_eq r_X11_readAgain_75 (fun h75 => ?_) (fun h75 => ?_)
      · -- 75 t
        -- on
        exact EV.ru r_X11_readAgain_90 (⟨ls.mk vgT md9 e7A (fun s2 e => by obtain ⟨kx, fx, ex⟩ := okr_f h75; rw [ex] at e; exact inr_ne e), vgT⟩)
      · -- 75 f
        obtain ⟨s9, e9⟩ := okr_t h75
        obtain ⟨sz, ez⟩ := tkS_ok (tkz.trans e9)
        have hR := xzR sz ez
        have pmz : PM (stps n (enB g n) (sgs g n f) 150 (agX g n P s)).1 IA := by have z := (lz9.2.2.2.2 s9 (tkz.trans e9)).1; rw [hR] at z; exact z.fr (by rw [eA, wr_ne (Or.inr (by decide))]) (by rw [eA, wr_row (by decide)])
        have m4z : 4 * (stps n (enB g n) (sgs g n f) 150 (agX g n P s)).1.m ≤ s9 := by have z := (lz9.2.2.2.2 s9 (tkz.trans e9)).2; rw [hR] at z; exact z
        have hm9 : s9 ≤ n := by have z := md9; rw [e9] at z; exact z.1
        refine EV.l (lv' := [(0, _), (1, _), (2, _)]) r_X11_readAgain_78 rfl ?_
        refine EV.gR r_X11_readAgain_79 la_106 ?_
        refine EV.l (lv' := [(0, _), (1, _), (2, _)]) r_X11_readAgain_82 rfl ?_
        refine EV.o r_X11_readAgain_83 (icN (2) (v := 2)) ?_
        refine EV.o r_X11_readAgain_84 iaddN ?_
        refine EV.l (lv' := [(0, _), (1, _), (2, _)]) r_X11_readAgain_85 rfl ?_
        refine EV.getV r_X11_readAgain_86 la_106 (pmz.1) ?_
        refine EV.iaSn r_X11_readAgain_89 la_123 (fun IB eB => ?_)
        have vgB0 : ∀ o, o ≠ 123 → IB o = IA o := fun o p => by rw [eB, wr_row p]
        have vgB : VG IA IB := ⟨fun j _ _ _ _ _ => congrFun (vgB0 106 (by decide)) j, fun o _ p2 => vgB0 o p2⟩
        have hk5 : (stps n (enB g n) (sgs g n f) 150 (agX g n P s)).1.k P.m = 5 := by
          have xs : (agX g n P s) = (addS P 5 (agT g n s).1 0 0, .inl s4) := by unfold agX; rw [e4]
          have eR : (stps n (enB g n) (sgs g n f) 150 (agX g n P s)).2 = .inl sz := by rw [← hR]; exact ez
          rw [xs] at eR
          have hs4 : s4 ≤ n := by have z := mg4.sn; exact z
          have pp := (stps_pg (e := enB g n) pf 150 _ s4 sz hs4 eR).2.2.2.2.1 P.m (Nat.lt_succ_self P.m)
          rw [xs, pp.1]
          exact put_s
        exact EV.ru r_X11_readAgain_90 (⟨ls.mk (vgT.tr vgB) (r := tkS g n 93 (stps n (enB g n) (sgs g n f) 150 (agX g n P s)).2) (MD.fr md9 (by rw [eB, wr_row (by decide)])) ((congrFun (vgB0 106 (by decide)) 7).trans e7A) (fun s2 e => ⟨pmz.cls hk5 (congrFun (vgB0 106 (by decide)) 36) (by rw [eB]), by rw [e9] at e; cases e; exact m4z⟩), vgT.tr vgB⟩)
    · -- 36 f
      obtain ⟨s1, er⟩ := okr_t h36
      obtain ⟨Q, r⟩ := x
      have er : r = .inl s1 := er
      subst er
      have mg7 := hx32.1.mg
      obtain ⟨a7, a7n, a7e, a7s⟩ := mg7.pl
      have s1n := mg7.sn
      refine EV.l (lv' := [(0, _), (1, _), (2, _)]) r_X11_readAgain_39 rfl ?_
      refine EV.ci r_X11_readAgain_40 (aV0 mt_175 la_106) (m_here hx32.1.1 gb (by omega) mg7.en a7n a7e (by omega)) (fun v I7 h7 => ?_)
      obtain ⟨e, a7, mp7⟩ := h7
      subst e
      rw [a7s] at a7
      rw [a7s]
      have ls7 : LSv g n κ (k + 1) (Q, .inl s1) I7 := hx32.1.mo (r2 := .inl s1) (mg7.mv mp7 mg7.sn a7 (by rw [← a7s]; exact scp_id a7n)) mp7.mo (fun s2 e => ⟨s1, rfl, by cases e; exact Nat.le_refl _⟩)
      have cb7 := cuc_b (g := g) (n := n) (s := s1) gb
      refine EV.o r_X11_readAgain_43 (bpN (93) 93) ?_
      refine EV.n2_eq r_X11_readAgain_45 (fun h45 => ?_) (fun h45 => ?_)
      · -- 45 t
        obtain ⟨xz, lz_, vgz, tkz, xzR⟩ := hx32.end (decide_eq_true ((cuc_k (by decide) (by decide) (by decide)).mp h45)) ls7 mp7.mo.vg
        refine EV.l (lv' := [(0, _), (1, _), (2, _)]) r_X11_readAgain_55 rfl ?_
        refine EV.o r_X11_readAgain_56 (bpN (93) 93) ?_
        refine EV.cu r_X11_readAgain_58 (aV1 mt_182 la_106) (m_sign lz_.1 gb (by omega) lz_.2.1 (by decide) (by decide) (by decide) (by decide) (by omega)) (fun I9 h9 => ?_)
        have lz9 := lz_.sgs h9.1 h9.2
        have e79 : I9 106 7 = nI (k + 1) := lz9.2.2.1
        refine EV.l (lv' := [(0, _), (1, _), (2, _)]) r_X11_readAgain_61 rfl ?_
        refine EV.o r_X11_readAgain_62 rfl ?_
        refine EV.getV r_X11_readAgain_63 la_106 (e79) ?_
        refine EV.o r_X11_readAgain_66 (icN (1) (v := 1)) ?_
        refine EV.o r_X11_readAgain_67 (isubN) ?_
        refine EV.pIn r_X11_readAgain_68 la_106 (fun IA eA => ?_)
        rw [Nat.add_sub_cancel] at eA
        have vgA : VG I9 IA := by rw [eA]; exact ⟨fun j _ _ _ p7 _ => wr_ne (Or.inr p7), fun o p1 _ => wr_row p1⟩
        have md9 : MD g n (tkS g n 93 (stps n (enB g n) (sgs g n f) 150 (agX g n P s)).2) IA := by rw [← tkz, eA]; exact MD.w lz9.2.1 (by decide)
        have vgT := ((vg5.tr vgz).tr h9.2.vg).tr vgA
        have e7A : IA 106 7 = nI k := by rw [eA]; exact wr_same
        refine EV.l (lv' := [(0, _), (1, _), (2, _)]) r_X11_readAgain_71 rfl ?_
        refine EV.cv r_X11_readAgain_72 (aV0 mt_173 la_106) (m_fine md9 (by omega) (by omega)) ?_
        refine EV.b0_eq r_X11_readAgain_75 (fun h75 => ?_) (fun h75 => ?_)
        · -- 75 t
          -- on
          exact EV.ru r_X11_readAgain_90 (⟨ls.mk vgT md9 e7A (fun s2 e => by obtain ⟨kx, fx, ex⟩ := okr_f h75; rw [ex] at e; exact inr_ne e), vgT⟩)
        · -- 75 f
          obtain ⟨s9, e9⟩ := okr_t h75
          obtain ⟨sz, ez⟩ := tkS_ok (tkz.trans e9)
          have hR := xzR sz ez
          have pmz : PM (stps n (enB g n) (sgs g n f) 150 (agX g n P s)).1 IA := by have z := (lz9.2.2.2.2 s9 (tkz.trans e9)).1; rw [hR] at z; exact z.fr (by rw [eA, wr_ne (Or.inr (by decide))]) (by rw [eA, wr_row (by decide)])
          have m4z : 4 * (stps n (enB g n) (sgs g n f) 150 (agX g n P s)).1.m ≤ s9 := by have z := (lz9.2.2.2.2 s9 (tkz.trans e9)).2; rw [hR] at z; exact z
          have hm9 : s9 ≤ n := by have z := md9; rw [e9] at z; exact z.1
          refine EV.l (lv' := [(0, _), (1, _), (2, _)]) r_X11_readAgain_78 rfl ?_
          refine EV.gR r_X11_readAgain_79 la_106 ?_
          refine EV.l (lv' := [(0, _), (1, _), (2, _)]) r_X11_readAgain_82 rfl ?_
          refine EV.o r_X11_readAgain_83 (icN (2) (v := 2)) ?_
          refine EV.o r_X11_readAgain_84 iaddN ?_
          refine EV.l (lv' := [(0, _), (1, _), (2, _)]) r_X11_readAgain_85 rfl ?_
          refine EV.getV r_X11_readAgain_86 la_106 (pmz.1) ?_
          refine EV.iaSn r_X11_readAgain_89 la_123 (fun IB eB => ?_)
          have vgB0 : ∀ o, o ≠ 123 → IB o = IA o := fun o p => by rw [eB, wr_row p]
          have vgB : VG IA IB := ⟨fun j _ _ _ _ _ => congrFun (vgB0 106 (by decide)) j, fun o _ p2 => vgB0 o p2⟩
          have hk5 : (stps n (enB g n) (sgs g n f) 150 (agX g n P s)).1.k P.m = 5 := by
            have xs : (agX g n P s) = (addS P 5 (agT g n s).1 0 0, .inl s4) := by unfold agX; rw [e4]
            have eR : (stps n (enB g n) (sgs g n f) 150 (agX g n P s)).2 = .inl sz := by rw [← hR]; exact ez
            rw [xs] at eR
            have hs4 : s4 ≤ n := by have z := mg4.sn; exact z
            have pp := (stps_pg (e := enB g n) pf 150 _ s4 sz hs4 eR).2.2.2.2.1 P.m (Nat.lt_succ_self P.m)
            rw [xs, pp.1]
            exact put_s
          exact EV.ru r_X11_readAgain_90 (⟨ls.mk (vgT.tr vgB) (r := tkS g n 93 (stps n (enB g n) (sgs g n f) 150 (agX g n P s)).2) (MD.fr md9 (by rw [eB, wr_row (by decide)])) ((congrFun (vgB0 106 (by decide)) 7).trans e7A) (fun s2 e => ⟨pmz.cls hk5 (congrFun (vgB0 106 (by decide)) 36) (by rw [eB]), by rw [e9] at e; cases e; exact m4z⟩), vgT.tr vgB⟩)
      · -- 45 f
        have e93 : enB g n s1 = false := decide_eq_false (fun z => h45 ((cuc_k (by decide) (by decide) (by decide)).mpr z))
        refine EV.l (lv' := [(0, _), (1, _), (2, _)]) r_X11_readAgain_48 rfl ?_
        refine EV.cu r_X11_readAgain_49 (aV0 mt_209 la_106) (ih d' I7 J Q s1 (by omega) ls7) (fun I8 h8 => ?_)
        have hx9 := hx32.next pf hn e93 (f6 Q s1) h8.1 (mp7.mo.vg.tr h8.2)
        have i150 := hx32.ok.2
        refine EV.g r_X11_readAgain_52 ?_
        refine EV.sub ?_ rfl ?_ (ih32 (i + 1, sgs g n f Q s1, I8) ?_ ?_)
        · (try dsimp only) <;> (rfl)
        · (try dsimp only) <;> (rfl)
        · (try dsimp only) <;> (omega)
        · (try dsimp only) <;> (exact hx9)
  have h0 := L32 (0, agX g n P s, I5)
  try dsimp only at h0
  refine EV.sub ?_ rfl ?_ (h0 ?_)
  · (try dsimp only) <;> (rfl)
  · (try dsimp only) <;> (rfl)
  · (try dsimp only) <;> (exact ⟨ls5, VG.rf, Or.inl ⟨rfl, fun _ _ => Nat.zero_le _⟩⟩)
theorem m_agn1b {d : Nat} {I : Nat → Nat → Int32} {J : Nat → Nat → Int64} {g : Nat → Nat} {n s k : Nat} {κ : CT} {P : PL} (gb : ∀ j, g j < 256) (hn : n ≤ 150) (cb : CB κ) (ls : LSv g n κ k (P, .inl s) I) (a4 : I 106 4 = nI s) (hw : isW g n s tAgai = true) (hk : k < 6) {sub : WX → WX} (sb_ : ∀ P q, sub (P, .inr q) = (P, .inr q)) {q4 : Nat × Nat} (e4 : tkS g n 91 (agT g n s).2 = .inr q4)  (hd : 7 ≤ d) : RU d 208 [.ref 106] I J (fun I' => LSv g n κ k (stAgn g n sub P s) I' ∧ VG I I') := by
  refine RU.in (d0 := 6) hd mt_208 (Nat.le_of_ble_eq_true rfl) (fun d' hd' => ?_)
  have kw := of_decide_eq_true hw
  have kw2 := kd2_pe kw.1
  have kw3 := kw.2.1
  have w5 : tAgai.length = 5 := rfl
  have wx := isW_nx hw (by decide)
  have pe5 := pep_le (g := g) (n := n) (s := s) (by omega)
  have es : scp isB g n (s + 5) = nxp g n s := by unfold nxp; rw [kw3, w5]
  have em := ls.pm.1
  have m4 := ls.m4
  show EV none M_X11_readAgain d' 0 [(0, .ref 106)] [] (hp I J) _
  refine EV.l (lv' := [(0, _)]) r_X11_readAgain_0 rfl ?_
  refine EV.o r_X11_readAgain_1 (icN (5) (v := 5)) ?_
  refine EV.cu r_X11_readAgain_2 (aV1 mt_196 la_106) (m_opn1 hn ls.mg ls.2.2.1 a4 hk (by omega) (by omega) es (by omega)) (fun I2 h2 => ?_)
  obtain ⟨mg2, e72, j2, o2⟩ := h2
  refine EV.l (lv' := [(0, _)]) r_X11_readAgain_5 rfl ?_
  refine EV.o r_X11_readAgain_6 (icN (0) (v := 0)) ?_
  refine EV.o r_X11_readAgain_7 (bpN (40) 40) ?_
  refine EV.ci r_X11_readAgain_9 (aV2 mt_181 la_106) (m_numN (lo := 0) (hi := 40) (tp_fm ls.1 (o2 108 (by decide))) gb (by omega) (r := .inl (nxp g n s)) mg2 (by omega) (by omega) (by omega)) (fun v3 I3 h3 => ?_)
  obtain ⟨md3, ve3, mo3⟩ := h3
  refine EV.l (lv' := [(0, _), (1, _)]) r_X11_readAgain_12 rfl ?_
  refine EV.l (lv' := [(0, _), (1, _)]) r_X11_readAgain_13 rfl ?_
  refine EV.o r_X11_readAgain_14 (bpN (91) 91) ?_
  refine EV.cu r_X11_readAgain_16 (aV1 mt_182 la_106) (m_sign (tp_fm ls.1 ((mo3.1 108 (by decide)).trans (o2 108 (by decide)))) gb (by omega) (r := (agT g n s).2) md3 (by decide) (by decide) (by decide) (by decide) (by omega)) (fun I4 h4 => ?_)
  obtain ⟨md4, mo4⟩ := h4
  have vg4 : VG I I4 := ⟨fun j p4 p5 p6 p7 p36 => (mo4.2 j p4 p5 p6).trans ((mo3.2 j p4 p5 p6).trans (j2 j p4 p7)), fun o p1 p2 => (mo4.1 o p1).trans ((mo3.1 o p1).trans (o2 o p1))⟩
  have e74 : I4 106 7 = nI (k + 1) := (mo4.2 7 (by decide) (by decide) (by decide)).trans ((mo3.2 7 (by decide) (by decide) (by decide)).trans e72)
  have e364 : I4 106 36 = nI (4 * P.m) := (mo4.2 36 (by decide) (by decide) (by decide)).trans ((mo3.2 36 (by decide) (by decide) (by decide)).trans ((j2 36 (by decide) (by decide)).trans em))
  have pm4 : PM P I4 := ls.pm.fr (e364.trans em.symm) ((mo4.1 123 (by decide)).trans ((mo3.1 123 (by decide)).trans (o2 123 (by decide))))
  have mb4 : MB n q4.1 q4.2 I4 := by have z := md4; rw [e4] at z; exact z
  refine EV.l (lv' := [(0, _), (1, _)]) r_X11_readAgain_19 rfl ?_
  refine EV.getV r_X11_readAgain_20 la_106 (e364) ?_
  refine EV.l (lv' := [(0, _), (1, _), (2, _)]) r_X11_readAgain_23 rfl ?_
  refine EV.l (lv' := [(0, _), (1, _), (2, _)]) r_X11_readAgain_24 rfl ?_
  refine EV.o r_X11_readAgain_25 (icN (5) (v := 5)) ?_
  refine EV.l (lv' := [(0, _), (1, _), (2, _)]) r_X11_readAgain_26 rfl ?_
  refine EV.o r_X11_readAgain_27 (icN (0) (v := 0)) ?_
  refine EV.o r_X11_readAgain_28 (icN (0) (v := 0)) ?_
  refine EV.cu r_X11_readAgain_29 (aV4 mt_206 la_106) (m_tell0 hn mb4 (by omega)) (fun IR eR => ?_)
  have eR := eR.symm
  subst eR
  refine EV.l (lv' := [(0, _), (1, _), (2, _)]) r_X11_readAgain_32 rfl ?_
  refine EV.cv r_X11_readAgain_33 (aV0 mt_173 la_106) (m_fineB mb4 (by omega) (by omega)) ?_
  refine EV.n0_eq r_X11_readAgain_36 (fun h36 => ?_) (fun h36 => ?_)
  · -- 36 t
    refine EV.l (lv' := [(0, _), (1, _), (2, _)]) r_X11_readAgain_55 rfl ?_
    refine EV.o r_X11_readAgain_56 (bpN (93) 93) ?_
    refine EV.cu r_X11_readAgain_58 (aV1 mt_182 la_106) (m_signB mb4 (by omega) (by omega)) (fun IQ eQ => ?_)
    have eQ := eQ.symm
    subst eQ
    refine EV.l (lv' := [(0, _), (1, _), (2, _)]) r_X11_readAgain_61 rfl ?_
    refine EV.o r_X11_readAgain_62 rfl ?_
    refine EV.getV r_X11_readAgain_63 la_106 (e74) ?_
    refine EV.o r_X11_readAgain_66 (icN (1) (v := 1)) ?_
    refine EV.o r_X11_readAgain_67 (isubN) ?_
    refine EV.pIn r_X11_readAgain_68 la_106 (fun IA eA => ?_)
    rw [Nat.add_sub_cancel] at eA
    have mbA : MB n q4.1 q4.2 IA := by rw [eA]; exact MD.w (g := g) (r := .inr q4) mb4 (by decide)
    have vgA : VG I IA := vg4.tr (by rw [eA]; exact ⟨fun j _ _ _ p7 _ => wr_ne (Or.inr p7), fun o p1 _ => wr_row p1⟩)
    have ea : agX g n P s = (addS P 5 (agT g n s).1 0 0, .inr q4) := by unfold agX; rw [e4]
    refine EV.l (lv' := [(0, _), (1, _), (2, _)]) r_X11_readAgain_71 rfl ?_
    refine EV.cv r_X11_readAgain_72 (aV0 mt_173 la_106) (m_fineB mbA (by omega) (by omega)) ?_
    refine EV.n0_eq r_X11_readAgain_75 (fun h75 => ?_) (fun h75 => ?_)
    · -- 75 t
      exact EV.ru r_X11_readAgain_90 (by unfold stAgn; rw [ea, sb_]; exact ⟨ls.mk vgA (r := .inr q4) mbA (by rw [eA]; exact wr_same) (fun s2 e => inr_ne e), vgA⟩)
    · omega
  · omega
theorem m_agn1 {d : Nat} {I : Nat → Nat → Int32} {J : Nat → Nat → Int64} {g : Nat → Nat} {n s k : Nat} {κ : CT} {P : PL} (gb : ∀ j, g j < 256) (hn : n ≤ 150) (cb : CB κ) (ls : LSv g n κ k (P, .inl s) I) (a4 : I 106 4 = nI s) (hw : isW g n s tAgai = true) (hk : k < 6) {f : PL → Nat → WX} {D o : Nat} (hD : 6 ≤ D) (pf : PGw n κ o (sgs g n f)) (f6 : ∀ P s, n ≤ s → f P s = (P, .inr (1, s))) (ih : CMs D (k + 1) g n κ f) (hd : D + 1 ≤ d) : RU d 208 [.ref 106] I J (fun I' => LSv g n κ k (stAgn g n (stps n (enB g n) (sgs g n f) 150) P s) I' ∧ VG I I') := by
  rcases rst_x (tkS g n 91 (agT g n s).2) with ⟨s4, e4⟩ | ⟨q4, e4⟩
  · exact m_agn1a gb hn cb ls a4 hw hk hD pf f6 ih e4 hd
  · exact m_agn1b gb hn cb ls a4 hw hk (fun P q => stps_bad) e4 (by omega)
