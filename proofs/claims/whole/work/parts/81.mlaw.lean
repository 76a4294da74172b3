/-! A LAW is read: the model. -/
theorem tx_24 : TXS[24]? = some tLeast := by decide
theorem tx_25 : TXS[25]? = some tMost := by decide
theorem tx_26 : TXS[26]? = some tSteps := by decide
theorem tx_27 : TXS[27]? = some tBegin := by decide
theorem tx_28 : TXS[28]? = some tCrumbs := by decide
theorem tx_29 : TXS[29]? = some tLed := by decide
theorem tx_30 : TXS[30]? = some tNotes := by decide
theorem ofbLeast : ofw tLeast < 2147483648 := by decide
theorem ofbMost : ofw tMost < 2147483648 := by decide
theorem ofbSteps : ofw tSteps < 2147483648 := by decide
theorem ofbBegin : ofw tBegin < 2147483648 := by decide
theorem ofbCrumbs : ofw tCrumbs < 2147483648 := by decide
theorem ofbLed : ofw tLed < 2147483648 := by decide
theorem ofbNotes : ofw tNotes < 2147483648 := by decide
def MLd (l : LW) (I : Nat → Nat → Int32) : Prop := (I 106 31 = nI l.n) ∧ (∀ j, j < l.n → I 117 j = nI (l.what j)) ∧ (∀ j, j < l.n → I 118 j = nI (l.of j))
theorem MLd.n {l : LW} {I : Nat → Nat → Int32} (h_ : MLd l I) : I 106 31 = nI l.n := h_.1
theorem MLd.w {l : LW} {I : Nat → Nat → Int32} (h_ : MLd l I) : ∀ j, j < l.n → I 117 j = nI (l.what j) := h_.2.1
theorem MLd.o {l : LW} {I : Nat → Nat → Int32} (h_ : MLd l I) : ∀ j, j < l.n → I 118 j = nI (l.of j) := h_.2.2
theorem MLd.fr {l : LW} {I I' : Nat → Nat → Int32} (h : MLd l I) (e : I' 106 31 = I 106 31) (e1 : I' 117 = I 117) (e2 : I' 118 = I 118) : MLd l I' := ⟨e.trans h.n, by rw [e1]; exact h.w, by rw [e2]; exact h.o⟩
theorem MLd.add {l : LW} {w o : Nat} {I I' : Nat → Nat → Int32} (h : MLd l I) (e : I' 106 31 = nI (l.n + 1)) (e1 : I' 117 = wr I 117 l.n (nI w) 117) (e2 : I' 118 = wr I 118 l.n (nI o) 118) : MLd (addc l w o) I' := by
  refine ⟨e, fun j hj => ?_, fun j hj => ?_⟩
  · have hj : j < l.n + 1 := hj
    rw [e1]
    show _ = nI (put l.what l.n w j)
    by_cases z : j = l.n
    · subst z; rw [put_s]; exact wr_same
    · rw [put_n z, wr_ne (Or.inr z)]; exact h.w j (by omega)
  · have hj : j < l.n + 1 := hj
    rw [e2]
    show _ = nI (put l.of l.n o j)
    by_cases z : j = l.n
    · subst z; rw [put_s]; exact wr_same
    · rw [put_n z, wr_ne (Or.inr z)]; exact h.o j (by omega)
def LSm (g : Nat → Nat) (n k : Nat) (x : LX) (I : Nat → Nat → Int32) : Prop := (∀ j, j < 600 → I 108 j = nI (g j)) ∧ MD g n x.2 I ∧ I 106 7 = nI k ∧ ∀ s, x.2 = .inl s → MLd x.1 I ∧ x.1.n ≤ s
/-- the model's reading and its scratch law alone were at work -/
def LG (I I' : Nat → Nat → Int32) : Prop := (∀ j, j ≠ 4 → j ≠ 5 → j ≠ 6 → j ≠ 7 → j ≠ 31 → I' 106 j = I 106 j) ∧ ∀ o, o ≠ 106 → o ≠ 117 → o ≠ 118 → I' o = I o
theorem LG.rf {I : Nat → Nat → Int32} : LG I I := ⟨fun _ _ _ _ _ _ => rfl, fun _ _ _ _ => rfl⟩
theorem LG.tr {I I1 I2 : Nat → Nat → Int32} (h : LG I I1) (h2 : LG I1 I2) : LG I I2 := ⟨fun j a b c d e => (h2.1 j a b c d e).trans (h.1 j a b c d e), fun o a b c => (h2.2 o a b c).trans (h.2 o a b c)⟩
theorem MO.lg {I I' : Nat → Nat → Int32} (h : MO I I') : LG I I' := ⟨fun j a b c _ _ => h.2 j a b c, fun o a _ _ => h.1 o a⟩
theorem LSm.mo {g : Nat → Nat} {n k : Nat} {x : LX} {r2 : RST} {I I' : Nat → Nat → Int32} (h : LSm g n k x I) (md : MD g n r2 I') (f : MO I I') (hp : ∀ s2, r2 = .inl s2 → ∃ s, x.2 = .inl s ∧ s ≤ s2) : LSm g n k (x.1, r2) I' := by
  refine ⟨tp_fm h.1 (f.1 108 (by decide)), md, (f.2 7 (by decide) (by decide) (by decide)).trans h.2.2.1, fun s2 e => ?_⟩
  obtain ⟨s, e1, h1⟩ := hp s2 e
  have z := h.2.2.2 s e1
  exact ⟨z.1.fr (f.2 31 (by decide) (by decide) (by decide)) (f.1 117 (by decide)) (f.1 118 (by decide)), Nat.le_trans z.2 h1⟩
theorem LSm.mg {g : Nat → Nat} {n k s : Nat} {l : LW} {I : Nat → Nat → Int32} (h : LSm g n k (l, .inl s) I) : MG g n s I := h.2.1
theorem LSm.mb {g : Nat → Nat} {n k : Nat} {l : LW} {q : Nat × Nat} {I : Nat → Nat → Int32} (h : LSm g n k (l, .inr q) I) : MB n q.1 q.2 I := h.2.1
theorem LSm.mv {g : Nat → Nat} {n k s s2 a : Nat} {l : LW} {I I' : Nat → Nat → Int32} (h : LSm g n k (l, .inl s) I) (f : MP I I') (ha : a ≤ n) (e : I' 106 4 = nI a) (hs : scp isB g n a = s2) (hle : s ≤ s2) : LSm g n k (l, .inl s2) I' :=
  h.mo (r2 := .inl s2) (h.mg.mv f ha e hs) f.mo (fun s3 e3 => by cases e3; exact ⟨s, rfl, hle⟩)
theorem LSm.sgn {g : Nat → Nat} {n k c : Nat} {x : LX} {I I' : Nat → Nat → Int32} (h : LSm g n k x I) (md : MD g n (tkS g n c x.2) I') (f : MO I I') : LSm g n k (x.1, tkS g n c x.2) I' := h.mo md f (fun s2 e => by obtain ⟨s, e1, h1⟩ := tkS_q e; exact ⟨s, e1, Nat.le_of_lt h1.1⟩)
theorem LSm.dn {g : Nat → Nat} {n k k2 : Nat} {x : LX} {I I' : Nat → Nat → Int32} (h : LSm g n k x I) (e : I' = wr I 106 7 (nI k2)) : LSm g n k2 x I' ∧ LG I I' := by
  subst e
  refine ⟨⟨tp_fm h.1 (wr_row (by decide)), h.2.1.w (by decide), wr_same, fun s e1 => ?_⟩, ⟨fun j a b c d e => wr_ne (Or.inr d), fun o a b c => wr_row a⟩⟩
  have z := h.2.2.2 s e1
  exact ⟨z.1.fr (wr_ne (Or.inr (by decide))) (wr_row (by decide)) (wr_row (by decide)), z.2⟩
theorem cuc_k {g : Nat → Nat} {n s c : Nat} (hc_ : 0 < c) (hd : isD c = false) (hl : isL c = false) : cuc g n s = c ↔ kdp g n s = 3 ∧ g s = c := by
  constructor
  · intro h
    have z := cuc_c h hc_
    exact ⟨(kd_3 z.1 (by rw [z.2]; exact hd) (by rw [z.2]; exact hl)).1, z.2⟩
  · intro h
    have z := kd3_lt h.1
    unfold cuc
    rw [if_pos z]
    exact h.2
theorem cuc_b {g : Nat → Nat} {n s : Nat} (gb : ∀ j, g j < 256) : cuc g n s < 256 := by
  unfold cuc
  split
  · exact gb s
  · decide
theorem kd3_pe {g : Nat → Nat} {n s : Nat} (h : kdp g n s = 3) : pep g n s = s + 1 := by
  have h1 := kd3_lt h
  cases hd : isD (g s) with
  | true => rw [(kd_1 h1 hd).1] at h; exact absurd h (by decide)
  | false =>
    cases hl : isL (g s) with
    | true => rw [(kd_2 h1 hd hl).1] at h; exact absurd h (by decide)
    | false => exact (kd_3 h1 hd hl).2
def MUn (j D k : Nat) (g : Nat → Nat) (n : Nat) (f : LX → LX) : Prop := ∀ (d : Nat) (I : Nat → Nat → Int32) (J : Nat → Nat → Int64) (x : LX), D ≤ d → LSm g n k x I → RU d j [.ref 106] I J (fun I' => LSm g n k (f x) I' ∧ LG I I')
theorem m_hereS {d : Nat} {I : Nat → Nat → Int32} {J : Nat → Nat → Int64} {g : Nat → Nat} {n k s : Nat} {l : LW} (gb : ∀ j, g j < 256) (hn : n ≤ 600) (ls : LSm g n k (l, .inl s) I) (hd : 1 ≤ d) : RI d 175 [.ref 106] I J (fun v I' => v = nI (cuc g n s) ∧ LSm g n k (l, .inl s) I' ∧ I' 106 4 = nI s ∧ LG I I') := by
  obtain ⟨a, ha, ea, es⟩ := ls.mg.pl
  refine (m_here (J := J) ls.1 gb hn ls.mg.en ha ea hd).mono (fun v I' h => ?_)
  rw [es] at h
  exact ⟨h.1, ls.mv h.2.2 ls.mg.sn h.2.1 (by rw [← es]; exact scp_id ha) (Nat.le_refl _), h.2.1, h.2.2.mo.lg⟩
theorem m_wordS {d : Nat} {I : Nat → Nat → Int32} {J : Nat → Nat → Int64} {g : Nat → Nat} {n k s : Nat} {l : LW} (gb : ∀ j, g j < 256) (hn : n ≤ 600) (ls : LSm g n k (l, .inl s) I) (hd : 2 ≤ d) : RI d 178 [.ref 106] I J (fun v I' => v = nI (wdv g n s) ∧ LSm g n k (l, .inl s) I' ∧ I' 106 4 = nI s ∧ LG I I') := by
  refine (m_word (J := J) ls.1 gb hn ls.mg hd).mono (fun v I' h => ?_)
  exact ⟨h.1, ls.mo (r2 := .inl s) h.2.1 h.2.2.2.mo (fun s2 e => ⟨s, rfl, by cases e; exact Nat.le_refl _⟩), h.2.2.1, h.2.2.2.mo.lg⟩
def fcz (g : Nat → Nat) (n s : Nat) : Int := if fct g n s = 6 then -1 else (fct g n s : Int)
theorem r_X11_emit_0 : RW M_X11_emit 0 (.aload_n 0) 1 0 0 1 := ⟨rfl, rfl⟩
theorem r_X11_emit_1 : RW M_X11_emit 1 (.invokevirtual 140) 3 173 0 4 := ⟨rfl, rfl⟩
theorem r_X11_emit_4 : RW M_X11_emit 4 (.ifCond .ne 4) 3 8 0 7 := ⟨rfl, rfl⟩
theorem r_X11_emit_7 : RW M_X11_emit 7 (.return_) 1 0 0 8 := ⟨rfl, rfl⟩
theorem r_X11_emit_8 : RW M_X11_emit 8 (.aload_n 0) 1 0 0 9 := ⟨rfl, rfl⟩
theorem r_X11_emit_9 : RW M_X11_emit 9 (.getfield 47) 3 11 26 12 := ⟨rfl, rfl⟩
theorem r_X11_emit_12 : RW M_X11_emit 12 (.aload_n 0) 1 0 0 13 := ⟨rfl, rfl⟩
theorem r_X11_emit_13 : RW M_X11_emit 13 (.getfield 249) 3 11 31 16 := ⟨rfl, rfl⟩
theorem r_X11_emit_16 : RW M_X11_emit 16 (.iload_n 1) 1 0 0 17 := ⟨rfl, rfl⟩
theorem r_X11_emit_17 : RW M_X11_emit 17 (.iastore) 1 0 0 18 := ⟨rfl, rfl⟩
theorem r_X11_emit_18 : RW M_X11_emit 18 (.aload_n 0) 1 0 0 19 := ⟨rfl, rfl⟩
theorem r_X11_emit_19 : RW M_X11_emit 19 (.getfield 50) 3 11 27 22 := ⟨rfl, rfl⟩
theorem r_X11_emit_22 : RW M_X11_emit 22 (.aload_n 0) 1 0 0 23 := ⟨rfl, rfl⟩
theorem r_X11_emit_23 : RW M_X11_emit 23 (.getfield 249) 3 11 31 26 := ⟨rfl, rfl⟩
theorem r_X11_emit_26 : RW M_X11_emit 26 (.iload_n 2) 1 0 0 27 := ⟨rfl, rfl⟩
theorem r_X11_emit_27 : RW M_X11_emit 27 (.iastore) 1 0 0 28 := ⟨rfl, rfl⟩
theorem r_X11_emit_28 : RW M_X11_emit 28 (.aload_n 0) 1 0 0 29 := ⟨rfl, rfl⟩
theorem r_X11_emit_29 : RW M_X11_emit 29 (.dup) 1 0 0 30 := ⟨rfl, rfl⟩
theorem r_X11_emit_30 : RW M_X11_emit 30 (.getfield 249) 3 11 31 33 := ⟨rfl, rfl⟩
theorem r_X11_emit_33 : RW M_X11_emit 33 (.iconst 1) 1 0 0 34 := ⟨rfl, rfl⟩
theorem r_X11_emit_34 : RW M_X11_emit 34 (.iadd) 1 0 0 35 := ⟨rfl, rfl⟩
theorem r_X11_emit_35 : RW M_X11_emit 35 (.putfield 249) 3 11 31 38 := ⟨rfl, rfl⟩
theorem r_X11_emit_38 : RW M_X11_emit 38 (.return_) 1 0 0 39 := ⟨rfl, rfl⟩
theorem r_X11_factHere_0 : RW M_X11_factHere 0 (.aload_n 0) 1 0 0 1 := ⟨rfl, rfl⟩
theorem r_X11_factHere_1 : RW M_X11_factHere 1 (.invokevirtual 221) 3 178 0 4 := ⟨rfl, rfl⟩
theorem r_X11_factHere_4 : RW M_X11_factHere 4 (.istore_n 1) 1 0 0 5 := ⟨rfl, rfl⟩
theorem r_X11_factHere_5 : RW M_X11_factHere 5 (.iload_n 1) 1 0 0 6 := ⟨rfl, rfl⟩
theorem r_X11_factHere_6 : RW M_X11_factHere 6 (.ldc_w 267) 3 26 1 9 := ⟨rfl, rfl⟩
theorem r_X11_factHere_9 : RW M_X11_factHere 9 (.invokestatic 199) 3 179 0 12 := ⟨rfl, rfl⟩
theorem r_X11_factHere_12 : RW M_X11_factHere 12 (.if_icmp .ne 7) 3 19 0 15 := ⟨rfl, rfl⟩
theorem r_X11_factHere_15 : RW M_X11_factHere 15 (.iconst 0) 1 0 0 16 := ⟨rfl, rfl⟩
theorem r_X11_factHere_16 : RW M_X11_factHere 16 (.goto 73) 3 89 0 19 := ⟨rfl, rfl⟩
theorem r_X11_factHere_19 : RW M_X11_factHere 19 (.iload_n 1) 1 0 0 20 := ⟨rfl, rfl⟩
theorem r_X11_factHere_20 : RW M_X11_factHere 20 (.ldc_w 269) 3 27 1 23 := ⟨rfl, rfl⟩
theorem r_X11_factHere_23 : RW M_X11_factHere 23 (.invokestatic 199) 3 179 0 26 := ⟨rfl, rfl⟩
theorem r_X11_factHere_26 : RW M_X11_factHere 26 (.if_icmp .ne 7) 3 33 0 29 := ⟨rfl, rfl⟩
theorem r_X11_factHere_29 : RW M_X11_factHere 29 (.iconst 1) 1 0 0 30 := ⟨rfl, rfl⟩
theorem r_X11_factHere_30 : RW M_X11_factHere 30 (.goto 59) 3 89 0 33 := ⟨rfl, rfl⟩
theorem r_X11_factHere_33 : RW M_X11_factHere 33 (.iload_n 1) 1 0 0 34 := ⟨rfl, rfl⟩
theorem r_X11_factHere_34 : RW M_X11_factHere 34 (.ldc_w 271) 3 28 1 37 := ⟨rfl, rfl⟩
theorem r_X11_factHere_37 : RW M_X11_factHere 37 (.invokestatic 199) 3 179 0 40 := ⟨rfl, rfl⟩
theorem r_X11_factHere_40 : RW M_X11_factHere 40 (.if_icmp .ne 7) 3 47 0 43 := ⟨rfl, rfl⟩
theorem r_X11_factHere_43 : RW M_X11_factHere 43 (.iconst 2) 1 0 0 44 := ⟨rfl, rfl⟩
theorem r_X11_factHere_44 : RW M_X11_factHere 44 (.goto 45) 3 89 0 47 := ⟨rfl, rfl⟩
theorem r_X11_factHere_47 : RW M_X11_factHere 47 (.iload_n 1) 1 0 0 48 := ⟨rfl, rfl⟩
theorem r_X11_factHere_48 : RW M_X11_factHere 48 (.ldc_w 273) 3 29 1 51 := ⟨rfl, rfl⟩
theorem r_X11_factHere_51 : RW M_X11_factHere 51 (.invokestatic 199) 3 179 0 54 := ⟨rfl, rfl⟩
theorem r_X11_factHere_54 : RW M_X11_factHere 54 (.if_icmp .ne 7) 3 61 0 57 := ⟨rfl, rfl⟩
theorem r_X11_factHere_57 : RW M_X11_factHere 57 (.iconst 3) 1 0 0 58 := ⟨rfl, rfl⟩
theorem r_X11_factHere_58 : RW M_X11_factHere 58 (.goto 31) 3 89 0 61 := ⟨rfl, rfl⟩
theorem r_X11_factHere_61 : RW M_X11_factHere 61 (.iload_n 1) 1 0 0 62 := ⟨rfl, rfl⟩
theorem r_X11_factHere_62 : RW M_X11_factHere 62 (.ldc_w 275) 3 30 1 65 := ⟨rfl, rfl⟩
theorem r_X11_factHere_65 : RW M_X11_factHere 65 (.invokestatic 199) 3 179 0 68 := ⟨rfl, rfl⟩
theorem r_X11_factHere_68 : RW M_X11_factHere 68 (.if_icmp .ne 7) 3 75 0 71 := ⟨rfl, rfl⟩
theorem r_X11_factHere_71 : RW M_X11_factHere 71 (.iconst 4) 1 0 0 72 := ⟨rfl, rfl⟩
theorem r_X11_factHere_72 : RW M_X11_factHere 72 (.goto 17) 3 89 0 75 := ⟨rfl, rfl⟩
theorem r_X11_factHere_75 : RW M_X11_factHere 75 (.iload_n 1) 1 0 0 76 := ⟨rfl, rfl⟩
theorem r_X11_factHere_76 : RW M_X11_factHere 76 (.ldc 205) 2 23 1 78 := ⟨rfl, rfl⟩
theorem r_X11_factHere_78 : RW M_X11_factHere 78 (.invokestatic 199) 3 179 0 81 := ⟨rfl, rfl⟩
theorem r_X11_factHere_81 : RW M_X11_factHere 81 (.if_icmp .ne 7) 3 88 0 84 := ⟨rfl, rfl⟩
theorem r_X11_factHere_84 : RW M_X11_factHere 84 (.iconst 5) 1 0 0 85 := ⟨rfl, rfl⟩
theorem r_X11_factHere_85 : RW M_X11_factHere 85 (.goto 4) 3 89 0 88 := ⟨rfl, rfl⟩
theorem r_X11_factHere_88 : RW M_X11_factHere 88 (.iconst (-1)) 1 0 0 89 := ⟨rfl, rfl⟩
theorem r_X11_factHere_89 : RW M_X11_factHere 89 (.ireturn) 1 0 0 90 := ⟨rfl, rfl⟩
theorem r_X11_opensOne_0 : RW M_X11_opensOne 0 (.aload_n 0) 1 0 0 1 := ⟨rfl, rfl⟩
theorem r_X11_opensOne_1 : RW M_X11_opensOne 1 (.invokevirtual 140) 3 173 0 4 := ⟨rfl, rfl⟩
theorem r_X11_opensOne_4 : RW M_X11_opensOne 4 (.ifCond .eq 21) 3 25 0 7 := ⟨rfl, rfl⟩
theorem r_X11_opensOne_7 : RW M_X11_opensOne 7 (.aload_n 0) 1 0 0 8 := ⟨rfl, rfl⟩
theorem r_X11_opensOne_8 : RW M_X11_opensOne 8 (.getfield 151) 3 11 7 11 := ⟨rfl, rfl⟩
theorem r_X11_opensOne_11 : RW M_X11_opensOne 11 (.bipush 6) 2 0 0 13 := ⟨rfl, rfl⟩
theorem r_X11_opensOne_13 : RW M_X11_opensOne 13 (.if_icmp .ne 12) 3 25 0 16 := ⟨rfl, rfl⟩
theorem r_X11_opensOne_16 : RW M_X11_opensOne 16 (.aload_n 0) 1 0 0 17 := ⟨rfl, rfl⟩
theorem r_X11_opensOne_17 : RW M_X11_opensOne 17 (.iconst 3) 1 0 0 18 := ⟨rfl, rfl⟩
theorem r_X11_opensOne_18 : RW M_X11_opensOne 18 (.aload_n 0) 1 0 0 19 := ⟨rfl, rfl⟩
theorem r_X11_opensOne_19 : RW M_X11_opensOne 19 (.getfield 117) 3 11 4 22 := ⟨rfl, rfl⟩
theorem r_X11_opensOne_22 : RW M_X11_opensOne 22 (.invokevirtual 147) 3 174 0 25 := ⟨rfl, rfl⟩
theorem r_X11_opensOne_25 : RW M_X11_opensOne 25 (.aload_n 0) 1 0 0 26 := ⟨rfl, rfl⟩
theorem r_X11_opensOne_26 : RW M_X11_opensOne 26 (.invokevirtual 140) 3 173 0 29 := ⟨rfl, rfl⟩
theorem r_X11_opensOne_29 : RW M_X11_opensOne 29 (.ifCond .eq 13) 3 42 0 32 := ⟨rfl, rfl⟩
theorem r_X11_opensOne_32 : RW M_X11_opensOne 32 (.aload_n 0) 1 0 0 33 := ⟨rfl, rfl⟩
theorem r_X11_opensOne_33 : RW M_X11_opensOne 33 (.dup) 1 0 0 34 := ⟨rfl, rfl⟩
theorem r_X11_opensOne_34 : RW M_X11_opensOne 34 (.getfield 117) 3 11 4 37 := ⟨rfl, rfl⟩
theorem r_X11_opensOne_37 : RW M_X11_opensOne 37 (.iload_n 1) 1 0 0 38 := ⟨rfl, rfl⟩
theorem r_X11_opensOne_38 : RW M_X11_opensOne 38 (.iadd) 1 0 0 39 := ⟨rfl, rfl⟩
theorem r_X11_opensOne_39 : RW M_X11_opensOne 39 (.putfield 117) 3 11 4 42 := ⟨rfl, rfl⟩
theorem r_X11_opensOne_42 : RW M_X11_opensOne 42 (.aload_n 0) 1 0 0 43 := ⟨rfl, rfl⟩
theorem r_X11_opensOne_43 : RW M_X11_opensOne 43 (.dup) 1 0 0 44 := ⟨rfl, rfl⟩
theorem r_X11_opensOne_44 : RW M_X11_opensOne 44 (.getfield 151) 3 11 7 47 := ⟨rfl, rfl⟩
theorem r_X11_opensOne_47 : RW M_X11_opensOne 47 (.iconst 1) 1 0 0 48 := ⟨rfl, rfl⟩
theorem r_X11_opensOne_48 : RW M_X11_opensOne 48 (.iadd) 1 0 0 49 := ⟨rfl, rfl⟩
theorem r_X11_opensOne_49 : RW M_X11_opensOne 49 (.putfield 151) 3 11 7 52 := ⟨rfl, rfl⟩
theorem r_X11_opensOne_52 : RW M_X11_opensOne 52 (.return_) 1 0 0 53 := ⟨rfl, rfl⟩
theorem r_X11_readProduct_0 : RW M_X11_readProduct 0 (.aload_n 0) 1 0 0 1 := ⟨rfl, rfl⟩
theorem r_X11_readProduct_1 : RW M_X11_readProduct 1 (.invokevirtual 258) 3 201 0 4 := ⟨rfl, rfl⟩
theorem r_X11_readProduct_4 : RW M_X11_readProduct 4 (.aload_n 0) 1 0 1 5 := ⟨rfl, rfl⟩
theorem r_X11_readProduct_5 : RW M_X11_readProduct 5 (.invokevirtual 140) 3 173 0 8 := ⟨rfl, rfl⟩
theorem r_X11_readProduct_8 : RW M_X11_readProduct 8 (.ifCond .eq 82) 3 90 0 11 := ⟨rfl, rfl⟩
theorem r_X11_readProduct_90 : RW M_X11_readProduct 90 (.return_) 1 0 0 91 := ⟨rfl, rfl⟩
theorem r_X11_readSum_0 : RW M_X11_readSum 0 (.aload_n 0) 1 0 0 1 := ⟨rfl, rfl⟩
theorem r_X11_readSum_1 : RW M_X11_readSum 1 (.invokevirtual 252) 3 198 0 4 := ⟨rfl, rfl⟩
theorem r_X11_readSum_4 : RW M_X11_readSum 4 (.aload_n 0) 1 0 1 5 := ⟨rfl, rfl⟩
theorem r_X11_readSum_5 : RW M_X11_readSum 5 (.invokevirtual 140) 3 173 0 8 := ⟨rfl, rfl⟩
theorem r_X11_readSum_8 : RW M_X11_readSum 8 (.ifCond .eq 59) 3 67 0 11 := ⟨rfl, rfl⟩
theorem r_X11_readSum_67 : RW M_X11_readSum 67 (.return_) 1 0 0 68 := ⟨rfl, rfl⟩
theorem r_X11_readTwo_0 : RW M_X11_readTwo 0 (.aload_n 0) 1 0 0 1 := ⟨rfl, rfl⟩
theorem r_X11_readTwo_1 : RW M_X11_readTwo 1 (.iload_n 1) 1 0 0 2 := ⟨rfl, rfl⟩
theorem r_X11_readTwo_2 : RW M_X11_readTwo 2 (.invokevirtual 261) 3 196 0 5 := ⟨rfl, rfl⟩
theorem r_X11_readTwo_5 : RW M_X11_readTwo 5 (.aload_n 0) 1 0 0 6 := ⟨rfl, rfl⟩
theorem r_X11_readTwo_6 : RW M_X11_readTwo 6 (.bipush 91) 2 0 0 8 := ⟨rfl, rfl⟩
theorem r_X11_readTwo_8 : RW M_X11_readTwo 8 (.invokevirtual 242) 3 182 0 11 := ⟨rfl, rfl⟩
theorem r_X11_readTwo_11 : RW M_X11_readTwo 11 (.aload_n 0) 1 0 0 12 := ⟨rfl, rfl⟩
theorem r_X11_readTwo_12 : RW M_X11_readTwo 12 (.invokevirtual 264) 3 197 0 15 := ⟨rfl, rfl⟩
theorem r_X11_readTwo_15 : RW M_X11_readTwo 15 (.aload_n 0) 1 0 0 16 := ⟨rfl, rfl⟩
theorem r_X11_readTwo_16 : RW M_X11_readTwo 16 (.bipush 44) 2 0 0 18 := ⟨rfl, rfl⟩
theorem r_X11_readTwo_18 : RW M_X11_readTwo 18 (.invokevirtual 242) 3 182 0 21 := ⟨rfl, rfl⟩
theorem r_X11_readTwo_21 : RW M_X11_readTwo 21 (.aload_n 0) 1 0 0 22 := ⟨rfl, rfl⟩
theorem r_X11_readTwo_22 : RW M_X11_readTwo 22 (.invokevirtual 264) 3 197 0 25 := ⟨rfl, rfl⟩
theorem r_X11_readTwo_25 : RW M_X11_readTwo 25 (.aload_n 0) 1 0 0 26 := ⟨rfl, rfl⟩
theorem r_X11_readTwo_26 : RW M_X11_readTwo 26 (.bipush 93) 2 0 0 28 := ⟨rfl, rfl⟩
theorem r_X11_readTwo_28 : RW M_X11_readTwo 28 (.invokevirtual 242) 3 182 0 31 := ⟨rfl, rfl⟩
theorem r_X11_readTwo_31 : RW M_X11_readTwo 31 (.aload_n 0) 1 0 0 32 := ⟨rfl, rfl⟩
theorem r_X11_readTwo_32 : RW M_X11_readTwo 32 (.dup) 1 0 0 33 := ⟨rfl, rfl⟩
theorem r_X11_readTwo_33 : RW M_X11_readTwo 33 (.getfield 151) 3 11 7 36 := ⟨rfl, rfl⟩
theorem r_X11_readTwo_36 : RW M_X11_readTwo 36 (.iconst 1) 1 0 0 37 := ⟨rfl, rfl⟩
theorem r_X11_readTwo_37 : RW M_X11_readTwo 37 (.isub) 1 0 0 38 := ⟨rfl, rfl⟩
theorem r_X11_readTwo_38 : RW M_X11_readTwo 38 (.putfield 151) 3 11 7 41 := ⟨rfl, rfl⟩
theorem r_X11_readTwo_41 : RW M_X11_readTwo 41 (.aload_n 0) 1 0 0 42 := ⟨rfl, rfl⟩
theorem r_X11_readTwo_42 : RW M_X11_readTwo 42 (.iload_n 2) 1 0 0 43 := ⟨rfl, rfl⟩
theorem r_X11_readTwo_43 : RW M_X11_readTwo 43 (.iconst 0) 1 0 0 44 := ⟨rfl, rfl⟩
theorem r_X11_readTwo_44 : RW M_X11_readTwo 44 (.invokevirtual 255) 3 195 0 47 := ⟨rfl, rfl⟩
theorem r_X11_readTwo_47 : RW M_X11_readTwo 47 (.return_) 1 0 0 48 := ⟨rfl, rfl⟩
theorem r_X11_readUnit_0 : RW M_X11_readUnit 0 (.aload_n 0) 1 0 0 1 := ⟨rfl, rfl⟩
theorem r_X11_readUnit_1 : RW M_X11_readUnit 1 (.invokevirtual 140) 3 173 0 4 := ⟨rfl, rfl⟩
theorem r_X11_readUnit_4 : RW M_X11_readUnit 4 (.ifCond .ne 4) 3 8 0 7 := ⟨rfl, rfl⟩
theorem r_X11_readUnit_7 : RW M_X11_readUnit 7 (.return_) 1 0 0 8 := ⟨rfl, rfl⟩
theorem m_emitG {d : Nat} {I : Nat → Nat → Int32} {J : Nat → Nat → Int64} {g : Nat → Nat} {n k s w o : Nat} {l : LW} (hn : n ≤ 150) (ls : LSm g n k (l, .inl s) I) (hs : l.n < s)  (hd : 2 ≤ d) : RU d 195 [.ref 106, .int (nI w), .int (nI o)] I J (fun I' => LSm g n k (addc l w o, .inl s) I' ∧ LG I I') := by
  refine RU.in (d0 := 1) hd mt_195 (Nat.le_of_ble_eq_true rfl) (fun d' hd' => ?_)
  have sn := ls.mg.sn
  have ld : MLd l I := (ls.2.2.2 s rfl).1
  show EV none M_X11_emit d' 0 [(0, .ref 106), (1, .int (nI w)), (2, .int (nI o))] [] (hp I J) _
  refine EV.l (lv' := [(0, _), (1, _), (2, _)]) r_X11_emit_0 rfl ?_
  refine EV.cv r_X11_emit_1 (aV0 mt_173 la_106) (m_fineG (ls).mg (by omega)) ?_
  refine EV.n0_ne r_X11_emit_4 (fun h4 => ?_) (fun h4 => ?_)
  · -- 4 t
    refine EV.l (lv' := [(0, _), (1, _), (2, _)]) r_X11_emit_8 rfl ?_
    refine EV.gR r_X11_emit_9 la_106 ?_
    refine EV.l (lv' := [(0, _), (1, _), (2, _)]) r_X11_emit_12 rfl ?_
    refine EV.getV r_X11_emit_13 la_106 (ld.n) ?_
    refine EV.l (lv' := [(0, _), (1, _), (2, _)]) r_X11_emit_16 rfl ?_
    refine EV.iaSn r_X11_emit_17 la_117 (fun I2 e2 => ?_)
    refine EV.l (lv' := [(0, _), (1, _), (2, _)]) r_X11_emit_18 rfl ?_
    refine EV.gR r_X11_emit_19 la_106 ?_
    refine EV.l (lv' := [(0, _), (1, _), (2, _)]) r_X11_emit_22 rfl ?_
    refine EV.getV r_X11_emit_23 la_106 ((show I2 106 31 = nI l.n from by rw [e2, wr_row (by decide)]; exact ld.n)) ?_
    refine EV.l (lv' := [(0, _), (1, _), (2, _)]) r_X11_emit_26 rfl ?_
    refine EV.iaSn r_X11_emit_27 la_118 (fun I3 e3 => ?_)
    refine EV.l (lv' := [(0, _), (1, _), (2, _)]) r_X11_emit_28 rfl ?_
    refine EV.o r_X11_emit_29 rfl ?_
    refine EV.getV r_X11_emit_30 la_106 ((show I3 106 31 = nI l.n from by rw [e3, wr_row (by decide), e2, wr_row (by decide)]; exact ld.n)) ?_
    refine EV.o r_X11_emit_33 (icN (1) (v := 1)) ?_
    refine EV.o r_X11_emit_34 iaddN ?_
    refine EV.pIn r_X11_emit_35 la_106 (fun I4 e4 => ?_)
    exact EV.ru r_X11_emit_38 (⟨⟨tp_fm ls.1 (by rw [e4, wr_row (by decide), e3, wr_row (by decide), e2, wr_row (by decide)]), by rw [e4]; exact MD.w (MD.fr (r := .inl s) ls.mg (by rw [e3, wr_row (by decide), e2, wr_row (by decide)])) (by decide), by rw [e4, wr_ne (Or.inr (by decide)), e3, wr_row (by decide), e2, wr_row (by decide)]; exact ls.2.2.1, fun s2 z => by cases z; exact ⟨ld.add (by rw [e4]; exact wr_same) (by rw [e4, wr_row (by decide), e3, wr_row (by decide), e2]) (by rw [e4, wr_row (by decide), e3]; show wr _ _ _ _ 118 = wr _ _ _ _ 118; funext j; show (if _ ∧ _ then _ else _) = (if _ ∧ _ then _ else _); rw [e2, wr_row (by decide)]), hs⟩⟩, ⟨fun j a b c d e => by rw [e4, wr_ne (Or.inr e), e3, wr_row (by decide), e2, wr_row (by decide)], fun o a b c => by rw [e4, wr_row a, e3, wr_row c, e2, wr_row b]⟩⟩)
  · omega
theorem m_emitB {d : Nat} {I : Nat → Nat → Int32} {J : Nat → Nat → Int64} {n : Nat} {q : Nat × Nat} (hn : n ≤ 150) (mb : MB n q.1 q.2 I) {v w : Int32}  (hd : 2 ≤ d) : RU d 195 [.ref 106, .int v, .int w] I J (fun I' => I' = I) := by
  refine RU.in (d0 := 1) hd mt_195 (Nat.le_of_ble_eq_true rfl) (fun d' hd' => ?_)
  show EV none M_X11_emit d' 0 [(0, .ref 106), (1, .int v), (2, .int w)] [] (hp I J) _
  refine EV.l (lv' := [(0, _), (1, _), (2, _)]) r_X11_emit_0 rfl ?_
  refine EV.cv r_X11_emit_1 (aV0 mt_173 la_106) (m_fineB (mb) (by omega) (by omega)) ?_
  refine EV.n0_ne r_X11_emit_4 (fun h4 => ?_) (fun h4 => ?_)
  · omega
  · -- 4 f
    exact EV.ru r_X11_emit_7 (rfl)
theorem m_emit {d : Nat} {I : Nat → Nat → Int32} {J : Nat → Nat → Int64} {g : Nat → Nat} {n k w o : Nat} {x : LX} {v : Int32} (ls : LSm g n k x I) (hn : n ≤ 150) (hs : ∀ s, x.2 = .inl s → x.1.n < s) (hv : ∀ s, x.2 = .inl s → v = nI o) (hd : 2 ≤ d) : RU d 195 [.ref 106, .int (nI w), .int v] I J (fun I' => LSm g n k (addc x.1 w o, x.2) I' ∧ LG I I') := by
  obtain ⟨l, r⟩ := x
  cases r with
  | inl s =>
    have h := m_emitG (J := J) (w := w) (o := o) hn ls (hs s rfl) hd
    rw [hv s rfl]
    exact h
  | inr q =>
    obtain ⟨I', e, h⟩ := m_emitB (d := d) (I := I) (J := J) (v := nI w) (w := v) hn ls.mb hd
    subst e
    exact ⟨_, ⟨⟨ls.1, ls.2.1, ls.2.2.1, fun s e => inr_ne e⟩, LG.rf⟩, h⟩
theorem m_open1 {d : Nat} {I : Nat → Nat → Int32} {J : Nat → Nat → Int64} {g : Nat → Nat} {n k s b : Nat} {l : LW} (hn : n ≤ 150) (ls : LSm g n k (l, .inl s) I) (a4 : I 106 4 = nI s) (hk : k < 6) (hb_ : s + b ≤ n) (hb2 : b < 100) (es : scp isB g n (s + b) = nxp g n s)  (hd : 3 ≤ d) : RU d 196 [.ref 106, .int (nI b)] I J (fun I' => LSm g n (k + 1) (l, .inl (nxp g n s)) I' ∧ LG I I') := by
  refine RU.in (d0 := 2) hd mt_196 (Nat.le_of_ble_eq_true rfl) (fun d' hd' => ?_)
  show EV none M_X11_opensOne d' 0 [(0, .ref 106), (1, .int (nI b))] [] (hp I J) _
  refine EV.l (lv' := [(0, _), (1, _)]) r_X11_opensOne_0 rfl ?_
  refine EV.cv r_X11_opensOne_1 (aV0 mt_173 la_106) (m_fineG (ls).mg (by omega)) ?_
  refine EV.n0_eq r_X11_opensOne_4 (fun h4 => ?_) (fun h4 => ?_)
  · omega
  · -- 4 f
    refine EV.l (lv' := [(0, _), (1, _)]) r_X11_opensOne_7 rfl ?_
    refine EV.getV r_X11_opensOne_8 la_106 (ls.2.2.1) ?_
    refine EV.o r_X11_opensOne_11 (bpN (6) 6) ?_
    refine EV.n2_ne r_X11_opensOne_13 (fun h13 => ?_) (fun h13 => ?_)
    · -- 13 t
      refine EV.l (lv' := [(0, _), (1, _)]) r_X11_opensOne_25 rfl ?_
      refine EV.cv r_X11_opensOne_26 (aV0 mt_173 la_106) (m_fineG (ls).mg (by omega)) ?_
      refine EV.n0_eq r_X11_opensOne_29 (fun h29 => ?_) (fun h29 => ?_)
      · omega
      · -- 29 f
        refine EV.l (lv' := [(0, _), (1, _)]) r_X11_opensOne_32 rfl ?_
        refine EV.o r_X11_opensOne_33 rfl ?_
        refine EV.getV r_X11_opensOne_34 la_106 (a4) ?_
        refine EV.l (lv' := [(0, _), (1, _)]) r_X11_opensOne_37 rfl ?_
        refine EV.o r_X11_opensOne_38 iaddN ?_
        refine EV.pIn r_X11_opensOne_39 la_106 (fun I2 e2 => ?_)
        have ls2 := ls.mv (I' := I2) (s2 := nxp g n s) (by rw [e2]; exact MP.rf.wr) hb_ (by rw [e2]; exact wr_same) es (by rw [← es]; have := scp_ge (p := isB) (g := g) (n := n) (i := s + b) hb_; omega)
        have lg2 : LG I I2 := by rw [e2]; exact (MP.rf.wr).mo.lg
        refine EV.l (lv' := [(0, _), (1, _)]) r_X11_opensOne_42 rfl ?_
        refine EV.o r_X11_opensOne_43 rfl ?_
        refine EV.getV r_X11_opensOne_44 la_106 ((show I2 106 7 = nI k from by rw [e2, wr_ne (Or.inr (by decide))]; exact ls.2.2.1)) ?_
        refine EV.o r_X11_opensOne_47 (icN (1) (v := 1)) ?_
        refine EV.o r_X11_opensOne_48 iaddN ?_
        refine EV.pIn r_X11_opensOne_49 la_106 (fun I3 e3 => ?_)
        exact EV.ru r_X11_opensOne_52 (⟨(ls2.dn e3).1, lg2.tr (ls2.dn e3).2⟩)
    · omega
theorem m_open0 {d : Nat} {I : Nat → Nat → Int32} {J : Nat → Nat → Int64} {g : Nat → Nat} {n s : Nat} {l : LW} (hn : n ≤ 150) (ls : LSm g n 6 (l, .inl s) I) (a4 : I 106 4 = nI s) {b : Int32}  (hd : 3 ≤ d) : RU d 196 [.ref 106, .int b] I J (fun I' => LSm g n 7 (l, .inr (3, s)) I' ∧ LG I I') := by
  refine RU.in (d0 := 2) hd mt_196 (Nat.le_of_ble_eq_true rfl) (fun d' hd' => ?_)
  show EV none M_X11_opensOne d' 0 [(0, .ref 106), (1, .int b)] [] (hp I J) _
  refine EV.l (lv' := [(0, _), (1, _)]) r_X11_opensOne_0 rfl ?_
  refine EV.cv r_X11_opensOne_1 (aV0 mt_173 la_106) (m_fineG (ls).mg (by omega)) ?_
  refine EV.n0_eq r_X11_opensOne_4 (fun h4 => ?_) (fun h4 => ?_)
  · omega
  · -- 4 f
    refine EV.l (lv' := [(0, _), (1, _)]) r_X11_opensOne_7 rfl ?_
    refine EV.getV r_X11_opensOne_8 la_106 (ls.2.2.1) ?_
    refine EV.o r_X11_opensOne_11 (bpN (6) 6) ?_
    refine EV.n2_ne r_X11_opensOne_13 (fun h13 => ?_) (fun h13 => ?_)
    · omega
    · -- 13 f
      refine EV.l (lv' := [(0, _), (1, _)]) r_X11_opensOne_16 rfl ?_
      refine EV.o r_X11_opensOne_17 (icN (3) (v := 3)) ?_
      refine EV.l (lv' := [(0, _), (1, _)]) r_X11_opensOne_18 rfl ?_
      refine EV.getV r_X11_opensOne_19 la_106 (a4) ?_
      refine EV.cu r_X11_opensOne_22 (aV2 mt_174 la_106) (m_wrongG ls.mg (by decide) (by decide) ls.mg.sn (by omega)) (fun I2 h2 => ?_)
      obtain ⟨mb2, mo2⟩ := h2
      have ls2 : LSm g n 6 (l, .inr (3, s)) I2 := ls.mo (r2 := .inr (3, s)) mb2 mo2 (fun s2 e => inr_ne e)
      refine EV.l (lv' := [(0, _), (1, _)]) r_X11_opensOne_25 rfl ?_
      refine EV.cv r_X11_opensOne_26 (aV0 mt_173 la_106) (m_fineB (mb2) (by omega) (by omega)) ?_
      refine EV.n0_eq r_X11_opensOne_29 (fun h29 => ?_) (fun h29 => ?_)
      · -- 29 t
        refine EV.l (lv' := [(0, _), (1, _)]) r_X11_opensOne_42 rfl ?_
        refine EV.o r_X11_opensOne_43 rfl ?_
        refine EV.getV r_X11_opensOne_44 la_106 (ls2.2.2.1) ?_
        refine EV.o r_X11_opensOne_47 (icN (1) (v := 1)) ?_
        refine EV.o r_X11_opensOne_48 (iaddL (z := 7) rfl) ?_
        refine EV.pIn r_X11_opensOne_49 la_106 (fun I3 e3 => ?_)
        exact EV.ru r_X11_opensOne_52 (⟨(ls2.dn e3).1, mo2.lg.tr (ls2.dn e3).2⟩)
      · omega
theorem m_unitB {d : Nat} {I : Nat → Nat → Int32} {J : Nat → Nat → Int64} {n : Nat} {q : Nat × Nat} (hn : n ≤ 150) (mb : MB n q.1 q.2 I)  (hd : 2 ≤ d) : RU d 201 [.ref 106] I J (fun I' => I' = I) := by
  refine RU.in (d0 := 1) hd mt_201 (Nat.le_of_ble_eq_true rfl) (fun d' hd' => ?_)
  show EV none M_X11_readUnit d' 0 [(0, .ref 106)] [] (hp I J) _
  refine EV.l (lv' := [(0, _)]) r_X11_readUnit_0 rfl ?_
  refine EV.cv r_X11_readUnit_1 (aV0 mt_173 la_106) (m_fineB (mb) (by omega) (by omega)) ?_
  refine EV.n0_ne r_X11_readUnit_4 (fun h4 => ?_) (fun h4 => ?_)
  · omega
  · -- 4 f
    exact EV.ru r_X11_readUnit_7 (rfl)
theorem m_prodB {d : Nat} {I : Nat → Nat → Int32} {J : Nat → Nat → Int64} {n : Nat} {q : Nat × Nat} (hn : n ≤ 150) (mb : MB n q.1 q.2 I)  (hd : 3 ≤ d) : RU d 198 [.ref 106] I J (fun I' => I' = I) := by
  refine RU.in (d0 := 2) hd mt_198 (Nat.le_of_ble_eq_true rfl) (fun d' hd' => ?_)
  show EV none M_X11_readProduct d' 0 [(0, .ref 106)] [] (hp I J) _
  refine EV.l (lv' := [(0, _)]) r_X11_readProduct_0 rfl ?_
  refine EV.cu r_X11_readProduct_1 (aV0 mt_201 la_106) (m_unitB hn mb (by omega)) (fun I2 e2 => ?_)
  subst e2
  refine EV.l (lv' := [(0, _)]) r_X11_readProduct_4 rfl ?_
  refine EV.cv r_X11_readProduct_5 (aV0 mt_173 la_106) (m_fineB (mb) (by omega) (by omega)) ?_
  refine EV.n0_eq r_X11_readProduct_8 (fun h8 => ?_) (fun h8 => ?_)
  · -- 8 t
    exact EV.ru r_X11_readProduct_90 (rfl)
  · omega
theorem m_sumB {d : Nat} {I : Nat → Nat → Int32} {J : Nat → Nat → Int64} {n : Nat} {q : Nat × Nat} (hn : n ≤ 150) (mb : MB n q.1 q.2 I)  (hd : 4 ≤ d) : RU d 197 [.ref 106] I J (fun I' => I' = I) := by
  refine RU.in (d0 := 3) hd mt_197 (Nat.le_of_ble_eq_true rfl) (fun d' hd' => ?_)
  show EV none M_X11_readSum d' 0 [(0, .ref 106)] [] (hp I J) _
  refine EV.l (lv' := [(0, _)]) r_X11_readSum_0 rfl ?_
  refine EV.cu r_X11_readSum_1 (aV0 mt_198 la_106) (m_prodB hn mb (by omega)) (fun I2 e2 => ?_)
  subst e2
  refine EV.l (lv' := [(0, _)]) r_X11_readSum_4 rfl ?_
  refine EV.cv r_X11_readSum_5 (aV0 mt_173 la_106) (m_fineB (mb) (by omega) (by omega)) ?_
  refine EV.n0_eq r_X11_readSum_8 (fun h8 => ?_) (fun h8 => ?_)
  · -- 8 t
    exact EV.ru r_X11_readSum_67 (rfl)
  · omega
theorem m_fact {d : Nat} {I : Nat → Nat → Int32} {J : Nat → Nat → Int64} {g : Nat → Nat} {n k s : Nat} {l : LW} (gb : ∀ j, g j < 256) (hn : n ≤ 150) (ls : LSm g n k (l, .inl s) I)  (hd : 4 ≤ d) : RI d 200 [.ref 106] I J (fun v I' => v = zI (fcz g n s) ∧ LSm g n k (l, .inl s) I' ∧ I' 106 4 = nI s ∧ LG I I') := by
  refine RI.in (d0 := 3) hd mt_200 (Nat.le_of_ble_eq_true rfl) (fun d' hd' => ?_)
  have ob0 := ofbSteps
  have ob1 := ofbBegin
  have ob2 := ofbCrumbs
  have ob3 := ofbLed
  have ob4 := ofbNotes
  have ob5 := of_b3
  show EV none M_X11_factHere d' 0 [(0, .ref 106)] [] (hp I J) _
  refine EV.l (lv' := [(0, _)]) r_X11_factHere_0 rfl ?_
  refine EV.ci r_X11_factHere_1 (aV0 mt_178 la_106) (m_wordS gb (by omega) ls (by omega)) (fun v I2 h2 => ?_)
  obtain ⟨e, ls2, a2, lg2⟩ := h2
  subst e
  have wb := wdv_b (g := g) (n := n) (s := s) ls.mg.sn
  refine EV.l (lv' := [(0, _), (1, _)]) r_X11_factHere_4 rfl ?_
  refine EV.l (lv' := [(0, _), (1, _)]) r_X11_factHere_5 rfl ?_
  refine EV.lcT r_X11_factHere_6 rfl ?_
  refine EV.cv r_X11_factHere_9 (aS1 mt_179) (m_of tx_26 (by decide) lSteps (by decide) (by omega)) ?_
  refine EV.n2_ne r_X11_factHere_12 (fun h12 => ?_) (fun h12 => ?_)
  · -- 12 t
    refine EV.l (lv' := [(0, _), (1, _)]) r_X11_factHere_19 rfl ?_
    refine EV.lcT r_X11_factHere_20 rfl ?_
    refine EV.cv r_X11_factHere_23 (aS1 mt_179) (m_of tx_27 (by decide) lBegin (by decide) (by omega)) ?_
    refine EV.n2_ne r_X11_factHere_26 (fun h26 => ?_) (fun h26 => ?_)
    · -- 26 t
      refine EV.l (lv' := [(0, _), (1, _)]) r_X11_factHere_33 rfl ?_
      refine EV.lcT r_X11_factHere_34 rfl ?_
      refine EV.cv r_X11_factHere_37 (aS1 mt_179) (m_of tx_28 (by decide) lCrumbs (by decide) (by omega)) ?_
      refine EV.n2_ne r_X11_factHere_40 (fun h40 => ?_) (fun h40 => ?_)
      · -- 40 t
        refine EV.l (lv' := [(0, _), (1, _)]) r_X11_factHere_47 rfl ?_
        refine EV.lcT r_X11_factHere_48 rfl ?_
        refine EV.cv r_X11_factHere_51 (aS1 mt_179) (m_of tx_29 (by decide) lLed (by decide) (by omega)) ?_
        refine EV.n2_ne r_X11_factHere_54 (fun h54 => ?_) (fun h54 => ?_)
        · -- 54 t
          refine EV.l (lv' := [(0, _), (1, _)]) r_X11_factHere_61 rfl ?_
          refine EV.lcT r_X11_factHere_62 rfl ?_
          refine EV.cv r_X11_factHere_65 (aS1 mt_179) (m_of tx_30 (by decide) lNotes (by decide) (by omega)) ?_
          refine EV.n2_ne r_X11_factHere_68 (fun h68 => ?_) (fun h68 => ?_)
          · -- 68 t
            refine EV.l (lv' := [(0, _), (1, _)]) r_X11_factHere_75 rfl ?_
            refine EV.lcT r_X11_factHere_76 rfl ?_
            refine EV.cv r_X11_factHere_78 (aS1 mt_179) (m_of tx_23 (by decide) lBird (by decide) (by omega)) ?_
            refine EV.n2_ne r_X11_factHere_81 (fun h81 => ?_) (fun h81 => ?_)
            · -- 81 t
              have fk : fct g n s = 6 := (if_neg (fun z => h12 ((wdv_w ls.mg.sn lSteps (by decide)).mpr z))).trans ((if_neg (fun z => h26 ((wdv_w ls.mg.sn lBegin (by decide)).mpr z))).trans ((if_neg (fun z => h40 ((wdv_w ls.mg.sn lCrumbs (by decide)).mpr z))).trans ((if_neg (fun z => h54 ((wdv_w ls.mg.sn lLed (by decide)).mpr z))).trans ((if_neg (fun z => h68 ((wdv_w ls.mg.sn lNotes (by decide)).mpr z))).trans (if_neg (fun z => h81 ((wdv_w ls.mg.sn lBird (by decide)).mpr z)))))))
              refine EV.o r_X11_factHere_88 (icZ (-1)) ?_
              exact EV.ri r_X11_factHere_89 (⟨by unfold fcz; rw [fk]; rfl, ls2, a2, lg2⟩)
            · -- 81 f
              have fk : fct g n s = 5 := (if_neg (fun z => h12 ((wdv_w ls.mg.sn lSteps (by decide)).mpr z))).trans ((if_neg (fun z => h26 ((wdv_w ls.mg.sn lBegin (by decide)).mpr z))).trans ((if_neg (fun z => h40 ((wdv_w ls.mg.sn lCrumbs (by decide)).mpr z))).trans ((if_neg (fun z => h54 ((wdv_w ls.mg.sn lLed (by decide)).mpr z))).trans ((if_neg (fun z => h68 ((wdv_w ls.mg.sn lNotes (by decide)).mpr z))).trans (if_pos ((wdv_w ls.mg.sn lBird (by decide)).mp h81))))))
              refine EV.o r_X11_factHere_84 (icN (5) (v := 5)) ?_
              refine EV.g r_X11_factHere_85 ?_
              exact EV.ri r_X11_factHere_89 (⟨by unfold fcz; rw [fk]; rfl, ls2, a2, lg2⟩)
          · -- 68 f
            have fk : fct g n s = 4 := (if_neg (fun z => h12 ((wdv_w ls.mg.sn lSteps (by decide)).mpr z))).trans ((if_neg (fun z => h26 ((wdv_w ls.mg.sn lBegin (by decide)).mpr z))).trans ((if_neg (fun z => h40 ((wdv_w ls.mg.sn lCrumbs (by decide)).mpr z))).trans ((if_neg (fun z => h54 ((wdv_w ls.mg.sn lLed (by decide)).mpr z))).trans (if_pos ((wdv_w ls.mg.sn lNotes (by decide)).mp h68)))))
            refine EV.o r_X11_factHere_71 (icN (4) (v := 4)) ?_
            refine EV.g r_X11_factHere_72 ?_
            exact EV.ri r_X11_factHere_89 (⟨by unfold fcz; rw [fk]; rfl, ls2, a2, lg2⟩)
        · -- 54 f
          have fk : fct g n s = 3 := (if_neg (fun z => h12 ((wdv_w ls.mg.sn lSteps (by decide)).mpr z))).trans ((if_neg (fun z => h26 ((wdv_w ls.mg.sn lBegin (by decide)).mpr z))).trans ((if_neg (fun z => h40 ((wdv_w ls.mg.sn lCrumbs (by decide)).mpr z))).trans (if_pos ((wdv_w ls.mg.sn lLed (by decide)).mp h54))))
          refine EV.o r_X11_factHere_57 (icN (3) (v := 3)) ?_
          refine EV.g r_X11_factHere_58 ?_
          exact EV.ri r_X11_factHere_89 (⟨by unfold fcz; rw [fk]; rfl, ls2, a2, lg2⟩)
      · -- 40 f
        have fk : fct g n s = 2 := (if_neg (fun z => h12 ((wdv_w ls.mg.sn lSteps (by decide)).mpr z))).trans ((if_neg (fun z => h26 ((wdv_w ls.mg.sn lBegin (by decide)).mpr z))).trans (if_pos ((wdv_w ls.mg.sn lCrumbs (by decide)).mp h40)))
        refine EV.o r_X11_factHere_43 (icN (2) (v := 2)) ?_
        refine EV.g r_X11_factHere_44 ?_
        exact EV.ri r_X11_factHere_89 (⟨by unfold fcz; rw [fk]; rfl, ls2, a2, lg2⟩)
    · -- 26 f
      have fk : fct g n s = 1 := (if_neg (fun z => h12 ((wdv_w ls.mg.sn lSteps (by decide)).mpr z))).trans (if_pos ((wdv_w ls.mg.sn lBegin (by decide)).mp h26))
      refine EV.o r_X11_factHere_29 (icN (1) (v := 1)) ?_
      refine EV.g r_X11_factHere_30 ?_
      exact EV.ri r_X11_factHere_89 (⟨by unfold fcz; rw [fk]; rfl, ls2, a2, lg2⟩)
  · -- 12 f
    have fk : fct g n s = 0 := if_pos ((wdv_w ls.mg.sn lSteps (by decide)).mp h12)
    refine EV.o r_X11_factHere_15 (icN (0) (v := 0)) ?_
    refine EV.g r_X11_factHere_16 ?_
    exact EV.ri r_X11_factHere_89 (⟨by unfold fcz; rw [fk]; rfl, ls2, a2, lg2⟩)
theorem m_two1 {d : Nat} {I : Nat → Nat → Int32} {J : Nat → Nat → Int64} {g : Nat → Nat} {n k s : Nat} {l : LW} (gb : ∀ j, g j < 256) (hn : n ≤ 150) (ls : LSm g n k (l, .inl s) I) {sub : LX → LX} {o D : Nat} (hD : 5 ≤ D) (hko : k + o = 6) (ps : 0 < o → PG g n sub) (ih : 0 < o → MUn 197 D (k + 1) g n sub) (ho : 0 < o) (a4 : I 106 4 = nI s) {b w : Nat} (hb_ : s + b ≤ n) (hb2 : b < 100) (es : scp isB g n (s + b) = nxp g n s)  (hd : D + 1 ≤ d) : RU d 199 [.ref 106, .int (nI b), .int (nI w)] I J (fun I' => LSm g n k (twoG g n sub o w l s) I' ∧ LG I I') := by
  refine RU.in (d0 := D) hd mt_199 (Nat.le_of_ble_eq_true rfl) (fun d' hd' => ?_)
  show EV none M_X11_readTwo d' 0 [(0, .ref 106), (1, .int (nI b)), (2, .int (nI w))] [] (hp I J) _
  refine EV.l (lv' := [(0, _), (1, _), (2, _)]) r_X11_readTwo_0 rfl ?_
  refine EV.l (lv' := [(0, _), (1, _), (2, _)]) r_X11_readTwo_1 rfl ?_
  refine EV.cu r_X11_readTwo_2 (aV1 mt_196 la_106) (m_open1 hn ls a4 (by omega) (by omega) (by omega) es (by omega)) (fun I2 h2 => ?_)
  refine EV.l (lv' := [(0, _), (1, _), (2, _)]) r_X11_readTwo_5 rfl ?_
  refine EV.o r_X11_readTwo_6 (bpN (91) 91) ?_
  refine EV.cu r_X11_readTwo_8 (aV1 mt_182 la_106) (m_sign (h2.1).1 gb (by omega) (h2.1).2.1 (by decide) (by decide) (by decide) (by decide) (by omega)) (fun I3 h3 => ?_)
  have s3 : LSm g n (k + 1) (((l, .inl (nxp g n s)) : LX).1, tkS g n 91 ((l, .inl (nxp g n s)) : LX).2) I3 := (h2.1 : LSm g n (k + 1) ((l, .inl (nxp g n s)) : LX) I2).sgn h3.1 h3.2
  refine EV.l (lv' := [(0, _), (1, _), (2, _)]) r_X11_readTwo_11 rfl ?_
  refine EV.cu r_X11_readTwo_12 (aV0 mt_197 la_106) (ih (by omega) d' I3 J (((l, .inl (nxp g n s)) : LX).1, tkS g n 91 ((l, .inl (nxp g n s)) : LX).2) (by omega) s3) (fun I4 h4 => ?_)
  refine EV.l (lv' := [(0, _), (1, _), (2, _)]) r_X11_readTwo_15 rfl ?_
  refine EV.o r_X11_readTwo_16 (bpN (44) 44) ?_
  refine EV.cu r_X11_readTwo_18 (aV1 mt_182 la_106) (m_sign (h4.1).1 gb (by omega) (h4.1).2.1 (by decide) (by decide) (by decide) (by decide) (by omega)) (fun I5 h5 => ?_)
  have s5 : LSm g n (k + 1) ((sub (((l, .inl (nxp g n s)) : LX).1, tkS g n 91 ((l, .inl (nxp g n s)) : LX).2)).1, tkS g n 44 (sub (((l, .inl (nxp g n s)) : LX).1, tkS g n 91 ((l, .inl (nxp g n s)) : LX).2)).2) I5 := (h4.1 : LSm g n (k + 1) (sub (((l, .inl (nxp g n s)) : LX).1, tkS g n 91 ((l, .inl (nxp g n s)) : LX).2)) I4).sgn h5.1 h5.2
  refine EV.l (lv' := [(0, _), (1, _), (2, _)]) r_X11_readTwo_21 rfl ?_
  refine EV.cu r_X11_readTwo_22 (aV0 mt_197 la_106) (ih (by omega) d' I5 J ((sub (((l, .inl (nxp g n s)) : LX).1, tkS g n 91 ((l, .inl (nxp g n s)) : LX).2)).1, tkS g n 44 (sub (((l, .inl (nxp g n s)) : LX).1, tkS g n 91 ((l, .inl (nxp g n s)) : LX).2)).2) (by omega) s5) (fun I6 h6 => ?_)
  refine EV.l (lv' := [(0, _), (1, _), (2, _)]) r_X11_readTwo_25 rfl ?_
  refine EV.o r_X11_readTwo_26 (bpN (93) 93) ?_
  refine EV.cu r_X11_readTwo_28 (aV1 mt_182 la_106) (m_sign (h6.1).1 gb (by omega) (h6.1).2.1 (by decide) (by decide) (by decide) (by decide) (by omega)) (fun I7 h7 => ?_)
  have s7 : LSm g n (k + 1) ((sub ((sub (((l, .inl (nxp g n s)) : LX).1, tkS g n 91 ((l, .inl (nxp g n s)) : LX).2)).1, tkS g n 44 (sub (((l, .inl (nxp g n s)) : LX).1, tkS g n 91 ((l, .inl (nxp g n s)) : LX).2)).2)).1, tkS g n 93 (sub ((sub (((l, .inl (nxp g n s)) : LX).1, tkS g n 91 ((l, .inl (nxp g n s)) : LX).2)).1, tkS g n 44 (sub (((l, .inl (nxp g n s)) : LX).1, tkS g n 91 ((l, .inl (nxp g n s)) : LX).2)).2)).2) I7 := (h6.1 : LSm g n (k + 1) (sub ((sub (((l, .inl (nxp g n s)) : LX).1, tkS g n 91 ((l, .inl (nxp g n s)) : LX).2)).1, tkS g n 44 (sub (((l, .inl (nxp g n s)) : LX).1, tkS g n 91 ((l, .inl (nxp g n s)) : LX).2)).2)) I6).sgn h7.1 h7.2
  refine EV.l (lv' := [(0, _), (1, _), (2, _)]) r_X11_readTwo_31 rfl ?_
  refine EV.o r_X11_readTwo_32 rfl ?_
  refine EV.getV r_X11_readTwo_33 la_106 (s7.2.2.1) ?_
  refine EV.o r_X11_readTwo_36 (icN (1) (v := 1)) ?_
  refine EV.o r_X11_readTwo_37 (isubN) ?_
  refine EV.pIn r_X11_readTwo_38 la_106 (fun I8 e8 => ?_)
  have d8 := s7.dn (k2 := k) e8
  refine EV.l (lv' := [(0, _), (1, _), (2, _)]) r_X11_readTwo_41 rfl ?_
  refine EV.l (lv' := [(0, _), (1, _), (2, _)]) r_X11_readTwo_42 rfl ?_
  refine EV.o r_X11_readTwo_43 (icN (0) (v := 0)) ?_
  refine EV.cu r_X11_readTwo_44 (aV2 mt_195 la_106) (m_emit (x := ((sub ((sub (l, tkS g n 91 (.inl (nxp g n s)))).1, tkS g n 44 (sub (l, tkS g n 91 (.inl (nxp g n s)))).2)).1, tkS g n 93 (sub ((sub (l, tkS g n 91 (.inl (nxp g n s)))).1, tkS g n 44 (sub (l, tkS g n 91 (.inl (nxp g n s)))).2)).2)) (w := w) (o := 0) d8.1 hn (fun s2 e => by obtain ⟨s9, e9, h9⟩ := tkS_q e; exact Nat.lt_of_le_of_lt (h6.1.2.2.2 s9 e9).2 h9.1) (fun _ _ => rfl) (by omega)) (fun I9 h9 => ?_)
  exact EV.ru r_X11_readTwo_47 (by unfold twoG; rw [if_pos ho]; exact ⟨h9.1, (((((((h2.2).tr (h3.2.lg)).tr (h4.2)).tr (h5.2.lg)).tr (h6.2)).tr (h7.2.lg)).tr (d8.2)).tr (h9.2)⟩)
theorem m_two0 {d : Nat} {I : Nat → Nat → Int32} {J : Nat → Nat → Int64} {g : Nat → Nat} {n s : Nat} {l : LW} (hn : n ≤ 150) (ls : LSm g n 6 (l, .inl s) I) {sub : LX → LX} (a4 : I 106 4 = nI s) {b w : Int32}  (hd : 6 ≤ d) : RU d 199 [.ref 106, .int b, .int w] I J (fun I' => LSm g n 6 (l, .inr (3, s)) I' ∧ LG I I') := by
  refine RU.in (d0 := 5) hd mt_199 (Nat.le_of_ble_eq_true rfl) (fun d' hd' => ?_)
  show EV none M_X11_readTwo d' 0 [(0, .ref 106), (1, .int b), (2, .int w)] [] (hp I J) _
  refine EV.l (lv' := [(0, _), (1, _), (2, _)]) r_X11_readTwo_0 rfl ?_
  refine EV.l (lv' := [(0, _), (1, _), (2, _)]) r_X11_readTwo_1 rfl ?_
  refine EV.cu r_X11_readTwo_2 (aV1 mt_196 la_106) (m_open0 hn ls a4 (by omega)) (fun I2 h2 => ?_)
  have mb := h2.1.mb
  refine EV.l (lv' := [(0, _), (1, _), (2, _)]) r_X11_readTwo_5 rfl ?_
  refine EV.o r_X11_readTwo_6 (bpN (91) 91) ?_
  refine EV.cu r_X11_readTwo_8 (aV1 mt_182 la_106) (m_signB mb (by omega) (by omega)) (fun IQ eQ => ?_)
  subst eQ
  refine EV.l (lv' := [(0, _), (1, _), (2, _)]) r_X11_readTwo_11 rfl ?_
  refine EV.cu r_X11_readTwo_12 (aV0 mt_197 la_106) (m_sumB (q := (3, s)) hn mb (by omega)) (fun IQ eQ => ?_)
  subst eQ
  refine EV.l (lv' := [(0, _), (1, _), (2, _)]) r_X11_readTwo_15 rfl ?_
  refine EV.o r_X11_readTwo_16 (bpN (44) 44) ?_
  refine EV.cu r_X11_readTwo_18 (aV1 mt_182 la_106) (m_signB mb (by omega) (by omega)) (fun IQ eQ => ?_)
  subst eQ
  refine EV.l (lv' := [(0, _), (1, _), (2, _)]) r_X11_readTwo_21 rfl ?_
  refine EV.cu r_X11_readTwo_22 (aV0 mt_197 la_106) (m_sumB (q := (3, s)) hn mb (by omega)) (fun IQ eQ => ?_)
  subst eQ
  refine EV.l (lv' := [(0, _), (1, _), (2, _)]) r_X11_readTwo_25 rfl ?_
  refine EV.o r_X11_readTwo_26 (bpN (93) 93) ?_
  refine EV.cu r_X11_readTwo_28 (aV1 mt_182 la_106) (m_signB mb (by omega) (by omega)) (fun IQ eQ => ?_)
  subst eQ
  refine EV.l (lv' := [(0, _), (1, _), (2, _)]) r_X11_readTwo_31 rfl ?_
  refine EV.o r_X11_readTwo_32 rfl ?_
  refine EV.getV r_X11_readTwo_33 la_106 (h2.1.2.2.1) ?_
  refine EV.o r_X11_readTwo_36 (icN (1) (v := 1)) ?_
  refine EV.o r_X11_readTwo_37 (isubL (z := 6) rfl) ?_
  refine EV.pIn r_X11_readTwo_38 la_106 (fun I3 e3 => ?_)
  have d3 := h2.1.dn (k2 := 6) e3
  refine EV.l (lv' := [(0, _), (1, _), (2, _)]) r_X11_readTwo_41 rfl ?_
  refine EV.l (lv' := [(0, _), (1, _), (2, _)]) r_X11_readTwo_42 rfl ?_
  refine EV.o r_X11_readTwo_43 (icN (0) (v := 0)) ?_
  refine EV.cu r_X11_readTwo_44 (aV2 mt_195 la_106) (m_emitB (q := (3, s)) hn d3.1.mb (by omega)) (fun I4 e4 => ?_)
  subst e4
  exact EV.ru r_X11_readTwo_47 (⟨d3.1, h2.2.tr d3.2⟩)
