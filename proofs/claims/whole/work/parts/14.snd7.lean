/-! A call of the interpreter is a call of the machine. -/
/-- what a program checks of a method -/
def methOK (cl : List vw_C) (MT : List MI) (TS : List (String × Nat × String)) (M : MI) : Prop := ∀ wd : Cond → Prop, (∀ w ∈ TW, wd w) →
  mrow wd TW M ∧ (∀ h ∈ M.hd, hdOK wd M.nm.cls h) ∧ ∀ pc i len a b, xlk M.rw pc = some (i, len, a, b) → rowOK wd TW cl MT TS M pc i len a b
def clsTW (cl : List vw_C) (fty : Nat → Nat → FieldType) : Prop := ∀ (a : Nat) (q : vw_C), cl[a]? = some q → (∀ w ∈ u_ws q.1 q.2.1 q.2.2, w ∈ TW) ∧ (∀ k, k < q.2.2 → parseFieldDescriptor (q.2.1 k).2.2.1 = some (fty a k)) ∧
    (∀ x, x < q.2.2 → ∀ y, y < q.2.2 → x ≠ y → (q.2.1 x).2.1 ≠ (q.2.1 y).2.1) ∧ ∀ k, k < q.2.2 → dfl (fty a k) = defaultValue (fty a k)
theorem lv_args_cv (ad : Nat → Nat) : ∀ (as : List Value) (i : Nat), lv_args i (as.map (cv ad)) = cl2 ad (lv_args i as) := by
  intro as
  induction as with
  | nil => intro i; rfl
  | cons v vs ih =>
    intro i
    show (i, cv ad v) :: lv_args (if (cv ad v).category = 2 then i + 2 else i + 1) (vs.map (cv ad)) = (i, cv ad v) :: cl2 ad (lv_args (if v.category = 2 then i + 2 else i + 1) vs)
    rw [cv_cat, ih]
theorem lg_sl_cv (ad : Nat → Nat) (as : List Value) : (lg_sl (as.map (cv ad))).length = (lg_sl as).length := by
  induction as with
  | nil => rfl
  | cons v vs ih =>
    unfold lg_sl at ih ⊢
    rw [List.map_cons, List.flatMap_cons, List.flatMap_cons, List.length_append, List.length_append, ih, cv_cat]
    split <;> rfl
theorem va_P_more {D : va_G} {cl : List vw_C} {ws : va_W} {H H1 : Heap} (h : va_P D cl ws H) (hq : ∀ q : Nat, q < H.size → H1[q]? = H[q]?) : va_P D cl ws H1 := fun k q hk => (h k q hk).kept (hq _ (h k q hk).lt)
section SND7
variable {l : Launch} {cl : List vw_C} {fty : Nat → Nat → FieldType} {MT : List MI} {TXT : List (List Nat)} {TS : List (String × Nat × String)}
set_option maxHeartbeats 4000000 in
theorem body_sound (hl : l.stackTraces = false) (hcl : clsTW cl fty) (hTXT : ∀ t ∈ TXT, t.length < 2 ^ 31 ∧ ∀ x ∈ t, x < 256) (N : Nat) {d : Nat} {orc : Nat → List Value → AH → Option Res} (horc : ∀ k as G r, orc k as G = some r → ∃ M' : MI, MT[k]? = some M' ∧ Snd l TW cl TS TXT M' d as G r)
    {M : MI} (hM : methOK cl MT TS M) {as : List Value} {G : AH} {r : Res} (has : (lg_sl as).length ≤ M.ml) (h : run cl fty MT TXT none orc M N (0, lv_args 0 as, [], G, 0, 0) = some r)
    {D : va_G} {cI cL : Nat} {ad : Nat → Nat} {A : Nat → Prop} {p : Program} {e : Env} {s : State} {m : MethodId} {args : Array Value} {below : List Frame} {meth : Method} {c : Code} {s₁ : State}
    (B : BodyLoose p l M.nm (headSpec (codeW M :: TW) (rm9 (d + 1) r.2.2.1 r.2.2.2)) M.by M.ml M.rt e s m args below meth c s₁) (hml : c.maxLocals = M.ml)
    (hexc : c.exceptionTable.toList.map (fun h => (h.startPc, h.endPc, h.handlerPc, h.catchType)) = M.hd.map (fun h => (h.1, h.2.1, h.2.2.1, h.2.2.2.1)))
    (hv : KPc cl TS TXT D cI cL ad A as G args s) :
    W p l e (headSpec (codeW M :: TW) (rm9 (d + 1) r.2.2.1 r.2.2.2)).room s m args below meth c s.heap [] 0 0 (vx_MQ below (KQ cl D cI cL ad A G.length r.2.1 r.1) (KX cl D cI cL ad A G.length r.2.1 r.1) args s r.2.2.1 r.2.2.2 A) (entryFrame m args M.ml) := by
  obtain ⟨rfl, hE, hP, hD, hA⟩ := hv
  have hx := B.exec
  have hb := B.bytes
  have hr := B.returns
  have hlocks := B.notSynchronized
  have hts : ∀ w ∈ TW, w.before (as.map (cv ad)).toArray s = true := fun w hw => atoms_spec (ws := codeW M :: TW) B.pre w (List.mem_cons_of_mem _ hw)
  obtain ⟨hm1, hm2, hm3⟩ := hM (fun w => w.before (as.map (cv ad)).toArray s = true) hts
  have hown : s.vm.findClass M.nm.cls = some m.cls := findClass_of_methodNamed B.named
  have hnm := (name_of_methodNamed B.named B.method).1
  have hl0 := lv_entry (as.map (cv ad)) (n := M.ml) (by rw [lg_sl_cv]; exact has)
  rw [lg_entry_eq]
  generalize (lg_sl (as.map (cv ad)) ++ List.replicate (M.ml - (lg_sl (as.map (cv ad))).length) Slot.unset).toArray = ls at hl0 ⊢
  rw [lv_args_cv] at hl0
  have hroom : (headSpec (codeW M :: TW) (rm9 (d + 1) r.2.2.1 r.2.2.2)).room = rm9 (d + 1) r.2.2.1 r.2.2.2 := rfl
  rw [hroom]
  have hf1 := rm9_f (d + 1) r.2.2.1 r.2.2.2
  have hf2 := rm9_l (d + 1) r.2.2.1 r.2.2.2
  refine run_sound (sc := none) (ad0 := ad) (n0 := G.length) hx hb hml hown hts hA ⟨hts, hcl⟩ (fun q => hnm.trans q) hTXT (fun q hq => nomatch hq) (Or.inr hexc) hm2 hm3 horc (by omega) (by omega) (r := r) ⟨Nat.le_refl _, Nat.le_refl _⟩ ?_ ?_ ?_ N _ h ls s.heap [] ad hl0 ⟨⟨Nat.le_refl _, fun _ => rfl, fun _ _ => rfl, hP, hD⟩, va_S.rf, hE⟩
  · -- returns
    intro v i st pc ls1 H1 locs1 ad1 hrv hdc hro hI
    obtain ⟨hKW, hS, -⟩ := hI
    have hq : ∀ t : State, t.heap = H1 → KQ cl D cI cL ad A G.length r.2.1 r.1 (as.map (cv ad)).toArray s (.returned (v.map (cv ad1))) t := by
      intro t ht
      rw [hrv]
      exact ⟨⟨ad1, rfl, by rw [ht]; exact hKW⟩, hS.F ht⟩
    unfold retop at hro
    split at hro
    · split at hro
      · cases hro
        exact vx_ret (W.iret hx hb (hr.trans (by assumption)) (fun t ht _ => hq t ht) hS.2.2 hdc)
      · split at hro
        · rename_i hv01
          cases hro
          exact vx_ret (W.zret (ty := .boolean) hx hb (hr.trans (by assumption)) (by rcases hv01 with rfl | rfl <;> rfl) (fun t ht _ => hq t ht) hS.2.2 hdc)
        · cases hro
      · cases hro
    · split at hro
      · cases hro
        exact vx_ret (W.lret hx hb (hr.trans (by assumption)) (fun t ht _ => hq t ht) hS.2.2 hdc)
      · cases hro
    · split at hro
      · cases hro
        exact vx_ret (W.vret hx hb (hr.trans (by assumption)) (fun t ht _ => hq t ht) hS.2.2 hdc)
      · cases hro
    · cases hro
  · -- throws on
    intro ex pc ls1 rest H1 locs1 ad1 q ce hrx hno hI hq hcv hcc
    obtain ⟨hKW, hS, -⟩ := hI
    refine vx_out (fun x hxm => ?_) hlocks hq hcv hcc (fun t ht _ => ?_) hS.2.2 (Nat.le_refl _) (Nat.le_refl _)
    · have h1 : (x.startPc, x.endPc, x.handlerPc, x.catchType) ∈ M.hd.map (fun h => (h.1, h.2.1, h.2.2.1, h.2.2.2.1)) := by rw [← hexc]; exact List.mem_map.mpr ⟨x, hxm, rfl⟩
      obtain ⟨y, hy, hyx⟩ := List.mem_map.mp h1
      simp only [Prod.mk.injEq] at hyx
      have h2 := List.all_eq_true.mp hno y hy
      simp only [Bool.or_eq_true, decide_eq_true_eq] at h2
      simp only [covers, ← hyx.1, ← hyx.2.1, Bool.and_eq_false_iff, decide_eq_false_iff_not]
      omega
    · rw [hrx]
      exact ⟨rfl, ⟨ad1, by rw [ht]; exact hKW⟩, hS.F ht⟩
  · -- throws
    intro idx len a b pc st ls1 H1 locs1 ad1 G1 c1 z1 hrow ha hhd hw8 hre hls hI
    obtain ⟨hKW, hS, hE1⟩ := hI
    obtain ⟨d1, d2, -, -, -, -, -, d8⟩ := hm3 _ _ _ _ _ hrow
    have d2 : len = 3 := by
      rcases d2 with d2 | ⟨_, _, _, _, d2⟩ | ⟨_, _, d2⟩
      · exact d2
      · cases d2
      · cases d2
    subst d2
    obtain ⟨ix, rx, is, ic, sid, tx, t1, t2, t3, t4, t5, t6, t7, t8, t9, t10, t11, t12, t13, t14⟩ := d8 ha
    have hro : r.1 = .inr (a - 1000) ∧ r.2.1 = G1 ∧ r.2.2.1 = c1 + 1 ∧ r.2.2.2 = z1 + 6 := by rw [hre]; exact ⟨rfl, rfl, rfl, rfl⟩
    obtain ⟨e1, e2, e3, e4⟩ := hro
    refine xs_throw hx hb hl hown t12 (by decide) t1 t2 t3 t4 t9 t10 (hE.2.1 sid _ t11) t13 ?_ hE.2.2.2.1 hE.2.2.2.2.1 hS (hls.trans hml.symm) d1 t5 t6 t7 t8 ?_ (by show 2 + 3 < _; omega) (by rw [cv_wcs]; show _ + (13 * (2 + 1) + 43) ≤ _; omega) (by show c1 + 1 ≤ (rm9 (d + 1) r.2.2.1 r.2.2.2).cells; rw [show (rm9 (d + 1) r.2.2.1 r.2.2.2).cells = r.2.2.1 from rfl]; omega) (by show z1 + 6 ≤ (rm9 (d + 1) r.2.2.1 r.2.2.2).slots; rw [show (rm9 (d + 1) r.2.2.1 r.2.2.2).slots = r.2.2.2 from rfl]; omega) hlocks (fun t _ g1 g2 => ?_) hS.2.2 (by omega) (by omega)
    · intro w hw
      rcases List.mem_cons.mp hw with rfl | hw
      · rfl
      · rcases List.mem_cons.mp hw with rfl | hw
        · rfl
        · exact List.all_eq_true.mp t14 w hw
    · intro x hxm
      rw [hhd, List.map_nil] at hexc
      have h3 : c.exceptionTable.toList = [] := List.map_eq_nil_iff.mp hexc
      rw [h3] at hxm
      cases hxm
    · rw [e1, e2]
      obtain ⟨k1, k2, k3, k4, k5⟩ := hKW
      refine ⟨rfl, ⟨ad1, k1, k2, k3, va_P_more k4 g2, k5⟩, Nat.le_trans hS.1 g1, fun q hq hAq => ?_⟩
      rw [g2 q (Nat.lt_of_lt_of_le hq hS.1)]
      exact hS.2.1 q hq hAq
set_option maxHeartbeats 1000000 in
theorem call_sound (hl : l.stackTraces = false) (hcl : clsTW cl fty) (hTXT : ∀ t ∈ TXT, t.length < 2 ^ 31 ∧ ∀ x ∈ t, x < 256) (hMT : ∀ (k : Nat) (M : MI), MT[k]? = some M → methOK cl MT TS M) (N : Nat) :
    ∀ (d k : Nat) (as : List Value) (G : AH) (r : Res), call cl fty MT TXT N d k as G = some r → ∃ M : MI, MT[k]? = some M ∧ Snd l TW cl TS TXT M d as G r := by
  intro d
  induction d with
  | zero => intro k as G r h; cases h
  | succ d ih =>
    intro k as G r h
    unfold call at h
    split at h
    · cases h
    · rename_i M hM
      split at h
      · rename_i has
        refine ⟨M, hM, fun D cI cL ad A => ?_⟩
        have hok := hMT k M hM
        have hplain : plainName M.nm.cls = true := (hok (fun _ => True) (fun _ _ => trivial)).1.2.2.2.2.2
        cases hhd : M.hd with
        | nil =>
          refine vx_ofW (cc := M.by) (maxL := M.ml) (ret := M.rt) hplain (by rw [codeW_nil hhd]) ?_
          intro p e s m args below meth c s₁ B hml hno hv
          refine body_sound hl hcl hTXT N ih hok has h B hml ?_ hv
          rw [hhd]
          cases hex : c.exceptionTable.toList with
          | nil => rfl
          | cons x xs => exact (hno x (by rw [hex]; exact List.mem_cons_self)).elim
        | cons h9 hs9 =>
          have hcw : codeW M = .codeWith M.nm M.by M.ml M.rt (M.hd.map fun h => (h.1, h.2.1, h.2.2.1, h.2.2.2.1)) := by
            unfold codeW
            rw [hhd]
          refine vx_ofWH (cc := M.by) (maxL := M.ml) (ret := M.rt) (hh := M.hd.map fun h => (h.1, h.2.1, h.2.2.1, h.2.2.2.1)) hplain (by rw [hcw]) ?_
          intro p e s m args below meth c s₁ B hml hv
          refine body_sound hl hcl hTXT N ih hok has h B hml ?_ hv
          have hw := atoms_spec (ws := codeW M :: TW) B.pre _ List.mem_cons_self
          rw [hcw] at hw
          obtain ⟨m9, meth9, c9, hn9, hm9, hc9, -, -, hx9, -⟩ := Cond.codeWith_spec hw
          cases Option.some.inj (hn9.symm.trans B.named)
          cases Option.some.inj (hm9.symm.trans B.method)
          cases Option.some.inj (hc9.symm.trans (Stand.of_body B).code)
          exact hx9
      · cases h
end SND7
