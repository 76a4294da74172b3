/-! A run of the interpreter is a run of the machine. -/
def lrow (wd : Cond → Prop) (TS : List (String × Nat × String)) (own : String) (i : Instr) (a b : Nat) : Prop := match i with
  | .ldc idx => if b = 0 then wd (.constant own idx (Int32.ofNat a)) else ∃ tx, TS[a]? = some (own, idx, tx)
  | .ldc_w idx => if b = 0 then wd (.constant own idx (Int32.ofNat a)) else ∃ tx, TS[a]? = some (own, idx, tx)
  | .ldc2_w idx => wd (.constantLong own idx (Int64.ofNat a))
  | _ => True
def irow (wd : Cond → Prop) (Ts : List Cond) (cl : List vw_C) (MT : List MI) (own : String) (i : Instr) (a : Nat) : Prop := match i with
  | .invokestatic idx => (a = 900 ∧ wd (.methodLink own idx Lib.Math.min.name) ∧ wd (.static Lib.Math.min.name) ∧ wd (.initialized "java/lang/Math") ∧ wd (.code Lib.Math.min.name Lib.Math.min.code 2 (some .int))) ∨
      (a = 901 ∧ wd (.methodLink own idx Lib.Math.max.name) ∧ wd (.static Lib.Math.max.name) ∧ wd (.initialized "java/lang/Math") ∧ wd (.code Lib.Math.max.name Lib.Math.max.code 2 (some .int))) ∨
      (a < 900 ∧ ∃ M : MI, MT[a]? = some M ∧ mrow wd Ts M ∧ link wd own idx M ∧ wd (.static M.nm))
  | .invokevirtual idx => (a = 902 ∧ wd (.methodLink own idx yj_len)) ∨ (a = 903 ∧ wd (.methodLink own idx yj_chr)) ∨
      (a < 900 ∧ ∃ M : MI, MT[a]? = some M ∧ mrow wd Ts M ∧ M.hd = [] ∧ link wd own idx M ∧ wd (.instanceMethod M.nm) ∧ wd (.selects M.nm.cls M.nm M.nm) ∧ ∃ q : vw_C, cl[M.own]? = some q ∧ q.1 = M.nm.cls)
  | .invokespecial idx => (a = 904 ∧ wd (.methodLink own idx objectInit) ∧ wd (.instanceMethod objectInit) ∧ wd (.code objectInit ⟨#[0xb1]⟩ 1 none)) ∨
      (a < 900 ∧ ∃ M : MI, MT[a]? = some M ∧ mrow wd Ts M ∧ M.hd = [] ∧ M.rt = none ∧ M.nm.name = "<init>" ∧ link wd own idx M ∧ wd (.instanceMethod M.nm))
  | _ => True
/-- 'throw new E(text)' at this place -/
def trow (wd : Cond → Prop) (TS : List (String × Nat × String)) (M : MI) (i : Instr) (a pc : Nat) : Prop := match i with
  | .new idx => 1000 ≤ a → ∃ (ix : Nat) (rx : ByteArray) (is ic sid : Nat) (tx : String), decode rx 0 = .ok (.aload_n 0, 1) ∧ decode rx 1 = .ok (.aload_n 1, 1) ∧ decode rx 2 = .ok (.invokespecial ix, 3) ∧ decode rx 5 = .ok (.return_, 1) ∧
      decode M.by (pc + 3) = .ok (.dup, 1) ∧ decode M.by (pc + 4) = .ok (.ldc_w is, 3) ∧ decode M.by (pc + 7) = .ok (.invokespecial ic, 3) ∧ decode M.by (pc + 10) = .ok (.athrow, 1) ∧
      wd (.classLink M.nm.cls idx (excN (a - 1000))) ∧ wd (.initialized (excN (a - 1000))) ∧ TS[sid]? = some (M.nm.cls, is, tx) ∧ Bundle.fit (excN (a - 1000)) = true ∧
      (∀ w ∈ (xs_atoms M.nm.cls ic (excN (a - 1000)) ix rx excS).filter vx_no, wd w) ∧ ((xs_atoms M.nm.cls ic (excN (a - 1000)) ix rx excS).filter vx_no).all vx_ot = true
  | _ => True
def rowOK (wd : Cond → Prop) (Ts : List Cond) (cl : List vw_C) (MT : List MI) (TS : List (String × Nat × String)) (M : MI) (pc : Nat) (i : Instr) (len a b : Nat) : Prop :=
  decode M.by pc = .ok (i, len) ∧ (len = ilen i ∨ (∃ d lo hi offs, i = .tableswitch d lo hi offs) ∨ ∃ d ps, i = .lookupswitch d ps) ∧ jok i a pc ∧ hrow wd cl M.nm.cls (decide (M.nm.name = "<init>")) i a b ∧
  nrow wd cl M.nm.cls i a ∧ lrow wd TS M.nm.cls i a b ∧ irow wd Ts cl MT M.nm.cls i a ∧ trow wd TS M i a pc
def hdOK (wd : Cond → Prop) (own : String) (h : HD) : Prop := h.2.2.2.1 ≠ 0 ∧ h.2.2.2.2 < 2 ∧ wd (.classLink own h.2.2.2.1 (excN h.2.2.2.2)) ∧ wd (.castable (excN h.2.2.2.2) (excN h.2.2.2.2))
theorem hop_len {fty : Nat → Nat → FieldType} {sc : Option (Nat × (Nat → Int32))} {i : Instr} {a b : Nat} {st st' : List Value} {G G' : AH} (h : heapop fty sc i a b st G = some (st', G')) : G'.length = G.length := by
  unfold heapop at h
  repeat' split at h
  all_goals first
    | cases h; done
    | (cases h; rfl)
    | (cases h; exact List.length_set ..)
theorem newop_inr {cn : List vw_C} {fty : Nat → Nat → FieldType} {hd : List HD} {i : Instr} {len a pc : Nat} {lv : LV} {st : List Value} {G : AH} {c z : Nat} {r : Res} (h : newop cn fty hd i len a pc lv st G c z = some (.inr r)) :
    (∃ idx, i = .new idx) ∧ 1000 ≤ a ∧ hd = [] ∧ wcs st ≤ 8 ∧ r = (.inr (a - 1000), G, c + 1, z + 6) := by
  unfold newop at h
  split at h
  · split at h
    · split at h
      · rename_i h1 h2
        cases h
        exact ⟨⟨_, rfl⟩, h1, h2.1, h2.2, rfl⟩
      · cases h
    · repeat' split at h
      all_goals cases h
  · repeat' split at h
    all_goals cases h
  · cases h
theorem newop_mono {cn : List vw_C} {fty : Nat → Nat → FieldType} {hd : List HD} {i : Instr} {len a pc : Nat} {lv : LV} {st : List Value} {G : AH} {c z : Nat} {cf : Cfg} (h : newop cn fty hd i len a pc lv st G c z = some (.inl cf)) : c ≤ cf.2.2.2.2.1 ∧ z ≤ cf.2.2.2.2.2 := by
  unfold newop at h
  repeat' split at h
  all_goals first
    | cases h; done
    | (cases h; exact ⟨Nat.le_add_right _ _, Nat.le_add_right _ _⟩)
def ge1 (c z : Nat) (o : Cfg ⊕ Res) : Prop := match o with
  | .inl cf => c ≤ cf.2.2.2.2.1 ∧ z ≤ cf.2.2.2.2.2
  | .inr r => c ≤ r.2.2.1 ∧ z ≤ r.2.2.2
theorem calls_mono {orc : Nat → List Value → AH → Option Res} {TXT : List (List Nat)} {hd : List HD} {rw : List XR} {ml tg pc : Nat} {lv : LV} {as rest : List Value} {G : AH} {c z : Nat} {o : Cfg ⊕ Res} (h : calls orc TXT hd rw ml tg pc lv as rest G c z = some o) : ge1 c z o := by
  unfold calls at h
  repeat' split at h
  all_goals first
    | cases h; done
    | (cases h; exact ⟨Nat.le_add_right _ _, Nat.le_add_right _ _⟩)
/-- what a callee used is within what came of it -/
def ge2 (c z : Nat) (r1 : Res) (o : Cfg ⊕ Res) : Prop := match o with
  | .inl cf => c + r1.2.2.1 ≤ cf.2.2.2.2.1 ∧ z + r1.2.2.2 ≤ cf.2.2.2.2.2
  | .inr r => c + r1.2.2.1 ≤ r.2.2.1 ∧ z + r1.2.2.2 ≤ r.2.2.2
section SND4
variable {p : Program} {l : Launch} {e : Env} {R : Room} {s : State} {m : MethodId} {args : Array Value} {below : List Frame} {meth : Method} {c : Code} {H : Heap} {locs : List Loc} {cells slots : Nat} {Q : State → Prop}
variable {D : va_G} {cl : List vw_C} {cI cL : Nat} {A : Nat → Prop} {fty : Nat → Nat → FieldType} {Ts : List Cond} {TS : List (String × Nat × String)} {TXT : List (List Nat)} {MT : List MI} {M : MI} {ad0 : Nat → Nat} {n0 : Nat}
/-- the world in a run -/
def INV (cl : List vw_C) (TS : List (String × Nat × String)) (TXT : List (List Nat)) (D : va_G) (cI cL : Nat) (A : Nat → Prop) (ad0 : Nat → Nat) (n0 : Nat) (s : State) (ad : Nat → Nat) (G : AH) (H : Heap) (locs : List Loc) : Prop :=
  KW cl D cI cL ad0 A n0 G ad H ∧ va_S A s.heap H locs ∧ ENV cl TS TXT D cI cL ad A s s.heap
theorem INV.step {ad ad1 : Nat → Nat} {G G1 : AH} {H H1 : Heap} {locs locs1 : List Loc} (h : INV cl TS TXT D cI cL A ad0 n0 s ad G H locs) (hk : KW cl D cI cL ad A G.length G1 ad1 H1) (hS : va_S A s.heap H1 locs1) : INV cl TS TXT D cI cL A ad0 n0 s ad1 G1 H1 locs1 := by
  obtain ⟨⟨k1, k2, k3, k4, k5⟩, -, h3⟩ := h
  obtain ⟨j1, j2, j3, j4, j5⟩ := hk
  refine ⟨⟨by omega, fun q => ?_, fun i hi => ?_, j4, j5⟩, hS, h3.re (fun i hi => j3 i (Or.inr hi))⟩
  · rw [j2 (by omega), k2 (by omega)]
  · rw [j3 i (by omega), k3 i hi]
theorem INV.keep {ad : Nat → Nat} {G G1 : AH} {H H1 : Heap} {locs locs1 : List Loc} (h : INV cl TS TXT D cI cL A ad0 n0 s ad G H locs) (hl : G1.length = G.length) (hP : va_P D cl (cW cI cL ad G1) H1) (hD : va_D A (cW cI cL ad G1)) (hS : va_S A s.heap H1 locs1) : INV cl TS TXT D cI cL A ad0 n0 s ad G1 H1 locs1 :=
  h.step ⟨by omega, fun _ => rfl, fun _ _ => rfl, hP, hD⟩ hS
theorem lv_tail {ls : Array Slot} {n : Nat} {q : Nat × Value} {l : List (Nat × Value)} (h : lv_has ls n (q :: l)) : lv_has ls n l := ⟨h.1, h.2.1, fun x hx => h.2.2 x (List.mem_cons_of_mem _ hx)⟩
theorem cl2_fil (ad : Nat → Nat) (lv : LV) (k : Nat) : (cl2 ad lv).filter (fun q => !(q.1 == k) && !(q.1 + 1 == k && q.2.category == 2)) = cl2 ad (lv.filter (fun q => !(q.1 == k) && !(q.1 + 1 == k && q.2.category == 2))) := by
  unfold cl2
  rw [List.filter_map]
  congr 1
  refine List.filter_congr fun q _ => ?_
  simp [Function.comp, cv_cat]
theorem hfind_spec : ∀ (hd : List HD) (pc e h : Nat), hfind hd pc e = some h → ∃ pre x suf, hd = pre ++ x :: suf ∧ x.2.2.1 = h ∧ x.1 ≤ pc ∧ pc < x.2.1 ∧ x.2.2.2.2 = e ∧ ∀ y ∈ pre, ¬ (y.1 ≤ pc ∧ pc < y.2.1) ∨ y.2.2.2.2 ≠ e := by
  intro hd
  induction hd with
  | nil => intro pc e h hh; cases hh
  | cons y ys ih =>
    intro pc e h hh
    unfold hfind at hh
    split at hh
    · rename_i hc
      cases hh
      exact ⟨[], y, ys, rfl, rfl, hc.1, hc.2.1, hc.2.2, fun z hz => nomatch hz⟩
    · rename_i hc
      obtain ⟨pre, x, suf, e1, e2, e3, e4, e5, e6⟩ := ih pc e h hh
      refine ⟨y :: pre, x, suf, by rw [e1]; rfl, e2, e3, e4, e5, fun z hz => ?_⟩
      rcases List.mem_cons.mp hz with rfl | hz
      · by_cases h1 : z.1 ≤ pc ∧ pc < z.2.1
        · exact Or.inr fun h2 => hc ⟨h1.1, h1.2, h2⟩
        · exact Or.inl h1
      · exact e6 z hz
theorem excN_ne {a b : Nat} (ha : a < 2) (hb : b < 2) (h : a ≠ b) (h1 : va_Nc (excN 0) (excN 1) s) (h2 : va_Nc (excN 1) (excN 0) s) : va_Nc (excN b) (excN a) s := by
  rcases (show (a = 0 ∧ b = 1) ∨ (a = 1 ∧ b = 0) by omega) with ⟨rfl, rfl⟩ | ⟨rfl, rfl⟩
  · exact h2
  · exact h1
set_option maxHeartbeats 2000000 in
/-- behind a call of a method of the table -/
theorem calls_sound (hx : p.tables.exec = Jvm.exec) (hb : c.code = M.by) (hown : s.vm.findClass M.nm.cls = some m.cls)
    (hexc : M.hd = [] ∨ c.exceptionTable.toList.map (fun h => (h.startPc, h.endPc, h.handlerPc, h.catchType)) = M.hd.map (fun h => (h.1, h.2.1, h.2.2.1, h.2.2.2.1))) (hhd : ∀ h ∈ M.hd, hdOK (fun w => w.before args s = true) M.nm.cls h)
    (hrows : ∀ pc i len a b, xlk M.rw pc = some (i, len, a, b) → rowOK (fun w => w.before args s = true) Ts cl MT TS M pc i len a b)
    {orc : Nat → List Value → AH → Option Res} {tg pc : Nat} {lv : LV} {as st rest : List Value} {G : AH} {ad : Nat → Nat} {ls : Array Slot} {o : Cfg ⊕ Res} (htg : tg < 900) (hI : INV cl TS TXT D cI cL A ad0 n0 s ad G H locs) (hlv : lv_has ls M.ml (cl2 ad lv))
    (h : calls orc TXT M.hd M.rw M.ml tg pc lv as rest G cells slots = some o) {av : Array Value}
    (hget : ∀ r1 : Res, orc tg as G = some r1 → ge2 cells slots r1 o → vx_Run p l e R s m args below meth c H locs cells slots r1.2.2.1 r1.2.2.2 (F0 m pc ls (st.map (cv ad))) (rest.map (cv ad)) (KQ cl D cI cL ad A G.length r1.2.1 r1.1 av) (KX cl D cI cL ad A G.length r1.2.1 r1.1) A)
    (k : ∀ (cf : Cfg) (H1 : Heap) (locs1 : List Loc) (ad1 : Nat → Nat) (ls1 : Array Slot), o = .inl cf → INV cl TS TXT D cI cL A ad0 n0 s ad1 cf.2.2.2.1 H1 locs1 → lv_has ls1 M.ml (cl2 ad1 cf.2.1) → W p l e R s m args below meth c H1 locs1 cf.2.2.2.2.1 cf.2.2.2.2.2 Q (F0 m cf.1 ls1 (cf.2.2.1.map (cv ad1))))
    (kx : ∀ (ex : Nat) (r : Res) (H1 : Heap) (locs1 : List Loc) (ad1 : Nat → Nat) (q : Nat) (ce : Cell), o = .inr r → r.1 = .inr ex → M.hd.all (fun h => decide (pc < h.1) || decide (h.2.1 ≤ pc)) = true → INV cl TS TXT D cI cL A ad0 n0 s ad1 r.2.1 H1 locs1 → H1[q]? = some ce → ce.vm = .none → s.vm.findClass (excN ex) = some ce.cls → vx_W p l e R s m args below meth c H1 locs1 r.2.2.1 r.2.2.2 Q (F0 m pc ls (rest.map (cv ad))) q) :
    W p l e R s m args below meth c H locs cells slots Q (F0 m pc ls (st.map (cv ad))) := by
  unfold calls at h
  split at h
  · cases h
  rw [if_neg (by omega)] at h
  split at h
  · rename_i v G1 c1 z1 hor
    split at h
    · rename_i hok
      cases h
      refine go_ret (ad := ad) hI.2.1 (hget _ hor ⟨Nat.le_refl _, Nat.le_refl _⟩) (fun H1 locs1 ad1 hk hS => ?_)
      have hadok : cl2 ad1 lv = cl2 ad lv ∧ rest.map (cv ad1) = rest.map (cv ad) := by
        rcases hok with hok | hok
        · rw [hk.2.1 hok]; exact ⟨rfl, rfl⟩
        · simp only [okA, Bool.and_eq_true] at hok
          exact ⟨cl2_ok hk.2.2.1 hok.1.1.1, cvs_ok hk.2.2.1 hok.1.1.2⟩
      have k9 := k _ H1 locs1 ad1 ls rfl (hI.step hk hS) (by rw [hadok.1]; exact hlv)
      have e9 : (v.toList ++ rest).map (cv ad1) = (v.map (cv ad1)).toList ++ rest.map (cv ad) := by
        rw [List.map_append, hadok.2]
        cases v <;> rfl
      rw [e9] at k9
      exact k9
    · cases h
  · rename_i ex G1 c1 z1 hor
    split at h
    · rename_i hlen
      split at h
      · rename_i hh hfnd
        split at h
        · rename_i pc' lv' hst
          cases h
          refine go_thr hI.2.1 (hget _ hor ⟨Nat.le_refl _, Nat.le_refl _⟩) (fun H1 locs1 ad1 q ce hk hS hq hv hcl => ?_)
          have hI1 := hI.step hk hS
          have hade : ad1 = ad := hk.2.1 hlen.1
          have hexc : c.exceptionTable.toList.map (fun h => (h.startPc, h.endPc, h.handlerPc, h.catchType)) = M.hd.map (fun h => (h.1, h.2.1, h.2.2.1, h.2.2.2.1)) := by
            rcases hexc with h0 | h0
            · rw [h0] at hfnd; cases hfnd
            · exact h0
          obtain ⟨pre, x, suf, e1, e2, e3, e4, e5, e6⟩ := hfind_spec _ _ _ _ hfnd
          have hsp : ∃ pre' x' suf', c.exceptionTable.toList = pre' ++ x' :: suf' ∧ (x'.startPc, x'.endPc, x'.handlerPc, x'.catchType) = (x.1, x.2.1, x.2.2.1, x.2.2.2.1) ∧ pre'.map (fun h => (h.startPc, h.endPc, h.handlerPc, h.catchType)) = pre.map (fun h => (h.1, h.2.1, h.2.2.1, h.2.2.2.1)) := by
            rw [e1, List.map_append, List.map_cons] at hexc
            obtain ⟨pre', t', f1, f2, f3⟩ := List.map_eq_append_iff.mp hexc
            obtain ⟨x', suf', g1, g2, g3⟩ := List.map_eq_cons_iff.mp f3
            exact ⟨pre', x', suf', by rw [f1, g1], g2, f2⟩
          obtain ⟨pre', x', suf', f1, f2, f3⟩ := hsp
          have hxm : x ∈ M.hd := by rw [e1]; exact List.mem_append_right _ List.mem_cons_self
          obtain ⟨o1, o2, o3, o4⟩ := hhd x hxm
          simp only [Prod.mk.injEq] at f2
          obtain ⟨x1, x2, x3, x4⟩ := f2
          rw [e5] at o3 o4
          refine vx_catch hown pre' x' suf' f1 (fun z hz => ?_) (by simp only [covers, x1, x2, Bool.and_eq_true, decide_eq_true_eq]; exact ⟨e3, e4⟩) (by rw [x4]; exact o1) (name := excN ex) (by rw [x4]; exact o3) o4 hq hv hcl ?_
          · have hzm : (z.startPc, z.endPc, z.handlerPc, z.catchType) ∈ pre.map (fun h => (h.1, h.2.1, h.2.2.1, h.2.2.2.1)) := by rw [← f3]; exact List.mem_map.mpr ⟨z, hz, rfl⟩
            obtain ⟨y, hy, hyz⟩ := List.mem_map.mp hzm
            simp only [Prod.mk.injEq] at hyz
            obtain ⟨y1, y2, y3, y4⟩ := hyz
            have hym : y ∈ M.hd := by rw [e1]; exact List.mem_append_left _ hy
            obtain ⟨p1, p2, p3, p4⟩ := hhd y hym
            rcases e6 y hy with h1 | h1
            · refine Or.inl ?_
              simp only [covers, ← y1, ← y2, Bool.and_eq_false_iff, decide_eq_false_iff_not]
              by_cases h2 : y.1 ≤ pc
              · exact Or.inr fun h3 => h1 ⟨h2, h3⟩
              · exact Or.inl h2
            · refine Or.inr ⟨by rw [← y4]; exact p1, excN y.2.2.2.2, by rw [← y4]; exact p3, ?_⟩
              obtain ⟨-, -, -, -, -, -, n1, n2, -⟩ := hI.2.2
              exact excN_ne p2 hlen.2 h1 n1 n2
          · rw [x3, e2]
            unfold hstore at hst
            split at hst
            · rename_i k0 hrow
              split at hst
              · rename_i hk0
                cases hst
                obtain ⟨d1, d2, -⟩ := hrows _ _ _ _ _ hrow
                rcases d2 with d2 | ⟨_, _, _, _, d2⟩ | ⟨_, _, d2⟩
                · subst d2
                  refine lv_astore hx hb d1 hlv hk0 rfl (fun ls' hls' => ?_)
                  rw [cl2_fil] at hls'
                  exact k _ H1 locs1 ad1 ls' rfl hI1 (by rw [hade]; exact lv_tail hls')
                · cases d2
                · cases d2
              · cases hst
            · rename_i k0 hrow
              split at hst
              · rename_i hk0
                cases hst
                obtain ⟨d1, d2, -⟩ := hrows _ _ _ _ _ hrow
                rcases d2 with d2 | ⟨_, _, _, _, d2⟩ | ⟨_, _, d2⟩
                · subst d2
                  refine lv_astore_n hx hb d1 rfl hlv hk0 rfl (fun ls' hls' => ?_)
                  rw [cl2_fil] at hls'
                  exact k _ H1 locs1 ad1 ls' rfl hI1 (by rw [hade]; exact lv_tail hls')
                · cases d2
                · cases d2
              · cases hst
            · cases hst
        · cases h
      · split at h
        · rename_i hno
          cases h
          refine go_thr hI.2.1 (hget _ hor ⟨Nat.le_refl _, Nat.le_refl _⟩) (fun H1 locs1 ad1 q ce hk hS hq hv hcl => ?_)
          exact kx ex _ H1 locs1 ad1 q ce rfl rfl hno (hI.step hk hS) hq hv hcl
        · cases h
    · cases h
  · cases h
end SND4
