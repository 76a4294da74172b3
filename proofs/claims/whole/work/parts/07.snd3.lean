/-! What a method's start and end are, and calls. -/
def excN : Nat → String
  | 0 => "java/util/NoSuchElementException"
  | _ => "java/lang/IllegalArgumentException"
def excS : List String := ["java/lang/RuntimeException", "java/lang/Exception"]
def strAt (a : Nat) (t : List Nat) (A : Nat → Prop) (U : State) (H : Heap) : Prop :=
  va_O "java/lang/String" a A U H ∧ va_OF "java/lang/String" "coder" "B" (.int 0) a A U H ∧ ∃ v : Nat, va_OF "java/lang/String" "value" "[B" (.ref v) a A U H ∧ va_T .byte v t.length (fun j => .int (Int32.ofNat (t.getD j 0))) A U H
def ENV (cl : List vw_C) (TS : List (String × Nat × String)) (TXT : List (List Nat)) (D : va_G) (cI cL : Nat) (ad : Nat → Nat) (A : Nat → Prop) (U : State) (H : Heap) : Prop :=
  va_K D cl [(cI, .int), (cL, .long)] U ∧ (∀ (i : Nat) (q : String × Nat × String), TS[i]? = some q → vk_R q.1 q.2.1 q.2.2 (ad (spc + 1 + i)) U) ∧ (∀ (i : Nat) (t : List Nat), TXT[i]? = some t → strAt (ad (spc + 1 + i)) t A U H) ∧
  vx_Zq Bundle.tN "UNASSIGNED_STACK" Bundle.steD A U H ∧ vx_Zq Bundle.tN "SUPPRESSED_SENTINEL" Bundle.listD A U H ∧ va_Z "java/lang/String" "COMPACT_STRINGS" "Z" (.int 1) A U H ∧
  va_Nc (excN 0) (excN 1) U ∧ va_Nc (excN 1) (excN 0) U ∧ va_Zq "jdk/internal/util/Preconditions" "SIOOBE_FORMATTER" "Ljava/util/function/BiFunction;" A U H
theorem strAt.next {a : Nat} {t : List Nat} {A : Nat → Prop} {u U : State} {H H1 : Heap} (h : strAt a t A u H) (hvm : u.vm.Alike U.vm) (hq : ∀ a : Nat, a < H.size → ¬ A a → H1[a]? = H[a]?) : strAt a t A U H1 := by
  obtain ⟨h1, h2, v, h3, h4⟩ := h
  exact ⟨(va_O.moved hvm h1).kept hq, (va_OF.moved hvm h2).kept hq, v, (va_OF.moved hvm h3).kept hq, (va_T.moved hvm h4).kept hq⟩
theorem ENV.next {cl : List vw_C} {TS : List (String × Nat × String)} {TXT : List (List Nat)} {D : va_G} {cI cL : Nat} {ad : Nat → Nat} {A : Nat → Prop} {s U : State} {H H1 : Heap} (h : ENV cl TS TXT D cI cL ad A s H) (hW : s.WarmedH U.vm)
    (hq : ∀ a : Nat, a < H.size → ¬ A a → H1[a]? = H[a]?) : ENV cl TS TXT D cI cL ad A U H1 := by
  obtain ⟨h1, h2, h3, h4, h5, h6, h7, h8, h9⟩ := h
  have hv := hW.alike
  exact ⟨va_K.moved hv h1, fun i q hi => vk_R.warm hW (h2 i q hi), fun i t hi => (h3 i t hi).next hv hq, (h4.moved hv).kept hq, (h5.moved hv).kept hq, (h6.moved hv).kept hq, h7.moved hv, h8.moved hv, (h9.moved hv).kept hq⟩
theorem ENV.same {cl : List vw_C} {TS : List (String × Nat × String)} {TXT : List (List Nat)} {D : va_G} {cI cL : Nat} {ad : Nat → Nat} {A : Nat → Prop} {s U : State} {H : Heap} (h : ENV cl TS TXT D cI cL ad A s H) (hvm : U.vm = s.vm) : ENV cl TS TXT D cI cL ad A U H := by
  obtain ⟨h1, h2, h3, h4, h5, h6, h7, h8, h9⟩ := h
  have hv : s.vm.Alike U.vm := by rw [hvm]; exact Vm.Alike.refl _
  exact ⟨va_K.moved hv h1, fun i q hi => vk_R.same hvm (h2 i q hi), fun i t hi => (h3 i t hi).next hv (fun _ _ _ => rfl), h4.moved hv, h5.moved hv, h6.moved hv, h7.moved hv, h8.moved hv, h9.moved hv⟩
theorem ENV.re {cl : List vw_C} {TS : List (String × Nat × String)} {TXT : List (List Nat)} {D : va_G} {cI cL : Nat} {ad ad' : Nat → Nat} {A : Nat → Prop} {s : State} {H : Heap} (h : ENV cl TS TXT D cI cL ad A s H) (ha : ∀ i, spc ≤ i → ad' i = ad i) : ENV cl TS TXT D cI cL ad' A s H := by
  obtain ⟨h1, h2, h3, h4, h5, h6, h7, h8, h9⟩ := h
  exact ⟨h1, fun i q hi => by rw [ha _ (by omega)]; exact h2 i q hi, fun i t hi => by rw [ha _ (by omega)]; exact h3 i t hi, h4, h5, h6, h7, h8, h9⟩
def agr (ad ad' : Nat → Nat) (n : Nat) : Prop := ∀ i, (i < n ∨ spc ≤ i) → ad' i = ad i
def KPc (cl : List vw_C) (TS : List (String × Nat × String)) (TXT : List (List Nat)) (D : va_G) (cI cL : Nat) (ad : Nat → Nat) (A : Nat → Prop) (as : List Value) (G : AH) : Array Value → State → Prop := fun v U =>
  v = (as.map (cv ad)).toArray ∧ ENV cl TS TXT D cI cL ad A U U.heap ∧ va_P D cl (cW cI cL ad G) U.heap ∧ va_D A (cW cI cL ad G) ∧ ∀ q, U.heap.size ≤ q → A q
/-- the world behind a call -/
def KW (cl : List vw_C) (D : va_G) (cI cL : Nat) (ad : Nat → Nat) (A : Nat → Prop) (n0 : Nat) (G' : AH) (ad' : Nat → Nat) (H : Heap) : Prop :=
  n0 ≤ G'.length ∧ (G'.length = n0 → ad' = ad) ∧ agr ad ad' n0 ∧ va_P D cl (cW cI cL ad' G') H ∧ va_D A (cW cI cL ad' G')
def KQ (cl : List vw_C) (D : va_G) (cI cL : Nat) (ad : Nat → Nat) (A : Nat → Prop) (n0 : Nat) (G' : AH) : (Option Value ⊕ Nat) → Array Value → State → Outcome → State → Prop
  | .inl r => fun _ st o t => (∃ ad', o = .returned (r.map (cv ad')) ∧ KW cl D cI cL ad A n0 G' ad' t.heap) ∧ va_F A st t
  | .inr _ => fun _ _ _ _ => False
def KX (cl : List vw_C) (D : va_G) (cI cL : Nat) (ad : Nat → Nat) (A : Nat → Prop) (n0 : Nat) (G' : AH) : (Option Value ⊕ Nat) → String → State → State → Prop
  | .inl _ => fun _ _ _ => False
  | .inr e => fun E st t => E = excN e ∧ (∃ ad', KW cl D cI cL ad A n0 G' ad' t.heap) ∧ va_F A st t
def rm9 (d c z : Nat) : Room := { frames := d + 8, cells := c, slots := z, locals := 40 * (d + 8) }
theorem rm9_f (d c z : Nat) : (rm9 d c z).frames = d + 8 := rfl
theorem rm9_l (d c z : Nat) : (rm9 d c z).locals = 40 * (d + 8) := rfl
def codeW (M : MI) : Cond := match M.hd with
  | [] => .code M.nm M.by M.ml M.rt
  | h :: hs => .codeWith M.nm M.by M.ml M.rt ((h :: hs).map fun h => (h.1, h.2.1, h.2.2.1, h.2.2.2.1))
def Snd (l : Launch) (Ts : List Cond) (cl : List vw_C) (TS : List (String × Nat × String)) (TXT : List (List Nat)) (M : MI) (d : Nat) (as : List Value) (G : AH) (r : Res) : Prop :=
  ∀ (D : va_G) (cI cL : Nat) (ad : Nat → Nat) (A : Nat → Prop), vx_Met l M.nm (codeW M :: Ts) (rm9 d r.2.2.1 r.2.2.2) (KPc cl TS TXT D cI cL ad A as G) (KQ cl D cI cL ad A G.length r.2.1 r.1) (KX cl D cI cL ad A G.length r.2.1 r.1) r.2.2.1 r.2.2.2 A
/-- words that go with the machine -/
def trs (w : Cond) : Prop := ∀ (a a' : Array Value) (s U : State), s.WarmedH U.vm → w.before a s = true → w.before a' U = true
def mrow (wd : Cond → Prop) (Ts : List Cond) (M : MI) : Prop := codeW M ∈ Ts ∧ wd (.initialized M.nm.cls) ∧ (M.nm.cls ≠ "java/lang/invoke/MethodHandle" ∧ M.nm.cls ≠ "java/lang/invoke/VarHandle") ∧ (∀ sig, parseMethodDescriptor M.nm.desc = some sig → M.np = sig.parameters.length) ∧ M.ml ≤ 20 ∧ plainName M.nm.cls = true
def link (wd : Cond → Prop) (own : String) (idx : Nat) (M : MI) : Prop := wd (.methodLink own idx M.nm) ∨ (M.hd = [] ∧ ∃ host, wd (.methodLinkNest own idx M.nm host))
section SND3
variable {p : Program} {l : Launch} {e : Env} {R : Room} {s : State} {m : MethodId} {args : Array Value} {below : List Frame} {meth : Method} {c : Code} {H : Heap} {locs : List Loc} {cells slots : Nat} {Q : State → Prop}
variable {cc : ByteArray} {pc : Nat} {ls : Array Slot} {ad : Nat → Nat} {D : va_G} {cl : List vw_C} {cI cL : Nat} {A : Nat → Prop} {G G' : AH} {fty : Nat → Nat → FieldType} {Ts : List Cond} {TS : List (String × Nat × String)} {TXT : List (List Nat)}
theorem va_ldcSW (hexec : p.tables.exec = Jvm.exec) (hb : c.code = cc) {own tx : String} {index q : Nat} {rest : List Value} (hown : s.vm.findClass own = some m.cls) (hZ : vk_R own index tx q s) (hdg : decode cc pc = .ok (.ldc_w index, 3))
    (k : W p l e R s m args below meth c H locs cells slots Q (F0 m (pc + 3) ls (.ref q :: rest))) : W p l e R s m args below meth c H locs cells slots Q (F0 m pc ls rest) := by
  intro T hT X
  obtain ⟨t, a1, b1⟩ := k T hT X
  exact ⟨t, X.ldcStringW hexec (own := own) (text := tx) (index := index) (a := q) hown hZ.1 hZ.2 (g := F0 m pc ls rest) rfl (by rw [hb]; exact hdg) t a1, b1⟩
theorem KPc_blind {as : List Value} : FrameBlind (KPc cl TS TXT D cI cL ad A as G) := by
  intro a U g mk h
  obtain ⟨h1, h2, h3, h4, h5⟩ := h
  exact ⟨h1, h2.same rfl, h3, h4, h5⟩
theorem KPc_of {as : List Value} (hE : ENV cl TS TXT D cI cL ad A s s.heap) (hA : ∀ q, s.heap.size ≤ q → A q) (hP : va_P D cl (cW cI cL ad G) H) (hD : va_D A (cW cI cL ad G)) (hS : va_S A s.heap H locs) :
    ∀ U : State, U.heap = H → s.WarmedH U.vm → KPc cl TS TXT D cI cL ad A as G (as.map (cv ad)).toArray U := by
  intro U hU hW
  refine ⟨rfl, ?_, by rw [hU]; exact hP, hD, ?_⟩
  · rw [hU]
    exact hE.next hW hS.2.1
  · rw [hU]
    intro q hq
    exact hA q (Nat.le_trans hS.1 hq)
theorem words_next {ws : List Cond} (hts : ∀ w ∈ ws, w.before args s = true) (htr : ∀ w ∈ ws, trs w) : ∀ w ∈ ws, ∀ (a' : Array Value) (U : State), s.WarmedH U.vm → w.before a' U = true :=
  fun w hw a' U hW => htr w hw args a' s U hW (hts w hw)
theorem codeW_nil {M : MI} (h : M.hd = []) : codeW M = .code M.nm M.by M.ml M.rt := by
  unfold codeW
  rw [h]
set_option maxHeartbeats 1000000 in
/-- static -/
theorem go_static (hx : p.tables.exec = Jvm.exec) (hb : c.code = cc) {nL : Nat} (hml : c.maxLocals = nL) {own : String} (hown : s.vm.findClass own = some m.cls) (hts : ∀ w ∈ Ts, w.before args s = true) (htr : ∀ w ∈ Ts, trs w)
    (hE : ENV cl TS TXT D cI cL ad A s s.heap) (hA : ∀ q, s.heap.size ≤ q → A q) (hP : va_P D cl (cW cI cL ad G) H) (hD : va_D A (cW cI cL ad G)) (hS : va_S A s.heap H locs) {d idx : Nat} {M : MI} {as st rest : List Value} {r : Res}
    (hM : mrow (fun w => w.before args s = true) Ts M) (hlk : link (fun w => w.before args s = true) own idx M) (hst : (Cond.static M.nm).before args s = true) (hs : Snd l Ts cl TS TXT M d as G r) (hfr : d + 9 ≤ R.frames) (hlo : 40 * (d + 9) ≤ R.locals)
    (hn : as.length = M.np) (hls : ls.size = nL) (hstk : st = as.reverse ++ rest) (hw : wcs rest ≤ 8) (hd : decode cc pc = .ok (.invokestatic idx, 3)) (hc : cells + r.2.2.1 ≤ R.cells) (hz : slots + r.2.2.2 ≤ R.slots) :
    vx_Run p l e R s m args below meth c H locs cells slots r.2.2.1 r.2.2.2 (F0 m pc ls (st.map (cv ad))) (rest.map (cv ad)) (KQ cl D cI cL ad A G.length r.2.1 r.1 (as.map (cv ad)).toArray) (KX cl D cI cL ad A G.length r.2.1 r.1) A := by
  obtain ⟨m1, m2, m3, m4, m5, m6⟩ := hM
  have hws : ∀ w ∈ codeW M :: Ts, w ∈ Ts := fun w h => (List.mem_cons.mp h).elim (fun q => by rw [q]; exact m1) id
  have hnext := words_next (ws := codeW M :: Ts) (fun w h => hts w (hws w h)) (fun w h => htr w (hws w h))
  have hstk2 : (F0 m pc ls (st.map (cv ad))).stack = (as.map (cv ad)).reverse ++ rest.map (cv ad) := by
    show st.map (cv ad) = _
    rw [hstk, List.map_append, List.map_reverse]
  have hwc : 2 * (F0 m pc ls (st.map (cv ad))).monitorRoom + ((rest.map (cv ad)).map fun v => v.category).sum ≤ 8 := lv_room (by rw [cv_wcs]; exact hw)
  have hPre : PreS s H (KPc cl TS TXT D cI cL ad A as G) (as.map (cv ad)) := ⟨KPc_blind, KPc_of hE hA hP hD hS⟩
  have hroom : (rm9 d r.2.2.1 r.2.2.2).frames + 1 ≤ R.frames ∧ 8 + (M.ml + 11) + (rm9 d r.2.2.1 r.2.2.2).locals ≤ R.locals := ⟨by have h9 := rm9_f d r.2.2.1 r.2.2.2; omega, by have h9 := rm9_l d r.2.2.1 r.2.2.2; omega⟩
  have hlen : (as.map (cv ad)).length = M.np := by rw [List.length_map]; exact hn
  cases hhd : M.hd with
  | nil =>
    have hcw : codeW M = .code M.nm M.by M.ml M.rt := codeW_nil hhd
    rcases hlk with hlk | ⟨-, host, hlk⟩
    · exact vx_runS (own := own) ⟨hx, hb, hml, hown, hts⟩ (hs D cI cL ad A) ⟨⟨rfl, rfl, hroom.1, hroom.2, hnext, by rw [hcw]; exact List.mem_cons_self, by rw [← hcw]; exact hts _ m1, m2, m3, m4, hlk⟩, hst⟩ hPre rfl hlen hls hstk2 hwc hd ⟨hc, hz⟩
    · exact vx_runSN (own := own) ⟨hx, hb, hml, hown, hts⟩ (hs D cI cL ad A) ⟨⟨⟨rfl, rfl, hroom.1, hroom.2, hnext, by rw [hcw]; exact List.mem_cons_self⟩, by rw [← hcw]; exact hts _ m1, m2, m3, m4, hlk⟩, hst, trivial⟩ hPre rfl hlen hls hstk2 hwc hd ⟨hc, hz⟩
  | cons h9 hs9 =>
    have hcw : codeW M = .codeWith M.nm M.by M.ml M.rt ((h9 :: hs9).map fun h => (h.1, h.2.1, h.2.2.1, h.2.2.2.1)) := by
      unfold codeW
      rw [hhd]
    rcases hlk with hlk | ⟨hz9, -⟩
    · exact vx_runSX (own := own) (hh := (h9 :: hs9).map fun h => (h.1, h.2.1, h.2.2.1, h.2.2.2.1)) ⟨hx, hb, hml, hown, hts⟩ (hs D cI cL ad A) ⟨⟨rfl, rfl, hroom.1, hroom.2, hnext, by rw [hcw]; exact List.mem_cons_self⟩, by rw [← hcw]; exact hts _ m1, m2, m3, m4, hlk, hst⟩ hPre rfl hlen hls hstk2 hwc hd ⟨hc, hz⟩
    · rw [hhd] at hz9; cases hz9
set_option maxHeartbeats 1000000 in
/-- virtual -/
theorem go_virtual (hx : p.tables.exec = Jvm.exec) (hb : c.code = cc) {nL : Nat} (hml : c.maxLocals = nL) {own : String} (hown : s.vm.findClass own = some m.cls) (hts : ∀ w ∈ Ts, w.before args s = true) (htr : ∀ w ∈ Ts, trs w)
    (hE : ENV cl TS TXT D cI cL ad A s s.heap) (hA : ∀ q, s.heap.size ≤ q → A q) (hP : va_P D cl (cW cI cL ad G) H) (hD : va_D A (cW cI cL ad G)) (hS : va_S A s.heap H locs) {d idx : Nat} {M : MI} {as st rest : List Value} {r : Res} {o : Nat}
    (hM : mrow (fun w => w.before args s = true) Ts M) (hhd : M.hd = []) (hlk : link (fun w => w.before args s = true) own idx M) (hin : (Cond.instanceMethod M.nm).before args s = true) (hse : (Cond.selects M.nm.cls M.nm M.nm).before args s = true)
    (hcl : ∃ q : vw_C, cl[M.own]? = some q ∧ q.1 = M.nm.cls) (ho : clsOf G o = some M.own)
    (hs : Snd l Ts cl TS TXT M d (.ref o :: as) G r) (hfr : d + 9 ≤ R.frames) (hlo : 40 * (d + 9) ≤ R.locals)
    (hn : as.length = M.np) (hls : ls.size = nL) (hstk : st = as.reverse ++ .ref o :: rest) (hw : wcs rest ≤ 8) (hd : decode cc pc = .ok (.invokevirtual idx, 3)) (hc : cells + r.2.2.1 ≤ R.cells) (hz : slots + r.2.2.2 ≤ R.slots) :
    vx_Run p l e R s m args below meth c H locs cells slots r.2.2.1 r.2.2.2 (F0 m pc ls (st.map (cv ad))) (rest.map (cv ad)) (KQ cl D cI cL ad A G.length r.2.1 r.1 (Value.ref (ad o) :: as.map (cv ad)).toArray) (KX cl D cI cL ad A G.length r.2.1 r.1) A := by
  obtain ⟨m1, m2, m3, m4, m5, m6⟩ := hM
  have hws : ∀ w ∈ codeW M :: Ts, w ∈ Ts := fun w h => (List.mem_cons.mp h).elim (fun q => by rw [q]; exact m1) id
  have hnext := words_next (ws := codeW M :: Ts) (fun w h => hts w (hws w h)) (fun w h => htr w (hws w h))
  have hstk2 : (F0 m pc ls (st.map (cv ad))).stack = (as.map (cv ad)).reverse ++ .ref (ad o) :: rest.map (cv ad) := by
    show st.map (cv ad) = _
    rw [hstk, List.map_append, List.map_reverse]
    rfl
  have hwc : 2 * (F0 m pc ls (st.map (cv ad))).monitorRoom + ((rest.map (cv ad)).map fun v => v.category).sum ≤ 8 := lv_room (by rw [cv_wcs]; exact hw)
  have hrc : ∃ cellB : Cell, H[ad o]? = some cellB ∧ cellB.vm.isStatics = false ∧ s.vm.findClass M.nm.cls = some cellB.cls := by
    obtain ⟨q, hq, hq1⟩ := hcl
    unfold clsOf at ho
    split at ho
    · rename_i ci fs hG
      cases ho
      rw [← hq1]
      exact va_recv hE.1 hP hq (cW_at hG)
    · cases ho
  have hPre : PreV s H M.nm.cls (ad o) (KPc cl TS TXT D cI cL ad A (.ref o :: as) G) (as.map (cv ad)) := ⟨KPc_blind, hrc, KPc_of (as := .ref o :: as) hE hA hP hD hS⟩
  have hroom : (rm9 d r.2.2.1 r.2.2.2).frames + 1 ≤ R.frames ∧ 8 + (M.ml + 11) + (rm9 d r.2.2.1 r.2.2.2).locals ≤ R.locals := ⟨by have h9 := rm9_f d r.2.2.1 r.2.2.2; omega, by have h9 := rm9_l d r.2.2.1 r.2.2.2; omega⟩
  have hlen : (as.map (cv ad)).length = M.np := by rw [List.length_map]; exact hn
  have hcw : codeW M = .code M.nm M.by M.ml M.rt := codeW_nil hhd
  rcases hlk with hlk | ⟨-, host, hlk⟩
  · exact vx_runV (own := own) (C := M.nm.cls) ⟨hx, hb, hml, hown, hts⟩ (hs D cI cL ad A) ⟨⟨rfl, rfl, hroom.1, hroom.2, hnext, by rw [hcw]; exact List.mem_cons_self, by rw [← hcw]; exact hts _ m1, m2, m3, m4, hlk⟩, hin, hse⟩ hPre rfl hlen hls hstk2 hwc hd ⟨hc, hz⟩
  · exact vx_runVN (own := own) (C := M.nm.cls) ⟨hx, hb, hml, hown, hts⟩ (hs D cI cL ad A) ⟨⟨⟨rfl, rfl, hroom.1, hroom.2, hnext, by rw [hcw]; exact List.mem_cons_self⟩, by rw [← hcw]; exact hts _ m1, m2, m3, m4, hlk⟩, hin, hse⟩ hPre rfl hlen hls hstk2 hwc hd ⟨hc, hz⟩
set_option maxHeartbeats 1000000 in
/-- a constructor -/
theorem go_special (hx : p.tables.exec = Jvm.exec) (hb : c.code = cc) {nL : Nat} (hml : c.maxLocals = nL) {own : String} (hown : s.vm.findClass own = some m.cls) (hts : ∀ w ∈ Ts, w.before args s = true) (htr : ∀ w ∈ Ts, trs w)
    (hE : ENV cl TS TXT D cI cL ad A s s.heap) (hA : ∀ q, s.heap.size ≤ q → A q) (hP : va_P D cl (cW cI cL ad G) H) (hD : va_D A (cW cI cL ad G)) (hS : va_S A s.heap H locs) {d idx : Nat} {M : MI} {as st rest : List Value} {r : Res} {o : Nat}
    (hM : mrow (fun w => w.before args s = true) Ts M) (hhd : M.hd = []) (hrt : M.rt = none) (hnm : M.nm.name = "<init>") (hlk : link (fun w => w.before args s = true) own idx M) (hin : (Cond.instanceMethod M.nm).before args s = true)
    (hs : Snd l Ts cl TS TXT M d (.ref o :: as) G r) (hfr : d + 9 ≤ R.frames) (hlo : 40 * (d + 9) ≤ R.locals)
    (hn : as.length = M.np) (hls : ls.size = nL) (hstk : st = as.reverse ++ .ref o :: rest) (hw : wcs rest ≤ 8) (hd : decode cc pc = .ok (.invokespecial idx, 3)) (hc : cells + r.2.2.1 ≤ R.cells) (hz : slots + r.2.2.2 ≤ R.slots) :
    vx_Run p l e R s m args below meth c H locs cells slots r.2.2.1 r.2.2.2 (F0 m pc ls (st.map (cv ad))) (rest.map (cv ad)) (KQ cl D cI cL ad A G.length r.2.1 r.1 (Value.ref (ad o) :: as.map (cv ad)).toArray) (KX cl D cI cL ad A G.length r.2.1 r.1) A := by
  obtain ⟨m1, m2, m3, m4, m5, m6⟩ := hM
  have hws : ∀ w ∈ codeW M :: Ts, w ∈ Ts := fun w h => (List.mem_cons.mp h).elim (fun q => by rw [q]; exact m1) id
  have hnext := words_next (ws := codeW M :: Ts) (fun w h => hts w (hws w h)) (fun w h => htr w (hws w h))
  have hstk2 : (F0 m pc ls (st.map (cv ad))).stack = (as.map (cv ad)).reverse ++ .ref (ad o) :: rest.map (cv ad) := by
    show st.map (cv ad) = _
    rw [hstk, List.map_append, List.map_reverse]
    rfl
  have hwc : 2 * (F0 m pc ls (st.map (cv ad))).monitorRoom + ((rest.map (cv ad)).map fun v => v.category).sum ≤ 8 := lv_room (by rw [cv_wcs]; exact hw)
  have hPre : PreS s H (KPc cl TS TXT D cI cL ad A (.ref o :: as) G) (.ref (ad o) :: as.map (cv ad)) := ⟨KPc_blind, KPc_of (as := .ref o :: as) hE hA hP hD hS⟩
  have hroom : (rm9 d r.2.2.1 r.2.2.2).frames + 1 ≤ R.frames ∧ 8 + (M.ml + 11) + (rm9 d r.2.2.1 r.2.2.2).locals ≤ R.locals := ⟨by have h9 := rm9_f d r.2.2.1 r.2.2.2; omega, by have h9 := rm9_l d r.2.2.1 r.2.2.2; omega⟩
  have hlen : (as.map (cv ad)).length = M.np := by rw [List.length_map]; exact hn
  have hcw : codeW M = .code M.nm M.by M.ml none := by rw [codeW_nil hhd, hrt]
  rcases hlk with hlk | ⟨-, host, hlk⟩
  · exact vx_runI (own := own) ⟨hx, hb, hml, hown, hts⟩ (hs D cI cL ad A) ⟨⟨rfl, rfl, hroom.1, hroom.2, hnext, by rw [hcw]; exact List.mem_cons_self, by rw [← hcw]; exact hts _ m1, m2, m3, m4, hlk⟩, hnm, hin⟩ hPre rfl hlen hls hstk2 hwc hd ⟨hc, hz⟩
  · exact vx_runIN (own := own) ⟨hx, hb, hml, hown, hts⟩ (hs D cI cL ad A) ⟨⟨⟨rfl, rfl, hroom.1, hroom.2, hnext, by rw [hcw]; exact List.mem_cons_self⟩, by rw [← hcw]; exact hts _ m1, m2, m3, m4, hlk⟩, hnm, hin⟩ hPre rfl hlen hls hstk2 hwc hd ⟨hc, hz⟩
/-- goes on behind a call that returns -/
theorem go_ret {n0 : Nat} {G1 : AH} {v : Option Value} {mc ms : Nat} {st0 rest : List Value} {a : Array Value} (hS : va_S A s.heap H locs)
    (hr : vx_Run p l e R s m args below meth c H locs cells slots mc ms (F0 m pc ls st0) (rest.map (cv ad)) (KQ cl D cI cL ad A n0 G1 (.inl v) a) (KX cl D cI cL ad A n0 G1 (.inl v)) A)
    (k : ∀ (H1 : Heap) (locs1 : List Loc) (ad1 : Nat → Nat), KW cl D cI cL ad A n0 G1 ad1 H1 → va_S A s.heap H1 locs1 → W p l e R s m args below meth c H1 locs1 (cells + mc) (slots + ms) Q (F0 m (pc + 3) ls ((v.map (cv ad1)).toList ++ rest.map (cv ad)))) :
    W p l e R s m args below meth c H locs cells slots Q (F0 m pc ls st0) := by
  intro T hT X
  rcases hr T hT X with ⟨w, st₀, t, T', L, h0, X', hL, e1, e2, ⟨⟨ad', hv, hp⟩, hF⟩, st⟩ | ⟨q, st₀, t, T', L, E, ce, h0, X', hL, e1, e2, hx, hce, hcv, hcl, st⟩
  · cases hv
    obtain ⟨k1, k2, k3⟩ := vx_keep h0 e1 hS (fun _ _ h => h) (fun _ h => h) hL hF
    obtain ⟨t2, a1, b1⟩ := k T'.heap (locs ++ L) ad' (by rw [e1]; exact hp) k3 T' rfl X'
    exact ⟨t2, st t2 a1, b1⟩
  · exact hx.elim
/-- goes on behind a call that throws -/
theorem go_thr {n0 : Nat} {G1 : AH} {ex : Nat} {mc ms : Nat} {st0 rest : List Value} {a : Array Value} (hS : va_S A s.heap H locs)
    (hr : vx_Run p l e R s m args below meth c H locs cells slots mc ms (F0 m pc ls st0) rest (KQ cl D cI cL ad A n0 G1 (.inr ex) a) (KX cl D cI cL ad A n0 G1 (.inr ex)) A)
    (k : ∀ (H1 : Heap) (locs1 : List Loc) (ad1 : Nat → Nat) (q : Nat) (ce : Cell), KW cl D cI cL ad A n0 G1 ad1 H1 → va_S A s.heap H1 locs1 → H1[q]? = some ce → ce.vm = .none → s.vm.findClass (excN ex) = some ce.cls → vx_W p l e R s m args below meth c H1 locs1 (cells + mc) (slots + ms) Q (F0 m pc ls rest) q) :
    W p l e R s m args below meth c H locs cells slots Q (F0 m pc ls st0) := by
  intro T hT X
  rcases hr T hT X with ⟨w, st₀, t, T', L, h0, X', hL, e1, e2, hq, st⟩ | ⟨q, st₀, t, T', L, E, ce, h0, X', hL, e1, e2, ⟨hE, ⟨ad', hp⟩, hF⟩, hce, hcv, hcl, st⟩
  · exact hq.elim
  · obtain ⟨k1, k2, k3⟩ := vx_keep h0 e1 hS (fun _ _ h => h) (fun _ h => h) hL hF
    subst hE
    obtain ⟨t2, a1, b1⟩ := k T'.heap (locs ++ L) ad' q ce (by rw [e1]; exact hp) k3 (by rw [e1]; exact hce) hcv hcl T' rfl X'
    exact ⟨t2, st.trans a1, b1⟩
end SND3
