/-! The same for heaps. -/
def cE (cI cL : Nat) (ad : Nat → Nat) : AO → va_E
  | .inl x => .inl (cI, x.1, .inl x.2)
  | .inr (.inl x) => .inl (cL, x.1, .inr (.inl x.2))
  | .inr (.inr x) => .inr (x.1, x.2.map (cv ad))
def cW (cI cL : Nat) (ad : Nat → Nat) (G : AH) : va_W := G.mapIdx fun i o => (ad i, cE cI cL ad o)
theorem cW_at {cI cL : Nat} {ad : Nat → Nat} {G : AH} {i : Nat} {o : AO} (h : G[i]? = some o) : (cW cI cL ad G)[i]? = some (ad i, cE cI cL ad o) := by
  unfold cW
  rw [List.getElem?_mapIdx, h]
  rfl
theorem cW_len {cI cL : Nat} {ad : Nat → Nat} {G : AH} : (cW cI cL ad G).length = G.length := by
  unfold cW
  rw [List.length_mapIdx]
theorem cW_set {cI cL : Nat} {ad : Nat → Nat} {G : AH} {i : Nat} {o : AO} : (cW cI cL ad G).set i (ad i, cE cI cL ad o) = cW cI cL ad (G.set i o) := by
  refine List.ext_getElem? fun j => ?_
  unfold cW
  rw [List.getElem?_set, List.getElem?_mapIdx, List.getElem?_mapIdx, List.getElem?_set, List.length_mapIdx]
  by_cases h : i = j
  · subst h
    by_cases h2 : i < G.length
    · simp [h2]
    · simp [h2]
  · simp [h]
theorem cv_ok {ad ad' : Nat → Nat} {n : Nat} (h : ∀ i, (i < n ∨ spc ≤ i) → ad' i = ad i) {v : Value} (hv : okV n v = true) : cv ad' v = cv ad v := by
  cases v with
  | ref i =>
    simp only [okV, Bool.or_eq_true, decide_eq_true_eq] at hv
    show Value.ref (ad' i) = Value.ref (ad i)
    rw [h i hv]
  | _ => rfl
theorem cvs_ok {ad ad' : Nat → Nat} {n : Nat} (h : ∀ i, (i < n ∨ spc ≤ i) → ad' i = ad i) {st : List Value} (hv : st.all (okV n) = true) : st.map (cv ad') = st.map (cv ad) :=
  List.map_congr_left fun v hm => cv_ok h (List.all_eq_true.mp hv v hm)
theorem cl2_ok {ad ad' : Nat → Nat} {n : Nat} (h : ∀ i, (i < n ∨ spc ≤ i) → ad' i = ad i) {lv : LV} (hv : lv.all (fun q => okV n q.2) = true) : cl2 ad' lv = cl2 ad lv :=
  List.map_congr_left fun q hm => by rw [cv_ok h (List.all_eq_true.mp hv q hm)]
theorem cE_ok {cI cL : Nat} {ad ad' : Nat → Nat} {n : Nat} (h : ∀ i, (i < n ∨ spc ≤ i) → ad' i = ad i) {o : AO} (hv : okO n o = true) : cE cI cL ad' o = cE cI cL ad o := by
  rcases o with x | x | x
  · rfl
  · rfl
  · show (Sum.inr (x.1, x.2.map (cv ad')) : va_E) = Sum.inr (x.1, x.2.map (cv ad))
    rw [cvs_ok h hv]
theorem cW_app {cI cL : Nat} {ad ad' : Nat → Nat} {G : AH} {o : AO} {q : Nat} (h : ∀ i, (i < G.length ∨ spc ≤ i) → ad' i = ad i) (hq : ad' G.length = q) (hG : G.all (okO G.length) = true) :
    cW cI cL ad' (G ++ [o]) = cW cI cL ad G ++ [(q, cE cI cL ad' o)] := by
  refine List.ext_getElem? fun j => ?_
  unfold cW
  rw [List.getElem?_mapIdx]
  by_cases h1 : j < G.length
  · rw [List.getElem?_append_left h1, List.getElem?_append_left (by rw [List.length_mapIdx]; exact h1), List.getElem?_mapIdx, List.getElem?_eq_getElem h1]
    show some (ad' j, cE cI cL ad' G[j]) = some (ad j, cE cI cL ad G[j])
    rw [h j (Or.inl h1), cE_ok h (List.all_eq_true.mp hG _ (List.getElem_mem h1))]
  · rw [List.getElem?_append_right (by omega), List.getElem?_append_right (by rw [List.length_mapIdx]; omega), List.length_mapIdx]
    by_cases h2 : j = G.length
    · subst h2
      simp [hq]
    · rw [List.getElem?_eq_none (by simp; omega), List.getElem?_eq_none (by simp; omega)]
      rfl
theorem fok_nf {ty : FieldType} {v : Value} (ad : Nat → Nat) (h : fok ty v = true) : narrow ty (cv ad v) = cv ad v ∧ fits ty (cv ad v) = true := by
  unfold fok at h
  split at h
  · exact ⟨rfl, rfl⟩
  · exact ⟨rfl, rfl⟩
  · exact ⟨rfl, rfl⟩
  · cases h
/-- what is known of the classes -/
def clsOK (s : State) (args : Array Value) (Ts : List Cond) (cl : List vw_C) (fty : Nat → Nat → FieldType) : Prop :=
  (∀ w ∈ Ts, w.before args s = true) ∧ ∀ (a : Nat) (q : vw_C), cl[a]? = some q → (∀ w ∈ u_ws q.1 q.2.1 q.2.2, w ∈ Ts) ∧ (∀ k, k < q.2.2 → parseFieldDescriptor (q.2.1 k).2.2.1 = some (fty a k)) ∧
    (∀ x, x < q.2.2 → ∀ y, y < q.2.2 → x ≠ y → (q.2.1 x).2.1 ≠ (q.2.1 y).2.1) ∧ ∀ k, k < q.2.2 → dfl (fty a k) = defaultValue (fty a k)
/-- what a row that reads or writes a field must say -/
def fldOK (wd : Cond → Prop) (cl : List vw_C) (own : String) (ini put : Bool) (idx a b : Nat) : Prop := ∃ q : vw_C, cl[a]? = some q ∧ b < q.2.2 ∧
  ((wd (.fieldLink own idx (q.2.1 b).1 (q.2.1 b).2.1 (q.2.1 b).2.2.1) ∧ (put = true → (q.2.1 b).2.2.2 = true → ini = true ∧ (q.2.1 b).1 = own)) ∨
   ((∃ host, wd (.fieldLinkNest own idx (q.2.1 b).1 (q.2.1 b).2.1 (q.2.1 b).2.2.1 host)) ∧ (put = true → (q.2.1 b).2.2.2 = false)))
def hrow (wd : Cond → Prop) (cl : List vw_C) (own : String) (ini : Bool) (i : Instr) (a b : Nat) : Prop := match i with
  | .getfield idx => fldOK wd cl own ini false idx a b
  | .putfield idx => fldOK wd cl own ini true idx a b
  | _ => True
section SND2
variable {p : Program} {l : Launch} {e : Env} {R : Room} {s : State} {m : MethodId} {args : Array Value} {below : List Frame} {meth : Method} {c : Code} {H : Heap} {locs : List Loc} {cells slots : Nat} {Q : State → Prop}
variable {cc : ByteArray} {pc : Nat} {ls : Array Slot} {ad : Nat → Nat} {D : va_G} {cl : List vw_C} {cI cL : Nat} {A : Nat → Prop} {G G' : AH} {fty : Nat → Nat → FieldType} {Ts : List Cond}
set_option maxHeartbeats 4000000 in
theorem heap_sound (hx : p.tables.exec = Jvm.exec) (hb : c.code = cc) {own : String} {ini : Bool} (hini : ini = true → meth.name = "<init>") (hown : s.vm.findClass own = some m.cls) (hK : va_K D cl [(cI, .int), (cL, .long)] s) (hcls : clsOK s args Ts cl fty)
    {sc : Option (Nat × (Nat → Int32))} (hsc : ∀ q, sc = some q → va_X (ad spc) q.1 q.2 s s.heap ∧ ad spc < s.heap.size ∧ ¬ A (ad spc))
    (hP : va_P D cl (cW cI cL ad G) H) (hD : va_D A (cW cI cL ad G)) (hS : va_S A s.heap H locs) {i : Instr} {len a b : Nat} {st st' : List Value} (hd : decode cc pc = .ok (i, len)) (hl : len = ilen i)
    (hrow : hrow (fun w => w.before args s = true) cl own ini i a b) (h : heapop fty sc i a b st G = some (st', G'))
    (k : ∀ (H1 : Heap) (locs1 : List Loc), va_P D cl (cW cI cL ad G') H1 → va_D A (cW cI cL ad G') → va_S A s.heap H1 locs1 → W p l e R s m args below meth c H1 locs1 cells slots Q (F0 m (pc + len) ls (st'.map (cv ad)))) :
    W p l e R s m args below meth c H locs cells slots Q (F0 m pc ls (st.map (cv ad))) := by
  subst hl
  unfold heapop at h
  split at h
  · -- getfield
    rename_i idx
    split at h
    · rename_i o r
      split at h
      · rename_i ci fs hG
        split at h
        · rename_i hca
          split at h
          · rename_i v hv
            cases h
            subst hca
            obtain ⟨q, hq, hbq, hor⟩ := hrow
            have he : (cW cI cL ad G)[o]? = some (ad o, .inr (ci, fs.map (cv ad))) := cW_at hG
            have hv2 : (fs.map (cv ad))[b]? = some (cv ad v) := by rw [List.getElem?_map, hv]; rfl
            rcases hor with ⟨hw, -⟩ | ⟨⟨host, hw⟩, -⟩
            · exact va_get hx hb hcls.1 (hcls.2 _ _ hq).1 hown hK hP o he hq b hbq hw (fun _ h9 => h9) hv2 hd (k H locs hP hD hS)
            · exact va_getN hx hb hcls.1 (hcls.2 _ _ hq).1 hown hK hP o he hq b hbq hw (fun _ h9 => h9) hv2 hd (k H locs hP hD hS)
          · cases h
        · cases h
      · cases h
    · cases h
  · -- putfield
    rename_i idx
    split at h
    · rename_i v o r
      split at h
      · rename_i ci fs hG
        split at h
        · rename_i hca
          cases h
          obtain ⟨rfl, hbl, hfk⟩ := hca
          obtain ⟨q, hq, hbq, hor⟩ := hrow
          have he : (cW cI cL ad G)[o]? = some (ad o, .inr (ci, fs.map (cv ad))) := cW_at hG
          have hset : (cW cI cL ad G).set o (ad o, .inr (ci, (fs.map (cv ad)).set b (cv ad v))) = cW cI cL ad (G.set o (oC ci (fs.set b v))) := by
            rw [← cW_set]
            show _ = (cW cI cL ad G).set o (ad o, .inr (ci, (fs.set b v).map (cv ad)))
            rw [List.map_set]
          obtain ⟨q1, q2, q3, -⟩ := hcls.2 _ _ hq
          obtain ⟨n1, n2⟩ := fok_nf ad hfk
          have k2 : ∀ (H1 : Heap) (locs1 : List Loc), va_P D cl ((cW cI cL ad G).set o (ad o, .inr (ci, (fs.map (cv ad)).set b (cv ad v)))) H1 → va_D A ((cW cI cL ad G).set o (ad o, .inr (ci, (fs.map (cv ad)).set b (cv ad v)))) → va_S A s.heap H1 locs1 → W p l e R s m args below meth c H1 locs1 cells slots Q (F0 m (pc + 3) ls (st'.map (cv ad))) := by
            intro H1 locs1 h1 h2 h3
            rw [hset] at h1 h2
            exact k H1 locs1 h1 h2 h3
          rcases hor with ⟨hw, hf⟩ | ⟨⟨host, hw⟩, hf⟩
          · cases hfin : (q.2.1 b).2.2.2 with
            | false => exact va_put hx hb hcls.1 q1 (fty ci) q2 q3 hown hK hP hD hS o he hq b hbq hw (fun _ h9 => h9) hfin (q2 b hbq) n1 n2 (by rw [List.length_map]; exact hbl) hd k2
            | true => exact va_putF hx hb hcls.1 q1 (fty ci) q2 q3 hown hK hP hD hS o he hq b hbq hw (fun _ h9 => h9) hfin (hini (hf rfl hfin).1) (hf rfl hfin).2 (q2 b hbq) n1 n2 (by rw [List.length_map]; exact hbl) hd k2
          · exact va_putN hx hb hcls.1 q1 (fty ci) q2 q3 hown hK hP hD hS o he hq b hbq hw (fun _ h9 => h9) (hf rfl) (q2 b hbq) n1 n2 (by rw [List.length_map]; exact hbl) hd k2
        · cases h
      · cases h
    · cases h
  · -- iaload
    split at h
    · rename_i j o r
      split at h
      · rename_i ho
        subst ho
        split at h
        · rename_i q
          split at h
          · cases h
          · rename_i hin
            cases h
            obtain ⟨x1, x2, x3⟩ := hsc q rfl
            exact va_sld hx hb x1 x2 x3 hS hin hd (k H locs hP hD hS)
        · cases h
      · split at h
        · rename_i n f hG
          split at h
          · cases h
          · rename_i hin
            cases h
            exact va_iald hx hb hK hP o 0 (cW_at hG) rfl hin hd (k H locs hP hD hS)
        · cases h
    · cases h
  · -- laload
    split at h
    · rename_i j o r
      split at h
      · rename_i n f hG
        split at h
        · cases h
        · rename_i hin
          cases h
          exact va_lald hx hb hK hP o 1 (cW_at hG) rfl hin hd (k H locs hP hD hS)
      · cases h
    · cases h
  · -- iastore
    split at h
    · rename_i x j o r
      split at h
      · rename_i n f hG
        split at h
        · cases h
        · rename_i hin
          cases h
          refine va_iast hx hb hK hP hD hS o 0 (cW_at hG) rfl hin hd (fun H1 locs1 h1 h2 h3 => ?_)
          have hset : (cW cI cL ad G).set o (ad o, .inl (cI, n, .inl (upd f j.toNatClampNeg x))) = cW cI cL ad (G.set o (oI n (upd f j.toNatClampNeg x))) := cW_set (o := oI n (upd f j.toNatClampNeg x))
          rw [hset] at h1 h2
          exact k H1 locs1 h1 h2 h3
      · cases h
    · cases h
  · -- lastore
    split at h
    · rename_i x j o r
      split at h
      · rename_i n f hG
        split at h
        · cases h
        · rename_i hin
          cases h
          refine va_last hx hb hK hP hD hS o 1 (cW_at hG) rfl hin hd (fun H1 locs1 h1 h2 h3 => ?_)
          have hset : (cW cI cL ad G).set o (ad o, .inl (cL, n, .inr (.inl (vp_updL f j.toNatClampNeg x)))) = cW cI cL ad (G.set o (oL n (vp_updL f j.toNatClampNeg x))) := cW_set (o := oL n (vp_updL f j.toNatClampNeg x))
          rw [hset] at h1 h2
          exact k H1 locs1 h1 h2 h3
      · cases h
    · cases h
  · -- arraylength
    split at h
    · rename_i o r
      split at h
      · rename_i ho
        subst ho
        split at h
        · rename_i q
          cases h
          obtain ⟨x1, x2, x3⟩ := hsc q rfl
          exact va_slen hx hb x1 x2 x3 hS hd (k H locs hP hD hS)
        · cases h
      · split at h
        · rename_i n f hG
          cases h
          exact va_alen hx hb hK hP o 0 (cW_at hG) rfl rfl hd (k H locs hP hD hS)
        · rename_i n f hG
          cases h
          exact va_alen hx hb hK hP o 1 (cW_at hG) rfl rfl hd (k H locs hP hD hS)
        · cases h
    · cases h
  · cases h
def adU (ad : Nat → Nat) (n q : Nat) : Nat → Nat := fun i => if i = n then q else ad i
theorem adU_old {ad : Nat → Nat} {n q : Nat} (hn : n < spc) : ∀ i, (i < n ∨ spc ≤ i) → adU ad n q i = ad i := by
  intro i hi
  unfold adU
  rw [if_neg (by omega)]
theorem adU_new {ad : Nat → Nat} {n q : Nat} : adU ad n q n = q := by
  unfold adU
  rw [if_pos rfl]
/-- what a making's row must say -/
def nrow (wd : Cond → Prop) (cl : List vw_C) (own : String) (i : Instr) (a : Nat) : Prop := match i with
  | .new idx => 1000 ≤ a ∨ ∃ q : vw_C, cl[a]? = some q ∧ wd (.classLink own idx q.1) ∧ wd (.instantiable q.1 q.2.2) ∧ wd (.initialized q.1)
  | .newarray t => wd (.arrayClass (newarray.typeOf t))
  | _ => True
set_option maxHeartbeats 4000000 in
theorem new_sound (hx : p.tables.exec = Jvm.exec) (hb : c.code = cc) {own : String} (hown : s.vm.findClass own = some m.cls) (hK : va_K D cl [(cI, .int), (cL, .long)] s) (hcls : clsOK s args Ts cl fty) (hA : ∀ q, s.heap.size ≤ q → A q)
    (hP : va_P D cl (cW cI cL ad G) H) (hD : va_D A (cW cI cL ad G)) (hS : va_S A s.heap H locs) {i : Instr} {len a nL : Nat} {hdl : List HD} {lv : LV} {st : List Value} {cf : Cfg} (hd : decode cc pc = .ok (i, len)) (hl : len = ilen i)
    (hrow : nrow (fun w => w.before args s = true) cl own i a) (hv : lv_has ls nL (cl2 ad lv)) (h : newop cl fty hdl i len a pc lv st G cells slots = some (.inl cf)) (hc : cf.2.2.2.2.1 ≤ R.cells) (hs : cf.2.2.2.2.2 ≤ R.slots)
    (k : ∀ (H1 : Heap) (ad1 : Nat → Nat), (∀ i, (i < G.length ∨ spc ≤ i) → ad1 i = ad i) → G.length < cf.2.2.2.1.length → lv_has ls nL (cl2 ad1 cf.2.1) → va_P D cl (cW cI cL ad1 cf.2.2.2.1) H1 → va_D A (cW cI cL ad1 cf.2.2.2.1) → va_S A s.heap H1 locs → W p l e R s m args below meth c H1 locs cf.2.2.2.2.1 cf.2.2.2.2.2 Q (F0 m cf.1 ls (cf.2.2.1.map (cv ad1)))) :
    W p l e R s m args below meth c H locs cells slots Q (F0 m pc ls (st.map (cv ad))) := by
  subst hl
  unfold newop at h
  split at h
  · rename_i idx
    split at h
    · split at h <;> cases h
    · rename_i ha
      split at h
      · rename_i q hq
        split at h
        · rename_i hok
          cases h
          simp only [okA, Bool.and_eq_true, decide_eq_true_eq] at hok
          obtain ⟨⟨⟨ok1, ok2⟩, ok3⟩, ok4⟩ := hok
          rcases hrow with h1 | ⟨q9, hq9, w1, w2, w3⟩
          · exact absurd h1 ha
          cases Option.some.inj (hq9.symm.trans hq)
          obtain ⟨q1, q2, q3, q4⟩ := hcls.2 _ _ hq
          have hfs : ∀ j, j < q.2.2 → defaultValue (fty a j) = vp_V ((List.range q.2.2).map fun k => dfl (fty a k)) j := by
            intro j hj
            unfold vp_V
            rw [← q4 j hj, List.getD_eq_getElem?_getD, List.getElem?_map, List.getElem?_range hj]
            rfl
          refine va_new (C := q.1) (T := q.2.1) (N := q.2.2) (ci := a) hx hb hcls.1 q1 (fty a) q2 hown w1 w2 w3 hK hP hD hS hA hq hfs hc hs hd (fun qa H1 h1 h2 h3 => ?_)
          have e1 := adU_old (ad := ad) (q := qa) ok4
          have hdf : ∀ v ∈ ((List.range q.2.2).map fun k => dfl (fty a k)), cv (adU ad G.length qa) v = v := by
            intro v hv
            obtain ⟨k0, -, rfl⟩ := List.mem_map.mp hv
            unfold dfl
            split <;> rfl
          have e2 : cW cI cL (adU ad G.length qa) (G ++ [oC a ((List.range q.2.2).map fun k => dfl (fty a k))]) = cW cI cL ad G ++ [(qa, .inr (a, (List.range q.2.2).map fun k => dfl (fty a k)))] := by
            rw [cW_app e1 adU_new ok3]
            have e5 : cE cI cL (adU ad G.length qa) (oC a ((List.range q.2.2).map fun k => dfl (fty a k))) = Sum.inr (a, (List.range q.2.2).map fun k => dfl (fty a k)) := by
              show (Sum.inr (a, ((List.range q.2.2).map fun k => dfl (fty a k)).map (cv (adU ad G.length qa))) : va_E) = _
              rw [(List.map_congr_left hdf).trans (List.map_id' _)]
            rw [e5]
          rw [← e2] at h1 h2
          have k9 := k H1 (adU ad G.length qa) e1 (by simp) (by rw [cl2_ok e1 ok1]; exact hv) h1 h2 h3
          rw [List.map_cons, cvs_ok e1 ok2, cv_ref, adU_new] at k9
          exact k9
        · cases h
      · cases h
  · rename_i t
    split at h
    · rename_i n r
      split at h
      · cases h
      · rename_i hn
        have hn1 : ¬ n < 0 := fun z => hn (Or.inl z)
        have hn2 : ¬ 60000000 < n.toNatClampNeg := fun z => hn (Or.inr (Or.inl z))
        have hok : okA lv r G = true := by
          cases hz : okA lv r G
          · exact absurd (Or.inr (Or.inr hz)) hn
          · rfl
        simp only [okA, Bool.and_eq_true, decide_eq_true_eq] at hok
        obtain ⟨⟨⟨ok1, ok2⟩, ok3⟩, ok4⟩ := hok
        split at h
        · cases h
          refine va_newa (ty := .int) (N' := n.toNatClampNeg) (a0 := (n.toNatClampNeg, .inl (fun _ => 0))) hx hb hrow rfl hK hP hD hS hA (fun _ => rfl) hn1 rfl (by show _ * 4 ≤ _; omega) hc hs hd (fun qa cA H1 hK1 h1 h2 h3 => ?_)
          have hcA : cA = cI := by
            have g1 : s.vm.findClass ("[" ++ FieldType.int.toString) = some cA := (hK1.2 2 (cA, .int) rfl).2
            have g2 : s.vm.findClass ("[" ++ FieldType.int.toString) = some cI := (hK.2 0 (cI, .int) rfl).2
            exact Option.some.inj (g1.symm.trans g2)
          subst hcA
          have e1 := adU_old (ad := ad) (q := qa) ok4
          have e2 : cW cA cL (adU ad G.length qa) (G ++ [oI n.toNatClampNeg (fun _ => 0)]) = cW cA cL ad G ++ [(qa, .inl (cA, n.toNatClampNeg, .inl (fun _ => 0)))] := cW_app e1 adU_new ok3
          rw [← e2] at h1 h2
          have k9 := k H1 (adU ad G.length qa) e1 (by simp) (by rw [cl2_ok e1 ok1]; exact hv) h1 h2 h3
          rw [List.map_cons, cvs_ok e1 ok2, cv_ref, adU_new] at k9
          exact k9
        · cases h
          refine va_newa (ty := .long) (N' := n.toNatClampNeg) (a0 := (n.toNatClampNeg, .inr (.inl (fun _ => 0)))) hx hb hrow rfl hK hP hD hS hA (fun _ => rfl) hn1 rfl (by show _ * 8 ≤ _; omega) hc hs hd (fun qa cA H1 hK1 h1 h2 h3 => ?_)
          have hcA : cA = cL := by
            have g1 : s.vm.findClass ("[" ++ FieldType.long.toString) = some cA := (hK1.2 2 (cA, .long) rfl).2
            have g2 : s.vm.findClass ("[" ++ FieldType.long.toString) = some cL := (hK.2 1 (cL, .long) rfl).2
            exact Option.some.inj (g1.symm.trans g2)
          subst hcA
          have e1 := adU_old (ad := ad) (q := qa) ok4
          have e2 : cW cI cA (adU ad G.length qa) (G ++ [oL n.toNatClampNeg (fun _ => 0)]) = cW cI cA ad G ++ [(qa, .inl (cA, n.toNatClampNeg, .inr (.inl (fun _ => 0))))] := cW_app e1 adU_new ok3
          rw [← e2] at h1 h2
          have k9 := k H1 (adU ad G.length qa) e1 (by simp) (by rw [cl2_ok e1 ok1]; exact hv) h1 h2 h3
          rw [List.map_cons, cvs_ok e1 ok2, cv_ref, adU_new] at k9
          exact k9
        · cases h
    · cases h
  · cases h
end SND2
