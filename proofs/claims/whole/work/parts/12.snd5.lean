/-! Invocations, a step, a run, a call. -/
theorem npar_lt {MT : List MI} {a : Nat} (ha : a < 900) {M : MI} (h : MT[a]? = some M) : npar MT a = some M.np := by
  unfold npar
  split
  all_goals first
    | omega
    | rw [h]
theorem prim_sp {TXT : List (List Nat)} {k : Nat} {as : List Value} {G : AH} {r : Res} (h : prim TXT k as G = some r) : ∃ v, r = (.inl v, G, 0, 0) ∧
    ((k = 900 ∧ ∃ x y : Int32, as = [.int x, .int y] ∧ v = some (.int (if y < x then y else x))) ∨ (k = 901 ∧ ∃ x y : Int32, as = [.int x, .int y] ∧ v = some (.int (if x < y then y else x))) ∨
     (k = 902 ∧ ∃ o t, as = [.ref o] ∧ spc < o ∧ TXT[o - spc - 1]? = some t ∧ v = some (.int (Int32.ofNat t.length))) ∨
     (k = 903 ∧ ∃ (o : Nat) (t : List Nat) (j : Int32), as = [.ref o, .int j] ∧ spc < o ∧ TXT[o - spc - 1]? = some t ∧ ¬ j < 0 ∧ j.toNatClampNeg < t.length ∧ v = some (.int (Int32.ofNat (t.getD j.toNatClampNeg 0)))) ∨
     (k = 904 ∧ ∃ o, as = [.ref o] ∧ v = none)) := by
  unfold prim at h
  split at h
  · cases h; exact ⟨_, rfl, Or.inl ⟨rfl, _, _, rfl, rfl⟩⟩
  · cases h; exact ⟨_, rfl, Or.inr (Or.inl ⟨rfl, _, _, rfl, rfl⟩)⟩
  · split at h
    · rename_i ho
      split at h
      · rename_i t ht
        cases h; exact ⟨_, rfl, Or.inr (Or.inr (Or.inl ⟨rfl, _, t, rfl, ho, ht, rfl⟩))⟩
      · cases h
    · cases h
  · split at h
    · rename_i ho
      split at h
      · rename_i t ht
        split at h
        · cases h
        · rename_i hj
          cases h; exact ⟨_, rfl, Or.inr (Or.inr (Or.inr (Or.inl ⟨rfl, _, t, _, rfl, ho, ht, fun z => hj (Or.inl z), Nat.not_le.mp fun z => hj (Or.inr z), rfl⟩)))⟩
      · cases h
    · cases h
  · cases h; exact ⟨_, rfl, Or.inr (Or.inr (Or.inr (Or.inr ⟨rfl, _, rfl, rfl⟩)))⟩
  · cases h
/-- a member of the JDK answers -/
theorem calls_prim {orc : Nat → List Value → AH → Option Res} {TXT : List (List Nat)} {hd : List HD} {rw : List XR} {ml tg pc : Nat} {lv : LV} {as rest : List Value} {G : AH} {c z : Nat} {o : Cfg ⊕ Res} (htg : 900 ≤ tg) (h : calls orc TXT hd rw ml tg pc lv as rest G c z = some o) :
    wcs rest ≤ 8 ∧ ∃ v, prim TXT tg as G = some (.inl v, G, 0, 0) ∧ o = .inl (pc + 3, lv, v.toList ++ rest, G, c, z) := by
  unfold calls at h
  split at h
  · cases h
  rename_i hw
  refine ⟨by omega, ?_⟩
  split at h
  · rename_i v G1 c1 z1 hp
    obtain ⟨v', e1, -⟩ := prim_sp hp
    cases e1
    split at h
    · cases h; exact ⟨_, hp, rfl⟩
    · cases h
  · rename_i ex G1 c1 z1 hp
    obtain ⟨v', e1, -⟩ := prim_sp hp
    cases e1
  · cases h
def bnd (R : Room) (o : Cfg ⊕ Res) : Prop := match o with
  | .inl cf => cf.2.2.2.2.1 ≤ R.cells ∧ cf.2.2.2.2.2 ≤ R.slots
  | .inr r => r.2.2.1 ≤ R.cells ∧ r.2.2.2 ≤ R.slots
section SND5
variable {p : Program} {l : Launch} {e : Env} {R : Room} {s : State} {m : MethodId} {args : Array Value} {below : List Frame} {meth : Method} {c : Code} {H : Heap} {locs : List Loc} {cells slots : Nat} {Q : State → Prop}
variable {D : va_G} {cl : List vw_C} {cI cL : Nat} {A : Nat → Prop} {fty : Nat → Nat → FieldType} {TS : List (String × Nat × String)} {TXT : List (List Nat)} {MT : List MI} {M : MI} {ad0 : Nat → Nat} {n0 : Nat}
theorem bnd_get {c z : Nat} {o : Cfg ⊕ Res} (hB : bnd R o) {r1 : Res} (h : ge2 c z r1 o) : c + r1.2.2.1 ≤ R.cells ∧ z + r1.2.2.2 ≤ R.slots := by
  cases o with
  | inl cf => exact ⟨Nat.le_trans h.1 hB.1, Nat.le_trans h.2 hB.2⟩
  | inr r => exact ⟨Nat.le_trans h.1 hB.1, Nat.le_trans h.2 hB.2⟩
theorem ENV.jp {ad : Nat → Nat} (hE : ENV cl TS TXT D cI cL ad A s s.heap) {o : Nat} {t : List Nat} (ho : spc < o) (ht : TXT[o - spc - 1]? = some t) : JP (ad o) t A s := by
  obtain ⟨-, -, h3, -, -, h6, -, -, h9⟩ := hE
  have h := h3 _ t ht
  rw [show spc + 1 + (o - spc - 1) = o by omega] at h
  exact ⟨h, h6, h9⟩
set_option maxHeartbeats 4000000 in
theorem inv_sound (hx : p.tables.exec = Jvm.exec) (hb : c.code = M.by) (hml : c.maxLocals = M.ml) (hown : s.vm.findClass M.nm.cls = some m.cls) (hts : ∀ w ∈ TW, w.before args s = true) (hA : ∀ q, s.heap.size ≤ q → A q)
    (hTXT : ∀ t ∈ TXT, t.length < 2 ^ 31 ∧ ∀ x ∈ t, x < 256)
    (hexc : M.hd = [] ∨ c.exceptionTable.toList.map (fun h => (h.startPc, h.endPc, h.handlerPc, h.catchType)) = M.hd.map (fun h => (h.1, h.2.1, h.2.2.1, h.2.2.2.1))) (hhd : ∀ h ∈ M.hd, hdOK (fun w => w.before args s = true) M.nm.cls h)
    (hrows : ∀ pc i len a b, xlk M.rw pc = some (i, len, a, b) → rowOK (fun w => w.before args s = true) TW cl MT TS M pc i len a b)
    {orc : Nat → List Value → AH → Option Res} {d : Nat} (horc : ∀ k as G r, orc k as G = some r → ∃ M' : MI, MT[k]? = some M' ∧ Snd l TW cl TS TXT M' d as G r) (hfr : d + 9 ≤ R.frames) (hlo : 40 * (d + 9) ≤ R.locals)
    {i : Instr} {len a b pc : Nat} {lv : LV} {st : List Value} {G : AH} {ad : Nat → Nat} {ls : Array Slot} {o : Cfg ⊕ Res} (hrow : xlk M.rw pc = some (i, len, a, b)) (hI : INV cl TS TXT D cI cL A ad0 n0 s ad G H locs) (hlv : lv_has ls M.ml (cl2 ad lv))
    (h : invop MT orc TXT M i a pc lv st G cells slots = some o) (hB : bnd R o)
    (k : ∀ (cf : Cfg) (H1 : Heap) (locs1 : List Loc) (ad1 : Nat → Nat) (ls1 : Array Slot), o = .inl cf → INV cl TS TXT D cI cL A ad0 n0 s ad1 cf.2.2.2.1 H1 locs1 → lv_has ls1 M.ml (cl2 ad1 cf.2.1) → W p l e R s m args below meth c H1 locs1 cf.2.2.2.2.1 cf.2.2.2.2.2 Q (F0 m cf.1 ls1 (cf.2.2.1.map (cv ad1))))
    (kx : ∀ (ex : Nat) (r : Res) (H1 : Heap) (locs1 : List Loc) (ad1 : Nat → Nat) (q : Nat) (ce : Cell) (rest : List Value), o = .inr r → r.1 = .inr ex → M.hd.all (fun h => decide (pc < h.1) || decide (h.2.1 ≤ pc)) = true → INV cl TS TXT D cI cL A ad0 n0 s ad1 r.2.1 H1 locs1 → H1[q]? = some ce → ce.vm = .none → s.vm.findClass (excN ex) = some ce.cls → vx_W p l e R s m args below meth c H1 locs1 r.2.2.1 r.2.2.2 Q (F0 m pc ls rest) q) :
    W p l e R s m args below meth c H locs cells slots Q (F0 m pc ls (st.map (cv ad))) := by
  obtain ⟨d1, d2, -, -, -, -, d7, -⟩ := hrows _ _ _ _ _ hrow
  obtain ⟨⟨w1, w2, w3, w4, w5⟩, hS, hE⟩ := id hI
  unfold invop at h
  split at h
  · cases h
  rename_i n hn
  split at h
  · -- static
    rename_i idx
    have d2 : len = 3 := by
      rcases d2 with d2 | ⟨_, _, _, _, d2⟩ | ⟨_, _, d2⟩
      · exact d2
      · cases d2
      · cases d2
    subst d2
    split at h
    · rename_i hlen
      have hstk : st = (st.take n).reverse.reverse ++ st.drop n := by rw [List.reverse_reverse, List.take_append_drop]
      rcases d7 with ⟨rfl, q1, q2, q3, q4⟩ | ⟨rfl, q1, q2, q3, q4⟩ | ⟨ha, M', hM', hm, hlk, hst⟩
      · obtain ⟨hw, v, hp, rfl⟩ := calls_prim (by omega) h
        obtain ⟨v', e1, hor⟩ := prim_sp hp
        cases e1
        rcases hor with ⟨-, x, y, e2, rfl⟩ | ⟨z, -⟩ | ⟨z, -⟩ | ⟨z, -⟩ | ⟨z, -⟩
        · rw [e2] at hstk
          rw [hstk, List.map_append]
          exact va_mmin (rest := (st.drop n).map (cv ad)) (x := x) (y := y) hx hb (hml.trans hlv.1.symm) hown q1 q2 q3 q4 (by omega) (by rw [cv_wcs]; omega) hB.1 hB.2 d1 (k _ H locs ad ls rfl hI hlv)
        all_goals omega
      · obtain ⟨hw, v, hp, rfl⟩ := calls_prim (by omega) h
        obtain ⟨v', e1, hor⟩ := prim_sp hp
        cases e1
        rcases hor with ⟨z, -⟩ | ⟨-, x, y, e2, rfl⟩ | ⟨z, -⟩ | ⟨z, -⟩ | ⟨z, -⟩
        · omega
        · rw [e2] at hstk
          rw [hstk, List.map_append]
          exact va_mmax (rest := (st.drop n).map (cv ad)) (x := x) (y := y) hx hb (hml.trans hlv.1.symm) hown q1 q2 q3 q4 (by omega) (by rw [cv_wcs]; omega) hB.1 hB.2 d1 (k _ H locs ad ls rfl hI hlv)
        all_goals omega
      · have hnp : n = M'.np := Option.some.inj (hn.symm.trans (npar_lt ha hM'))
        have hw8 : wcs (st.drop n) ≤ 8 := by
          unfold calls at h
          split at h
          · cases h
          · omega
        refine calls_sound (av := ((st.take n).reverse.map (cv ad)).toArray) hx hb hown hexc hhd hrows ha hI hlv h (fun r1 hr1 hle => ?_) k (fun ex r H1 locs1 ad1 q ce a1 a2 a3 a4 a5 a6 a7 => kx ex r H1 locs1 ad1 q ce _ a1 a2 a3 a4 a5 a6 a7)
        obtain ⟨M2, hM2, hs⟩ := horc _ _ _ _ hr1
        cases Option.some.inj (hM'.symm.trans hM2)
        obtain ⟨b1, b2⟩ := bnd_get hB hle
        exact go_static hx hb hml hown hts trs_TW hE hA w4 w5 hS hm hlk hst hs hfr hlo (by rw [List.length_reverse, List.length_take, ← hnp]; omega) hlv.1 hstk hw8 d1 b1 b2
    · cases h
  · -- virtual
    rename_i idx
    have d2 : len = 3 := by
      rcases d2 with d2 | ⟨_, _, _, _, d2⟩ | ⟨_, _, d2⟩
      · exact d2
      · cases d2
      · cases d2
    subst d2
    split at h
    · rename_i hlen
      split at h
      · rename_i ob r hdr
        have hstk : st = (st.take n).reverse.reverse ++ .ref ob :: r := by rw [List.reverse_reverse, ← hdr, List.take_append_drop]
        split at h
        · rename_i hrc
          rcases d7 with ⟨rfl, q1⟩ | ⟨rfl, q1⟩ | ⟨ha, M', hM', hm, hh0, hlk, hin, hse, hclq⟩
          · obtain ⟨hw, v, hp, rfl⟩ := calls_prim (by omega) h
            obtain ⟨v', e1, hor⟩ := prim_sp hp
            cases e1
            rcases hor with ⟨z, -⟩ | ⟨z, -⟩ | ⟨-, o9, t, e2, ho, ht, rfl⟩ | ⟨z, -⟩ | ⟨z, -⟩
            · omega
            · omega
            · have e4 : (st.take n).reverse = [] ∧ ob = o9 := by
                simp only [List.cons.injEq, Value.ref.injEq] at e2
                exact ⟨e2.2, e2.1⟩
              obtain ⟨e5, rfl⟩ := e4
              rw [e5] at hstk
              rw [hstk, List.reverse_nil, List.nil_append, List.map_cons]
              have hJ := hE.jp ho ht
              exact go_jv (a := ad ob) (as := []) (rest := r.map (cv ad)) hx hb hml hown hts (mj_len l (ad ob) t A) (by decide) rfl (by decide) (by decide) q1 (np := 0) (by decide +kernel) JPc_blind (fun U hU hW => hJ.next hW (fun q h1 h2 => by rw [hU]; exact hS.2.1 q h1 h2)) (str_recv hJ.1 hS) (by omega) (by omega) rfl hlv.1 (by rw [cv_wcs]; exact hw) d1 hB
                (k _ H locs ad ls rfl hI hlv)
            all_goals omega
          · obtain ⟨hw, v, hp, rfl⟩ := calls_prim (by omega) h
            obtain ⟨v', e1, hor⟩ := prim_sp hp
            cases e1
            rcases hor with ⟨z, -⟩ | ⟨z, -⟩ | ⟨z, -⟩ | ⟨-, o9, t, j, e2, ho, ht, j0, j1, rfl⟩ | ⟨z, -⟩
            · omega
            · omega
            · omega
            · have e4 : (st.take n).reverse = [.int j] ∧ ob = o9 := by
                simp only [List.cons.injEq, Value.ref.injEq] at e2
                exact ⟨e2.2, e2.1⟩
              obtain ⟨e5, rfl⟩ := e4
              rw [e5] at hstk
              rw [hstk, List.map_append]
              have hJ := hE.jp ho ht
              obtain ⟨t1, t2⟩ := hTXT t (List.mem_of_getElem? ht)
              have j2 : j < Int32.ofNat t.length := by
                obtain ⟨jn, hjn, rfl⟩ := nI_of j0
                rw [nI_clamp hjn] at j1
                exact nI_lt j1 t1
              have j3 : t.getD j.toNatClampNeg 0 < 256 := by
                rw [List.getD_eq_getElem?_getD, List.getElem?_eq_getElem j1]
                exact t2 _ (List.getElem_mem j1)
              exact go_jv (a := ad ob) (as := [.int j]) (rest := r.map (cv ad)) hx hb hml hown hts (mj_chr l (ad ob) t A j j0 j2 j1 j3) (by decide) rfl (by decide) (by decide) q1 (np := 1) (by decide +kernel) JPc_blind (fun U hU hW => hJ.next hW (fun q h1 h2 => by rw [hU]; exact hS.2.1 q h1 h2)) (str_recv hJ.1 hS) (by omega) (by omega) rfl hlv.1 (by rw [cv_wcs]; exact hw) d1 hB
                (k _ H locs ad ls rfl hI hlv)
            · omega
          · have hnp : n = M'.np := Option.some.inj (hn.symm.trans (npar_lt ha hM'))
            have hw8 : wcs r ≤ 8 := by
              unfold calls at h
              split at h
              · cases h
              · omega
            have hoc : clsOf G ob = some M'.own := by
              unfold recvOk at hrc
              rw [if_neg (by omega), hM'] at hrc
              exact of_decide_eq_true hrc
            refine calls_sound (av := (Value.ref (ad ob) :: ((st.take n).reverse).map (cv ad)).toArray) hx hb hown hexc hhd hrows ha hI hlv h (fun r1 hr1 hle => ?_) k (fun ex r H1 locs1 ad1 q ce a1 a2 a3 a4 a5 a6 a7 => kx ex r H1 locs1 ad1 q ce _ a1 a2 a3 a4 a5 a6 a7)
            obtain ⟨M2, hM2, hs⟩ := horc _ _ _ _ hr1
            cases Option.some.inj (hM'.symm.trans hM2)
            obtain ⟨b1, b2⟩ := bnd_get hB hle
            exact go_virtual hx hb hml hown hts trs_TW hE hA w4 w5 hS hm hh0 hlk hin hse hclq hoc hs hfr hlo (by rw [List.length_reverse, List.length_take, ← hnp]; omega) hlv.1 hstk hw8 d1 b1 b2
        · cases h
      · cases h
    · cases h
  · -- special
    rename_i idx
    have d2 : len = 3 := by
      rcases d2 with d2 | ⟨_, _, _, _, d2⟩ | ⟨_, _, d2⟩
      · exact d2
      · cases d2
      · cases d2
    subst d2
    split at h
    · rename_i hlen
      split at h
      · rename_i ob r hdr
        have hstk : st = (st.take n).reverse.reverse ++ .ref ob :: r := by rw [List.reverse_reverse, ← hdr, List.take_append_drop]
        rcases d7 with ⟨rfl, q1, q2, q3⟩ | ⟨ha, M', hM', hm, hh0, hrt, hnm, hlk, hin⟩
        · obtain ⟨hw, v, hp, rfl⟩ := calls_prim (by omega) h
          obtain ⟨v', e1, hor⟩ := prim_sp hp
          cases e1
          rcases hor with ⟨z, -⟩ | ⟨z, -⟩ | ⟨z, -⟩ | ⟨z, -⟩ | ⟨-, o9, e2, rfl⟩
          · omega
          · omega
          · omega
          · omega
          · have e4 : (st.take n).reverse = [] ∧ ob = o9 := by
              simp only [List.cons.injEq, Value.ref.injEq] at e2
              exact ⟨e2.2, e2.1⟩
            obtain ⟨e5, rfl⟩ := e4
            rw [e5] at hstk
            rw [hstk, List.reverse_nil, List.nil_append, List.map_cons]
            have hmr : 2 * (F0 m pc ls (r.map (cv ad))).monitorRoom + ((r.map (cv ad)).map fun v => v.category).sum ≤ 8 := lv_room (by rw [cv_wcs]; exact hw)
            exact W.objInit hx hb hown q1 q2 q3 (g := F0 m pc ls (.ref (ad ob) :: r.map (cv ad))) rfl (hlv.1.trans hml.symm) rfl d1 (by omega) (Nat.le_trans (Nat.add_le_add_right hmr 12) (by omega)) (k _ H locs ad ls rfl hI hlv)
        · have hnp : n = M'.np := Option.some.inj (hn.symm.trans (npar_lt ha hM'))
          have hw8 : wcs r ≤ 8 := by
            unfold calls at h
            split at h
            · cases h
            · omega
          refine calls_sound (av := (Value.ref (ad ob) :: ((st.take n).reverse).map (cv ad)).toArray) hx hb hown hexc hhd hrows ha hI hlv h (fun r1 hr1 hle => ?_) k (fun ex r H1 locs1 ad1 q ce a1 a2 a3 a4 a5 a6 a7 => kx ex r H1 locs1 ad1 q ce _ a1 a2 a3 a4 a5 a6 a7)
          obtain ⟨M2, hM2, hs⟩ := horc _ _ _ _ hr1
          cases Option.some.inj (hM'.symm.trans hM2)
          obtain ⟨b1, b2⟩ := bnd_get hB hle
          exact go_special hx hb hml hown hts trs_TW hE hA w4 w5 hS hm hh0 hrt hnm hlk hin hs hfr hlo (by rw [List.length_reverse, List.length_take, ← hnp]; omega) hlv.1 hstk hw8 d1 b1 b2
      · cases h
    · cases h
  · cases h
end SND5
