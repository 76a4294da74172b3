/-! Runs and calls. -/
theorem invop_mono {MT : List MI} {orc : Nat → List Value → AH → Option Res} {TXT : List (List Nat)} {M : MI} {i : Instr} {a pc : Nat} {lv : LV} {st : List Value} {G : AH} {c z : Nat} {o : Cfg ⊕ Res} (h : invop MT orc TXT M i a pc lv st G c z = some o) : ge1 c z o := by
  unfold invop at h
  repeat' split at h
  all_goals first
    | cases h; done
    | exact calls_mono h
section SND6
variable {cl : List vw_C} {fty : Nat → Nat → FieldType} {MT : List MI} {TXT : List (List Nat)} {sc : Option (Nat × (Nat → Int32))} {orc : Nat → List Value → AH → Option Res} {M : MI}
theorem step_mono {cf : Cfg} {o : Cfg ⊕ Res} (h : step1 cl fty MT TXT sc orc M cf = some o) : ge1 cf.2.2.2.2.1 cf.2.2.2.2.2 o := by
  obtain ⟨pc, lv, st, G, c, z⟩ := cf
  unfold step1 at h
  dsimp only at h
  split at h
  · cases h
  split at h
  · cases h; exact ⟨Nat.le_refl _, Nat.le_refl _⟩
  split at h
  · cases h; exact ⟨Nat.le_refl _, Nat.le_refl _⟩
  split at h
  · cases h; exact ⟨Nat.le_refl _, Nat.le_refl _⟩
  split at h
  · cases h; exact ⟨Nat.le_refl _, Nat.le_refl _⟩
  split at h
  · cases h; exact ⟨Nat.le_refl _, Nat.le_refl _⟩
  split at h
  · cases h; exact ⟨Nat.le_refl _, Nat.le_refl _⟩
  split at h
  · rename_i r hr
    cases h
    cases o with
    | inl cf => exact newop_mono hr
    | inr r =>
      obtain ⟨-, -, -, -, e⟩ := newop_inr hr
      subst e
      exact ⟨Nat.le_add_right _ _, Nat.le_add_right _ _⟩
  · exact invop_mono h
theorem run_mono {r : Res} : ∀ (n : Nat) (cf : Cfg), run cl fty MT TXT sc orc M n cf = some r → cf.2.2.2.2.1 ≤ r.2.2.1 ∧ cf.2.2.2.2.2 ≤ r.2.2.2 := by
  intro n
  induction n with
  | zero => intro cf h; cases h
  | succ n ih =>
    intro cf h
    unfold run at h
    split at h
    · cases h
    · rename_i cf' hs
      have h1 : cf.2.2.2.2.1 ≤ cf'.2.2.2.2.1 ∧ cf.2.2.2.2.2 ≤ cf'.2.2.2.2.2 := step_mono hs
      have h2 := ih _ h
      exact ⟨Nat.le_trans h1.1 h2.1, Nat.le_trans h1.2 h2.2⟩
    · rename_i r' hs
      cases h
      exact step_mono hs
variable {p : Program} {l : Launch} {e : Env} {R : Room} {s : State} {m : MethodId} {args : Array Value} {below : List Frame} {meth : Method} {c : Code} {Q : State → Prop}
variable {D : va_G} {cI cL : Nat} {A : Nat → Prop} {TS : List (String × Nat × String)} {ad0 : Nat → Nat} {n0 : Nat}
set_option maxHeartbeats 4000000 in
theorem run_sound (hx : p.tables.exec = Jvm.exec) (hb : c.code = M.by) (hml : c.maxLocals = M.ml) (hown : s.vm.findClass M.nm.cls = some m.cls) (hts : ∀ w ∈ TW, w.before args s = true) (hA : ∀ q, s.heap.size ≤ q → A q) (hcls : clsOK s args TW cl fty)
    (hini : M.nm.name = "<init>" → meth.name = "<init>") (hTXT : ∀ t ∈ TXT, t.length < 2 ^ 31 ∧ ∀ x ∈ t, x < 256)
    (hsc : ∀ q, sc = some q → va_X (ad0 spc) q.1 q.2 s s.heap ∧ ad0 spc < s.heap.size ∧ ¬ A (ad0 spc))
    (hexc : M.hd = [] ∨ c.exceptionTable.toList.map (fun h => (h.startPc, h.endPc, h.handlerPc, h.catchType)) = M.hd.map (fun h => (h.1, h.2.1, h.2.2.1, h.2.2.2.1))) (hhd : ∀ h ∈ M.hd, hdOK (fun w => w.before args s = true) M.nm.cls h)
    (hrows : ∀ pc i len a b, xlk M.rw pc = some (i, len, a, b) → rowOK (fun w => w.before args s = true) TW cl MT TS M pc i len a b)
    {d : Nat} (horc : ∀ k as G r, orc k as G = some r → ∃ M' : MI, MT[k]? = some M' ∧ Snd l TW cl TS TXT M' d as G r) (hfr : d + 9 ≤ R.frames) (hlo : 40 * (d + 9) ≤ R.locals)
    {r : Res} (hRc : r.2.2.1 ≤ R.cells ∧ r.2.2.2 ≤ R.slots)
    (hRet : ∀ (v : Option Value) (i : Instr) (st : List Value) (pc : Nat) (ls : Array Slot) (H1 : Heap) (locs1 : List Loc) (ad1 : Nat → Nat), r.1 = .inl v → decode M.by pc = .ok (i, 1) → retop M.rt i st = some v → INV cl TS TXT D cI cL A ad0 n0 s ad1 r.2.1 H1 locs1 →
      W p l e R s m args below meth c H1 locs1 r.2.2.1 r.2.2.2 Q (F0 m pc ls (st.map (cv ad1))))
    (hThr : ∀ (ex pc : Nat) (ls : Array Slot) (rest : List Value) (H1 : Heap) (locs1 : List Loc) (ad1 : Nat → Nat) (q : Nat) (ce : Cell), r.1 = .inr ex → M.hd.all (fun h => decide (pc < h.1) || decide (h.2.1 ≤ pc)) = true → INV cl TS TXT D cI cL A ad0 n0 s ad1 r.2.1 H1 locs1 → H1[q]? = some ce → ce.vm = .none → s.vm.findClass (excN ex) = some ce.cls →
      vx_W p l e R s m args below meth c H1 locs1 r.2.2.1 r.2.2.2 Q (F0 m pc ls rest) q)
    (hNew : ∀ (idx len a b pc : Nat) (st : List Value) (ls : Array Slot) (H1 : Heap) (locs1 : List Loc) (ad1 : Nat → Nat) (G : AH) (c1 z1 : Nat), xlk M.rw pc = some (.new idx, len, a, b) → 1000 ≤ a → M.hd = [] → wcs st ≤ 8 → r = (.inr (a - 1000), G, c1 + 1, z1 + 6) → ls.size = M.ml → INV cl TS TXT D cI cL A ad0 n0 s ad1 G H1 locs1 →
      W p l e R s m args below meth c H1 locs1 c1 z1 Q (F0 m pc ls (st.map (cv ad1)))) :
    ∀ (n : Nat) (cf : Cfg), run cl fty MT TXT sc orc M n cf = some r → ∀ (ls : Array Slot) (H : Heap) (locs : List Loc) (ad : Nat → Nat), lv_has ls M.ml (cl2 ad cf.2.1) → INV cl TS TXT D cI cL A ad0 n0 s ad cf.2.2.2.1 H locs →
      W p l e R s m args below meth c H locs cf.2.2.2.2.1 cf.2.2.2.2.2 Q (F0 m cf.1 ls (cf.2.2.1.map (cv ad))) := by
  intro n
  induction n with
  | zero => intro cf h; cases h
  | succ n ih =>
    intro cf hrun ls H locs ad hlv hI
    obtain ⟨pc, lv, st, G, cc, zz⟩ := cf
    dsimp only at hlv hI ⊢
    have hI0 := hI
    obtain ⟨⟨w1, w2, w3, w4, w5⟩, hS, hE⟩ := hI0
    have hrun0 := hrun
    unfold run at hrun
    have key : ∀ cf' : Cfg, step1 cl fty MT TXT sc orc M (pc, lv, st, G, cc, zz) = some (.inl cf') → run cl fty MT TXT sc orc M n cf' = some r := by
      intro cf' hs
      rw [hs] at hrun
      exact hrun
    have keyr : ∀ r' : Res, step1 cl fty MT TXT sc orc M (pc, lv, st, G, cc, zz) = some (.inr r') → r' = r := by
      intro cf' hs
      rw [hs] at hrun
      exact Option.some.inj hrun
    have keyn : step1 cl fty MT TXT sc orc M (pc, lv, st, G, cc, zz) = none → False := by
      intro hs
      rw [hs] at hrun
      cases hrun
    cases hrow : xlk M.rw pc with
    | none => exact (keyn (by unfold step1; simp only [hrow])).elim
    | some row =>
      obtain ⟨i, len, a, b⟩ := row
      obtain ⟨d1, d2, d3, d4, d5, d6, d7, d8⟩ := hrows _ _ _ _ _ hrow
      have hsw : ∀ {X : Prop}, (len = ilen i → X) → ((∃ d lo hi offs, i = .tableswitch d lo hi offs) → X) → ((∃ d ps, i = .lookupswitch d ps) → X) → X := fun f1 f2 f3 => by
        rcases d2 with d2 | d2 | d2
        · exact f1 d2
        · exact f2 d2
        · exact f3 d2
      cases h1 : stk i st with
      | some st' =>
        have k := ih _ (key (pc + len, lv, st', G, cc, zz) (by unfold step1; simp only [hrow, h1])) ls H locs ad hlv hI
        refine hsw (fun d2 => stk_sound hx hb d1 d2 h1 k) (fun ⟨_, _, _, _, d2⟩ => ?_) (fun ⟨_, _, d2⟩ => ?_)
        · subst d2; cases h1
        · subst d2; cases h1
      | none =>
        cases h2 : locop i M.ml b lv st with
        | some q =>
          obtain ⟨lv', st'⟩ := q
          have k := fun ls' hv' => ih _ (key (pc + len, lv', st', G, cc, zz) (by unfold step1; simp only [hrow, h1, h2])) ls' H locs ad hv' hI
          refine hsw (fun d2 => loc_sound hx hb d1 d2 h2 hlv k) (fun ⟨_, _, _, _, d2⟩ => ?_) (fun ⟨_, _, d2⟩ => ?_)
          · subst d2; cases h2
          · subst d2; cases h2
        | none =>
          cases h3 : jmp i a pc st with
          | some q =>
            obtain ⟨pc', st'⟩ := q
            have k := ih _ (key (pc', lv, st', G, cc, zz) (by unfold step1; simp only [hrow, h1, h2, h3])) ls H locs ad hlv hI
            exact jmp_sound hx hb d1 d2 d3 h3 k
          | none =>
            cases h4 : heapop fty sc i a b st G with
            | some q =>
              obtain ⟨st', G'⟩ := q
              have hr9 := key (pc + len, lv, st', G', cc, zz) (by unfold step1; simp only [hrow, h1, h2, h3, h4])
              refine hsw (fun d2 => ?_) (fun ⟨_, _, _, _, d2⟩ => ?_) (fun ⟨_, _, d2⟩ => ?_)
              · refine heap_sound hx hb (fun q => hini (of_decide_eq_true q)) hown hE.1 hcls (fun q hq => ?_) w4 w5 hS d1 d2 d4 h4 (fun H1 locs1 g1 g2 g3 => ih _ hr9 ls H1 locs1 ad hlv (hI.keep (hop_len h4) g1 g2 g3))
                rw [w3 spc (Or.inr (Nat.le_refl _))]
                exact hsc q hq
              · subst d2; cases h4
              · subst d2; cases h4
            | none =>
              cases h5 : ldop i a b with
              | some v =>
                have k := ih _ (key (pc + len, lv, v :: st, G, cc, zz) (by unfold step1; simp only [hrow, h1, h2, h3, h4, h5])) ls H locs ad hlv hI
                dsimp only at k
                rw [List.map_cons] at k
                refine hsw (fun d2 => ?_) (fun ⟨_, _, _, _, d2⟩ => ?_) (fun ⟨_, _, d2⟩ => ?_)
                · subst d2
                  unfold ldop at h5
                  split at h5
                  · split at h5
                    · rename_i hb0
                      cases h5
                      have d6' := d6
                      simp only [lrow, if_pos hb0] at d6'
                      exact lv_ldc hx hb hown d6' d1 k
                    · rename_i hb0
                      cases h5
                      have d6' := d6
                      simp only [lrow, if_neg hb0] at d6'
                      obtain ⟨tx, htx⟩ := d6'
                      exact va_ldcS hx hb hown (hE.2.1 a _ htx) d1 k
                  · split at h5
                    · rename_i hb0
                      cases h5
                      have d6' := d6
                      simp only [lrow, if_pos hb0] at d6'
                      exact lv_ldcw hx hb hown d6' d1 k
                    · rename_i hb0
                      cases h5
                      have d6' := d6
                      simp only [lrow, if_neg hb0] at d6'
                      obtain ⟨tx, htx⟩ := d6'
                      exact va_ldcSW hx hb hown (hE.2.1 a _ htx) d1 k
                  · cases h5
                    exact lv_ldc2 hx hb hown d6 d1 k
                  · cases h5
                · subst d2; cases h5
                · subst d2; cases h5
              | none =>
                cases h6 : retop M.rt i st with
                | some v =>
                  have e1 := keyr (.inl v, G, cc, zz) (by unfold step1; simp only [hrow, h1, h2, h3, h4, h5, h6])
                  subst e1
                  refine hRet v i st pc ls H locs ad rfl ?_ h6 hI
                  refine hsw (fun d2 => ?_) (fun ⟨_, _, _, _, d2⟩ => ?_) (fun ⟨_, _, d2⟩ => ?_)
                  · rw [d1, d2]
                    unfold retop at h6
                    split at h6
                    · rfl
                    · rfl
                    · rfl
                    · cases h6
                  · subst d2; cases h6
                  · subst d2; cases h6
                | none =>
                  cases h7 : newop cl fty M.hd i len a pc lv st G cc zz with
                  | some o =>
                    cases o with
                    | inl cf' =>
                      have hr9 := key cf' (by unfold step1; simp only [hrow, h1, h2, h3, h4, h5, h6, h7])
                      have hm9 := run_mono _ _ hr9
                      refine hsw (fun d2 => ?_) (fun ⟨_, _, _, _, d2⟩ => ?_) (fun ⟨_, _, d2⟩ => ?_)
                      · exact new_sound hx hb hown hE.1 hcls hA w4 w5 hS d1 d2 d5 hlv h7 (Nat.le_trans hm9.1 hRc.1) (Nat.le_trans hm9.2 hRc.2) (fun H1 ad1 g1 g2 g3 g4 g5 g6 => ih _ hr9 ls H1 locs ad1 g3 (hI.step ⟨by omega, fun q => by omega, g1, g4, g5⟩ g6))
                      · subst d2; cases h7
                      · subst d2; cases h7
                    | inr r' =>
                      have e1 := keyr r' (by unfold step1; simp only [hrow, h1, h2, h3, h4, h5, h6, h7])
                      obtain ⟨⟨idx, rfl⟩, n2, n3, n4, n5⟩ := newop_inr h7
                      exact hNew idx len a b pc st ls H locs ad G cc zz hrow n2 n3 n4 (e1 ▸ n5) hlv.1 hI
                  | none =>
                    cases h8 : invop MT orc TXT M i a pc lv st G cc zz with
                    | none => exact (keyn (by unfold step1; simp only [hrow, h1, h2, h3, h4, h5, h6, h7, h8])).elim
                    | some o =>
                      have hst : step1 cl fty MT TXT sc orc M (pc, lv, st, G, cc, zz) = some o := by unfold step1; simp only [hrow, h1, h2, h3, h4, h5, h6, h7, h8]
                      have hB : bnd R o := by
                        cases o with
                        | inl cf' =>
                          have hm9 := run_mono _ _ (key cf' hst)
                          exact ⟨Nat.le_trans hm9.1 hRc.1, Nat.le_trans hm9.2 hRc.2⟩
                        | inr r' =>
                          have e1 := keyr r' hst
                          subst e1
                          exact hRc
                      refine inv_sound hx hb hml hown hts hA hTXT hexc hhd hrows horc hfr hlo hrow hI hlv h8 hB (fun cf' H1 locs1 ad1 ls1 g1 g2 g3 => ?_) (fun ex r' H1 locs1 ad1 q ce rest g1 g2 g3 g4 g5 g6 g7 => ?_)
                      · subst g1
                        exact ih _ (key cf' hst) ls1 H1 locs1 ad1 g3 g2
                      · subst g1
                        have e1 := keyr r' hst
                        subst e1
                        exact hThr ex pc ls rest H1 locs1 ad1 q ce g2 g3 g4 g5 g6 g7
end SND6
