/-! THE CLAIM OUT OF ONE WALK OF THE LAW'S BODY. Your part is whole_start (and what it stands on); all else here is the same for every law, but numbers. -/
def R_law : String := "CourtMoorhensLaw"
def lw_P (b : Addr) (xs : List Int32) (args : Array Value) (s : State) : Prop := args = #[.ref b] ∧ s.IntsAt b xs ∧ xs.length ≤ 3584 ∧ (Jvm.Cond.and given_1 narrow_1).before args s = true
def lw_Q (_ : Array Value) (s : State) (o : Outcome) (t : State) : Prop := o = .returned (some (.int 1)) ∧ Framed s o t [] 601024 7293034
def lw_Z (below : List Frame) (a : Array Value) (s : State) : State → Prop := fun t => ∃ o, t.status = .running ∧ Ended t below o ∧ lw_Q a s o t
/-- the law's own end, with 1 on the stack, nothing written that was there before, its room as the claim has it -/
theorem lw_ret {p : Program} {l : Launch} {e : Env} {s : State} {m : MethodId} {below : List Frame} {meth : Method} {c : Code} {b : Nat} (hx : p.tables.exec = Jvm.exec) (hb : c.code = code) (hr : meth.sig.returnType = ret) (hlocks : meth.locks = false) {pc : Nat} {H : Heap} {ls : Array Slot} (hdg : decode code pc = .ok (.ireturn, 1)) : W p l e room_1 s m #[Value.ref b] below meth c H [] 601024 7293034 (lw_Z below #[Value.ref b] s) (F0 m pc ls [.int 1]) := by
  intro T hT X
  obtain ⟨fs, hret, hrun, hended, hW, hframe⟩ := X.leave (v := some (.int 1)) (hlocks := hlocks) (fun h => by rw [hr] at h; cases h)
  have hmeth' : T.vm.method? m = some meth := X.method'
  refine ⟨T.setFrames fs, ?_, .returned (some (.int 1)), hrun, hended, rfl, ⟨_, rfl⟩, hW, hframe⟩
  jvm_step X.here [X.here.top, hx, hb, hdg, hmeth', hr, ret, narrow_b1]
  (try refine ⟨rfl, ?_⟩); (try refine ⟨rfl, ?_⟩)
  first | (intro acts; rw [hret _ acts rfl rfl rfl]) | rw [hret _ _ rfl rfl rfl]
  exact Steps.refl _
/-- what holds at the law's entry: the machine, the code, the tables' words (any of lw_tbl by 'hts w (by decide +kernel)'), the script of L ints xs at the cell b, what the Statement gives of the start (any of its parts by flat_of_before) -/
def lw_At (p : Program) (s : State) (m : MethodId) (meth : Method) (c : Code) (b L : Nat) (xs : Nat → Int32) : Prop :=
  p.tables.exec = Jvm.exec ∧ c.code = code ∧ meth.sig.returnType = ret ∧ c.maxLocals = 8 ∧ s.vm.findClass R_law = some m.cls ∧ (∀ w ∈ lw_tbl, w.before #[Value.ref b] s = true) ∧ va_X b L xs s s.heap ∧ b < s.heap.size ∧ meth.locks = false ∧ (Jvm.Cond.and given_1 narrow_1).before #[Value.ref b] s = true
theorem no_traces {l : Launch} (h : l.flags = flags0) : l.stackTraces = false := by
  unfold Launch.stackTraces
  rw [h]
  decide +kernel
set_option maxHeartbeats 4000000 in
theorem whole_of (hlaw : LawRuns) {p : Program} {e : Env} {s : State} {m : MethodId} {below : List Frame} {meth : Method} {c : Code} (l : Launch) (hflags : l.flags = flags0) {b L : Nat} {xs : Nat → Int32} (hL : L ≤ 3584) (C0 : lw_At p s m meth c b L xs) : W p l e room_1 s m #[Value.ref b] below meth c s.heap [] 0 0 (lw_Z below #[Value.ref b] s) (entryFrame m ([Value.ref b] : List Value).toArray 8) := by
  obtain ⟨hx, hb, hr, hml, hown, hts, hX, hbl, hlocks, hgv⟩ := id C0
  obtain ⟨D, cI, cL, ad, had, hE⟩ := env_of hts hgv
  obtain ⟨N, d, r, hd, hrun, hr1, hc, hz⟩ := hlaw L xs hL
  have htw : ∀ w ∈ TW, w.before #[Value.ref b] s = true := fun w hw => hts w ((List.mem_filter.mp hw).1)
  have hl := lv_entry ([.ref b]) (n := 8) (Nat.le_of_ble_eq_true rfl)
  rw [lg_entry_eq]
  generalize (lg_sl ([.ref b]) ++ List.replicate (8 - (lg_sl ([.ref b])).length) Slot.unset).toArray = ls at hl ⊢
  have hl : lv_has ls 8 (cl2 ad [(0, .ref spc)]) := by
    have h9 : cl2 ad [(0, .ref spc)] = [(0, .ref b)] := by
      show [(0, Value.ref (ad spc))] = _
      rw [had]
    rw [h9]
    exact hl
  refine run_sound (cl := CLS) (fty := FTY) (MT := MT) (TXT := TXS) (TS := TSS) (M := M_L_law_) (D := D) (cI := cI) (cL := cL) (sc := some (L, xs)) (A := fun q => s.heap.size ≤ q) (ad0 := ad) (n0 := 0) hx hb hml hown htw (fun _ h => h) ⟨htw, cls_ok⟩ (fun q => absurd q (by decide)) txs_ok (fun q hq => ?_) (Or.inl rfl) (fun h hm => nomatch hm) (law_rows _ htw)
    (call_sound (no_traces hflags) cls_ok txs_ok hMT_all N d) (by show d + 9 ≤ 2048; omega) (by show 40 * (d + 9) ≤ 84000; omega) (r := r) ⟨hc, hz⟩ ?_ ?_ ?_ N _ hrun ls s.heap [] ad hl ⟨⟨Nat.zero_le _, fun _ => rfl, fun _ _ => rfl, fun k q h => by simp [cW] at h, ⟨fun i j p q h => by simp [cW] at h, fun k q h => by simp [cW] at h⟩⟩, va_S.rf, hE⟩
  · cases hq
    rw [had]
    exact ⟨hX, hbl, Nat.not_le.mpr hbl⟩
  · intro v i st pc ls1 H1 locs1 ad1 hrv hdc hro hI
    rw [hr1] at hrv
    cases hrv
    refine va_forget hI.2.1.2.2 (W.widen hc hz ?_)
    have hrt : (M_L_law_).rt = some .boolean := rfl
    rw [hrt] at hro
    unfold retop at hro
    split at hro
    · split at hro
      · cases hro
        exact lw_ret hx hb hr hlocks hdc
      · split at hro
        · cases hro
          exact lw_ret hx hb hr hlocks hdc
        · cases hro
      · cases hro
    · split at hro <;> cases hro
    · split at hro <;> cases hro
    · cases hro
  · intro ex pc ls1 rest H1 locs1 ad1 q ce hrx
    rw [hr1] at hrx
    cases hrx
  · intro idx len a b pc st ls1 H1 locs1 ad1 G1 c1 z1 _ _ _ _ hre
    rw [hre] at hr1
    cases hr1
