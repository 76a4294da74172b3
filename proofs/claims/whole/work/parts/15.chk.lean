/-! What a program checks of a method's rows. -/
/-- fields' rows: place in the pool, class, field, 1 if of a nest mate -/
abbrev FK : Type := List (Nat × Nat × Nat × Nat)
/-- methods' rows: place, number, 1 if of a nest mate; constants' rows: place, a, b; makings' rows: place, class -/
abbrev MK : Type := List (Nat × Nat × Nat)
abbrev NK : Type := List (Nat × Nat)
abbrev CK : Type := FK × MK × MK × NK
def hostN : String := "CourtMoorhens"
def fwW (cl : List vw_C) (own : String) (x : Nat × Nat × Nat × Nat) : List Cond := match cl[x.2.1]? with
  | some q => if x.2.2.2 = 0 then [.fieldLink own x.1 (q.2.1 x.2.2.1).1 (q.2.1 x.2.2.1).2.1 (q.2.1 x.2.2.1).2.2.1] else [.fieldLinkNest own x.1 (q.2.1 x.2.2.1).1 (q.2.1 x.2.2.1).2.1 (q.2.1 x.2.2.1).2.2.1 hostN]
  | none => []
def nameOf (MT : List MI) (a : Nat) : Option MethodName := match a with
  | 900 => some Lib.Math.min.name
  | 901 => some Lib.Math.max.name
  | 902 => some yj_len
  | 903 => some yj_chr
  | 904 => some objectInit
  | k => (MT[k]?).map fun M => M.nm
def mwW (MT : List MI) (own : String) (x : Nat × Nat × Nat) : List Cond := match nameOf MT x.2.1 with
  | some y => if x.2.2 = 0 then [.methodLink own x.1 y] else [.methodLinkNest own x.1 y hostN]
  | none => []
def nwW (cl : List vw_C) (own : String) (x : Nat × Nat) : List Cond := match cl[x.2]? with
  | some q => [.classLink own x.1 q.1]
  | none => []
/-- b: 0 an int, 1 a text (no word), 2 a long -/
def cwW (own : String) (x : Nat × Nat × Nat) : List Cond := if x.2.2 = 0 then [.constant own x.1 (Int32.ofNat x.2.1)] else if x.2.2 = 2 then [.constantLong own x.1 (Int64.ofNat x.2.1)] else []
def ckW (cl : List vw_C) (MT : List MI) (own : String) (k : CK) : List Cond := k.1.flatMap (fwW cl own) ++ (k.2.1.flatMap (mwW MT own) ++ (k.2.2.1.flatMap (cwW own) ++ k.2.2.2.flatMap (nwW cl own)))
def lenB (i : Instr) (len : Nat) : Bool := match i with
  | .tableswitch .. => true
  | .lookupswitch .. => true
  | _ => decide (len = ilen i)
def jokB (i : Instr) (a pc : Nat) : Bool := match i with
  | .goto o => decide ((pc : Int) + o = (a : Int))
  | .ifCond _ o => decide ((pc : Int) + o = (a : Int))
  | .if_icmp _ o => decide ((pc : Int) + o = (a : Int))
  | .tableswitch d _ _ offs => decide (0 ≤ (pc : Int) + d) && offs.toList.all fun o => decide (0 ≤ (pc : Int) + o)
  | .lookupswitch d ps => (ps.toList.zip (ps.toList.drop 1)).all (fun (a, next) => a.1 < next.1) && (decide (0 ≤ (pc : Int) + d) && ps.toList.all fun q => decide (0 ≤ (pc : Int) + q.2))
  | _ => true
def fieldB (cl : List vw_C) (k : FK) (idx a b : Nat) : Bool := match cl[a]? with
  | some q => decide (b < q.2.2) && (k.contains (idx, a, b, 0) || k.contains (idx, a, b, 1))
  | none => false
def putB (cl : List vw_C) (own : String) (ini : Bool) (k : FK) (idx a b : Nat) : Bool := match cl[a]? with
  | some q => decide (b < q.2.2) && (if (q.2.1 b).2.2.2 = true then ini && decide ((q.2.1 b).1 = own) && k.contains (idx, a, b, 0) else (k.contains (idx, a, b, 0) || k.contains (idx, a, b, 1)))
  | none => false
/-- kinds: 0 static, 1 of an object, 2 a constructor -/
def rowB (cl : List vw_C) (MT : List MI) (TS : List (String × Nat × String)) (KD : List Nat) (M : MI) (ini : Bool) (k : CK) (r : XR) : Bool :=
  decide (decode M.by r.1 = .ok (r.2.1, r.2.2.1)) && (lenB r.2.1 r.2.2.1 && (jokB r.2.1 r.2.2.2.1 r.1 && (match r.2.1 with
    | .getfield idx => fieldB cl k.1 idx r.2.2.2.1 r.2.2.2.2
    | .putfield idx => putB cl M.nm.cls ini k.1 idx r.2.2.2.1 r.2.2.2.2
    | .new idx => decide (1000 ≤ r.2.2.2.1) || (k.2.2.2.contains (idx, r.2.2.2.1) && decide (r.2.2.2.1 < cl.length))
    | .newarray t => decide (t = .int) || decide (t = .long)
    | .ldc idx => if r.2.2.2.2 = 0 then k.2.2.1.contains (idx, r.2.2.2.1, 0) else (match TS[r.2.2.2.1]? with
      | some q => decide (q.1 = M.nm.cls ∧ q.2.1 = idx)
      | none => false)
    | .ldc_w idx => if r.2.2.2.2 = 0 then k.2.2.1.contains (idx, r.2.2.2.1, 0) else (match TS[r.2.2.2.1]? with
      | some q => decide (q.1 = M.nm.cls ∧ q.2.1 = idx)
      | none => false)
    | .ldc2_w idx => k.2.2.1.contains (idx, r.2.2.2.1, 2)
    | .invokestatic idx => if 900 ≤ r.2.2.2.1 then (decide (r.2.2.2.1 = 900) || decide (r.2.2.2.1 = 901)) && k.2.1.contains (idx, r.2.2.2.1, 0) else
        decide (r.2.2.2.1 < MT.length) && decide (KD[r.2.2.2.1]? = some 0) && (k.2.1.contains (idx, r.2.2.2.1, 0) || (k.2.1.contains (idx, r.2.2.2.1, 1) && (match MT[r.2.2.2.1]? with
          | some M' => M'.hd.isEmpty
          | none => false)))
    | .invokevirtual idx => if 900 ≤ r.2.2.2.1 then (decide (r.2.2.2.1 = 902) || decide (r.2.2.2.1 = 903)) && k.2.1.contains (idx, r.2.2.2.1, 0) else
        decide (r.2.2.2.1 < MT.length) && decide (KD[r.2.2.2.1]? = some 1) && (k.2.1.contains (idx, r.2.2.2.1, 0) || k.2.1.contains (idx, r.2.2.2.1, 1))
    | .invokespecial idx => if 900 ≤ r.2.2.2.1 then decide (r.2.2.2.1 = 904) && k.2.1.contains (idx, r.2.2.2.1, 0) else
        decide (r.2.2.2.1 < MT.length) && decide (KD[r.2.2.2.1]? = some 2) && (k.2.1.contains (idx, r.2.2.2.1, 0) || k.2.1.contains (idx, r.2.2.2.1, 1))
    | _ => true)))
/-- a method's own words -/
def ownW (M : MI) (kd : Nat) : List Cond := .initialized M.nm.cls :: (if kd = 0 then [.static M.nm] else if kd = 1 then [.instanceMethod M.nm, .selects M.nm.cls M.nm M.nm] else [.instanceMethod M.nm])
def ownB (cl : List vw_C) (M : MI) (kd : Nat) : Bool := decide (M.nm.cls ≠ "java/lang/invoke/MethodHandle" ∧ M.nm.cls ≠ "java/lang/invoke/VarHandle") && (decide ((parseMethodDescriptor M.nm.desc).map (fun d => d.parameters.length) = some M.np) && (decide (M.ml ≤ 20) && (plainName M.nm.cls &&
  (if kd = 0 then true else M.hd.isEmpty && (if kd = 1 then (match cl[M.own]? with
    | some q => decide (q.1 = M.nm.cls)
    | none => false) else decide (M.rt = none) && decide (M.nm.name = "<init>"))))))
theorem xlk_mem : ∀ {rw : List XR} {pc : Nat} {q : Instr × Nat × Nat × Nat}, xlk rw pc = some q → (pc, q) ∈ rw := by
  intro rw
  induction rw with
  | nil => intro pc q h; cases h
  | cons r rs ih =>
    intro pc q h
    unfold xlk at h
    split at h
    · rename_i hr
      cases h
      subst hr
      exact List.mem_cons_self
    · exact List.mem_cons_of_mem _ (ih h)
theorem ck_f {cl : List vw_C} {MT : List MI} {own : String} {k : CK} {wd : Cond → Prop} (hw : ∀ w ∈ ckW cl MT own k, wd w) {idx a b n : Nat} {q : vw_C} (hq : cl[a]? = some q) (h : k.1.contains (idx, a, b, n) = true) :
    wd (if n = 0 then .fieldLink own idx (q.2.1 b).1 (q.2.1 b).2.1 (q.2.1 b).2.2.1 else .fieldLinkNest own idx (q.2.1 b).1 (q.2.1 b).2.1 (q.2.1 b).2.2.1 hostN) := by
  refine hw _ (List.mem_append_left _ (List.mem_flatMap.mpr ⟨_, List.contains_iff_mem.mp h, ?_⟩))
  unfold fwW
  simp only [hq]
  split <;> exact List.mem_cons_self
theorem ck_m {cl : List vw_C} {MT : List MI} {own : String} {k : CK} {wd : Cond → Prop} (hw : ∀ w ∈ ckW cl MT own k, wd w) {idx a n : Nat} {y : MethodName} (hq : nameOf MT a = some y) (h : k.2.1.contains (idx, a, n) = true) :
    wd (if n = 0 then .methodLink own idx y else .methodLinkNest own idx y hostN) := by
  refine hw _ (List.mem_append_right _ (List.mem_append_left _ (List.mem_flatMap.mpr ⟨_, List.contains_iff_mem.mp h, ?_⟩)))
  unfold mwW
  simp only [hq]
  split <;> exact List.mem_cons_self
theorem ck_c {cl : List vw_C} {MT : List MI} {own : String} {k : CK} {wd : Cond → Prop} (hw : ∀ w ∈ ckW cl MT own k, wd w) {idx a : Nat} (h : k.2.2.1.contains (idx, a, 0) = true) : wd (.constant own idx (Int32.ofNat a)) := by
  refine hw _ (List.mem_append_right _ (List.mem_append_right _ (List.mem_append_left _ (List.mem_flatMap.mpr ⟨_, List.contains_iff_mem.mp h, ?_⟩))))
  unfold cwW
  rw [if_pos rfl]
  exact List.mem_cons_self
theorem ck_l {cl : List vw_C} {MT : List MI} {own : String} {k : CK} {wd : Cond → Prop} (hw : ∀ w ∈ ckW cl MT own k, wd w) {idx a : Nat} (h : k.2.2.1.contains (idx, a, 2) = true) : wd (.constantLong own idx (Int64.ofNat a)) := by
  refine hw _ (List.mem_append_right _ (List.mem_append_right _ (List.mem_append_left _ (List.mem_flatMap.mpr ⟨_, List.contains_iff_mem.mp h, ?_⟩))))
  unfold cwW
  exact List.mem_cons_self
theorem ck_n {cl : List vw_C} {MT : List MI} {own : String} {k : CK} {wd : Cond → Prop} (hw : ∀ w ∈ ckW cl MT own k, wd w) {idx a : Nat} {q : vw_C} (hq : cl[a]? = some q) (h : k.2.2.2.contains (idx, a) = true) : wd (.classLink own idx q.1) := by
  refine hw _ (List.mem_append_right _ (List.mem_append_right _ (List.mem_append_right _ (List.mem_flatMap.mpr ⟨_, List.contains_iff_mem.mp h, ?_⟩))))
  unfold nwW
  simp only [hq]
  exact List.mem_cons_self
/-- the words that all methods share -/
def primW : List Cond := [.static Lib.Math.min.name, .static Lib.Math.max.name, .initialized "java/lang/Math", .code Lib.Math.min.name Lib.Math.min.code 2 (some .int), .code Lib.Math.max.name Lib.Math.max.code 2 (some .int), .instanceMethod objectInit, .code objectInit ⟨#[0xb1]⟩ 1 none, .arrayClass .int, .arrayClass .long]
def instW (cl : List vw_C) : List Cond := cl.flatMap fun q => [.instantiable q.1 q.2.2, .initialized q.1]
theorem own_mrow {cl : List vw_C} {M : MI} {kd : Nat} (h : ownB cl M kd = true) (hw : codeW M ∈ TW ∧ ∀ w ∈ ownW M kd, w ∈ TW) {wd : Cond → Prop} (ht : ∀ w ∈ TW, wd w) : mrow wd TW M := by
  unfold ownB at h
  simp only [Bool.and_eq_true, decide_eq_true_eq] at h
  obtain ⟨h1, h2, h3, h4, -⟩ := h
  refine ⟨hw.1, ht _ (hw.2 _ List.mem_cons_self), h1, fun sig hs => ?_, h3, h4⟩
  rw [hs] at h2
  exact (Option.some.inj h2).symm
theorem nameOf_lt {MT : List MI} {a : Nat} (ha : ¬ 900 ≤ a) {M : MI} (h : MT[a]? = some M) : nameOf MT a = some M.nm := by
  unfold nameOf
  split
  all_goals first
    | omega
    | (rw [h]; rfl)
theorem jok_of {i : Instr} {a pc : Nat} (h3 : jokB i a pc = true) : jok i a pc := by
  cases i with
  | goto o => exact (of_decide_eq_true h3 : (pc : Int) + o = (a : Int))
  | ifCond c o => exact (of_decide_eq_true h3 : (pc : Int) + o = (a : Int))
  | if_icmp c o => exact (of_decide_eq_true h3 : (pc : Int) + o = (a : Int))
  | tableswitch d lo hi offs =>
    simp only [jokB, Bool.and_eq_true, decide_eq_true_eq, List.all_eq_true] at h3
    exact h3
  | lookupswitch d ps =>
    simp only [jokB, Bool.and_eq_true, decide_eq_true_eq] at h3
    exact ⟨h3.1, h3.2.1, fun q hq => of_decide_eq_true (List.all_eq_true.mp h3.2.2 q hq)⟩
  | _ => trivial
set_option maxHeartbeats 2000000 in
theorem chk_row {cl : List vw_C} {MT : List MI} {TS : List (String × Nat × String)} {KD : List Nat} {M : MI} {k : CK} (hG : ∀ (j : Nat) (M' : MI) (kd : Nat), MT[j]? = some M' → KD[j]? = some kd → ownB cl M' kd = true ∧ codeW M' ∈ TW ∧ ∀ w ∈ ownW M' kd, w ∈ TW)
    {wd : Cond → Prop} (ht : ∀ w ∈ TW, wd w) (hw : ∀ w ∈ ckW cl MT M.nm.cls k, wd w) (hp : ∀ w ∈ primW, wd w) (hin : ∀ w ∈ instW cl, wd w) {r : XR} (h : rowB cl MT TS KD M (decide (M.nm.name = "<init>")) k r = true) (htr : trow wd TS M r.2.1 r.2.2.2.1 r.1) :
    rowOK wd TW cl MT TS M r.1 r.2.1 r.2.2.1 r.2.2.2.1 r.2.2.2.2 := by
  obtain ⟨pc, i, len, a, b⟩ := r
  unfold rowB at h
  simp only [Bool.and_eq_true, decide_eq_true_eq] at h
  obtain ⟨h1, h2, h3, h4⟩ := h
  dsimp only at htr ⊢
  refine ⟨h1, ?_, ?_, ?_, ?_, ?_, ?_, htr⟩
  · unfold lenB at h2
    split at h2
    · exact Or.inr (Or.inl ⟨_, _, _, _, rfl⟩)
    · exact Or.inr (Or.inr ⟨_, _, rfl⟩)
    · exact Or.inl (of_decide_eq_true h2)
  · exact jok_of h3
  · unfold hrow
    split
    · rename_i idx
      dsimp only at h4
      unfold fieldB at h4
      split at h4
      · rename_i q hq
        simp only [Bool.and_eq_true, Bool.or_eq_true, decide_eq_true_eq] at h4
        refine ⟨q, hq, h4.1, ?_⟩
        rcases h4.2 with h5 | h5
        · exact Or.inl ⟨ck_f (n := 0) hw hq h5, fun z => nomatch z⟩
        · exact Or.inr ⟨⟨hostN, ck_f (n := 1) hw hq h5⟩, fun z => nomatch z⟩
      · cases h4
    · rename_i idx
      dsimp only at h4
      unfold putB at h4
      split at h4
      · rename_i q hq
        simp only [Bool.and_eq_true, decide_eq_true_eq] at h4
        refine ⟨q, hq, h4.1, ?_⟩
        have h5 := h4.2
        split at h5
        · rename_i hf
          simp only [Bool.and_eq_true, decide_eq_true_eq] at h5
          exact Or.inl ⟨ck_f (n := 0) hw hq h5.2, fun _ _ => ⟨decide_eq_true h5.1.1, h5.1.2⟩⟩
        · rename_i hf
          rw [Bool.or_eq_true] at h5
          rcases h5 with h5 | h5
          · exact Or.inl ⟨ck_f (n := 0) hw hq h5, fun _ z => absurd z hf⟩
          · exact Or.inr ⟨⟨hostN, ck_f (n := 1) hw hq h5⟩, fun _ => Bool.eq_false_iff.mpr hf⟩
      · cases h4
    · trivial
  · unfold nrow
    split
    · rename_i idx
      dsimp only at h4
      rw [Bool.or_eq_true, Bool.and_eq_true, decide_eq_true_eq, decide_eq_true_eq] at h4
      rcases h4 with h4 | h4
      · exact Or.inl h4
      · obtain ⟨q, hq⟩ : ∃ q, cl[a]? = some q := ⟨_, List.getElem?_eq_getElem h4.2⟩
        have hqm : ∀ w ∈ [Cond.instantiable q.1 q.2.2, .initialized q.1], wd w := fun w hwm => hin w (List.mem_flatMap.mpr ⟨q, List.mem_of_getElem? hq, hwm⟩)
        exact Or.inr ⟨q, hq, ck_n hw hq h4.1, hqm _ List.mem_cons_self, hqm _ (List.mem_cons_of_mem _ List.mem_cons_self)⟩
    · rename_i t
      dsimp only at h4
      rw [Bool.or_eq_true, decide_eq_true_eq, decide_eq_true_eq] at h4
      rcases h4 with rfl | rfl
      · exact hp _ (by simp [primW, newarray.typeOf])
      · exact hp _ (by simp [primW, newarray.typeOf])
    · trivial
  · unfold lrow
    split
    · rename_i idx
      dsimp only at h4
      split at h4
      · rename_i hb0
        rw [if_pos hb0]
        exact ck_c hw h4
      · rename_i hb0
        rw [if_neg hb0]
        split at h4
        · rename_i q hq
          rw [decide_eq_true_eq] at h4
          obtain ⟨q1, q2, q3⟩ := q
          obtain ⟨rfl, rfl⟩ := h4
          exact ⟨q3, hq⟩
        · cases h4
    · rename_i idx
      dsimp only at h4
      split at h4
      · rename_i hb0
        rw [if_pos hb0]
        exact ck_c hw h4
      · rename_i hb0
        rw [if_neg hb0]
        split at h4
        · rename_i q hq
          rw [decide_eq_true_eq] at h4
          obtain ⟨q1, q2, q3⟩ := q
          obtain ⟨rfl, rfl⟩ := h4
          exact ⟨q3, hq⟩
        · cases h4
    · exact ck_l hw h4
    · trivial
  · unfold irow
    split
    · rename_i idx
      dsimp only at h4
      split at h4
      · rw [Bool.and_eq_true, Bool.or_eq_true, decide_eq_true_eq, decide_eq_true_eq] at h4
        obtain ⟨rfl | rfl, h5⟩ := h4
        · exact Or.inl ⟨rfl, ck_m (n := 0) hw rfl h5, hp _ (by simp [primW]), hp _ (by simp [primW]), hp _ (by simp [primW])⟩
        · exact Or.inr (Or.inl ⟨rfl, ck_m (n := 0) hw rfl h5, hp _ (by simp [primW]), hp _ (by simp [primW]), hp _ (by simp [primW])⟩)
      · rename_i ha
        simp only [Bool.and_eq_true, Bool.or_eq_true, decide_eq_true_eq] at h4
        obtain ⟨⟨h5, h6⟩, h7⟩ := h4
        obtain ⟨M', hM'⟩ : ∃ q, MT[a]? = some q := ⟨_, List.getElem?_eq_getElem h5⟩
        obtain ⟨g1, g2⟩ := hG a M' 0 hM' h6
        refine Or.inr (Or.inr ⟨by omega, M', hM', own_mrow g1 g2 ht, ?_, ht _ (g2.2 _ (by simp [ownW]))⟩)
        rcases h7 with h7 | ⟨h7, h8⟩
        · exact Or.inl (ck_m (n := 0) hw (nameOf_lt ha hM') h7)
        · rw [hM'] at h8
          exact Or.inr ⟨List.isEmpty_iff.mp h8, hostN, ck_m (n := 1) hw (nameOf_lt ha hM') h7⟩
    · rename_i idx
      dsimp only at h4
      split at h4
      · rw [Bool.and_eq_true, Bool.or_eq_true, decide_eq_true_eq, decide_eq_true_eq] at h4
        obtain ⟨rfl | rfl, h5⟩ := h4
        · exact Or.inl ⟨rfl, ck_m (n := 0) hw rfl h5⟩
        · exact Or.inr (Or.inl ⟨rfl, ck_m (n := 0) hw rfl h5⟩)
      · rename_i ha
        simp only [Bool.and_eq_true, Bool.or_eq_true, decide_eq_true_eq] at h4
        obtain ⟨⟨h5, h6⟩, h7⟩ := h4
        obtain ⟨M', hM'⟩ : ∃ q, MT[a]? = some q := ⟨_, List.getElem?_eq_getElem h5⟩
        obtain ⟨g1, g2⟩ := hG a M' 1 hM' h6
        have g3 := g1
        unfold ownB at g3
        simp only [Bool.and_eq_true, if_true, if_false, Nat.one_ne_zero] at g3
        obtain ⟨-, -, -, -, g4, g5⟩ := g3
        have hh0 : M'.hd = [] := List.isEmpty_iff.mp g4
        refine Or.inr (Or.inr ⟨by omega, M', hM', own_mrow g1 g2 ht, hh0, ?_, ht _ (g2.2 _ (by simp [ownW])), ht _ (g2.2 _ (by simp [ownW])), ?_⟩)
        · rcases h7 with h7 | h7
          · exact Or.inl (ck_m (n := 0) hw (nameOf_lt ha hM') h7)
          · exact Or.inr ⟨hh0, hostN, ck_m (n := 1) hw (nameOf_lt ha hM') h7⟩
        · split at g5
          · rename_i q hq
            exact ⟨q, hq, of_decide_eq_true g5⟩
          · cases g5
    · rename_i idx
      dsimp only at h4
      split at h4
      · rw [Bool.and_eq_true, decide_eq_true_eq] at h4
        obtain ⟨rfl, h5⟩ := h4
        exact Or.inl ⟨rfl, ck_m (n := 0) hw rfl h5, hp _ (by simp [primW]), hp _ (by simp [primW])⟩
      · rename_i ha
        simp only [Bool.and_eq_true, Bool.or_eq_true, decide_eq_true_eq] at h4
        obtain ⟨⟨h5, h6⟩, h7⟩ := h4
        obtain ⟨M', hM'⟩ : ∃ q, MT[a]? = some q := ⟨_, List.getElem?_eq_getElem h5⟩
        obtain ⟨g1, g2⟩ := hG a M' 2 hM' h6
        have g3 := g1
        unfold ownB at g3
        simp only [Bool.and_eq_true, show ¬ (2 : Nat) = 0 from by decide, show ¬ (2 : Nat) = 1 from by decide, if_false, decide_eq_true_eq] at g3
        obtain ⟨-, -, -, -, g4, g5, g6⟩ := g3
        have hh0 : M'.hd = [] := List.isEmpty_iff.mp g4
        refine Or.inr ⟨by omega, M', hM', own_mrow g1 g2 ht, hh0, g5, g6, ?_, ht _ (g2.2 _ (by simp [ownW]))⟩
        rcases h7 with h7 | h7
        · exact Or.inl (ck_m (n := 0) hw (nameOf_lt ha hM') h7)
        · exact Or.inr ⟨hh0, hostN, ck_m (n := 1) hw (nameOf_lt ha hM') h7⟩
    · trivial
/-- no row of it throws -/
def noThr (M : MI) : Bool := M.rw.all fun r => match r.2.1 with
  | .new _ => decide (r.2.2.2.1 < 1000)
  | _ => true
theorem noThr_ok {M : MI} (h : noThr M = true) (wd : Cond → Prop) (TS : List (String × Nat × String)) {r : XR} (hr : r ∈ M.rw) : trow wd TS M r.2.1 r.2.2.2.1 r.1 := by
  have h1 := List.all_eq_true.mp h r hr
  unfold trow
  split
  · rename_i idx he
    rw [he] at h1
    intro ha
    exact absurd (of_decide_eq_true h1) (by omega)
  · trivial
def hdB (M : MI) (h : HD) : Bool := decide (h.2.2.2.1 ≠ 0) && decide (h.2.2.2.2 < 2)
def hdW (M : MI) : List Cond := M.hd.flatMap fun h => [.classLink M.nm.cls h.2.2.2.1 (excN h.2.2.2.2), .castable (excN h.2.2.2.2) (excN h.2.2.2.2)]
theorem meth_ok {cl : List vw_C} {MT : List MI} {TS : List (String × Nat × String)} {KD : List Nat} {M : MI} {k : CK} {kd : Nat} (hG : ∀ (j : Nat) (M' : MI) (kd : Nat), MT[j]? = some M' → KD[j]? = some kd → ownB cl M' kd = true ∧ codeW M' ∈ TW ∧ ∀ w ∈ ownW M' kd, w ∈ TW)
    (hp : ∀ w ∈ primW, w ∈ TW) (hin : ∀ w ∈ instW cl, w ∈ TW) (hw : ∀ w ∈ ckW cl MT M.nm.cls k, w ∈ TW) (h : M.rw.all (rowB cl MT TS KD M (decide (M.nm.name = "<init>")) k) = true) (ho : ownB cl M kd = true) (how : codeW M ∈ TW ∧ ∀ w ∈ ownW M kd, w ∈ TW)
    (hh : M.hd.all (hdB M) = true) (hhw : ∀ w ∈ hdW M, w ∈ TW) (htr : ∀ wd : Cond → Prop, (∀ w ∈ TW, wd w) → ∀ r ∈ M.rw, trow wd TS M r.2.1 r.2.2.2.1 r.1) : methOK cl MT TS M := by
  intro wd ht
  refine ⟨own_mrow ho how ht, fun x hx => ?_, fun pc i len a b hr => ?_⟩
  · have h1 := List.all_eq_true.mp hh x hx
    unfold hdB at h1
    simp only [Bool.and_eq_true, decide_eq_true_eq] at h1
    refine ⟨h1.1, h1.2, ht _ (hhw _ (List.mem_flatMap.mpr ⟨x, hx, List.mem_cons_self⟩)), ht _ (hhw _ (List.mem_flatMap.mpr ⟨x, hx, List.mem_cons_of_mem _ List.mem_cons_self⟩))⟩
  · have hm := xlk_mem hr
    exact chk_row (r := (pc, i, len, a, b)) hG ht (fun w hw1 => ht _ (hw w hw1)) (fun w hw1 => ht _ (hp w hw1)) (fun w hw1 => ht _ (hin w hw1)) (List.all_eq_true.mp h _ hm) (htr wd ht _ hm)
