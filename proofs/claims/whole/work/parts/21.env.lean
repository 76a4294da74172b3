/-! The start of the law: what the Statement gives, as the interpreter's world. -/
def strW (q : String × Nat × String) (t : List Nat) : List Cond :=
  [.exactly (.string q.1 q.2.1) "java/lang/String", .eq (.field (.string q.1 q.2.1) "java/lang/String" "coder" "B") (.int 0), .arrayOf (.field (.string q.1 q.2.1) "java/lang/String" "value" "[B") .byte, .eq (.length (.field (.string q.1 q.2.1) "java/lang/String" "value" "[B")) (.int (Int32.ofNat t.length))] ++
  (List.range t.length).map fun j => .eq (.elem (.field (.string q.1 q.2.1) "java/lang/String" "value" "[B") (.int (Int32.ofNat j))) (.int (Int32.ofNat (t.getD j 0)))
def statW : List Cond := [.isRef (.static "java/lang/Throwable" "UNASSIGNED_STACK" "[Ljava/lang/StackTraceElement;"), .isRef (.static "java/lang/Throwable" "SUPPRESSED_SENTINEL" "Ljava/util/List;"), .eq (.static "java/lang/String" "COMPACT_STRINGS" "Z") (.int 1), .isRef (.static "jdk/internal/util/Preconditions" "SIOOBE_FORMATTER" "Ljava/util/function/BiFunction;"), .not (.castable "java/util/NoSuchElementException" "java/lang/IllegalArgumentException"), .not (.castable "java/lang/IllegalArgumentException" "java/util/NoSuchElementException")]
def envW : List Cond := statW ++ (TSS.zip TXS).flatMap fun q => strW q.1 q.2
def subL : List Cond → List Cond → Bool
  | [], _ => true
  | _ :: _, [] => false
  | w :: ws, x :: xs => if w = x then subL ws xs else subL (w :: ws) xs
theorem subL_in : ∀ (xs ws : List Cond), subL ws xs = true → ∀ w ∈ ws, w ∈ xs := by
  intro xs
  induction xs with
  | nil =>
    intro ws h w hw
    cases ws with
    | nil => exact hw
    | cons a b => cases h
  | cons x xs ih =>
    intro ws h w hw
    cases ws with
    | nil => cases hw
    | cons a b =>
      unfold subL at h
      split at h
      · rename_i hax
        rcases List.mem_cons.mp hw with rfl | hw
        · rw [hax]; exact List.mem_cons_self
        · exact List.mem_cons_of_mem _ (ih b h w hw)
      · exact List.mem_cons_of_mem _ (ih (a :: b) h w hw)
set_option maxRecDepth 100000 in
theorem envW_in : ∀ w ∈ envW, w ∈ flatC (Jvm.Cond.and given_1 narrow_1) := subL_in _ _ (by decide +kernel)
/-- words of the tables that do not go with the machine, by their places -/
theorem lt_in {ws : List Cond} (is : List (Nat × Nat)) (h : is.map (fun i => (sg i.1)[i.2]?) = ws.map some) : ∀ w ∈ ws, w ∈ lw_tbl := by
  intro w hw
  have h1 : some w ∈ is.map (fun i => (sg i.1)[i.2]?) := by rw [h]; exact List.mem_map.mpr ⟨w, hw, rfl⟩
  obtain ⟨i, -, hi⟩ := List.mem_map.mp h1
  exact sg_in _ w (List.mem_of_getElem? hi)
set_option maxRecDepth 100000 in
theorem txt_in : ∀ w ∈ TSS.map (fun q => Cond.stringRef q.1 q.2.1 q.2.2), w ∈ lw_tbl := lt_in [(9, 182), (10, 5), (10, 75), (10, 80), (10, 85), (10, 155), (10, 161), (10, 166), (10, 167), (10, 168), (10, 169), (10, 170), (10, 171), (10, 197), (10, 210), (10, 215), (10, 216), (10, 217), (10, 218), (11, 89), (13, 149), (13, 159), (13, 163), (13, 164), (13, 220), (13, 225), (13, 230), (13, 231), (13, 232), (13, 233), (13, 234), (14, 6), (14, 7), (14, 8), (14, 9), (14, 10), (14, 11)] (by decide +kernel)
set_option maxRecDepth 100000 in
theorem stat_in : ∀ w ∈ [Cond.laysStatic "java/lang/Throwable" "UNASSIGNED_STACK" "[Ljava/lang/StackTraceElement;", .laysStatic "java/lang/Throwable" "SUPPRESSED_SENTINEL" "Ljava/util/List;", .laysStatic "java/lang/String" "COMPACT_STRINGS" "Z", .laysStatic "jdk/internal/util/Preconditions" "SIOOBE_FORMATTER" "Ljava/util/function/BiFunction;", .initialized "java/lang/Throwable", .initialized "java/lang/String", .initialized "jdk/internal/util/Preconditions"], w ∈ lw_tbl := lt_in [(9, 169), (9, 171), (10, 19), (10, 35), (7, 13), (7, 17), (7, 19)] (by decide +kernel)
theorem strAt_of {args : Array Value} {s : State} {A : Nat → Prop} {q : String × Nat × String} {t : List Nat} (hlen : t.length < 2 ^ 31) (h : ∀ w ∈ strW q t, w.before args s = true) (hA : ∀ a : Nat, a < s.heap.size → ¬ A a) :
    ∃ a, (Term.string q.1 q.2.1).eval args s none [] s = some (.ref a) ∧ strAt a t A s s.heap := by
  have hm : ∀ w ∈ [Cond.exactly (.string q.1 q.2.1) "java/lang/String", .eq (.field (.string q.1 q.2.1) "java/lang/String" "coder" "B") (.int 0), .arrayOf (.field (.string q.1 q.2.1) "java/lang/String" "value" "[B") .byte, .eq (.length (.field (.string q.1 q.2.1) "java/lang/String" "value" "[B")) (.int (Int32.ofNat t.length))], w.before args s = true := fun w hw => h w (List.mem_append_left _ hw)
  have hel : ∀ j, j < t.length → (Cond.eq (.elem (.field (.string q.1 q.2.1) "java/lang/String" "value" "[B") (.int (Int32.ofNat j))) (.int (Int32.ofNat (t.getD j 0)))).before args s = true := fun j hj => h _ (List.mem_append_right _ (List.mem_map.mpr ⟨j, List.mem_range.mpr hj, rfl⟩))
  obtain ⟨a, c, cA, kA, q1, q2, q3, q4, q5, q6, -⟩ := Cond.exactly_spec (args := args) (first := s) (o := none) (s := s) (idx := []) (t := Term.string q.1 q.2.1) (cls := "java/lang/String") (hm _ List.mem_cons_self)
  obtain ⟨tv, ht, hT⟩ := va_Tof (tm := .field (.string q.1 q.2.1) "java/lang/String" "value" "[B") (f := fun j => .int (Int32.ofNat (t.getD j 0))) (A := A) hlen (hm (.arrayOf (.field (.string q.1 q.2.1) "java/lang/String" "value" "[B") .byte) (by simp)) (va_eqt (hm (.eq (.length (.field (.string q.1 q.2.1) "java/lang/String" "value" "[B")) (.int (Int32.ofNat t.length))) (by simp))) (fun j hj => va_eqt (hel j hj)) hA
  exact ⟨a, q1, ⟨cA, q3, q5, by rw [q6]; exact q2, hA a (Array.getElem?_eq_some_iff.mp q3).1⟩, vk_OFof q1 (va_eqt (hm (.eq (.field (.string q.1 q.2.1) "java/lang/String" "coder" "B") (.int 0)) (by simp))) hA, tv, vk_OFof q1 ht hA, hT⟩
theorem env_of {s : State} {b : Nat} (hts : ∀ w ∈ lw_tbl, w.before #[Value.ref b] s = true) (hgv : (Jvm.Cond.and given_1 narrow_1).before #[Value.ref b] s = true) : ∃ (D : va_G) (cI cL : Nat) (ad : Nat → Nat), ad spc = b ∧ ENV CLS TSS TXS D cI cL ad (fun q => s.heap.size ≤ q) s s.heap := by
  have hA : ∀ a : Nat, a < s.heap.size → ¬ (fun q : Nat => s.heap.size ≤ q) a := fun a h => Nat.not_le.mpr h
  have hnr : ∀ w ∈ envW, w.before #[Value.ref b] s = true := fun w hw => flat_of_before _ hgv w (envW_in w hw)
  have hst : ∀ w ∈ statW, w.before #[Value.ref b] s = true := fun w hw => hnr w (List.mem_append_left _ hw)
  have hsl := fun w hw => hts w (stat_in w hw)
  have hK : ∃ (dC : Nat → ClassId) (dI : Nat → Nat → Nat), ∀ (k : Nat) (q : vw_C), CLS[k]? = some q → u_Kn s q.1 q.2.1 q.2.2 (dC k) (dI k) := by
    have h0 : ∀ k : Nat, ∃ x : ClassId × (Nat → Nat), ∀ q : vw_C, CLS[k]? = some q → u_Kn s q.1 q.2.1 q.2.2 x.1 x.2 := by
      intro k
      cases hq : CLS[k]? with
      | none => exact ⟨(0, fun _ => 0), fun q h => nomatch h⟩
      | some q =>
        obtain ⟨h1, -⟩ := cls_ok k q hq
        have h2 : Cond.instantiable q.1 q.2.2 ∈ TW := inst_in _ (List.mem_flatMap.mpr ⟨q, List.mem_of_getElem? hq, List.mem_cons_self⟩)
        obtain ⟨cC, iS, h3⟩ := u_known (ws := TW) (fun w hw => hts w ((List.mem_filter.mp hw).1)) h1 (hts _ ((List.mem_filter.mp h2).1))
        exact ⟨(cC, iS), fun q' h => by cases h; exact h3⟩
    obtain ⟨f, hf⟩ := Classical.axiomOfChoice h0
    exact ⟨fun k => (f k).1, fun k => (f k).2, hf⟩
  obtain ⟨dC, dI, hK⟩ := hK
  obtain ⟨cI, kI, pI, i1, i2, i3⟩ := Cond.arrayClass_spec (hts _ ((List.mem_filter.mp (prim_in (.arrayClass .int) (by simp [primW]))).1))
  obtain ⟨cL, kL, pL, l1, l2, l3⟩ := Cond.arrayClass_spec (hts _ ((List.mem_filter.mp (prim_in (.arrayClass .long) (by simp [primW]))).1))
  have hT : ∀ i : Nat, ∃ a : Nat, ∀ (q : String × Nat × String) (t : List Nat), TSS[i]? = some q → TXS[i]? = some t → (Term.string q.1 q.2.1).eval #[Value.ref b] s none [] s = some (.ref a) ∧ strAt a t (fun q => s.heap.size ≤ q) s s.heap := by
    intro i
    cases hq : TSS[i]? with
    | none => exact ⟨0, fun q t h => nomatch h⟩
    | some q =>
      cases ht : TXS[i]? with
      | none => exact ⟨0, fun q t _ h => nomatch h⟩
      | some t =>
        have hz : (TSS.zip TXS)[i]? = some (q, t) := by rw [List.getElem?_zip_eq_some]; exact ⟨hq, ht⟩
        obtain ⟨a, h1, h2⟩ := strAt_of (A := fun q => s.heap.size ≤ q) (q := q) (t := t) (txs_ok t (List.mem_of_getElem? ht)).1 (fun w hw => hnr w (List.mem_append_right _ (List.mem_flatMap.mpr ⟨(q, t), List.mem_of_getElem? hz, hw⟩))) hA
        exact ⟨a, fun q' t' e1 e2 => by cases e1; cases e2; exact ⟨h1, h2⟩⟩
  obtain ⟨f, hf⟩ := Classical.axiomOfChoice hT
  have hlen : TSS.length = TXS.length := by decide +kernel
  refine ⟨(dC, dI), cI, cL, fun i => if i = spc then b else f (i - spc - 1), by simp, ⟨hK, ?_⟩, ?_, ?_, ?_, ?_, ?_, ?_, ?_, ?_⟩
  · intro k q hq
    match k, hq with
    | 0, hq => cases hq; exact ⟨fun n z => ⟨fun k h => (by cases h), kI, i2, pI, i3⟩, i1⟩
    | 1, hq => cases hq; exact ⟨fun n z => ⟨fun k h => (by cases h), kL, l2, pL, l3⟩, l1⟩
    | k + 2, hq => cases hq
  · intro i q hq
    have hi : i < TXS.length := by rw [← hlen]; exact (List.getElem?_eq_some_iff.mp hq).1
    have h1 := (hf i q _ hq (List.getElem?_eq_getElem hi)).1
    have e : (if spc + 1 + i = spc then b else f (spc + 1 + i - spc - 1)) = f i := by
      rw [if_neg (by omega), show spc + 1 + i - spc - 1 = i by omega]
    show vk_R q.1 q.2.1 q.2.2 (if spc + 1 + i = spc then b else f (spc + 1 + i - spc - 1)) s
    rw [e]
    exact vk_R.of (A := #[Value.ref b]) (hts _ (txt_in _ (List.mem_map.mpr ⟨q, List.mem_of_getElem? hq, rfl⟩))) h1
  · intro i t ht
    have hi : i < TSS.length := by rw [hlen]; exact (List.getElem?_eq_some_iff.mp ht).1
    have h1 := (hf i _ t (List.getElem?_eq_getElem hi) ht).2
    have e : (if spc + 1 + i = spc then b else f (spc + 1 + i - spc - 1)) = f i := by
      rw [if_neg (by omega), show spc + 1 + i - spc - 1 = i by omega]
    show strAt (if spc + 1 + i = spc then b else f (spc + 1 + i - spc - 1)) t _ s s.heap
    rw [e]
    exact h1
  · exact vx_Zqof (hsl _ (by simp [Bundle.tN, Bundle.steD])) (hsl _ (by simp [Bundle.tN])) (hst _ (by simp [statW, Bundle.tN, Bundle.steD])) hA
  · exact vx_Zqof (hsl _ (by simp [Bundle.tN, Bundle.listD])) (hsl _ (by simp [Bundle.tN])) (hst _ (by simp [statW, Bundle.tN, Bundle.listD])) hA
  · exact va_Zof (hsl _ (by simp)) (hsl _ (by simp)) (va_eqt (hst _ (by simp [statW]))) hA
  · exact va_Nc.of (hst (.not (.castable "java/util/NoSuchElementException" "java/lang/IllegalArgumentException")) (by simp [statW]))
  · exact va_Nc.of (hst (.not (.castable "java/lang/IllegalArgumentException" "java/util/NoSuchElementException")) (by simp [statW]))
  · exact va_Zqof (hsl _ (by simp)) (hsl _ (by simp)) (hst _ (by simp [statW])) hA
/-- what is left to show, of the interpreter alone: over every script the law comes to its end with 1, within its room -/
def LawRuns : Prop := ∀ (L : Nat) (xs : Nat → Int32), L ≤ 3584 → ∃ (N d : Nat) (r : Res), d ≤ 2000 ∧ run CLS FTY MT TXS (some (L, xs)) (call CLS FTY MT TXS N d) M_L_law_ N (0, [(0, .ref spc)], [], [], 0, 0) = some r ∧ r.1 = .inl (some (.int 1)) ∧ r.2.2.1 ≤ 601024 ∧ r.2.2.2 ≤ 7293034
