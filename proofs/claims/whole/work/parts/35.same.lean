/-! What is on and what counts: the same in both. -/
def WM (κ : CT) (l : LW) (η : HS) : Prop := (∀ b, b < κ.nb → η.wk b = wlk κ l η b (fm η b 0) (η.le b + 0)) ∧ (True)
theorem WM.e {κ : CT} {l : LW} {η : HS} (h_ : WM κ l η) : ∀ b, b < κ.nb → η.wk b = wlk κ l η b (fm η b 0) (η.le b + 0) := h_.1
theorem WM.t {κ : CT} {l : LW} {η : HS} (h_ : WM κ l η) : True := h_.2
theorem WM.hw {κ : CT} {l : LW} {η : HS} (h : WM κ l η) : HW κ η := ⟨fun b hb => by rw [h.e b hb]; exact (wlk_le _ _ _ _ _ _).1, trivial⟩
theorem fm_0 {κ : CT} {η : HS} (hb : HB κ η) (b : Nat) : fm η b 0 = η.be b := by
  have := hb.be b
  unfold fm
  omega
theorem on_eq {κ : CT} {l : LW} {η : HS} (hb : HB κ η) (wm : WM κ l η) {b : Nat} (h : b < κ.nb) (m : Nat) : onB η b m = onM κ l η b 0 m := by
  unfold onB onM
  rw [wm.e b h, fm_0 hb]
theorem bd_eq {κ : CT} {l : LW} {η : HS} (hb : HB κ η) (wm : WM κ l η) (m : Nat) : birds κ η m = bdM κ l η m := mk_congr fun _ h => on_eq hb wm h m
theorem sd_eq {κ : CT} {η : HS} (m : Nat) : mk (fun i => decide (η.sa i ≤ m)) κ.ns = sdB κ η 0 m := mk_congr fun _ _ => decide_eq_decide.mpr (by omega)
theorem mk_eq0 (p : Nat → Bool) (n : Nat) : mk p n = 0 ↔ ∀ i, i < n → p i = false := by
  constructor
  · intro h i hi
    have h2 := mk_bit p n i
    rw [h, Nat.zero_testBit, decide_eq_true hi, Bool.true_and] at h2
    exact h2.symm
  · intro h
    refine Nat.eq_of_testBit_eq fun i => ?_
    rw [mk_bit, Nat.zero_testBit]
    by_cases hi : i < n
    · rw [h i hi, Bool.and_false]
    · rw [decide_eq_false hi, Bool.false_and]
theorem andc_bit (a b i : Nat) : (andc a b).testBit i = (a.testBit i && !b.testBit i) := by
  unfold andc
  rw [Nat.testBit_xor, Nat.testBit_and]
  cases a.testBit i <;> cases b.testBit i <;> rfl
theorem cnM_bit {κ : CT} {l : LW} {η : HS} : ∀ n i, (cnM κ l η n).testBit i = true ↔ (i < κ.ns ∧ ∀ b, b < n → onM κ l η b 0 (η.sa i) = false)
  | 0, i => by
    unfold cnM
    rw [all_bit]
    exact ⟨fun h => ⟨of_decide_eq_true h, fun b hb => absurd hb (Nat.not_lt_zero b)⟩, fun h => decide_eq_true h.1⟩
  | n + 1, i => by
    have ih := cnM_bit (κ := κ) (l := l) (η := η) n i
    unfold cnM ovr
    rw [andc_bit, mk_bit, Bool.and_eq_true, ih]
    constructor
    · rintro ⟨⟨h1, h2⟩, h3⟩
      refine ⟨h1, fun b hb => ?_⟩
      by_cases e : b = n
      · subst e
        rw [decide_eq_true h1, Bool.true_and] at h3
        simpa using h3
      · exact h2 b (by omega)
    · rintro ⟨h1, h2⟩
      refine ⟨⟨h1, fun b hb => h2 b (by omega)⟩, ?_⟩
      rw [h2 n (by omega), Bool.and_false]
      rfl
theorem cn_eq {κ : CT} {l : LW} {η : HS} (hb : HB κ η) (wm : WM κ l η) : cnM κ l η κ.nb = cnt κ η := by
  refine Nat.eq_of_testBit_eq fun i => ?_
  rw [Bool.eq_iff_iff, cnM_bit]
  unfold cnt
  rw [mk_bit, Bool.and_eq_true, decide_eq_true_iff]
  refine and_congr_right fun _ => ?_
  unfold doesC birds
  rw [decide_eq_true_iff, mk_eq0]
  exact ⟨fun h b hb2 => (on_eq hb wm hb2 _).trans (h b hb2), fun h b hb2 => (on_eq hb wm hb2 _).symm.trans (h b hb2)⟩
theorem hd_eq {κ : CT} {l : LW} {η : HS} (hb : HB κ η) (wm : WM κ l η) (m : Nat) : cnM κ l η κ.nb &&& mk (fun i => decide (η.sa i ≤ m)) κ.ns = heard κ η m := by
  rw [cn_eq hb wm, sd_eq]
  rfl
theorem heard_lt {κ : CT} {η : HS} (m : Nat) : heard κ η m < 2 ^ κ.ns := Nat.lt_of_le_of_lt Nat.and_le_left (mk_lt _ _)
theorem ms_wm {κ : CT} {l : LW} {η : HS} : WM κ l (ms κ l η κ.nb) := ⟨fun b hb => by rw [ms_wk, if_pos hb]; rfl, trivial⟩
theorem ov_eq {κ : CT} {l : LW} {η : HS} (hb : HB κ η) (wm : WM κ l η) {b : Nat} (h : b < κ.nb) : sdB κ η (η.be b) (η.be b + η.wk b - 1) = ovr κ l η b 0 := by
  have h2 := cov_eq (κ := κ) (l := l) (η := η) (b := b) (more := 0)
  rw [← wm.e b h, fm_0 hb] at h2
  exact h2
