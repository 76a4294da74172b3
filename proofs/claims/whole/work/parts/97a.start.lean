/-! Both made: what is thought of them at the start. -/
theorem shS_mk : ∀ (sl : List (Option Nat)) (fs : List Value) (f : Nat → Int32), shS sl fs = true → (∀ j, f j = vI (fs.getD j .null)) → mkS f sl = fs
  | [], [], f, _, _ => rfl
  | [], v :: fs, f, h, _ => by simp [shS] at h
  | s :: sl, [], f, h, _ => by cases s <;> simp [shS] at h
  | none :: sl, v :: fs, f, h, hf => by
    have hv : ∃ x, v = .int x := by
      cases v <;> first | exact ⟨_, rfl⟩ | simp [shS] at h
    obtain ⟨x, rfl⟩ := hv
    have h2 : shS sl fs = true := h
    have i := shS_mk sl fs (fun j => f (j + 1)) h2 (fun j => hf (j + 1))
    have e : (fun i => slv f (i + 1)) = slv (fun j => f (j + 1)) := by
      funext i s
      cases s <;> rfl
    show List.mapIdx (slv f) (none :: sl) = _
    rw [List.mapIdx_cons, e]
    have h0 : f 0 = x := hf 0
    show Value.int (f 0) :: mkS (fun j => f (j + 1)) sl = _
    rw [h0, i]
  | some r :: sl, v :: fs, f, h, hf => by
    have hv : v = .ref r ∧ shS sl fs = true := by
      cases v <;> simp [shS] at h
      exact ⟨by rw [h.1], h.2⟩
    obtain ⟨rfl, h2⟩ := hv
    have i := shS_mk sl fs (fun j => f (j + 1)) h2 (fun j => hf (j + 1))
    have e : (fun i => slv f (i + 1)) = slv (fun j => f (j + 1)) := by
      funext i s
      cases s <;> rfl
    show List.mapIdx (slv f) (some r :: sl) = _
    rw [List.mapIdx_cons, e]
    show Value.ref r :: mkS (fun j => f (j + 1)) sl = _
    rw [i]
theorem shps_at : ∀ (ls : List LO) (G : AH) (i : Nat), shps ls G = true → (ls[i]? = none ∧ G[i]? = none) ∨ ∃ l a, ls[i]? = some l ∧ G[i]? = some a ∧ shp l a = true
  | [], [], i, _ => .inl ⟨by simp, by simp⟩
  | [], a :: G, i, h => by simp [shps] at h
  | l :: ls, [], i, h => by simp [shps] at h
  | l :: ls, a :: G, i, h => by
    have h2 : shp l a = true ∧ shps ls G = true := by simpa [shps] using h
    cases i with
    | zero => exact .inr ⟨l, a, by simp, by simp, h2.1⟩
    | succ i =>
      rcases shps_at ls G i h2.2 with ⟨x, y⟩ | ⟨l2, a2, x, y, z⟩
      · exact .inl ⟨by simpa using x, by simpa using y⟩
      · exact .inr ⟨l2, a2, by simpa using x, by simpa using y, z⟩
theorem shp_mk {G : AH} {i : Nat} {l : LO} {a : AO} (ha : G[i]? = some a) (h : shp l a = true) : a = mkO (mI G) (mJ G) i l := by
  rcases l with n | n | ⟨c, sl⟩ <;> rcases a with ⟨m, f⟩ | ⟨m, f⟩ | ⟨c2, fs⟩
  · have e : n = m := of_decide_eq_true h
    subst e
    have e2 : mI G i = f := by
      funext j
      unfold mI
      rw [ha]
    show _ = oI n (mI G i)
    rw [e2]
    rfl
  · exact absurd h (by simp [shp])
  · exact absurd h (by simp [shp])
  · exact absurd h (by simp [shp])
  · have e : n = m := of_decide_eq_true h
    subst e
    have e2 : mJ G i = f := by
      funext j
      unfold mJ
      rw [ha]
    show _ = oL n (mJ G i)
    rw [e2]
    rfl
  · exact absurd h (by simp [shp])
  · exact absurd h (by simp [shp])
  · exact absurd h (by simp [shp])
  · have h2 : c = c2 ∧ shS sl fs = true := by simpa [shp] using h
    obtain ⟨rfl, h3⟩ := h2
    have e2 : mkS (mI G i) sl = fs := shS_mk sl fs _ h3 (fun j => by unfold mI; rw [ha])
    show _ = oC c (mkS (mI G i) sl)
    rw [e2]
    rfl
theorem shps_hp {G : AH} (h : shps LAYO G = true) : G = hp (mI G) (mJ G) := by
  refine List.ext_getElem? fun i => ?_
  unfold hp
  rw [List.getElem?_mapIdx]
  rcases shps_at LAYO G i h with ⟨x, y⟩ | ⟨l, a, x, y, z⟩
  · rw [x, y]
    rfl
  · rw [x, y]
    show some a = some (mkO (mI G) (mJ G) i l)
    rw [← shp_mk y z]
theorem chs_at : ∀ (G : AH) (o i : Nat) (a : AO), chs o G = true → G[i]? = some a → chO (o + i) a = true
  | [], o, i, a, _, e => by simp at e
  | b :: G, o, i, a, h, e => by
    have h2 : chO o b = true ∧ chs (o + 1) G = true := by simpa [chs] using h
    cases i with
    | zero =>
      have e2 : b = a := by simpa using e
      rw [← e2]
      exact h2.1
    | succ i =>
      have e2 : G[i]? = some a := by simpa using e
      have := chs_at G (o + 1) i a h2.2 e2
      rw [show o + (i + 1) = o + 1 + i by omega]
      exact this
theorem ctB_f : ∃ c z, rB = some (.inl none, gB, c, z) ∧ gB.length = 135 ∧ c ≤ 1000 ∧ z ≤ 100000 ∧ okA [(0, .ref spc), (1, .ref 0), (2, .ref 106)] [] gB = true ∧ shps LAYO (gB ++ [oOut]) = true ∧ chs 0 (gB ++ [oOut]) = true := by
  have t := ctB_t
  unfold gB
  generalize rB = r at t ⊢
  unfold ctB at t
  split at t
  · rename_i G c z
    simp only [Bool.and_eq_true, decide_eq_true_eq] at t
    exact ⟨c, z, rfl, t.1, t.2.1, t.2.2.1, t.2.2.2.1, t.2.2.2.2.1, t.2.2.2.2.2⟩
  · cases t
theorem ctA_f : ∃ c z, rA = some (.inl none, gA, c, z) ∧ gA.length = 106 ∧ c ≤ 1000 ∧ z ≤ 100000 ∧ okA [(0, .ref spc), (1, .ref 0)] [] gA = true ∧ okA [(0, .ref spc), (1, .ref 0)] [.ref 106] (gA ++ [ob11]) = true := by
  have t := ctA_t
  unfold gA
  generalize rA = r at t ⊢
  unfold ctA at t
  split at t
  · rename_i G c z
    simp only [Bool.and_eq_true, decide_eq_true_eq] at t
    exact ⟨c, z, rfl, t.1, t.2.1, t.2.2.1, t.2.2.2.1, t.2.2.2.2⟩
  · cases t
def gC : AH := gB ++ [oOut]
def I0 : Nat → Nat → Int32 := mI gC
def J0 : Nat → Nat → Int64 := mJ gC
theorem gC_hp : gC = hp I0 J0 := by
  obtain ⟨c, z, -, -, -, -, -, h, -⟩ := ctB_f
  exact shps_hp h
theorem gC_ch : chs 0 (hp I0 J0) = true := by
  obtain ⟨c, z, -, -, -, -, -, -, h⟩ := ctB_f
  rw [← gC_hp]
  exact h
theorem i0A {o n : Nat} (h : LAYO[o]? = some (.inl n)) {j : Nat} (hj : j < n) : I0 o j = zI (exv o j) := by
  have e := chs_at _ 0 o _ gC_ch (hp_at h)
  rw [Nat.zero_add] at e
  have e2 : (List.range n).all (fun j => decide (I0 o j = zI (exv o j))) = true := e
  exact of_decide_eq_true (List.all_eq_true.mp e2 j (List.mem_range.mpr hj))
theorem i0O {o c : Nat} {sl : List (Option Nat)} (h : LAYO[o]? = some (.inr (.inr (c, sl)))) {j : Nat} (hs : sl[j]? = some none) : I0 o j = zI (exv o j) := by
  have e := chs_at _ 0 o _ gC_ch (hp_at h)
  rw [Nat.zero_add] at e
  have e2 : (List.range (mkS (I0 o) sl).length).all (fun j => decide (vI ((mkS (I0 o) sl).getD j .null) = zI (exv o j))) = true := e
  have hj : (mkS (I0 o) sl)[j]? = some (slv (I0 o) j none) := mkS_at hs
  have hl : j < (mkS (I0 o) sl).length := (List.getElem?_eq_some_iff.mp hj).1
  have e3 := of_decide_eq_true (List.all_eq_true.mp e2 j (List.mem_range.mpr hl))
  have vs : ∀ f : Nat → Int32, vI ((some (slv f j none)).getD .null) = f j := fun f => rfl
  rw [List.getD_eq_getElem?_getD, hj, vs] at e3
  exact e3
def exz (o : Nat) : Bool := !([1, 46, 48, 53, 55, 106, 129].contains o)
theorem exv_z {o : Nat} (h : exz o = true) (j : Nat) : exv o j = 0 := by
  have h2 : o ≠ 1 ∧ o ≠ 46 ∧ o ≠ 48 ∧ o ≠ 53 ∧ o ≠ 55 ∧ o ≠ 106 ∧ o ≠ 129 := by
    unfold exz at h
    simpa using h
  unfold exv
  rw [if_neg (by omega), if_neg (by omega)]
theorem z_0 : zI 0 = nI 0 := by decide +kernel
theorem zA {o n : Nat} (h : LAYO[o]? = some (.inl n)) {j : Nat} (hj : j < n) (he : exz o = true := by rfl) : I0 o j = nI 0 := (i0A h hj).trans (by rw [exv_z he]; exact z_0)
theorem zO {o c : Nat} {sl : List (Option Nat)} (h : LAYO[o]? = some (.inr (.inr (c, sl)))) {j : Nat} (hs : sl[j]? = some none) (he : exv o j = 0 := by decide) : I0 o j = nI 0 := (i0O h hs).trans (by rw [he]; exact z_0)
theorem m129 (j : Nat) : exv 129 j = -1 := by
  unfold exv
  rw [if_pos (by omega)]
def κ0 : CT := CT.mk 0 0 0 0 (fun _ => 0) (fun _ => 0) (fun _ => 0) (fun _ => 0) (fun _ => 0) (fun _ => 0) (fun _ => 0) (fun _ => 0) (fun _ => 0) (fun _ => 0)
def η0 : HS := HS.mk 0 0 (fun _ => 0) (fun _ => 0) (fun _ => 0) (fun _ => 0) (fun _ => 0)
def S0 : STT := STT.mk κ0 l0 η0 0 (fun _ => 0) 0 0 0 (zI (-1)) 0 (fun _ => η0) 0 (fun _ => 0) (fun _ _ => η0) (nI 0) (nI 0)
theorem no_lt {n : Nat} {P : Prop} (h : n < 0) : P := absurd h (Nat.not_lt_zero _)
theorem CB_0 : CB κ0 := ⟨Nat.zero_le _, Nat.zero_le _, Nat.zero_le _, Nat.zero_le _, fun _ => Nat.zero_le _, fun _ => Nat.zero_le _, fun _ => Nat.zero_le _, fun _ h => no_lt h, fun _ h => no_lt h, fun _ h => no_lt h, fun _ => Nat.zero_le _, fun _ => Nat.zero_le _, fun _ h => no_lt h, fun _ => Nat.zero_le _, fun _ => Nat.zero_le _⟩
theorem HB_0 : HB κ0 η0 := ⟨Nat.zero_le _, by decide, fun _ => Nat.zero_le _, fun _ => Nat.zero_le _, fun _ => Nat.zero_le _, fun _ => Nat.zero_le _⟩
theorem SB_0 : SB S0 := ⟨CB_0, HB_0, ⟨fun _ h => no_lt h, trivial⟩, l0_b, Nat.zero_le _, fun _ => (by decide : 0 < 256), Nat.zero_le _, (by decide : 0 < 2 ^ 0), (by decide : 0 &&& 0 = 0), Nat.zero_le _, fun _ h => no_lt h, Nat.zero_le _, fun _ h => no_lt h, fun _ _ h => no_lt h, Nat.zero_le _, fun _ h => no_lt h, fun _ _ h => no_lt h⟩
theorem rb_0 {o m b : Nat} (h : LAYO[o]? = some (.inl m)) (he : exz o = true := by rfl) : rbd I0 o m b := fun j hj => ⟨0, Nat.zero_le _, zA h hj he⟩
theorem HC_0 : HC 4 κ0 I0 := ⟨zO rfl rfl, zO rfl rfl, zO rfl rfl, zO rfl rfl, fun j h => zA rfl h, fun j h => zA rfl h, fun j h => zA rfl h, fun j h => zA rfl h, fun j h => zA rfl h, fun j h => zA rfl h, fun j h => zA rfl h, fun j h => zA rfl h, fun j h => zA rfl h, fun j h => zA rfl h⟩
theorem HH_0 : HH 71 η0 I0 := ⟨zO rfl rfl, zO rfl rfl, fun j h => zA rfl h, fun j h => zA rfl h, fun j h => zA rfl h, fun j h => zA rfl h, fun j h => zA rfl h⟩
theorem HL_0 : HL 46 l0 I0 := HL.l0 ((i0O rfl rfl).trans (by decide +kernel)) ((i0A (n := 150) rfl (by decide)).trans (by decide +kernel))
theorem SK_0 : SK I0 := ⟨rb_0 rfl, rb_0 rfl, rb_0 rfl, rb_0 rfl, rb_0 rfl, rb_0 rfl, rb_0 rfl⟩
theorem CIn_0 : CIn S0 I0 := ⟨HC_0, HH_0, HL_0, zO rfl rfl, (i0O rfl rfl).trans (by decide +kernel), fun j h => zA rfl h, zO rfl rfl, zO rfl rfl, zO rfl rfl, zO rfl rfl, zO rfl rfl, zO rfl rfl, zO rfl rfl, fun _ h => no_lt h, fun _ h => no_lt h, fun _ _ h => no_lt h, SK_0⟩
theorem MC_0 : MC κ0 I0 := ⟨zO rfl rfl, zO rfl rfl, zO rfl rfl, zO rfl rfl, fun _ h => no_lt h, fun _ h => no_lt h, fun _ h => no_lt h, fun _ h => no_lt h, fun _ h => no_lt h, fun _ h => no_lt h, fun _ h => no_lt h, fun _ h => no_lt h, fun _ h => no_lt h, fun _ h => no_lt h⟩
theorem MR_0 : MR 125 κ0 η0 I0 := ⟨fun _ h => no_lt h, fun _ h => no_lt h, fun _ h => no_lt h, fun _ h => no_lt h, fun _ h => no_lt h, zA (n := 31) rfl (by decide)⟩
theorem ML_0 : ML l0 I0 := .inr ⟨zO rfl rfl, rfl, rfl, rfl⟩
theorem MIn_0 : MIn S0 I0 := ⟨MC_0, MR_0, ML_0, zO rfl rfl, (i0O rfl rfl).trans (by decide +kernel), fun j h => zA rfl h, zO rfl rfl, zA (n := 2) rfl (by decide), zA (n := 2) rfl (by decide), (zO rfl rfl).trans (by decide +kernel), fun j h => by
  rw [if_neg (by show ¬ Nat.testBit 0 j = true; simp)]
  exact (i0A rfl h).trans (by rw [m129]), zO rfl rfl, zO rfl rfl, fun _ h => no_lt h, fun _ h => no_lt h, fun _ h => no_lt h, fun _ _ h => no_lt h⟩
theorem INVS_0 : INVS S0 I0 := ⟨SB_0, CIn_0, MIn_0⟩
