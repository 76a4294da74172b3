/-! Both are made: more fuel changes nothing; the constructors by computing. -/
section MONO
variable {orc orc' : Nat → List Value → AH → Option Res}
theorem calls_up (h : ∀ k as G r, orc k as G = some r → orc' k as G = some r) {TXT : List (List Nat)} {hd : List HD} {rw : List XR} {ml tg pc : Nat} {lv : LV} {as rest : List Value} {G : AH} {c z : Nat} {x : Cfg ⊕ Res} (e : calls orc TXT hd rw ml tg pc lv as rest G c z = some x) : calls orc' TXT hd rw ml tg pc lv as rest G c z = some x := by
  unfold calls at e ⊢
  by_cases hw : 8 < wcs rest
  · rw [if_pos hw] at e; cases e
  · rw [if_neg hw] at e ⊢
    by_cases ht : 900 ≤ tg
    · simp only [if_pos ht] at e ⊢; exact e
    · simp only [if_neg ht] at e ⊢
      cases ho : orc tg as G with
      | none => rw [ho] at e; cases e
      | some r => rw [ho] at e; rw [h _ _ _ _ ho]; exact e
theorem invop_up (h : ∀ k as G r, orc k as G = some r → orc' k as G = some r) {MT : List MI} {TXT : List (List Nat)} {M : MI} {i : Instr} {a pc : Nat} {lv : LV} {st : List Value} {G : AH} {c z : Nat} {x : Cfg ⊕ Res} (e : invop MT orc TXT M i a pc lv st G c z = some x) : invop MT orc' TXT M i a pc lv st G c z = some x := by
  unfold invop at e ⊢
  split at e
  · cases e
  · rename_i n hn
    split at e
    · split at e
      · rename_i h1
        rw [if_pos h1]
        exact calls_up h e
      · cases e
    · split at e
      · rename_i h1
        split at e
        · rename_i o r h2
          split at e
          · rename_i h3
            simp only [if_pos h1, h2, if_pos h3]
            exact calls_up h e
          · cases e
        · cases e
      · cases e
    · split at e
      · rename_i h1
        split at e
        · rename_i o r h2
          simp only [if_pos h1, h2]
          exact calls_up h e
        · cases e
      · cases e
    · cases e
theorem step1_up (h : ∀ k as G r, orc k as G = some r → orc' k as G = some r) {cn : List vw_C} {fty : Nat → Nat → FieldType} {MT : List MI} {TXT : List (List Nat)} {sc : Option (Nat × (Nat → Int32))} {M : MI} {cf : Cfg} {x : Cfg ⊕ Res} (e : step1 cn fty MT TXT sc orc M cf = some x) : step1 cn fty MT TXT sc orc' M cf = some x := by
  obtain ⟨pc, lv, st, G, c, z⟩ := cf
  unfold step1 at e ⊢
  cases h0 : xlk M.rw pc with
  | none => simp [h0] at e
  | some q =>
    obtain ⟨i, len, a, b⟩ := q
    simp only [h0] at e ⊢
    cases h1 : stk i st with
    | some q => simp only [h1] at e ⊢; exact e
    | none =>
      simp only [h1] at e ⊢
      cases h2 : locop i M.ml b lv st with
      | some q => obtain ⟨u, v⟩ := q; simp only [h2] at e ⊢; exact e
      | none =>
        simp only [h2] at e ⊢
        cases h3 : jmp i a pc st with
        | some q => obtain ⟨u, v⟩ := q; simp only [h3] at e ⊢; exact e
        | none =>
          simp only [h3] at e ⊢
          cases h4 : heapop fty sc i a b st G with
          | some q => obtain ⟨u, v⟩ := q; simp only [h4] at e ⊢; exact e
          | none =>
            simp only [h4] at e ⊢
            cases h5 : ldop i a b with
            | some q => simp only [h5] at e ⊢; exact e
            | none =>
              simp only [h5] at e ⊢
              cases h6 : retop M.rt i st with
              | some q => simp only [h6] at e ⊢; exact e
              | none =>
                simp only [h6] at e ⊢
                cases h7 : newop cn fty M.hd i len a pc lv st G c z with
                | some q => simp only [h7] at e ⊢; exact e
                | none =>
                  simp only [h7] at e ⊢
                  exact invop_up h e
theorem run_up (h : ∀ k as G r, orc k as G = some r → orc' k as G = some r) {cn : List vw_C} {fty : Nat → Nat → FieldType} {MT : List MI} {TXT : List (List Nat)} {sc : Option (Nat × (Nat → Int32))} {M : MI} : ∀ (n n' : Nat) (cf : Cfg) (r : Res), n ≤ n' → run cn fty MT TXT sc orc M n cf = some r → run cn fty MT TXT sc orc' M n' cf = some r
  | 0, n', cf, r, _, e => by cases e
  | n + 1, n', cf, r, hn, e => by
    obtain ⟨m, rfl⟩ : ∃ m, n' = m + 1 := ⟨n' - 1, by omega⟩
    unfold run at e ⊢
    cases hs : step1 cn fty MT TXT sc orc M cf with
    | none => rw [hs] at e; cases e
    | some q =>
      rw [hs] at e
      rw [step1_up h hs]
      cases q with
      | inl cf' => exact run_up h n m cf' r (by omega) e
      | inr r' => exact e
end MONO
theorem call_up {cn : List vw_C} {fty : Nat → Nat → FieldType} {MT : List MI} {TXT : List (List Nat)} {N N' : Nat} (hN : N ≤ N') : ∀ (d k : Nat) (as : List Value) (G : AH) (r : Res), call cn fty MT TXT N d k as G = some r → call cn fty MT TXT N' d k as G = some r
  | 0, k, as, G, r, e => by cases e
  | d + 1, k, as, G, r, e => by
    unfold call at e ⊢
    cases hM : MT[k]? with
    | none => rw [hM] at e; cases e
    | some M =>
      rw [hM] at e
      simp only at e ⊢
      by_cases hl : (lg_sl as).length ≤ M.ml
      · rw [if_pos hl] at e ⊢
        exact run_up (fun k as G r => call_up hN d k as G r) N N' _ r hN e
      · rw [if_neg hl] at e; cases e
def ob10 : AO := oC 10 ((List.range 15).map fun k => dfl (FTY 10 k))
def ob11 : AO := oC 11 ((List.range 56).map fun k => dfl (FTY 11 k))
def rA : Option Res := call CLS FTY MT TXS 300 41 112 [.ref 0] [ob10]
def hpO : Option Res → AH
  | some (_, G, _, _) => G
  | none => []
def gA : AH := hpO rA
def ctA : Option Res → Bool
  | some (.inl none, G, c, z) => decide (G.length = 106) && (decide (c ≤ 1000) && (decide (z ≤ 100000) && (okA [(0, .ref spc), (1, .ref 0)] [] G && okA [(0, .ref spc), (1, .ref 0)] [.ref 106] (G ++ [ob11]))))
  | _ => false
set_option maxRecDepth 100000 in
theorem ctA_t : ctA rA = true := by decide +kernel
def vI : Value → Int32
  | .int x => x
  | _ => 0
def mI (G : AH) (o j : Nat) : Int32 := match G[o]? with
  | some (.inl (_, f)) => f j
  | some (.inr (.inr (_, fs))) => vI (fs.getD j .null)
  | _ => 0
def mJ (G : AH) (o j : Nat) : Int64 := match G[o]? with
  | some (.inr (.inl (_, f))) => f j
  | _ => 0
def shS : List (Option Nat) → List Value → Bool
  | [], [] => true
  | none :: sl, .int _ :: fs => shS sl fs
  | some r :: sl, .ref q :: fs => decide (r = q) && shS sl fs
  | _, _ => false
def shp : LO → AO → Bool
  | .inl n, .inl (m, _) => decide (n = m)
  | .inr (.inl n), .inr (.inl (m, _)) => decide (n = m)
  | .inr (.inr (c, sl)), .inr (.inr (c2, fs)) => decide (c = c2) && shS sl fs
  | _, _ => false
def shps : List LO → AH → Bool
  | [], [] => true
  | l :: ls, a :: G => shp l a && shps ls G
  | _, _ => false
def exv (o j : Nat) : Int := if (o = 1 ∧ j = 8) ∨ (o = 48 ∧ j = 0) ∨ (o = 55 ∧ j = 0) ∨ (o = 106 ∧ j = 8) ∨ o = 129 then -1 else if (o = 46 ∨ o = 53) ∧ j = 3 then 1 else 0
/-- an object's ints are as they are expected -/
def chO (o : Nat) : AO → Bool
  | .inl (n, f) => (List.range n).all fun j => decide (f j = zI (exv o j))
  | .inr (.inr (_, fs)) => (List.range fs.length).all fun j => decide (vI (fs.getD j .null) = zI (exv o j))
  | _ => true
def chs : Nat → AH → Bool
  | _, [] => true
  | o, a :: G => chO o a && chs (o + 1) G
def rB : Option Res := call CLS FTY MT TXS 1000 41 171 [.ref 106] (gA ++ [ob11])
def gB : AH := hpO rB
def oOut : AO := oL 1 (fun _ => 0)
def ctB : Option Res → Bool
  | some (.inl none, G, c, z) => decide (G.length = 135) && (decide (c ≤ 1000) && (decide (z ≤ 100000) && (okA [(0, .ref spc), (1, .ref 0), (2, .ref 106)] [] G && (shps LAYO (G ++ [oOut]) && chs 0 (G ++ [oOut])))))
  | _ => false
set_option maxRecDepth 100000 in
theorem ctB_t : ctB rB = true := by decide +kernel
