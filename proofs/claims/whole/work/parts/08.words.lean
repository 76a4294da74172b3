/-! The tables' words that go with the machine. -/
def nestW : Cond → Bool
  | .fieldLinkNest .. => true
  | .methodLinkNest .. => true
  | .declares _ => true
  | .castable .. => true
  | _ => false
def tw (w : Cond) : Bool := goodWord w || nestW w
def TW : List Cond := lw_tbl.filter tw
theorem trs_tw {w : Cond} (h : tw w = true) : trs w := by
  intro a a' s U hW hw
  unfold tw at h
  rw [Bool.or_eq_true] at h
  rcases h with h | h
  · exact word_at hW (good_of_word h) hw
  · cases w with
    | fieldLinkNest c i b n d hst => exact va_Nw.use rfl (va_Nw.warmF hW (va_Nw.of rfl hw))
    | methodLinkNest c i x hst => exact va_Nw.use rfl (va_Nw.warmM hW (va_Nw.of rfl hw))
    | declares x =>
      have h1 : (Cond.declares x).before a (s.setVm U.vm) = true := Cond.before_shiftedFace (State.Shifted.of_warmed hW) _ rfl hw
      exact va_tabs rfl (rfl : (s.setVm U.vm).vm = U.vm) h1
    | castable x y =>
      have h1 : (Cond.castable x y).before a (s.setVm U.vm) = true := Cond.before_shiftedFace (State.Shifted.of_warmed hW) _ rfl hw
      exact va_tabs rfl (rfl : (s.setVm U.vm).vm = U.vm) h1
    | _ => cases h
theorem trs_TW : ∀ w ∈ TW, trs w := fun w h => trs_tw (List.mem_filter.mp h).2
/-- words by their places -/
theorem tw_in {ws : List Cond} (is : List Nat) (h : is.map (fun i => lw_tbl[i]?) = ws.map some) (ht : ws.all tw = true) : ∀ w ∈ ws, w ∈ TW := by
  intro w hw
  have h1 : some w ∈ is.map (fun i => lw_tbl[i]?) := by rw [h]; exact List.mem_map.mpr ⟨w, hw, rfl⟩
  obtain ⟨i, -, hi⟩ := List.mem_map.mp h1
  exact List.mem_filter.mpr ⟨List.mem_of_getElem? hi, List.all_eq_true.mp ht w hw⟩
def inTW (w : Cond) : Bool := decide (w ∈ lw_tbl) && tw w
theorem inTW_ok {w : Cond} (h : inTW w = true) : w ∈ TW := by
  unfold inTW at h
  rw [Bool.and_eq_true, decide_eq_true_eq] at h
  exact List.mem_filter.mpr h
