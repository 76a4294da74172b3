/-! The tables' words that go with the machine. -/
def nestW : Cond → Bool
  | .fieldLinkNest .. => true
  | .methodLinkNest .. => true
  | .declares _ => true
  | .castable .. => true
  | _ => false
def tw (w : Cond) : Bool := goodWord w || nestW w
def TW : List Cond := lw_tbl.filter tw
theorem trs_tw {w : Cond} (h : tw w = true) : trs w := by
  intro a a' s U hW hw
  unfold tw at h
  rw [Bool.or_eq_true] at h
  rcases h with h | h
  · exact word_at hW (good_of_word h) hw
  · cases w with
    | fieldLinkNest c i b n d hst => exact va_Nw.use rfl (va_Nw.warmF hW (va_Nw.of rfl hw))
    | methodLinkNest c i x hst => exact va_Nw.use rfl (va_Nw.warmM hW (va_Nw.of rfl hw))
    | declares x =>
      have h1 : (Cond.declares x).before a (s.setVm U.vm) = true := Cond.before_shiftedFace (State.Shifted.of_warmed hW) _ rfl hw
      exact va_tabs rfl (rfl : (s.setVm U.vm).vm = U.vm) h1
    | castable x y =>
      have h1 : (Cond.castable x y).before a (s.setVm U.vm) = true := Cond.before_shiftedFace (State.Shifted.of_warmed hW) _ rfl hw
      exact va_tabs rfl (rfl : (s.setVm U.vm).vm = U.vm) h1
    | _ => cases h
theorem trs_TW : ∀ w ∈ TW, trs w := fun w h => trs_tw (List.mem_filter.mp h).2
/-- the tables in their pieces -/
def sg : Nat → List Cond
  | 0 => k2_sels lw_privs_1
  | 1 => k2_sels lw_privs_2
  | 2 => k2_sels lw_privs_3
  | 3 => k2_sels lw_privs_4
  | 4 => k2_sels lw_privs_5
  | 5 => k2_sels lw_privs_6
  | 6 => k2_sels lw_privs_7
  | 7 => tables_1_1
  | 8 => tables_1_2
  | 9 => tables_1_3
  | 10 => tables_1_4
  | 11 => tables_1_5
  | 12 => tables_1_6
  | 13 => tables_1_7
  | 14 => tables_1_8
  | 15 => tables_1_9
  | _ => []
theorem sg_p : ∀ w, (w ∈ k2_sels lw_privs_1 ∨ w ∈ k2_sels lw_privs_2 ∨ w ∈ k2_sels lw_privs_3 ∨ w ∈ k2_sels lw_privs_4 ∨ w ∈ k2_sels lw_privs_5 ∨ w ∈ k2_sels lw_privs_6 ∨ w ∈ k2_sels lw_privs_7) → w ∈ lw_tbl := by
  intro w h
  refine List.mem_append_left _ ?_
  unfold k2_sels at h ⊢
  simp only [lw_privs, List.map_append, List.mem_append]
  exact h
theorem sg_t : ∀ w, (w ∈ tables_1_1 ∨ w ∈ tables_1_2 ∨ w ∈ tables_1_3 ∨ w ∈ tables_1_4 ∨ w ∈ tables_1_5 ∨ w ∈ tables_1_6 ∨ w ∈ tables_1_7 ∨ w ∈ tables_1_8 ∨ w ∈ tables_1_9) → w ∈ lw_tbl := by
  intro w h
  refine List.mem_append_right _ ?_
  simp only [tables_1, List.mem_append]
  exact h
theorem sg_in : ∀ n, ∀ w ∈ sg n, w ∈ lw_tbl := by
  intro n w h
  match n with
  | 0 => exact sg_p w (Or.inl h)
  | 1 => exact sg_p w (Or.inr (Or.inl h))
  | 2 => exact sg_p w (Or.inr (Or.inr (Or.inl h)))
  | 3 => exact sg_p w (Or.inr (Or.inr (Or.inr (Or.inl h))))
  | 4 => exact sg_p w (Or.inr (Or.inr (Or.inr (Or.inr (Or.inl h)))))
  | 5 => exact sg_p w (Or.inr (Or.inr (Or.inr (Or.inr (Or.inr (Or.inl h))))))
  | 6 => exact sg_p w (Or.inr (Or.inr (Or.inr (Or.inr (Or.inr (Or.inr h))))))
  | 7 => exact sg_t w (Or.inl h)
  | 8 => exact sg_t w (Or.inr (Or.inl h))
  | 9 => exact sg_t w (Or.inr (Or.inr (Or.inl h)))
  | 10 => exact sg_t w (Or.inr (Or.inr (Or.inr (Or.inl h))))
  | 11 => exact sg_t w (Or.inr (Or.inr (Or.inr (Or.inr (Or.inl h)))))
  | 12 => exact sg_t w (Or.inr (Or.inr (Or.inr (Or.inr (Or.inr (Or.inl h))))))
  | 13 => exact sg_t w (Or.inr (Or.inr (Or.inr (Or.inr (Or.inr (Or.inr (Or.inl h)))))))
  | 14 => exact sg_t w (Or.inr (Or.inr (Or.inr (Or.inr (Or.inr (Or.inr (Or.inr (Or.inl h))))))))
  | 15 => exact sg_t w (Or.inr (Or.inr (Or.inr (Or.inr (Or.inr (Or.inr (Or.inr (Or.inr h))))))))
  | n + 16 => exact absurd h List.not_mem_nil
/-- words by their places -/
theorem tw_in {ws : List Cond} (is : List (Nat × Nat)) (h : is.map (fun i => (sg i.1)[i.2]?) = ws.map some) (ht : ws.all tw = true) : ∀ w ∈ ws, w ∈ TW := by
  intro w hw
  have h1 : some w ∈ is.map (fun i => (sg i.1)[i.2]?) := by rw [h]; exact List.mem_map.mpr ⟨w, hw, rfl⟩
  obtain ⟨i, -, hi⟩ := List.mem_map.mp h1
  exact List.mem_filter.mpr ⟨sg_in _ w (List.mem_of_getElem? hi), List.all_eq_true.mp ht w hw⟩
theorem tw_of {w : Cond} (n i : Nat) (h : (sg n)[i]? = some w) (ht : tw w = true) : w ∈ TW := List.mem_filter.mpr ⟨sg_in _ w (List.mem_of_getElem? h), ht⟩
def inTW (w : Cond) : Bool := decide (w ∈ lw_tbl) && tw w
theorem inTW_ok {w : Cond} (h : inTW w = true) : w ∈ TW := by
  unfold inTW at h
  rw [Bool.and_eq_true, decide_eq_true_eq] at h
  exact List.mem_filter.mpr h
