/-! Steps of the interpreter are steps of the machine: stack, locals, jumps. -/
def cv (ad : Nat → Nat) : Value → Value
  | .ref i => .ref (ad i)
  | v => v
theorem cv_int (ad : Nat → Nat) (x : Int32) : cv ad (.int x) = .int x := rfl
theorem cv_long (ad : Nat → Nat) (x : Int64) : cv ad (.long x) = .long x := rfl
theorem cv_ref (ad : Nat → Nat) (x : Nat) : cv ad (.ref x) = .ref (ad x) := rfl
theorem cv_cat (ad : Nat → Nat) (v : Value) : (cv ad v).category = v.category := by cases v <;> rfl
theorem cv_wcs (ad : Nat → Nat) (st : List Value) : ((st.map (cv ad)).map fun v => v.category).sum = wcs st := by
  unfold wcs
  rw [List.map_map]
  congr 1
  exact List.map_congr_left fun v _ => cv_cat ad v
def cl2 (ad : Nat → Nat) (lv : LV) : LV := lv.map fun q => (q.1, cv ad q.2)
def ilen : Instr → Nat
  | .bipush _ => 2
  | .sipush _ => 3
  | .iload _ => 2
  | .lload _ => 2
  | .aload _ => 2
  | .istore _ => 2
  | .lstore _ => 2
  | .astore _ => 2
  | .iinc _ _ => 3
  | .goto _ => 3
  | .ifCond _ _ => 3
  | .if_icmp _ _ => 3
  | .getfield _ => 3
  | .putfield _ => 3
  | .new _ => 3
  | .newarray _ => 2
  | .ldc _ => 2
  | .ldc_w _ => 3
  | .ldc2_w _ => 3
  | .invokestatic _ => 3
  | .invokevirtual _ => 3
  | .invokespecial _ => 3
  | _ => 1
theorem b2_inv {f : Int32 → Int32 → Int32} {st st' : List Value} (h : b2 f st = some st') : ∃ x y r, st = .int y :: .int x :: r ∧ st' = .int (f x y) :: r := by
  unfold b2 at h
  split at h
  · cases h; exact ⟨_, _, _, rfl, rfl⟩
  · cases h
theorem l2_inv {f : Int64 → Int64 → Int64} {st st' : List Value} (h : l2 f st = some st') : ∃ x y r, st = .long y :: .long x :: r ∧ st' = .long (f x y) :: r := by
  unfold l2 at h
  split at h
  · cases h; exact ⟨_, _, _, rfl, rfl⟩
  · cases h
section SND
variable {p : Program} {l : Launch} {e : Env} {R : Room} {s : State} {m : MethodId} {args : Array Value} {below : List Frame} {meth : Method} {c : Code} {H : Heap} {locs : List Loc} {cells slots : Nat} {Q : State → Prop}
variable {cc : ByteArray} {pc : Nat} {ls : Array Slot} {ad : Nat → Nat}
set_option maxHeartbeats 4000000 in
theorem stk_sound (hx : p.tables.exec = Jvm.exec) (hb : c.code = cc) {i : Instr} {len : Nat} {st st' : List Value} (hd : decode cc pc = .ok (i, len)) (hl : len = ilen i) (h : stk i st = some st')
    (k : W p l e R s m args below meth c H locs cells slots Q (F0 m (pc + len) ls (st'.map (cv ad)))) : W p l e R s m args below meth c H locs cells slots Q (F0 m pc ls (st.map (cv ad))) := by
  subst hl
  unfold stk at h
  split at h
  · cases h; exact lv_iconst hx hb hd rfl k
  · cases h; exact lv_bipush hx hb hd rfl k
  · cases h; exact lv_sipush hx hb hd rfl k
  · cases h; exact lv_lconst hx hb hd rfl k
  · obtain ⟨x, y, r, rfl, rfl⟩ := b2_inv h; exact lv_iadd hx hb hd k
  · obtain ⟨x, y, r, rfl, rfl⟩ := b2_inv h; exact lv_isub hx hb hd k
  · obtain ⟨x, y, r, rfl, rfl⟩ := b2_inv h; exact lv_imul hx hb hd k
  · obtain ⟨x, y, r, rfl, rfl⟩ := b2_inv h; exact lv_iand hx hb hd k
  · obtain ⟨x, y, r, rfl, rfl⟩ := b2_inv h; exact lv_ior hx hb hd k
  · obtain ⟨x, y, r, rfl, rfl⟩ := b2_inv h; exact lv_ixor hx hb hd k
  · obtain ⟨x, y, r, rfl, rfl⟩ := b2_inv h; exact lv_ishl hx hb hd k
  · obtain ⟨x, y, r, rfl, rfl⟩ := b2_inv h; exact lv_ishr hx hb hd k
  · obtain ⟨x, y, r, rfl, rfl⟩ := b2_inv h; exact lv_iushr hx hb hd rfl k
  · split at h
    · split at h
      · cases h
      · rename_i hy; cases h; exact lv_idiv hx hb hd hy k
    · cases h
  · split at h
    · split at h
      · cases h
      · rename_i hy; cases h; exact lv_irem hx hb hd hy k
    · cases h
  · split at h
    · cases h; exact lv_ineg hx hb hd k
    · cases h
  · obtain ⟨x, y, r, rfl, rfl⟩ := l2_inv h; exact lv_ladd hx hb hd k
  · obtain ⟨x, y, r, rfl, rfl⟩ := l2_inv h; exact lv_lmul hx hb hd k
  · obtain ⟨x, y, r, rfl, rfl⟩ := l2_inv h; exact lv_land hx hb hd k
  · split at h
    · split at h
      · cases h
      · rename_i hy; cases h; exact lv_ldiv hx hb hd hy k
    · cases h
  · split at h
    · split at h
      · cases h
      · rename_i hy; cases h; exact lv_lrem hx hb hd hy k
    · cases h
  · split at h
    · cases h; exact lv_lshr hx hb hd rfl k
    · cases h
  · split at h
    · cases h; exact lv_i2l hx hb hd rfl k
    · cases h
  · split at h
    · cases h; exact W.lcmp hx hb hd k
    · cases h
  · split at h
    · split at h
      · rename_i hy; cases h; exact lv_dup hx hb hd (by rw [cv_cat]; exact hy) k
      · cases h
    · cases h
  · split at h
    · split at h
      · rename_i hy; cases h; exact lv_pop hx hb hd (by rw [cv_cat]; exact hy) k
      · cases h
    · cases h
  · split at h
    · split at h
      · rename_i hy; cases h; exact lv_dup2_11 hx hb hd (by rw [cv_cat]; exact hy.1) (by rw [cv_cat]; exact hy.2) k
      · cases h
    · cases h
  · cases h
theorem lkv_at {lv : LV} {i nL : Nat} {v : Value} (hl : lv_has ls nL (cl2 ad lv)) (h : lkv lv i = some v) : ls[i]? = some (.val (cv ad v)) := by
  have hm : ∀ lv : LV, lkv lv i = some v → (i, cv ad v) ∈ cl2 ad lv := by
    intro lv
    induction lv with
    | nil => intro h; cases h
    | cons q r ih =>
      intro h
      unfold lkv at h
      split at h
      · rename_i hq
        cases h
        subst hq
        exact List.mem_cons_self
      · exact List.mem_cons_of_mem _ (ih h)
  exact hl.2.2 _ (hm lv h)
theorem insL_mem {i : Nat} {v : Value} : ∀ {l : LV} {q : Nat × Value}, q ∈ insL i v l → q = (i, v) ∨ q ∈ l := by
  intro l
  induction l with
  | nil => intro q h; exact Or.inl (List.mem_singleton.mp h)
  | cons a l ih =>
    intro q h
    unfold insL at h
    split at h
    · exact List.mem_cons.mp h
    · rcases List.mem_cons.mp h with rfl | h
      · exact Or.inr List.mem_cons_self
      · rcases ih h with h | h
        · exact Or.inl h
        · exact Or.inr (List.mem_cons_of_mem _ h)
theorem lv_less {ls : Array Slot} {n : Nat} {l l' : List (Nat × Value)} (h : lv_has ls n l) (hs : ∀ q ∈ l', q ∈ l) : lv_has ls n l' := ⟨h.1, h.2.1, fun q hq => h.2.2 q (hs q hq)⟩
theorem lv_stI {ls : Array Slot} {n : Nat} (lv : LV) (i : Nat) (v : Value) (h : lv_has ls n ((i, cv ad v) :: (cl2 ad lv).filter (fun q => !(q.1 == i) && !(q.1 + 1 == i && q.2.category == 2)))) : lv_has ls n (cl2 ad (stI lv i v)) := by
  refine lv_less h fun q hq => ?_
  obtain ⟨y, hy, rfl⟩ := List.mem_map.mp hq
  rcases insL_mem hy with rfl | hy
  · exact List.mem_cons_self
  · obtain ⟨h1, h2⟩ := List.mem_filter.mp hy
    refine List.mem_cons_of_mem _ (List.mem_filter.mpr ⟨List.mem_map.mpr ⟨y, h1, rfl⟩, ?_⟩)
    simpa [cv_cat] using h2
theorem lv_stL {ls : Array Slot} {n : Nat} (lv : LV) (i : Nat) (v : Value) (h : lv_has ls n ((i, cv ad v) :: (cl2 ad lv).filter (fun q => !(q.1 == i) && (!(q.1 == i + 1) && !(q.1 + 1 == i && q.2.category == 2))))) : lv_has ls n (cl2 ad (stL lv i v)) := by
  refine lv_less h fun q hq => ?_
  obtain ⟨y, hy, rfl⟩ := List.mem_map.mp hq
  rcases insL_mem hy with rfl | hy
  · exact List.mem_cons_self
  · obtain ⟨h1, h2⟩ := List.mem_filter.mp hy
    refine List.mem_cons_of_mem _ (List.mem_filter.mpr ⟨List.mem_map.mpr ⟨y, h1, rfl⟩, ?_⟩)
    simpa [cv_cat] using h2
theorem lv_drp {ls : Array Slot} {n : Nat} {lv : LV} (b : Nat) (h : lv_has ls n (cl2 ad lv)) : lv_has ls n (cl2 ad (drp b lv)) := by
  refine lv_less h fun q hq => ?_
  obtain ⟨y, hy, rfl⟩ := List.mem_map.mp hq
  refine List.mem_map.mpr ⟨y, ?_, rfl⟩
  unfold drp at hy
  split at hy
  · exact hy
  · exact (List.mem_filter.mp hy).1
theorem ldI_inv {k b : Nat} {lv lv' : LV} {st st' : List Value} (h : ldI k b lv st = some (lv', st')) : ∃ x, lkv lv k = some (.int x) ∧ lv' = drp b lv ∧ st' = .int x :: st := by
  unfold ldI at h
  split at h
  · rename_i x hx; cases h; exact ⟨x, hx, rfl, rfl⟩
  · cases h
theorem ldL_inv {k b : Nat} {lv lv' : LV} {st st' : List Value} (h : ldL k b lv st = some (lv', st')) : ∃ x, lkv lv k = some (.long x) ∧ lv' = drp b lv ∧ st' = .long x :: st := by
  unfold ldL at h
  split at h
  · rename_i x hx; cases h; exact ⟨x, hx, rfl, rfl⟩
  · cases h
theorem ldA_inv {k b : Nat} {lv lv' : LV} {st st' : List Value} (h : ldA k b lv st = some (lv', st')) : ∃ x, lkv lv k = some (.ref x) ∧ lv' = drp b lv ∧ st' = .ref x :: st := by
  unfold ldA at h
  split at h
  · rename_i x hx; cases h; exact ⟨x, hx, rfl, rfl⟩
  · cases h
theorem svI_inv {n k : Nat} {lv lv' : LV} {st st' : List Value} (h : svI n k lv st = some (lv', st')) : ∃ x, st = .int x :: st' ∧ k < n ∧ lv' = stI lv k (.int x) := by
  unfold svI at h
  split at h
  · split at h
    · rename_i hk; cases h; exact ⟨_, rfl, hk, rfl⟩
    · cases h
  · cases h
theorem svL_inv {n k : Nat} {lv lv' : LV} {st st' : List Value} (h : svL n k lv st = some (lv', st')) : ∃ x, st = .long x :: st' ∧ k + 1 < n ∧ lv' = stL lv k (.long x) := by
  unfold svL at h
  split at h
  · split at h
    · rename_i hk; cases h; exact ⟨_, rfl, hk, rfl⟩
    · cases h
  · cases h
theorem svA_inv {n k : Nat} {lv lv' : LV} {st st' : List Value} (h : svA n k lv st = some (lv', st')) : ∃ x, st = .ref x :: st' ∧ k < n ∧ lv' = stI lv k (.ref x) := by
  unfold svA at h
  split at h
  · split at h
    · rename_i hk; cases h; exact ⟨_, rfl, hk, rfl⟩
    · cases h
  · cases h
set_option maxHeartbeats 4000000 in
theorem loc_sound (hx : p.tables.exec = Jvm.exec) (hb : c.code = cc) {i : Instr} {len n b : Nat} {lv lv' : LV} {st st' : List Value} (hd : decode cc pc = .ok (i, len)) (hl : len = ilen i) (h : locop i n b lv st = some (lv', st')) (hv : lv_has ls n (cl2 ad lv))
    (k : ∀ ls' : Array Slot, lv_has ls' n (cl2 ad lv') → W p l e R s m args below meth c H locs cells slots Q (F0 m (pc + len) ls' (st'.map (cv ad)))) : W p l e R s m args below meth c H locs cells slots Q (F0 m pc ls (st.map (cv ad))) := by
  subst hl
  unfold locop at h
  split at h
  · obtain ⟨x, h1, rfl, rfl⟩ := ldI_inv h; exact lv_iload hx hb hd (lkv_at hv h1) (k ls (lv_drp b hv))
  · obtain ⟨x, h1, rfl, rfl⟩ := ldI_inv h; exact lv_iload_n hx hb hd rfl (lkv_at hv h1) (k ls (lv_drp b hv))
  · obtain ⟨x, h1, rfl, rfl⟩ := ldL_inv h; exact lv_lload hx hb hd (lkv_at hv h1) (k ls (lv_drp b hv))
  · obtain ⟨x, h1, rfl, rfl⟩ := ldL_inv h; exact lv_lload_n hx hb hd rfl (lkv_at hv h1) (k ls (lv_drp b hv))
  · obtain ⟨x, h1, rfl, rfl⟩ := ldA_inv h; exact lv_aload hx hb hd (lkv_at hv h1) (k ls (lv_drp b hv))
  · obtain ⟨x, h1, rfl, rfl⟩ := ldA_inv h; exact lv_aload_n hx hb hd rfl (lkv_at hv h1) (k ls (lv_drp b hv))
  · obtain ⟨x, rfl, h1, rfl⟩ := svI_inv h; exact lv_istore hx hb hd hv h1 rfl (fun ls' h' => k ls' (lv_stI lv _ (.int x) h'))
  · obtain ⟨x, rfl, h1, rfl⟩ := svI_inv h; exact lv_istore_n hx hb hd rfl hv h1 rfl (fun ls' h' => k ls' (lv_stI lv _ (.int x) h'))
  · obtain ⟨x, rfl, h1, rfl⟩ := svL_inv h; exact lv_lstore hx hb hd hv h1 rfl (fun ls' h' => k ls' (lv_stL lv _ (.long x) h'))
  · obtain ⟨x, rfl, h1, rfl⟩ := svL_inv h; exact lv_lstore_n hx hb hd rfl hv h1 rfl (fun ls' h' => k ls' (lv_stL lv _ (.long x) h'))
  · obtain ⟨x, rfl, h1, rfl⟩ := svA_inv h; exact lv_astore hx hb hd hv h1 rfl (fun ls' h' => k ls' (lv_stI lv _ (.ref x) h'))
  · obtain ⟨x, rfl, h1, rfl⟩ := svA_inv h; exact lv_astore_n hx hb hd rfl hv h1 rfl (fun ls' h' => k ls' (lv_stI lv _ (.ref x) h'))
  · rename_i i0 d0
    split at h
    · rename_i x hx0
      split at h
      · rename_i hn
        cases h
        have hm : ∀ lv : LV, lkv lv i0 = some (.int x) → ∃ k0 : Nat, (cl2 ad lv)[k0]? = some (i0, Value.int x) := by
          intro lv
          induction lv with
          | nil => intro h; cases h
          | cons q r ih =>
            intro h
            unfold lkv at h
            split at h
            · rename_i hq
              have hq2 : q.2 = Value.int x := Option.some.inj h
              exact ⟨0, by subst hq; show some (q.1, cv ad q.2) = _; rw [hq2]; rfl⟩
            · obtain ⟨k0, hk0⟩ := ih h
              exact ⟨k0 + 1, hk0⟩
        obtain ⟨k0, hk0⟩ := hm lv hx0
        exact lv_iinc hx hb hd hv hk0 rfl hn rfl (fun ls' h' => k ls' (lv_stI lv _ (.int _) h'))
      · cases h
    · cases h
  · cases h
/-- what a jump's row must say -/
def jok (i : Instr) (a pc : Nat) : Prop := match i with
  | .goto o => (pc : Int) + o = (a : Int)
  | .ifCond _ o => (pc : Int) + o = (a : Int)
  | .if_icmp _ o => (pc : Int) + o = (a : Int)
  | .tableswitch d _ _ offs => 0 ≤ (pc : Int) + d ∧ ∀ o ∈ offs.toList, 0 ≤ (pc : Int) + o
  | .lookupswitch d ps => ((ps.toList.zip (ps.toList.drop 1)).all (fun (a, next) => a.1 < next.1) = true) ∧ 0 ≤ (pc : Int) + d ∧ ∀ q ∈ ps.toList, 0 ≤ (pc : Int) + q.2
  | _ => True
theorem lks_in (d : Int) (x : Int) : ∀ l : List (Int × Int), Op.lookupswitch.offset l d x = d ∨ ∃ q ∈ l, Op.lookupswitch.offset l d x = q.2 := by
  intro l
  induction l with
  | nil => exact Or.inl rfl
  | cons q r ih =>
    obtain ⟨a, o⟩ := q
    show (if a = x then o else Op.lookupswitch.offset r d x) = d ∨ ∃ q ∈ (a, o) :: r, (if a = x then o else Op.lookupswitch.offset r d x) = q.2
    split
    · exact Or.inr ⟨(a, o), List.mem_cons_self, rfl⟩
    · rcases ih with h | ⟨q, hq, h⟩
      · exact Or.inl h
      · exact Or.inr ⟨q, List.mem_cons_of_mem _ hq, h⟩
set_option maxHeartbeats 4000000 in
theorem jmp_sound (hx : p.tables.exec = Jvm.exec) (hb : c.code = cc) {i : Instr} {len a pc' : Nat} {st st' : List Value} (hd : decode cc pc = .ok (i, len)) (hl : len = ilen i ∨ (∃ d lo hi offs, i = .tableswitch d lo hi offs) ∨ ∃ d ps, i = .lookupswitch d ps) (hj : jok i a pc) (h : jmp i a pc st = some (pc', st'))
    (k : W p l e R s m args below meth c H locs cells slots Q (F0 m pc' ls (st'.map (cv ad)))) : W p l e R s m args below meth c H locs cells slots Q (F0 m pc ls (st.map (cv ad))) := by
  unfold jmp at h
  have hl3 : ∀ {j : Instr}, i = j → (∀ d lo hi offs, j ≠ .tableswitch d lo hi offs) → (∀ d ps, j ≠ .lookupswitch d ps) → len = ilen j := by
    intro j e h1 h2
    subst e
    rcases hl with h | ⟨d, lo, hi, offs, h⟩ | ⟨d, ps, h⟩
    · exact h
    · exact absurd h (h1 _ _ _ _)
    · exact absurd h (h2 _ _)
  split at h
  · have e := hl3 rfl (fun _ _ _ _ h => by cases h) (fun _ _ h => by cases h)
    subst e
    cases h
    exact lv_goto hx hb hd hj k
  · have e := hl3 rfl (fun _ _ _ _ h => by cases h) (fun _ _ h => by cases h)
    subst e
    split at h
    · split at h <;> cases h
      · exact lv_if_eq hx hb hd hj (fun q => by rw [if_pos q] at k; exact k) (fun q => by rw [if_neg q] at k; exact k)
      · exact lv_if_ne hx hb hd hj (fun q => by rw [if_pos q] at k; exact k) (fun q => by rw [if_neg (fun z => z q)] at k; exact k)
      · exact lv_if_lt hx hb hd hj (fun q => by rw [if_pos q] at k; exact k) (fun q => by rw [if_neg q] at k; exact k)
      · exact lv_if_ge hx hb hd hj (fun q => by rw [if_pos q] at k; exact k) (fun q => by rw [if_neg q] at k; exact k)
      · exact lv_if_gt hx hb hd hj (fun q => by rw [if_pos q] at k; exact k) (fun q => by rw [if_neg q] at k; exact k)
      · exact lv_if_le hx hb hd hj (fun q => by rw [if_pos q] at k; exact k) (fun q => by rw [if_neg q] at k; exact k)
    · cases h
  · have e := hl3 rfl (fun _ _ _ _ h => by cases h) (fun _ _ h => by cases h)
    subst e
    split at h
    · split at h <;> cases h
      · exact lv_icmp_eq hx hb hd hj (fun q => by rw [if_pos q] at k; exact k) (fun q => by rw [if_neg q] at k; exact k)
      · exact lv_icmp_ne hx hb hd hj (fun q => by rw [if_pos q] at k; exact k) (fun q => by rw [if_neg (fun z => z q)] at k; exact k)
      · exact lv_icmp_lt hx hb hd hj (fun q => by rw [if_pos q] at k; exact k) (fun q => by rw [if_neg q] at k; exact k)
      · exact lv_icmp_ge hx hb hd hj (fun q => by rw [if_pos q] at k; exact k) (fun q => by rw [if_neg q] at k; exact k)
      · exact lv_icmp_gt hx hb hd hj (fun q => by rw [if_pos q] at k; exact k) (fun q => by rw [if_neg q] at k; exact k)
      · exact lv_icmp_le hx hb hd hj (fun q => by rw [if_pos q] at k; exact k) (fun q => by rw [if_neg q] at k; exact k)
    · cases h
  · rename_i d lo hi offs
    split at h
    · rename_i x r
      split at h
      · rename_i q hq
        cases h
        unfold swT at hq
        split at hq
        · rename_i ho
          cases hq
          exact lv_tableOut hx hb hd ho (by have := hj.1; omega) k
        · rename_i ho
          split at hq
          · rename_i o hoo
            cases hq
            have hm : o ∈ offs.toList := by
              have := Array.mem_of_getElem? hoo
              exact Array.mem_toList_iff.mpr this
            exact lv_tableIn hx hb hd (fun z => ho (Or.inl z)) (fun z => ho (Or.inr z)) hoo (by have := hj.2 o hm; omega) k
          · cases hq
      · cases h
    · cases h
  · rename_i d ps
    split at h
    · rename_i x r
      cases h
      refine lv_lookup hx hb hd hj.1 rfl ?_ k
      rcases lks_in d x.toInt ps.toList with e | ⟨q, hq, e⟩
      · rw [e]; have := hj.2.1; omega
      · rw [e]; have := hj.2.2 q hq; omega
    · cases h
  · cases h
end SND
