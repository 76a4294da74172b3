/-! The members of String that the classes use. -/
def yj_len : MethodName := ⟨"java/lang/String", "length", "()I"⟩
abbrev cj_len : ByteArray := prog_22_method_54_code
theorem dj_len_0 : decode cj_len 0 = .ok (.aload_n 0, 1) := by decide +kernel
theorem dj_len_1 : decode cj_len 1 = .ok (.getfield 9, 3) := by decide +kernel
theorem dj_len_4 : decode cj_len 4 = .ok (.arraylength, 1) := by decide +kernel
theorem dj_len_5 : decode cj_len 5 = .ok (.aload_n 0, 1) := by decide +kernel
theorem dj_len_6 : decode cj_len 6 = .ok (.invokevirtual 335, 3) := by decide +kernel
theorem dj_len_9 : decode cj_len 9 = .ok (.ishr, 1) := by decide +kernel
theorem dj_len_10 : decode cj_len 10 = .ok (.ireturn, 1) := by decide +kernel
def yj_chr : MethodName := ⟨"java/lang/String", "charAt", "(I)C"⟩
abbrev cj_chr : ByteArray := prog_22_method_56_code
theorem dj_chr_0 : decode cj_chr 0 = .ok (.aload_n 0, 1) := by decide +kernel
theorem dj_chr_1 : decode cj_chr 1 = .ok (.invokevirtual 492, 3) := by decide +kernel
theorem dj_chr_4 : decode cj_chr 4 = .ok (.ifCond .eq 12, 3) := by decide +kernel
theorem dj_chr_7 : decode cj_chr 7 = .ok (.aload_n 0, 1) := by decide +kernel
theorem dj_chr_8 : decode cj_chr 8 = .ok (.getfield 9, 3) := by decide +kernel
theorem dj_chr_11 : decode cj_chr 11 = .ok (.iload_n 1, 1) := by decide +kernel
theorem dj_chr_12 : decode cj_chr 12 = .ok (.invokestatic 495, 3) := by decide +kernel
theorem dj_chr_15 : decode cj_chr 15 = .ok (.ireturn, 1) := by decide +kernel
theorem dj_chr_16 : decode cj_chr 16 = .ok (.aload_n 0, 1) := by decide +kernel
theorem dj_chr_17 : decode cj_chr 17 = .ok (.getfield 9, 3) := by decide +kernel
theorem dj_chr_20 : decode cj_chr 20 = .ok (.iload_n 1, 1) := by decide +kernel
theorem dj_chr_21 : decode cj_chr 21 = .ok (.invokestatic 498, 3) := by decide +kernel
theorem dj_chr_24 : decode cj_chr 24 = .ok (.ireturn, 1) := by decide +kernel
def yj_cod : MethodName := ⟨"java/lang/String", "coder", "()B"⟩
abbrev cj_cod : ByteArray := prog_22_method_152_code
theorem dj_cod_0 : decode cj_cod 0 = .ok (.getstatic 38, 3) := by decide +kernel
theorem dj_cod_3 : decode cj_cod 3 = .ok (.ifCond .eq 10, 3) := by decide +kernel
theorem dj_cod_6 : decode cj_cod 6 = .ok (.aload_n 0, 1) := by decide +kernel
theorem dj_cod_7 : decode cj_cod 7 = .ok (.getfield 15, 3) := by decide +kernel
theorem dj_cod_10 : decode cj_cod 10 = .ok (.goto 4, 3) := by decide +kernel
theorem dj_cod_13 : decode cj_cod 13 = .ok (.iconst 1, 1) := by decide +kernel
theorem dj_cod_14 : decode cj_cod 14 = .ok (.ireturn, 1) := by decide +kernel
def yj_lat : MethodName := ⟨"java/lang/String", "isLatin1", "()Z"⟩
abbrev cj_lat : ByteArray := prog_22_method_154_code
theorem dj_lat_0 : decode cj_lat 0 = .ok (.getstatic 38, 3) := by decide +kernel
theorem dj_lat_3 : decode cj_lat 3 = .ok (.ifCond .eq 14, 3) := by decide +kernel
theorem dj_lat_6 : decode cj_lat 6 = .ok (.aload_n 0, 1) := by decide +kernel
theorem dj_lat_7 : decode cj_lat 7 = .ok (.getfield 15, 3) := by decide +kernel
theorem dj_lat_10 : decode cj_lat 10 = .ok (.ifCond .ne 7, 3) := by decide +kernel
theorem dj_lat_13 : decode cj_lat 13 = .ok (.iconst 1, 1) := by decide +kernel
theorem dj_lat_14 : decode cj_lat 14 = .ok (.goto 4, 3) := by decide +kernel
theorem dj_lat_17 : decode cj_lat 17 = .ok (.iconst 0, 1) := by decide +kernel
theorem dj_lat_18 : decode cj_lat 18 = .ok (.ireturn, 1) := by decide +kernel
def yj_lch : MethodName := ⟨"java/lang/StringLatin1", "charAt", "([BI)C"⟩
abbrev cj_lch : ByteArray := prog_23_method_2_code
theorem dj_lch_0 : decode cj_lch 0 = .ok (.iload_n 1, 1) := by decide +kernel
theorem dj_lch_1 : decode cj_lch 1 = .ok (.aload_n 0, 1) := by decide +kernel
theorem dj_lch_2 : decode cj_lch 2 = .ok (.arraylength, 1) := by decide +kernel
theorem dj_lch_3 : decode cj_lch 3 = .ok (.invokestatic 9, 3) := by decide +kernel
theorem dj_lch_6 : decode cj_lch 6 = .ok (.aload_n 0, 1) := by decide +kernel
theorem dj_lch_7 : decode cj_lch 7 = .ok (.iload_n 1, 1) := by decide +kernel
theorem dj_lch_8 : decode cj_lch 8 = .ok (.baload, 1) := by decide +kernel
theorem dj_lch_9 : decode cj_lch 9 = .ok (.sipush 255, 3) := by decide +kernel
theorem dj_lch_12 : decode cj_lch 12 = .ok (.iand, 1) := by decide +kernel
theorem dj_lch_13 : decode cj_lch 13 = .ok (.i2c, 1) := by decide +kernel
theorem dj_lch_14 : decode cj_lch 14 = .ok (.ireturn, 1) := by decide +kernel
def yj_sci : MethodName := ⟨"java/lang/String", "checkIndex", "(II)V"⟩
abbrev cj_sci : ByteArray := prog_22_method_155_code
theorem dj_sci_0 : decode cj_sci 0 = .ok (.iload_n 0, 1) := by decide +kernel
theorem dj_sci_1 : decode cj_sci 1 = .ok (.iload_n 1, 1) := by decide +kernel
theorem dj_sci_2 : decode cj_sci 2 = .ok (.getstatic 1053, 3) := by decide +kernel
theorem dj_sci_5 : decode cj_sci 5 = .ok (.invokestatic 1059, 3) := by decide +kernel
theorem dj_sci_8 : decode cj_sci 8 = .ok (.pop, 1) := by decide +kernel
theorem dj_sci_9 : decode cj_sci 9 = .ok (.return_, 1) := by decide +kernel
def yj_pci : MethodName := ⟨"jdk/internal/util/Preconditions", "checkIndex", "(IILjava/util/function/BiFunction;)I"⟩
abbrev cj_pci : ByteArray := prog_29_method_11_code
theorem dj_pci_0 : decode cj_pci 0 = .ok (.iload_n 0, 1) := by decide +kernel
theorem dj_pci_1 : decode cj_pci 1 = .ok (.ifCond .lt 8, 3) := by decide +kernel
theorem dj_pci_4 : decode cj_pci 4 = .ok (.iload_n 0, 1) := by decide +kernel
theorem dj_pci_5 : decode cj_pci 5 = .ok (.iload_n 1, 1) := by decide +kernel
theorem dj_pci_6 : decode cj_pci 6 = .ok (.if_icmp .lt 10, 3) := by decide +kernel
theorem dj_pci_9 : decode cj_pci 9 = .ok (.aload_n 2, 1) := by decide +kernel
theorem dj_pci_10 : decode cj_pci 10 = .ok (.iload_n 0, 1) := by decide +kernel
theorem dj_pci_11 : decode cj_pci 11 = .ok (.iload_n 1, 1) := by decide +kernel
theorem dj_pci_12 : decode cj_pci 12 = .ok (.invokestatic 95, 3) := by decide +kernel
theorem dj_pci_15 : decode cj_pci 15 = .ok (.athrow, 1) := by decide +kernel
theorem dj_pci_16 : decode cj_pci 16 = .ok (.iload_n 0, 1) := by decide +kernel
theorem dj_pci_17 : decode cj_pci 17 = .ok (.ireturn, 1) := by decide +kernel
def wj : List Cond := [.code yj_len cj_len 1 (some .int), .code yj_chr cj_chr 2 (some .char), .code yj_cod cj_cod 1 (some .byte), .code yj_lat cj_lat 1 (some .boolean), .code yj_lch cj_lch 2 (some .char), .code yj_sci cj_sci 2 none, .code yj_pci cj_pci 3 (some .int), .instanceMethod yj_len, .selects "java/lang/String" yj_len yj_len, .instanceMethod yj_chr, .selects "java/lang/String" yj_chr yj_chr, .instanceMethod yj_cod, .selects "java/lang/String" yj_cod yj_cod, .instanceMethod yj_lat, .selects "java/lang/String" yj_lat yj_lat, .static yj_lch, .static yj_sci, .static yj_pci, .initialized "java/lang/String", .initialized "java/lang/StringLatin1", .initialized "jdk/internal/util/Preconditions", .methodLink "java/lang/String" 335 yj_cod, .methodLink "java/lang/String" 492 yj_lat, .methodLink "java/lang/String" 495 yj_lch, .methodLink "java/lang/StringLatin1" 9 yj_sci, .methodLink "java/lang/String" 1059 yj_pci, .fieldLink "java/lang/String" 38 "java/lang/String" "COMPACT_STRINGS" "Z", .fieldLink "java/lang/String" 9 "java/lang/String" "value" "[B", .fieldLink "java/lang/String" 15 "java/lang/String" "coder" "B", .fieldLink "java/lang/String" 1053 "jdk/internal/util/Preconditions" "SIOOBE_FORMATTER" "Ljava/util/function/BiFunction;"]
set_option maxRecDepth 100000 in
theorem wj_in : ∀ w ∈ wj, w ∈ TW := tw_in [(10, 13), (10, 23), (10, 17), (10, 27), (10, 30), (10, 33), (10, 38), (10, 11), (10, 12), (10, 21), (10, 22), (10, 15), (10, 16), (10, 25), (10, 26), (10, 29), (10, 32), (10, 37), (7, 17), (7, 18), (7, 19), (10, 14), (10, 24), (10, 28), (10, 31), (10, 36), (10, 18), (15, 128), (15, 129), (10, 34)] (by decide +kernel) (by decide +kernel)
theorem sc_shr0' (n : Nat) : Int32.ofNat n >>> ((0 : Int32) &&& 31) = Int32.ofNat n := sb_shr0 _
theorem str_all : ∀ n, n < 256 → (Int32.ofNat n &&& 255) = Int32.ofNat n ∧ (Int32.ofNat n).toUInt32 % 65536 = (Int32.ofNat n).toUInt32 ∧ narrow .char (.int (Int32.ofNat n)) = .int (Int32.ofNat n) ∧ ((Int32.ofNat n).toUInt32 % 65536).toInt32 = Int32.ofNat n := by decide +kernel
theorem str_and (n : Nat) (h : n < 256) : (Int32.ofNat n &&& 255) = Int32.ofNat n := (str_all n h).1
theorem str_nar (n : Nat) (h : n < 256) : narrow .char (.int (Int32.ofNat n)) = .int (Int32.ofNat n) := (str_all n h).2.2.1
theorem str_i2c (n : Nat) (h : n < 256) : ((Int32.ofNat n).toUInt32 % 65536).toInt32 = Int32.ofNat n := (str_all n h).2.2.2
def JPc (as : List Value) (P : State → Prop) : Array Value → State → Prop := fun v U => v = as.toArray ∧ P U
def JQ (r : Option Value) : Array Value → State → Outcome → State → Prop := fun _ st o t => o = .returned r ∧ t.heap = st.heap
def rmJ (f n : Nat) : Room := { frames := f, cells := 0, slots := 0, locals := n }
/-- what the members ask of the world: one text, two statics -/
def JP (a : Nat) (t : List Nat) (A : Nat → Prop) (U : State) : Prop := strAt a t A U U.heap ∧ va_Z "java/lang/String" "COMPACT_STRINGS" "Z" (.int 1) A U U.heap ∧ va_Zq "jdk/internal/util/Preconditions" "SIOOBE_FORMATTER" "Ljava/util/function/BiFunction;" A U U.heap
theorem JP.next {a : Nat} {t : List Nat} {A : Nat → Prop} {s U : State} (h : JP a t A s) (hW : s.WarmedH U.vm) (hq : ∀ a : Nat, a < s.heap.size → ¬ A a → U.heap[a]? = s.heap[a]?) : JP a t A U :=
  ⟨h.1.next hW.alike hq, (h.2.1.moved hW.alike).kept hq, (h.2.2.moved hW.alike).kept hq⟩
theorem JP.same {a : Nat} {t : List Nat} {A : Nat → Prop} {s U : State} (h : JP a t A s) (hvm : U.vm = s.vm) (hh : U.heap = s.heap) : JP a t A U := by
  have hv : s.vm.Alike U.vm := by rw [hvm]; exact Vm.Alike.refl _
  exact ⟨h.1.next hv (fun _ _ _ => by rw [hh]), (h.2.1.moved hv).kept (fun _ _ _ => by rw [hh]), (h.2.2.moved hv).kept (fun _ _ _ => by rw [hh])⟩
theorem JPc_blind {as : List Value} {a : Nat} {t : List Nat} {A : Nat → Prop} : FrameBlind (JPc as (JP a t A)) := fun _ U g mk h => ⟨h.1, h.2.same rfl rfl⟩
theorem JPt_blind {as : List Value} : FrameBlind (JPc as (fun _ => True)) := fun _ U g mk h => ⟨h.1, trivial⟩
section STRJ
variable {p : Program} {l : Launch} {e : Env} {R : Room} {s : State} {m : MethodId} {args : Array Value} {below : List Frame} {meth : Method} {c : Code} {H : Heap} {locs : List Loc} {cells slots : Nat} {Q : State → Prop}
variable {pc : Nat} {ls : Array Slot} {A : Nat → Prop}
theorem go_pure {r : Option Value} {st0 rest : List Value} {a : Array Value} (hr : vx_Run p l e R s m args below meth c H locs cells slots 0 0 (F0 m pc ls st0) rest (JQ r a) (fun _ _ _ => False) (fun _ => False))
    (k : W p l e R s m args below meth c H locs cells slots Q (F0 m (pc + 3) ls (r.toList ++ rest))) : W p l e R s m args below meth c H locs cells slots Q (F0 m pc ls st0) := by
  intro T hT X
  rcases hr T hT X with ⟨v, st₀, t, T', L, h0, X', hL, e1, e2, ⟨hv, hh⟩, st⟩ | ⟨q, st₀, t, T', L, E, ce, h0, X', hL, e1, e2, hx, -⟩
  · cases hv
    have hLn : L = [] := by
      cases L with
      | nil => rfl
      | cons z zs => exact (hL z List.mem_cons_self).elim
    subst hLn
    rw [List.append_nil] at X'
    obtain ⟨t2, a1, b1⟩ := k T' (by rw [e1, hh]; exact h0) X'
    exact ⟨t2, st t2 a1, b1⟩
  · exact hx.elim
theorem wj_at (hts : ∀ w ∈ TW, w.before args s = true) : ∀ w ∈ wj, w.before args s = true := fun w h => hts w (wj_in w h)
theorem TW_next (hts : ∀ w ∈ TW, w.before args s = true) {w0 : Cond} (h0 : w0 ∈ wj) : ∀ w ∈ w0 :: TW, ∀ (a' : Array Value) (U : State), s.WarmedH U.vm → w.before a' U = true :=
  words_next (fun w h => hts w ((List.mem_cons.mp h).elim (fun q => by rw [q]; exact wj_in _ h0) id)) (fun w h => trs_TW w ((List.mem_cons.mp h).elim (fun q => by rw [q]; exact wj_in _ h0) id))
/-- a static member of the JDK is called -/
theorem go_js (hx : p.tables.exec = Jvm.exec) {cc : ByteArray} (hb : c.code = cc) {nL : Nat} (hml : c.maxLocals = nL) {own : String} (hown : s.vm.findClass own = some m.cls) (hts : ∀ w ∈ TW, w.before args s = true) {y : MethodName} {bytes : ByteArray} {maxL idx f n np : Nat} {ret : Option FieldType} {as rest : List Value} {P : State → Prop} {r : Option Value}
    (hM : vx_Met l y (.code y bytes maxL ret :: TW) (rmJ f n) (JPc as P) (JQ r) (fun _ _ _ => False) 0 0 (fun _ => False)) (hc : Cond.code y bytes maxL ret ∈ wj) (hi : Cond.initialized y.cls ∈ wj) (hs : Cond.static y ∈ wj) (hk : Cond.methodLink own idx y ∈ wj)
    (hy : y.cls ≠ "java/lang/invoke/MethodHandle" ∧ y.cls ≠ "java/lang/invoke/VarHandle") (hd : (parseMethodDescriptor y.desc).map (fun d => d.parameters.length) = some np) (hbl : FrameBlind (JPc as P)) (hP : ∀ U : State, U.heap = H → s.WarmedH U.vm → P U)
    (hfr : f + 1 ≤ R.frames) (hlo : 8 + (maxL + 11) + n ≤ R.locals) (hn : as.length = np) (hls : ls.size = nL) (hw : (rest.map fun v => v.category).sum ≤ 8) (hdg : decode cc pc = .ok (.invokestatic idx, 3)) (hcz : cells ≤ R.cells ∧ slots ≤ R.slots)
    (k : W p l e R s m args below meth c H locs cells slots Q (F0 m (pc + 3) ls (r.toList ++ rest))) : W p l e R s m args below meth c H locs cells slots Q (F0 m pc ls (as.reverse ++ rest)) :=
  go_pure (vx_runS (own := own) ⟨hx, hb, hml, hown, hts⟩ hM ⟨⟨rfl, rfl, hfr, hlo, TW_next hts hc, List.mem_cons_self, hts _ (wj_in _ hc), hts _ (wj_in _ hi), hy, fun sig h => by rw [h] at hd; exact (Option.some.inj hd).symm, hts _ (wj_in _ hk)⟩, hts _ (wj_in _ hs)⟩
    ⟨hbl, fun U hU hW => ⟨rfl, hP U hU hW⟩⟩ rfl hn hls rfl (lv_room hw) hdg hcz) k
/-- .. a virtual one, of a text -/
theorem go_jv (hx : p.tables.exec = Jvm.exec) {cc : ByteArray} (hb : c.code = cc) {nL : Nat} (hml : c.maxLocals = nL) {own : String} (hown : s.vm.findClass own = some m.cls) (hts : ∀ w ∈ TW, w.before args s = true) {y : MethodName} {bytes : ByteArray} {maxL idx f n np : Nat} {ret : Option FieldType} {a : Nat} {as rest : List Value} {P : State → Prop} {r : Option Value}
    (hM : vx_Met l y (.code y bytes maxL ret :: TW) (rmJ f n) (JPc (.ref a :: as) P) (JQ r) (fun _ _ _ => False) 0 0 (fun _ => False)) (hc : Cond.code y bytes maxL ret ∈ wj) (hyc : y.cls = "java/lang/String") (hin : Cond.instanceMethod y ∈ wj) (hse : Cond.selects "java/lang/String" y y ∈ wj) (hk : (Cond.methodLink own idx y).before args s = true)
    (hd : (parseMethodDescriptor y.desc).map (fun d => d.parameters.length) = some np) (hbl : FrameBlind (JPc (.ref a :: as) P)) (hP : ∀ U : State, U.heap = H → s.WarmedH U.vm → P U) (hrc : ∃ cellB : Cell, H[a]? = some cellB ∧ cellB.vm.isStatics = false ∧ s.vm.findClass "java/lang/String" = some cellB.cls)
    (hfr : f + 1 ≤ R.frames) (hlo : 8 + (maxL + 11) + n ≤ R.locals) (hn : as.length = np) (hls : ls.size = nL) (hw : (rest.map fun v => v.category).sum ≤ 8) (hdg : decode cc pc = .ok (.invokevirtual idx, 3)) (hcz : cells ≤ R.cells ∧ slots ≤ R.slots)
    (k : W p l e R s m args below meth c H locs cells slots Q (F0 m (pc + 3) ls (r.toList ++ rest))) : W p l e R s m args below meth c H locs cells slots Q (F0 m pc ls (as.reverse ++ .ref a :: rest)) :=
  go_pure (vx_runV (own := own) (C := "java/lang/String") ⟨hx, hb, hml, hown, hts⟩ hM ⟨⟨rfl, rfl, hfr, hlo, TW_next hts hc, List.mem_cons_self, hts _ (wj_in _ hc), by rw [hyc]; exact hts _ (wj_in _ (by decide)), by rw [hyc]; decide, fun sig h => by rw [h] at hd; exact (Option.some.inj hd).symm, hk⟩, hts _ (wj_in _ hin), hts _ (wj_in _ hse)⟩
    ⟨hbl, hrc, fun U hU hW => ⟨rfl, hP U hU hW⟩⟩ rfl hn hls rfl (lv_room hw) hdg hcz) k
end STRJ
theorem str_recv {a : Nat} {t : List Nat} {A : Nat → Prop} {s : State} {H : Heap} {locs : List Loc} (h : strAt a t A s s.heap) (hS : va_S A s.heap H locs) : ∃ cellB : Cell, H[a]? = some cellB ∧ cellB.vm.isStatics = false ∧ s.vm.findClass "java/lang/String" = some cellB.cls := by
  obtain ⟨⟨cell, h1, h2, h3, h4⟩, -⟩ := h
  exact ⟨cell, by rw [hS.2.1 a (Array.getElem?_eq_some_iff.mp h1).1 h4]; exact h1, h2, h3⟩
set_option maxHeartbeats 2000000 in
theorem mj_pci (l : Launch) (x y : Int32) (v : Value) (hv : v.category = 1) (h0 : ¬ x < 0) (h1 : x < y) : vx_Met l yj_pci (.code yj_pci cj_pci 3 (some .int) :: TW) (rmJ 0 0) (JPc [.int x, .int y, v] (fun _ => True)) (JQ (some (.int x))) (fun _ _ _ => False) 0 0 (fun _ => False) := by
  refine vx_ofW (cc := cj_pci) (maxL := 3) (ret := some .int) (by decide) rfl ?_
  intro p e s m args below meth c s₁ B hml hno hv9
  obtain ⟨rfl, -⟩ := hv9
  have hx := B.exec
  have hb := B.bytes
  have hr := B.returns
  have hl := lv_entry ([.int x, .int y, v]) (n := 3) (by cases v <;> first | exact Nat.le_of_ble_eq_true rfl | cases hv)
  rw [lg_entry_eq]
  generalize (lg_sl ([.int x, .int y, v]) ++ List.replicate (3 - (lg_sl ([.int x, .int y, v])).length) Slot.unset).toArray = ls at hl ⊢
  have hl : lv_has ls 3 [(0, .int x), (1, .int y), (2, v)] := hl
  refine lv_iload_n hx hb dj_pci_0 rfl (lv_at hl 0 rfl) ?_
  refine lv_if_lt hx hb dj_pci_1 (tgt := 9) rfl (fun z => absurd z h0) (fun _ => ?_)
  refine lv_iload_n hx hb dj_pci_4 rfl (lv_at hl 0 rfl) ?_
  refine lv_iload_n hx hb dj_pci_5 rfl (lv_at hl 1 rfl) ?_
  refine lv_icmp_lt hx hb dj_pci_6 (tgt := 16) rfl (fun _ => ?_) (fun z => absurd h1 z)
  refine lv_iload_n hx hb dj_pci_16 rfl (lv_at hl 0 rfl) ?_
  exact vx_ret (W.iret hx hb hr (fun t ht _ => ⟨rfl, ht⟩) (fun q hq => nomatch hq) dj_pci_17)
set_option maxHeartbeats 2000000 in
theorem mj_sci (l : Launch) (a : Nat) (t : List Nat) (A : Nat → Prop) (x y : Int32) (h0 : ¬ x < 0) (h1 : x < y) : vx_Met l yj_sci (.code yj_sci cj_sci 2 none :: TW) (rmJ 1 22) (JPc [.int x, .int y] (JP a t A)) (JQ none) (fun _ _ _ => False) 0 0 (fun _ => False) := by
  refine vx_ofW (cc := cj_sci) (maxL := 2) (ret := none) (by decide) rfl ?_
  intro p e s m args below meth c s₁ B hml hno hv9
  obtain ⟨rfl, hJ⟩ := hv9
  have hx := B.exec
  have hb := B.bytes
  have hr := B.returns
  have hts : ∀ w ∈ TW, w.before _ s = true := fun w h => atoms_spec (ws := .code yj_sci cj_sci 2 none :: TW) B.pre w (List.mem_cons_of_mem _ h)
  have hown : s.vm.findClass "java/lang/String" = some m.cls := findClass_of_methodNamed B.named
  have hl := lv_entry ([.int x, .int y]) (n := 2) (Nat.le_of_ble_eq_true rfl)
  rw [lg_entry_eq]
  generalize (lg_sl ([.int x, .int y]) ++ List.replicate (2 - (lg_sl ([.int x, .int y])).length) Slot.unset).toArray = ls at hl ⊢
  have hl : lv_has ls 2 [(0, .int x), (1, .int y)] := hl
  have hS : va_S A s.heap s.heap [] := va_S.rf
  refine lv_iload_n hx hb dj_sci_0 rfl (lv_at hl 0 rfl) ?_
  refine lv_iload_n hx hb dj_sci_1 rfl (lv_at hl 1 rfl) ?_
  have key : ∀ v : Value, v.category = 1 → W p l e (headSpec (.code yj_sci cj_sci 2 none :: TW) (rmJ 1 22)).room s m #[Value.int x, Value.int y] below meth c s.heap [] 0 0 (vx_MQ below (JQ none) (fun _ _ _ => False) #[Value.int x, Value.int y] s 0 0 (fun _ => False)) (F0 m (2 + 3) ls [v, .int y, .int x]) := by
    intro v hv
    refine go_js (as := [.int x, .int y, v]) (rest := []) hx hb hml hown hts (mj_pci l x y v hv h0 h1) (by decide) (by decide) (by decide) (by decide) (by decide) (np := 3) (by decide +kernel) JPt_blind (fun _ _ _ => trivial) (by decide) (by decide) rfl hl.1 (by decide) dj_sci_5 ⟨Nat.zero_le _, Nat.zero_le _⟩ ?_
    refine lv_pop hx hb dj_sci_8 rfl ?_
    exact vx_ret (W.vret hx hb hr (fun t ht _ => ⟨rfl, ht⟩) (fun q hq => nomatch hq) dj_sci_9)
  rcases hJ.2.2 with hZ | ⟨tq, hZ⟩
  · exact va_gets hx hb hZ hS hown (hts _ (wj_in (.fieldLink "java/lang/String" 1053 "jdk/internal/util/Preconditions" "SIOOBE_FORMATTER" "Ljava/util/function/BiFunction;") (by decide))) (fun _ h9 => h9) dj_sci_2 (key _ rfl)
  · exact va_gets hx hb hZ hS hown (hts _ (wj_in (.fieldLink "java/lang/String" 1053 "jdk/internal/util/Preconditions" "SIOOBE_FORMATTER" "Ljava/util/function/BiFunction;") (by decide))) (fun _ h9 => h9) dj_sci_2 (key _ rfl)
set_option maxHeartbeats 2000000 in
theorem mj_cod (l : Launch) (a : Nat) (t : List Nat) (A : Nat → Prop) : vx_Met l yj_cod (.code yj_cod cj_cod 1 (some .byte) :: TW) (rmJ 0 0) (JPc [.ref a] (JP a t A)) (JQ (some (.int 0))) (fun _ _ _ => False) 0 0 (fun _ => False) := by
  refine vx_ofW (cc := cj_cod) (maxL := 1) (ret := some .byte) (by decide) rfl ?_
  intro p e s m args below meth c s₁ B hml hno hv9
  obtain ⟨rfl, hJ⟩ := hv9
  have hx := B.exec
  have hb := B.bytes
  have hr := B.returns
  have hts : ∀ w ∈ TW, w.before _ s = true := fun w h => atoms_spec (ws := .code yj_cod cj_cod 1 (some .byte) :: TW) B.pre w (List.mem_cons_of_mem _ h)
  have hown : s.vm.findClass "java/lang/String" = some m.cls := findClass_of_methodNamed B.named
  have hl := lv_entry ([.ref a]) (n := 1) (Nat.le_of_ble_eq_true rfl)
  rw [lg_entry_eq]
  generalize (lg_sl ([.ref a]) ++ List.replicate (1 - (lg_sl ([.ref a])).length) Slot.unset).toArray = ls at hl ⊢
  have hl : lv_has ls 1 [(0, .ref a)] := hl
  have hS : va_S A s.heap s.heap [] := va_S.rf
  refine va_gets hx hb hJ.2.1 hS hown (hts _ (wj_in (.fieldLink "java/lang/String" 38 "java/lang/String" "COMPACT_STRINGS" "Z") (by decide))) (fun _ h9 => h9) dj_cod_0 ?_
  refine lv_if_eq hx hb dj_cod_3 (tgt := 13) rfl (fun z => absurd z (by decide)) (fun _ => ?_)
  refine lv_aload_n hx hb dj_cod_6 rfl (lv_at hl 0 rfl) ?_
  refine vk_getf hx hb hJ.1.2.1 hS hown (hts _ (wj_in (.fieldLink "java/lang/String" 15 "java/lang/String" "coder" "B") (by decide))) (fun _ h9 => h9) dj_cod_7 ?_
  refine lv_goto hx hb dj_cod_10 (tgt := 14) rfl ?_
  exact vx_ret (W.zret hx hb hr rfl (fun t ht _ => ⟨rfl, ht⟩) (fun q hq => nomatch hq) dj_cod_14)
set_option maxHeartbeats 2000000 in
theorem mj_lat (l : Launch) (a : Nat) (t : List Nat) (A : Nat → Prop) : vx_Met l yj_lat (.code yj_lat cj_lat 1 (some .boolean) :: TW) (rmJ 0 0) (JPc [.ref a] (JP a t A)) (JQ (some (.int 1))) (fun _ _ _ => False) 0 0 (fun _ => False) := by
  refine vx_ofW (cc := cj_lat) (maxL := 1) (ret := some .boolean) (by decide) rfl ?_
  intro p e s m args below meth c s₁ B hml hno hv9
  obtain ⟨rfl, hJ⟩ := hv9
  have hx := B.exec
  have hb := B.bytes
  have hr := B.returns
  have hts : ∀ w ∈ TW, w.before _ s = true := fun w h => atoms_spec (ws := .code yj_lat cj_lat 1 (some .boolean) :: TW) B.pre w (List.mem_cons_of_mem _ h)
  have hown : s.vm.findClass "java/lang/String" = some m.cls := findClass_of_methodNamed B.named
  have hl := lv_entry ([.ref a]) (n := 1) (Nat.le_of_ble_eq_true rfl)
  rw [lg_entry_eq]
  generalize (lg_sl ([.ref a]) ++ List.replicate (1 - (lg_sl ([.ref a])).length) Slot.unset).toArray = ls at hl ⊢
  have hl : lv_has ls 1 [(0, .ref a)] := hl
  have hS : va_S A s.heap s.heap [] := va_S.rf
  refine va_gets hx hb hJ.2.1 hS hown (hts _ (wj_in (.fieldLink "java/lang/String" 38 "java/lang/String" "COMPACT_STRINGS" "Z") (by decide))) (fun _ h9 => h9) dj_lat_0 ?_
  refine lv_if_eq hx hb dj_lat_3 (tgt := 17) rfl (fun z => absurd z (by decide)) (fun _ => ?_)
  refine lv_aload_n hx hb dj_lat_6 rfl (lv_at hl 0 rfl) ?_
  refine vk_getf hx hb hJ.1.2.1 hS hown (hts _ (wj_in (.fieldLink "java/lang/String" 15 "java/lang/String" "coder" "B") (by decide))) (fun _ h9 => h9) dj_lat_7 ?_
  refine lv_if_ne hx hb dj_lat_10 (tgt := 17) rfl (fun z => absurd rfl z) (fun _ => ?_)
  refine lv_iconst (v := 1) hx hb dj_lat_13 (by decide) ?_
  refine lv_goto hx hb dj_lat_14 (tgt := 18) rfl ?_
  exact vx_ret (W.zret hx hb hr rfl (fun t ht _ => ⟨rfl, ht⟩) (fun q hq => nomatch hq) dj_lat_18)
set_option maxHeartbeats 2000000 in
theorem mj_len (l : Launch) (a : Nat) (t : List Nat) (A : Nat → Prop) : vx_Met l yj_len (.code yj_len cj_len 1 (some .int) :: TW) (rmJ 1 20) (JPc [.ref a] (JP a t A)) (JQ (some (.int (Int32.ofNat t.length)))) (fun _ _ _ => False) 0 0 (fun _ => False) := by
  refine vx_ofW (cc := cj_len) (maxL := 1) (ret := some .int) (by decide) rfl ?_
  intro p e s m args below meth c s₁ B hml hno hv9
  obtain ⟨rfl, hJ⟩ := hv9
  have hx := B.exec
  have hb := B.bytes
  have hr := B.returns
  have hts : ∀ w ∈ TW, w.before _ s = true := fun w h => atoms_spec (ws := .code yj_len cj_len 1 (some .int) :: TW) B.pre w (List.mem_cons_of_mem _ h)
  have hown : s.vm.findClass "java/lang/String" = some m.cls := findClass_of_methodNamed B.named
  have hl := lv_entry ([.ref a]) (n := 1) (Nat.le_of_ble_eq_true rfl)
  rw [lg_entry_eq]
  generalize (lg_sl ([.ref a]) ++ List.replicate (1 - (lg_sl ([.ref a])).length) Slot.unset).toArray = ls at hl ⊢
  have hl : lv_has ls 1 [(0, .ref a)] := hl
  have hS : va_S A s.heap s.heap [] := va_S.rf
  obtain ⟨⟨j1, j2, v, j3, j4⟩, j5, j6⟩ := id hJ
  refine lv_aload_n hx hb dj_len_0 rfl (lv_at hl 0 rfl) ?_
  refine vk_getf hx hb j3 hS hown (hts _ (wj_in (.fieldLink "java/lang/String" 9 "java/lang/String" "value" "[B") (by decide))) (fun _ h9 => h9) dj_len_1 ?_
  refine va_tlen hx hb j4 hS rfl dj_len_4 ?_
  refine lv_aload_n hx hb dj_len_5 rfl (lv_at hl 0 rfl) ?_
  refine go_jv (a := a) (as := []) (rest := [.int (Int32.ofNat t.length)]) hx hb hml hown hts (mj_cod l a t A) (by decide) rfl (by decide) (by decide) (hts _ (wj_in (.methodLink "java/lang/String" 335 yj_cod) (by decide))) (np := 0) (by decide +kernel) JPc_blind (fun U hU hW => hJ.next hW (fun q h1 h2 => by rw [hU])) (str_recv hJ.1 hS) (by decide) (by decide) rfl hl.1 (Nat.le_of_ble_eq_true rfl) dj_len_6 ⟨Nat.zero_le _, Nat.zero_le _⟩ ?_
  refine lv_ishr hx hb dj_len_9 ?_
  rw [sc_shr0']
  exact vx_ret (W.iret hx hb hr (fun t ht _ => ⟨rfl, ht⟩) (fun q hq => nomatch hq) dj_len_10)
set_option maxHeartbeats 2000000 in
theorem mj_lch (l : Launch) (a v : Nat) (t : List Nat) (A : Nat → Prop) (x : Int32) (h0 : ¬ x < 0) (h1 : x < Int32.ofNat t.length) (h2 : x.toNatClampNeg < t.length) (h3 : t.getD x.toNatClampNeg 0 < 256) :
    vx_Met l yj_lch (.code yj_lch cj_lch 2 (some .char) :: TW) (rmJ 2 43) (JPc [.ref v, .int x] (fun U => JP a t A U ∧ va_T .byte v t.length (fun j => .int (Int32.ofNat (t.getD j 0))) A U U.heap)) (JQ (some (.int (Int32.ofNat (t.getD x.toNatClampNeg 0))))) (fun _ _ _ => False) 0 0 (fun _ => False) := by
  refine vx_ofW (cc := cj_lch) (maxL := 2) (ret := some .char) (by decide) rfl ?_
  intro p e s m args below meth c s₁ B hml hno hv9
  obtain ⟨rfl, hJ, hT⟩ := hv9
  have hx := B.exec
  have hb := B.bytes
  have hr := B.returns
  have hts : ∀ w ∈ TW, w.before _ s = true := fun w h => atoms_spec (ws := .code yj_lch cj_lch 2 (some .char) :: TW) B.pre w (List.mem_cons_of_mem _ h)
  have hown : s.vm.findClass "java/lang/StringLatin1" = some m.cls := findClass_of_methodNamed B.named
  have hl := lv_entry ([.ref v, .int x]) (n := 2) (Nat.le_of_ble_eq_true rfl)
  rw [lg_entry_eq]
  generalize (lg_sl ([.ref v, .int x]) ++ List.replicate (2 - (lg_sl ([.ref v, .int x])).length) Slot.unset).toArray = ls at hl ⊢
  have hl : lv_has ls 2 [(0, .ref v), (1, .int x)] := hl
  have hS : va_S A s.heap s.heap [] := va_S.rf
  refine lv_iload_n hx hb dj_lch_0 rfl (lv_at hl 1 rfl) ?_
  refine lv_aload_n hx hb dj_lch_1 rfl (lv_at hl 0 rfl) ?_
  refine va_tlen hx hb hT hS rfl dj_lch_2 ?_
  refine go_js (as := [.int x, .int (Int32.ofNat t.length)]) (rest := []) hx hb hml hown hts (mj_sci l a t A x (Int32.ofNat t.length) h0 h1) (by decide) (by decide) (by decide) (by decide) (by decide) (np := 2) (by decide +kernel) JPc_blind (fun U hU hW => hJ.next hW (fun q h1 h2 => by rw [hU])) (by decide) (by decide) rfl hl.1 (by decide) dj_lch_3 ⟨Nat.zero_le _, Nat.zero_le _⟩ ?_
  refine lv_aload_n hx hb dj_lch_6 rfl (lv_at hl 0 rfl) ?_
  refine lv_iload_n hx hb dj_lch_7 rfl (lv_at hl 1 rfl) ?_
  refine va_tb hx hb hT hS (fun z => z.elim h0 (fun z => by omega)) rfl dj_lch_8 ?_
  refine lv_sipush (v := 255) hx hb dj_lch_9 (by decide) ?_
  refine lv_iand hx hb dj_lch_12 ?_
  have e1 : (Int32.ofNat (t.getD x.toNatClampNeg 0) &&& 255) = Int32.ofNat (t.getD x.toNatClampNeg 0) := str_and _ h3
  rw [e1]
  refine lv_i2c (v := Int32.ofNat (t.getD x.toNatClampNeg 0)) hx hb dj_lch_13 (str_i2c _ h3) ?_
  exact vx_ret (W.zret hx hb hr (str_nar _ h3) (fun t ht _ => ⟨rfl, ht⟩) (fun q hq => nomatch hq) dj_lch_14)
theorem JPv_blind {as : List Value} {a v : Nat} {t : List Nat} {A : Nat → Prop} : FrameBlind (JPc as (fun U => JP a t A U ∧ va_T .byte v t.length (fun j => .int (Int32.ofNat (t.getD j 0))) A U U.heap)) :=
  fun _ U g mk h => ⟨h.1, h.2.1.same rfl rfl, va_T.moved (u := U) (U := U.calling g mk _) (Vm.Alike.refl U.vm) h.2.2⟩
set_option maxHeartbeats 2000000 in
theorem mj_chr (l : Launch) (a : Nat) (t : List Nat) (A : Nat → Prop) (x : Int32) (h0 : ¬ x < 0) (h1 : x < Int32.ofNat t.length) (h2 : x.toNatClampNeg < t.length) (h3 : t.getD x.toNatClampNeg 0 < 256) :
    vx_Met l yj_chr (.code yj_chr cj_chr 2 (some .char) :: TW) (rmJ 3 64) (JPc [.ref a, .int x] (JP a t A)) (JQ (some (.int (Int32.ofNat (t.getD x.toNatClampNeg 0))))) (fun _ _ _ => False) 0 0 (fun _ => False) := by
  refine vx_ofW (cc := cj_chr) (maxL := 2) (ret := some .char) (by decide) rfl ?_
  intro p e s m args below meth c s₁ B hml hno hv9
  obtain ⟨rfl, hJ⟩ := hv9
  have hx := B.exec
  have hb := B.bytes
  have hr := B.returns
  have hts : ∀ w ∈ TW, w.before _ s = true := fun w h => atoms_spec (ws := .code yj_chr cj_chr 2 (some .char) :: TW) B.pre w (List.mem_cons_of_mem _ h)
  have hown : s.vm.findClass "java/lang/String" = some m.cls := findClass_of_methodNamed B.named
  have hl := lv_entry ([.ref a, .int x]) (n := 2) (Nat.le_of_ble_eq_true rfl)
  rw [lg_entry_eq]
  generalize (lg_sl ([.ref a, .int x]) ++ List.replicate (2 - (lg_sl ([.ref a, .int x])).length) Slot.unset).toArray = ls at hl ⊢
  have hl : lv_has ls 2 [(0, .ref a), (1, .int x)] := hl
  have hS : va_S A s.heap s.heap [] := va_S.rf
  obtain ⟨⟨j1, j2, v, j3, j4⟩, j5, j6⟩ := id hJ
  refine lv_aload_n hx hb dj_chr_0 rfl (lv_at hl 0 rfl) ?_
  refine go_jv (a := a) (as := []) (rest := []) hx hb hml hown hts (mj_lat l a t A) (by decide) rfl (by decide) (by decide) (hts _ (wj_in (.methodLink "java/lang/String" 492 yj_lat) (by decide))) (np := 0) (by decide +kernel) JPc_blind (fun U hU hW => hJ.next hW (fun q h1 h2 => by rw [hU])) (str_recv hJ.1 hS) (by decide) (by decide) rfl hl.1 (by decide) dj_chr_1 ⟨Nat.zero_le _, Nat.zero_le _⟩ ?_
  refine lv_if_eq hx hb dj_chr_4 (tgt := 16) rfl (fun z => absurd z (by decide)) (fun _ => ?_)
  refine lv_aload_n hx hb dj_chr_7 rfl (lv_at hl 0 rfl) ?_
  refine vk_getf hx hb j3 hS hown (hts _ (wj_in (.fieldLink "java/lang/String" 9 "java/lang/String" "value" "[B") (by decide))) (fun _ h9 => h9) dj_chr_8 ?_
  refine lv_iload_n hx hb dj_chr_11 rfl (lv_at hl 1 rfl) ?_
  refine go_js (as := [.ref v, .int x]) (rest := []) hx hb hml hown hts (mj_lch l a v t A x h0 h1 h2 h3) (by decide) (by decide) (by decide) (by decide) (by decide) (np := 2) (by decide +kernel) JPv_blind (fun U hU hW => ⟨hJ.next hW (fun q h1 h2 => by rw [hU]), (va_T.moved hW.alike j4).kept (fun q h1 h2 => by rw [hU])⟩) (by decide) (by decide) rfl hl.1 (by decide) dj_chr_12 ⟨Nat.zero_le _, Nat.zero_le _⟩ ?_
  exact vx_ret (W.zret hx hb hr (str_nar _ h3) (fun t ht _ => ⟨rfl, ht⟩) (fun q hq => nomatch hq) dj_chr_15)
