/-! The table is right. -/
theorem okc_all : ∀ q ∈ MTK, methOK CLS MT TSS q.1 := List.forall_mem_append.mpr ⟨okc0, List.forall_mem_append.mpr ⟨okc1, List.forall_mem_append.mpr ⟨okc2, List.forall_mem_append.mpr ⟨okc3, List.forall_mem_append.mpr ⟨okc4, List.forall_mem_append.mpr ⟨okc5, List.forall_mem_append.mpr ⟨okc6, okc7⟩⟩⟩⟩⟩⟩⟩
theorem hMT_all : ∀ (k : Nat) (M : MI), MT[k]? = some M → methOK CLS MT TSS M := by
  intro k M h
  obtain ⟨q, hq, rfl⟩ := mt_at h
  exact okc_all q (List.mem_of_getElem? hq)
set_option maxRecDepth 100000 in
theorem cw_law : ∀ w ∈ ckW CLS MT (M_L_law_).nm.cls ck_L_law_, w ∈ TW := tw_in [(7, 26), (12, 164), (8, 170), (13, 110), (9, 126), (13, 118), (12, 158), (10, 120), (13, 196), (10, 181), (13, 235), (11, 32), (14, 90), (8, 179), (13, 114), (8, 183), (14, 94), (11, 60), (14, 98), (9, 13), (14, 125), (11, 68), (14, 137), (11, 98), (14, 145), (11, 105), (14, 153), (11, 112), (14, 161), (11, 120), (14, 165), (9, 56), (14, 169), (11, 128), (14, 173), (11, 162), (14, 181), (11, 169), (14, 185), (9, 61), (14, 192), (11, 183), (14, 196), (11, 206), (14, 208), (11, 223), (14, 212), (11, 236), (14, 220), (12, 9), (14, 227), (12, 19), (15, 3), (12, 35), (15, 15), (12, 46), (15, 19), (12, 61), (15, 23), (9, 80), (15, 27), (12, 69), (15, 31), (12, 76), (15, 35), (12, 83), (15, 39), (12, 90), (15, 43), (9, 89), (15, 47), (12, 97), (15, 55), (12, 104), (15, 59), (12, 111), (15, 63), (12, 118), (15, 67), (12, 150), (15, 83), (9, 95), (15, 87), (9, 109), (15, 99), (9, 118), (15, 103), (9, 122), (15, 107), (7, 24), (12, 162)] (by decide +kernel) (by decide +kernel)
set_option maxRecDepth 100000 in
theorem cb_law0 : rw_L_law__0.all (rowB CLS MT TSS KD M_L_law_ false ck_L_law_) = true := by decide +kernel
set_option maxRecDepth 100000 in
theorem cb_law1 : rw_L_law__1.all (rowB CLS MT TSS KD M_L_law_ false ck_L_law_) = true := by decide +kernel
set_option maxRecDepth 100000 in
theorem cb_law2 : rw_L_law__2.all (rowB CLS MT TSS KD M_L_law_ false ck_L_law_) = true := by decide +kernel
set_option maxRecDepth 100000 in
theorem cb_law3 : rw_L_law__3.all (rowB CLS MT TSS KD M_L_law_ false ck_L_law_) = true := by decide +kernel
set_option maxRecDepth 100000 in
theorem cb_law4 : rw_L_law__4.all (rowB CLS MT TSS KD M_L_law_ false ck_L_law_) = true := by decide +kernel
set_option maxRecDepth 100000 in
theorem cb_law5 : rw_L_law__5.all (rowB CLS MT TSS KD M_L_law_ false ck_L_law_) = true := by decide +kernel
set_option maxRecDepth 100000 in
theorem cb_law6 : rw_L_law__6.all (rowB CLS MT TSS KD M_L_law_ false ck_L_law_) = true := by decide +kernel
set_option maxRecDepth 100000 in
theorem cb_law7 : rw_L_law__7.all (rowB CLS MT TSS KD M_L_law_ false ck_L_law_) = true := by decide +kernel
set_option maxRecDepth 100000 in
theorem cb_law8 : rw_L_law__8.all (rowB CLS MT TSS KD M_L_law_ false ck_L_law_) = true := by decide +kernel
set_option maxRecDepth 100000 in
theorem cb_law9 : rw_L_law__9.all (rowB CLS MT TSS KD M_L_law_ false ck_L_law_) = true := by decide +kernel
set_option maxRecDepth 100000 in
theorem cb_law10 : rw_L_law__10.all (rowB CLS MT TSS KD M_L_law_ false ck_L_law_) = true := by decide +kernel
set_option maxRecDepth 100000 in
theorem cb_law11 : rw_L_law__11.all (rowB CLS MT TSS KD M_L_law_ false ck_L_law_) = true := by decide +kernel
set_option maxRecDepth 100000 in
theorem cb_law12 : rw_L_law__12.all (rowB CLS MT TSS KD M_L_law_ false ck_L_law_) = true := by decide +kernel
set_option maxRecDepth 100000 in
theorem cb_law13 : rw_L_law__13.all (rowB CLS MT TSS KD M_L_law_ false ck_L_law_) = true := by decide +kernel
set_option maxRecDepth 100000 in
theorem cb_law14 : rw_L_law__14.all (rowB CLS MT TSS KD M_L_law_ false ck_L_law_) = true := by decide +kernel
set_option maxRecDepth 100000 in
theorem cb_law15 : rw_L_law__15.all (rowB CLS MT TSS KD M_L_law_ false ck_L_law_) = true := by decide +kernel
set_option maxRecDepth 100000 in
theorem cb_law16 : rw_L_law__16.all (rowB CLS MT TSS KD M_L_law_ false ck_L_law_) = true := by decide +kernel
set_option maxRecDepth 100000 in
theorem cb_law17 : rw_L_law__17.all (rowB CLS MT TSS KD M_L_law_ false ck_L_law_) = true := by decide +kernel
set_option maxRecDepth 100000 in
theorem cb_law18 : rw_L_law__18.all (rowB CLS MT TSS KD M_L_law_ false ck_L_law_) = true := by decide +kernel
set_option maxRecDepth 100000 in
theorem cb_law19 : rw_L_law__19.all (rowB CLS MT TSS KD M_L_law_ false ck_L_law_) = true := by decide +kernel
set_option maxRecDepth 100000 in
theorem cb_law20 : rw_L_law__20.all (rowB CLS MT TSS KD M_L_law_ false ck_L_law_) = true := by decide +kernel
set_option maxRecDepth 100000 in
theorem cb_law21 : rw_L_law__21.all (rowB CLS MT TSS KD M_L_law_ false ck_L_law_) = true := by decide +kernel
set_option maxRecDepth 100000 in
theorem cb_law22 : rw_L_law__22.all (rowB CLS MT TSS KD M_L_law_ false ck_L_law_) = true := by decide +kernel
set_option maxRecDepth 100000 in
theorem cb_law23 : rw_L_law__23.all (rowB CLS MT TSS KD M_L_law_ false ck_L_law_) = true := by decide +kernel
set_option maxRecDepth 100000 in
theorem cb_law24 : rw_L_law__24.all (rowB CLS MT TSS KD M_L_law_ false ck_L_law_) = true := by decide +kernel
set_option maxRecDepth 100000 in
theorem cb_law25 : rw_L_law__25.all (rowB CLS MT TSS KD M_L_law_ false ck_L_law_) = true := by decide +kernel
theorem all_app {α : Type} {f : α → Bool} {a b : List α} (h1 : a.all f = true) (h2 : b.all f = true) : (a ++ b).all f = true := by rw [List.all_append, h1, h2]; rfl
theorem cb_law : (M_L_law_).rw.all (rowB CLS MT TSS KD M_L_law_ false ck_L_law_) = true := (all_app cb_law0 (all_app cb_law1 (all_app cb_law2 (all_app cb_law3 (all_app cb_law4 (all_app cb_law5 (all_app cb_law6 (all_app cb_law7 (all_app cb_law8 (all_app cb_law9 (all_app cb_law10 (all_app cb_law11 (all_app cb_law12 (all_app cb_law13 (all_app cb_law14 (all_app cb_law15 (all_app cb_law16 (all_app cb_law17 (all_app cb_law18 (all_app cb_law19 (all_app cb_law20 (all_app cb_law21 (all_app cb_law22 (all_app cb_law23 (all_app cb_law24 cb_law25)))))))))))))))))))))))))
theorem law_rows : ∀ wd : Cond → Prop, (∀ w ∈ TW, wd w) → ∀ pc i len a b, xlk (M_L_law_).rw pc = some (i, len, a, b) → rowOK wd TW CLS MT TSS M_L_law_ pc i len a b := by
  intro wd ht pc i len a b hr
  have hm := xlk_mem hr
  refine chk_row (r := (pc, i, len, a, b)) hG_all ht (fun w hw1 => ht _ (cw_law w hw1)) (fun w hw1 => ht _ (prim_in w hw1)) (fun w hw1 => ht _ (inst_in w hw1)) ?_ (noThr_ok (by decide +kernel) wd TSS hm)
  rw [show decide ((M_L_law_).nm.name = "<init>") = false from by decide +kernel]
  exact List.all_eq_true.mp cb_law _ hm
