/-! Rows checked. -/
set_option maxRecDepth 100000 in
theorem cb_X11_clear : (M_X11_clear).rw.all (rowB CLS MT TSS KD M_X11_clear (decide ((M_X11_clear).nm.name = "<init>")) ck_X11_clear) = true := by decide +kernel
set_option maxRecDepth 100000 in
theorem cw_X11_clear : ∀ w ∈ ckW CLS MT (M_X11_clear).nm.cls ck_X11_clear, w ∈ TW := tw_in [(12, 180), (12, 223), (14, 20), (14, 121)] (by decide +kernel) (by decide +kernel)
set_option maxRecDepth 100000 in
theorem ch_X11_clear : ∀ w ∈ hdW M_X11_clear, w ∈ TW := fun w h => nomatch h
set_option maxRecDepth 100000 in
theorem ok_X11_clear : methOK CLS MT TSS M_X11_clear := meth_ok (k := ck_X11_clear) (kd := 1) hG_all prim_in inst_in cw_X11_clear cb_X11_clear (own6 (M_X11_clear, 1) (List.mem_of_getElem? (i := 0) rfl)).1 (own6 (M_X11_clear, 1) (List.mem_of_getElem? (i := 0) rfl)).2 (by decide +kernel) ch_X11_clear (fun wd _ r hr => noThr_ok (by decide +kernel) wd TSS hr)
set_option maxRecDepth 100000 in
theorem cb_X11_isHidden : (M_X11_isHidden).rw.all (rowB CLS MT TSS KD M_X11_isHidden (decide ((M_X11_isHidden).nm.name = "<init>")) ck_X11_isHidden) = true := by decide +kernel
set_option maxRecDepth 100000 in
theorem cw_X11_isHidden : ∀ w ∈ ckW CLS MT (M_X11_isHidden).nm.cls ck_X11_isHidden, w ∈ TW := tw_in [(12, 204), (12, 229), (12, 228), (12, 223), (12, 230)] (by decide +kernel) (by decide +kernel)
set_option maxRecDepth 100000 in
theorem ch_X11_isHidden : ∀ w ∈ hdW M_X11_isHidden, w ∈ TW := fun w h => nomatch h
set_option maxRecDepth 100000 in
theorem ok_X11_isHidden : methOK CLS MT TSS M_X11_isHidden := meth_ok (k := ck_X11_isHidden) (kd := 1) hG_all prim_in inst_in cw_X11_isHidden cb_X11_isHidden (own6 (M_X11_isHidden, 1) (List.mem_of_getElem? (i := 1) rfl)).1 (own6 (M_X11_isHidden, 1) (List.mem_of_getElem? (i := 1) rfl)).2 (by decide +kernel) ch_X11_isHidden (fun wd _ r hr => noThr_ok (by decide +kernel) wd TSS hr)
set_option maxRecDepth 100000 in
theorem cb_X11_hide : (M_X11_hide).rw.all (rowB CLS MT TSS KD M_X11_hide (decide ((M_X11_hide).nm.name = "<init>")) ck_X11_hide) = true := by decide +kernel
set_option maxRecDepth 100000 in
theorem cw_X11_hide : ∀ w ∈ ckW CLS MT (M_X11_hide).nm.cls ck_X11_hide, w ∈ TW := tw_in [(12, 180), (12, 202), (12, 204), (12, 228), (12, 230), (12, 229), (14, 102), (13, 122), (14, 20), (14, 59), (14, 177)] (by decide +kernel) (by decide +kernel)
set_option maxRecDepth 100000 in
theorem ch_X11_hide : ∀ w ∈ hdW M_X11_hide, w ∈ TW := fun w h => nomatch h
set_option maxRecDepth 100000 in
theorem ok_X11_hide : methOK CLS MT TSS M_X11_hide := meth_ok (k := ck_X11_hide) (kd := 1) hG_all prim_in inst_in cw_X11_hide cb_X11_hide (own6 (M_X11_hide, 1) (List.mem_of_getElem? (i := 2) rfl)).1 (own6 (M_X11_hide, 1) (List.mem_of_getElem? (i := 2) rfl)).2 (by decide +kernel) ch_X11_hide (fun wd _ r hr => noThr_ok (by decide +kernel) wd TSS hr)
set_option maxRecDepth 100000 in
theorem cb_X11_follows : (M_X11_follows).rw.all (rowB CLS MT TSS KD M_X11_follows (decide ((M_X11_follows).nm.name = "<init>")) ck_X11_follows) = true := by decide +kernel
set_option maxRecDepth 100000 in
theorem cw_X11_follows : ∀ w ∈ ckW CLS MT (M_X11_follows).nm.cls ck_X11_follows, w ∈ TW := tw_in [(12, 180), (12, 202), (13, 122), (14, 113)] (by decide +kernel) (by decide +kernel)
set_option maxRecDepth 100000 in
theorem ch_X11_follows : ∀ w ∈ hdW M_X11_follows, w ∈ TW := fun w h => nomatch h
set_option maxRecDepth 100000 in
theorem ok_X11_follows : methOK CLS MT TSS M_X11_follows := meth_ok (k := ck_X11_follows) (kd := 1) hG_all prim_in inst_in cw_X11_follows cb_X11_follows (own6 (M_X11_follows, 1) (List.mem_of_getElem? (i := 3) rfl)).1 (own6 (M_X11_follows, 1) (List.mem_of_getElem? (i := 3) rfl)).2 (by decide +kernel) ch_X11_follows (fun wd _ r hr => noThr_ok (by decide +kernel) wd TSS hr)
set_option maxRecDepth 100000 in
theorem cb_X11_proof : (M_X11_proof).rw.all (rowB CLS MT TSS KD M_X11_proof (decide ((M_X11_proof).nm.name = "<init>")) ck_X11_proof) = true := by decide +kernel
set_option maxRecDepth 100000 in
theorem cw_X11_proof : ∀ w ∈ ckW CLS MT (M_X11_proof).nm.cls ck_X11_proof, w ∈ TW := tw_in [(12, 180), (12, 202), (14, 141), (14, 189), (14, 113)] (by decide +kernel) (by decide +kernel)
set_option maxRecDepth 100000 in
theorem ch_X11_proof : ∀ w ∈ hdW M_X11_proof, w ∈ TW := fun w h => nomatch h
set_option maxRecDepth 100000 in
theorem ok_X11_proof : methOK CLS MT TSS M_X11_proof := meth_ok (k := ck_X11_proof) (kd := 1) hG_all prim_in inst_in cw_X11_proof cb_X11_proof (own6 (M_X11_proof, 1) (List.mem_of_getElem? (i := 4) rfl)).1 (own6 (M_X11_proof, 1) (List.mem_of_getElem? (i := 4) rfl)).2 (by decide +kernel) ch_X11_proof (fun wd _ r hr => noThr_ok (by decide +kernel) wd TSS hr)
set_option maxRecDepth 100000 in
theorem cb_X11_turn : (M_X11_turn).rw.all (rowB CLS MT TSS KD M_X11_turn (decide ((M_X11_turn).nm.name = "<init>")) ck_X11_turn) = true := by decide +kernel
set_option maxRecDepth 100000 in
theorem cw_X11_turn : ∀ w ∈ ckW CLS MT (M_X11_turn).nm.cls ck_X11_turn, w ∈ TW := tw_in [(12, 180), (12, 223), (14, 20), (14, 105), (14, 109), (14, 55), (14, 129), (14, 189)] (by decide +kernel) (by decide +kernel)
set_option maxRecDepth 100000 in
theorem ch_X11_turn : ∀ w ∈ hdW M_X11_turn, w ∈ TW := fun w h => nomatch h
set_option maxRecDepth 100000 in
theorem ok_X11_turn : methOK CLS MT TSS M_X11_turn := meth_ok (k := ck_X11_turn) (kd := 1) hG_all prim_in inst_in cw_X11_turn cb_X11_turn (own6 (M_X11_turn, 1) (List.mem_of_getElem? (i := 5) rfl)).1 (own6 (M_X11_turn, 1) (List.mem_of_getElem? (i := 5) rfl)).2 (by decide +kernel) ch_X11_turn (fun wd _ r hr => noThr_ok (by decide +kernel) wd TSS hr)
set_option maxRecDepth 100000 in
theorem cb_X11_laysCounts : (M_X11_laysCounts).rw.all (rowB CLS MT TSS KD M_X11_laysCounts (decide ((M_X11_laysCounts).nm.name = "<init>")) ck_X11_laysCounts) = true := by decide +kernel
set_option maxRecDepth 100000 in
theorem cw_X11_laysCounts : ∀ w ∈ ckW CLS MT (M_X11_laysCounts).nm.cls ck_X11_laysCounts, w ∈ TW := tw_in [(12, 204), (12, 231), (12, 202), (14, 20), (14, 59)] (by decide +kernel) (by decide +kernel)
set_option maxRecDepth 100000 in
theorem ch_X11_laysCounts : ∀ w ∈ hdW M_X11_laysCounts, w ∈ TW := fun w h => nomatch h
set_option maxRecDepth 100000 in
theorem ok_X11_laysCounts : methOK CLS MT TSS M_X11_laysCounts := meth_ok (k := ck_X11_laysCounts) (kd := 1) hG_all prim_in inst_in cw_X11_laysCounts cb_X11_laysCounts (own6 (M_X11_laysCounts, 1) (List.mem_of_getElem? (i := 6) rfl)).1 (own6 (M_X11_laysCounts, 1) (List.mem_of_getElem? (i := 6) rfl)).2 (by decide +kernel) ch_X11_laysCounts (fun wd _ r hr => noThr_ok (by decide +kernel) wd TSS hr)
set_option maxRecDepth 100000 in
theorem cb_X11_isFit : (M_X11_isFit).rw.all (rowB CLS MT TSS KD M_X11_isFit (decide ((M_X11_isFit).nm.name = "<init>")) ck_X11_isFit) = true := by decide +kernel
set_option maxRecDepth 100000 in
theorem cw_X11_isFit : ∀ w ∈ ckW CLS MT (M_X11_isFit).nm.cls ck_X11_isFit, w ∈ TW := tw_in [(12, 202), (12, 226), (12, 231)] (by decide +kernel) (by decide +kernel)
set_option maxRecDepth 100000 in
theorem ch_X11_isFit : ∀ w ∈ hdW M_X11_isFit, w ∈ TW := fun w h => nomatch h
set_option maxRecDepth 100000 in
theorem ok_X11_isFit : methOK CLS MT TSS M_X11_isFit := meth_ok (k := ck_X11_isFit) (kd := 1) hG_all prim_in inst_in cw_X11_isFit cb_X11_isFit (own6 (M_X11_isFit, 1) (List.mem_of_getElem? (i := 7) rfl)).1 (own6 (M_X11_isFit, 1) (List.mem_of_getElem? (i := 7) rfl)).2 (by decide +kernel) ch_X11_isFit (fun wd _ r hr => noThr_ok (by decide +kernel) wd TSS hr)
set_option maxRecDepth 100000 in
theorem cb_X11_fits : (M_X11_fits).rw.all (rowB CLS MT TSS KD M_X11_fits (decide ((M_X11_fits).nm.name = "<init>")) ck_X11_fits) = true := by decide +kernel
set_option maxRecDepth 100000 in
theorem cw_X11_fits : ∀ w ∈ ckW CLS MT (M_X11_fits).nm.cls ck_X11_fits, w ∈ TW := tw_in [(12, 180), (12, 204), (14, 102), (13, 122), (14, 200), (14, 204)] (by decide +kernel) (by decide +kernel)
set_option maxRecDepth 100000 in
theorem ch_X11_fits : ∀ w ∈ hdW M_X11_fits, w ∈ TW := fun w h => nomatch h
set_option maxRecDepth 100000 in
theorem ok_X11_fits : methOK CLS MT TSS M_X11_fits := meth_ok (k := ck_X11_fits) (kd := 1) hG_all prim_in inst_in cw_X11_fits cb_X11_fits (own6 (M_X11_fits, 1) (List.mem_of_getElem? (i := 8) rfl)).1 (own6 (M_X11_fits, 1) (List.mem_of_getElem? (i := 8) rfl)).2 (by decide +kernel) ch_X11_fits (fun wd _ r hr => noThr_ok (by decide +kernel) wd TSS hr)
set_option maxRecDepth 100000 in
theorem cb_X11_look : (M_X11_look).rw.all (rowB CLS MT TSS KD M_X11_look (decide ((M_X11_look).nm.name = "<init>")) ck_X11_look) = true := by decide +kernel
set_option maxRecDepth 100000 in
theorem cw_X11_look : ∀ w ∈ ckW CLS MT (M_X11_look).nm.cls ck_X11_look, w ∈ TW := tw_in [(12, 180), (12, 202), (12, 226), (12, 204), (12, 231), (14, 102), (13, 122), (14, 200), (14, 204)] (by decide +kernel) (by decide +kernel)
set_option maxRecDepth 100000 in
theorem ch_X11_look : ∀ w ∈ hdW M_X11_look, w ∈ TW := fun w h => nomatch h
set_option maxRecDepth 100000 in
theorem ok_X11_look : methOK CLS MT TSS M_X11_look := meth_ok (k := ck_X11_look) (kd := 1) hG_all prim_in inst_in cw_X11_look cb_X11_look (own6 (M_X11_look, 1) (List.mem_of_getElem? (i := 9) rfl)).1 (own6 (M_X11_look, 1) (List.mem_of_getElem? (i := 9) rfl)).2 (by decide +kernel) ch_X11_look (fun wd _ r hr => noThr_ok (by decide +kernel) wd TSS hr)
set_option maxRecDepth 100000 in
theorem cb_X11_least : (M_X11_least).rw.all (rowB CLS MT TSS KD M_X11_least (decide ((M_X11_least).nm.name = "<init>")) ck_X11_least) = true := by decide +kernel
set_option maxRecDepth 100000 in
theorem cw_X11_least : ∀ w ∈ ckW CLS MT (M_X11_least).nm.cls ck_X11_least, w ∈ TW := tw_in [] (by decide +kernel) (by decide +kernel)
set_option maxRecDepth 100000 in
theorem ch_X11_least : ∀ w ∈ hdW M_X11_least, w ∈ TW := fun w h => nomatch h
set_option maxRecDepth 100000 in
theorem ok_X11_least : methOK CLS MT TSS M_X11_least := meth_ok (k := ck_X11_least) (kd := 0) hG_all prim_in inst_in cw_X11_least cb_X11_least (own6 (M_X11_least, 0) (List.mem_of_getElem? (i := 10) rfl)).1 (own6 (M_X11_least, 0) (List.mem_of_getElem? (i := 10) rfl)).2 (by decide +kernel) ch_X11_least (fun wd _ r hr => noThr_ok (by decide +kernel) wd TSS hr)
set_option maxRecDepth 100000 in
theorem cb_X11_kind : (M_X11_kind).rw.all (rowB CLS MT TSS KD M_X11_kind (decide ((M_X11_kind).nm.name = "<init>")) ck_X11_kind) = true := by decide +kernel
set_option maxRecDepth 100000 in
theorem cw_X11_kind : ∀ w ∈ ckW CLS MT (M_X11_kind).nm.cls ck_X11_kind, w ∈ TW := tw_in [(12, 180), (12, 232), (14, 102), (13, 122), (14, 217), (14, 216)] (by decide +kernel) (by decide +kernel)
set_option maxRecDepth 100000 in
theorem ch_X11_kind : ∀ w ∈ hdW M_X11_kind, w ∈ TW := fun w h => nomatch h
set_option maxRecDepth 100000 in
theorem ok_X11_kind : methOK CLS MT TSS M_X11_kind := meth_ok (k := ck_X11_kind) (kd := 1) hG_all prim_in inst_in cw_X11_kind cb_X11_kind (own6 (M_X11_kind, 1) (List.mem_of_getElem? (i := 11) rfl)).1 (own6 (M_X11_kind, 1) (List.mem_of_getElem? (i := 11) rfl)).2 (by decide +kernel) ch_X11_kind (fun wd _ r hr => noThr_ok (by decide +kernel) wd TSS hr)
set_option maxRecDepth 100000 in
theorem cb_X11_hasBy : (M_X11_hasBy).rw.all (rowB CLS MT TSS KD M_X11_hasBy (decide ((M_X11_hasBy).nm.name = "<init>")) ck_X11_hasBy) = true := by decide +kernel
set_option maxRecDepth 100000 in
theorem cw_X11_hasBy : ∀ w ∈ ckW CLS MT (M_X11_hasBy).nm.cls ck_X11_hasBy, w ∈ TW := tw_in [] (by decide +kernel) (by decide +kernel)
set_option maxRecDepth 100000 in
theorem ch_X11_hasBy : ∀ w ∈ hdW M_X11_hasBy, w ∈ TW := fun w h => nomatch h
set_option maxRecDepth 100000 in
theorem ok_X11_hasBy : methOK CLS MT TSS M_X11_hasBy := meth_ok (k := ck_X11_hasBy) (kd := 0) hG_all prim_in inst_in cw_X11_hasBy cb_X11_hasBy (own6 (M_X11_hasBy, 0) (List.mem_of_getElem? (i := 12) rfl)).1 (own6 (M_X11_hasBy, 0) (List.mem_of_getElem? (i := 12) rfl)).2 (by decide +kernel) ch_X11_hasBy (fun wd _ r hr => noThr_ok (by decide +kernel) wd TSS hr)
set_option maxRecDepth 100000 in
theorem cb_X11_order : (M_X11_order).rw.all (rowB CLS MT TSS KD M_X11_order (decide ((M_X11_order).nm.name = "<init>")) ck_X11_order) = true := by decide +kernel
set_option maxRecDepth 100000 in
theorem cw_X11_order : ∀ w ∈ ckW CLS MT (M_X11_order).nm.cls ck_X11_order, w ∈ TW := tw_in [(12, 180), (14, 102), (13, 122), (14, 224)] (by decide +kernel) (by decide +kernel)
set_option maxRecDepth 100000 in
theorem ch_X11_order : ∀ w ∈ hdW M_X11_order, w ∈ TW := fun w h => nomatch h
set_option maxRecDepth 100000 in
theorem ok_X11_order : methOK CLS MT TSS M_X11_order := meth_ok (k := ck_X11_order) (kd := 1) hG_all prim_in inst_in cw_X11_order cb_X11_order (own6 (M_X11_order, 1) (List.mem_of_getElem? (i := 13) rfl)).1 (own6 (M_X11_order, 1) (List.mem_of_getElem? (i := 13) rfl)).2 (by decide +kernel) ch_X11_order (fun wd _ r hr => noThr_ok (by decide +kernel) wd TSS hr)
set_option maxRecDepth 100000 in
theorem cb_X11_bounded : (M_X11_bounded).rw.all (rowB CLS MT TSS KD M_X11_bounded (decide ((M_X11_bounded).nm.name = "<init>")) ck_X11_bounded) = true := by decide +kernel
set_option maxRecDepth 100000 in
theorem cw_X11_bounded : ∀ w ∈ ckW CLS MT (M_X11_bounded).nm.cls ck_X11_bounded, w ∈ TW := tw_in [(12, 222)] (by decide +kernel) (by decide +kernel)
set_option maxRecDepth 100000 in
theorem ch_X11_bounded : ∀ w ∈ hdW M_X11_bounded, w ∈ TW := fun w h => nomatch h
set_option maxRecDepth 100000 in
theorem ok_X11_bounded : methOK CLS MT TSS M_X11_bounded := meth_ok (k := ck_X11_bounded) (kd := 1) hG_all prim_in inst_in cw_X11_bounded cb_X11_bounded (own6 (M_X11_bounded, 1) (List.mem_of_getElem? (i := 14) rfl)).1 (own6 (M_X11_bounded, 1) (List.mem_of_getElem? (i := 14) rfl)).2 (by decide +kernel) ch_X11_bounded (fun wd _ r hr => noThr_ok (by decide +kernel) wd TSS hr)
set_option maxRecDepth 100000 in
theorem cb_X11_loafBy : (M_X11_loafBy).rw.all (rowB CLS MT TSS KD M_X11_loafBy (decide ((M_X11_loafBy).nm.name = "<init>")) ck_X11_loafBy) = true := by decide +kernel
set_option maxRecDepth 100000 in
theorem cw_X11_loafBy : ∀ w ∈ ckW CLS MT (M_X11_loafBy).nm.cls ck_X11_loafBy, w ∈ TW := tw_in [(12, 205), (14, 239)] (by decide +kernel) (by decide +kernel)
set_option maxRecDepth 100000 in
theorem ch_X11_loafBy : ∀ w ∈ hdW M_X11_loafBy, w ∈ TW := fun w h => nomatch h
set_option maxRecDepth 100000 in
theorem ok_X11_loafBy : methOK CLS MT TSS M_X11_loafBy := meth_ok (k := ck_X11_loafBy) (kd := 1) hG_all prim_in inst_in cw_X11_loafBy cb_X11_loafBy (own6 (M_X11_loafBy, 1) (List.mem_of_getElem? (i := 15) rfl)).1 (own6 (M_X11_loafBy, 1) (List.mem_of_getElem? (i := 15) rfl)).2 (by decide +kernel) ch_X11_loafBy (fun wd _ r hr => noThr_ok (by decide +kernel) wd TSS hr)
set_option maxRecDepth 100000 in
theorem cb_X11_isSome : (M_X11_isSome).rw.all (rowB CLS MT TSS KD M_X11_isSome (decide ((M_X11_isSome).nm.name = "<init>")) ck_X11_isSome) = true := by decide +kernel
set_option maxRecDepth 100000 in
theorem cw_X11_isSome : ∀ w ∈ ckW CLS MT (M_X11_isSome).nm.cls ck_X11_isSome, w ∈ TW := tw_in [(12, 205)] (by decide +kernel) (by decide +kernel)
set_option maxRecDepth 100000 in
theorem ch_X11_isSome : ∀ w ∈ hdW M_X11_isSome, w ∈ TW := fun w h => nomatch h
set_option maxRecDepth 100000 in
theorem ok_X11_isSome : methOK CLS MT TSS M_X11_isSome := meth_ok (k := ck_X11_isSome) (kd := 1) hG_all prim_in inst_in cw_X11_isSome cb_X11_isSome (own6 (M_X11_isSome, 1) (List.mem_of_getElem? (i := 16) rfl)).1 (own6 (M_X11_isSome, 1) (List.mem_of_getElem? (i := 16) rfl)).2 (by decide +kernel) ch_X11_isSome (fun wd _ r hr => noThr_ok (by decide +kernel) wd TSS hr)
set_option maxRecDepth 100000 in
theorem cb_X11_loaf : (M_X11_loaf).rw.all (rowB CLS MT TSS KD M_X11_loaf (decide ((M_X11_loaf).nm.name = "<init>")) ck_X11_loaf) = true := by decide +kernel
set_option maxRecDepth 100000 in
theorem cw_X11_loaf : ∀ w ∈ ckW CLS MT (M_X11_loaf).nm.cls ck_X11_loaf, w ∈ TW := tw_in [(12, 180), (14, 157), (14, 231), (14, 102), (13, 122), (14, 235), (14, 239)] (by decide +kernel) (by decide +kernel)
set_option maxRecDepth 100000 in
theorem ch_X11_loaf : ∀ w ∈ hdW M_X11_loaf, w ∈ TW := fun w h => nomatch h
set_option maxRecDepth 100000 in
theorem ok_X11_loaf : methOK CLS MT TSS M_X11_loaf := meth_ok (k := ck_X11_loaf) (kd := 1) hG_all prim_in inst_in cw_X11_loaf cb_X11_loaf (own6 (M_X11_loaf, 1) (List.mem_of_getElem? (i := 17) rfl)).1 (own6 (M_X11_loaf, 1) (List.mem_of_getElem? (i := 17) rfl)).2 (by decide +kernel) ch_X11_loaf (fun wd _ r hr => noThr_ok (by decide +kernel) wd TSS hr)
set_option maxRecDepth 100000 in
theorem cb_X11_heaviestOf : (M_X11_heaviestOf).rw.all (rowB CLS MT TSS KD M_X11_heaviestOf (decide ((M_X11_heaviestOf).nm.name = "<init>")) ck_X11_heaviestOf) = true := by decide +kernel
set_option maxRecDepth 100000 in
theorem cw_X11_heaviestOf : ∀ w ∈ ckW CLS MT (M_X11_heaviestOf).nm.cls ck_X11_heaviestOf, w ∈ TW := tw_in [(12, 202), (12, 194)] (by decide +kernel) (by decide +kernel)
set_option maxRecDepth 100000 in
theorem ch_X11_heaviestOf : ∀ w ∈ hdW M_X11_heaviestOf, w ∈ TW := fun w h => nomatch h
set_option maxRecDepth 100000 in
theorem ok_X11_heaviestOf : methOK CLS MT TSS M_X11_heaviestOf := meth_ok (k := ck_X11_heaviestOf) (kd := 1) hG_all prim_in inst_in cw_X11_heaviestOf cb_X11_heaviestOf (own6 (M_X11_heaviestOf, 1) (List.mem_of_getElem? (i := 18) rfl)).1 (own6 (M_X11_heaviestOf, 1) (List.mem_of_getElem? (i := 18) rfl)).2 (by decide +kernel) ch_X11_heaviestOf (fun wd _ r hr => noThr_ok (by decide +kernel) wd TSS hr)
set_option maxRecDepth 100000 in
theorem cb_X11_heaviest : (M_X11_heaviest).rw.all (rowB CLS MT TSS KD M_X11_heaviest (decide ((M_X11_heaviest).nm.name = "<init>")) ck_X11_heaviest) = true := by decide +kernel
set_option maxRecDepth 100000 in
theorem cw_X11_heaviest : ∀ w ∈ ckW CLS MT (M_X11_heaviest).nm.cls ck_X11_heaviest, w ∈ TW := tw_in [(12, 194), (15, 11)] (by decide +kernel) (by decide +kernel)
set_option maxRecDepth 100000 in
theorem ch_X11_heaviest : ∀ w ∈ hdW M_X11_heaviest, w ∈ TW := fun w h => nomatch h
set_option maxRecDepth 100000 in
theorem ok_X11_heaviest : methOK CLS MT TSS M_X11_heaviest := meth_ok (k := ck_X11_heaviest) (kd := 1) hG_all prim_in inst_in cw_X11_heaviest cb_X11_heaviest (own6 (M_X11_heaviest, 1) (List.mem_of_getElem? (i := 19) rfl)).1 (own6 (M_X11_heaviest, 1) (List.mem_of_getElem? (i := 19) rfl)).2 (by decide +kernel) ch_X11_heaviest (fun wd _ r hr => noThr_ok (by decide +kernel) wd TSS hr)
set_option maxRecDepth 100000 in
theorem cb_X11_loss : (M_X11_loss).rw.all (rowB CLS MT TSS KD M_X11_loss (decide ((M_X11_loss).nm.name = "<init>")) ck_X11_loss) = true := by decide +kernel
set_option maxRecDepth 100000 in
theorem cw_X11_loss : ∀ w ∈ ckW CLS MT (M_X11_loss).nm.cls ck_X11_loss, w ∈ TW := tw_in [(12, 180), (12, 202), (14, 102), (13, 122), (14, 20), (14, 55), (15, 7)] (by decide +kernel) (by decide +kernel)
set_option maxRecDepth 100000 in
theorem ch_X11_loss : ∀ w ∈ hdW M_X11_loss, w ∈ TW := fun w h => nomatch h
set_option maxRecDepth 100000 in
theorem ok_X11_loss : methOK CLS MT TSS M_X11_loss := meth_ok (k := ck_X11_loss) (kd := 1) hG_all prim_in inst_in cw_X11_loss cb_X11_loss (own6 (M_X11_loss, 1) (List.mem_of_getElem? (i := 20) rfl)).1 (own6 (M_X11_loss, 1) (List.mem_of_getElem? (i := 20) rfl)).2 (by decide +kernel) ch_X11_loss (fun wd _ r hr => noThr_ok (by decide +kernel) wd TSS hr)
set_option maxRecDepth 100000 in
theorem cb_X11_next : (M_X11_next).rw.all (rowB CLS MT TSS KD M_X11_next (decide ((M_X11_next).nm.name = "<init>")) ck_X11_next) = true := by decide +kernel
set_option maxRecDepth 100000 in
theorem cw_X11_next : ∀ w ∈ ckW CLS MT (M_X11_next).nm.cls ck_X11_next, w ∈ TW := tw_in [(12, 180), (12, 202), (12, 222), (14, 102), (13, 122)] (by decide +kernel) (by decide +kernel)
set_option maxRecDepth 100000 in
theorem ch_X11_next : ∀ w ∈ hdW M_X11_next, w ∈ TW := fun w h => nomatch h
set_option maxRecDepth 100000 in
theorem ok_X11_next : methOK CLS MT TSS M_X11_next := meth_ok (k := ck_X11_next) (kd := 1) hG_all prim_in inst_in cw_X11_next cb_X11_next (own6 (M_X11_next, 1) (List.mem_of_getElem? (i := 21) rfl)).1 (own6 (M_X11_next, 1) (List.mem_of_getElem? (i := 21) rfl)).2 (by decide +kernel) ch_X11_next (fun wd _ r hr => noThr_ok (by decide +kernel) wd TSS hr)
set_option maxRecDepth 100000 in
theorem cb_X11_side : (M_X11_side).rw.all (rowB CLS MT TSS KD M_X11_side (decide ((M_X11_side).nm.name = "<init>")) ck_X11_side) = true := by decide +kernel
set_option maxRecDepth 100000 in
theorem cw_X11_side : ∀ w ∈ ckW CLS MT (M_X11_side).nm.cls ck_X11_side, w ∈ TW := tw_in [(12, 180), (12, 223), (12, 202), (14, 102), (13, 122), (14, 20), (14, 105), (14, 117), (14, 133)] (by decide +kernel) (by decide +kernel)
set_option maxRecDepth 100000 in
theorem ch_X11_side : ∀ w ∈ hdW M_X11_side, w ∈ TW := fun w h => nomatch h
set_option maxRecDepth 100000 in
theorem ok_X11_side : methOK CLS MT TSS M_X11_side := meth_ok (k := ck_X11_side) (kd := 1) hG_all prim_in inst_in cw_X11_side cb_X11_side (own6 (M_X11_side, 1) (List.mem_of_getElem? (i := 22) rfl)).1 (own6 (M_X11_side, 1) (List.mem_of_getElem? (i := 22) rfl)).2 (by decide +kernel) ch_X11_side (fun wd _ r hr => noThr_ok (by decide +kernel) wd TSS hr)
set_option maxRecDepth 100000 in
theorem cb_X11_leaders : (M_X11_leaders).rw.all (rowB CLS MT TSS KD M_X11_leaders (decide ((M_X11_leaders).nm.name = "<init>")) ck_X11_leaders) = true := by decide +kernel
set_option maxRecDepth 100000 in
theorem cw_X11_leaders : ∀ w ∈ ckW CLS MT (M_X11_leaders).nm.cls ck_X11_leaders, w ∈ TW := tw_in [(12, 180), (12, 205), (14, 149), (14, 102), (13, 122), (14, 20), (14, 40)] (by decide +kernel) (by decide +kernel)
set_option maxRecDepth 100000 in
theorem ch_X11_leaders : ∀ w ∈ hdW M_X11_leaders, w ∈ TW := fun w h => nomatch h
set_option maxRecDepth 100000 in
theorem ok_X11_leaders : methOK CLS MT TSS M_X11_leaders := meth_ok (k := ck_X11_leaders) (kd := 1) hG_all prim_in inst_in cw_X11_leaders cb_X11_leaders (own6 (M_X11_leaders, 1) (List.mem_of_getElem? (i := 23) rfl)).1 (own6 (M_X11_leaders, 1) (List.mem_of_getElem? (i := 23) rfl)).2 (by decide +kernel) ch_X11_leaders (fun wd _ r hr => noThr_ok (by decide +kernel) wd TSS hr)
set_option maxRecDepth 100000 in
theorem cb_X11_used : (M_X11_used).rw.all (rowB CLS MT TSS KD M_X11_used (decide ((M_X11_used).nm.name = "<init>")) ck_X11_used) = true := by decide +kernel
set_option maxRecDepth 100000 in
theorem cw_X11_used : ∀ w ∈ ckW CLS MT (M_X11_used).nm.cls ck_X11_used, w ∈ TW := tw_in [(12, 180), (12, 223), (12, 203), (12, 195), (14, 20), (14, 105), (14, 113)] (by decide +kernel) (by decide +kernel)
set_option maxRecDepth 100000 in
theorem ch_X11_used : ∀ w ∈ hdW M_X11_used, w ∈ TW := fun w h => nomatch h
set_option maxRecDepth 100000 in
theorem ok_X11_used : methOK CLS MT TSS M_X11_used := meth_ok (k := ck_X11_used) (kd := 1) hG_all prim_in inst_in cw_X11_used cb_X11_used (own6 (M_X11_used, 1) (List.mem_of_getElem? (i := 24) rfl)).1 (own6 (M_X11_used, 1) (List.mem_of_getElem? (i := 24) rfl)).2 (by decide +kernel) ch_X11_used (fun wd _ r hr => noThr_ok (by decide +kernel) wd TSS hr)
set_option maxRecDepth 100000 in
theorem cb_X11_over : (M_X11_over).rw.all (rowB CLS MT TSS KD M_X11_over (decide ((M_X11_over).nm.name = "<init>")) ck_X11_over) = true := by decide +kernel
set_option maxRecDepth 100000 in
theorem cw_X11_over : ∀ w ∈ ckW CLS MT (M_X11_over).nm.cls ck_X11_over, w ∈ TW := tw_in [(12, 180), (14, 149), (14, 20), (14, 59)] (by decide +kernel) (by decide +kernel)
set_option maxRecDepth 100000 in
theorem ch_X11_over : ∀ w ∈ hdW M_X11_over, w ∈ TW := fun w h => nomatch h
set_option maxRecDepth 100000 in
theorem ok_X11_over : methOK CLS MT TSS M_X11_over := meth_ok (k := ck_X11_over) (kd := 1) hG_all prim_in inst_in cw_X11_over cb_X11_over (own6 (M_X11_over, 1) (List.mem_of_getElem? (i := 25) rfl)).1 (own6 (M_X11_over, 1) (List.mem_of_getElem? (i := 25) rfl)).2 (by decide +kernel) ch_X11_over (fun wd _ r hr => noThr_ok (by decide +kernel) wd TSS hr)
set_option maxRecDepth 100000 in
theorem cb_X11_delay : (M_X11_delay).rw.all (rowB CLS MT TSS KD M_X11_delay (decide ((M_X11_delay).nm.name = "<init>")) ck_X11_delay) = true := by decide +kernel
set_option maxRecDepth 100000 in
theorem cw_X11_delay : ∀ w ∈ ckW CLS MT (M_X11_delay).nm.cls ck_X11_delay, w ∈ TW := tw_in [(12, 180), (12, 223), (14, 141), (14, 20), (14, 44), (14, 121)] (by decide +kernel) (by decide +kernel)
set_option maxRecDepth 100000 in
theorem ch_X11_delay : ∀ w ∈ hdW M_X11_delay, w ∈ TW := fun w h => nomatch h
set_option maxRecDepth 100000 in
theorem ok_X11_delay : methOK CLS MT TSS M_X11_delay := meth_ok (k := ck_X11_delay) (kd := 1) hG_all prim_in inst_in cw_X11_delay cb_X11_delay (own6 (M_X11_delay, 1) (List.mem_of_getElem? (i := 26) rfl)).1 (own6 (M_X11_delay, 1) (List.mem_of_getElem? (i := 26) rfl)).2 (by decide +kernel) ch_X11_delay (fun wd _ r hr => noThr_ok (by decide +kernel) wd TSS hr)
set_option maxRecDepth 100000 in
theorem cb_X11_point : (M_X11_point).rw.all (rowB CLS MT TSS KD M_X11_point (decide ((M_X11_point).nm.name = "<init>")) ck_X11_point) = true := by decide +kernel
set_option maxRecDepth 100000 in
theorem cw_X11_point : ∀ w ∈ ckW CLS MT (M_X11_point).nm.cls ck_X11_point, w ∈ TW := tw_in [(12, 180), (12, 223), (12, 202), (12, 194), (14, 102), (13, 122), (14, 20), (14, 105), (15, 7)] (by decide +kernel) (by decide +kernel)
set_option maxRecDepth 100000 in
theorem ch_X11_point : ∀ w ∈ hdW M_X11_point, w ∈ TW := fun w h => nomatch h
set_option maxRecDepth 100000 in
theorem ok_X11_point : methOK CLS MT TSS M_X11_point := meth_ok (k := ck_X11_point) (kd := 1) hG_all prim_in inst_in cw_X11_point cb_X11_point (own6 (M_X11_point, 1) (List.mem_of_getElem? (i := 27) rfl)).1 (own6 (M_X11_point, 1) (List.mem_of_getElem? (i := 27) rfl)).2 (by decide +kernel) ch_X11_point (fun wd _ r hr => noThr_ok (by decide +kernel) wd TSS hr)
set_option maxRecDepth 100000 in
theorem cb_X11_purse : (M_X11_purse).rw.all (rowB CLS MT TSS KD M_X11_purse (decide ((M_X11_purse).nm.name = "<init>")) ck_X11_purse) = true := by decide +kernel
set_option maxRecDepth 100000 in
theorem cw_X11_purse : ∀ w ∈ ckW CLS MT (M_X11_purse).nm.cls ck_X11_purse, w ∈ TW := tw_in [(12, 180), (14, 231), (13, 122), (14, 235)] (by decide +kernel) (by decide +kernel)
set_option maxRecDepth 100000 in
theorem ch_X11_purse : ∀ w ∈ hdW M_X11_purse, w ∈ TW := fun w h => nomatch h
set_option maxRecDepth 100000 in
theorem ok_X11_purse : methOK CLS MT TSS M_X11_purse := meth_ok (k := ck_X11_purse) (kd := 1) hG_all prim_in inst_in cw_X11_purse cb_X11_purse (own6 (M_X11_purse, 1) (List.mem_of_getElem? (i := 28) rfl)).1 (own6 (M_X11_purse, 1) (List.mem_of_getElem? (i := 28) rfl)).2 (by decide +kernel) ch_X11_purse (fun wd _ r hr => noThr_ok (by decide +kernel) wd TSS hr)
set_option maxRecDepth 100000 in
theorem cb_X11_lastOf : (M_X11_lastOf).rw.all (rowB CLS MT TSS KD M_X11_lastOf (decide ((M_X11_lastOf).nm.name = "<init>")) ck_X11_lastOf) = true := by decide +kernel
set_option maxRecDepth 100000 in
theorem cw_X11_lastOf : ∀ w ∈ ckW CLS MT (M_X11_lastOf).nm.cls ck_X11_lastOf, w ∈ TW := tw_in [(12, 223), (14, 67)] (by decide +kernel) (by decide +kernel)
set_option maxRecDepth 100000 in
theorem ch_X11_lastOf : ∀ w ∈ hdW M_X11_lastOf, w ∈ TW := fun w h => nomatch h
set_option maxRecDepth 100000 in
theorem ok_X11_lastOf : methOK CLS MT TSS M_X11_lastOf := meth_ok (k := ck_X11_lastOf) (kd := 1) hG_all prim_in inst_in cw_X11_lastOf cb_X11_lastOf (own6 (M_X11_lastOf, 1) (List.mem_of_getElem? (i := 29) rfl)).1 (own6 (M_X11_lastOf, 1) (List.mem_of_getElem? (i := 29) rfl)).2 (by decide +kernel) ch_X11_lastOf (fun wd _ r hr => noThr_ok (by decide +kernel) wd TSS hr)
set_option maxRecDepth 100000 in
theorem cb_X11_pairs : (M_X11_pairs).rw.all (rowB CLS MT TSS KD M_X11_pairs (decide ((M_X11_pairs).nm.name = "<init>")) ck_X11_pairs) = true := by decide +kernel
set_option maxRecDepth 100000 in
theorem cw_X11_pairs : ∀ w ∈ ckW CLS MT (M_X11_pairs).nm.cls ck_X11_pairs, w ∈ TW := tw_in [(12, 180), (12, 204), (12, 223), (14, 20), (15, 51)] (by decide +kernel) (by decide +kernel)
set_option maxRecDepth 100000 in
theorem ch_X11_pairs : ∀ w ∈ hdW M_X11_pairs, w ∈ TW := fun w h => nomatch h
set_option maxRecDepth 100000 in
theorem ok_X11_pairs : methOK CLS MT TSS M_X11_pairs := meth_ok (k := ck_X11_pairs) (kd := 1) hG_all prim_in inst_in cw_X11_pairs cb_X11_pairs (own6 (M_X11_pairs, 1) (List.mem_of_getElem? (i := 30) rfl)).1 (own6 (M_X11_pairs, 1) (List.mem_of_getElem? (i := 30) rfl)).2 (by decide +kernel) ch_X11_pairs (fun wd _ r hr => noThr_ok (by decide +kernel) wd TSS hr)
set_option maxRecDepth 100000 in
theorem cb_X11_crowd : (M_X11_crowd).rw.all (rowB CLS MT TSS KD M_X11_crowd (decide ((M_X11_crowd).nm.name = "<init>")) ck_X11_crowd) = true := by decide +kernel
set_option maxRecDepth 100000 in
theorem cw_X11_crowd : ∀ w ∈ ckW CLS MT (M_X11_crowd).nm.cls ck_X11_crowd, w ∈ TW := tw_in [(12, 180), (12, 204), (12, 223), (14, 102), (13, 122), (14, 20), (14, 121), (14, 189)] (by decide +kernel) (by decide +kernel)
set_option maxRecDepth 100000 in
theorem ch_X11_crowd : ∀ w ∈ hdW M_X11_crowd, w ∈ TW := fun w h => nomatch h
set_option maxRecDepth 100000 in
theorem ok_X11_crowd : methOK CLS MT TSS M_X11_crowd := meth_ok (k := ck_X11_crowd) (kd := 1) hG_all prim_in inst_in cw_X11_crowd cb_X11_crowd (own6 (M_X11_crowd, 1) (List.mem_of_getElem? (i := 31) rfl)).1 (own6 (M_X11_crowd, 1) (List.mem_of_getElem? (i := 31) rfl)).2 (by decide +kernel) ch_X11_crowd (fun wd _ r hr => noThr_ok (by decide +kernel) wd TSS hr)
set_option maxRecDepth 100000 in
theorem cb_X11_swing : (M_X11_swing).rw.all (rowB CLS MT TSS KD M_X11_swing (decide ((M_X11_swing).nm.name = "<init>")) ck_X11_swing) = true := by decide +kernel
set_option maxRecDepth 100000 in
theorem cw_X11_swing : ∀ w ∈ ckW CLS MT (M_X11_swing).nm.cls ck_X11_swing, w ∈ TW := tw_in [(12, 180), (12, 223), (14, 141), (14, 20), (14, 105), (14, 129)] (by decide +kernel) (by decide +kernel)
set_option maxRecDepth 100000 in
theorem ch_X11_swing : ∀ w ∈ hdW M_X11_swing, w ∈ TW := fun w h => nomatch h
set_option maxRecDepth 100000 in
theorem ok_X11_swing : methOK CLS MT TSS M_X11_swing := meth_ok (k := ck_X11_swing) (kd := 1) hG_all prim_in inst_in cw_X11_swing cb_X11_swing (own6 (M_X11_swing, 1) (List.mem_of_getElem? (i := 32) rfl)).1 (own6 (M_X11_swing, 1) (List.mem_of_getElem? (i := 32) rfl)).2 (by decide +kernel) ch_X11_swing (fun wd _ r hr => noThr_ok (by decide +kernel) wd TSS hr)
set_option maxRecDepth 100000 in
theorem cb_X11_when : (M_X11_when).rw.all (rowB CLS MT TSS KD M_X11_when (decide ((M_X11_when).nm.name = "<init>")) ck_X11_when) = true := by decide +kernel
set_option maxRecDepth 100000 in
theorem cw_X11_when : ∀ w ∈ ckW CLS MT (M_X11_when).nm.cls ck_X11_when, w ∈ TW := tw_in [(12, 180), (12, 202), (12, 223), (14, 102), (13, 122), (14, 20)] (by decide +kernel) (by decide +kernel)
set_option maxRecDepth 100000 in
theorem ch_X11_when : ∀ w ∈ hdW M_X11_when, w ∈ TW := fun w h => nomatch h
set_option maxRecDepth 100000 in
theorem ok_X11_when : methOK CLS MT TSS M_X11_when := meth_ok (k := ck_X11_when) (kd := 1) hG_all prim_in inst_in cw_X11_when cb_X11_when (own6 (M_X11_when, 1) (List.mem_of_getElem? (i := 33) rfl)).1 (own6 (M_X11_when, 1) (List.mem_of_getElem? (i := 33) rfl)).2 (by decide +kernel) ch_X11_when (fun wd _ r hr => noThr_ok (by decide +kernel) wd TSS hr)
set_option maxRecDepth 100000 in
theorem cb_X11_draws : (M_X11_draws).rw.all (rowB CLS MT TSS KD M_X11_draws (decide ((M_X11_draws).nm.name = "<init>")) ck_X11_draws) = true := by decide +kernel
set_option maxRecDepth 100000 in
theorem cw_X11_draws : ∀ w ∈ ckW CLS MT (M_X11_draws).nm.cls ck_X11_draws, w ∈ TW := tw_in [(12, 233), (15, 82)] (by decide +kernel) (by decide +kernel)
set_option maxRecDepth 100000 in
theorem ch_X11_draws : ∀ w ∈ hdW M_X11_draws, w ∈ TW := fun w h => nomatch h
set_option maxRecDepth 100000 in
theorem ok_X11_draws : methOK CLS MT TSS M_X11_draws := meth_ok (k := ck_X11_draws) (kd := 1) hG_all prim_in inst_in cw_X11_draws cb_X11_draws (own6 (M_X11_draws, 1) (List.mem_of_getElem? (i := 34) rfl)).1 (own6 (M_X11_draws, 1) (List.mem_of_getElem? (i := 34) rfl)).2 (by decide +kernel) ch_X11_draws (fun wd _ r hr => noThr_ok (by decide +kernel) wd TSS hr)
set_option maxRecDepth 100000 in
theorem cb_X11_termGoes : (M_X11_termGoes).rw.all (rowB CLS MT TSS KD M_X11_termGoes (decide ((M_X11_termGoes).nm.name = "<init>")) ck_X11_termGoes) = true := by decide +kernel
set_option maxRecDepth 100000 in
theorem cw_X11_termGoes : ∀ w ∈ ckW CLS MT (M_X11_termGoes).nm.cls ck_X11_termGoes, w ∈ TW := tw_in [(12, 233), (12, 205), (12, 204), (12, 202), (12, 223), (14, 20), (15, 78), (14, 36), (14, 32), (14, 51)] (by decide +kernel) (by decide +kernel)
set_option maxRecDepth 100000 in
theorem ch_X11_termGoes : ∀ w ∈ hdW M_X11_termGoes, w ∈ TW := fun w h => nomatch h
set_option maxRecDepth 100000 in
theorem ok_X11_termGoes : methOK CLS MT TSS M_X11_termGoes := meth_ok (k := ck_X11_termGoes) (kd := 1) hG_all prim_in inst_in cw_X11_termGoes cb_X11_termGoes (own6 (M_X11_termGoes, 1) (List.mem_of_getElem? (i := 35) rfl)).1 (own6 (M_X11_termGoes, 1) (List.mem_of_getElem? (i := 35) rfl)).2 (by decide +kernel) ch_X11_termGoes (fun wd _ r hr => noThr_ok (by decide +kernel) wd TSS hr)
set_option maxRecDepth 100000 in
theorem cb_X11_isTerm : (M_X11_isTerm).rw.all (rowB CLS MT TSS KD M_X11_isTerm (decide ((M_X11_isTerm).nm.name = "<init>")) ck_X11_isTerm) = true := by decide +kernel
set_option maxRecDepth 100000 in
theorem cw_X11_isTerm : ∀ w ∈ ckW CLS MT (M_X11_isTerm).nm.cls ck_X11_isTerm, w ∈ TW := tw_in [] (by decide +kernel) (by decide +kernel)
set_option maxRecDepth 100000 in
theorem ch_X11_isTerm : ∀ w ∈ hdW M_X11_isTerm, w ∈ TW := fun w h => nomatch h
set_option maxRecDepth 100000 in
theorem ok_X11_isTerm : methOK CLS MT TSS M_X11_isTerm := meth_ok (k := ck_X11_isTerm) (kd := 0) hG_all prim_in inst_in cw_X11_isTerm cb_X11_isTerm (own6 (M_X11_isTerm, 0) (List.mem_of_getElem? (i := 36) rfl)).1 (own6 (M_X11_isTerm, 0) (List.mem_of_getElem? (i := 36) rfl)).2 (by decide +kernel) ch_X11_isTerm (fun wd _ r hr => noThr_ok (by decide +kernel) wd TSS hr)
set_option maxRecDepth 100000 in
theorem cb_X11_term : (M_X11_term).rw.all (rowB CLS MT TSS KD M_X11_term (decide ((M_X11_term).nm.name = "<init>")) ck_X11_term) = true := by decide +kernel
set_option maxRecDepth 100000 in
theorem cw_X11_term : ∀ w ∈ ckW CLS MT (M_X11_term).nm.cls ck_X11_term, w ∈ TW := tw_in [(12, 180), (12, 223), (12, 205), (15, 71), (14, 102), (13, 122), (15, 74), (14, 55), (14, 105), (14, 129), (14, 117), (14, 71)] (by decide +kernel) (by decide +kernel)
set_option maxRecDepth 100000 in
theorem ch_X11_term : ∀ w ∈ hdW M_X11_term, w ∈ TW := fun w h => nomatch h
set_option maxRecDepth 100000 in
theorem ok_X11_term : methOK CLS MT TSS M_X11_term := meth_ok (k := ck_X11_term) (kd := 1) hG_all prim_in inst_in cw_X11_term cb_X11_term (own6 (M_X11_term, 1) (List.mem_of_getElem? (i := 37) rfl)).1 (own6 (M_X11_term, 1) (List.mem_of_getElem? (i := 37) rfl)).2 (by decide +kernel) ch_X11_term (fun wd _ r hr => noThr_ok (by decide +kernel) wd TSS hr)
set_option maxRecDepth 100000 in
theorem cb_X11_span : (M_X11_span).rw.all (rowB CLS MT TSS KD M_X11_span (decide ((M_X11_span).nm.name = "<init>")) ck_X11_span) = true := by decide +kernel
set_option maxRecDepth 100000 in
theorem cw_X11_span : ∀ w ∈ ckW CLS MT (M_X11_span).nm.cls ck_X11_span, w ∈ TW := tw_in [(12, 180), (12, 202), (12, 223), (14, 102), (15, 71), (13, 122), (15, 74), (14, 105), (14, 129), (14, 55)] (by decide +kernel) (by decide +kernel)
set_option maxRecDepth 100000 in
theorem ch_X11_span : ∀ w ∈ hdW M_X11_span, w ∈ TW := fun w h => nomatch h
set_option maxRecDepth 100000 in
theorem ok_X11_span : methOK CLS MT TSS M_X11_span := meth_ok (k := ck_X11_span) (kd := 1) hG_all prim_in inst_in cw_X11_span cb_X11_span (own6 (M_X11_span, 1) (List.mem_of_getElem? (i := 38) rfl)).1 (own6 (M_X11_span, 1) (List.mem_of_getElem? (i := 38) rfl)).2 (by decide +kernel) ch_X11_span (fun wd _ r hr => noThr_ok (by decide +kernel) wd TSS hr)
set_option maxRecDepth 100000 in
theorem cb_X11_keepsRow : (M_X11_keepsRow).rw.all (rowB CLS MT TSS KD M_X11_keepsRow (decide ((M_X11_keepsRow).nm.name = "<init>")) ck_X11_keepsRow) = true := by decide +kernel
set_option maxRecDepth 100000 in
theorem cw_X11_keepsRow : ∀ w ∈ ckW CLS MT (M_X11_keepsRow).nm.cls ck_X11_keepsRow, w ∈ TW := tw_in [(12, 234)] (by decide +kernel) (by decide +kernel)
set_option maxRecDepth 100000 in
theorem ch_X11_keepsRow : ∀ w ∈ hdW M_X11_keepsRow, w ∈ TW := fun w h => nomatch h
set_option maxRecDepth 100000 in
theorem ok_X11_keepsRow : methOK CLS MT TSS M_X11_keepsRow := meth_ok (k := ck_X11_keepsRow) (kd := 1) hG_all prim_in inst_in cw_X11_keepsRow cb_X11_keepsRow (own6 (M_X11_keepsRow, 1) (List.mem_of_getElem? (i := 39) rfl)).1 (own6 (M_X11_keepsRow, 1) (List.mem_of_getElem? (i := 39) rfl)).2 (by decide +kernel) ch_X11_keepsRow (fun wd _ r hr => noThr_ok (by decide +kernel) wd TSS hr)
set_option maxRecDepth 100000 in
theorem cb_X11_keepsAll : (M_X11_keepsAll).rw.all (rowB CLS MT TSS KD M_X11_keepsAll (decide ((M_X11_keepsAll).nm.name = "<init>")) ck_X11_keepsAll) = true := by decide +kernel
set_option maxRecDepth 100000 in
theorem cw_X11_keepsAll : ∀ w ∈ ckW CLS MT (M_X11_keepsAll).nm.cls ck_X11_keepsAll, w ∈ TW := tw_in [(12, 222), (12, 224), (12, 234), (12, 217), (15, 95)] (by decide +kernel) (by decide +kernel)
set_option maxRecDepth 100000 in
theorem ch_X11_keepsAll : ∀ w ∈ hdW M_X11_keepsAll, w ∈ TW := fun w h => nomatch h
set_option maxRecDepth 100000 in
theorem ok_X11_keepsAll : methOK CLS MT TSS M_X11_keepsAll := meth_ok (k := ck_X11_keepsAll) (kd := 1) hG_all prim_in inst_in cw_X11_keepsAll cb_X11_keepsAll (own6 (M_X11_keepsAll, 1) (List.mem_of_getElem? (i := 40) rfl)).1 (own6 (M_X11_keepsAll, 1) (List.mem_of_getElem? (i := 40) rfl)).2 (by decide +kernel) ch_X11_keepsAll (fun wd _ r hr => noThr_ok (by decide +kernel) wd TSS hr)
set_option maxRecDepth 100000 in
theorem okc6 : ∀ q ∈ MTK6, methOK CLS MT TSS q.1 := List.forall_mem_cons.mpr ⟨ok_X11_clear, List.forall_mem_cons.mpr ⟨ok_X11_isHidden, List.forall_mem_cons.mpr ⟨ok_X11_hide, List.forall_mem_cons.mpr ⟨ok_X11_follows, List.forall_mem_cons.mpr ⟨ok_X11_proof, List.forall_mem_cons.mpr ⟨ok_X11_turn, List.forall_mem_cons.mpr ⟨ok_X11_laysCounts, List.forall_mem_cons.mpr ⟨ok_X11_isFit, List.forall_mem_cons.mpr ⟨ok_X11_fits, List.forall_mem_cons.mpr ⟨ok_X11_look, List.forall_mem_cons.mpr ⟨ok_X11_least, List.forall_mem_cons.mpr ⟨ok_X11_kind, List.forall_mem_cons.mpr ⟨ok_X11_hasBy, List.forall_mem_cons.mpr ⟨ok_X11_order, List.forall_mem_cons.mpr ⟨ok_X11_bounded, List.forall_mem_cons.mpr ⟨ok_X11_loafBy, List.forall_mem_cons.mpr ⟨ok_X11_isSome, List.forall_mem_cons.mpr ⟨ok_X11_loaf, List.forall_mem_cons.mpr ⟨ok_X11_heaviestOf, List.forall_mem_cons.mpr ⟨ok_X11_heaviest, List.forall_mem_cons.mpr ⟨ok_X11_loss, List.forall_mem_cons.mpr ⟨ok_X11_next, List.forall_mem_cons.mpr ⟨ok_X11_side, List.forall_mem_cons.mpr ⟨ok_X11_leaders, List.forall_mem_cons.mpr ⟨ok_X11_used, List.forall_mem_cons.mpr ⟨ok_X11_over, List.forall_mem_cons.mpr ⟨ok_X11_delay, List.forall_mem_cons.mpr ⟨ok_X11_point, List.forall_mem_cons.mpr ⟨ok_X11_purse, List.forall_mem_cons.mpr ⟨ok_X11_lastOf, List.forall_mem_cons.mpr ⟨ok_X11_pairs, List.forall_mem_cons.mpr ⟨ok_X11_crowd, List.forall_mem_cons.mpr ⟨ok_X11_swing, List.forall_mem_cons.mpr ⟨ok_X11_when, List.forall_mem_cons.mpr ⟨ok_X11_draws, List.forall_mem_cons.mpr ⟨ok_X11_termGoes, List.forall_mem_cons.mpr ⟨ok_X11_isTerm, List.forall_mem_cons.mpr ⟨ok_X11_term, List.forall_mem_cons.mpr ⟨ok_X11_span, List.forall_mem_cons.mpr ⟨ok_X11_keepsRow, List.forall_mem_cons.mpr ⟨ok_X11_keepsAll, fun _ h => nomatch h⟩⟩⟩⟩⟩⟩⟩⟩⟩⟩⟩⟩⟩⟩⟩⟩⟩⟩⟩⟩⟩⟩⟩⟩⟩⟩⟩⟩⟩⟩⟩⟩⟩⟩⟩⟩⟩⟩⟩⟩⟩
