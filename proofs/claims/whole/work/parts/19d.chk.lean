/-! Rows checked. -/
set_option maxRecDepth 100000 in
theorem cb_X10_bird : (M_X10_bird).rw.all (rowB CLS MT TSS KD M_X10_bird (decide ((M_X10_bird).nm.name = "<init>")) ck_X10_bird) = true := by decide +kernel
set_option maxRecDepth 100000 in
theorem cw_X10_bird : ∀ w ∈ ckW CLS MT (M_X10_bird).nm.cls ck_X10_bird, w ∈ TW := tw_in [(8, 125), (7, 121), (8, 132), (8, 6), (7, 102), (8, 10), (8, 8), (11, 76), (9, 138), (9, 93), (9, 94)] (by decide +kernel) (by decide +kernel)
set_option maxRecDepth 100000 in
theorem ch_X10_bird : ∀ w ∈ hdW M_X10_bird, w ∈ TW := fun w h => nomatch h
set_option maxRecDepth 100000 in
theorem ok_X10_bird : methOK CLS MT TSS M_X10_bird := meth_ok (k := ck_X10_bird) (kd := 1) hG_all prim_in inst_in cw_X10_bird cb_X10_bird (own3 (M_X10_bird, 1) (List.mem_of_getElem? (i := 0) rfl)).1 (own3 (M_X10_bird, 1) (List.mem_of_getElem? (i := 0) rfl)).2 (by decide +kernel) ch_X10_bird (fun wd _ r hr => noThr_ok (by decide +kernel) wd TSS hr)
set_option maxRecDepth 100000 in
theorem cb_X10_counsel : (M_X10_counsel).rw.all (rowB CLS MT TSS KD M_X10_counsel (decide ((M_X10_counsel).nm.name = "<init>")) ck_X10_counsel) = true := by decide +kernel
set_option maxRecDepth 100000 in
theorem cw_X10_counsel : ∀ w ∈ ckW CLS MT (M_X10_counsel).nm.cls ck_X10_counsel, w ∈ TW := tw_in [(8, 125), (7, 125), (8, 132), (8, 12), (7, 106), (11, 76), (9, 138), (9, 93)] (by decide +kernel) (by decide +kernel)
set_option maxRecDepth 100000 in
theorem ch_X10_counsel : ∀ w ∈ hdW M_X10_counsel, w ∈ TW := fun w h => nomatch h
set_option maxRecDepth 100000 in
theorem ok_X10_counsel : methOK CLS MT TSS M_X10_counsel := meth_ok (k := ck_X10_counsel) (kd := 1) hG_all prim_in inst_in cw_X10_counsel cb_X10_counsel (own3 (M_X10_counsel, 1) (List.mem_of_getElem? (i := 1) rfl)).1 (own3 (M_X10_counsel, 1) (List.mem_of_getElem? (i := 1) rfl)).2 (by decide +kernel) ch_X10_counsel (fun wd _ r hr => noThr_ok (by decide +kernel) wd TSS hr)
set_option maxRecDepth 100000 in
theorem cb_X10_would : (M_X10_would).rw.all (rowB CLS MT TSS KD M_X10_would (decide ((M_X10_would).nm.name = "<init>")) ck_X10_would) = true := by decide +kernel
set_option maxRecDepth 100000 in
theorem cw_X10_would : ∀ w ∈ ckW CLS MT (M_X10_would).nm.cls ck_X10_would, w ∈ TW := tw_in [(8, 127), (9, 138), (11, 119)] (by decide +kernel) (by decide +kernel)
set_option maxRecDepth 100000 in
theorem ch_X10_would : ∀ w ∈ hdW M_X10_would, w ∈ TW := fun w h => nomatch h
set_option maxRecDepth 100000 in
theorem ok_X10_would : methOK CLS MT TSS M_X10_would := meth_ok (k := ck_X10_would) (kd := 1) hG_all prim_in inst_in cw_X10_would cb_X10_would (own3 (M_X10_would, 1) (List.mem_of_getElem? (i := 2) rfl)).1 (own3 (M_X10_would, 1) (List.mem_of_getElem? (i := 2) rfl)).2 (by decide +kernel) ch_X10_would (fun wd _ r hr => noThr_ok (by decide +kernel) wd TSS hr)
set_option maxRecDepth 100000 in
theorem cb_X10_at : (M_X10_at).rw.all (rowB CLS MT TSS KD M_X10_at (decide ((M_X10_at).nm.name = "<init>")) ck_X10_at) = true := by decide +kernel
set_option maxRecDepth 100000 in
theorem cw_X10_at : ∀ w ∈ ckW CLS MT (M_X10_at).nm.cls ck_X10_at, w ∈ TW := tw_in [(8, 132), (8, 125), (9, 138), (9, 60), (11, 127), (9, 17), (9, 42)] (by decide +kernel) (by decide +kernel)
set_option maxRecDepth 100000 in
theorem ch_X10_at : ∀ w ∈ hdW M_X10_at, w ∈ TW := fun w h => nomatch h
set_option maxRecDepth 100000 in
theorem ok_X10_at : methOK CLS MT TSS M_X10_at := meth_ok (k := ck_X10_at) (kd := 1) hG_all prim_in inst_in cw_X10_at cb_X10_at (own3 (M_X10_at, 1) (List.mem_of_getElem? (i := 3) rfl)).1 (own3 (M_X10_at, 1) (List.mem_of_getElem? (i := 3) rfl)).2 (by decide +kernel) ch_X10_at (fun wd _ r hr => noThr_ok (by decide +kernel) wd TSS hr)
set_option maxRecDepth 100000 in
theorem cb_X10_clear : (M_X10_clear).rw.all (rowB CLS MT TSS KD M_X10_clear (decide ((M_X10_clear).nm.name = "<init>")) ck_X10_clear) = true := by decide +kernel
set_option maxRecDepth 100000 in
theorem cw_X10_clear : ∀ w ∈ ckW CLS MT (M_X10_clear).nm.cls ck_X10_clear, w ∈ TW := tw_in [(8, 132), (8, 16), (9, 60)] (by decide +kernel) (by decide +kernel)
set_option maxRecDepth 100000 in
theorem ch_X10_clear : ∀ w ∈ hdW M_X10_clear, w ∈ TW := fun w h => nomatch h
set_option maxRecDepth 100000 in
theorem ok_X10_clear : methOK CLS MT TSS M_X10_clear := meth_ok (k := ck_X10_clear) (kd := 1) hG_all prim_in inst_in cw_X10_clear cb_X10_clear (own3 (M_X10_clear, 1) (List.mem_of_getElem? (i := 4) rfl)).1 (own3 (M_X10_clear, 1) (List.mem_of_getElem? (i := 4) rfl)).2 (by decide +kernel) ch_X10_clear (fun wd _ r hr => noThr_ok (by decide +kernel) wd TSS hr)
set_option maxRecDepth 100000 in
theorem cb_X10_hide : (M_X10_hide).rw.all (rowB CLS MT TSS KD M_X10_hide (decide ((M_X10_hide).nm.name = "<init>")) ck_X10_hide) = true := by decide +kernel
set_option maxRecDepth 100000 in
theorem cw_X10_hide : ∀ w ∈ ckW CLS MT (M_X10_hide).nm.cls ck_X10_hide, w ∈ TW := tw_in [(8, 125), (7, 110), (8, 134), (8, 79), (8, 81), (11, 135), (9, 138), (11, 140)] (by decide +kernel) (by decide +kernel)
set_option maxRecDepth 100000 in
theorem ch_X10_hide : ∀ w ∈ hdW M_X10_hide, w ∈ TW := fun w h => nomatch h
set_option maxRecDepth 100000 in
theorem ok_X10_hide : methOK CLS MT TSS M_X10_hide := meth_ok (k := ck_X10_hide) (kd := 1) hG_all prim_in inst_in cw_X10_hide cb_X10_hide (own3 (M_X10_hide, 1) (List.mem_of_getElem? (i := 5) rfl)).1 (own3 (M_X10_hide, 1) (List.mem_of_getElem? (i := 5) rfl)).2 (by decide +kernel) ch_X10_hide (fun wd _ r hr => noThr_ok (by decide +kernel) wd TSS hr)
set_option maxRecDepth 100000 in
theorem cb_X10_follows : (M_X10_follows).rw.all (rowB CLS MT TSS KD M_X10_follows (decide ((M_X10_follows).nm.name = "<init>")) ck_X10_follows) = true := by decide +kernel
set_option maxRecDepth 100000 in
theorem cw_X10_follows : ∀ w ∈ ckW CLS MT (M_X10_follows).nm.cls ck_X10_follows, w ∈ TW := tw_in [(8, 125), (7, 110), (11, 135), (9, 84)] (by decide +kernel) (by decide +kernel)
set_option maxRecDepth 100000 in
theorem ch_X10_follows : ∀ w ∈ hdW M_X10_follows, w ∈ TW := fun w h => nomatch h
set_option maxRecDepth 100000 in
theorem ok_X10_follows : methOK CLS MT TSS M_X10_follows := meth_ok (k := ck_X10_follows) (kd := 1) hG_all prim_in inst_in cw_X10_follows cb_X10_follows (own3 (M_X10_follows, 1) (List.mem_of_getElem? (i := 6) rfl)).1 (own3 (M_X10_follows, 1) (List.mem_of_getElem? (i := 6) rfl)).2 (by decide +kernel) ch_X10_follows (fun wd _ r hr => noThr_ok (by decide +kernel) wd TSS hr)
set_option maxRecDepth 100000 in
theorem cb_X10_proof : (M_X10_proof).rw.all (rowB CLS MT TSS KD M_X10_proof (decide ((M_X10_proof).nm.name = "<init>")) ck_X10_proof) = true := by decide +kernel
set_option maxRecDepth 100000 in
theorem cw_X10_proof : ∀ w ∈ ckW CLS MT (M_X10_proof).nm.cls ck_X10_proof, w ∈ TW := tw_in [(8, 125), (7, 110), (8, 134), (11, 76), (11, 176)] (by decide +kernel) (by decide +kernel)
set_option maxRecDepth 100000 in
theorem ch_X10_proof : ∀ w ∈ hdW M_X10_proof, w ∈ TW := fun w h => nomatch h
set_option maxRecDepth 100000 in
theorem ok_X10_proof : methOK CLS MT TSS M_X10_proof := meth_ok (k := ck_X10_proof) (kd := 1) hG_all prim_in inst_in cw_X10_proof cb_X10_proof (own3 (M_X10_proof, 1) (List.mem_of_getElem? (i := 7) rfl)).1 (own3 (M_X10_proof, 1) (List.mem_of_getElem? (i := 7) rfl)).2 (by decide +kernel) ch_X10_proof (fun wd _ r hr => noThr_ok (by decide +kernel) wd TSS hr)
set_option maxRecDepth 100000 in
theorem cb_X10_turn : (M_X10_turn).rw.all (rowB CLS MT TSS KD M_X10_turn (decide ((M_X10_turn).nm.name = "<init>")) ck_X10_turn) = true := by decide +kernel
set_option maxRecDepth 100000 in
theorem cw_X10_turn : ∀ w ∈ ckW CLS MT (M_X10_turn).nm.cls ck_X10_turn, w ∈ TW := tw_in [(8, 134), (9, 65)] (by decide +kernel) (by decide +kernel)
set_option maxRecDepth 100000 in
theorem ch_X10_turn : ∀ w ∈ hdW M_X10_turn, w ∈ TW := fun w h => nomatch h
set_option maxRecDepth 100000 in
theorem ok_X10_turn : methOK CLS MT TSS M_X10_turn := meth_ok (k := ck_X10_turn) (kd := 1) hG_all prim_in inst_in cw_X10_turn cb_X10_turn (own3 (M_X10_turn, 1) (List.mem_of_getElem? (i := 8) rfl)).1 (own3 (M_X10_turn, 1) (List.mem_of_getElem? (i := 8) rfl)).2 (by decide +kernel) ch_X10_turn (fun wd _ r hr => noThr_ok (by decide +kernel) wd TSS hr)
set_option maxRecDepth 100000 in
theorem cb_X10_fits : (M_X10_fits).rw.all (rowB CLS MT TSS KD M_X10_fits (decide ((M_X10_fits).nm.name = "<init>")) ck_X10_fits) = true := by decide +kernel
set_option maxRecDepth 100000 in
theorem cw_X10_fits : ∀ w ∈ ckW CLS MT (M_X10_fits).nm.cls ck_X10_fits, w ∈ TW := tw_in [(8, 134), (8, 83), (8, 85), (9, 138), (11, 190)] (by decide +kernel) (by decide +kernel)
set_option maxRecDepth 100000 in
theorem ch_X10_fits : ∀ w ∈ hdW M_X10_fits, w ∈ TW := fun w h => nomatch h
set_option maxRecDepth 100000 in
theorem ok_X10_fits : methOK CLS MT TSS M_X10_fits := meth_ok (k := ck_X10_fits) (kd := 1) hG_all prim_in inst_in cw_X10_fits cb_X10_fits (own3 (M_X10_fits, 1) (List.mem_of_getElem? (i := 9) rfl)).1 (own3 (M_X10_fits, 1) (List.mem_of_getElem? (i := 9) rfl)).2 (by decide +kernel) ch_X10_fits (fun wd _ r hr => noThr_ok (by decide +kernel) wd TSS hr)
set_option maxRecDepth 100000 in
theorem cb_X10_look : (M_X10_look).rw.all (rowB CLS MT TSS KD M_X10_look (decide ((M_X10_look).nm.name = "<init>")) ck_X10_look) = true := by decide +kernel
set_option maxRecDepth 100000 in
theorem cw_X10_look : ∀ w ∈ ckW CLS MT (M_X10_look).nm.cls ck_X10_look, w ∈ TW := tw_in [(8, 134), (9, 138), (11, 190), (11, 213), (11, 222)] (by decide +kernel) (by decide +kernel)
set_option maxRecDepth 100000 in
theorem ch_X10_look : ∀ w ∈ hdW M_X10_look, w ∈ TW := fun w h => nomatch h
set_option maxRecDepth 100000 in
theorem ok_X10_look : methOK CLS MT TSS M_X10_look := meth_ok (k := ck_X10_look) (kd := 1) hG_all prim_in inst_in cw_X10_look cb_X10_look (own3 (M_X10_look, 1) (List.mem_of_getElem? (i := 10) rfl)).1 (own3 (M_X10_look, 1) (List.mem_of_getElem? (i := 10) rfl)).2 (by decide +kernel) ch_X10_look (fun wd _ r hr => noThr_ok (by decide +kernel) wd TSS hr)
set_option maxRecDepth 100000 in
theorem cb_X10_kind : (M_X10_kind).rw.all (rowB CLS MT TSS KD M_X10_kind (decide ((M_X10_kind).nm.name = "<init>")) ck_X10_kind) = true := by decide +kernel
set_option maxRecDepth 100000 in
theorem cw_X10_kind : ∀ w ∈ ckW CLS MT (M_X10_kind).nm.cls ck_X10_kind, w ∈ TW := tw_in [(9, 138), (11, 230), (11, 233)] (by decide +kernel) (by decide +kernel)
set_option maxRecDepth 100000 in
theorem ch_X10_kind : ∀ w ∈ hdW M_X10_kind, w ∈ TW := fun w h => nomatch h
set_option maxRecDepth 100000 in
theorem ok_X10_kind : methOK CLS MT TSS M_X10_kind := meth_ok (k := ck_X10_kind) (kd := 1) hG_all prim_in inst_in cw_X10_kind cb_X10_kind (own3 (M_X10_kind, 1) (List.mem_of_getElem? (i := 11) rfl)).1 (own3 (M_X10_kind, 1) (List.mem_of_getElem? (i := 11) rfl)).2 (by decide +kernel) ch_X10_kind (fun wd _ r hr => noThr_ok (by decide +kernel) wd TSS hr)
set_option maxRecDepth 100000 in
theorem cb_X10_order : (M_X10_order).rw.all (rowB CLS MT TSS KD M_X10_order (decide ((M_X10_order).nm.name = "<init>")) ck_X10_order) = true := by decide +kernel
set_option maxRecDepth 100000 in
theorem cw_X10_order : ∀ w ∈ ckW CLS MT (M_X10_order).nm.cls ck_X10_order, w ∈ TW := tw_in [(9, 138), (12, 3), (12, 6)] (by decide +kernel) (by decide +kernel)
set_option maxRecDepth 100000 in
theorem ch_X10_order : ∀ w ∈ hdW M_X10_order, w ∈ TW := fun w h => nomatch h
set_option maxRecDepth 100000 in
theorem ok_X10_order : methOK CLS MT TSS M_X10_order := meth_ok (k := ck_X10_order) (kd := 1) hG_all prim_in inst_in cw_X10_order cb_X10_order (own3 (M_X10_order, 1) (List.mem_of_getElem? (i := 12) rfl)).1 (own3 (M_X10_order, 1) (List.mem_of_getElem? (i := 12) rfl)).2 (by decide +kernel) ch_X10_order (fun wd _ r hr => noThr_ok (by decide +kernel) wd TSS hr)
set_option maxRecDepth 100000 in
theorem cb_X10_loaf : (M_X10_loaf).rw.all (rowB CLS MT TSS KD M_X10_loaf (decide ((M_X10_loaf).nm.name = "<init>")) ck_X10_loaf) = true := by decide +kernel
set_option maxRecDepth 100000 in
theorem cw_X10_loaf : ∀ w ∈ ckW CLS MT (M_X10_loaf).nm.cls ck_X10_loaf, w ∈ TW := tw_in [(8, 125), (7, 125), (8, 132), (8, 12), (11, 76), (11, 135), (9, 138), (12, 16), (12, 17), (9, 93), (12, 18)] (by decide +kernel) (by decide +kernel)
set_option maxRecDepth 100000 in
theorem ch_X10_loaf : ∀ w ∈ hdW M_X10_loaf, w ∈ TW := fun w h => nomatch h
set_option maxRecDepth 100000 in
theorem ok_X10_loaf : methOK CLS MT TSS M_X10_loaf := meth_ok (k := ck_X10_loaf) (kd := 1) hG_all prim_in inst_in cw_X10_loaf cb_X10_loaf (own3 (M_X10_loaf, 1) (List.mem_of_getElem? (i := 13) rfl)).1 (own3 (M_X10_loaf, 1) (List.mem_of_getElem? (i := 13) rfl)).2 (by decide +kernel) ch_X10_loaf (fun wd _ r hr => noThr_ok (by decide +kernel) wd TSS hr)
set_option maxRecDepth 100000 in
theorem cb_X10_loss : (M_X10_loss).rw.all (rowB CLS MT TSS KD M_X10_loss (decide ((M_X10_loss).nm.name = "<init>")) ck_X10_loss) = true := by decide +kernel
set_option maxRecDepth 100000 in
theorem cw_X10_loss : ∀ w ∈ ckW CLS MT (M_X10_loss).nm.cls ck_X10_loss, w ∈ TW := tw_in [(8, 125), (8, 132), (9, 138), (12, 26), (11, 67), (12, 27), (12, 31)] (by decide +kernel) (by decide +kernel)
set_option maxRecDepth 100000 in
theorem ch_X10_loss : ∀ w ∈ hdW M_X10_loss, w ∈ TW := fun w h => nomatch h
set_option maxRecDepth 100000 in
theorem ok_X10_loss : methOK CLS MT TSS M_X10_loss := meth_ok (k := ck_X10_loss) (kd := 1) hG_all prim_in inst_in cw_X10_loss cb_X10_loss (own3 (M_X10_loss, 1) (List.mem_of_getElem? (i := 14) rfl)).1 (own3 (M_X10_loss, 1) (List.mem_of_getElem? (i := 14) rfl)).2 (by decide +kernel) ch_X10_loss (fun wd _ r hr => noThr_ok (by decide +kernel) wd TSS hr)
set_option maxRecDepth 100000 in
theorem cb_X10_next : (M_X10_next).rw.all (rowB CLS MT TSS KD M_X10_next (decide ((M_X10_next).nm.name = "<init>")) ck_X10_next) = true := by decide +kernel
set_option maxRecDepth 100000 in
theorem cw_X10_next : ∀ w ∈ ckW CLS MT (M_X10_next).nm.cls ck_X10_next, w ∈ TW := tw_in [(8, 132), (8, 3), (9, 138), (12, 42), (9, 93)] (by decide +kernel) (by decide +kernel)
set_option maxRecDepth 100000 in
theorem ch_X10_next : ∀ w ∈ hdW M_X10_next, w ∈ TW := fun w h => nomatch h
set_option maxRecDepth 100000 in
theorem ok_X10_next : methOK CLS MT TSS M_X10_next := meth_ok (k := ck_X10_next) (kd := 1) hG_all prim_in inst_in cw_X10_next cb_X10_next (own3 (M_X10_next, 1) (List.mem_of_getElem? (i := 15) rfl)).1 (own3 (M_X10_next, 1) (List.mem_of_getElem? (i := 15) rfl)).2 (by decide +kernel) ch_X10_next (fun wd _ r hr => noThr_ok (by decide +kernel) wd TSS hr)
set_option maxRecDepth 100000 in
theorem cb_X10_side : (M_X10_side).rw.all (rowB CLS MT TSS KD M_X10_side (decide ((M_X10_side).nm.name = "<init>")) ck_X10_side) = true := by decide +kernel
set_option maxRecDepth 100000 in
theorem cw_X10_side : ∀ w ∈ ckW CLS MT (M_X10_side).nm.cls ck_X10_side, w ∈ TW := tw_in [(8, 125), (8, 132), (8, 16), (8, 18), (9, 138), (12, 53), (9, 17), (12, 57)] (by decide +kernel) (by decide +kernel)
set_option maxRecDepth 100000 in
theorem ch_X10_side : ∀ w ∈ hdW M_X10_side, w ∈ TW := fun w h => nomatch h
set_option maxRecDepth 100000 in
theorem ok_X10_side : methOK CLS MT TSS M_X10_side := meth_ok (k := ck_X10_side) (kd := 1) hG_all prim_in inst_in cw_X10_side cb_X10_side (own3 (M_X10_side, 1) (List.mem_of_getElem? (i := 16) rfl)).1 (own3 (M_X10_side, 1) (List.mem_of_getElem? (i := 16) rfl)).2 (by decide +kernel) ch_X10_side (fun wd _ r hr => noThr_ok (by decide +kernel) wd TSS hr)
set_option maxRecDepth 100000 in
theorem cb_X10_leaders : (M_X10_leaders).rw.all (rowB CLS MT TSS KD M_X10_leaders (decide ((M_X10_leaders).nm.name = "<init>")) ck_X10_leaders) = true := by decide +kernel
set_option maxRecDepth 100000 in
theorem cw_X10_leaders : ∀ w ∈ ckW CLS MT (M_X10_leaders).nm.cls ck_X10_leaders, w ∈ TW := tw_in [(8, 125), (7, 121), (7, 125), (8, 132), (11, 76), (9, 138), (12, 68), (11, 139)] (by decide +kernel) (by decide +kernel)
set_option maxRecDepth 100000 in
theorem ch_X10_leaders : ∀ w ∈ hdW M_X10_leaders, w ∈ TW := fun w h => nomatch h
set_option maxRecDepth 100000 in
theorem ok_X10_leaders : methOK CLS MT TSS M_X10_leaders := meth_ok (k := ck_X10_leaders) (kd := 1) hG_all prim_in inst_in cw_X10_leaders cb_X10_leaders (own3 (M_X10_leaders, 1) (List.mem_of_getElem? (i := 17) rfl)).1 (own3 (M_X10_leaders, 1) (List.mem_of_getElem? (i := 17) rfl)).2 (by decide +kernel) ch_X10_leaders (fun wd _ r hr => noThr_ok (by decide +kernel) wd TSS hr)
set_option maxRecDepth 100000 in
theorem cb_X10_used : (M_X10_used).rw.all (rowB CLS MT TSS KD M_X10_used (decide ((M_X10_used).nm.name = "<init>")) ck_X10_used) = true := by decide +kernel
set_option maxRecDepth 100000 in
theorem cw_X10_used : ∀ w ∈ ckW CLS MT (M_X10_used).nm.cls ck_X10_used, w ∈ TW := tw_in [(8, 125), (8, 132), (8, 16), (9, 17), (9, 84), (9, 85)] (by decide +kernel) (by decide +kernel)
set_option maxRecDepth 100000 in
theorem ch_X10_used : ∀ w ∈ hdW M_X10_used, w ∈ TW := fun w h => nomatch h
set_option maxRecDepth 100000 in
theorem ok_X10_used : methOK CLS MT TSS M_X10_used := meth_ok (k := ck_X10_used) (kd := 1) hG_all prim_in inst_in cw_X10_used cb_X10_used (own3 (M_X10_used, 1) (List.mem_of_getElem? (i := 18) rfl)).1 (own3 (M_X10_used, 1) (List.mem_of_getElem? (i := 18) rfl)).2 (by decide +kernel) ch_X10_used (fun wd _ r hr => noThr_ok (by decide +kernel) wd TSS hr)
set_option maxRecDepth 100000 in
theorem cb_X10_over : (M_X10_over).rw.all (rowB CLS MT TSS KD M_X10_over (decide ((M_X10_over).nm.name = "<init>")) ck_X10_over) = true := by decide +kernel
set_option maxRecDepth 100000 in
theorem cw_X10_over : ∀ w ∈ ckW CLS MT (M_X10_over).nm.cls ck_X10_over, w ∈ TW := tw_in [(8, 125), (7, 121), (8, 132), (8, 6), (11, 76), (9, 93), (9, 94), (11, 127)] (by decide +kernel) (by decide +kernel)
set_option maxRecDepth 100000 in
theorem ch_X10_over : ∀ w ∈ hdW M_X10_over, w ∈ TW := fun w h => nomatch h
set_option maxRecDepth 100000 in
theorem ok_X10_over : methOK CLS MT TSS M_X10_over := meth_ok (k := ck_X10_over) (kd := 1) hG_all prim_in inst_in cw_X10_over cb_X10_over (own3 (M_X10_over, 1) (List.mem_of_getElem? (i := 19) rfl)).1 (own3 (M_X10_over, 1) (List.mem_of_getElem? (i := 19) rfl)).2 (by decide +kernel) ch_X10_over (fun wd _ r hr => noThr_ok (by decide +kernel) wd TSS hr)
set_option maxRecDepth 100000 in
theorem cb_X10_delay : (M_X10_delay).rw.all (rowB CLS MT TSS KD M_X10_delay (decide ((M_X10_delay).nm.name = "<init>")) ck_X10_delay) = true := by decide +kernel
set_option maxRecDepth 100000 in
theorem cw_X10_delay : ∀ w ∈ ckW CLS MT (M_X10_delay).nm.cls ck_X10_delay, w ∈ TW := tw_in [(8, 125), (7, 110), (8, 132), (8, 3), (11, 76), (9, 93), (12, 18), (9, 60)] (by decide +kernel) (by decide +kernel)
set_option maxRecDepth 100000 in
theorem ch_X10_delay : ∀ w ∈ hdW M_X10_delay, w ∈ TW := fun w h => nomatch h
set_option maxRecDepth 100000 in
theorem ok_X10_delay : methOK CLS MT TSS M_X10_delay := meth_ok (k := ck_X10_delay) (kd := 1) hG_all prim_in inst_in cw_X10_delay cb_X10_delay (own3 (M_X10_delay, 1) (List.mem_of_getElem? (i := 20) rfl)).1 (own3 (M_X10_delay, 1) (List.mem_of_getElem? (i := 20) rfl)).2 (by decide +kernel) ch_X10_delay (fun wd _ r hr => noThr_ok (by decide +kernel) wd TSS hr)
set_option maxRecDepth 100000 in
theorem cb_X10_point : (M_X10_point).rw.all (rowB CLS MT TSS KD M_X10_point (decide ((M_X10_point).nm.name = "<init>")) ck_X10_point) = true := by decide +kernel
set_option maxRecDepth 100000 in
theorem cw_X10_point : ∀ w ∈ ckW CLS MT (M_X10_point).nm.cls ck_X10_point, w ∈ TW := tw_in [(8, 125), (8, 132), (8, 16), (9, 138), (12, 53), (9, 17), (12, 27), (12, 31)] (by decide +kernel) (by decide +kernel)
set_option maxRecDepth 100000 in
theorem ch_X10_point : ∀ w ∈ hdW M_X10_point, w ∈ TW := fun w h => nomatch h
set_option maxRecDepth 100000 in
theorem ok_X10_point : methOK CLS MT TSS M_X10_point := meth_ok (k := ck_X10_point) (kd := 1) hG_all prim_in inst_in cw_X10_point cb_X10_point (own3 (M_X10_point, 1) (List.mem_of_getElem? (i := 21) rfl)).1 (own3 (M_X10_point, 1) (List.mem_of_getElem? (i := 21) rfl)).2 (by decide +kernel) ch_X10_point (fun wd _ r hr => noThr_ok (by decide +kernel) wd TSS hr)
set_option maxRecDepth 100000 in
theorem cb_X10_purse : (M_X10_purse).rw.all (rowB CLS MT TSS KD M_X10_purse (decide ((M_X10_purse).nm.name = "<init>")) ck_X10_purse) = true := by decide +kernel
set_option maxRecDepth 100000 in
theorem cw_X10_purse : ∀ w ∈ ckW CLS MT (M_X10_purse).nm.cls ck_X10_purse, w ∈ TW := tw_in [(8, 125), (7, 125), (8, 132), (11, 135), (12, 17)] (by decide +kernel) (by decide +kernel)
set_option maxRecDepth 100000 in
theorem ch_X10_purse : ∀ w ∈ hdW M_X10_purse, w ∈ TW := fun w h => nomatch h
set_option maxRecDepth 100000 in
theorem ok_X10_purse : methOK CLS MT TSS M_X10_purse := meth_ok (k := ck_X10_purse) (kd := 1) hG_all prim_in inst_in cw_X10_purse cb_X10_purse (own3 (M_X10_purse, 1) (List.mem_of_getElem? (i := 22) rfl)).1 (own3 (M_X10_purse, 1) (List.mem_of_getElem? (i := 22) rfl)).2 (by decide +kernel) ch_X10_purse (fun wd _ r hr => noThr_ok (by decide +kernel) wd TSS hr)
set_option maxRecDepth 100000 in
theorem cb_X10_pairs : (M_X10_pairs).rw.all (rowB CLS MT TSS KD M_X10_pairs (decide ((M_X10_pairs).nm.name = "<init>")) ck_X10_pairs) = true := by decide +kernel
set_option maxRecDepth 100000 in
theorem cw_X10_pairs : ∀ w ∈ ckW CLS MT (M_X10_pairs).nm.cls ck_X10_pairs, w ∈ TW := tw_in [(8, 125), (7, 121), (8, 132), (8, 6), (9, 93), (9, 94)] (by decide +kernel) (by decide +kernel)
set_option maxRecDepth 100000 in
theorem ch_X10_pairs : ∀ w ∈ hdW M_X10_pairs, w ∈ TW := fun w h => nomatch h
set_option maxRecDepth 100000 in
theorem ok_X10_pairs : methOK CLS MT TSS M_X10_pairs := meth_ok (k := ck_X10_pairs) (kd := 1) hG_all prim_in inst_in cw_X10_pairs cb_X10_pairs (own3 (M_X10_pairs, 1) (List.mem_of_getElem? (i := 23) rfl)).1 (own3 (M_X10_pairs, 1) (List.mem_of_getElem? (i := 23) rfl)).2 (by decide +kernel) ch_X10_pairs (fun wd _ r hr => noThr_ok (by decide +kernel) wd TSS hr)
set_option maxRecDepth 100000 in
theorem cb_X10_crowd : (M_X10_crowd).rw.all (rowB CLS MT TSS KD M_X10_crowd (decide ((M_X10_crowd).nm.name = "<init>")) ck_X10_crowd) = true := by decide +kernel
set_option maxRecDepth 100000 in
theorem cw_X10_crowd : ∀ w ∈ ckW CLS MT (M_X10_crowd).nm.cls ck_X10_crowd, w ∈ TW := tw_in [(8, 132), (9, 138), (9, 60), (11, 59)] (by decide +kernel) (by decide +kernel)
set_option maxRecDepth 100000 in
theorem ch_X10_crowd : ∀ w ∈ hdW M_X10_crowd, w ∈ TW := fun w h => nomatch h
set_option maxRecDepth 100000 in
theorem ok_X10_crowd : methOK CLS MT TSS M_X10_crowd := meth_ok (k := ck_X10_crowd) (kd := 1) hG_all prim_in inst_in cw_X10_crowd cb_X10_crowd (own3 (M_X10_crowd, 1) (List.mem_of_getElem? (i := 24) rfl)).1 (own3 (M_X10_crowd, 1) (List.mem_of_getElem? (i := 24) rfl)).2 (by decide +kernel) ch_X10_crowd (fun wd _ r hr => noThr_ok (by decide +kernel) wd TSS hr)
set_option maxRecDepth 100000 in
theorem cb_X10_swing : (M_X10_swing).rw.all (rowB CLS MT TSS KD M_X10_swing (decide ((M_X10_swing).nm.name = "<init>")) ck_X10_swing) = true := by decide +kernel
set_option maxRecDepth 100000 in
theorem cw_X10_swing : ∀ w ∈ ckW CLS MT (M_X10_swing).nm.cls ck_X10_swing, w ∈ TW := tw_in [(8, 125), (7, 110), (8, 132), (8, 16), (11, 76), (9, 17), (11, 139), (9, 42)] (by decide +kernel) (by decide +kernel)
set_option maxRecDepth 100000 in
theorem ch_X10_swing : ∀ w ∈ hdW M_X10_swing, w ∈ TW := fun w h => nomatch h
set_option maxRecDepth 100000 in
theorem ok_X10_swing : methOK CLS MT TSS M_X10_swing := meth_ok (k := ck_X10_swing) (kd := 1) hG_all prim_in inst_in cw_X10_swing cb_X10_swing (own3 (M_X10_swing, 1) (List.mem_of_getElem? (i := 25) rfl)).1 (own3 (M_X10_swing, 1) (List.mem_of_getElem? (i := 25) rfl)).2 (by decide +kernel) ch_X10_swing (fun wd _ r hr => noThr_ok (by decide +kernel) wd TSS hr)
set_option maxRecDepth 100000 in
theorem cb_X10_when : (M_X10_when).rw.all (rowB CLS MT TSS KD M_X10_when (decide ((M_X10_when).nm.name = "<init>")) ck_X10_when) = true := by decide +kernel
set_option maxRecDepth 100000 in
theorem cw_X10_when : ∀ w ∈ ckW CLS MT (M_X10_when).nm.cls ck_X10_when, w ∈ TW := tw_in [(8, 132), (8, 16), (9, 138), (11, 127)] (by decide +kernel) (by decide +kernel)
set_option maxRecDepth 100000 in
theorem ch_X10_when : ∀ w ∈ hdW M_X10_when, w ∈ TW := fun w h => nomatch h
set_option maxRecDepth 100000 in
theorem ok_X10_when : methOK CLS MT TSS M_X10_when := meth_ok (k := ck_X10_when) (kd := 1) hG_all prim_in inst_in cw_X10_when cb_X10_when (own3 (M_X10_when, 1) (List.mem_of_getElem? (i := 26) rfl)).1 (own3 (M_X10_when, 1) (List.mem_of_getElem? (i := 26) rfl)).2 (by decide +kernel) ch_X10_when (fun wd _ r hr => noThr_ok (by decide +kernel) wd TSS hr)
set_option maxRecDepth 100000 in
theorem cb_X10_term : (M_X10_term).rw.all (rowB CLS MT TSS KD M_X10_term (decide ((M_X10_term).nm.name = "<init>")) ck_X10_term) = true := by decide +kernel
set_option maxRecDepth 100000 in
theorem cw_X10_term : ∀ w ∈ ckW CLS MT (M_X10_term).nm.cls ck_X10_term, w ∈ TW := tw_in [(8, 135), (8, 132), (8, 115), (8, 125), (8, 16), (8, 18), (12, 125), (9, 138), (12, 129), (11, 67), (9, 17), (9, 42), (12, 149), (12, 17)] (by decide +kernel) (by decide +kernel)
set_option maxRecDepth 100000 in
theorem ch_X10_term : ∀ w ∈ hdW M_X10_term, w ∈ TW := fun w h => nomatch h
set_option maxRecDepth 100000 in
theorem ok_X10_term : methOK CLS MT TSS M_X10_term := meth_ok (k := ck_X10_term) (kd := 1) hG_all prim_in inst_in cw_X10_term cb_X10_term (own3 (M_X10_term, 1) (List.mem_of_getElem? (i := 27) rfl)).1 (own3 (M_X10_term, 1) (List.mem_of_getElem? (i := 27) rfl)).2 (by decide +kernel) ch_X10_term (fun wd _ r hr => noThr_ok (by decide +kernel) wd TSS hr)
set_option maxRecDepth 100000 in
theorem cb_X10_span : (M_X10_span).rw.all (rowB CLS MT TSS KD M_X10_span (decide ((M_X10_span).nm.name = "<init>")) ck_X10_span) = true := by decide +kernel
set_option maxRecDepth 100000 in
theorem cw_X10_span : ∀ w ∈ ckW CLS MT (M_X10_span).nm.cls ck_X10_span, w ∈ TW := tw_in [(8, 125), (7, 110), (8, 135), (8, 132), (8, 115), (8, 16), (12, 125), (9, 138), (12, 129), (9, 17), (9, 42), (12, 18), (12, 157), (11, 96)] (by decide +kernel) (by decide +kernel)
set_option maxRecDepth 100000 in
theorem ch_X10_span : ∀ w ∈ hdW M_X10_span, w ∈ TW := fun w h => nomatch h
set_option maxRecDepth 100000 in
theorem ok_X10_span : methOK CLS MT TSS M_X10_span := meth_ok (k := ck_X10_span) (kd := 1) hG_all prim_in inst_in cw_X10_span cb_X10_span (own3 (M_X10_span, 1) (List.mem_of_getElem? (i := 28) rfl)).1 (own3 (M_X10_span, 1) (List.mem_of_getElem? (i := 28) rfl)).2 (by decide +kernel) ch_X10_span (fun wd _ r hr => noThr_ok (by decide +kernel) wd TSS hr)
set_option maxRecDepth 100000 in
theorem cb_X10_image : (M_X10_image).rw.all (rowB CLS MT TSS KD M_X10_image (decide ((M_X10_image).nm.name = "<init>")) ck_X10_image) = true := by decide +kernel
set_option maxRecDepth 100000 in
theorem cw_X10_image : ∀ w ∈ ckW CLS MT (M_X10_image).nm.cls ck_X10_image, w ∈ TW := tw_in [(8, 133), (8, 52), (8, 132), (9, 99)] (by decide +kernel) (by decide +kernel)
set_option maxRecDepth 100000 in
theorem ch_X10_image : ∀ w ∈ hdW M_X10_image, w ∈ TW := fun w h => nomatch h
set_option maxRecDepth 100000 in
theorem ok_X10_image : methOK CLS MT TSS M_X10_image := meth_ok (k := ck_X10_image) (kd := 1) hG_all prim_in inst_in cw_X10_image cb_X10_image (own3 (M_X10_image, 1) (List.mem_of_getElem? (i := 29) rfl)).1 (own3 (M_X10_image, 1) (List.mem_of_getElem? (i := 29) rfl)).2 (by decide +kernel) ch_X10_image (fun wd _ r hr => noThr_ok (by decide +kernel) wd TSS hr)
set_option maxRecDepth 100000 in
theorem cb_X10_restore : (M_X10_restore).rw.all (rowB CLS MT TSS KD M_X10_restore (decide ((M_X10_restore).nm.name = "<init>")) ck_X10_restore) = true := by decide +kernel
set_option maxRecDepth 100000 in
theorem cw_X10_restore : ∀ w ∈ ckW CLS MT (M_X10_restore).nm.cls ck_X10_restore, w ∈ TW := tw_in [(8, 133), (8, 52), (8, 132), (8, 136), (9, 113)] (by decide +kernel) (by decide +kernel)
set_option maxRecDepth 100000 in
theorem ch_X10_restore : ∀ w ∈ hdW M_X10_restore, w ∈ TW := fun w h => nomatch h
set_option maxRecDepth 100000 in
theorem ok_X10_restore : methOK CLS MT TSS M_X10_restore := meth_ok (k := ck_X10_restore) (kd := 1) hG_all prim_in inst_in cw_X10_restore cb_X10_restore (own3 (M_X10_restore, 1) (List.mem_of_getElem? (i := 30) rfl)).1 (own3 (M_X10_restore, 1) (List.mem_of_getElem? (i := 30) rfl)).2 (by decide +kernel) ch_X10_restore (fun wd _ r hr => noThr_ok (by decide +kernel) wd TSS hr)
set_option maxRecDepth 100000 in
theorem cb_X10_status : (M_X10_status).rw.all (rowB CLS MT TSS KD M_X10_status (decide ((M_X10_status).nm.name = "<init>")) ck_X10_status) = true := by decide +kernel
set_option maxRecDepth 100000 in
theorem cw_X10_status : ∀ w ∈ ckW CLS MT (M_X10_status).nm.cls ck_X10_status, w ∈ TW := tw_in [(8, 137), (8, 138)] (by decide +kernel) (by decide +kernel)
set_option maxRecDepth 100000 in
theorem ch_X10_status : ∀ w ∈ hdW M_X10_status, w ∈ TW := fun w h => nomatch h
set_option maxRecDepth 100000 in
theorem ok_X10_status : methOK CLS MT TSS M_X10_status := meth_ok (k := ck_X10_status) (kd := 1) hG_all prim_in inst_in cw_X10_status cb_X10_status (own3 (M_X10_status, 1) (List.mem_of_getElem? (i := 31) rfl)).1 (own3 (M_X10_status, 1) (List.mem_of_getElem? (i := 31) rfl)).2 (by decide +kernel) ch_X10_status (fun wd _ r hr => noThr_ok (by decide +kernel) wd TSS hr)
set_option maxRecDepth 100000 in
theorem cb_X10_count : (M_X10_count).rw.all (rowB CLS MT TSS KD M_X10_count (decide ((M_X10_count).nm.name = "<init>")) ck_X10_count) = true := by decide +kernel
set_option maxRecDepth 100000 in
theorem cw_X10_count : ∀ w ∈ ckW CLS MT (M_X10_count).nm.cls ck_X10_count, w ∈ TW := tw_in [(8, 133), (8, 52), (8, 124), (7, 50), (8, 50)] (by decide +kernel) (by decide +kernel)
set_option maxRecDepth 100000 in
theorem ch_X10_count : ∀ w ∈ hdW M_X10_count, w ∈ TW := fun w h => nomatch h
set_option maxRecDepth 100000 in
theorem ok_X10_count : methOK CLS MT TSS M_X10_count := meth_ok (k := ck_X10_count) (kd := 1) hG_all prim_in inst_in cw_X10_count cb_X10_count (own3 (M_X10_count, 1) (List.mem_of_getElem? (i := 32) rfl)).1 (own3 (M_X10_count, 1) (List.mem_of_getElem? (i := 32) rfl)).2 (by decide +kernel) ch_X10_count (fun wd _ r hr => noThr_ok (by decide +kernel) wd TSS hr)
set_option maxRecDepth 100000 in
theorem cb_X10_startText : (M_X10_startText).rw.all (rowB CLS MT TSS KD M_X10_startText (decide ((M_X10_startText).nm.name = "<init>")) ck_X10_startText) = true := by decide +kernel
set_option maxRecDepth 100000 in
theorem cw_X10_startText : ∀ w ∈ ckW CLS MT (M_X10_startText).nm.cls ck_X10_startText, w ∈ TW := tw_in [(8, 124), (7, 50), (9, 138), (9, 209)] (by decide +kernel) (by decide +kernel)
set_option maxRecDepth 100000 in
theorem ch_X10_startText : ∀ w ∈ hdW M_X10_startText, w ∈ TW := fun w h => nomatch h
set_option maxRecDepth 100000 in
theorem ok_X10_startText : methOK CLS MT TSS M_X10_startText := meth_ok (k := ck_X10_startText) (kd := 1) hG_all prim_in inst_in cw_X10_startText cb_X10_startText (own3 (M_X10_startText, 1) (List.mem_of_getElem? (i := 33) rfl)).1 (own3 (M_X10_startText, 1) (List.mem_of_getElem? (i := 33) rfl)).2 (by decide +kernel) ch_X10_startText (fun wd _ r hr => noThr_ok (by decide +kernel) wd TSS hr)
set_option maxRecDepth 100000 in
theorem cb_X10_checkTerm : (M_X10_checkTerm).rw.all (rowB CLS MT TSS KD M_X10_checkTerm (decide ((M_X10_checkTerm).nm.name = "<init>")) ck_X10_checkTerm) = true := by decide +kernel
set_option maxRecDepth 100000 in
theorem cw_X10_checkTerm : ∀ w ∈ ckW CLS MT (M_X10_checkTerm).nm.cls ck_X10_checkTerm, w ∈ TW := tw_in [(9, 138)] (by decide +kernel) (by decide +kernel)
set_option maxRecDepth 100000 in
theorem ch_X10_checkTerm : ∀ w ∈ hdW M_X10_checkTerm, w ∈ TW := fun w h => nomatch h
set_option maxRecDepth 100000 in
theorem ok_X10_checkTerm : methOK CLS MT TSS M_X10_checkTerm := meth_ok (k := ck_X10_checkTerm) (kd := 1) hG_all prim_in inst_in cw_X10_checkTerm cb_X10_checkTerm (own3 (M_X10_checkTerm, 1) (List.mem_of_getElem? (i := 34) rfl)).1 (own3 (M_X10_checkTerm, 1) (List.mem_of_getElem? (i := 34) rfl)).2 (by decide +kernel) ch_X10_checkTerm (fun wd _ r hr => noThr_ok (by decide +kernel) wd TSS hr)
set_option maxRecDepth 100000 in
theorem cb_X10_checkBits : (M_X10_checkBits).rw.all (rowB CLS MT TSS KD M_X10_checkBits (decide ((M_X10_checkBits).nm.name = "<init>")) ck_X10_checkBits) = true := by decide +kernel
set_option maxRecDepth 100000 in
theorem cw_X10_checkBits : ∀ w ∈ ckW CLS MT (M_X10_checkBits).nm.cls ck_X10_checkBits, w ∈ TW := tw_in [(11, 139), (9, 138)] (by decide +kernel) (by decide +kernel)
set_option maxRecDepth 100000 in
theorem ch_X10_checkBits : ∀ w ∈ hdW M_X10_checkBits, w ∈ TW := fun w h => nomatch h
set_option maxRecDepth 100000 in
theorem ok_X10_checkBits : methOK CLS MT TSS M_X10_checkBits := meth_ok (k := ck_X10_checkBits) (kd := 1) hG_all prim_in inst_in cw_X10_checkBits cb_X10_checkBits (own3 (M_X10_checkBits, 1) (List.mem_of_getElem? (i := 35) rfl)).1 (own3 (M_X10_checkBits, 1) (List.mem_of_getElem? (i := 35) rfl)).2 (by decide +kernel) ch_X10_checkBits (fun wd _ r hr => noThr_ok (by decide +kernel) wd TSS hr)
set_option maxRecDepth 100000 in
theorem cb_X10_checkArgument : (M_X10_checkArgument).rw.all (rowB CLS MT TSS KD M_X10_checkArgument (decide ((M_X10_checkArgument).nm.name = "<init>")) ck_X10_checkArgument) = true := by decide +kernel
set_option maxRecDepth 100000 in
theorem cw_X10_checkArgument : ∀ w ∈ ckW CLS MT (M_X10_checkArgument).nm.cls ck_X10_checkArgument, w ∈ TW := tw_in [(8, 138)] (by decide +kernel) (by decide +kernel)
set_option maxRecDepth 100000 in
theorem ch_X10_checkArgument : ∀ w ∈ hdW M_X10_checkArgument, w ∈ TW := fun w h => nomatch h
set_option maxRecDepth 100000 in
theorem tw_X10_checkArgument : ∀ w ∈ [Cond.classLink "CourtMoorhens" 385 "java/lang/IllegalArgumentException", .initialized "java/lang/IllegalArgumentException"], w ∈ TW := tw_in [(9, 142), (7, 16)] (by decide +kernel) (by decide +kernel)
set_option maxRecDepth 100000 in
theorem tr_X10_checkArgument : ∀ wd : Cond → Prop, (∀ w ∈ TW, wd w) → ∀ r ∈ (M_X10_checkArgument).rw, trow wd TSS M_X10_checkArgument r.2.1 r.2.2.2.1 r.1 := by
  intro wd ht r hr
  have h1 : (M_X10_checkArgument).rw.all (fun r => match r.2.1 with
    | .new _ => decide (r = (14, .new 385, 3, 1001, 0))
    | _ => true) = true := by decide +kernel
  have h2 := List.all_eq_true.mp h1 r hr
  unfold trow
  split
  · rename_i idx he
    rw [he] at h2
    have h3 := of_decide_eq_true h2
    subst h3
    cases he
    intro _
    exact ⟨7, prog_18_method_2_code, 387, 389, 0, "the document does not allow this argument", by decide +kernel, by decide +kernel, by decide +kernel, by decide +kernel, by decide +kernel, by decide +kernel, by decide +kernel, by decide +kernel, ht _ (tw_X10_checkArgument _ List.mem_cons_self), ht _ (tw_X10_checkArgument _ (List.mem_cons_of_mem _ List.mem_cons_self)), by decide +kernel, by decide +kernel, fun w hw => ht _ (xw_iae w hw), xw_ot.1⟩
  · trivial
set_option maxRecDepth 100000 in
theorem ok_X10_checkArgument : methOK CLS MT TSS M_X10_checkArgument := meth_ok (k := ck_X10_checkArgument) (kd := 1) hG_all prim_in inst_in cw_X10_checkArgument cb_X10_checkArgument (own3 (M_X10_checkArgument, 1) (List.mem_of_getElem? (i := 36) rfl)).1 (own3 (M_X10_checkArgument, 1) (List.mem_of_getElem? (i := 36) rfl)).2 (by decide +kernel) ch_X10_checkArgument (tr_X10_checkArgument)
set_option maxRecDepth 100000 in
theorem cb_X10_checkThere : (M_X10_checkThere).rw.all (rowB CLS MT TSS KD M_X10_checkThere (decide ((M_X10_checkThere).nm.name = "<init>")) ck_X10_checkThere) = true := by decide +kernel
set_option maxRecDepth 100000 in
theorem cw_X10_checkThere : ∀ w ∈ ckW CLS MT (M_X10_checkThere).nm.cls ck_X10_checkThere, w ∈ TW := tw_in [(8, 137)] (by decide +kernel) (by decide +kernel)
set_option maxRecDepth 100000 in
theorem ch_X10_checkThere : ∀ w ∈ hdW M_X10_checkThere, w ∈ TW := fun w h => nomatch h
set_option maxRecDepth 100000 in
theorem tw_X10_checkThere : ∀ w ∈ [Cond.classLink "CourtMoorhens" 392 "java/util/NoSuchElementException", .initialized "java/util/NoSuchElementException"], w ∈ TW := tw_in [(11, 80), (7, 23)] (by decide +kernel) (by decide +kernel)
set_option maxRecDepth 100000 in
theorem tr_X10_checkThere : ∀ wd : Cond → Prop, (∀ w ∈ TW, wd w) → ∀ r ∈ (M_X10_checkThere).rw, trow wd TSS M_X10_checkThere r.2.1 r.2.2.2.1 r.1 := by
  intro wd ht r hr
  have h1 : (M_X10_checkThere).rw.all (fun r => match r.2.1 with
    | .new _ => decide (r = (19, .new 392, 3, 1000, 0))
    | _ => true) = true := by decide +kernel
  have h2 := List.all_eq_true.mp h1 r hr
  unfold trow
  split
  · rename_i idx he
    rw [he] at h2
    have h3 := of_decide_eq_true h2
    subst h3
    cases he
    intro _
    exact ⟨13, prog_28_method_4_code, 394, 396, 19, "there is no such saying, bird or counsel", by decide +kernel, by decide +kernel, by decide +kernel, by decide +kernel, by decide +kernel, by decide +kernel, by decide +kernel, by decide +kernel, ht _ (tw_X10_checkThere _ List.mem_cons_self), ht _ (tw_X10_checkThere _ (List.mem_cons_of_mem _ List.mem_cons_self)), by decide +kernel, by decide +kernel, fun w hw => ht _ (xw_nse w hw), xw_ot.2⟩
  · trivial
set_option maxRecDepth 100000 in
theorem ok_X10_checkThere : methOK CLS MT TSS M_X10_checkThere := meth_ok (k := ck_X10_checkThere) (kd := 1) hG_all prim_in inst_in cw_X10_checkThere cb_X10_checkThere (own3 (M_X10_checkThere, 1) (List.mem_of_getElem? (i := 37) rfl)).1 (own3 (M_X10_checkThere, 1) (List.mem_of_getElem? (i := 37) rfl)).2 (by decide +kernel) ch_X10_checkThere (tr_X10_checkThere)
set_option maxRecDepth 100000 in
theorem cb_X10_sayingOrWeight : (M_X10_sayingOrWeight).rw.all (rowB CLS MT TSS KD M_X10_sayingOrWeight (decide ((M_X10_sayingOrWeight).nm.name = "<init>")) ck_X10_sayingOrWeight) = true := by decide +kernel
set_option maxRecDepth 100000 in
theorem cw_X10_sayingOrWeight : ∀ w ∈ ckW CLS MT (M_X10_sayingOrWeight).nm.cls ck_X10_sayingOrWeight, w ∈ TW := tw_in [(8, 125), (7, 94), (9, 93)] (by decide +kernel) (by decide +kernel)
set_option maxRecDepth 100000 in
theorem ch_X10_sayingOrWeight : ∀ w ∈ hdW M_X10_sayingOrWeight, w ∈ TW := fun w h => nomatch h
set_option maxRecDepth 100000 in
theorem ok_X10_sayingOrWeight : methOK CLS MT TSS M_X10_sayingOrWeight := meth_ok (k := ck_X10_sayingOrWeight) (kd := 1) hG_all prim_in inst_in cw_X10_sayingOrWeight cb_X10_sayingOrWeight (own3 (M_X10_sayingOrWeight, 1) (List.mem_of_getElem? (i := 38) rfl)).1 (own3 (M_X10_sayingOrWeight, 1) (List.mem_of_getElem? (i := 38) rfl)).2 (by decide +kernel) ch_X10_sayingOrWeight (fun wd _ r hr => noThr_ok (by decide +kernel) wd TSS hr)
set_option maxRecDepth 100000 in
theorem cb_X10_bit : (M_X10_bit).rw.all (rowB CLS MT TSS KD M_X10_bit (decide ((M_X10_bit).nm.name = "<init>")) ck_X10_bit) = true := by decide +kernel
set_option maxRecDepth 100000 in
theorem cw_X10_bit : ∀ w ∈ ckW CLS MT (M_X10_bit).nm.cls ck_X10_bit, w ∈ TW := tw_in [] (by decide +kernel) (by decide +kernel)
set_option maxRecDepth 100000 in
theorem ch_X10_bit : ∀ w ∈ hdW M_X10_bit, w ∈ TW := fun w h => nomatch h
set_option maxRecDepth 100000 in
theorem ok_X10_bit : methOK CLS MT TSS M_X10_bit := meth_ok (k := ck_X10_bit) (kd := 0) hG_all prim_in inst_in cw_X10_bit cb_X10_bit (own3 (M_X10_bit, 0) (List.mem_of_getElem? (i := 39) rfl)).1 (own3 (M_X10_bit, 0) (List.mem_of_getElem? (i := 39) rfl)).2 (by decide +kernel) ch_X10_bit (fun wd _ r hr => noThr_ok (by decide +kernel) wd TSS hr)
set_option maxRecDepth 100000 in
theorem cb_X10_has : (M_X10_has).rw.all (rowB CLS MT TSS KD M_X10_has (decide ((M_X10_has).nm.name = "<init>")) ck_X10_has) = true := by decide +kernel
set_option maxRecDepth 100000 in
theorem cw_X10_has : ∀ w ∈ ckW CLS MT (M_X10_has).nm.cls ck_X10_has, w ∈ TW := tw_in [] (by decide +kernel) (by decide +kernel)
set_option maxRecDepth 100000 in
theorem ch_X10_has : ∀ w ∈ hdW M_X10_has, w ∈ TW := fun w h => nomatch h
set_option maxRecDepth 100000 in
theorem ok_X10_has : methOK CLS MT TSS M_X10_has := meth_ok (k := ck_X10_has) (kd := 0) hG_all prim_in inst_in cw_X10_has cb_X10_has (own3 (M_X10_has, 0) (List.mem_of_getElem? (i := 40) rfl)).1 (own3 (M_X10_has, 0) (List.mem_of_getElem? (i := 40) rfl)).2 (by decide +kernel) ch_X10_has (fun wd _ r hr => noThr_ok (by decide +kernel) wd TSS hr)
set_option maxRecDepth 100000 in
theorem okc3 : ∀ q ∈ MTK3, methOK CLS MT TSS q.1 := List.forall_mem_cons.mpr ⟨ok_X10_bird, List.forall_mem_cons.mpr ⟨ok_X10_counsel, List.forall_mem_cons.mpr ⟨ok_X10_would, List.forall_mem_cons.mpr ⟨ok_X10_at, List.forall_mem_cons.mpr ⟨ok_X10_clear, List.forall_mem_cons.mpr ⟨ok_X10_hide, List.forall_mem_cons.mpr ⟨ok_X10_follows, List.forall_mem_cons.mpr ⟨ok_X10_proof, List.forall_mem_cons.mpr ⟨ok_X10_turn, List.forall_mem_cons.mpr ⟨ok_X10_fits, List.forall_mem_cons.mpr ⟨ok_X10_look, List.forall_mem_cons.mpr ⟨ok_X10_kind, List.forall_mem_cons.mpr ⟨ok_X10_order, List.forall_mem_cons.mpr ⟨ok_X10_loaf, List.forall_mem_cons.mpr ⟨ok_X10_loss, List.forall_mem_cons.mpr ⟨ok_X10_next, List.forall_mem_cons.mpr ⟨ok_X10_side, List.forall_mem_cons.mpr ⟨ok_X10_leaders, List.forall_mem_cons.mpr ⟨ok_X10_used, List.forall_mem_cons.mpr ⟨ok_X10_over, List.forall_mem_cons.mpr ⟨ok_X10_delay, List.forall_mem_cons.mpr ⟨ok_X10_point, List.forall_mem_cons.mpr ⟨ok_X10_purse, List.forall_mem_cons.mpr ⟨ok_X10_pairs, List.forall_mem_cons.mpr ⟨ok_X10_crowd, List.forall_mem_cons.mpr ⟨ok_X10_swing, List.forall_mem_cons.mpr ⟨ok_X10_when, List.forall_mem_cons.mpr ⟨ok_X10_term, List.forall_mem_cons.mpr ⟨ok_X10_span, List.forall_mem_cons.mpr ⟨ok_X10_image, List.forall_mem_cons.mpr ⟨ok_X10_restore, List.forall_mem_cons.mpr ⟨ok_X10_status, List.forall_mem_cons.mpr ⟨ok_X10_count, List.forall_mem_cons.mpr ⟨ok_X10_startText, List.forall_mem_cons.mpr ⟨ok_X10_checkTerm, List.forall_mem_cons.mpr ⟨ok_X10_checkBits, List.forall_mem_cons.mpr ⟨ok_X10_checkArgument, List.forall_mem_cons.mpr ⟨ok_X10_checkThere, List.forall_mem_cons.mpr ⟨ok_X10_sayingOrWeight, List.forall_mem_cons.mpr ⟨ok_X10_bit, List.forall_mem_cons.mpr ⟨ok_X10_has, fun _ h => nomatch h⟩⟩⟩⟩⟩⟩⟩⟩⟩⟩⟩⟩⟩⟩⟩⟩⟩⟩⟩⟩⟩⟩⟩⟩⟩⟩⟩⟩⟩⟩⟩⟩⟩⟩⟩⟩⟩⟩⟩⟩⟩
