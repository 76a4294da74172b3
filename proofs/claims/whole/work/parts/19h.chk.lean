/-! Rows checked. -/
set_option maxRecDepth 100000 in
theorem cb_X11_image : (M_X11_image).rw.all (rowB CLS MT TSS KD M_X11_image (decide ((M_X11_image).nm.name = "<init>")) ck_X11_image) = true := by decide +kernel
set_option maxRecDepth 100000 in
theorem cw_X11_image : ∀ w ∈ ckW CLS MT (M_X11_image).nm.cls ck_X11_image, w ∈ TW := tw_in [(12, 180), (12, 235), (15, 91)] (by decide +kernel) (by decide +kernel)
set_option maxRecDepth 100000 in
theorem ch_X11_image : ∀ w ∈ hdW M_X11_image, w ∈ TW := fun w h => nomatch h
set_option maxRecDepth 100000 in
theorem ok_X11_image : methOK CLS MT TSS M_X11_image := meth_ok (k := ck_X11_image) (kd := 1) hG_all prim_in inst_in cw_X11_image cb_X11_image (own7 (M_X11_image, 1) (List.mem_of_getElem? (i := 0) rfl)).1 (own7 (M_X11_image, 1) (List.mem_of_getElem? (i := 0) rfl)).2 (by decide +kernel) ch_X11_image (fun wd _ r hr => noThr_ok (by decide +kernel) wd TSS hr)
set_option maxRecDepth 100000 in
theorem cb_X11_restore : (M_X11_restore).rw.all (rowB CLS MT TSS KD M_X11_restore (decide ((M_X11_restore).nm.name = "<init>")) ck_X11_restore) = true := by decide +kernel
set_option maxRecDepth 100000 in
theorem cw_X11_restore : ∀ w ∈ ckW CLS MT (M_X11_restore).nm.cls ck_X11_restore, w ∈ TW := tw_in [(12, 180), (12, 235), (12, 218), (15, 91)] (by decide +kernel) (by decide +kernel)
set_option maxRecDepth 100000 in
theorem ch_X11_restore : ∀ w ∈ hdW M_X11_restore, w ∈ TW := fun w h => nomatch h
set_option maxRecDepth 100000 in
theorem ok_X11_restore : methOK CLS MT TSS M_X11_restore := meth_ok (k := ck_X11_restore) (kd := 1) hG_all prim_in inst_in cw_X11_restore cb_X11_restore (own7 (M_X11_restore, 1) (List.mem_of_getElem? (i := 1) rfl)).1 (own7 (M_X11_restore, 1) (List.mem_of_getElem? (i := 1) rfl)).2 (by decide +kernel) ch_X11_restore (fun wd _ r hr => noThr_ok (by decide +kernel) wd TSS hr)
set_option maxRecDepth 100000 in
theorem cb_X11_status : (M_X11_status).rw.all (rowB CLS MT TSS KD M_X11_status (decide ((M_X11_status).nm.name = "<init>")) ck_X11_status) = true := by decide +kernel
set_option maxRecDepth 100000 in
theorem cw_X11_status : ∀ w ∈ ckW CLS MT (M_X11_status).nm.cls ck_X11_status, w ∈ TW := tw_in [(12, 180), (12, 181), (14, 102)] (by decide +kernel) (by decide +kernel)
set_option maxRecDepth 100000 in
theorem ch_X11_status : ∀ w ∈ hdW M_X11_status, w ∈ TW := fun w h => nomatch h
set_option maxRecDepth 100000 in
theorem ok_X11_status : methOK CLS MT TSS M_X11_status := meth_ok (k := ck_X11_status) (kd := 1) hG_all prim_in inst_in cw_X11_status cb_X11_status (own7 (M_X11_status, 1) (List.mem_of_getElem? (i := 2) rfl)).1 (own7 (M_X11_status, 1) (List.mem_of_getElem? (i := 2) rfl)).2 (by decide +kernel) ch_X11_status (fun wd _ r hr => noThr_ok (by decide +kernel) wd TSS hr)
set_option maxRecDepth 100000 in
theorem cb_X11_count : (M_X11_count).rw.all (rowB CLS MT TSS KD M_X11_count (decide ((M_X11_count).nm.name = "<init>")) ck_X11_count) = true := by decide +kernel
set_option maxRecDepth 100000 in
theorem cw_X11_count : ∀ w ∈ ckW CLS MT (M_X11_count).nm.cls ck_X11_count, w ∈ TW := tw_in [(12, 180), (12, 235), (12, 182), (12, 217)] (by decide +kernel) (by decide +kernel)
set_option maxRecDepth 100000 in
theorem ch_X11_count : ∀ w ∈ hdW M_X11_count, w ∈ TW := fun w h => nomatch h
set_option maxRecDepth 100000 in
theorem ok_X11_count : methOK CLS MT TSS M_X11_count := meth_ok (k := ck_X11_count) (kd := 1) hG_all prim_in inst_in cw_X11_count cb_X11_count (own7 (M_X11_count, 1) (List.mem_of_getElem? (i := 3) rfl)).1 (own7 (M_X11_count, 1) (List.mem_of_getElem? (i := 3) rfl)).2 (by decide +kernel) ch_X11_count (fun wd _ r hr => noThr_ok (by decide +kernel) wd TSS hr)
set_option maxRecDepth 100000 in
theorem cb_L_court : (M_L_court).rw.all (rowB CLS MT TSS KD M_L_court (decide ((M_L_court).nm.name = "<init>")) ck_L_court) = true := by decide +kernel
set_option maxRecDepth 100000 in
theorem cw_L_court : ∀ w ∈ ckW CLS MT (M_L_court).nm.cls ck_L_court, w ∈ TW := tw_in [(9, 130)] (by decide +kernel) (by decide +kernel)
set_option maxRecDepth 100000 in
theorem ch_L_court : ∀ w ∈ hdW M_L_court, w ∈ TW := tw_in [(9, 129), (9, 144)] (by decide +kernel) (by decide +kernel)
set_option maxRecDepth 100000 in
theorem ok_L_court : methOK CLS MT TSS M_L_court := meth_ok (k := ck_L_court) (kd := 0) hG_all prim_in inst_in cw_L_court cb_L_court (own7 (M_L_court, 0) (List.mem_of_getElem? (i := 4) rfl)).1 (own7 (M_L_court, 0) (List.mem_of_getElem? (i := 4) rfl)).2 (by decide +kernel) ch_L_court (fun wd _ r hr => noThr_ok (by decide +kernel) wd TSS hr)
set_option maxRecDepth 100000 in
theorem cb_L_law : (M_L_law).rw.all (rowB CLS MT TSS KD M_L_law (decide ((M_L_law).nm.name = "<init>")) ck_L_law) = true := by decide +kernel
set_option maxRecDepth 100000 in
theorem cw_L_law : ∀ w ∈ ckW CLS MT (M_L_law).nm.cls ck_L_law, w ∈ TW := tw_in [(10, 123)] (by decide +kernel) (by decide +kernel)
set_option maxRecDepth 100000 in
theorem ch_L_law : ∀ w ∈ hdW M_L_law, w ∈ TW := tw_in [(9, 129), (9, 144)] (by decide +kernel) (by decide +kernel)
set_option maxRecDepth 100000 in
theorem ok_L_law : methOK CLS MT TSS M_L_law := meth_ok (k := ck_L_law) (kd := 0) hG_all prim_in inst_in cw_L_law cb_L_law (own7 (M_L_law, 0) (List.mem_of_getElem? (i := 5) rfl)).1 (own7 (M_L_law, 0) (List.mem_of_getElem? (i := 5) rfl)).2 (by decide +kernel) ch_L_law (fun wd _ r hr => noThr_ok (by decide +kernel) wd TSS hr)
set_option maxRecDepth 100000 in
theorem cb_L_work : (M_L_work).rw.all (rowB CLS MT TSS KD M_L_work (decide ((M_L_work).nm.name = "<init>")) ck_L_work) = true := by decide +kernel
set_option maxRecDepth 100000 in
theorem cw_L_work : ∀ w ∈ ckW CLS MT (M_L_work).nm.cls ck_L_work, w ∈ TW := tw_in [(10, 184)] (by decide +kernel) (by decide +kernel)
set_option maxRecDepth 100000 in
theorem ch_L_work : ∀ w ∈ hdW M_L_work, w ∈ TW := tw_in [(9, 129), (9, 144)] (by decide +kernel) (by decide +kernel)
set_option maxRecDepth 100000 in
theorem ok_L_work : methOK CLS MT TSS M_L_work := meth_ok (k := ck_L_work) (kd := 0) hG_all prim_in inst_in cw_L_work cb_L_work (own7 (M_L_work, 0) (List.mem_of_getElem? (i := 6) rfl)).1 (own7 (M_L_work, 0) (List.mem_of_getElem? (i := 6) rfl)).2 (by decide +kernel) ch_L_work (fun wd _ r hr => noThr_ok (by decide +kernel) wd TSS hr)
set_option maxRecDepth 100000 in
theorem cb_L_book : (M_L_book).rw.all (rowB CLS MT TSS KD M_L_book (decide ((M_L_book).nm.name = "<init>")) ck_L_book) = true := by decide +kernel
set_option maxRecDepth 100000 in
theorem cw_L_book : ∀ w ∈ ckW CLS MT (M_L_book).nm.cls ck_L_book, w ∈ TW := tw_in [(11, 35)] (by decide +kernel) (by decide +kernel)
set_option maxRecDepth 100000 in
theorem ch_L_book : ∀ w ∈ hdW M_L_book, w ∈ TW := tw_in [(9, 129), (9, 144)] (by decide +kernel) (by decide +kernel)
set_option maxRecDepth 100000 in
theorem ok_L_book : methOK CLS MT TSS M_L_book := meth_ok (k := ck_L_book) (kd := 0) hG_all prim_in inst_in cw_L_book cb_L_book (own7 (M_L_book, 0) (List.mem_of_getElem? (i := 7) rfl)).1 (own7 (M_L_book, 0) (List.mem_of_getElem? (i := 7) rfl)).2 (by decide +kernel) ch_L_book (fun wd _ r hr => noThr_ok (by decide +kernel) wd TSS hr)
set_option maxRecDepth 100000 in
theorem cb_L_told : (M_L_told).rw.all (rowB CLS MT TSS KD M_L_told (decide ((M_L_told).nm.name = "<init>")) ck_L_told) = true := by decide +kernel
set_option maxRecDepth 100000 in
theorem cw_L_told : ∀ w ∈ ckW CLS MT (M_L_told).nm.cls ck_L_told, w ∈ TW := tw_in [(11, 63)] (by decide +kernel) (by decide +kernel)
set_option maxRecDepth 100000 in
theorem ch_L_told : ∀ w ∈ hdW M_L_told, w ∈ TW := tw_in [(9, 129), (9, 144)] (by decide +kernel) (by decide +kernel)
set_option maxRecDepth 100000 in
theorem ok_L_told : methOK CLS MT TSS M_L_told := meth_ok (k := ck_L_told) (kd := 0) hG_all prim_in inst_in cw_L_told cb_L_told (own7 (M_L_told, 0) (List.mem_of_getElem? (i := 8) rfl)).1 (own7 (M_L_told, 0) (List.mem_of_getElem? (i := 8) rfl)).2 (by decide +kernel) ch_L_told (fun wd _ r hr => noThr_ok (by decide +kernel) wd TSS hr)
set_option maxRecDepth 100000 in
theorem cb_L_saying : (M_L_saying).rw.all (rowB CLS MT TSS KD M_L_saying (decide ((M_L_saying).nm.name = "<init>")) ck_L_saying) = true := by decide +kernel
set_option maxRecDepth 100000 in
theorem cw_L_saying : ∀ w ∈ ckW CLS MT (M_L_saying).nm.cls ck_L_saying, w ∈ TW := tw_in [(11, 72)] (by decide +kernel) (by decide +kernel)
set_option maxRecDepth 100000 in
theorem ch_L_saying : ∀ w ∈ hdW M_L_saying, w ∈ TW := tw_in [(11, 71), (11, 82), (9, 129), (9, 144)] (by decide +kernel) (by decide +kernel)
set_option maxRecDepth 100000 in
theorem ok_L_saying : methOK CLS MT TSS M_L_saying := meth_ok (k := ck_L_saying) (kd := 0) hG_all prim_in inst_in cw_L_saying cb_L_saying (own7 (M_L_saying, 0) (List.mem_of_getElem? (i := 9) rfl)).1 (own7 (M_L_saying, 0) (List.mem_of_getElem? (i := 9) rfl)).2 (by decide +kernel) ch_L_saying (fun wd _ r hr => noThr_ok (by decide +kernel) wd TSS hr)
set_option maxRecDepth 100000 in
theorem cb_L_bird : (M_L_bird).rw.all (rowB CLS MT TSS KD M_L_bird (decide ((M_L_bird).nm.name = "<init>")) ck_L_bird) = true := by decide +kernel
set_option maxRecDepth 100000 in
theorem cw_L_bird : ∀ w ∈ ckW CLS MT (M_L_bird).nm.cls ck_L_bird, w ∈ TW := tw_in [(11, 101)] (by decide +kernel) (by decide +kernel)
set_option maxRecDepth 100000 in
theorem ch_L_bird : ∀ w ∈ hdW M_L_bird, w ∈ TW := tw_in [(11, 71), (11, 82), (9, 129), (9, 144)] (by decide +kernel) (by decide +kernel)
set_option maxRecDepth 100000 in
theorem ok_L_bird : methOK CLS MT TSS M_L_bird := meth_ok (k := ck_L_bird) (kd := 0) hG_all prim_in inst_in cw_L_bird cb_L_bird (own7 (M_L_bird, 0) (List.mem_of_getElem? (i := 10) rfl)).1 (own7 (M_L_bird, 0) (List.mem_of_getElem? (i := 10) rfl)).2 (by decide +kernel) ch_L_bird (fun wd _ r hr => noThr_ok (by decide +kernel) wd TSS hr)
set_option maxRecDepth 100000 in
theorem cb_L_counsel : (M_L_counsel).rw.all (rowB CLS MT TSS KD M_L_counsel (decide ((M_L_counsel).nm.name = "<init>")) ck_L_counsel) = true := by decide +kernel
set_option maxRecDepth 100000 in
theorem cw_L_counsel : ∀ w ∈ ckW CLS MT (M_L_counsel).nm.cls ck_L_counsel, w ∈ TW := tw_in [(11, 108)] (by decide +kernel) (by decide +kernel)
set_option maxRecDepth 100000 in
theorem ch_L_counsel : ∀ w ∈ hdW M_L_counsel, w ∈ TW := tw_in [(11, 71), (11, 82), (9, 129), (9, 144)] (by decide +kernel) (by decide +kernel)
set_option maxRecDepth 100000 in
theorem ok_L_counsel : methOK CLS MT TSS M_L_counsel := meth_ok (k := ck_L_counsel) (kd := 0) hG_all prim_in inst_in cw_L_counsel cb_L_counsel (own7 (M_L_counsel, 0) (List.mem_of_getElem? (i := 11) rfl)).1 (own7 (M_L_counsel, 0) (List.mem_of_getElem? (i := 11) rfl)).2 (by decide +kernel) ch_L_counsel (fun wd _ r hr => noThr_ok (by decide +kernel) wd TSS hr)
set_option maxRecDepth 100000 in
theorem cb_L_would : (M_L_would).rw.all (rowB CLS MT TSS KD M_L_would (decide ((M_L_would).nm.name = "<init>")) ck_L_would) = true := by decide +kernel
set_option maxRecDepth 100000 in
theorem cw_L_would : ∀ w ∈ ckW CLS MT (M_L_would).nm.cls ck_L_would, w ∈ TW := tw_in [(11, 115)] (by decide +kernel) (by decide +kernel)
set_option maxRecDepth 100000 in
theorem ch_L_would : ∀ w ∈ hdW M_L_would, w ∈ TW := tw_in [(9, 129), (9, 144)] (by decide +kernel) (by decide +kernel)
set_option maxRecDepth 100000 in
theorem ok_L_would : methOK CLS MT TSS M_L_would := meth_ok (k := ck_L_would) (kd := 0) hG_all prim_in inst_in cw_L_would cb_L_would (own7 (M_L_would, 0) (List.mem_of_getElem? (i := 12) rfl)).1 (own7 (M_L_would, 0) (List.mem_of_getElem? (i := 12) rfl)).2 (by decide +kernel) ch_L_would (fun wd _ r hr => noThr_ok (by decide +kernel) wd TSS hr)
set_option maxRecDepth 100000 in
theorem cb_L_at : (M_L_at).rw.all (rowB CLS MT TSS KD M_L_at (decide ((M_L_at).nm.name = "<init>")) ck_L_at) = true := by decide +kernel
set_option maxRecDepth 100000 in
theorem cw_L_at : ∀ w ∈ ckW CLS MT (M_L_at).nm.cls ck_L_at, w ∈ TW := tw_in [(11, 123)] (by decide +kernel) (by decide +kernel)
set_option maxRecDepth 100000 in
theorem ch_L_at : ∀ w ∈ hdW M_L_at, w ∈ TW := tw_in [(9, 129), (9, 144)] (by decide +kernel) (by decide +kernel)
set_option maxRecDepth 100000 in
theorem ok_L_at : methOK CLS MT TSS M_L_at := meth_ok (k := ck_L_at) (kd := 0) hG_all prim_in inst_in cw_L_at cb_L_at (own7 (M_L_at, 0) (List.mem_of_getElem? (i := 13) rfl)).1 (own7 (M_L_at, 0) (List.mem_of_getElem? (i := 13) rfl)).2 (by decide +kernel) ch_L_at (fun wd _ r hr => noThr_ok (by decide +kernel) wd TSS hr)
set_option maxRecDepth 100000 in
theorem cb_L_hide : (M_L_hide).rw.all (rowB CLS MT TSS KD M_L_hide (decide ((M_L_hide).nm.name = "<init>")) ck_L_hide) = true := by decide +kernel
set_option maxRecDepth 100000 in
theorem cw_L_hide : ∀ w ∈ ckW CLS MT (M_L_hide).nm.cls ck_L_hide, w ∈ TW := tw_in [(11, 131)] (by decide +kernel) (by decide +kernel)
set_option maxRecDepth 100000 in
theorem ch_L_hide : ∀ w ∈ hdW M_L_hide, w ∈ TW := tw_in [(9, 129), (9, 144)] (by decide +kernel) (by decide +kernel)
set_option maxRecDepth 100000 in
theorem ok_L_hide : methOK CLS MT TSS M_L_hide := meth_ok (k := ck_L_hide) (kd := 0) hG_all prim_in inst_in cw_L_hide cb_L_hide (own7 (M_L_hide, 0) (List.mem_of_getElem? (i := 14) rfl)).1 (own7 (M_L_hide, 0) (List.mem_of_getElem? (i := 14) rfl)).2 (by decide +kernel) ch_L_hide (fun wd _ r hr => noThr_ok (by decide +kernel) wd TSS hr)
set_option maxRecDepth 100000 in
theorem cb_L_follows : (M_L_follows).rw.all (rowB CLS MT TSS KD M_L_follows (decide ((M_L_follows).nm.name = "<init>")) ck_L_follows) = true := by decide +kernel
set_option maxRecDepth 100000 in
theorem cw_L_follows : ∀ w ∈ ckW CLS MT (M_L_follows).nm.cls ck_L_follows, w ∈ TW := tw_in [(11, 165)] (by decide +kernel) (by decide +kernel)
set_option maxRecDepth 100000 in
theorem ch_L_follows : ∀ w ∈ hdW M_L_follows, w ∈ TW := tw_in [(9, 129), (9, 144)] (by decide +kernel) (by decide +kernel)
set_option maxRecDepth 100000 in
theorem ok_L_follows : methOK CLS MT TSS M_L_follows := meth_ok (k := ck_L_follows) (kd := 0) hG_all prim_in inst_in cw_L_follows cb_L_follows (own7 (M_L_follows, 0) (List.mem_of_getElem? (i := 15) rfl)).1 (own7 (M_L_follows, 0) (List.mem_of_getElem? (i := 15) rfl)).2 (by decide +kernel) ch_L_follows (fun wd _ r hr => noThr_ok (by decide +kernel) wd TSS hr)
set_option maxRecDepth 100000 in
theorem cb_L_proof : (M_L_proof).rw.all (rowB CLS MT TSS KD M_L_proof (decide ((M_L_proof).nm.name = "<init>")) ck_L_proof) = true := by decide +kernel
set_option maxRecDepth 100000 in
theorem cw_L_proof : ∀ w ∈ ckW CLS MT (M_L_proof).nm.cls ck_L_proof, w ∈ TW := tw_in [(11, 172)] (by decide +kernel) (by decide +kernel)
set_option maxRecDepth 100000 in
theorem ch_L_proof : ∀ w ∈ hdW M_L_proof, w ∈ TW := tw_in [(11, 71), (11, 82)] (by decide +kernel) (by decide +kernel)
set_option maxRecDepth 100000 in
theorem ok_L_proof : methOK CLS MT TSS M_L_proof := meth_ok (k := ck_L_proof) (kd := 0) hG_all prim_in inst_in cw_L_proof cb_L_proof (own7 (M_L_proof, 0) (List.mem_of_getElem? (i := 16) rfl)).1 (own7 (M_L_proof, 0) (List.mem_of_getElem? (i := 16) rfl)).2 (by decide +kernel) ch_L_proof (fun wd _ r hr => noThr_ok (by decide +kernel) wd TSS hr)
set_option maxRecDepth 100000 in
theorem cb_L_fits : (M_L_fits).rw.all (rowB CLS MT TSS KD M_L_fits (decide ((M_L_fits).nm.name = "<init>")) ck_L_fits) = true := by decide +kernel
set_option maxRecDepth 100000 in
theorem cw_L_fits : ∀ w ∈ ckW CLS MT (M_L_fits).nm.cls ck_L_fits, w ∈ TW := tw_in [(11, 186)] (by decide +kernel) (by decide +kernel)
set_option maxRecDepth 100000 in
theorem ch_L_fits : ∀ w ∈ hdW M_L_fits, w ∈ TW := tw_in [(9, 129), (9, 144)] (by decide +kernel) (by decide +kernel)
set_option maxRecDepth 100000 in
theorem ok_L_fits : methOK CLS MT TSS M_L_fits := meth_ok (k := ck_L_fits) (kd := 0) hG_all prim_in inst_in cw_L_fits cb_L_fits (own7 (M_L_fits, 0) (List.mem_of_getElem? (i := 17) rfl)).1 (own7 (M_L_fits, 0) (List.mem_of_getElem? (i := 17) rfl)).2 (by decide +kernel) ch_L_fits (fun wd _ r hr => noThr_ok (by decide +kernel) wd TSS hr)
set_option maxRecDepth 100000 in
theorem cb_L_look : (M_L_look).rw.all (rowB CLS MT TSS KD M_L_look (decide ((M_L_look).nm.name = "<init>")) ck_L_look) = true := by decide +kernel
set_option maxRecDepth 100000 in
theorem cw_L_look : ∀ w ∈ ckW CLS MT (M_L_look).nm.cls ck_L_look, w ∈ TW := tw_in [(11, 209)] (by decide +kernel) (by decide +kernel)
set_option maxRecDepth 100000 in
theorem ch_L_look : ∀ w ∈ hdW M_L_look, w ∈ TW := tw_in [(9, 129), (9, 144)] (by decide +kernel) (by decide +kernel)
set_option maxRecDepth 100000 in
theorem ok_L_look : methOK CLS MT TSS M_L_look := meth_ok (k := ck_L_look) (kd := 0) hG_all prim_in inst_in cw_L_look cb_L_look (own7 (M_L_look, 0) (List.mem_of_getElem? (i := 18) rfl)).1 (own7 (M_L_look, 0) (List.mem_of_getElem? (i := 18) rfl)).2 (by decide +kernel) ch_L_look (fun wd _ r hr => noThr_ok (by decide +kernel) wd TSS hr)
set_option maxRecDepth 100000 in
theorem cb_L_kind : (M_L_kind).rw.all (rowB CLS MT TSS KD M_L_kind (decide ((M_L_kind).nm.name = "<init>")) ck_L_kind) = true := by decide +kernel
set_option maxRecDepth 100000 in
theorem cw_L_kind : ∀ w ∈ ckW CLS MT (M_L_kind).nm.cls ck_L_kind, w ∈ TW := tw_in [(11, 226)] (by decide +kernel) (by decide +kernel)
set_option maxRecDepth 100000 in
theorem ch_L_kind : ∀ w ∈ hdW M_L_kind, w ∈ TW := tw_in [(9, 129), (9, 144)] (by decide +kernel) (by decide +kernel)
set_option maxRecDepth 100000 in
theorem ok_L_kind : methOK CLS MT TSS M_L_kind := meth_ok (k := ck_L_kind) (kd := 0) hG_all prim_in inst_in cw_L_kind cb_L_kind (own7 (M_L_kind, 0) (List.mem_of_getElem? (i := 19) rfl)).1 (own7 (M_L_kind, 0) (List.mem_of_getElem? (i := 19) rfl)).2 (by decide +kernel) ch_L_kind (fun wd _ r hr => noThr_ok (by decide +kernel) wd TSS hr)
set_option maxRecDepth 100000 in
theorem cb_L_order : (M_L_order).rw.all (rowB CLS MT TSS KD M_L_order (decide ((M_L_order).nm.name = "<init>")) ck_L_order) = true := by decide +kernel
set_option maxRecDepth 100000 in
theorem cw_L_order : ∀ w ∈ ckW CLS MT (M_L_order).nm.cls ck_L_order, w ∈ TW := tw_in [(11, 239)] (by decide +kernel) (by decide +kernel)
set_option maxRecDepth 100000 in
theorem ch_L_order : ∀ w ∈ hdW M_L_order, w ∈ TW := tw_in [(9, 129), (9, 144)] (by decide +kernel) (by decide +kernel)
set_option maxRecDepth 100000 in
theorem ok_L_order : methOK CLS MT TSS M_L_order := meth_ok (k := ck_L_order) (kd := 0) hG_all prim_in inst_in cw_L_order cb_L_order (own7 (M_L_order, 0) (List.mem_of_getElem? (i := 20) rfl)).1 (own7 (M_L_order, 0) (List.mem_of_getElem? (i := 20) rfl)).2 (by decide +kernel) ch_L_order (fun wd _ r hr => noThr_ok (by decide +kernel) wd TSS hr)
set_option maxRecDepth 100000 in
theorem cb_L_loaf : (M_L_loaf).rw.all (rowB CLS MT TSS KD M_L_loaf (decide ((M_L_loaf).nm.name = "<init>")) ck_L_loaf) = true := by decide +kernel
set_option maxRecDepth 100000 in
theorem cw_L_loaf : ∀ w ∈ ckW CLS MT (M_L_loaf).nm.cls ck_L_loaf, w ∈ TW := tw_in [(12, 12)] (by decide +kernel) (by decide +kernel)
set_option maxRecDepth 100000 in
theorem ch_L_loaf : ∀ w ∈ hdW M_L_loaf, w ∈ TW := tw_in [(11, 71), (11, 82), (9, 129), (9, 144)] (by decide +kernel) (by decide +kernel)
set_option maxRecDepth 100000 in
theorem ok_L_loaf : methOK CLS MT TSS M_L_loaf := meth_ok (k := ck_L_loaf) (kd := 0) hG_all prim_in inst_in cw_L_loaf cb_L_loaf (own7 (M_L_loaf, 0) (List.mem_of_getElem? (i := 21) rfl)).1 (own7 (M_L_loaf, 0) (List.mem_of_getElem? (i := 21) rfl)).2 (by decide +kernel) ch_L_loaf (fun wd _ r hr => noThr_ok (by decide +kernel) wd TSS hr)
set_option maxRecDepth 100000 in
theorem cb_L_loss : (M_L_loss).rw.all (rowB CLS MT TSS KD M_L_loss (decide ((M_L_loss).nm.name = "<init>")) ck_L_loss) = true := by decide +kernel
set_option maxRecDepth 100000 in
theorem cw_L_loss : ∀ w ∈ ckW CLS MT (M_L_loss).nm.cls ck_L_loss, w ∈ TW := tw_in [(12, 22)] (by decide +kernel) (by decide +kernel)
set_option maxRecDepth 100000 in
theorem ch_L_loss : ∀ w ∈ hdW M_L_loss, w ∈ TW := tw_in [(9, 129), (9, 144)] (by decide +kernel) (by decide +kernel)
set_option maxRecDepth 100000 in
theorem ok_L_loss : methOK CLS MT TSS M_L_loss := meth_ok (k := ck_L_loss) (kd := 0) hG_all prim_in inst_in cw_L_loss cb_L_loss (own7 (M_L_loss, 0) (List.mem_of_getElem? (i := 22) rfl)).1 (own7 (M_L_loss, 0) (List.mem_of_getElem? (i := 22) rfl)).2 (by decide +kernel) ch_L_loss (fun wd _ r hr => noThr_ok (by decide +kernel) wd TSS hr)
set_option maxRecDepth 100000 in
theorem cb_L_next : (M_L_next).rw.all (rowB CLS MT TSS KD M_L_next (decide ((M_L_next).nm.name = "<init>")) ck_L_next) = true := by decide +kernel
set_option maxRecDepth 100000 in
theorem cw_L_next : ∀ w ∈ ckW CLS MT (M_L_next).nm.cls ck_L_next, w ∈ TW := tw_in [(12, 38)] (by decide +kernel) (by decide +kernel)
set_option maxRecDepth 100000 in
theorem ch_L_next : ∀ w ∈ hdW M_L_next, w ∈ TW := tw_in [(9, 129), (9, 144)] (by decide +kernel) (by decide +kernel)
set_option maxRecDepth 100000 in
theorem ok_L_next : methOK CLS MT TSS M_L_next := meth_ok (k := ck_L_next) (kd := 0) hG_all prim_in inst_in cw_L_next cb_L_next (own7 (M_L_next, 0) (List.mem_of_getElem? (i := 23) rfl)).1 (own7 (M_L_next, 0) (List.mem_of_getElem? (i := 23) rfl)).2 (by decide +kernel) ch_L_next (fun wd _ r hr => noThr_ok (by decide +kernel) wd TSS hr)
set_option maxRecDepth 100000 in
theorem cb_L_side : (M_L_side).rw.all (rowB CLS MT TSS KD M_L_side (decide ((M_L_side).nm.name = "<init>")) ck_L_side) = true := by decide +kernel
set_option maxRecDepth 100000 in
theorem cw_L_side : ∀ w ∈ ckW CLS MT (M_L_side).nm.cls ck_L_side, w ∈ TW := tw_in [(12, 49)] (by decide +kernel) (by decide +kernel)
set_option maxRecDepth 100000 in
theorem ch_L_side : ∀ w ∈ hdW M_L_side, w ∈ TW := tw_in [(9, 129), (9, 144)] (by decide +kernel) (by decide +kernel)
set_option maxRecDepth 100000 in
theorem ok_L_side : methOK CLS MT TSS M_L_side := meth_ok (k := ck_L_side) (kd := 0) hG_all prim_in inst_in cw_L_side cb_L_side (own7 (M_L_side, 0) (List.mem_of_getElem? (i := 24) rfl)).1 (own7 (M_L_side, 0) (List.mem_of_getElem? (i := 24) rfl)).2 (by decide +kernel) ch_L_side (fun wd _ r hr => noThr_ok (by decide +kernel) wd TSS hr)
set_option maxRecDepth 100000 in
theorem cb_L_leaders : (M_L_leaders).rw.all (rowB CLS MT TSS KD M_L_leaders (decide ((M_L_leaders).nm.name = "<init>")) ck_L_leaders) = true := by decide +kernel
set_option maxRecDepth 100000 in
theorem cw_L_leaders : ∀ w ∈ ckW CLS MT (M_L_leaders).nm.cls ck_L_leaders, w ∈ TW := tw_in [(12, 64)] (by decide +kernel) (by decide +kernel)
set_option maxRecDepth 100000 in
theorem ch_L_leaders : ∀ w ∈ hdW M_L_leaders, w ∈ TW := tw_in [(11, 71), (11, 82), (9, 129), (9, 144)] (by decide +kernel) (by decide +kernel)
set_option maxRecDepth 100000 in
theorem ok_L_leaders : methOK CLS MT TSS M_L_leaders := meth_ok (k := ck_L_leaders) (kd := 0) hG_all prim_in inst_in cw_L_leaders cb_L_leaders (own7 (M_L_leaders, 0) (List.mem_of_getElem? (i := 25) rfl)).1 (own7 (M_L_leaders, 0) (List.mem_of_getElem? (i := 25) rfl)).2 (by decide +kernel) ch_L_leaders (fun wd _ r hr => noThr_ok (by decide +kernel) wd TSS hr)
set_option maxRecDepth 100000 in
theorem cb_L_over : (M_L_over).rw.all (rowB CLS MT TSS KD M_L_over (decide ((M_L_over).nm.name = "<init>")) ck_L_over) = true := by decide +kernel
set_option maxRecDepth 100000 in
theorem cw_L_over : ∀ w ∈ ckW CLS MT (M_L_over).nm.cls ck_L_over, w ∈ TW := tw_in [(12, 72)] (by decide +kernel) (by decide +kernel)
set_option maxRecDepth 100000 in
theorem ch_L_over : ∀ w ∈ hdW M_L_over, w ∈ TW := tw_in [(11, 71), (11, 82)] (by decide +kernel) (by decide +kernel)
set_option maxRecDepth 100000 in
theorem ok_L_over : methOK CLS MT TSS M_L_over := meth_ok (k := ck_L_over) (kd := 0) hG_all prim_in inst_in cw_L_over cb_L_over (own7 (M_L_over, 0) (List.mem_of_getElem? (i := 26) rfl)).1 (own7 (M_L_over, 0) (List.mem_of_getElem? (i := 26) rfl)).2 (by decide +kernel) ch_L_over (fun wd _ r hr => noThr_ok (by decide +kernel) wd TSS hr)
set_option maxRecDepth 100000 in
theorem cb_L_delay : (M_L_delay).rw.all (rowB CLS MT TSS KD M_L_delay (decide ((M_L_delay).nm.name = "<init>")) ck_L_delay) = true := by decide +kernel
set_option maxRecDepth 100000 in
theorem cw_L_delay : ∀ w ∈ ckW CLS MT (M_L_delay).nm.cls ck_L_delay, w ∈ TW := tw_in [(12, 79)] (by decide +kernel) (by decide +kernel)
set_option maxRecDepth 100000 in
theorem ch_L_delay : ∀ w ∈ hdW M_L_delay, w ∈ TW := tw_in [(11, 71), (11, 82)] (by decide +kernel) (by decide +kernel)
set_option maxRecDepth 100000 in
theorem ok_L_delay : methOK CLS MT TSS M_L_delay := meth_ok (k := ck_L_delay) (kd := 0) hG_all prim_in inst_in cw_L_delay cb_L_delay (own7 (M_L_delay, 0) (List.mem_of_getElem? (i := 27) rfl)).1 (own7 (M_L_delay, 0) (List.mem_of_getElem? (i := 27) rfl)).2 (by decide +kernel) ch_L_delay (fun wd _ r hr => noThr_ok (by decide +kernel) wd TSS hr)
set_option maxRecDepth 100000 in
theorem cb_L_point : (M_L_point).rw.all (rowB CLS MT TSS KD M_L_point (decide ((M_L_point).nm.name = "<init>")) ck_L_point) = true := by decide +kernel
set_option maxRecDepth 100000 in
theorem cw_L_point : ∀ w ∈ ckW CLS MT (M_L_point).nm.cls ck_L_point, w ∈ TW := tw_in [(12, 86)] (by decide +kernel) (by decide +kernel)
set_option maxRecDepth 100000 in
theorem ch_L_point : ∀ w ∈ hdW M_L_point, w ∈ TW := tw_in [(9, 129), (9, 144)] (by decide +kernel) (by decide +kernel)
set_option maxRecDepth 100000 in
theorem ok_L_point : methOK CLS MT TSS M_L_point := meth_ok (k := ck_L_point) (kd := 0) hG_all prim_in inst_in cw_L_point cb_L_point (own7 (M_L_point, 0) (List.mem_of_getElem? (i := 28) rfl)).1 (own7 (M_L_point, 0) (List.mem_of_getElem? (i := 28) rfl)).2 (by decide +kernel) ch_L_point (fun wd _ r hr => noThr_ok (by decide +kernel) wd TSS hr)
set_option maxRecDepth 100000 in
theorem cb_L_purse : (M_L_purse).rw.all (rowB CLS MT TSS KD M_L_purse (decide ((M_L_purse).nm.name = "<init>")) ck_L_purse) = true := by decide +kernel
set_option maxRecDepth 100000 in
theorem cw_L_purse : ∀ w ∈ ckW CLS MT (M_L_purse).nm.cls ck_L_purse, w ∈ TW := tw_in [(12, 93)] (by decide +kernel) (by decide +kernel)
set_option maxRecDepth 100000 in
theorem ch_L_purse : ∀ w ∈ hdW M_L_purse, w ∈ TW := tw_in [(9, 129), (9, 144)] (by decide +kernel) (by decide +kernel)
set_option maxRecDepth 100000 in
theorem ok_L_purse : methOK CLS MT TSS M_L_purse := meth_ok (k := ck_L_purse) (kd := 0) hG_all prim_in inst_in cw_L_purse cb_L_purse (own7 (M_L_purse, 0) (List.mem_of_getElem? (i := 29) rfl)).1 (own7 (M_L_purse, 0) (List.mem_of_getElem? (i := 29) rfl)).2 (by decide +kernel) ch_L_purse (fun wd _ r hr => noThr_ok (by decide +kernel) wd TSS hr)
set_option maxRecDepth 100000 in
theorem cb_L_crowd : (M_L_crowd).rw.all (rowB CLS MT TSS KD M_L_crowd (decide ((M_L_crowd).nm.name = "<init>")) ck_L_crowd) = true := by decide +kernel
set_option maxRecDepth 100000 in
theorem cw_L_crowd : ∀ w ∈ ckW CLS MT (M_L_crowd).nm.cls ck_L_crowd, w ∈ TW := tw_in [(12, 100)] (by decide +kernel) (by decide +kernel)
set_option maxRecDepth 100000 in
theorem ch_L_crowd : ∀ w ∈ hdW M_L_crowd, w ∈ TW := tw_in [(9, 129), (9, 144)] (by decide +kernel) (by decide +kernel)
set_option maxRecDepth 100000 in
theorem ok_L_crowd : methOK CLS MT TSS M_L_crowd := meth_ok (k := ck_L_crowd) (kd := 0) hG_all prim_in inst_in cw_L_crowd cb_L_crowd (own7 (M_L_crowd, 0) (List.mem_of_getElem? (i := 30) rfl)).1 (own7 (M_L_crowd, 0) (List.mem_of_getElem? (i := 30) rfl)).2 (by decide +kernel) ch_L_crowd (fun wd _ r hr => noThr_ok (by decide +kernel) wd TSS hr)
set_option maxRecDepth 100000 in
theorem cb_L_swing : (M_L_swing).rw.all (rowB CLS MT TSS KD M_L_swing (decide ((M_L_swing).nm.name = "<init>")) ck_L_swing) = true := by decide +kernel
set_option maxRecDepth 100000 in
theorem cw_L_swing : ∀ w ∈ ckW CLS MT (M_L_swing).nm.cls ck_L_swing, w ∈ TW := tw_in [(12, 107)] (by decide +kernel) (by decide +kernel)
set_option maxRecDepth 100000 in
theorem ch_L_swing : ∀ w ∈ hdW M_L_swing, w ∈ TW := tw_in [(11, 71), (11, 82)] (by decide +kernel) (by decide +kernel)
set_option maxRecDepth 100000 in
theorem ok_L_swing : methOK CLS MT TSS M_L_swing := meth_ok (k := ck_L_swing) (kd := 0) hG_all prim_in inst_in cw_L_swing cb_L_swing (own7 (M_L_swing, 0) (List.mem_of_getElem? (i := 31) rfl)).1 (own7 (M_L_swing, 0) (List.mem_of_getElem? (i := 31) rfl)).2 (by decide +kernel) ch_L_swing (fun wd _ r hr => noThr_ok (by decide +kernel) wd TSS hr)
set_option maxRecDepth 100000 in
theorem cb_L_when : (M_L_when).rw.all (rowB CLS MT TSS KD M_L_when (decide ((M_L_when).nm.name = "<init>")) ck_L_when) = true := by decide +kernel
set_option maxRecDepth 100000 in
theorem cw_L_when : ∀ w ∈ ckW CLS MT (M_L_when).nm.cls ck_L_when, w ∈ TW := tw_in [(12, 114)] (by decide +kernel) (by decide +kernel)
set_option maxRecDepth 100000 in
theorem ch_L_when : ∀ w ∈ hdW M_L_when, w ∈ TW := tw_in [(9, 129), (9, 144)] (by decide +kernel) (by decide +kernel)
set_option maxRecDepth 100000 in
theorem ok_L_when : methOK CLS MT TSS M_L_when := meth_ok (k := ck_L_when) (kd := 0) hG_all prim_in inst_in cw_L_when cb_L_when (own7 (M_L_when, 0) (List.mem_of_getElem? (i := 32) rfl)).1 (own7 (M_L_when, 0) (List.mem_of_getElem? (i := 32) rfl)).2 (by decide +kernel) ch_L_when (fun wd _ r hr => noThr_ok (by decide +kernel) wd TSS hr)
set_option maxRecDepth 100000 in
theorem cb_L_term : (M_L_term).rw.all (rowB CLS MT TSS KD M_L_term (decide ((M_L_term).nm.name = "<init>")) ck_L_term) = true := by decide +kernel
set_option maxRecDepth 100000 in
theorem cw_L_term : ∀ w ∈ ckW CLS MT (M_L_term).nm.cls ck_L_term, w ∈ TW := tw_in [(12, 121)] (by decide +kernel) (by decide +kernel)
set_option maxRecDepth 100000 in
theorem ch_L_term : ∀ w ∈ hdW M_L_term, w ∈ TW := tw_in [(9, 129), (9, 144)] (by decide +kernel) (by decide +kernel)
set_option maxRecDepth 100000 in
theorem ok_L_term : methOK CLS MT TSS M_L_term := meth_ok (k := ck_L_term) (kd := 0) hG_all prim_in inst_in cw_L_term cb_L_term (own7 (M_L_term, 0) (List.mem_of_getElem? (i := 33) rfl)).1 (own7 (M_L_term, 0) (List.mem_of_getElem? (i := 33) rfl)).2 (by decide +kernel) ch_L_term (fun wd _ r hr => noThr_ok (by decide +kernel) wd TSS hr)
set_option maxRecDepth 100000 in
theorem cb_L_span : (M_L_span).rw.all (rowB CLS MT TSS KD M_L_span (decide ((M_L_span).nm.name = "<init>")) ck_L_span) = true := by decide +kernel
set_option maxRecDepth 100000 in
theorem cw_L_span : ∀ w ∈ ckW CLS MT (M_L_span).nm.cls ck_L_span, w ∈ TW := tw_in [(12, 153)] (by decide +kernel) (by decide +kernel)
set_option maxRecDepth 100000 in
theorem ch_L_span : ∀ w ∈ hdW M_L_span, w ∈ TW := tw_in [(9, 129), (9, 144)] (by decide +kernel) (by decide +kernel)
set_option maxRecDepth 100000 in
theorem ok_L_span : methOK CLS MT TSS M_L_span := meth_ok (k := ck_L_span) (kd := 0) hG_all prim_in inst_in cw_L_span cb_L_span (own7 (M_L_span, 0) (List.mem_of_getElem? (i := 34) rfl)).1 (own7 (M_L_span, 0) (List.mem_of_getElem? (i := 34) rfl)).2 (by decide +kernel) ch_L_span (fun wd _ r hr => noThr_ok (by decide +kernel) wd TSS hr)
set_option maxRecDepth 100000 in
theorem cb_J6_bitCount_0f7a4 : (M_J6_bitCount_0f7a4).rw.all (rowB CLS MT TSS KD M_J6_bitCount_0f7a4 (decide ((M_J6_bitCount_0f7a4).nm.name = "<init>")) ck_J6_bitCount_0f7a4) = true := by decide +kernel
set_option maxRecDepth 100000 in
theorem cw_J6_bitCount_0f7a4 : ∀ w ∈ ckW CLS MT (M_J6_bitCount_0f7a4).nm.cls ck_J6_bitCount_0f7a4, w ∈ TW := tw_in [(8, 237), (8, 238), (8, 239)] (by decide +kernel) (by decide +kernel)
set_option maxRecDepth 100000 in
theorem ch_J6_bitCount_0f7a4 : ∀ w ∈ hdW M_J6_bitCount_0f7a4, w ∈ TW := fun w h => nomatch h
set_option maxRecDepth 100000 in
theorem ok_J6_bitCount_0f7a4 : methOK CLS MT TSS M_J6_bitCount_0f7a4 := meth_ok (k := ck_J6_bitCount_0f7a4) (kd := 0) hG_all prim_in inst_in cw_J6_bitCount_0f7a4 cb_J6_bitCount_0f7a4 (own7 (M_J6_bitCount_0f7a4, 0) (List.mem_of_getElem? (i := 35) rfl)).1 (own7 (M_J6_bitCount_0f7a4, 0) (List.mem_of_getElem? (i := 35) rfl)).2 (by decide +kernel) ch_J6_bitCount_0f7a4 (fun wd _ r hr => noThr_ok (by decide +kernel) wd TSS hr)
set_option maxRecDepth 100000 in
theorem okc7 : ∀ q ∈ MTK7, methOK CLS MT TSS q.1 := List.forall_mem_cons.mpr ⟨ok_X11_image, List.forall_mem_cons.mpr ⟨ok_X11_restore, List.forall_mem_cons.mpr ⟨ok_X11_status, List.forall_mem_cons.mpr ⟨ok_X11_count, List.forall_mem_cons.mpr ⟨ok_L_court, List.forall_mem_cons.mpr ⟨ok_L_law, List.forall_mem_cons.mpr ⟨ok_L_work, List.forall_mem_cons.mpr ⟨ok_L_book, List.forall_mem_cons.mpr ⟨ok_L_told, List.forall_mem_cons.mpr ⟨ok_L_saying, List.forall_mem_cons.mpr ⟨ok_L_bird, List.forall_mem_cons.mpr ⟨ok_L_counsel, List.forall_mem_cons.mpr ⟨ok_L_would, List.forall_mem_cons.mpr ⟨ok_L_at, List.forall_mem_cons.mpr ⟨ok_L_hide, List.forall_mem_cons.mpr ⟨ok_L_follows, List.forall_mem_cons.mpr ⟨ok_L_proof, List.forall_mem_cons.mpr ⟨ok_L_fits, List.forall_mem_cons.mpr ⟨ok_L_look, List.forall_mem_cons.mpr ⟨ok_L_kind, List.forall_mem_cons.mpr ⟨ok_L_order, List.forall_mem_cons.mpr ⟨ok_L_loaf, List.forall_mem_cons.mpr ⟨ok_L_loss, List.forall_mem_cons.mpr ⟨ok_L_next, List.forall_mem_cons.mpr ⟨ok_L_side, List.forall_mem_cons.mpr ⟨ok_L_leaders, List.forall_mem_cons.mpr ⟨ok_L_over, List.forall_mem_cons.mpr ⟨ok_L_delay, List.forall_mem_cons.mpr ⟨ok_L_point, List.forall_mem_cons.mpr ⟨ok_L_purse, List.forall_mem_cons.mpr ⟨ok_L_crowd, List.forall_mem_cons.mpr ⟨ok_L_swing, List.forall_mem_cons.mpr ⟨ok_L_when, List.forall_mem_cons.mpr ⟨ok_L_term, List.forall_mem_cons.mpr ⟨ok_L_span, List.forall_mem_cons.mpr ⟨ok_J6_bitCount_0f7a4, fun _ h => nomatch h⟩⟩⟩⟩⟩⟩⟩⟩⟩⟩⟩⟩⟩⟩⟩⟩⟩⟩⟩⟩⟩⟩⟩⟩⟩⟩⟩⟩⟩⟩⟩⟩⟩⟩⟩⟩
