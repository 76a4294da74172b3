/-! Rows checked. -/
set_option maxRecDepth 100000 in
theorem cb_X11_walkNow : (M_X11_walkNow).rw.all (rowB CLS MT TSS KD M_X11_walkNow (decide ((M_X11_walkNow).nm.name = "<init>")) ck_X11_walkNow) = true := by decide +kernel
set_option maxRecDepth 100000 in
theorem cw_X11_walkNow : ∀ w ∈ ckW CLS MT (M_X11_walkNow).nm.cls ck_X11_walkNow, w ∈ TW := tw_in [(12, 212), (12, 213), (14, 83)] (by decide +kernel) (by decide +kernel)
set_option maxRecDepth 100000 in
theorem ch_X11_walkNow : ∀ w ∈ hdW M_X11_walkNow, w ∈ TW := fun w h => nomatch h
set_option maxRecDepth 100000 in
theorem ok_X11_walkNow : methOK CLS MT TSS M_X11_walkNow := meth_ok (k := ck_X11_walkNow) (kd := 1) hG_all prim_in inst_in cw_X11_walkNow cb_X11_walkNow (own5 (M_X11_walkNow, 1) (List.mem_of_getElem? (i := 0) rfl)).1 (own5 (M_X11_walkNow, 1) (List.mem_of_getElem? (i := 0) rfl)).2 (by decide +kernel) ch_X11_walkNow (fun wd _ r hr => noThr_ok (by decide +kernel) wd TSS hr)
set_option maxRecDepth 100000 in
theorem cb_X11_tellsStep : (M_X11_tellsStep).rw.all (rowB CLS MT TSS KD M_X11_tellsStep (decide ((M_X11_tellsStep).nm.name = "<init>")) ck_X11_tellsStep) = true := by decide +kernel
set_option maxRecDepth 100000 in
theorem cw_X11_tellsStep : ∀ w ∈ ckW CLS MT (M_X11_tellsStep).nm.cls ck_X11_tellsStep, w ∈ TW := tw_in [(12, 214), (12, 216), (13, 130)] (by decide +kernel) (by decide +kernel)
set_option maxRecDepth 100000 in
theorem ch_X11_tellsStep : ∀ w ∈ hdW M_X11_tellsStep, w ∈ TW := fun w h => nomatch h
set_option maxRecDepth 100000 in
theorem ok_X11_tellsStep : methOK CLS MT TSS M_X11_tellsStep := meth_ok (k := ck_X11_tellsStep) (kd := 1) hG_all prim_in inst_in cw_X11_tellsStep cb_X11_tellsStep (own5 (M_X11_tellsStep, 1) (List.mem_of_getElem? (i := 1) rfl)).1 (own5 (M_X11_tellsStep, 1) (List.mem_of_getElem? (i := 1) rfl)).2 (by decide +kernel) ch_X11_tellsStep (fun wd _ r hr => noThr_ok (by decide +kernel) wd TSS hr)
set_option maxRecDepth 100000 in
theorem cb_X11_stepOf : (M_X11_stepOf).rw.all (rowB CLS MT TSS KD M_X11_stepOf (decide ((M_X11_stepOf).nm.name = "<init>")) ck_X11_stepOf) = true := by decide +kernel
set_option maxRecDepth 100000 in
theorem cw_X11_stepOf : ∀ w ∈ ckW CLS MT (M_X11_stepOf).nm.cls ck_X11_stepOf, w ∈ TW := tw_in [(13, 160)] (by decide +kernel) (by decide +kernel)
set_option maxRecDepth 100000 in
theorem ch_X11_stepOf : ∀ w ∈ hdW M_X11_stepOf, w ∈ TW := fun w h => nomatch h
set_option maxRecDepth 100000 in
theorem ok_X11_stepOf : methOK CLS MT TSS M_X11_stepOf := meth_ok (k := ck_X11_stepOf) (kd := 0) hG_all prim_in inst_in cw_X11_stepOf cb_X11_stepOf (own5 (M_X11_stepOf, 0) (List.mem_of_getElem? (i := 2) rfl)).1 (own5 (M_X11_stepOf, 0) (List.mem_of_getElem? (i := 2) rfl)).2 (by decide +kernel) ch_X11_stepOf (fun wd _ r hr => noThr_ok (by decide +kernel) wd TSS hr)
set_option maxRecDepth 100000 in
theorem cb_X11_readAgain : (M_X11_readAgain).rw.all (rowB CLS MT TSS KD M_X11_readAgain (decide ((M_X11_readAgain).nm.name = "<init>")) ck_X11_readAgain) = true := by decide +kernel
set_option maxRecDepth 100000 in
theorem cw_X11_readAgain : ∀ w ∈ ckW CLS MT (M_X11_readAgain).nm.cls ck_X11_readAgain, w ∈ TW := tw_in [(12, 216), (12, 187), (12, 214), (13, 212), (13, 181), (13, 188), (14, 16), (13, 130), (13, 138), (13, 239)] (by decide +kernel) (by decide +kernel)
set_option maxRecDepth 100000 in
theorem ch_X11_readAgain : ∀ w ∈ hdW M_X11_readAgain, w ∈ TW := fun w h => nomatch h
set_option maxRecDepth 100000 in
theorem ok_X11_readAgain : methOK CLS MT TSS M_X11_readAgain := meth_ok (k := ck_X11_readAgain) (kd := 1) hG_all prim_in inst_in cw_X11_readAgain cb_X11_readAgain (own5 (M_X11_readAgain, 1) (List.mem_of_getElem? (i := 3) rfl)).1 (own5 (M_X11_readAgain, 1) (List.mem_of_getElem? (i := 3) rfl)).2 (by decide +kernel) ch_X11_readAgain (fun wd _ r hr => noThr_ok (by decide +kernel) wd TSS hr)
set_option maxRecDepth 100000 in
theorem cb_X11_readStep : (M_X11_readStep).rw.all (rowB CLS MT TSS KD M_X11_readStep (decide ((M_X11_readStep).nm.name = "<init>")) ck_X11_readStep) = true := by decide +kernel
set_option maxRecDepth 100000 in
theorem cw_X11_readStep : ∀ w ∈ ckW CLS MT (M_X11_readStep).nm.cls ck_X11_readStep, w ∈ TW := tw_in [(12, 184), (12, 202), (12, 205), (12, 204), (13, 142), (14, 3), (13, 165), (14, 12), (13, 173), (13, 181), (14, 16), (13, 188)] (by decide +kernel) (by decide +kernel)
set_option maxRecDepth 100000 in
theorem ch_X11_readStep : ∀ w ∈ hdW M_X11_readStep, w ∈ TW := fun w h => nomatch h
set_option maxRecDepth 100000 in
theorem ok_X11_readStep : methOK CLS MT TSS M_X11_readStep := meth_ok (k := ck_X11_readStep) (kd := 1) hG_all prim_in inst_in cw_X11_readStep cb_X11_readStep (own5 (M_X11_readStep, 1) (List.mem_of_getElem? (i := 4) rfl)).1 (own5 (M_X11_readStep, 1) (List.mem_of_getElem? (i := 4) rfl)).2 (by decide +kernel) ch_X11_readStep (fun wd _ r hr => noThr_ok (by decide +kernel) wd TSS hr)
set_option maxRecDepth 100000 in
theorem cb_X11_work : (M_X11_work).rw.all (rowB CLS MT TSS KD M_X11_work (decide ((M_X11_work).nm.name = "<init>")) ck_X11_work) = true := by decide +kernel
set_option maxRecDepth 100000 in
theorem cw_X11_work : ∀ w ∈ ckW CLS MT (M_X11_work).nm.cls ck_X11_work, w ∈ TW := tw_in [(12, 180), (12, 182), (12, 217), (12, 216), (12, 185), (12, 214), (12, 215), (12, 224), (12, 222), (12, 219), (12, 220), (12, 221), (12, 223), (12, 218), (13, 122), (13, 126), (13, 192), (13, 130), (13, 134), (13, 239), (12, 176), (14, 20), (14, 24)] (by decide +kernel) (by decide +kernel)
set_option maxRecDepth 100000 in
theorem ch_X11_work : ∀ w ∈ hdW M_X11_work, w ∈ TW := fun w h => nomatch h
set_option maxRecDepth 100000 in
theorem ok_X11_work : methOK CLS MT TSS M_X11_work := meth_ok (k := ck_X11_work) (kd := 1) hG_all prim_in inst_in cw_X11_work cb_X11_work (own5 (M_X11_work, 1) (List.mem_of_getElem? (i := 5) rfl)).1 (own5 (M_X11_work, 1) (List.mem_of_getElem? (i := 5) rfl)).2 (by decide +kernel) ch_X11_work (fun wd _ r hr => noThr_ok (by decide +kernel) wd TSS hr)
set_option maxRecDepth 100000 in
theorem cb_X11_goesSteps : (M_X11_goesSteps).rw.all (rowB CLS MT TSS KD M_X11_goesSteps (decide ((M_X11_goesSteps).nm.name = "<init>")) ck_X11_goesSteps) = true := by decide +kernel
set_option maxRecDepth 100000 in
theorem cw_X11_goesSteps : ∀ w ∈ ckW CLS MT (M_X11_goesSteps).nm.cls ck_X11_goesSteps, w ∈ TW := tw_in [(12, 219), (12, 215), (12, 220), (12, 221), (14, 24), (14, 28)] (by decide +kernel) (by decide +kernel)
set_option maxRecDepth 100000 in
theorem ch_X11_goesSteps : ∀ w ∈ hdW M_X11_goesSteps, w ∈ TW := fun w h => nomatch h
set_option maxRecDepth 100000 in
theorem ok_X11_goesSteps : methOK CLS MT TSS M_X11_goesSteps := meth_ok (k := ck_X11_goesSteps) (kd := 1) hG_all prim_in inst_in cw_X11_goesSteps cb_X11_goesSteps (own5 (M_X11_goesSteps, 1) (List.mem_of_getElem? (i := 6) rfl)).1 (own5 (M_X11_goesSteps, 1) (List.mem_of_getElem? (i := 6) rfl)).2 (by decide +kernel) ch_X11_goesSteps (fun wd _ r hr => noThr_ok (by decide +kernel) wd TSS hr)
set_option maxRecDepth 100000 in
theorem cb_X11_take : (M_X11_take).rw.all (rowB CLS MT TSS KD M_X11_take (decide ((M_X11_take).nm.name = "<init>")) ck_X11_take) = true := by decide +kernel
set_option maxRecDepth 100000 in
theorem cw_X11_take : ∀ w ∈ ckW CLS MT (M_X11_take).nm.cls ck_X11_take, w ∈ TW := tw_in [(12, 222), (12, 223), (12, 176)] (by decide +kernel) (by decide +kernel)
set_option maxRecDepth 100000 in
theorem ch_X11_take : ∀ w ∈ hdW M_X11_take, w ∈ TW := fun w h => nomatch h
set_option maxRecDepth 100000 in
theorem ok_X11_take : methOK CLS MT TSS M_X11_take := meth_ok (k := ck_X11_take) (kd := 1) hG_all prim_in inst_in cw_X11_take cb_X11_take (own5 (M_X11_take, 1) (List.mem_of_getElem? (i := 7) rfl)).1 (own5 (M_X11_take, 1) (List.mem_of_getElem? (i := 7) rfl)).2 (by decide +kernel) ch_X11_take (fun wd _ r hr => noThr_ok (by decide +kernel) wd TSS hr)
set_option maxRecDepth 100000 in
theorem cb_X11_ones : (M_X11_ones).rw.all (rowB CLS MT TSS KD M_X11_ones (decide ((M_X11_ones).nm.name = "<init>")) ck_X11_ones) = true := by decide +kernel
set_option maxRecDepth 100000 in
theorem cw_X11_ones : ∀ w ∈ ckW CLS MT (M_X11_ones).nm.cls ck_X11_ones, w ∈ TW := tw_in [] (by decide +kernel) (by decide +kernel)
set_option maxRecDepth 100000 in
theorem ch_X11_ones : ∀ w ∈ hdW M_X11_ones, w ∈ TW := fun w h => nomatch h
set_option maxRecDepth 100000 in
theorem ok_X11_ones : methOK CLS MT TSS M_X11_ones := meth_ok (k := ck_X11_ones) (kd := 0) hG_all prim_in inst_in cw_X11_ones cb_X11_ones (own5 (M_X11_ones, 0) (List.mem_of_getElem? (i := 8) rfl)).1 (own5 (M_X11_ones, 0) (List.mem_of_getElem? (i := 8) rfl)).2 (by decide +kernel) ch_X11_ones (fun wd _ r hr => noThr_ok (by decide +kernel) wd TSS hr)
set_option maxRecDepth 100000 in
theorem cb_X11_sumOf : (M_X11_sumOf).rw.all (rowB CLS MT TSS KD M_X11_sumOf (decide ((M_X11_sumOf).nm.name = "<init>")) ck_X11_sumOf) = true := by decide +kernel
set_option maxRecDepth 100000 in
theorem cw_X11_sumOf : ∀ w ∈ ckW CLS MT (M_X11_sumOf).nm.cls ck_X11_sumOf, w ∈ TW := tw_in [(12, 223)] (by decide +kernel) (by decide +kernel)
set_option maxRecDepth 100000 in
theorem ch_X11_sumOf : ∀ w ∈ hdW M_X11_sumOf, w ∈ TW := fun w h => nomatch h
set_option maxRecDepth 100000 in
theorem ok_X11_sumOf : methOK CLS MT TSS M_X11_sumOf := meth_ok (k := ck_X11_sumOf) (kd := 1) hG_all prim_in inst_in cw_X11_sumOf cb_X11_sumOf (own5 (M_X11_sumOf, 1) (List.mem_of_getElem? (i := 9) rfl)).1 (own5 (M_X11_sumOf, 1) (List.mem_of_getElem? (i := 9) rfl)).2 (by decide +kernel) ch_X11_sumOf (fun wd _ r hr => noThr_ok (by decide +kernel) wd TSS hr)
set_option maxRecDepth 100000 in
theorem cb_X11_held : (M_X11_held).rw.all (rowB CLS MT TSS KD M_X11_held (decide ((M_X11_held).nm.name = "<init>")) ck_X11_held) = true := by decide +kernel
set_option maxRecDepth 100000 in
theorem cw_X11_held : ∀ w ∈ ckW CLS MT (M_X11_held).nm.cls ck_X11_held, w ∈ TW := tw_in [] (by decide +kernel) (by decide +kernel)
set_option maxRecDepth 100000 in
theorem ch_X11_held : ∀ w ∈ hdW M_X11_held, w ∈ TW := fun w h => nomatch h
set_option maxRecDepth 100000 in
theorem ok_X11_held : methOK CLS MT TSS M_X11_held := meth_ok (k := ck_X11_held) (kd := 0) hG_all prim_in inst_in cw_X11_held cb_X11_held (own5 (M_X11_held, 0) (List.mem_of_getElem? (i := 10) rfl)).1 (own5 (M_X11_held, 0) (List.mem_of_getElem? (i := 10) rfl)).2 (by decide +kernel) ch_X11_held (fun wd _ r hr => noThr_ok (by decide +kernel) wd TSS hr)
set_option maxRecDepth 100000 in
theorem cb_X11_walkOf : (M_X11_walkOf).rw.all (rowB CLS MT TSS KD M_X11_walkOf (decide ((M_X11_walkOf).nm.name = "<init>")) ck_X11_walkOf) = true := by decide +kernel
set_option maxRecDepth 100000 in
theorem cw_X11_walkOf : ∀ w ∈ ckW CLS MT (M_X11_walkOf).nm.cls ck_X11_walkOf, w ∈ TW := tw_in [(12, 213), (14, 79)] (by decide +kernel) (by decide +kernel)
set_option maxRecDepth 100000 in
theorem ch_X11_walkOf : ∀ w ∈ hdW M_X11_walkOf, w ∈ TW := fun w h => nomatch h
set_option maxRecDepth 100000 in
theorem ok_X11_walkOf : methOK CLS MT TSS M_X11_walkOf := meth_ok (k := ck_X11_walkOf) (kd := 1) hG_all prim_in inst_in cw_X11_walkOf cb_X11_walkOf (own5 (M_X11_walkOf, 1) (List.mem_of_getElem? (i := 11) rfl)).1 (own5 (M_X11_walkOf, 1) (List.mem_of_getElem? (i := 11) rfl)).2 (by decide +kernel) ch_X11_walkOf (fun wd _ r hr => noThr_ok (by decide +kernel) wd TSS hr)
set_option maxRecDepth 100000 in
theorem cb_X11_walkBy : (M_X11_walkBy).rw.all (rowB CLS MT TSS KD M_X11_walkBy (decide ((M_X11_walkBy).nm.name = "<init>")) ck_X11_walkBy) = true := by decide +kernel
set_option maxRecDepth 100000 in
theorem cw_X11_walkBy : ∀ w ∈ ckW CLS MT (M_X11_walkBy).nm.cls ck_X11_walkBy, w ∈ TW := tw_in [(12, 196), (12, 205), (12, 202), (14, 71), (14, 75)] (by decide +kernel) (by decide +kernel)
set_option maxRecDepth 100000 in
theorem ch_X11_walkBy : ∀ w ∈ hdW M_X11_walkBy, w ∈ TW := fun w h => nomatch h
set_option maxRecDepth 100000 in
theorem ok_X11_walkBy : methOK CLS MT TSS M_X11_walkBy := meth_ok (k := ck_X11_walkBy) (kd := 1) hG_all prim_in inst_in cw_X11_walkBy cb_X11_walkBy (own5 (M_X11_walkBy, 1) (List.mem_of_getElem? (i := 12) rfl)).1 (own5 (M_X11_walkBy, 1) (List.mem_of_getElem? (i := 12) rfl)).2 (by decide +kernel) ch_X11_walkBy (fun wd _ r hr => noThr_ok (by decide +kernel) wd TSS hr)
set_option maxRecDepth 100000 in
theorem cb_X11_isOn : (M_X11_isOn).rw.all (rowB CLS MT TSS KD M_X11_isOn (decide ((M_X11_isOn).nm.name = "<init>")) ck_X11_isOn) = true := by decide +kernel
set_option maxRecDepth 100000 in
theorem cw_X11_isOn : ∀ w ∈ ckW CLS MT (M_X11_isOn).nm.cls ck_X11_isOn, w ∈ TW := tw_in [(12, 223), (14, 44), (14, 67)] (by decide +kernel) (by decide +kernel)
set_option maxRecDepth 100000 in
theorem ch_X11_isOn : ∀ w ∈ hdW M_X11_isOn, w ∈ TW := fun w h => nomatch h
set_option maxRecDepth 100000 in
theorem ok_X11_isOn : methOK CLS MT TSS M_X11_isOn := meth_ok (k := ck_X11_isOn) (kd := 1) hG_all prim_in inst_in cw_X11_isOn cb_X11_isOn (own5 (M_X11_isOn, 1) (List.mem_of_getElem? (i := 13) rfl)).1 (own5 (M_X11_isOn, 1) (List.mem_of_getElem? (i := 13) rfl)).2 (by decide +kernel) ch_X11_isOn (fun wd _ r hr => noThr_ok (by decide +kernel) wd TSS hr)
set_option maxRecDepth 100000 in
theorem cb_X11_overBy : (M_X11_overBy).rw.all (rowB CLS MT TSS KD M_X11_overBy (decide ((M_X11_overBy).nm.name = "<init>")) ck_X11_overBy) = true := by decide +kernel
set_option maxRecDepth 100000 in
theorem cw_X11_overBy : ∀ w ∈ ckW CLS MT (M_X11_overBy).nm.cls ck_X11_overBy, w ∈ TW := tw_in [(12, 202), (12, 223), (14, 63)] (by decide +kernel) (by decide +kernel)
set_option maxRecDepth 100000 in
theorem ch_X11_overBy : ∀ w ∈ hdW M_X11_overBy, w ∈ TW := fun w h => nomatch h
set_option maxRecDepth 100000 in
theorem ok_X11_overBy : methOK CLS MT TSS M_X11_overBy := meth_ok (k := ck_X11_overBy) (kd := 1) hG_all prim_in inst_in cw_X11_overBy cb_X11_overBy (own5 (M_X11_overBy, 1) (List.mem_of_getElem? (i := 14) rfl)).1 (own5 (M_X11_overBy, 1) (List.mem_of_getElem? (i := 14) rfl)).2 (by decide +kernel) ch_X11_overBy (fun wd _ r hr => noThr_ok (by decide +kernel) wd TSS hr)
set_option maxRecDepth 100000 in
theorem cb_X11_birdsAt : (M_X11_birdsAt).rw.all (rowB CLS MT TSS KD M_X11_birdsAt (decide ((M_X11_birdsAt).nm.name = "<init>")) ck_X11_birdsAt) = true := by decide +kernel
set_option maxRecDepth 100000 in
theorem cw_X11_birdsAt : ∀ w ∈ ckW CLS MT (M_X11_birdsAt).nm.cls ck_X11_birdsAt, w ∈ TW := tw_in [(12, 204), (14, 63)] (by decide +kernel) (by decide +kernel)
set_option maxRecDepth 100000 in
theorem ch_X11_birdsAt : ∀ w ∈ hdW M_X11_birdsAt, w ∈ TW := fun w h => nomatch h
set_option maxRecDepth 100000 in
theorem ok_X11_birdsAt : methOK CLS MT TSS M_X11_birdsAt := meth_ok (k := ck_X11_birdsAt) (kd := 1) hG_all prim_in inst_in cw_X11_birdsAt cb_X11_birdsAt (own5 (M_X11_birdsAt, 1) (List.mem_of_getElem? (i := 15) rfl)).1 (own5 (M_X11_birdsAt, 1) (List.mem_of_getElem? (i := 15) rfl)).2 (by decide +kernel) ch_X11_birdsAt (fun wd _ r hr => noThr_ok (by decide +kernel) wd TSS hr)
set_option maxRecDepth 100000 in
theorem cb_X11_countsNow : (M_X11_countsNow).rw.all (rowB CLS MT TSS KD M_X11_countsNow (decide ((M_X11_countsNow).nm.name = "<init>")) ck_X11_countsNow) = true := by decide +kernel
set_option maxRecDepth 100000 in
theorem cw_X11_countsNow : ∀ w ∈ ckW CLS MT (M_X11_countsNow).nm.cls ck_X11_countsNow, w ∈ TW := tw_in [(12, 202), (12, 204), (14, 59)] (by decide +kernel) (by decide +kernel)
set_option maxRecDepth 100000 in
theorem ch_X11_countsNow : ∀ w ∈ hdW M_X11_countsNow, w ∈ TW := fun w h => nomatch h
set_option maxRecDepth 100000 in
theorem ok_X11_countsNow : methOK CLS MT TSS M_X11_countsNow := meth_ok (k := ck_X11_countsNow) (kd := 1) hG_all prim_in inst_in cw_X11_countsNow cb_X11_countsNow (own5 (M_X11_countsNow, 1) (List.mem_of_getElem? (i := 16) rfl)).1 (own5 (M_X11_countsNow, 1) (List.mem_of_getElem? (i := 16) rfl)).2 (by decide +kernel) ch_X11_countsNow (fun wd _ r hr => noThr_ok (by decide +kernel) wd TSS hr)
set_option maxRecDepth 100000 in
theorem cb_X11_saidBy : (M_X11_saidBy).rw.all (rowB CLS MT TSS KD M_X11_saidBy (decide ((M_X11_saidBy).nm.name = "<init>")) ck_X11_saidBy) = true := by decide +kernel
set_option maxRecDepth 100000 in
theorem cw_X11_saidBy : ∀ w ∈ ckW CLS MT (M_X11_saidBy).nm.cls ck_X11_saidBy, w ∈ TW := tw_in [(12, 202), (12, 223)] (by decide +kernel) (by decide +kernel)
set_option maxRecDepth 100000 in
theorem ch_X11_saidBy : ∀ w ∈ hdW M_X11_saidBy, w ∈ TW := fun w h => nomatch h
set_option maxRecDepth 100000 in
theorem ok_X11_saidBy : methOK CLS MT TSS M_X11_saidBy := meth_ok (k := ck_X11_saidBy) (kd := 1) hG_all prim_in inst_in cw_X11_saidBy cb_X11_saidBy (own5 (M_X11_saidBy, 1) (List.mem_of_getElem? (i := 17) rfl)).1 (own5 (M_X11_saidBy, 1) (List.mem_of_getElem? (i := 17) rfl)).2 (by decide +kernel) ch_X11_saidBy (fun wd _ r hr => noThr_ok (by decide +kernel) wd TSS hr)
set_option maxRecDepth 100000 in
theorem cb_X11_allFrom : (M_X11_allFrom).rw.all (rowB CLS MT TSS KD M_X11_allFrom (decide ((M_X11_allFrom).nm.name = "<init>")) ck_X11_allFrom) = true := by decide +kernel
set_option maxRecDepth 100000 in
theorem cw_X11_allFrom : ∀ w ∈ ckW CLS MT (M_X11_allFrom).nm.cls ck_X11_allFrom, w ∈ TW := tw_in [(12, 203), (12, 195)] (by decide +kernel) (by decide +kernel)
set_option maxRecDepth 100000 in
theorem ch_X11_allFrom : ∀ w ∈ hdW M_X11_allFrom, w ∈ TW := fun w h => nomatch h
set_option maxRecDepth 100000 in
theorem ok_X11_allFrom : methOK CLS MT TSS M_X11_allFrom := meth_ok (k := ck_X11_allFrom) (kd := 1) hG_all prim_in inst_in cw_X11_allFrom cb_X11_allFrom (own5 (M_X11_allFrom, 1) (List.mem_of_getElem? (i := 18) rfl)).1 (own5 (M_X11_allFrom, 1) (List.mem_of_getElem? (i := 18) rfl)).2 (by decide +kernel) ch_X11_allFrom (fun wd _ r hr => noThr_ok (by decide +kernel) wd TSS hr)
set_option maxRecDepth 100000 in
theorem cb_X11_weightOf : (M_X11_weightOf).rw.all (rowB CLS MT TSS KD M_X11_weightOf (decide ((M_X11_weightOf).nm.name = "<init>")) ck_X11_weightOf) = true := by decide +kernel
set_option maxRecDepth 100000 in
theorem cw_X11_weightOf : ∀ w ∈ ckW CLS MT (M_X11_weightOf).nm.cls ck_X11_weightOf, w ∈ TW := tw_in [(12, 202), (12, 194)] (by decide +kernel) (by decide +kernel)
set_option maxRecDepth 100000 in
theorem ch_X11_weightOf : ∀ w ∈ hdW M_X11_weightOf, w ∈ TW := fun w h => nomatch h
set_option maxRecDepth 100000 in
theorem ok_X11_weightOf : methOK CLS MT TSS M_X11_weightOf := meth_ok (k := ck_X11_weightOf) (kd := 1) hG_all prim_in inst_in cw_X11_weightOf cb_X11_weightOf (own5 (M_X11_weightOf, 1) (List.mem_of_getElem? (i := 19) rfl)).1 (own5 (M_X11_weightOf, 1) (List.mem_of_getElem? (i := 19) rfl)).2 (by decide +kernel) ch_X11_weightOf (fun wd _ r hr => noThr_ok (by decide +kernel) wd TSS hr)
set_option maxRecDepth 100000 in
theorem cb_X11_leanOf : (M_X11_leanOf).rw.all (rowB CLS MT TSS KD M_X11_leanOf (decide ((M_X11_leanOf).nm.name = "<init>")) ck_X11_leanOf) = true := by decide +kernel
set_option maxRecDepth 100000 in
theorem cw_X11_leanOf : ∀ w ∈ ckW CLS MT (M_X11_leanOf).nm.cls ck_X11_leanOf, w ∈ TW := tw_in [(14, 113), (14, 133)] (by decide +kernel) (by decide +kernel)
set_option maxRecDepth 100000 in
theorem ch_X11_leanOf : ∀ w ∈ hdW M_X11_leanOf, w ∈ TW := fun w h => nomatch h
set_option maxRecDepth 100000 in
theorem ok_X11_leanOf : methOK CLS MT TSS M_X11_leanOf := meth_ok (k := ck_X11_leanOf) (kd := 1) hG_all prim_in inst_in cw_X11_leanOf cb_X11_leanOf (own5 (M_X11_leanOf, 1) (List.mem_of_getElem? (i := 20) rfl)).1 (own5 (M_X11_leanOf, 1) (List.mem_of_getElem? (i := 20) rfl)).2 (by decide +kernel) ch_X11_leanOf (fun wd _ r hr => noThr_ok (by decide +kernel) wd TSS hr)
set_option maxRecDepth 100000 in
theorem cb_X11_heardBy : (M_X11_heardBy).rw.all (rowB CLS MT TSS KD M_X11_heardBy (decide ((M_X11_heardBy).nm.name = "<init>")) ck_X11_heardBy) = true := by decide +kernel
set_option maxRecDepth 100000 in
theorem cw_X11_heardBy : ∀ w ∈ ckW CLS MT (M_X11_heardBy).nm.cls ck_X11_heardBy, w ∈ TW := tw_in [(14, 55), (14, 109)] (by decide +kernel) (by decide +kernel)
set_option maxRecDepth 100000 in
theorem ch_X11_heardBy : ∀ w ∈ hdW M_X11_heardBy, w ∈ TW := fun w h => nomatch h
set_option maxRecDepth 100000 in
theorem ok_X11_heardBy : methOK CLS MT TSS M_X11_heardBy := meth_ok (k := ck_X11_heardBy) (kd := 1) hG_all prim_in inst_in cw_X11_heardBy cb_X11_heardBy (own5 (M_X11_heardBy, 1) (List.mem_of_getElem? (i := 21) rfl)).1 (own5 (M_X11_heardBy, 1) (List.mem_of_getElem? (i := 21) rfl)).2 (by decide +kernel) ch_X11_heardBy (fun wd _ r hr => noThr_ok (by decide +kernel) wd TSS hr)
set_option maxRecDepth 100000 in
theorem cb_X11_isCalled : (M_X11_isCalled).rw.all (rowB CLS MT TSS KD M_X11_isCalled (decide ((M_X11_isCalled).nm.name = "<init>")) ck_X11_isCalled) = true := by decide +kernel
set_option maxRecDepth 100000 in
theorem cw_X11_isCalled : ∀ w ∈ ckW CLS MT (M_X11_isCalled).nm.cls ck_X11_isCalled, w ∈ TW := tw_in [(12, 223)] (by decide +kernel) (by decide +kernel)
set_option maxRecDepth 100000 in
theorem ch_X11_isCalled : ∀ w ∈ hdW M_X11_isCalled, w ∈ TW := fun w h => nomatch h
set_option maxRecDepth 100000 in
theorem ok_X11_isCalled : methOK CLS MT TSS M_X11_isCalled := meth_ok (k := ck_X11_isCalled) (kd := 1) hG_all prim_in inst_in cw_X11_isCalled cb_X11_isCalled (own5 (M_X11_isCalled, 1) (List.mem_of_getElem? (i := 22) rfl)).1 (own5 (M_X11_isCalled, 1) (List.mem_of_getElem? (i := 22) rfl)).2 (by decide +kernel) ch_X11_isCalled (fun wd _ r hr => noThr_ok (by decide +kernel) wd TSS hr)
set_option maxRecDepth 100000 in
theorem cb_X11_mayLead : (M_X11_mayLead).rw.all (rowB CLS MT TSS KD M_X11_mayLead (decide ((M_X11_mayLead).nm.name = "<init>")) ck_X11_mayLead) = true := by decide +kernel
set_option maxRecDepth 100000 in
theorem cw_X11_mayLead : ∀ w ∈ ckW CLS MT (M_X11_mayLead).nm.cls ck_X11_mayLead, w ∈ TW := tw_in [(12, 223)] (by decide +kernel) (by decide +kernel)
set_option maxRecDepth 100000 in
theorem ch_X11_mayLead : ∀ w ∈ hdW M_X11_mayLead, w ∈ TW := fun w h => nomatch h
set_option maxRecDepth 100000 in
theorem ok_X11_mayLead : methOK CLS MT TSS M_X11_mayLead := meth_ok (k := ck_X11_mayLead) (kd := 1) hG_all prim_in inst_in cw_X11_mayLead cb_X11_mayLead (own5 (M_X11_mayLead, 1) (List.mem_of_getElem? (i := 23) rfl)).1 (own5 (M_X11_mayLead, 1) (List.mem_of_getElem? (i := 23) rfl)).2 (by decide +kernel) ch_X11_mayLead (fun wd _ r hr => noThr_ok (by decide +kernel) wd TSS hr)
set_option maxRecDepth 100000 in
theorem cb_X11_isLed : (M_X11_isLed).rw.all (rowB CLS MT TSS KD M_X11_isLed (decide ((M_X11_isLed).nm.name = "<init>")) ck_X11_isLed) = true := by decide +kernel
set_option maxRecDepth 100000 in
theorem cw_X11_isLed : ∀ w ∈ ckW CLS MT (M_X11_isLed).nm.cls ck_X11_isLed, w ∈ TW := tw_in [(12, 223), (14, 40), (14, 44)] (by decide +kernel) (by decide +kernel)
set_option maxRecDepth 100000 in
theorem ch_X11_isLed : ∀ w ∈ hdW M_X11_isLed, w ∈ TW := fun w h => nomatch h
set_option maxRecDepth 100000 in
theorem ok_X11_isLed : methOK CLS MT TSS M_X11_isLed := meth_ok (k := ck_X11_isLed) (kd := 1) hG_all prim_in inst_in cw_X11_isLed cb_X11_isLed (own5 (M_X11_isLed, 1) (List.mem_of_getElem? (i := 24) rfl)).1 (own5 (M_X11_isLed, 1) (List.mem_of_getElem? (i := 24) rfl)).2 (by decide +kernel) ch_X11_isLed (fun wd _ r hr => noThr_ok (by decide +kernel) wd TSS hr)
set_option maxRecDepth 100000 in
theorem cb_X11_isPut : (M_X11_isPut).rw.all (rowB CLS MT TSS KD M_X11_isPut (decide ((M_X11_isPut).nm.name = "<init>")) ck_X11_isPut) = true := by decide +kernel
set_option maxRecDepth 100000 in
theorem cw_X11_isPut : ∀ w ∈ ckW CLS MT (M_X11_isPut).nm.cls ck_X11_isPut, w ∈ TW := tw_in [(12, 197), (12, 223), (14, 44)] (by decide +kernel) (by decide +kernel)
set_option maxRecDepth 100000 in
theorem ch_X11_isPut : ∀ w ∈ hdW M_X11_isPut, w ∈ TW := fun w h => nomatch h
set_option maxRecDepth 100000 in
theorem ok_X11_isPut : methOK CLS MT TSS M_X11_isPut := meth_ok (k := ck_X11_isPut) (kd := 1) hG_all prim_in inst_in cw_X11_isPut cb_X11_isPut (own5 (M_X11_isPut, 1) (List.mem_of_getElem? (i := 25) rfl)).1 (own5 (M_X11_isPut, 1) (List.mem_of_getElem? (i := 25) rfl)).2 (by decide +kernel) ch_X11_isPut (fun wd _ r hr => noThr_ok (by decide +kernel) wd TSS hr)
set_option maxRecDepth 100000 in
theorem cb_X11_isNoted : (M_X11_isNoted).rw.all (rowB CLS MT TSS KD M_X11_isNoted (decide ((M_X11_isNoted).nm.name = "<init>")) ck_X11_isNoted) = true := by decide +kernel
set_option maxRecDepth 100000 in
theorem cw_X11_isNoted : ∀ w ∈ ckW CLS MT (M_X11_isNoted).nm.cls ck_X11_isNoted, w ∈ TW := tw_in [(12, 223), (14, 55)] (by decide +kernel) (by decide +kernel)
set_option maxRecDepth 100000 in
theorem ch_X11_isNoted : ∀ w ∈ hdW M_X11_isNoted, w ∈ TW := fun w h => nomatch h
set_option maxRecDepth 100000 in
theorem ok_X11_isNoted : methOK CLS MT TSS M_X11_isNoted := meth_ok (k := ck_X11_isNoted) (kd := 1) hG_all prim_in inst_in cw_X11_isNoted cb_X11_isNoted (own5 (M_X11_isNoted, 1) (List.mem_of_getElem? (i := 26) rfl)).1 (own5 (M_X11_isNoted, 1) (List.mem_of_getElem? (i := 26) rfl)).2 (by decide +kernel) ch_X11_isNoted (fun wd _ r hr => noThr_ok (by decide +kernel) wd TSS hr)
set_option maxRecDepth 100000 in
theorem cb_X11_isDone : (M_X11_isDone).rw.all (rowB CLS MT TSS KD M_X11_isDone (decide ((M_X11_isDone).nm.name = "<init>")) ck_X11_isDone) = true := by decide +kernel
set_option maxRecDepth 100000 in
theorem cw_X11_isDone : ∀ w ∈ ckW CLS MT (M_X11_isDone).nm.cls ck_X11_isDone, w ∈ TW := tw_in [(12, 223), (14, 32), (14, 36), (14, 47), (14, 51)] (by decide +kernel) (by decide +kernel)
set_option maxRecDepth 100000 in
theorem ch_X11_isDone : ∀ w ∈ hdW M_X11_isDone, w ∈ TW := fun w h => nomatch h
set_option maxRecDepth 100000 in
theorem ok_X11_isDone : methOK CLS MT TSS M_X11_isDone := meth_ok (k := ck_X11_isDone) (kd := 1) hG_all prim_in inst_in cw_X11_isDone cb_X11_isDone (own5 (M_X11_isDone, 1) (List.mem_of_getElem? (i := 27) rfl)).1 (own5 (M_X11_isDone, 1) (List.mem_of_getElem? (i := 27) rfl)).2 (by decide +kernel) ch_X11_isDone (fun wd _ r hr => noThr_ok (by decide +kernel) wd TSS hr)
set_option maxRecDepth 100000 in
theorem cb_X11_book : (M_X11_book).rw.all (rowB CLS MT TSS KD M_X11_book (decide ((M_X11_book).nm.name = "<init>")) ck_X11_book) = true := by decide +kernel
set_option maxRecDepth 100000 in
theorem cw_X11_book : ∀ w ∈ ckW CLS MT (M_X11_book).nm.cls ck_X11_book, w ∈ TW := tw_in [(12, 180), (12, 182), (12, 225), (12, 184), (12, 202), (12, 185), (12, 227), (12, 226), (13, 122), (13, 126), (13, 130), (13, 134), (13, 138), (13, 181), (13, 165), (13, 188), (13, 192), (12, 176)] (by decide +kernel) (by decide +kernel)
set_option maxRecDepth 100000 in
theorem ch_X11_book : ∀ w ∈ hdW M_X11_book, w ∈ TW := fun w h => nomatch h
set_option maxRecDepth 100000 in
theorem ok_X11_book : methOK CLS MT TSS M_X11_book := meth_ok (k := ck_X11_book) (kd := 1) hG_all prim_in inst_in cw_X11_book cb_X11_book (own5 (M_X11_book, 1) (List.mem_of_getElem? (i := 28) rfl)).1 (own5 (M_X11_book, 1) (List.mem_of_getElem? (i := 28) rfl)).2 (by decide +kernel) ch_X11_book (fun wd _ r hr => noThr_ok (by decide +kernel) wd TSS hr)
set_option maxRecDepth 100000 in
theorem cb_X11_undo : (M_X11_undo).rw.all (rowB CLS MT TSS KD M_X11_undo (decide ((M_X11_undo).nm.name = "<init>")) ck_X11_undo) = true := by decide +kernel
set_option maxRecDepth 100000 in
theorem cw_X11_undo : ∀ w ∈ ckW CLS MT (M_X11_undo).nm.cls ck_X11_undo, w ∈ TW := tw_in [(12, 180), (12, 217), (12, 222), (12, 224), (12, 218)] (by decide +kernel) (by decide +kernel)
set_option maxRecDepth 100000 in
theorem ch_X11_undo : ∀ w ∈ hdW M_X11_undo, w ∈ TW := fun w h => nomatch h
set_option maxRecDepth 100000 in
theorem ok_X11_undo : methOK CLS MT TSS M_X11_undo := meth_ok (k := ck_X11_undo) (kd := 1) hG_all prim_in inst_in cw_X11_undo cb_X11_undo (own5 (M_X11_undo, 1) (List.mem_of_getElem? (i := 29) rfl)).1 (own5 (M_X11_undo, 1) (List.mem_of_getElem? (i := 29) rfl)).2 (by decide +kernel) ch_X11_undo (fun wd _ r hr => noThr_ok (by decide +kernel) wd TSS hr)
set_option maxRecDepth 100000 in
theorem cb_X11_notedNow : (M_X11_notedNow).rw.all (rowB CLS MT TSS KD M_X11_notedNow (decide ((M_X11_notedNow).nm.name = "<init>")) ck_X11_notedNow) = true := by decide +kernel
set_option maxRecDepth 100000 in
theorem cw_X11_notedNow : ∀ w ∈ ckW CLS MT (M_X11_notedNow).nm.cls ck_X11_notedNow, w ∈ TW := tw_in [(12, 202), (12, 223)] (by decide +kernel) (by decide +kernel)
set_option maxRecDepth 100000 in
theorem ch_X11_notedNow : ∀ w ∈ hdW M_X11_notedNow, w ∈ TW := fun w h => nomatch h
set_option maxRecDepth 100000 in
theorem ok_X11_notedNow : methOK CLS MT TSS M_X11_notedNow := meth_ok (k := ck_X11_notedNow) (kd := 1) hG_all prim_in inst_in cw_X11_notedNow cb_X11_notedNow (own5 (M_X11_notedNow, 1) (List.mem_of_getElem? (i := 30) rfl)).1 (own5 (M_X11_notedNow, 1) (List.mem_of_getElem? (i := 30) rfl)).2 (by decide +kernel) ch_X11_notedNow (fun wd _ r hr => noThr_ok (by decide +kernel) wd TSS hr)
set_option maxRecDepth 100000 in
theorem cb_X11_told : (M_X11_told).rw.all (rowB CLS MT TSS KD M_X11_told (decide ((M_X11_told).nm.name = "<init>")) ck_X11_told) = true := by decide +kernel
set_option maxRecDepth 100000 in
theorem cw_X11_told : ∀ w ∈ ckW CLS MT (M_X11_told).nm.cls ck_X11_told, w ∈ TW := tw_in [(12, 180), (12, 202), (12, 203), (12, 204), (12, 205), (12, 223), (12, 227), (12, 218), (14, 102), (13, 122), (14, 20), (14, 55), (14, 105), (14, 113), (14, 117), (14, 121)] (by decide +kernel) (by decide +kernel)
set_option maxRecDepth 100000 in
theorem ch_X11_told : ∀ w ∈ hdW M_X11_told, w ∈ TW := fun w h => nomatch h
set_option maxRecDepth 100000 in
theorem ok_X11_told : methOK CLS MT TSS M_X11_told := meth_ok (k := ck_X11_told) (kd := 1) hG_all prim_in inst_in cw_X11_told cb_X11_told (own5 (M_X11_told, 1) (List.mem_of_getElem? (i := 31) rfl)).1 (own5 (M_X11_told, 1) (List.mem_of_getElem? (i := 31) rfl)).2 (by decide +kernel) ch_X11_told (fun wd _ r hr => noThr_ok (by decide +kernel) wd TSS hr)
set_option maxRecDepth 100000 in
theorem cb_X11_lean : (M_X11_lean).rw.all (rowB CLS MT TSS KD M_X11_lean (decide ((M_X11_lean).nm.name = "<init>")) ck_X11_lean) = true := by decide +kernel
set_option maxRecDepth 100000 in
theorem cw_X11_lean : ∀ w ∈ ckW CLS MT (M_X11_lean).nm.cls ck_X11_lean, w ∈ TW := tw_in [(12, 180), (12, 223), (14, 20), (14, 105), (14, 129)] (by decide +kernel) (by decide +kernel)
set_option maxRecDepth 100000 in
theorem ch_X11_lean : ∀ w ∈ hdW M_X11_lean, w ∈ TW := fun w h => nomatch h
set_option maxRecDepth 100000 in
theorem ok_X11_lean : methOK CLS MT TSS M_X11_lean := meth_ok (k := ck_X11_lean) (kd := 1) hG_all prim_in inst_in cw_X11_lean cb_X11_lean (own5 (M_X11_lean, 1) (List.mem_of_getElem? (i := 32) rfl)).1 (own5 (M_X11_lean, 1) (List.mem_of_getElem? (i := 32) rfl)).2 (by decide +kernel) ch_X11_lean (fun wd _ r hr => noThr_ok (by decide +kernel) wd TSS hr)
set_option maxRecDepth 100000 in
theorem cb_X11_isSaying : (M_X11_isSaying).rw.all (rowB CLS MT TSS KD M_X11_isSaying (decide ((M_X11_isSaying).nm.name = "<init>")) ck_X11_isSaying) = true := by decide +kernel
set_option maxRecDepth 100000 in
theorem cw_X11_isSaying : ∀ w ∈ ckW CLS MT (M_X11_isSaying).nm.cls ck_X11_isSaying, w ∈ TW := tw_in [(12, 202), (14, 102), (13, 122)] (by decide +kernel) (by decide +kernel)
set_option maxRecDepth 100000 in
theorem ch_X11_isSaying : ∀ w ∈ hdW M_X11_isSaying, w ∈ TW := fun w h => nomatch h
set_option maxRecDepth 100000 in
theorem ok_X11_isSaying : methOK CLS MT TSS M_X11_isSaying := meth_ok (k := ck_X11_isSaying) (kd := 1) hG_all prim_in inst_in cw_X11_isSaying cb_X11_isSaying (own5 (M_X11_isSaying, 1) (List.mem_of_getElem? (i := 33) rfl)).1 (own5 (M_X11_isSaying, 1) (List.mem_of_getElem? (i := 33) rfl)).2 (by decide +kernel) ch_X11_isSaying (fun wd _ r hr => noThr_ok (by decide +kernel) wd TSS hr)
set_option maxRecDepth 100000 in
theorem cb_X11_isBird : (M_X11_isBird).rw.all (rowB CLS MT TSS KD M_X11_isBird (decide ((M_X11_isBird).nm.name = "<init>")) ck_X11_isBird) = true := by decide +kernel
set_option maxRecDepth 100000 in
theorem cw_X11_isBird : ∀ w ∈ ckW CLS MT (M_X11_isBird).nm.cls ck_X11_isBird, w ∈ TW := tw_in [(12, 204), (14, 102), (13, 122)] (by decide +kernel) (by decide +kernel)
set_option maxRecDepth 100000 in
theorem ch_X11_isBird : ∀ w ∈ hdW M_X11_isBird, w ∈ TW := fun w h => nomatch h
set_option maxRecDepth 100000 in
theorem ok_X11_isBird : methOK CLS MT TSS M_X11_isBird := meth_ok (k := ck_X11_isBird) (kd := 1) hG_all prim_in inst_in cw_X11_isBird cb_X11_isBird (own5 (M_X11_isBird, 1) (List.mem_of_getElem? (i := 34) rfl)).1 (own5 (M_X11_isBird, 1) (List.mem_of_getElem? (i := 34) rfl)).2 (by decide +kernel) ch_X11_isBird (fun wd _ r hr => noThr_ok (by decide +kernel) wd TSS hr)
set_option maxRecDepth 100000 in
theorem cb_X11_isCounsel : (M_X11_isCounsel).rw.all (rowB CLS MT TSS KD M_X11_isCounsel (decide ((M_X11_isCounsel).nm.name = "<init>")) ck_X11_isCounsel) = true := by decide +kernel
set_option maxRecDepth 100000 in
theorem cw_X11_isCounsel : ∀ w ∈ ckW CLS MT (M_X11_isCounsel).nm.cls ck_X11_isCounsel, w ∈ TW := tw_in [(12, 205), (14, 102), (13, 122)] (by decide +kernel) (by decide +kernel)
set_option maxRecDepth 100000 in
theorem ch_X11_isCounsel : ∀ w ∈ hdW M_X11_isCounsel, w ∈ TW := fun w h => nomatch h
set_option maxRecDepth 100000 in
theorem ok_X11_isCounsel : methOK CLS MT TSS M_X11_isCounsel := meth_ok (k := ck_X11_isCounsel) (kd := 1) hG_all prim_in inst_in cw_X11_isCounsel cb_X11_isCounsel (own5 (M_X11_isCounsel, 1) (List.mem_of_getElem? (i := 35) rfl)).1 (own5 (M_X11_isCounsel, 1) (List.mem_of_getElem? (i := 35) rfl)).2 (by decide +kernel) ch_X11_isCounsel (fun wd _ r hr => noThr_ok (by decide +kernel) wd TSS hr)
set_option maxRecDepth 100000 in
theorem cb_X11_saying : (M_X11_saying).rw.all (rowB CLS MT TSS KD M_X11_saying (decide ((M_X11_saying).nm.name = "<init>")) ck_X11_saying) = true := by decide +kernel
set_option maxRecDepth 100000 in
theorem cw_X11_saying : ∀ w ∈ ckW CLS MT (M_X11_saying).nm.cls ck_X11_saying, w ∈ TW := tw_in [(12, 180), (12, 223), (12, 194), (14, 141), (14, 102), (13, 122), (14, 20), (14, 55), (14, 121)] (by decide +kernel) (by decide +kernel)
set_option maxRecDepth 100000 in
theorem ch_X11_saying : ∀ w ∈ hdW M_X11_saying, w ∈ TW := fun w h => nomatch h
set_option maxRecDepth 100000 in
theorem ok_X11_saying : methOK CLS MT TSS M_X11_saying := meth_ok (k := ck_X11_saying) (kd := 1) hG_all prim_in inst_in cw_X11_saying cb_X11_saying (own5 (M_X11_saying, 1) (List.mem_of_getElem? (i := 36) rfl)).1 (own5 (M_X11_saying, 1) (List.mem_of_getElem? (i := 36) rfl)).2 (by decide +kernel) ch_X11_saying (fun wd _ r hr => noThr_ok (by decide +kernel) wd TSS hr)
set_option maxRecDepth 100000 in
theorem cb_X11_bird : (M_X11_bird).rw.all (rowB CLS MT TSS KD M_X11_bird (decide ((M_X11_bird).nm.name = "<init>")) ck_X11_bird) = true := by decide +kernel
set_option maxRecDepth 100000 in
theorem cw_X11_bird : ∀ w ∈ ckW CLS MT (M_X11_bird).nm.cls ck_X11_bird, w ∈ TW := tw_in [(12, 180), (12, 223), (12, 196), (14, 149), (14, 102), (13, 122), (14, 20), (14, 67)] (by decide +kernel) (by decide +kernel)
set_option maxRecDepth 100000 in
theorem ch_X11_bird : ∀ w ∈ hdW M_X11_bird, w ∈ TW := fun w h => nomatch h
set_option maxRecDepth 100000 in
theorem ok_X11_bird : methOK CLS MT TSS M_X11_bird := meth_ok (k := ck_X11_bird) (kd := 1) hG_all prim_in inst_in cw_X11_bird cb_X11_bird (own5 (M_X11_bird, 1) (List.mem_of_getElem? (i := 37) rfl)).1 (own5 (M_X11_bird, 1) (List.mem_of_getElem? (i := 37) rfl)).2 (by decide +kernel) ch_X11_bird (fun wd _ r hr => noThr_ok (by decide +kernel) wd TSS hr)
set_option maxRecDepth 100000 in
theorem cb_X11_counsel : (M_X11_counsel).rw.all (rowB CLS MT TSS KD M_X11_counsel (decide ((M_X11_counsel).nm.name = "<init>")) ck_X11_counsel) = true := by decide +kernel
set_option maxRecDepth 100000 in
theorem cw_X11_counsel : ∀ w ∈ ckW CLS MT (M_X11_counsel).nm.cls ck_X11_counsel, w ∈ TW := tw_in [(12, 180), (12, 222), (12, 197), (14, 157), (14, 102), (13, 122)] (by decide +kernel) (by decide +kernel)
set_option maxRecDepth 100000 in
theorem ch_X11_counsel : ∀ w ∈ hdW M_X11_counsel, w ∈ TW := fun w h => nomatch h
set_option maxRecDepth 100000 in
theorem ok_X11_counsel : methOK CLS MT TSS M_X11_counsel := meth_ok (k := ck_X11_counsel) (kd := 1) hG_all prim_in inst_in cw_X11_counsel cb_X11_counsel (own5 (M_X11_counsel, 1) (List.mem_of_getElem? (i := 38) rfl)).1 (own5 (M_X11_counsel, 1) (List.mem_of_getElem? (i := 38) rfl)).2 (by decide +kernel) ch_X11_counsel (fun wd _ r hr => noThr_ok (by decide +kernel) wd TSS hr)
set_option maxRecDepth 100000 in
theorem cb_X11_would : (M_X11_would).rw.all (rowB CLS MT TSS KD M_X11_would (decide ((M_X11_would).nm.name = "<init>")) ck_X11_would) = true := by decide +kernel
set_option maxRecDepth 100000 in
theorem cw_X11_would : ∀ w ∈ ckW CLS MT (M_X11_would).nm.cls ck_X11_would, w ∈ TW := tw_in [(12, 180), (14, 102), (13, 122), (14, 75)] (by decide +kernel) (by decide +kernel)
set_option maxRecDepth 100000 in
theorem ch_X11_would : ∀ w ∈ hdW M_X11_would, w ∈ TW := fun w h => nomatch h
set_option maxRecDepth 100000 in
theorem ok_X11_would : methOK CLS MT TSS M_X11_would := meth_ok (k := ck_X11_would) (kd := 1) hG_all prim_in inst_in cw_X11_would cb_X11_would (own5 (M_X11_would, 1) (List.mem_of_getElem? (i := 39) rfl)).1 (own5 (M_X11_would, 1) (List.mem_of_getElem? (i := 39) rfl)).2 (by decide +kernel) ch_X11_would (fun wd _ r hr => noThr_ok (by decide +kernel) wd TSS hr)
set_option maxRecDepth 100000 in
theorem cb_X11_at : (M_X11_at).rw.all (rowB CLS MT TSS KD M_X11_at (decide ((M_X11_at).nm.name = "<init>")) ck_X11_at) = true := by decide +kernel
set_option maxRecDepth 100000 in
theorem cw_X11_at : ∀ w ∈ ckW CLS MT (M_X11_at).nm.cls ck_X11_at, w ∈ TW := tw_in [(12, 180), (12, 202), (12, 223), (14, 102), (13, 122), (14, 20), (14, 121), (14, 105), (14, 129)] (by decide +kernel) (by decide +kernel)
set_option maxRecDepth 100000 in
theorem ch_X11_at : ∀ w ∈ hdW M_X11_at, w ∈ TW := fun w h => nomatch h
set_option maxRecDepth 100000 in
theorem ok_X11_at : methOK CLS MT TSS M_X11_at := meth_ok (k := ck_X11_at) (kd := 1) hG_all prim_in inst_in cw_X11_at cb_X11_at (own5 (M_X11_at, 1) (List.mem_of_getElem? (i := 40) rfl)).1 (own5 (M_X11_at, 1) (List.mem_of_getElem? (i := 40) rfl)).2 (by decide +kernel) ch_X11_at (fun wd _ r hr => noThr_ok (by decide +kernel) wd TSS hr)
set_option maxRecDepth 100000 in
theorem okc5 : ∀ q ∈ MTK5, methOK CLS MT TSS q.1 := List.forall_mem_cons.mpr ⟨ok_X11_walkNow, List.forall_mem_cons.mpr ⟨ok_X11_tellsStep, List.forall_mem_cons.mpr ⟨ok_X11_stepOf, List.forall_mem_cons.mpr ⟨ok_X11_readAgain, List.forall_mem_cons.mpr ⟨ok_X11_readStep, List.forall_mem_cons.mpr ⟨ok_X11_work, List.forall_mem_cons.mpr ⟨ok_X11_goesSteps, List.forall_mem_cons.mpr ⟨ok_X11_take, List.forall_mem_cons.mpr ⟨ok_X11_ones, List.forall_mem_cons.mpr ⟨ok_X11_sumOf, List.forall_mem_cons.mpr ⟨ok_X11_held, List.forall_mem_cons.mpr ⟨ok_X11_walkOf, List.forall_mem_cons.mpr ⟨ok_X11_walkBy, List.forall_mem_cons.mpr ⟨ok_X11_isOn, List.forall_mem_cons.mpr ⟨ok_X11_overBy, List.forall_mem_cons.mpr ⟨ok_X11_birdsAt, List.forall_mem_cons.mpr ⟨ok_X11_countsNow, List.forall_mem_cons.mpr ⟨ok_X11_saidBy, List.forall_mem_cons.mpr ⟨ok_X11_allFrom, List.forall_mem_cons.mpr ⟨ok_X11_weightOf, List.forall_mem_cons.mpr ⟨ok_X11_leanOf, List.forall_mem_cons.mpr ⟨ok_X11_heardBy, List.forall_mem_cons.mpr ⟨ok_X11_isCalled, List.forall_mem_cons.mpr ⟨ok_X11_mayLead, List.forall_mem_cons.mpr ⟨ok_X11_isLed, List.forall_mem_cons.mpr ⟨ok_X11_isPut, List.forall_mem_cons.mpr ⟨ok_X11_isNoted, List.forall_mem_cons.mpr ⟨ok_X11_isDone, List.forall_mem_cons.mpr ⟨ok_X11_book, List.forall_mem_cons.mpr ⟨ok_X11_undo, List.forall_mem_cons.mpr ⟨ok_X11_notedNow, List.forall_mem_cons.mpr ⟨ok_X11_told, List.forall_mem_cons.mpr ⟨ok_X11_lean, List.forall_mem_cons.mpr ⟨ok_X11_isSaying, List.forall_mem_cons.mpr ⟨ok_X11_isBird, List.forall_mem_cons.mpr ⟨ok_X11_isCounsel, List.forall_mem_cons.mpr ⟨ok_X11_saying, List.forall_mem_cons.mpr ⟨ok_X11_bird, List.forall_mem_cons.mpr ⟨ok_X11_counsel, List.forall_mem_cons.mpr ⟨ok_X11_would, List.forall_mem_cons.mpr ⟨ok_X11_at, fun _ h => nomatch h⟩⟩⟩⟩⟩⟩⟩⟩⟩⟩⟩⟩⟩⟩⟩⟩⟩⟩⟩⟩⟩⟩⟩⟩⟩⟩⟩⟩⟩⟩⟩⟩⟩⟩⟩⟩⟩⟩⟩⟩⟩
