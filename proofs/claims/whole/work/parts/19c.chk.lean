/-! Rows checked. -/
set_option maxRecDepth 100000 in
theorem cb_X6_seesNumber : (M_X6_seesNumber).rw.all (rowB CLS MT TSS KD M_X6_seesNumber (decide ((M_X6_seesNumber).nm.name = "<init>")) ck_X6_seesNumber) = true := by decide +kernel
set_option maxRecDepth 100000 in
theorem cw_X6_seesNumber : ∀ w ∈ ckW CLS MT (M_X6_seesNumber).nm.cls ck_X6_seesNumber, w ∈ TW := tw_in [(7, 53)] (by decide +kernel) (by decide +kernel)
set_option maxRecDepth 100000 in
theorem ch_X6_seesNumber : ∀ w ∈ hdW M_X6_seesNumber, w ∈ TW := fun w h => nomatch h
set_option maxRecDepth 100000 in
theorem ok_X6_seesNumber : methOK CLS MT TSS M_X6_seesNumber := meth_ok (k := ck_X6_seesNumber) (kd := 1) hG_all prim_in inst_in cw_X6_seesNumber cb_X6_seesNumber (own2 (M_X6_seesNumber, 1) (List.mem_of_getElem? (i := 0) rfl)).1 (own2 (M_X6_seesNumber, 1) (List.mem_of_getElem? (i := 0) rfl)).2 (by decide +kernel) ch_X6_seesNumber (fun wd _ r hr => noThr_ok (by decide +kernel) wd TSS hr)
set_option maxRecDepth 100000 in
theorem cb_X6_seesSign : (M_X6_seesSign).rw.all (rowB CLS MT TSS KD M_X6_seesSign (decide ((M_X6_seesSign).nm.name = "<init>")) ck_X6_seesSign) = true := by decide +kernel
set_option maxRecDepth 100000 in
theorem cw_X6_seesSign : ∀ w ∈ ckW CLS MT (M_X6_seesSign).nm.cls ck_X6_seesSign, w ∈ TW := tw_in [(7, 53), (7, 56)] (by decide +kernel) (by decide +kernel)
set_option maxRecDepth 100000 in
theorem ch_X6_seesSign : ∀ w ∈ hdW M_X6_seesSign, w ∈ TW := fun w h => nomatch h
set_option maxRecDepth 100000 in
theorem ok_X6_seesSign : methOK CLS MT TSS M_X6_seesSign := meth_ok (k := ck_X6_seesSign) (kd := 1) hG_all prim_in inst_in cw_X6_seesSign cb_X6_seesSign (own2 (M_X6_seesSign, 1) (List.mem_of_getElem? (i := 1) rfl)).1 (own2 (M_X6_seesSign, 1) (List.mem_of_getElem? (i := 1) rfl)).2 (by decide +kernel) ch_X6_seesSign (fun wd _ r hr => noThr_ok (by decide +kernel) wd TSS hr)
set_option maxRecDepth 100000 in
theorem cb_X6_seesWord : (M_X6_seesWord).rw.all (rowB CLS MT TSS KD M_X6_seesWord (decide ((M_X6_seesWord).nm.name = "<init>")) ck_X6_seesWord) = true := by decide +kernel
set_option maxRecDepth 100000 in
theorem cw_X6_seesWord : ∀ w ∈ ckW CLS MT (M_X6_seesWord).nm.cls ck_X6_seesWord, w ∈ TW := tw_in [(7, 53), (7, 55), (7, 54), (7, 49), (10, 10), (9, 217), (10, 20)] (by decide +kernel) (by decide +kernel)
set_option maxRecDepth 100000 in
theorem ch_X6_seesWord : ∀ w ∈ hdW M_X6_seesWord, w ∈ TW := fun w h => nomatch h
set_option maxRecDepth 100000 in
theorem ok_X6_seesWord : methOK CLS MT TSS M_X6_seesWord := meth_ok (k := ck_X6_seesWord) (kd := 1) hG_all prim_in inst_in cw_X6_seesWord cb_X6_seesWord (own2 (M_X6_seesWord, 1) (List.mem_of_getElem? (i := 2) rfl)).1 (own2 (M_X6_seesWord, 1) (List.mem_of_getElem? (i := 2) rfl)).2 (by decide +kernel) ch_X6_seesWord (fun wd _ r hr => noThr_ok (by decide +kernel) wd TSS hr)
set_option maxRecDepth 100000 in
theorem cb_X6_takeNumber : (M_X6_takeNumber).rw.all (rowB CLS MT TSS KD M_X6_takeNumber (decide ((M_X6_takeNumber).nm.name = "<init>")) ck_X6_takeNumber) = true := by decide +kernel
set_option maxRecDepth 100000 in
theorem cw_X6_takeNumber : ∀ w ∈ ckW CLS MT (M_X6_takeNumber).nm.cls ck_X6_takeNumber, w ∈ TW := tw_in [(7, 53), (7, 56), (10, 66), (9, 213)] (by decide +kernel) (by decide +kernel)
set_option maxRecDepth 100000 in
theorem ch_X6_takeNumber : ∀ w ∈ hdW M_X6_takeNumber, w ∈ TW := fun w h => nomatch h
set_option maxRecDepth 100000 in
theorem ok_X6_takeNumber : methOK CLS MT TSS M_X6_takeNumber := meth_ok (k := ck_X6_takeNumber) (kd := 1) hG_all prim_in inst_in cw_X6_takeNumber cb_X6_takeNumber (own2 (M_X6_takeNumber, 1) (List.mem_of_getElem? (i := 3) rfl)).1 (own2 (M_X6_takeNumber, 1) (List.mem_of_getElem? (i := 3) rfl)).2 (by decide +kernel) ch_X6_takeNumber (fun wd _ r hr => noThr_ok (by decide +kernel) wd TSS hr)
set_option maxRecDepth 100000 in
theorem cb_X6_takeSign : (M_X6_takeSign).rw.all (rowB CLS MT TSS KD M_X6_takeSign (decide ((M_X6_takeSign).nm.name = "<init>")) ck_X6_takeSign) = true := by decide +kernel
set_option maxRecDepth 100000 in
theorem cw_X6_takeSign : ∀ w ∈ ckW CLS MT (M_X6_takeSign).nm.cls ck_X6_takeSign, w ∈ TW := tw_in [(10, 95), (9, 213), (10, 66)] (by decide +kernel) (by decide +kernel)
set_option maxRecDepth 100000 in
theorem ch_X6_takeSign : ∀ w ∈ hdW M_X6_takeSign, w ∈ TW := fun w h => nomatch h
set_option maxRecDepth 100000 in
theorem ok_X6_takeSign : methOK CLS MT TSS M_X6_takeSign := meth_ok (k := ck_X6_takeSign) (kd := 1) hG_all prim_in inst_in cw_X6_takeSign cb_X6_takeSign (own2 (M_X6_takeSign, 1) (List.mem_of_getElem? (i := 4) rfl)).1 (own2 (M_X6_takeSign, 1) (List.mem_of_getElem? (i := 4) rfl)).2 (by decide +kernel) ch_X6_takeSign (fun wd _ r hr => noThr_ok (by decide +kernel) wd TSS hr)
set_option maxRecDepth 100000 in
theorem cb_X6_takeIfRoom : (M_X6_takeIfRoom).rw.all (rowB CLS MT TSS KD M_X6_takeIfRoom (decide ((M_X6_takeIfRoom).nm.name = "<init>")) ck_X6_takeIfRoom) = true := by decide +kernel
set_option maxRecDepth 100000 in
theorem cw_X6_takeIfRoom : ∀ w ∈ ckW CLS MT (M_X6_takeIfRoom).nm.cls ck_X6_takeIfRoom, w ∈ TW := tw_in [(9, 213), (10, 66)] (by decide +kernel) (by decide +kernel)
set_option maxRecDepth 100000 in
theorem ch_X6_takeIfRoom : ∀ w ∈ hdW M_X6_takeIfRoom, w ∈ TW := fun w h => nomatch h
set_option maxRecDepth 100000 in
theorem ok_X6_takeIfRoom : methOK CLS MT TSS M_X6_takeIfRoom := meth_ok (k := ck_X6_takeIfRoom) (kd := 1) hG_all prim_in inst_in cw_X6_takeIfRoom cb_X6_takeIfRoom (own2 (M_X6_takeIfRoom, 1) (List.mem_of_getElem? (i := 5) rfl)).1 (own2 (M_X6_takeIfRoom, 1) (List.mem_of_getElem? (i := 5) rfl)).2 (by decide +kernel) ch_X6_takeIfRoom (fun wd _ r hr => noThr_ok (by decide +kernel) wd TSS hr)
set_option maxRecDepth 100000 in
theorem cb_X6_fail : (M_X6_fail).rw.all (rowB CLS MT TSS KD M_X6_fail (decide ((M_X6_fail).nm.name = "<init>")) ck_X6_fail) = true := by decide +kernel
set_option maxRecDepth 100000 in
theorem cw_X6_fail : ∀ w ∈ ckW CLS MT (M_X6_fail).nm.cls ck_X6_fail, w ∈ TW := tw_in [(7, 58), (7, 54), (7, 60), (7, 53)] (by decide +kernel) (by decide +kernel)
set_option maxRecDepth 100000 in
theorem ch_X6_fail : ∀ w ∈ hdW M_X6_fail, w ∈ TW := fun w h => nomatch h
set_option maxRecDepth 100000 in
theorem ok_X6_fail : methOK CLS MT TSS M_X6_fail := meth_ok (k := ck_X6_fail) (kd := 1) hG_all prim_in inst_in cw_X6_fail cb_X6_fail (own2 (M_X6_fail, 1) (List.mem_of_getElem? (i := 6) rfl)).1 (own2 (M_X6_fail, 1) (List.mem_of_getElem? (i := 6) rfl)).2 (by decide +kernel) ch_X6_fail (fun wd _ r hr => noThr_ok (by decide +kernel) wd TSS hr)
set_option maxRecDepth 100000 in
theorem cb_X6_isDigit : (M_X6_isDigit).rw.all (rowB CLS MT TSS KD M_X6_isDigit (decide ((M_X6_isDigit).nm.name = "<init>")) ck_X6_isDigit) = true := by decide +kernel
set_option maxRecDepth 100000 in
theorem cw_X6_isDigit : ∀ w ∈ ckW CLS MT (M_X6_isDigit).nm.cls ck_X6_isDigit, w ∈ TW := tw_in [] (by decide +kernel) (by decide +kernel)
set_option maxRecDepth 100000 in
theorem ch_X6_isDigit : ∀ w ∈ hdW M_X6_isDigit, w ∈ TW := fun w h => nomatch h
set_option maxRecDepth 100000 in
theorem ok_X6_isDigit : methOK CLS MT TSS M_X6_isDigit := meth_ok (k := ck_X6_isDigit) (kd := 0) hG_all prim_in inst_in cw_X6_isDigit cb_X6_isDigit (own2 (M_X6_isDigit, 0) (List.mem_of_getElem? (i := 7) rfl)).1 (own2 (M_X6_isDigit, 0) (List.mem_of_getElem? (i := 7) rfl)).2 (by decide +kernel) ch_X6_isDigit (fun wd _ r hr => noThr_ok (by decide +kernel) wd TSS hr)
set_option maxRecDepth 100000 in
theorem cb_X6_isLetter : (M_X6_isLetter).rw.all (rowB CLS MT TSS KD M_X6_isLetter (decide ((M_X6_isLetter).nm.name = "<init>")) ck_X6_isLetter) = true := by decide +kernel
set_option maxRecDepth 100000 in
theorem cw_X6_isLetter : ∀ w ∈ ckW CLS MT (M_X6_isLetter).nm.cls ck_X6_isLetter, w ∈ TW := tw_in [] (by decide +kernel) (by decide +kernel)
set_option maxRecDepth 100000 in
theorem ch_X6_isLetter : ∀ w ∈ hdW M_X6_isLetter, w ∈ TW := fun w h => nomatch h
set_option maxRecDepth 100000 in
theorem ok_X6_isLetter : methOK CLS MT TSS M_X6_isLetter := meth_ok (k := ck_X6_isLetter) (kd := 0) hG_all prim_in inst_in cw_X6_isLetter cb_X6_isLetter (own2 (M_X6_isLetter, 0) (List.mem_of_getElem? (i := 8) rfl)).1 (own2 (M_X6_isLetter, 0) (List.mem_of_getElem? (i := 8) rfl)).2 (by decide +kernel) ch_X6_isLetter (fun wd _ r hr => noThr_ok (by decide +kernel) wd TSS hr)
set_option maxRecDepth 100000 in
theorem cb_X7_init : (M_X7_init).rw.all (rowB CLS MT TSS KD M_X7_init (decide ((M_X7_init).nm.name = "<init>")) ck_X7_init) = true := by decide +kernel
set_option maxRecDepth 100000 in
theorem cw_X7_init : ∀ w ∈ ckW CLS MT (M_X7_init).nm.cls ck_X7_init, w ∈ TW := tw_in [(7, 44), (7, 43)] (by decide +kernel) (by decide +kernel)
set_option maxRecDepth 100000 in
theorem ch_X7_init : ∀ w ∈ hdW M_X7_init, w ∈ TW := fun w h => nomatch h
set_option maxRecDepth 100000 in
theorem ok_X7_init : methOK CLS MT TSS M_X7_init := meth_ok (k := ck_X7_init) (kd := 2) hG_all prim_in inst_in cw_X7_init cb_X7_init (own2 (M_X7_init, 2) (List.mem_of_getElem? (i := 9) rfl)).1 (own2 (M_X7_init, 2) (List.mem_of_getElem? (i := 9) rfl)).2 (by decide +kernel) ch_X7_init (fun wd _ r hr => noThr_ok (by decide +kernel) wd TSS hr)
set_option maxRecDepth 100000 in
theorem cb_X7_get : (M_X7_get).rw.all (rowB CLS MT TSS KD M_X7_get (decide ((M_X7_get).nm.name = "<init>")) ck_X7_get) = true := by decide +kernel
set_option maxRecDepth 100000 in
theorem cw_X7_get : ∀ w ∈ ckW CLS MT (M_X7_get).nm.cls ck_X7_get, w ∈ TW := tw_in [(7, 44)] (by decide +kernel) (by decide +kernel)
set_option maxRecDepth 100000 in
theorem ch_X7_get : ∀ w ∈ hdW M_X7_get, w ∈ TW := fun w h => nomatch h
set_option maxRecDepth 100000 in
theorem ok_X7_get : methOK CLS MT TSS M_X7_get := meth_ok (k := ck_X7_get) (kd := 1) hG_all prim_in inst_in cw_X7_get cb_X7_get (own2 (M_X7_get, 1) (List.mem_of_getElem? (i := 10) rfl)).1 (own2 (M_X7_get, 1) (List.mem_of_getElem? (i := 10) rfl)).2 (by decide +kernel) ch_X7_get (fun wd _ r hr => noThr_ok (by decide +kernel) wd TSS hr)
set_option maxRecDepth 100000 in
theorem cb_X7_set : (M_X7_set).rw.all (rowB CLS MT TSS KD M_X7_set (decide ((M_X7_set).nm.name = "<init>")) ck_X7_set) = true := by decide +kernel
set_option maxRecDepth 100000 in
theorem cw_X7_set : ∀ w ∈ ckW CLS MT (M_X7_set).nm.cls ck_X7_set, w ∈ TW := tw_in [(7, 44)] (by decide +kernel) (by decide +kernel)
set_option maxRecDepth 100000 in
theorem ch_X7_set : ∀ w ∈ hdW M_X7_set, w ∈ TW := fun w h => nomatch h
set_option maxRecDepth 100000 in
theorem ok_X7_set : methOK CLS MT TSS M_X7_set := meth_ok (k := ck_X7_set) (kd := 1) hG_all prim_in inst_in cw_X7_set cb_X7_set (own2 (M_X7_set, 1) (List.mem_of_getElem? (i := 11) rfl)).1 (own2 (M_X7_set, 1) (List.mem_of_getElem? (i := 11) rfl)).2 (by decide +kernel) ch_X7_set (fun wd _ r hr => noThr_ok (by decide +kernel) wd TSS hr)
set_option maxRecDepth 100000 in
theorem cb_X7_copy : (M_X7_copy).rw.all (rowB CLS MT TSS KD M_X7_copy (decide ((M_X7_copy).nm.name = "<init>")) ck_X7_copy) = true := by decide +kernel
set_option maxRecDepth 100000 in
theorem cw_X7_copy : ∀ w ∈ ckW CLS MT (M_X7_copy).nm.cls ck_X7_copy, w ∈ TW := tw_in [(8, 203), (8, 204)] (by decide +kernel) (by decide +kernel)
set_option maxRecDepth 100000 in
theorem ch_X7_copy : ∀ w ∈ hdW M_X7_copy, w ∈ TW := fun w h => nomatch h
set_option maxRecDepth 100000 in
theorem ok_X7_copy : methOK CLS MT TSS M_X7_copy := meth_ok (k := ck_X7_copy) (kd := 1) hG_all prim_in inst_in cw_X7_copy cb_X7_copy (own2 (M_X7_copy, 1) (List.mem_of_getElem? (i := 12) rfl)).1 (own2 (M_X7_copy, 1) (List.mem_of_getElem? (i := 12) rfl)).2 (by decide +kernel) ch_X7_copy (fun wd _ r hr => noThr_ok (by decide +kernel) wd TSS hr)
set_option maxRecDepth 100000 in
theorem cb_X8_init : (M_X8_init).rw.all (rowB CLS MT TSS KD M_X8_init (decide ((M_X8_init).nm.name = "<init>")) ck_X8_init) = true := by decide +kernel
set_option maxRecDepth 100000 in
theorem cw_X8_init : ∀ w ∈ ckW CLS MT (M_X8_init).nm.cls ck_X8_init, w ∈ TW := tw_in [(8, 75), (8, 76), (8, 72), (8, 73), (8, 74), (8, 69), (8, 71), (8, 70)] (by decide +kernel) (by decide +kernel)
set_option maxRecDepth 100000 in
theorem ch_X8_init : ∀ w ∈ hdW M_X8_init, w ∈ TW := fun w h => nomatch h
set_option maxRecDepth 100000 in
theorem ok_X8_init : methOK CLS MT TSS M_X8_init := meth_ok (k := ck_X8_init) (kd := 2) hG_all prim_in inst_in cw_X8_init cb_X8_init (own2 (M_X8_init, 2) (List.mem_of_getElem? (i := 13) rfl)).1 (own2 (M_X8_init, 2) (List.mem_of_getElem? (i := 13) rfl)).2 (by decide +kernel) ch_X8_init (fun wd _ r hr => noThr_ok (by decide +kernel) wd TSS hr)
set_option maxRecDepth 100000 in
theorem cb_X8_coverAll : (M_X8_coverAll).rw.all (rowB CLS MT TSS KD M_X8_coverAll (decide ((M_X8_coverAll).nm.name = "<init>")) ck_X8_coverAll) = true := by decide +kernel
set_option maxRecDepth 100000 in
theorem cw_X8_coverAll : ∀ w ∈ ckW CLS MT (M_X8_coverAll).nm.cls ck_X8_coverAll, w ∈ TW := tw_in [(8, 72), (7, 116), (8, 75), (8, 73), (11, 148), (11, 152)] (by decide +kernel) (by decide +kernel)
set_option maxRecDepth 100000 in
theorem ch_X8_coverAll : ∀ w ∈ hdW M_X8_coverAll, w ∈ TW := fun w h => nomatch h
set_option maxRecDepth 100000 in
theorem ok_X8_coverAll : methOK CLS MT TSS M_X8_coverAll := meth_ok (k := ck_X8_coverAll) (kd := 1) hG_all prim_in inst_in cw_X8_coverAll cb_X8_coverAll (own2 (M_X8_coverAll, 1) (List.mem_of_getElem? (i := 14) rfl)).1 (own2 (M_X8_coverAll, 1) (List.mem_of_getElem? (i := 14) rfl)).2 (by decide +kernel) ch_X8_coverAll (fun wd _ r hr => noThr_ok (by decide +kernel) wd TSS hr)
set_option maxRecDepth 100000 in
theorem cb_X8_findHiding : (M_X8_findHiding).rw.all (rowB CLS MT TSS KD M_X8_findHiding (decide ((M_X8_findHiding).nm.name = "<init>")) ck_X8_findHiding) = true := by decide +kernel
set_option maxRecDepth 100000 in
theorem cw_X8_findHiding : ∀ w ∈ ckW CLS MT (M_X8_findHiding).nm.cls ck_X8_findHiding, w ∈ TW := tw_in [(8, 77), (8, 78), (8, 80), (11, 144), (11, 153)] (by decide +kernel) (by decide +kernel)
set_option maxRecDepth 100000 in
theorem ch_X8_findHiding : ∀ w ∈ hdW M_X8_findHiding, w ∈ TW := fun w h => nomatch h
set_option maxRecDepth 100000 in
theorem ok_X8_findHiding : methOK CLS MT TSS M_X8_findHiding := meth_ok (k := ck_X8_findHiding) (kd := 1) hG_all prim_in inst_in cw_X8_findHiding cb_X8_findHiding (own2 (M_X8_findHiding, 1) (List.mem_of_getElem? (i := 15) rfl)).1 (own2 (M_X8_findHiding, 1) (List.mem_of_getElem? (i := 15) rfl)).2 (by decide +kernel) ch_X8_findHiding (fun wd _ r hr => noThr_ok (by decide +kernel) wd TSS hr)
set_option maxRecDepth 100000 in
theorem cb_X8_leadFrom : (M_X8_leadFrom).rw.all (rowB CLS MT TSS KD M_X8_leadFrom (decide ((M_X8_leadFrom).nm.name = "<init>")) ck_X8_leadFrom) = true := by decide +kernel
set_option maxRecDepth 100000 in
theorem cw_X8_leadFrom : ∀ w ∈ ckW CLS MT (M_X8_leadFrom).nm.cls ck_X8_leadFrom, w ∈ TW := tw_in [(8, 78), (8, 72), (7, 116), (8, 77), (8, 80), (11, 157)] (by decide +kernel) (by decide +kernel)
set_option maxRecDepth 100000 in
theorem ch_X8_leadFrom : ∀ w ∈ hdW M_X8_leadFrom, w ∈ TW := fun w h => nomatch h
set_option maxRecDepth 100000 in
theorem ok_X8_leadFrom : methOK CLS MT TSS M_X8_leadFrom := meth_ok (k := ck_X8_leadFrom) (kd := 1) hG_all prim_in inst_in cw_X8_leadFrom cb_X8_leadFrom (own2 (M_X8_leadFrom, 1) (List.mem_of_getElem? (i := 16) rfl)).1 (own2 (M_X8_leadFrom, 1) (List.mem_of_getElem? (i := 16) rfl)).2 (by decide +kernel) ch_X8_leadFrom (fun wd _ r hr => noThr_ok (by decide +kernel) wd TSS hr)
set_option maxRecDepth 100000 in
theorem cb_X8_leadBirdEachWay : (M_X8_leadBirdEachWay).rw.all (rowB CLS MT TSS KD M_X8_leadBirdEachWay (decide ((M_X8_leadBirdEachWay).nm.name = "<init>")) ck_X8_leadBirdEachWay) = true := by decide +kernel
set_option maxRecDepth 100000 in
theorem cw_X8_leadBirdEachWay : ∀ w ∈ ckW CLS MT (M_X8_leadBirdEachWay).nm.cls ck_X8_leadBirdEachWay, w ∈ TW := tw_in [(8, 73), (8, 5), (8, 15), (8, 75), (11, 161), (11, 153)] (by decide +kernel) (by decide +kernel)
set_option maxRecDepth 100000 in
theorem ch_X8_leadBirdEachWay : ∀ w ∈ hdW M_X8_leadBirdEachWay, w ∈ TW := fun w h => nomatch h
set_option maxRecDepth 100000 in
theorem ok_X8_leadBirdEachWay : methOK CLS MT TSS M_X8_leadBirdEachWay := meth_ok (k := ck_X8_leadBirdEachWay) (kd := 1) hG_all prim_in inst_in cw_X8_leadBirdEachWay cb_X8_leadBirdEachWay (own2 (M_X8_leadBirdEachWay, 1) (List.mem_of_getElem? (i := 17) rfl)).1 (own2 (M_X8_leadBirdEachWay, 1) (List.mem_of_getElem? (i := 17) rfl)).2 (by decide +kernel) ch_X8_leadBirdEachWay (fun wd _ r hr => noThr_ok (by decide +kernel) wd TSS hr)
set_option maxRecDepth 100000 in
theorem cb_X8_leastProof : (M_X8_leastProof).rw.all (rowB CLS MT TSS KD M_X8_leastProof (decide ((M_X8_leastProof).nm.name = "<init>")) ck_X8_leastProof) = true := by decide +kernel
set_option maxRecDepth 100000 in
theorem cw_X8_leastProof : ∀ w ∈ ckW CLS MT (M_X8_leastProof).nm.cls ck_X8_leastProof, w ∈ TW := tw_in [(8, 72), (11, 180), (9, 72), (9, 76), (11, 181), (11, 182)] (by decide +kernel) (by decide +kernel)
set_option maxRecDepth 100000 in
theorem ch_X8_leastProof : ∀ w ∈ hdW M_X8_leastProof, w ∈ TW := fun w h => nomatch h
set_option maxRecDepth 100000 in
theorem ok_X8_leastProof : methOK CLS MT TSS M_X8_leastProof := meth_ok (k := ck_X8_leastProof) (kd := 1) hG_all prim_in inst_in cw_X8_leastProof cb_X8_leastProof (own2 (M_X8_leastProof, 1) (List.mem_of_getElem? (i := 18) rfl)).1 (own2 (M_X8_leastProof, 1) (List.mem_of_getElem? (i := 18) rfl)).2 (by decide +kernel) ch_X8_leastProof (fun wd _ r hr => noThr_ok (by decide +kernel) wd TSS hr)
set_option maxRecDepth 100000 in
theorem cb_X8_leastTurn : (M_X8_leastTurn).rw.all (rowB CLS MT TSS KD M_X8_leastTurn (decide ((M_X8_leastTurn).nm.name = "<init>")) ck_X8_leastTurn) = true := by decide +kernel
set_option maxRecDepth 100000 in
theorem cw_X8_leastTurn : ∀ w ∈ ckW CLS MT (M_X8_leastTurn).nm.cls ck_X8_leastTurn, w ∈ TW := tw_in [(8, 73), (8, 15), (8, 72), (9, 69), (9, 70), (9, 71), (9, 72), (9, 76)] (by decide +kernel) (by decide +kernel)
set_option maxRecDepth 100000 in
theorem ch_X8_leastTurn : ∀ w ∈ hdW M_X8_leastTurn, w ∈ TW := fun w h => nomatch h
set_option maxRecDepth 100000 in
theorem ok_X8_leastTurn : methOK CLS MT TSS M_X8_leastTurn := meth_ok (k := ck_X8_leastTurn) (kd := 1) hG_all prim_in inst_in cw_X8_leastTurn cb_X8_leastTurn (own2 (M_X8_leastTurn, 1) (List.mem_of_getElem? (i := 19) rfl)).1 (own2 (M_X8_leastTurn, 1) (List.mem_of_getElem? (i := 19) rfl)).2 (by decide +kernel) ch_X8_leastTurn (fun wd _ r hr => noThr_ok (by decide +kernel) wd TSS hr)
set_option maxRecDepth 100000 in
theorem cb_X8_isBetter : (M_X8_isBetter).rw.all (rowB CLS MT TSS KD M_X8_isBetter (decide ((M_X8_isBetter).nm.name = "<init>")) ck_X8_isBetter) = true := by decide +kernel
set_option maxRecDepth 100000 in
theorem cw_X8_isBetter : ∀ w ∈ ckW CLS MT (M_X8_isBetter).nm.cls ck_X8_isBetter, w ∈ TW := tw_in [(9, 79)] (by decide +kernel) (by decide +kernel)
set_option maxRecDepth 100000 in
theorem ch_X8_isBetter : ∀ w ∈ hdW M_X8_isBetter, w ∈ TW := fun w h => nomatch h
set_option maxRecDepth 100000 in
theorem ok_X8_isBetter : methOK CLS MT TSS M_X8_isBetter := meth_ok (k := ck_X8_isBetter) (kd := 0) hG_all prim_in inst_in cw_X8_isBetter cb_X8_isBetter (own2 (M_X8_isBetter, 0) (List.mem_of_getElem? (i := 20) rfl)).1 (own2 (M_X8_isBetter, 0) (List.mem_of_getElem? (i := 20) rfl)).2 (by decide +kernel) ch_X8_isBetter (fun wd _ r hr => noThr_ok (by decide +kernel) wd TSS hr)
set_option maxRecDepth 100000 in
theorem cb_X8_weighPairs : (M_X8_weighPairs).rw.all (rowB CLS MT TSS KD M_X8_weighPairs (decide ((M_X8_weighPairs).nm.name = "<init>")) ck_X8_weighPairs) = true := by decide +kernel
set_option maxRecDepth 100000 in
theorem cw_X8_weighPairs : ∀ w ∈ ckW CLS MT (M_X8_weighPairs).nm.cls ck_X8_weighPairs, w ∈ TW := tw_in [(8, 82), (8, 84), (8, 72), (7, 112), (8, 76), (7, 116), (8, 75), (11, 144), (11, 152), (11, 194), (9, 72), (11, 161), (11, 198)] (by decide +kernel) (by decide +kernel)
set_option maxRecDepth 100000 in
theorem ch_X8_weighPairs : ∀ w ∈ hdW M_X8_weighPairs, w ∈ TW := fun w h => nomatch h
set_option maxRecDepth 100000 in
theorem ok_X8_weighPairs : methOK CLS MT TSS M_X8_weighPairs := meth_ok (k := ck_X8_weighPairs) (kd := 1) hG_all prim_in inst_in cw_X8_weighPairs cb_X8_weighPairs (own2 (M_X8_weighPairs, 1) (List.mem_of_getElem? (i := 21) rfl)).1 (own2 (M_X8_weighPairs, 1) (List.mem_of_getElem? (i := 21) rfl)).2 (by decide +kernel) ch_X8_weighPairs (fun wd _ r hr => noThr_ok (by decide +kernel) wd TSS hr)
set_option maxRecDepth 100000 in
theorem cb_X8_coveredByOthers : (M_X8_coveredByOthers).rw.all (rowB CLS MT TSS KD M_X8_coveredByOthers (decide ((M_X8_coveredByOthers).nm.name = "<init>")) ck_X8_coveredByOthers) = true := by decide +kernel
set_option maxRecDepth 100000 in
theorem cw_X8_coveredByOthers : ∀ w ∈ ckW CLS MT (M_X8_coveredByOthers).nm.cls ck_X8_coveredByOthers, w ∈ TW := tw_in [(8, 72), (7, 116), (8, 75), (11, 161)] (by decide +kernel) (by decide +kernel)
set_option maxRecDepth 100000 in
theorem ch_X8_coveredByOthers : ∀ w ∈ hdW M_X8_coveredByOthers, w ∈ TW := fun w h => nomatch h
set_option maxRecDepth 100000 in
theorem ok_X8_coveredByOthers : methOK CLS MT TSS M_X8_coveredByOthers := meth_ok (k := ck_X8_coveredByOthers) (kd := 1) hG_all prim_in inst_in cw_X8_coveredByOthers cb_X8_coveredByOthers (own2 (M_X8_coveredByOthers, 1) (List.mem_of_getElem? (i := 22) rfl)).1 (own2 (M_X8_coveredByOthers, 1) (List.mem_of_getElem? (i := 22) rfl)).2 (by decide +kernel) ch_X8_coveredByOthers (fun wd _ r hr => noThr_ok (by decide +kernel) wd TSS hr)
set_option maxRecDepth 100000 in
theorem cb_X8_weighPair : (M_X8_weighPair).rw.all (rowB CLS MT TSS KD M_X8_weighPair (decide ((M_X8_weighPair).nm.name = "<init>")) ck_X8_weighPair) = true := by decide +kernel
set_option maxRecDepth 100000 in
theorem cw_X8_weighPair : ∀ w ∈ ckW CLS MT (M_X8_weighPair).nm.cls ck_X8_weighPair, w ∈ TW := tw_in [(8, 74), (8, 82), (8, 84), (8, 72), (7, 112), (8, 76), (11, 202), (11, 182), (11, 161), (11, 152)] (by decide +kernel) (by decide +kernel)
set_option maxRecDepth 100000 in
theorem ch_X8_weighPair : ∀ w ∈ hdW M_X8_weighPair, w ∈ TW := fun w h => nomatch h
set_option maxRecDepth 100000 in
theorem ok_X8_weighPair : methOK CLS MT TSS M_X8_weighPair := meth_ok (k := ck_X8_weighPair) (kd := 1) hG_all prim_in inst_in cw_X8_weighPair cb_X8_weighPair (own2 (M_X8_weighPair, 1) (List.mem_of_getElem? (i := 23) rfl)).1 (own2 (M_X8_weighPair, 1) (List.mem_of_getElem? (i := 23) rfl)).2 (by decide +kernel) ch_X8_weighPair (fun wd _ r hr => noThr_ok (by decide +kernel) wd TSS hr)
set_option maxRecDepth 100000 in
theorem cb_X8_pairsLeft : (M_X8_pairsLeft).rw.all (rowB CLS MT TSS KD M_X8_pairsLeft (decide ((M_X8_pairsLeft).nm.name = "<init>")) ck_X8_pairsLeft) = true := by decide +kernel
set_option maxRecDepth 100000 in
theorem cw_X8_pairsLeft : ∀ w ∈ ckW CLS MT (M_X8_pairsLeft).nm.cls ck_X8_pairsLeft, w ∈ TW := tw_in [(8, 76), (8, 82), (11, 161), (11, 221)] (by decide +kernel) (by decide +kernel)
set_option maxRecDepth 100000 in
theorem ch_X8_pairsLeft : ∀ w ∈ hdW M_X8_pairsLeft, w ∈ TW := fun w h => nomatch h
set_option maxRecDepth 100000 in
theorem ok_X8_pairsLeft : methOK CLS MT TSS M_X8_pairsLeft := meth_ok (k := ck_X8_pairsLeft) (kd := 1) hG_all prim_in inst_in cw_X8_pairsLeft cb_X8_pairsLeft (own2 (M_X8_pairsLeft, 1) (List.mem_of_getElem? (i := 24) rfl)).1 (own2 (M_X8_pairsLeft, 1) (List.mem_of_getElem? (i := 24) rfl)).2 (by decide +kernel) ch_X8_pairsLeft (fun wd _ r hr => noThr_ok (by decide +kernel) wd TSS hr)
set_option maxRecDepth 100000 in
theorem cb_X8_bestQuestion : (M_X8_bestQuestion).rw.all (rowB CLS MT TSS KD M_X8_bestQuestion (decide ((M_X8_bestQuestion).nm.name = "<init>")) ck_X8_bestQuestion) = true := by decide +kernel
set_option maxRecDepth 100000 in
theorem cw_X8_bestQuestion : ∀ w ∈ ckW CLS MT (M_X8_bestQuestion).nm.cls ck_X8_bestQuestion, w ∈ TW := tw_in [(8, 72), (7, 112), (8, 74), (7, 189), (11, 182), (11, 217)] (by decide +kernel) (by decide +kernel)
set_option maxRecDepth 100000 in
theorem ch_X8_bestQuestion : ∀ w ∈ hdW M_X8_bestQuestion, w ∈ TW := fun w h => nomatch h
set_option maxRecDepth 100000 in
theorem ok_X8_bestQuestion : methOK CLS MT TSS M_X8_bestQuestion := meth_ok (k := ck_X8_bestQuestion) (kd := 1) hG_all prim_in inst_in cw_X8_bestQuestion cb_X8_bestQuestion (own2 (M_X8_bestQuestion, 1) (List.mem_of_getElem? (i := 25) rfl)).1 (own2 (M_X8_bestQuestion, 1) (List.mem_of_getElem? (i := 25) rfl)).2 (by decide +kernel) ch_X8_bestQuestion (fun wd _ r hr => noThr_ok (by decide +kernel) wd TSS hr)
set_option maxRecDepth 100000 in
theorem cb_X9_init : (M_X9_init).rw.all (rowB CLS MT TSS KD M_X9_init (decide ((M_X9_init).nm.name = "<init>")) ck_X9_init) = true := by decide +kernel
set_option maxRecDepth 100000 in
theorem cw_X9_init : ∀ w ∈ ckW CLS MT (M_X9_init).nm.cls ck_X9_init, w ∈ TW := tw_in [(8, 113), (8, 114), (8, 112)] (by decide +kernel) (by decide +kernel)
set_option maxRecDepth 100000 in
theorem ch_X9_init : ∀ w ∈ hdW M_X9_init, w ∈ TW := fun w h => nomatch h
set_option maxRecDepth 100000 in
theorem ok_X9_init : methOK CLS MT TSS M_X9_init := meth_ok (k := ck_X9_init) (kd := 2) hG_all prim_in inst_in cw_X9_init cb_X9_init (own2 (M_X9_init, 2) (List.mem_of_getElem? (i := 26) rfl)).1 (own2 (M_X9_init, 2) (List.mem_of_getElem? (i := 26) rfl)).2 (by decide +kernel) ch_X9_init (fun wd _ r hr => noThr_ok (by decide +kernel) wd TSS hr)
set_option maxRecDepth 100000 in
theorem cb_X9_play : (M_X9_play).rw.all (rowB CLS MT TSS KD M_X9_play (decide ((M_X9_play).nm.name = "<init>")) ck_X9_play) = true := by decide +kernel
set_option maxRecDepth 100000 in
theorem cw_X9_play : ∀ w ∈ ckW CLS MT (M_X9_play).nm.cls ck_X9_play, w ∈ TW := tw_in [(8, 114), (8, 116), (8, 113), (7, 123), (7, 118), (7, 109), (8, 14), (12, 133), (12, 137), (12, 141), (12, 148)] (by decide +kernel) (by decide +kernel)
set_option maxRecDepth 100000 in
theorem ch_X9_play : ∀ w ∈ hdW M_X9_play, w ∈ TW := fun w h => nomatch h
set_option maxRecDepth 100000 in
theorem ok_X9_play : methOK CLS MT TSS M_X9_play := meth_ok (k := ck_X9_play) (kd := 1) hG_all prim_in inst_in cw_X9_play cb_X9_play (own2 (M_X9_play, 1) (List.mem_of_getElem? (i := 27) rfl)).1 (own2 (M_X9_play, 1) (List.mem_of_getElem? (i := 27) rfl)).2 (by decide +kernel) ch_X9_play (fun wd _ r hr => noThr_ok (by decide +kernel) wd TSS hr)
set_option maxRecDepth 100000 in
theorem cb_X9_playBird : (M_X9_playBird).rw.all (rowB CLS MT TSS KD M_X9_playBird (decide ((M_X9_playBird).nm.name = "<init>")) ck_X9_playBird) = true := by decide +kernel
set_option maxRecDepth 100000 in
theorem cw_X9_playBird : ∀ w ∈ ckW CLS MT (M_X9_playBird).nm.cls ck_X9_playBird, w ∈ TW := tw_in [(8, 113), (7, 123), (7, 118), (8, 114), (12, 141), (12, 146), (12, 147)] (by decide +kernel) (by decide +kernel)
set_option maxRecDepth 100000 in
theorem ch_X9_playBird : ∀ w ∈ hdW M_X9_playBird, w ∈ TW := fun w h => nomatch h
set_option maxRecDepth 100000 in
theorem ok_X9_playBird : methOK CLS MT TSS M_X9_playBird := meth_ok (k := ck_X9_playBird) (kd := 1) hG_all prim_in inst_in cw_X9_playBird cb_X9_playBird (own2 (M_X9_playBird, 1) (List.mem_of_getElem? (i := 28) rfl)).1 (own2 (M_X9_playBird, 1) (List.mem_of_getElem? (i := 28) rfl)).2 (by decide +kernel) ch_X9_playBird (fun wd _ r hr => noThr_ok (by decide +kernel) wd TSS hr)
set_option maxRecDepth 100000 in
theorem cb_X9_draw : (M_X9_draw).rw.all (rowB CLS MT TSS KD M_X9_draw (decide ((M_X9_draw).nm.name = "<init>")) ck_X9_draw) = true := by decide +kernel
set_option maxRecDepth 100000 in
theorem cw_X9_draw : ∀ w ∈ ckW CLS MT (M_X9_draw).nm.cls ck_X9_draw, w ∈ TW := tw_in [(8, 116), (12, 145)] (by decide +kernel) (by decide +kernel)
set_option maxRecDepth 100000 in
theorem ch_X9_draw : ∀ w ∈ hdW M_X9_draw, w ∈ TW := fun w h => nomatch h
set_option maxRecDepth 100000 in
theorem ok_X9_draw : methOK CLS MT TSS M_X9_draw := meth_ok (k := ck_X9_draw) (kd := 1) hG_all prim_in inst_in cw_X9_draw cb_X9_draw (own2 (M_X9_draw, 1) (List.mem_of_getElem? (i := 29) rfl)).1 (own2 (M_X9_draw, 1) (List.mem_of_getElem? (i := 29) rfl)).2 (by decide +kernel) ch_X9_draw (fun wd _ r hr => noThr_ok (by decide +kernel) wd TSS hr)
set_option maxRecDepth 100000 in
theorem cb_X10_init : (M_X10_init).rw.all (rowB CLS MT TSS KD M_X10_init (decide ((M_X10_init).nm.name = "<init>")) ck_X10_init) = true := by decide +kernel
set_option maxRecDepth 100000 in
theorem cw_X10_init : ∀ w ∈ ckW CLS MT (M_X10_init).nm.cls ck_X10_init, w ∈ TW := tw_in [(8, 124), (8, 125), (8, 126), (8, 127), (8, 128), (8, 129), (8, 130), (8, 131), (8, 132), (8, 133), (8, 134), (8, 135), (7, 29), (7, 34), (7, 83), (7, 158), (7, 183), (7, 198), (7, 234), (8, 40), (8, 66), (8, 109), (7, 32), (7, 81), (7, 156), (7, 181), (7, 196), (7, 232), (8, 38), (8, 64), (8, 107)] (by decide +kernel) (by decide +kernel)
set_option maxRecDepth 100000 in
theorem ch_X10_init : ∀ w ∈ hdW M_X10_init, w ∈ TW := fun w h => nomatch h
set_option maxRecDepth 100000 in
theorem ok_X10_init : methOK CLS MT TSS M_X10_init := meth_ok (k := ck_X10_init) (kd := 2) hG_all prim_in inst_in cw_X10_init cb_X10_init (own2 (M_X10_init, 2) (List.mem_of_getElem? (i := 30) rfl)).1 (own2 (M_X10_init, 2) (List.mem_of_getElem? (i := 30) rfl)).2 (by decide +kernel) ch_X10_init (fun wd _ r hr => noThr_ok (by decide +kernel) wd TSS hr)
set_option maxRecDepth 100000 in
theorem cb_X10_feed : (M_X10_feed).rw.all (rowB CLS MT TSS KD M_X10_feed (decide ((M_X10_feed).nm.name = "<init>")) ck_X10_feed) = true := by decide +kernel
set_option maxRecDepth 100000 in
theorem cw_X10_feed : ∀ w ∈ ckW CLS MT (M_X10_feed).nm.cls ck_X10_feed, w ∈ TW := tw_in [(8, 124), (7, 50), (8, 174)] (by decide +kernel) (by decide +kernel)
set_option maxRecDepth 100000 in
theorem ch_X10_feed : ∀ w ∈ hdW M_X10_feed, w ∈ TW := fun w h => nomatch h
set_option maxRecDepth 100000 in
theorem ok_X10_feed : methOK CLS MT TSS M_X10_feed := meth_ok (k := ck_X10_feed) (kd := 1) hG_all prim_in inst_in cw_X10_feed cb_X10_feed (own2 (M_X10_feed, 1) (List.mem_of_getElem? (i := 31) rfl)).1 (own2 (M_X10_feed, 1) (List.mem_of_getElem? (i := 31) rfl)).2 (by decide +kernel) ch_X10_feed (fun wd _ r hr => noThr_ok (by decide +kernel) wd TSS hr)
set_option maxRecDepth 100000 in
theorem cb_X10_court : (M_X10_court).rw.all (rowB CLS MT TSS KD M_X10_court (decide ((M_X10_court).nm.name = "<init>")) ck_X10_court) = true := by decide +kernel
set_option maxRecDepth 100000 in
theorem cw_X10_court : ∀ w ∈ ckW CLS MT (M_X10_court).nm.cls ck_X10_court, w ∈ TW := tw_in [(8, 126), (8, 124), (7, 59), (8, 125), (8, 127), (8, 129), (8, 133), (8, 136), (8, 132), (7, 110), (9, 134), (9, 233), (10, 99), (10, 104), (10, 108), (10, 112), (10, 116)] (by decide +kernel) (by decide +kernel)
set_option maxRecDepth 100000 in
theorem ch_X10_court : ∀ w ∈ hdW M_X10_court, w ∈ TW := fun w h => nomatch h
set_option maxRecDepth 100000 in
theorem ok_X10_court : methOK CLS MT TSS M_X10_court := meth_ok (k := ck_X10_court) (kd := 1) hG_all prim_in inst_in cw_X10_court cb_X10_court (own2 (M_X10_court, 1) (List.mem_of_getElem? (i := 32) rfl)).1 (own2 (M_X10_court, 1) (List.mem_of_getElem? (i := 32) rfl)).2 (by decide +kernel) ch_X10_court (fun wd _ r hr => noThr_ok (by decide +kernel) wd TSS hr)
set_option maxRecDepth 100000 in
theorem cb_X10_law : (M_X10_law).rw.all (rowB CLS MT TSS KD M_X10_law (decide ((M_X10_law).nm.name = "<init>")) ck_X10_law) = true := by decide +kernel
set_option maxRecDepth 100000 in
theorem cw_X10_law : ∀ w ∈ ckW CLS MT (M_X10_law).nm.cls ck_X10_law, w ∈ TW := tw_in [(8, 128), (8, 124), (7, 59), (8, 127), (8, 132), (9, 134), (10, 127), (10, 175), (10, 180)] (by decide +kernel) (by decide +kernel)
set_option maxRecDepth 100000 in
theorem ch_X10_law : ∀ w ∈ hdW M_X10_law, w ∈ TW := fun w h => nomatch h
set_option maxRecDepth 100000 in
theorem ok_X10_law : methOK CLS MT TSS M_X10_law := meth_ok (k := ck_X10_law) (kd := 1) hG_all prim_in inst_in cw_X10_law cb_X10_law (own2 (M_X10_law, 1) (List.mem_of_getElem? (i := 33) rfl)).1 (own2 (M_X10_law, 1) (List.mem_of_getElem? (i := 33) rfl)).2 (by decide +kernel) ch_X10_law (fun wd _ r hr => noThr_ok (by decide +kernel) wd TSS hr)
set_option maxRecDepth 100000 in
theorem cb_X10_work : (M_X10_work).rw.all (rowB CLS MT TSS KD M_X10_work (decide ((M_X10_work).nm.name = "<init>")) ck_X10_work) = true := by decide +kernel
set_option maxRecDepth 100000 in
theorem cw_X10_work : ∀ w ∈ ckW CLS MT (M_X10_work).nm.cls ck_X10_work, w ∈ TW := tw_in [(8, 133), (8, 50), (8, 131), (8, 124), (8, 125), (7, 59), (8, 132), (7, 209), (7, 214), (8, 136), (7, 212), (9, 134), (10, 188), (10, 227), (10, 231)] (by decide +kernel) (by decide +kernel)
set_option maxRecDepth 100000 in
theorem ch_X10_work : ∀ w ∈ hdW M_X10_work, w ∈ TW := fun w h => nomatch h
set_option maxRecDepth 100000 in
theorem ok_X10_work : methOK CLS MT TSS M_X10_work := meth_ok (k := ck_X10_work) (kd := 1) hG_all prim_in inst_in cw_X10_work cb_X10_work (own2 (M_X10_work, 1) (List.mem_of_getElem? (i := 34) rfl)).1 (own2 (M_X10_work, 1) (List.mem_of_getElem? (i := 34) rfl)).2 (by decide +kernel) ch_X10_work (fun wd _ r hr => noThr_ok (by decide +kernel) wd TSS hr)
set_option maxRecDepth 100000 in
theorem cb_X10_book : (M_X10_book).rw.all (rowB CLS MT TSS KD M_X10_book (decide ((M_X10_book).nm.name = "<init>")) ck_X10_book) = true := by decide +kernel
set_option maxRecDepth 100000 in
theorem cw_X10_book : ∀ w ∈ ckW CLS MT (M_X10_book).nm.cls ck_X10_book, w ∈ TW := tw_in [(8, 130), (8, 124), (8, 125), (7, 110), (7, 59), (8, 129), (7, 188), (9, 134), (11, 39), (11, 55), (11, 59)] (by decide +kernel) (by decide +kernel)
set_option maxRecDepth 100000 in
theorem ch_X10_book : ∀ w ∈ hdW M_X10_book, w ∈ TW := fun w h => nomatch h
set_option maxRecDepth 100000 in
theorem ok_X10_book : methOK CLS MT TSS M_X10_book := meth_ok (k := ck_X10_book) (kd := 1) hG_all prim_in inst_in cw_X10_book cb_X10_book (own2 (M_X10_book, 1) (List.mem_of_getElem? (i := 35) rfl)).1 (own2 (M_X10_book, 1) (List.mem_of_getElem? (i := 35) rfl)).2 (by decide +kernel) ch_X10_book (fun wd _ r hr => noThr_ok (by decide +kernel) wd TSS hr)
set_option maxRecDepth 100000 in
theorem cb_X10_fault : (M_X10_fault).rw.all (rowB CLS MT TSS KD M_X10_fault (decide ((M_X10_fault).nm.name = "<init>")) ck_X10_fault) = true := by decide +kernel
set_option maxRecDepth 100000 in
theorem cw_X10_fault : ∀ w ∈ ckW CLS MT (M_X10_fault).nm.cls ck_X10_fault, w ∈ TW := tw_in [(8, 124), (7, 61)] (by decide +kernel) (by decide +kernel)
set_option maxRecDepth 100000 in
theorem ch_X10_fault : ∀ w ∈ hdW M_X10_fault, w ∈ TW := fun w h => nomatch h
set_option maxRecDepth 100000 in
theorem ok_X10_fault : methOK CLS MT TSS M_X10_fault := meth_ok (k := ck_X10_fault) (kd := 1) hG_all prim_in inst_in cw_X10_fault cb_X10_fault (own2 (M_X10_fault, 1) (List.mem_of_getElem? (i := 36) rfl)).1 (own2 (M_X10_fault, 1) (List.mem_of_getElem? (i := 36) rfl)).2 (by decide +kernel) ch_X10_fault (fun wd _ r hr => noThr_ok (by decide +kernel) wd TSS hr)
set_option maxRecDepth 100000 in
theorem cb_X10_undo : (M_X10_undo).rw.all (rowB CLS MT TSS KD M_X10_undo (decide ((M_X10_undo).nm.name = "<init>")) ck_X10_undo) = true := by decide +kernel
set_option maxRecDepth 100000 in
theorem cw_X10_undo : ∀ w ∈ ckW CLS MT (M_X10_undo).nm.cls ck_X10_undo, w ∈ TW := tw_in [(8, 133), (8, 50), (8, 132), (8, 136), (8, 187)] (by decide +kernel) (by decide +kernel)
set_option maxRecDepth 100000 in
theorem ch_X10_undo : ∀ w ∈ hdW M_X10_undo, w ∈ TW := fun w h => nomatch h
set_option maxRecDepth 100000 in
theorem ok_X10_undo : methOK CLS MT TSS M_X10_undo := meth_ok (k := ck_X10_undo) (kd := 1) hG_all prim_in inst_in cw_X10_undo cb_X10_undo (own2 (M_X10_undo, 1) (List.mem_of_getElem? (i := 37) rfl)).1 (own2 (M_X10_undo, 1) (List.mem_of_getElem? (i := 37) rfl)).2 (by decide +kernel) ch_X10_undo (fun wd _ r hr => noThr_ok (by decide +kernel) wd TSS hr)
set_option maxRecDepth 100000 in
theorem cb_X10_told : (M_X10_told).rw.all (rowB CLS MT TSS KD M_X10_told (decide ((M_X10_told).nm.name = "<init>")) ck_X10_told) = true := by decide +kernel
set_option maxRecDepth 100000 in
theorem cw_X10_told : ∀ w ∈ ckW CLS MT (M_X10_told).nm.cls ck_X10_told, w ∈ TW := tw_in [(8, 125), (7, 110), (7, 115), (7, 121), (7, 125), (8, 132), (8, 16), (8, 18), (8, 129), (7, 188), (8, 136), (9, 138), (11, 67), (9, 17), (9, 84), (11, 59), (9, 60)] (by decide +kernel) (by decide +kernel)
set_option maxRecDepth 100000 in
theorem ch_X10_told : ∀ w ∈ hdW M_X10_told, w ∈ TW := fun w h => nomatch h
set_option maxRecDepth 100000 in
theorem ok_X10_told : methOK CLS MT TSS M_X10_told := meth_ok (k := ck_X10_told) (kd := 1) hG_all prim_in inst_in cw_X10_told cb_X10_told (own2 (M_X10_told, 1) (List.mem_of_getElem? (i := 38) rfl)).1 (own2 (M_X10_told, 1) (List.mem_of_getElem? (i := 38) rfl)).2 (by decide +kernel) ch_X10_told (fun wd _ r hr => noThr_ok (by decide +kernel) wd TSS hr)
set_option maxRecDepth 100000 in
theorem cb_X10_lean : (M_X10_lean).rw.all (rowB CLS MT TSS KD M_X10_lean (decide ((M_X10_lean).nm.name = "<init>")) ck_X10_lean) = true := by decide +kernel
set_option maxRecDepth 100000 in
theorem cw_X10_lean : ∀ w ∈ ckW CLS MT (M_X10_lean).nm.cls ck_X10_lean, w ∈ TW := tw_in [(8, 125), (8, 132), (8, 16), (9, 17), (9, 42)] (by decide +kernel) (by decide +kernel)
set_option maxRecDepth 100000 in
theorem ch_X10_lean : ∀ w ∈ hdW M_X10_lean, w ∈ TW := fun w h => nomatch h
set_option maxRecDepth 100000 in
theorem ok_X10_lean : methOK CLS MT TSS M_X10_lean := meth_ok (k := ck_X10_lean) (kd := 1) hG_all prim_in inst_in cw_X10_lean cb_X10_lean (own2 (M_X10_lean, 1) (List.mem_of_getElem? (i := 39) rfl)).1 (own2 (M_X10_lean, 1) (List.mem_of_getElem? (i := 39) rfl)).2 (by decide +kernel) ch_X10_lean (fun wd _ r hr => noThr_ok (by decide +kernel) wd TSS hr)
set_option maxRecDepth 100000 in
theorem cb_X10_saying : (M_X10_saying).rw.all (rowB CLS MT TSS KD M_X10_saying (decide ((M_X10_saying).nm.name = "<init>")) ck_X10_saying) = true := by decide +kernel
set_option maxRecDepth 100000 in
theorem cw_X10_saying : ∀ w ∈ ckW CLS MT (M_X10_saying).nm.cls ck_X10_saying, w ∈ TW := tw_in [(8, 125), (7, 110), (8, 132), (8, 3), (7, 92), (7, 94), (11, 76), (9, 138), (9, 93), (11, 96), (11, 97), (9, 60)] (by decide +kernel) (by decide +kernel)
set_option maxRecDepth 100000 in
theorem ch_X10_saying : ∀ w ∈ hdW M_X10_saying, w ∈ TW := fun w h => nomatch h
set_option maxRecDepth 100000 in
theorem ok_X10_saying : methOK CLS MT TSS M_X10_saying := meth_ok (k := ck_X10_saying) (kd := 1) hG_all prim_in inst_in cw_X10_saying cb_X10_saying (own2 (M_X10_saying, 1) (List.mem_of_getElem? (i := 40) rfl)).1 (own2 (M_X10_saying, 1) (List.mem_of_getElem? (i := 40) rfl)).2 (by decide +kernel) ch_X10_saying (fun wd _ r hr => noThr_ok (by decide +kernel) wd TSS hr)
set_option maxRecDepth 100000 in
theorem okc2 : ∀ q ∈ MTK2, methOK CLS MT TSS q.1 := List.forall_mem_cons.mpr ⟨ok_X6_seesNumber, List.forall_mem_cons.mpr ⟨ok_X6_seesSign, List.forall_mem_cons.mpr ⟨ok_X6_seesWord, List.forall_mem_cons.mpr ⟨ok_X6_takeNumber, List.forall_mem_cons.mpr ⟨ok_X6_takeSign, List.forall_mem_cons.mpr ⟨ok_X6_takeIfRoom, List.forall_mem_cons.mpr ⟨ok_X6_fail, List.forall_mem_cons.mpr ⟨ok_X6_isDigit, List.forall_mem_cons.mpr ⟨ok_X6_isLetter, List.forall_mem_cons.mpr ⟨ok_X7_init, List.forall_mem_cons.mpr ⟨ok_X7_get, List.forall_mem_cons.mpr ⟨ok_X7_set, List.forall_mem_cons.mpr ⟨ok_X7_copy, List.forall_mem_cons.mpr ⟨ok_X8_init, List.forall_mem_cons.mpr ⟨ok_X8_coverAll, List.forall_mem_cons.mpr ⟨ok_X8_findHiding, List.forall_mem_cons.mpr ⟨ok_X8_leadFrom, List.forall_mem_cons.mpr ⟨ok_X8_leadBirdEachWay, List.forall_mem_cons.mpr ⟨ok_X8_leastProof, List.forall_mem_cons.mpr ⟨ok_X8_leastTurn, List.forall_mem_cons.mpr ⟨ok_X8_isBetter, List.forall_mem_cons.mpr ⟨ok_X8_weighPairs, List.forall_mem_cons.mpr ⟨ok_X8_coveredByOthers, List.forall_mem_cons.mpr ⟨ok_X8_weighPair, List.forall_mem_cons.mpr ⟨ok_X8_pairsLeft, List.forall_mem_cons.mpr ⟨ok_X8_bestQuestion, List.forall_mem_cons.mpr ⟨ok_X9_init, List.forall_mem_cons.mpr ⟨ok_X9_play, List.forall_mem_cons.mpr ⟨ok_X9_playBird, List.forall_mem_cons.mpr ⟨ok_X9_draw, List.forall_mem_cons.mpr ⟨ok_X10_init, List.forall_mem_cons.mpr ⟨ok_X10_feed, List.forall_mem_cons.mpr ⟨ok_X10_court, List.forall_mem_cons.mpr ⟨ok_X10_law, List.forall_mem_cons.mpr ⟨ok_X10_work, List.forall_mem_cons.mpr ⟨ok_X10_book, List.forall_mem_cons.mpr ⟨ok_X10_fault, List.forall_mem_cons.mpr ⟨ok_X10_undo, List.forall_mem_cons.mpr ⟨ok_X10_told, List.forall_mem_cons.mpr ⟨ok_X10_lean, List.forall_mem_cons.mpr ⟨ok_X10_saying, fun _ h => nomatch h⟩⟩⟩⟩⟩⟩⟩⟩⟩⟩⟩⟩⟩⟩⟩⟩⟩⟩⟩⟩⟩⟩⟩⟩⟩⟩⟩⟩⟩⟩⟩⟩⟩⟩⟩⟩⟩⟩⟩⟩⟩
