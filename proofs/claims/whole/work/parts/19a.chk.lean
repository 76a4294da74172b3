/-! Rows checked. -/
set_option maxRecDepth 100000 in
theorem cb_X0_init : (M_X0_init).rw.all (rowB CLS MT TSS KD M_X0_init (decide ((M_X0_init).nm.name = "<init>")) ck_X0_init) = true := by decide +kernel
set_option maxRecDepth 100000 in
theorem cw_X0_init : ∀ w ∈ ckW CLS MT (M_X0_init).nm.cls ck_X0_init, w ∈ TW := tw_in [(7, 186)] (by decide +kernel) (by decide +kernel)
set_option maxRecDepth 100000 in
theorem ch_X0_init : ∀ w ∈ hdW M_X0_init, w ∈ TW := fun w h => nomatch h
set_option maxRecDepth 100000 in
theorem ok_X0_init : methOK CLS MT TSS M_X0_init := meth_ok (k := ck_X0_init) (kd := 2) hG_all prim_in inst_in cw_X0_init cb_X0_init (own0 (M_X0_init, 2) (List.mem_of_getElem? (i := 0) rfl)).1 (own0 (M_X0_init, 2) (List.mem_of_getElem? (i := 0) rfl)).2 (by decide +kernel) ch_X0_init (fun wd _ r hr => noThr_ok (by decide +kernel) wd TSS hr)
set_option maxRecDepth 100000 in
theorem cb_X0_reset : (M_X0_reset).rw.all (rowB CLS MT TSS KD M_X0_reset (decide ((M_X0_reset).nm.name = "<init>")) ck_X0_reset) = true := by decide +kernel
set_option maxRecDepth 100000 in
theorem cw_X0_reset : ∀ w ∈ ckW CLS MT (M_X0_reset).nm.cls ck_X0_reset, w ∈ TW := tw_in [(7, 187), (7, 190)] (by decide +kernel) (by decide +kernel)
set_option maxRecDepth 100000 in
theorem ch_X0_reset : ∀ w ∈ hdW M_X0_reset, w ∈ TW := fun w h => nomatch h
set_option maxRecDepth 100000 in
theorem ok_X0_reset : methOK CLS MT TSS M_X0_reset := meth_ok (k := ck_X0_reset) (kd := 1) hG_all prim_in inst_in cw_X0_reset cb_X0_reset (own0 (M_X0_reset, 1) (List.mem_of_getElem? (i := 1) rfl)).1 (own0 (M_X0_reset, 1) (List.mem_of_getElem? (i := 1) rfl)).2 (by decide +kernel) ch_X0_reset (fun wd _ r hr => noThr_ok (by decide +kernel) wd TSS hr)
set_option maxRecDepth 100000 in
theorem cb_X0_become : (M_X0_become).rw.all (rowB CLS MT TSS KD M_X0_become (decide ((M_X0_become).nm.name = "<init>")) ck_X0_become) = true := by decide +kernel
set_option maxRecDepth 100000 in
theorem cw_X0_become : ∀ w ∈ ckW CLS MT (M_X0_become).nm.cls ck_X0_become, w ∈ TW := tw_in [(7, 187), (7, 190)] (by decide +kernel) (by decide +kernel)
set_option maxRecDepth 100000 in
theorem ch_X0_become : ∀ w ∈ hdW M_X0_become, w ∈ TW := fun w h => nomatch h
set_option maxRecDepth 100000 in
theorem ok_X0_become : methOK CLS MT TSS M_X0_become := meth_ok (k := ck_X0_become) (kd := 1) hG_all prim_in inst_in cw_X0_become cb_X0_become (own0 (M_X0_become, 1) (List.mem_of_getElem? (i := 2) rfl)).1 (own0 (M_X0_become, 1) (List.mem_of_getElem? (i := 2) rfl)).2 (by decide +kernel) ch_X0_become (fun wd _ r hr => noThr_ok (by decide +kernel) wd TSS hr)
set_option maxRecDepth 100000 in
theorem cb_X0_readFrom : (M_X0_readFrom).rw.all (rowB CLS MT TSS KD M_X0_readFrom (decide ((M_X0_readFrom).nm.name = "<init>")) ck_X0_readFrom) = true := by decide +kernel
set_option maxRecDepth 100000 in
theorem cw_X0_readFrom : ∀ w ∈ ckW CLS MT (M_X0_readFrom).nm.cls ck_X0_readFrom, w ∈ TW := tw_in [(11, 43), (11, 44), (11, 45), (11, 54)] (by decide +kernel) (by decide +kernel)
set_option maxRecDepth 100000 in
theorem ch_X0_readFrom : ∀ w ∈ hdW M_X0_readFrom, w ∈ TW := fun w h => nomatch h
set_option maxRecDepth 100000 in
theorem ok_X0_readFrom : methOK CLS MT TSS M_X0_readFrom := meth_ok (k := ck_X0_readFrom) (kd := 1) hG_all prim_in inst_in cw_X0_readFrom cb_X0_readFrom (own0 (M_X0_readFrom, 1) (List.mem_of_getElem? (i := 3) rfl)).1 (own0 (M_X0_readFrom, 1) (List.mem_of_getElem? (i := 3) rfl)).2 (by decide +kernel) ch_X0_readFrom (fun wd _ r hr => noThr_ok (by decide +kernel) wd TSS hr)
set_option maxRecDepth 100000 in
theorem cb_X0_readLine : (M_X0_readLine).rw.all (rowB CLS MT TSS KD M_X0_readLine (decide ((M_X0_readLine).nm.name = "<init>")) ck_X0_readLine) = true := by decide +kernel
set_option maxRecDepth 100000 in
theorem cw_X0_readLine : ∀ w ∈ ckW CLS MT (M_X0_readLine).nm.cls ck_X0_readLine, w ∈ TW := tw_in [(7, 57), (7, 187), (7, 190), (11, 49), (11, 50), (11, 51), (11, 52), (11, 53)] (by decide +kernel) (by decide +kernel)
set_option maxRecDepth 100000 in
theorem ch_X0_readLine : ∀ w ∈ hdW M_X0_readLine, w ∈ TW := fun w h => nomatch h
set_option maxRecDepth 100000 in
theorem ok_X0_readLine : methOK CLS MT TSS M_X0_readLine := meth_ok (k := ck_X0_readLine) (kd := 1) hG_all prim_in inst_in cw_X0_readLine cb_X0_readLine (own0 (M_X0_readLine, 1) (List.mem_of_getElem? (i := 4) rfl)).1 (own0 (M_X0_readLine, 1) (List.mem_of_getElem? (i := 4) rfl)).2 (by decide +kernel) ch_X0_readLine (fun wd _ r hr => noThr_ok (by decide +kernel) wd TSS hr)
set_option maxRecDepth 100000 in
theorem cb_X0_agrees : (M_X0_agrees).rw.all (rowB CLS MT TSS KD M_X0_agrees (decide ((M_X0_agrees).nm.name = "<init>")) ck_X0_agrees) = true := by decide +kernel
set_option maxRecDepth 100000 in
theorem cw_X0_agrees : ∀ w ∈ ckW CLS MT (M_X0_agrees).nm.cls ck_X0_agrees, w ∈ TW := tw_in [(7, 187), (7, 190)] (by decide +kernel) (by decide +kernel)
set_option maxRecDepth 100000 in
theorem ch_X0_agrees : ∀ w ∈ hdW M_X0_agrees, w ∈ TW := fun w h => nomatch h
set_option maxRecDepth 100000 in
theorem ok_X0_agrees : methOK CLS MT TSS M_X0_agrees := meth_ok (k := ck_X0_agrees) (kd := 1) hG_all prim_in inst_in cw_X0_agrees cb_X0_agrees (own0 (M_X0_agrees, 1) (List.mem_of_getElem? (i := 5) rfl)).1 (own0 (M_X0_agrees, 1) (List.mem_of_getElem? (i := 5) rfl)).2 (by decide +kernel) ch_X0_agrees (fun wd _ r hr => noThr_ok (by decide +kernel) wd TSS hr)
set_option maxRecDepth 100000 in
theorem cb_X1_init : (M_X1_init).rw.all (rowB CLS MT TSS KD M_X1_init (decide ((M_X1_init).nm.name = "<init>")) ck_X1_init) = true := by decide +kernel
set_option maxRecDepth 100000 in
theorem cw_X1_init : ∀ w ∈ ckW CLS MT (M_X1_init).nm.cls ck_X1_init, w ∈ TW := tw_in [(7, 89), (7, 91), (7, 93), (7, 95), (7, 96), (7, 97), (7, 98), (7, 100), (7, 103), (7, 105), (7, 86), (7, 88), (7, 87)] (by decide +kernel) (by decide +kernel)
set_option maxRecDepth 100000 in
theorem ch_X1_init : ∀ w ∈ hdW M_X1_init, w ∈ TW := fun w h => nomatch h
set_option maxRecDepth 100000 in
theorem ok_X1_init : methOK CLS MT TSS M_X1_init := meth_ok (k := ck_X1_init) (kd := 2) hG_all prim_in inst_in cw_X1_init cb_X1_init (own0 (M_X1_init, 2) (List.mem_of_getElem? (i := 6) rfl)).1 (own0 (M_X1_init, 2) (List.mem_of_getElem? (i := 6) rfl)).2 (by decide +kernel) ch_X1_init (fun wd _ r hr => noThr_ok (by decide +kernel) wd TSS hr)
set_option maxRecDepth 100000 in
theorem cb_X1_readFrom : (M_X1_readFrom).rw.all (rowB CLS MT TSS KD M_X1_readFrom (decide ((M_X1_readFrom).nm.name = "<init>")) ck_X1_readFrom) = true := by decide +kernel
set_option maxRecDepth 100000 in
theorem cw_X1_readFrom : ∀ w ∈ ckW CLS MT (M_X1_readFrom).nm.cls ck_X1_readFrom, w ∈ TW := tw_in [(7, 108), (7, 114), (7, 117), (7, 122), (9, 237), (10, 1), (10, 91)] (by decide +kernel) (by decide +kernel)
set_option maxRecDepth 100000 in
theorem ch_X1_readFrom : ∀ w ∈ hdW M_X1_readFrom, w ∈ TW := fun w h => nomatch h
set_option maxRecDepth 100000 in
theorem ok_X1_readFrom : methOK CLS MT TSS M_X1_readFrom := meth_ok (k := ck_X1_readFrom) (kd := 1) hG_all prim_in inst_in cw_X1_readFrom cb_X1_readFrom (own0 (M_X1_readFrom, 1) (List.mem_of_getElem? (i := 7) rfl)).1 (own0 (M_X1_readFrom, 1) (List.mem_of_getElem? (i := 7) rfl)).2 (by decide +kernel) ch_X1_readFrom (fun wd _ r hr => noThr_ok (by decide +kernel) wd TSS hr)
set_option maxRecDepth 100000 in
theorem cb_X1_readClause : (M_X1_readClause).rw.all (rowB CLS MT TSS KD M_X1_readClause (decide ((M_X1_readClause).nm.name = "<init>")) ck_X1_readClause) = true := by decide +kernel
set_option maxRecDepth 100000 in
theorem cw_X1_readClause : ∀ w ∈ ckW CLS MT (M_X1_readClause).nm.cls ck_X1_readClause, w ∈ TW := tw_in [(10, 6), (10, 58), (10, 76), (10, 81), (10, 86), (10, 90)] (by decide +kernel) (by decide +kernel)
set_option maxRecDepth 100000 in
theorem ch_X1_readClause : ∀ w ∈ hdW M_X1_readClause, w ∈ TW := fun w h => nomatch h
set_option maxRecDepth 100000 in
theorem ok_X1_readClause : methOK CLS MT TSS M_X1_readClause := meth_ok (k := ck_X1_readClause) (kd := 1) hG_all prim_in inst_in cw_X1_readClause cb_X1_readClause (own0 (M_X1_readClause, 1) (List.mem_of_getElem? (i := 8) rfl)).1 (own0 (M_X1_readClause, 1) (List.mem_of_getElem? (i := 8) rfl)).2 (by decide +kernel) ch_X1_readClause (fun wd _ r hr => noThr_ok (by decide +kernel) wd TSS hr)
set_option maxRecDepth 100000 in
theorem cb_X1_readSaying : (M_X1_readSaying).rw.all (rowB CLS MT TSS KD M_X1_readSaying (decide ((M_X1_readSaying).nm.name = "<init>")) ck_X1_readSaying) = true := by decide +kernel
set_option maxRecDepth 100000 in
theorem cw_X1_readSaying : ∀ w ∈ ckW CLS MT (M_X1_readSaying).nm.cls ck_X1_readSaying, w ∈ TW := tw_in [(7, 108), (7, 89), (7, 91), (7, 93), (10, 62), (10, 70), (10, 74)] (by decide +kernel) (by decide +kernel)
set_option maxRecDepth 100000 in
theorem ch_X1_readSaying : ∀ w ∈ hdW M_X1_readSaying, w ∈ TW := fun w h => nomatch h
set_option maxRecDepth 100000 in
theorem ok_X1_readSaying : methOK CLS MT TSS M_X1_readSaying := meth_ok (k := ck_X1_readSaying) (kd := 1) hG_all prim_in inst_in cw_X1_readSaying cb_X1_readSaying (own0 (M_X1_readSaying, 1) (List.mem_of_getElem? (i := 9) rfl)).1 (own0 (M_X1_readSaying, 1) (List.mem_of_getElem? (i := 9) rfl)).2 (by decide +kernel) ch_X1_readSaying (fun wd _ r hr => noThr_ok (by decide +kernel) wd TSS hr)
set_option maxRecDepth 100000 in
theorem cb_X1_readRule : (M_X1_readRule).rw.all (rowB CLS MT TSS KD M_X1_readRule (decide ((M_X1_readRule).nm.name = "<init>")) ck_X1_readRule) = true := by decide +kernel
set_option maxRecDepth 100000 in
theorem cw_X1_readRule : ∀ w ∈ ckW CLS MT (M_X1_readRule).nm.cls ck_X1_readRule, w ∈ TW := tw_in [(7, 114), (7, 95), (7, 108), (7, 96), (7, 97), (10, 62), (10, 70), (10, 74)] (by decide +kernel) (by decide +kernel)
set_option maxRecDepth 100000 in
theorem ch_X1_readRule : ∀ w ∈ hdW M_X1_readRule, w ∈ TW := fun w h => nomatch h
set_option maxRecDepth 100000 in
theorem ok_X1_readRule : methOK CLS MT TSS M_X1_readRule := meth_ok (k := ck_X1_readRule) (kd := 1) hG_all prim_in inst_in cw_X1_readRule cb_X1_readRule (own0 (M_X1_readRule, 1) (List.mem_of_getElem? (i := 10) rfl)).1 (own0 (M_X1_readRule, 1) (List.mem_of_getElem? (i := 10) rfl)).2 (by decide +kernel) ch_X1_readRule (fun wd _ r hr => noThr_ok (by decide +kernel) wd TSS hr)
set_option maxRecDepth 100000 in
theorem cb_X1_readBird : (M_X1_readBird).rw.all (rowB CLS MT TSS KD M_X1_readBird (decide ((M_X1_readBird).nm.name = "<init>")) ck_X1_readBird) = true := by decide +kernel
set_option maxRecDepth 100000 in
theorem cw_X1_readBird : ∀ w ∈ ckW CLS MT (M_X1_readBird).nm.cls ck_X1_readBird, w ∈ TW := tw_in [(7, 117), (7, 98), (7, 100), (10, 62), (10, 70), (10, 74)] (by decide +kernel) (by decide +kernel)
set_option maxRecDepth 100000 in
theorem ch_X1_readBird : ∀ w ∈ hdW M_X1_readBird, w ∈ TW := fun w h => nomatch h
set_option maxRecDepth 100000 in
theorem ok_X1_readBird : methOK CLS MT TSS M_X1_readBird := meth_ok (k := ck_X1_readBird) (kd := 1) hG_all prim_in inst_in cw_X1_readBird cb_X1_readBird (own0 (M_X1_readBird, 1) (List.mem_of_getElem? (i := 11) rfl)).1 (own0 (M_X1_readBird, 1) (List.mem_of_getElem? (i := 11) rfl)).2 (by decide +kernel) ch_X1_readBird (fun wd _ r hr => noThr_ok (by decide +kernel) wd TSS hr)
set_option maxRecDepth 100000 in
theorem cb_X1_readCounsel : (M_X1_readCounsel).rw.all (rowB CLS MT TSS KD M_X1_readCounsel (decide ((M_X1_readCounsel).nm.name = "<init>")) ck_X1_readCounsel) = true := by decide +kernel
set_option maxRecDepth 100000 in
theorem cw_X1_readCounsel : ∀ w ∈ ckW CLS MT (M_X1_readCounsel).nm.cls ck_X1_readCounsel, w ∈ TW := tw_in [(7, 122), (7, 103), (7, 105), (10, 62), (10, 70), (10, 74)] (by decide +kernel) (by decide +kernel)
set_option maxRecDepth 100000 in
theorem ch_X1_readCounsel : ∀ w ∈ hdW M_X1_readCounsel, w ∈ TW := fun w h => nomatch h
set_option maxRecDepth 100000 in
theorem ok_X1_readCounsel : methOK CLS MT TSS M_X1_readCounsel := meth_ok (k := ck_X1_readCounsel) (kd := 1) hG_all prim_in inst_in cw_X1_readCounsel cb_X1_readCounsel (own0 (M_X1_readCounsel, 1) (List.mem_of_getElem? (i := 12) rfl)).1 (own0 (M_X1_readCounsel, 1) (List.mem_of_getElem? (i := 12) rfl)).2 (by decide +kernel) ch_X1_readCounsel (fun wd _ r hr => noThr_ok (by decide +kernel) wd TSS hr)
set_option maxRecDepth 100000 in
theorem cb_X1_become : (M_X1_become).rw.all (rowB CLS MT TSS KD M_X1_become (decide ((M_X1_become).nm.name = "<init>")) ck_X1_become) = true := by decide +kernel
set_option maxRecDepth 100000 in
theorem cw_X1_become : ∀ w ∈ ckW CLS MT (M_X1_become).nm.cls ck_X1_become, w ∈ TW := tw_in [(7, 89), (7, 91), (7, 93), (7, 95), (7, 96), (7, 97), (7, 98), (7, 100), (7, 103), (7, 105), (7, 108), (7, 114), (7, 117), (7, 122), (10, 103)] (by decide +kernel) (by decide +kernel)
set_option maxRecDepth 100000 in
theorem ch_X1_become : ∀ w ∈ hdW M_X1_become, w ∈ TW := fun w h => nomatch h
set_option maxRecDepth 100000 in
theorem ok_X1_become : methOK CLS MT TSS M_X1_become := meth_ok (k := ck_X1_become) (kd := 1) hG_all prim_in inst_in cw_X1_become cb_X1_become (own0 (M_X1_become, 1) (List.mem_of_getElem? (i := 13) rfl)).1 (own0 (M_X1_become, 1) (List.mem_of_getElem? (i := 13) rfl)).2 (by decide +kernel) ch_X1_become (fun wd _ r hr => noThr_ok (by decide +kernel) wd TSS hr)
set_option maxRecDepth 100000 in
theorem cb_X1_allSayings : (M_X1_allSayings).rw.all (rowB CLS MT TSS KD M_X1_allSayings (decide ((M_X1_allSayings).nm.name = "<init>")) ck_X1_allSayings) = true := by decide +kernel
set_option maxRecDepth 100000 in
theorem cw_X1_allSayings : ∀ w ∈ ckW CLS MT (M_X1_allSayings).nm.cls ck_X1_allSayings, w ∈ TW := tw_in [(7, 108), (8, 217)] (by decide +kernel) (by decide +kernel)
set_option maxRecDepth 100000 in
theorem ch_X1_allSayings : ∀ w ∈ hdW M_X1_allSayings, w ∈ TW := fun w h => nomatch h
set_option maxRecDepth 100000 in
theorem ok_X1_allSayings : methOK CLS MT TSS M_X1_allSayings := meth_ok (k := ck_X1_allSayings) (kd := 1) hG_all prim_in inst_in cw_X1_allSayings cb_X1_allSayings (own0 (M_X1_allSayings, 1) (List.mem_of_getElem? (i := 14) rfl)).1 (own0 (M_X1_allSayings, 1) (List.mem_of_getElem? (i := 14) rfl)).2 (by decide +kernel) ch_X1_allSayings (fun wd _ r hr => noThr_ok (by decide +kernel) wd TSS hr)
set_option maxRecDepth 100000 in
theorem cb_X1_allCounsel : (M_X1_allCounsel).rw.all (rowB CLS MT TSS KD M_X1_allCounsel (decide ((M_X1_allCounsel).nm.name = "<init>")) ck_X1_allCounsel) = true := by decide +kernel
set_option maxRecDepth 100000 in
theorem cw_X1_allCounsel : ∀ w ∈ ckW CLS MT (M_X1_allCounsel).nm.cls ck_X1_allCounsel, w ∈ TW := tw_in [(7, 122), (8, 217)] (by decide +kernel) (by decide +kernel)
set_option maxRecDepth 100000 in
theorem ch_X1_allCounsel : ∀ w ∈ hdW M_X1_allCounsel, w ∈ TW := fun w h => nomatch h
set_option maxRecDepth 100000 in
theorem ok_X1_allCounsel : methOK CLS MT TSS M_X1_allCounsel := meth_ok (k := ck_X1_allCounsel) (kd := 1) hG_all prim_in inst_in cw_X1_allCounsel cb_X1_allCounsel (own0 (M_X1_allCounsel, 1) (List.mem_of_getElem? (i := 15) rfl)).1 (own0 (M_X1_allCounsel, 1) (List.mem_of_getElem? (i := 15) rfl)).2 (by decide +kernel) ch_X1_allCounsel (fun wd _ r hr => noThr_ok (by decide +kernel) wd TSS hr)
set_option maxRecDepth 100000 in
theorem cb_X1_ofSide : (M_X1_ofSide).rw.all (rowB CLS MT TSS KD M_X1_ofSide (decide ((M_X1_ofSide).nm.name = "<init>")) ck_X1_ofSide) = true := by decide +kernel
set_option maxRecDepth 100000 in
theorem cw_X1_ofSide : ∀ w ∈ ckW CLS MT (M_X1_ofSide).nm.cls ck_X1_ofSide, w ∈ TW := tw_in [(7, 108), (7, 91), (9, 54), (8, 217)] (by decide +kernel) (by decide +kernel)
set_option maxRecDepth 100000 in
theorem ch_X1_ofSide : ∀ w ∈ hdW M_X1_ofSide, w ∈ TW := fun w h => nomatch h
set_option maxRecDepth 100000 in
theorem ok_X1_ofSide : methOK CLS MT TSS M_X1_ofSide := meth_ok (k := ck_X1_ofSide) (kd := 1) hG_all prim_in inst_in cw_X1_ofSide cb_X1_ofSide (own0 (M_X1_ofSide, 1) (List.mem_of_getElem? (i := 16) rfl)).1 (own0 (M_X1_ofSide, 1) (List.mem_of_getElem? (i := 16) rfl)).2 (by decide +kernel) ch_X1_ofSide (fun wd _ r hr => noThr_ok (by decide +kernel) wd TSS hr)
set_option maxRecDepth 100000 in
theorem cb_X1_weightOf : (M_X1_weightOf).rw.all (rowB CLS MT TSS KD M_X1_weightOf (decide ((M_X1_weightOf).nm.name = "<init>")) ck_X1_weightOf) = true := by decide +kernel
set_option maxRecDepth 100000 in
theorem cw_X1_weightOf : ∀ w ∈ ckW CLS MT (M_X1_weightOf).nm.cls ck_X1_weightOf, w ∈ TW := tw_in [(7, 108), (7, 93), (9, 55), (9, 54)] (by decide +kernel) (by decide +kernel)
set_option maxRecDepth 100000 in
theorem ch_X1_weightOf : ∀ w ∈ hdW M_X1_weightOf, w ∈ TW := fun w h => nomatch h
set_option maxRecDepth 100000 in
theorem ok_X1_weightOf : methOK CLS MT TSS M_X1_weightOf := meth_ok (k := ck_X1_weightOf) (kd := 1) hG_all prim_in inst_in cw_X1_weightOf cb_X1_weightOf (own0 (M_X1_weightOf, 1) (List.mem_of_getElem? (i := 17) rfl)).1 (own0 (M_X1_weightOf, 1) (List.mem_of_getElem? (i := 17) rfl)).2 (by decide +kernel) ch_X1_weightOf (fun wd _ r hr => noThr_ok (by decide +kernel) wd TSS hr)
set_option maxRecDepth 100000 in
theorem cb_X1_heaviest : (M_X1_heaviest).rw.all (rowB CLS MT TSS KD M_X1_heaviest (decide ((M_X1_heaviest).nm.name = "<init>")) ck_X1_heaviest) = true := by decide +kernel
set_option maxRecDepth 100000 in
theorem cw_X1_heaviest : ∀ w ∈ ckW CLS MT (M_X1_heaviest).nm.cls ck_X1_heaviest, w ∈ TW := tw_in [(7, 108), (7, 93), (9, 55), (9, 54)] (by decide +kernel) (by decide +kernel)
set_option maxRecDepth 100000 in
theorem ch_X1_heaviest : ∀ w ∈ hdW M_X1_heaviest, w ∈ TW := fun w h => nomatch h
set_option maxRecDepth 100000 in
theorem ok_X1_heaviest : methOK CLS MT TSS M_X1_heaviest := meth_ok (k := ck_X1_heaviest) (kd := 1) hG_all prim_in inst_in cw_X1_heaviest cb_X1_heaviest (own0 (M_X1_heaviest, 1) (List.mem_of_getElem? (i := 18) rfl)).1 (own0 (M_X1_heaviest, 1) (List.mem_of_getElem? (i := 18) rfl)).2 (by decide +kernel) ch_X1_heaviest (fun wd _ r hr => noThr_ok (by decide +kernel) wd TSS hr)
set_option maxRecDepth 100000 in
theorem cb_X1_closure : (M_X1_closure).rw.all (rowB CLS MT TSS KD M_X1_closure (decide ((M_X1_closure).nm.name = "<init>")) ck_X1_closure) = true := by decide +kernel
set_option maxRecDepth 100000 in
theorem cw_X1_closure : ∀ w ∈ ckW CLS MT (M_X1_closure).nm.cls ck_X1_closure, w ∈ TW := tw_in [(7, 114), (7, 97), (9, 50), (9, 54), (8, 217)] (by decide +kernel) (by decide +kernel)
set_option maxRecDepth 100000 in
theorem ch_X1_closure : ∀ w ∈ hdW M_X1_closure, w ∈ TW := fun w h => nomatch h
set_option maxRecDepth 100000 in
theorem ok_X1_closure : methOK CLS MT TSS M_X1_closure := meth_ok (k := ck_X1_closure) (kd := 1) hG_all prim_in inst_in cw_X1_closure cb_X1_closure (own0 (M_X1_closure, 1) (List.mem_of_getElem? (i := 19) rfl)).1 (own0 (M_X1_closure, 1) (List.mem_of_getElem? (i := 19) rfl)).2 (by decide +kernel) ch_X1_closure (fun wd _ r hr => noThr_ok (by decide +kernel) wd TSS hr)
set_option maxRecDepth 100000 in
theorem cb_X1_isUsed : (M_X1_isUsed).rw.all (rowB CLS MT TSS KD M_X1_isUsed (decide ((M_X1_isUsed).nm.name = "<init>")) ck_X1_isUsed) = true := by decide +kernel
set_option maxRecDepth 100000 in
theorem cw_X1_isUsed : ∀ w ∈ ckW CLS MT (M_X1_isUsed).nm.cls ck_X1_isUsed, w ∈ TW := tw_in [(7, 95), (7, 96), (9, 54), (9, 55)] (by decide +kernel) (by decide +kernel)
set_option maxRecDepth 100000 in
theorem ch_X1_isUsed : ∀ w ∈ hdW M_X1_isUsed, w ∈ TW := fun w h => nomatch h
set_option maxRecDepth 100000 in
theorem ok_X1_isUsed : methOK CLS MT TSS M_X1_isUsed := meth_ok (k := ck_X1_isUsed) (kd := 1) hG_all prim_in inst_in cw_X1_isUsed cb_X1_isUsed (own0 (M_X1_isUsed, 1) (List.mem_of_getElem? (i := 20) rfl)).1 (own0 (M_X1_isUsed, 1) (List.mem_of_getElem? (i := 20) rfl)).2 (by decide +kernel) ch_X1_isUsed (fun wd _ r hr => noThr_ok (by decide +kernel) wd TSS hr)
set_option maxRecDepth 100000 in
theorem cb_X1_rulesUsed : (M_X1_rulesUsed).rw.all (rowB CLS MT TSS KD M_X1_rulesUsed (decide ((M_X1_rulesUsed).nm.name = "<init>")) ck_X1_rulesUsed) = true := by decide +kernel
set_option maxRecDepth 100000 in
theorem cw_X1_rulesUsed : ∀ w ∈ ckW CLS MT (M_X1_rulesUsed).nm.cls ck_X1_rulesUsed, w ∈ TW := tw_in [(7, 114), (9, 50), (8, 217)] (by decide +kernel) (by decide +kernel)
set_option maxRecDepth 100000 in
theorem ch_X1_rulesUsed : ∀ w ∈ hdW M_X1_rulesUsed, w ∈ TW := fun w h => nomatch h
set_option maxRecDepth 100000 in
theorem ok_X1_rulesUsed : methOK CLS MT TSS M_X1_rulesUsed := meth_ok (k := ck_X1_rulesUsed) (kd := 1) hG_all prim_in inst_in cw_X1_rulesUsed cb_X1_rulesUsed (own0 (M_X1_rulesUsed, 1) (List.mem_of_getElem? (i := 21) rfl)).1 (own0 (M_X1_rulesUsed, 1) (List.mem_of_getElem? (i := 21) rfl)).2 (by decide +kernel) ch_X1_rulesUsed (fun wd _ r hr => noThr_ok (by decide +kernel) wd TSS hr)
set_option maxRecDepth 100000 in
theorem cb_X1_leanFrom : (M_X1_leanFrom).rw.all (rowB CLS MT TSS KD M_X1_leanFrom (decide ((M_X1_leanFrom).nm.name = "<init>")) ck_X1_leanFrom) = true := by decide +kernel
set_option maxRecDepth 100000 in
theorem cw_X1_leanFrom : ∀ w ∈ ckW CLS MT (M_X1_leanFrom).nm.cls ck_X1_leanFrom, w ∈ TW := tw_in [(7, 108), (7, 91), (7, 93), (9, 46), (9, 55), (9, 54)] (by decide +kernel) (by decide +kernel)
set_option maxRecDepth 100000 in
theorem ch_X1_leanFrom : ∀ w ∈ hdW M_X1_leanFrom, w ∈ TW := fun w h => nomatch h
set_option maxRecDepth 100000 in
theorem ok_X1_leanFrom : methOK CLS MT TSS M_X1_leanFrom := meth_ok (k := ck_X1_leanFrom) (kd := 1) hG_all prim_in inst_in cw_X1_leanFrom cb_X1_leanFrom (own0 (M_X1_leanFrom, 1) (List.mem_of_getElem? (i := 22) rfl)).1 (own0 (M_X1_leanFrom, 1) (List.mem_of_getElem? (i := 22) rfl)).2 (by decide +kernel) ch_X1_leanFrom (fun wd _ r hr => noThr_ok (by decide +kernel) wd TSS hr)
set_option maxRecDepth 100000 in
theorem cb_X2_init : (M_X2_init).rw.all (rowB CLS MT TSS KD M_X2_init (decide ((M_X2_init).nm.name = "<init>")) ck_X2_init) = true := by decide +kernel
set_option maxRecDepth 100000 in
theorem cw_X2_init : ∀ w ∈ ckW CLS MT (M_X2_init).nm.cls ck_X2_init, w ∈ TW := tw_in [(8, 2), (8, 4), (8, 7), (8, 9), (8, 11), (8, 0), (8, 1), (7, 237), (7, 239), (7, 238)] (by decide +kernel) (by decide +kernel)
set_option maxRecDepth 100000 in
theorem ch_X2_init : ∀ w ∈ hdW M_X2_init, w ∈ TW := fun w h => nomatch h
set_option maxRecDepth 100000 in
theorem ok_X2_init : methOK CLS MT TSS M_X2_init := meth_ok (k := ck_X2_init) (kd := 2) hG_all prim_in inst_in cw_X2_init cb_X2_init (own0 (M_X2_init, 2) (List.mem_of_getElem? (i := 23) rfl)).1 (own0 (M_X2_init, 2) (List.mem_of_getElem? (i := 23) rfl)).2 (by decide +kernel) ch_X2_init (fun wd _ r hr => noThr_ok (by decide +kernel) wd TSS hr)
set_option maxRecDepth 100000 in
theorem cb_X2_begin : (M_X2_begin).rw.all (rowB CLS MT TSS KD M_X2_begin (decide ((M_X2_begin).nm.name = "<init>")) ck_X2_begin) = true := by decide +kernel
set_option maxRecDepth 100000 in
theorem cw_X2_begin : ∀ w ∈ ckW CLS MT (M_X2_begin).nm.cls ck_X2_begin, w ∈ TW := tw_in [(8, 13), (8, 17), (8, 2), (8, 0), (7, 90), (8, 4), (7, 99), (8, 7), (8, 11), (7, 104), (8, 199), (9, 12), (8, 205)] (by decide +kernel) (by decide +kernel)
set_option maxRecDepth 100000 in
theorem ch_X2_begin : ∀ w ∈ hdW M_X2_begin, w ∈ TW := fun w h => nomatch h
set_option maxRecDepth 100000 in
theorem ok_X2_begin : methOK CLS MT TSS M_X2_begin := meth_ok (k := ck_X2_begin) (kd := 1) hG_all prim_in inst_in cw_X2_begin cb_X2_begin (own0 (M_X2_begin, 1) (List.mem_of_getElem? (i := 24) rfl)).1 (own0 (M_X2_begin, 1) (List.mem_of_getElem? (i := 24) rfl)).2 (by decide +kernel) ch_X2_begin (fun wd _ r hr => noThr_ok (by decide +kernel) wd TSS hr)
set_option maxRecDepth 100000 in
theorem cb_X2_become : (M_X2_become).rw.all (rowB CLS MT TSS KD M_X2_become (decide ((M_X2_become).nm.name = "<init>")) ck_X2_become) = true := by decide +kernel
set_option maxRecDepth 100000 in
theorem cw_X2_become : ∀ w ∈ ckW CLS MT (M_X2_become).nm.cls ck_X2_become, w ∈ TW := tw_in [(8, 13), (8, 17), (8, 2), (8, 4), (8, 7), (8, 9), (8, 11), (8, 199)] (by decide +kernel) (by decide +kernel)
set_option maxRecDepth 100000 in
theorem ch_X2_become : ∀ w ∈ hdW M_X2_become, w ∈ TW := fun w h => nomatch h
set_option maxRecDepth 100000 in
theorem ok_X2_become : methOK CLS MT TSS M_X2_become := meth_ok (k := ck_X2_become) (kd := 1) hG_all prim_in inst_in cw_X2_become cb_X2_become (own0 (M_X2_become, 1) (List.mem_of_getElem? (i := 25) rfl)).1 (own0 (M_X2_become, 1) (List.mem_of_getElem? (i := 25) rfl)).2 (by decide +kernel) ch_X2_become (fun wd _ r hr => noThr_ok (by decide +kernel) wd TSS hr)
set_option maxRecDepth 100000 in
theorem cb_X2_save : (M_X2_save).rw.all (rowB CLS MT TSS KD M_X2_save (decide ((M_X2_save).nm.name = "<init>")) ck_X2_save) = true := by decide +kernel
set_option maxRecDepth 100000 in
theorem cw_X2_save : ∀ w ∈ ckW CLS MT (M_X2_save).nm.cls ck_X2_save, w ∈ TW := tw_in [(8, 13), (8, 17), (8, 2), (8, 4), (8, 7), (8, 11), (9, 12), (8, 199)] (by decide +kernel) (by decide +kernel)
set_option maxRecDepth 100000 in
theorem ch_X2_save : ∀ w ∈ hdW M_X2_save, w ∈ TW := fun w h => nomatch h
set_option maxRecDepth 100000 in
theorem ok_X2_save : methOK CLS MT TSS M_X2_save := meth_ok (k := ck_X2_save) (kd := 1) hG_all prim_in inst_in cw_X2_save cb_X2_save (own0 (M_X2_save, 1) (List.mem_of_getElem? (i := 26) rfl)).1 (own0 (M_X2_save, 1) (List.mem_of_getElem? (i := 26) rfl)).2 (by decide +kernel) ch_X2_save (fun wd _ r hr => noThr_ok (by decide +kernel) wd TSS hr)
set_option maxRecDepth 100000 in
theorem cb_X2_load : (M_X2_load).rw.all (rowB CLS MT TSS KD M_X2_load (decide ((M_X2_load).nm.name = "<init>")) ck_X2_load) = true := by decide +kernel
set_option maxRecDepth 100000 in
theorem cw_X2_load : ∀ w ∈ ckW CLS MT (M_X2_load).nm.cls ck_X2_load, w ∈ TW := tw_in [(8, 13), (8, 17), (8, 2), (8, 4), (8, 7), (8, 11), (8, 195), (8, 199), (8, 205)] (by decide +kernel) (by decide +kernel)
set_option maxRecDepth 100000 in
theorem ch_X2_load : ∀ w ∈ hdW M_X2_load, w ∈ TW := fun w h => nomatch h
set_option maxRecDepth 100000 in
theorem ok_X2_load : methOK CLS MT TSS M_X2_load := meth_ok (k := ck_X2_load) (kd := 1) hG_all prim_in inst_in cw_X2_load cb_X2_load (own0 (M_X2_load, 1) (List.mem_of_getElem? (i := 27) rfl)).1 (own0 (M_X2_load, 1) (List.mem_of_getElem? (i := 27) rfl)).2 (by decide +kernel) ch_X2_load (fun wd _ r hr => noThr_ok (by decide +kernel) wd TSS hr)
set_option maxRecDepth 100000 in
theorem cb_X2_measure : (M_X2_measure).rw.all (rowB CLS MT TSS KD M_X2_measure (decide ((M_X2_measure).nm.name = "<init>")) ck_X2_measure) = true := by decide +kernel
set_option maxRecDepth 100000 in
theorem cw_X2_measure : ∀ w ∈ ckW CLS MT (M_X2_measure).nm.cls ck_X2_measure, w ∈ TW := tw_in [(8, 0), (7, 120), (8, 9), (8, 209), (9, 12)] (by decide +kernel) (by decide +kernel)
set_option maxRecDepth 100000 in
theorem ch_X2_measure : ∀ w ∈ hdW M_X2_measure, w ∈ TW := fun w h => nomatch h
set_option maxRecDepth 100000 in
theorem ok_X2_measure : methOK CLS MT TSS M_X2_measure := meth_ok (k := ck_X2_measure) (kd := 1) hG_all prim_in inst_in cw_X2_measure cb_X2_measure (own0 (M_X2_measure, 1) (List.mem_of_getElem? (i := 28) rfl)).1 (own0 (M_X2_measure, 1) (List.mem_of_getElem? (i := 28) rfl)).2 (by decide +kernel) ch_X2_measure (fun wd _ r hr => noThr_ok (by decide +kernel) wd TSS hr)
set_option maxRecDepth 100000 in
theorem cb_X2_walkIfLed : (M_X2_walkIfLed).rw.all (rowB CLS MT TSS KD M_X2_walkIfLed (decide ((M_X2_walkIfLed).nm.name = "<init>")) ck_X2_walkIfLed) = true := by decide +kernel
set_option maxRecDepth 100000 in
theorem cw_X2_walkIfLed : ∀ w ∈ ckW CLS MT (M_X2_walkIfLed).nm.cls ck_X2_walkIfLed, w ∈ TW := tw_in [(8, 0), (8, 1), (7, 101), (8, 7), (8, 17), (8, 213), (8, 220), (8, 195), (8, 230), (8, 234), (9, 0)] (by decide +kernel) (by decide +kernel)
set_option maxRecDepth 100000 in
theorem ch_X2_walkIfLed : ∀ w ∈ hdW M_X2_walkIfLed, w ∈ TW := fun w h => nomatch h
set_option maxRecDepth 100000 in
theorem ok_X2_walkIfLed : methOK CLS MT TSS M_X2_walkIfLed := meth_ok (k := ck_X2_walkIfLed) (kd := 1) hG_all prim_in inst_in cw_X2_walkIfLed cb_X2_walkIfLed (own0 (M_X2_walkIfLed, 1) (List.mem_of_getElem? (i := 29) rfl)).1 (own0 (M_X2_walkIfLed, 1) (List.mem_of_getElem? (i := 29) rfl)).2 (by decide +kernel) ch_X2_walkIfLed (fun wd _ r hr => noThr_ok (by decide +kernel) wd TSS hr)
set_option maxRecDepth 100000 in
theorem cb_X2_beginIfLed : (M_X2_beginIfLed).rw.all (rowB CLS MT TSS KD M_X2_beginIfLed (decide ((M_X2_beginIfLed).nm.name = "<init>")) ck_X2_beginIfLed) = true := by decide +kernel
set_option maxRecDepth 100000 in
theorem cw_X2_beginIfLed : ∀ w ∈ ckW CLS MT (M_X2_beginIfLed).nm.cls ck_X2_beginIfLed, w ∈ TW := tw_in [(8, 4), (8, 195), (8, 227)] (by decide +kernel) (by decide +kernel)
set_option maxRecDepth 100000 in
theorem ch_X2_beginIfLed : ∀ w ∈ hdW M_X2_beginIfLed, w ∈ TW := fun w h => nomatch h
set_option maxRecDepth 100000 in
theorem ok_X2_beginIfLed : methOK CLS MT TSS M_X2_beginIfLed := meth_ok (k := ck_X2_beginIfLed) (kd := 1) hG_all prim_in inst_in cw_X2_beginIfLed cb_X2_beginIfLed (own0 (M_X2_beginIfLed, 1) (List.mem_of_getElem? (i := 30) rfl)).1 (own0 (M_X2_beginIfLed, 1) (List.mem_of_getElem? (i := 30) rfl)).2 (by decide +kernel) ch_X2_beginIfLed (fun wd _ r hr => noThr_ok (by decide +kernel) wd TSS hr)
set_option maxRecDepth 100000 in
theorem cb_X2_coveredIfLed : (M_X2_coveredIfLed).rw.all (rowB CLS MT TSS KD M_X2_coveredIfLed (decide ((M_X2_coveredIfLed).nm.name = "<init>")) ck_X2_coveredIfLed) = true := by decide +kernel
set_option maxRecDepth 100000 in
theorem cw_X2_coveredIfLed : ∀ w ∈ ckW CLS MT (M_X2_coveredIfLed).nm.cls ck_X2_coveredIfLed, w ∈ TW := tw_in [(8, 230), (8, 209), (9, 38)] (by decide +kernel) (by decide +kernel)
set_option maxRecDepth 100000 in
theorem ch_X2_coveredIfLed : ∀ w ∈ hdW M_X2_coveredIfLed, w ∈ TW := fun w h => nomatch h
set_option maxRecDepth 100000 in
theorem ok_X2_coveredIfLed : methOK CLS MT TSS M_X2_coveredIfLed := meth_ok (k := ck_X2_coveredIfLed) (kd := 1) hG_all prim_in inst_in cw_X2_coveredIfLed cb_X2_coveredIfLed (own0 (M_X2_coveredIfLed, 1) (List.mem_of_getElem? (i := 31) rfl)).1 (own0 (M_X2_coveredIfLed, 1) (List.mem_of_getElem? (i := 31) rfl)).2 (by decide +kernel) ch_X2_coveredIfLed (fun wd _ r hr => noThr_ok (by decide +kernel) wd TSS hr)
set_option maxRecDepth 100000 in
theorem cb_X2_crumbsOf : (M_X2_crumbsOf).rw.all (rowB CLS MT TSS KD M_X2_crumbsOf (decide ((M_X2_crumbsOf).nm.name = "<init>")) ck_X2_crumbsOf) = true := by decide +kernel
set_option maxRecDepth 100000 in
theorem cw_X2_crumbsOf : ∀ w ∈ ckW CLS MT (M_X2_crumbsOf).nm.cls ck_X2_crumbsOf, w ∈ TW := tw_in [(8, 0), (7, 126), (8, 11), (8, 224), (8, 195), (8, 227)] (by decide +kernel) (by decide +kernel)
set_option maxRecDepth 100000 in
theorem ch_X2_crumbsOf : ∀ w ∈ hdW M_X2_crumbsOf, w ∈ TW := fun w h => nomatch h
set_option maxRecDepth 100000 in
theorem ok_X2_crumbsOf : methOK CLS MT TSS M_X2_crumbsOf := meth_ok (k := ck_X2_crumbsOf) (kd := 1) hG_all prim_in inst_in cw_X2_crumbsOf cb_X2_crumbsOf (own0 (M_X2_crumbsOf, 1) (List.mem_of_getElem? (i := 32) rfl)).1 (own0 (M_X2_crumbsOf, 1) (List.mem_of_getElem? (i := 32) rfl)).2 (by decide +kernel) ch_X2_crumbsOf (fun wd _ r hr => noThr_ok (by decide +kernel) wd TSS hr)
set_option maxRecDepth 100000 in
theorem cb_X2_lastOn : (M_X2_lastOn).rw.all (rowB CLS MT TSS KD M_X2_lastOn (decide ((M_X2_lastOn).nm.name = "<init>")) ck_X2_lastOn) = true := by decide +kernel
set_option maxRecDepth 100000 in
theorem cw_X2_lastOn : ∀ w ∈ ckW CLS MT (M_X2_lastOn).nm.cls ck_X2_lastOn, w ∈ TW := tw_in [(8, 4), (8, 9), (8, 195)] (by decide +kernel) (by decide +kernel)
set_option maxRecDepth 100000 in
theorem ch_X2_lastOn : ∀ w ∈ hdW M_X2_lastOn, w ∈ TW := fun w h => nomatch h
set_option maxRecDepth 100000 in
theorem ok_X2_lastOn : methOK CLS MT TSS M_X2_lastOn := meth_ok (k := ck_X2_lastOn) (kd := 1) hG_all prim_in inst_in cw_X2_lastOn cb_X2_lastOn (own0 (M_X2_lastOn, 1) (List.mem_of_getElem? (i := 33) rfl)).1 (own0 (M_X2_lastOn, 1) (List.mem_of_getElem? (i := 33) rfl)).2 (by decide +kernel) ch_X2_lastOn (fun wd _ r hr => noThr_ok (by decide +kernel) wd TSS hr)
set_option maxRecDepth 100000 in
theorem cb_X2_birdsOn : (M_X2_birdsOn).rw.all (rowB CLS MT TSS KD M_X2_birdsOn (decide ((M_X2_birdsOn).nm.name = "<init>")) ck_X2_birdsOn) = true := by decide +kernel
set_option maxRecDepth 100000 in
theorem cw_X2_birdsOn : ∀ w ∈ ckW CLS MT (M_X2_birdsOn).nm.cls ck_X2_birdsOn, w ∈ TW := tw_in [(8, 0), (7, 120), (8, 4), (8, 195), (9, 33), (9, 37)] (by decide +kernel) (by decide +kernel)
set_option maxRecDepth 100000 in
theorem ch_X2_birdsOn : ∀ w ∈ hdW M_X2_birdsOn, w ∈ TW := fun w h => nomatch h
set_option maxRecDepth 100000 in
theorem ok_X2_birdsOn : methOK CLS MT TSS M_X2_birdsOn := meth_ok (k := ck_X2_birdsOn) (kd := 1) hG_all prim_in inst_in cw_X2_birdsOn cb_X2_birdsOn (own0 (M_X2_birdsOn, 1) (List.mem_of_getElem? (i := 34) rfl)).1 (own0 (M_X2_birdsOn, 1) (List.mem_of_getElem? (i := 34) rfl)).2 (by decide +kernel) ch_X2_birdsOn (fun wd _ r hr => noThr_ok (by decide +kernel) wd TSS hr)
set_option maxRecDepth 100000 in
theorem cb_X2_doesCount : (M_X2_doesCount).rw.all (rowB CLS MT TSS KD M_X2_doesCount (decide ((M_X2_doesCount).nm.name = "<init>")) ck_X2_doesCount) = true := by decide +kernel
set_option maxRecDepth 100000 in
theorem cw_X2_doesCount : ∀ w ∈ ckW CLS MT (M_X2_doesCount).nm.cls ck_X2_doesCount, w ∈ TW := tw_in [(8, 2), (8, 195), (9, 29)] (by decide +kernel) (by decide +kernel)
set_option maxRecDepth 100000 in
theorem ch_X2_doesCount : ∀ w ∈ hdW M_X2_doesCount, w ∈ TW := fun w h => nomatch h
set_option maxRecDepth 100000 in
theorem ok_X2_doesCount : methOK CLS MT TSS M_X2_doesCount := meth_ok (k := ck_X2_doesCount) (kd := 1) hG_all prim_in inst_in cw_X2_doesCount cb_X2_doesCount (own0 (M_X2_doesCount, 1) (List.mem_of_getElem? (i := 35) rfl)).1 (own0 (M_X2_doesCount, 1) (List.mem_of_getElem? (i := 35) rfl)).2 (by decide +kernel) ch_X2_doesCount (fun wd _ r hr => noThr_ok (by decide +kernel) wd TSS hr)
set_option maxRecDepth 100000 in
theorem cb_X2_counting : (M_X2_counting).rw.all (rowB CLS MT TSS KD M_X2_counting (decide ((M_X2_counting).nm.name = "<init>")) ck_X2_counting) = true := by decide +kernel
set_option maxRecDepth 100000 in
theorem cw_X2_counting : ∀ w ∈ ckW CLS MT (M_X2_counting).nm.cls ck_X2_counting, w ∈ TW := tw_in [(8, 0), (7, 113), (9, 25), (9, 37)] (by decide +kernel) (by decide +kernel)
set_option maxRecDepth 100000 in
theorem ch_X2_counting : ∀ w ∈ hdW M_X2_counting, w ∈ TW := fun w h => nomatch h
set_option maxRecDepth 100000 in
theorem ok_X2_counting : methOK CLS MT TSS M_X2_counting := meth_ok (k := ck_X2_counting) (kd := 1) hG_all prim_in inst_in cw_X2_counting cb_X2_counting (own0 (M_X2_counting, 1) (List.mem_of_getElem? (i := 36) rfl)).1 (own0 (M_X2_counting, 1) (List.mem_of_getElem? (i := 36) rfl)).2 (by decide +kernel) ch_X2_counting (fun wd _ r hr => noThr_ok (by decide +kernel) wd TSS hr)
set_option maxRecDepth 100000 in
theorem cb_X2_saidBetween : (M_X2_saidBetween).rw.all (rowB CLS MT TSS KD M_X2_saidBetween (decide ((M_X2_saidBetween).nm.name = "<init>")) ck_X2_saidBetween) = true := by decide +kernel
set_option maxRecDepth 100000 in
theorem cw_X2_saidBetween : ∀ w ∈ ckW CLS MT (M_X2_saidBetween).nm.cls ck_X2_saidBetween, w ∈ TW := tw_in [(8, 0), (7, 113), (8, 2), (8, 195), (9, 37)] (by decide +kernel) (by decide +kernel)
set_option maxRecDepth 100000 in
theorem ch_X2_saidBetween : ∀ w ∈ hdW M_X2_saidBetween, w ∈ TW := fun w h => nomatch h
set_option maxRecDepth 100000 in
theorem ok_X2_saidBetween : methOK CLS MT TSS M_X2_saidBetween := meth_ok (k := ck_X2_saidBetween) (kd := 1) hG_all prim_in inst_in cw_X2_saidBetween cb_X2_saidBetween (own0 (M_X2_saidBetween, 1) (List.mem_of_getElem? (i := 37) rfl)).1 (own0 (M_X2_saidBetween, 1) (List.mem_of_getElem? (i := 37) rfl)).2 (by decide +kernel) ch_X2_saidBetween (fun wd _ r hr => noThr_ok (by decide +kernel) wd TSS hr)
set_option maxRecDepth 100000 in
theorem cb_X2_heardBy : (M_X2_heardBy).rw.all (rowB CLS MT TSS KD M_X2_heardBy (decide ((M_X2_heardBy).nm.name = "<init>")) ck_X2_heardBy) = true := by decide +kernel
set_option maxRecDepth 100000 in
theorem cw_X2_heardBy : ∀ w ∈ ckW CLS MT (M_X2_heardBy).nm.cls ck_X2_heardBy, w ∈ TW := tw_in [(9, 21), (9, 38)] (by decide +kernel) (by decide +kernel)
set_option maxRecDepth 100000 in
theorem ch_X2_heardBy : ∀ w ∈ hdW M_X2_heardBy, w ∈ TW := fun w h => nomatch h
set_option maxRecDepth 100000 in
theorem ok_X2_heardBy : methOK CLS MT TSS M_X2_heardBy := meth_ok (k := ck_X2_heardBy) (kd := 1) hG_all prim_in inst_in cw_X2_heardBy cb_X2_heardBy (own0 (M_X2_heardBy, 1) (List.mem_of_getElem? (i := 38) rfl)).1 (own0 (M_X2_heardBy, 1) (List.mem_of_getElem? (i := 38) rfl)).2 (by decide +kernel) ch_X2_heardBy (fun wd _ r hr => noThr_ok (by decide +kernel) wd TSS hr)
set_option maxRecDepth 100000 in
theorem cb_X2_nextSaid : (M_X2_nextSaid).rw.all (rowB CLS MT TSS KD M_X2_nextSaid (decide ((M_X2_nextSaid).nm.name = "<init>")) ck_X2_nextSaid) = true := by decide +kernel
set_option maxRecDepth 100000 in
theorem cw_X2_nextSaid : ∀ w ∈ ckW CLS MT (M_X2_nextSaid).nm.cls ck_X2_nextSaid, w ∈ TW := tw_in [(8, 0), (7, 113), (8, 2), (8, 13), (8, 195)] (by decide +kernel) (by decide +kernel)
set_option maxRecDepth 100000 in
theorem ch_X2_nextSaid : ∀ w ∈ hdW M_X2_nextSaid, w ∈ TW := fun w h => nomatch h
set_option maxRecDepth 100000 in
theorem ok_X2_nextSaid : methOK CLS MT TSS M_X2_nextSaid := meth_ok (k := ck_X2_nextSaid) (kd := 1) hG_all prim_in inst_in cw_X2_nextSaid cb_X2_nextSaid (own0 (M_X2_nextSaid, 1) (List.mem_of_getElem? (i := 39) rfl)).1 (own0 (M_X2_nextSaid, 1) (List.mem_of_getElem? (i := 39) rfl)).2 (by decide +kernel) ch_X2_nextSaid (fun wd _ r hr => noThr_ok (by decide +kernel) wd TSS hr)
set_option maxRecDepth 100000 in
theorem cb_X2_isNoted : (M_X2_isNoted).rw.all (rowB CLS MT TSS KD M_X2_isNoted (decide ((M_X2_isNoted).nm.name = "<init>")) ck_X2_isNoted) = true := by decide +kernel
set_option maxRecDepth 100000 in
theorem cw_X2_isNoted : ∀ w ∈ ckW CLS MT (M_X2_isNoted).nm.cls ck_X2_isNoted, w ∈ TW := tw_in [(8, 17), (8, 224)] (by decide +kernel) (by decide +kernel)
set_option maxRecDepth 100000 in
theorem ch_X2_isNoted : ∀ w ∈ hdW M_X2_isNoted, w ∈ TW := fun w h => nomatch h
set_option maxRecDepth 100000 in
theorem ok_X2_isNoted : methOK CLS MT TSS M_X2_isNoted := meth_ok (k := ck_X2_isNoted) (kd := 1) hG_all prim_in inst_in cw_X2_isNoted cb_X2_isNoted (own0 (M_X2_isNoted, 1) (List.mem_of_getElem? (i := 40) rfl)).1 (own0 (M_X2_isNoted, 1) (List.mem_of_getElem? (i := 40) rfl)).2 (by decide +kernel) ch_X2_isNoted (fun wd _ r hr => noThr_ok (by decide +kernel) wd TSS hr)
set_option maxRecDepth 100000 in
theorem okc0 : ∀ q ∈ MTK0, methOK CLS MT TSS q.1 := List.forall_mem_cons.mpr ⟨ok_X0_init, List.forall_mem_cons.mpr ⟨ok_X0_reset, List.forall_mem_cons.mpr ⟨ok_X0_become, List.forall_mem_cons.mpr ⟨ok_X0_readFrom, List.forall_mem_cons.mpr ⟨ok_X0_readLine, List.forall_mem_cons.mpr ⟨ok_X0_agrees, List.forall_mem_cons.mpr ⟨ok_X1_init, List.forall_mem_cons.mpr ⟨ok_X1_readFrom, List.forall_mem_cons.mpr ⟨ok_X1_readClause, List.forall_mem_cons.mpr ⟨ok_X1_readSaying, List.forall_mem_cons.mpr ⟨ok_X1_readRule, List.forall_mem_cons.mpr ⟨ok_X1_readBird, List.forall_mem_cons.mpr ⟨ok_X1_readCounsel, List.forall_mem_cons.mpr ⟨ok_X1_become, List.forall_mem_cons.mpr ⟨ok_X1_allSayings, List.forall_mem_cons.mpr ⟨ok_X1_allCounsel, List.forall_mem_cons.mpr ⟨ok_X1_ofSide, List.forall_mem_cons.mpr ⟨ok_X1_weightOf, List.forall_mem_cons.mpr ⟨ok_X1_heaviest, List.forall_mem_cons.mpr ⟨ok_X1_closure, List.forall_mem_cons.mpr ⟨ok_X1_isUsed, List.forall_mem_cons.mpr ⟨ok_X1_rulesUsed, List.forall_mem_cons.mpr ⟨ok_X1_leanFrom, List.forall_mem_cons.mpr ⟨ok_X2_init, List.forall_mem_cons.mpr ⟨ok_X2_begin, List.forall_mem_cons.mpr ⟨ok_X2_become, List.forall_mem_cons.mpr ⟨ok_X2_save, List.forall_mem_cons.mpr ⟨ok_X2_load, List.forall_mem_cons.mpr ⟨ok_X2_measure, List.forall_mem_cons.mpr ⟨ok_X2_walkIfLed, List.forall_mem_cons.mpr ⟨ok_X2_beginIfLed, List.forall_mem_cons.mpr ⟨ok_X2_coveredIfLed, List.forall_mem_cons.mpr ⟨ok_X2_crumbsOf, List.forall_mem_cons.mpr ⟨ok_X2_lastOn, List.forall_mem_cons.mpr ⟨ok_X2_birdsOn, List.forall_mem_cons.mpr ⟨ok_X2_doesCount, List.forall_mem_cons.mpr ⟨ok_X2_counting, List.forall_mem_cons.mpr ⟨ok_X2_saidBetween, List.forall_mem_cons.mpr ⟨ok_X2_heardBy, List.forall_mem_cons.mpr ⟨ok_X2_nextSaid, List.forall_mem_cons.mpr ⟨ok_X2_isNoted, fun _ h => nomatch h⟩⟩⟩⟩⟩⟩⟩⟩⟩⟩⟩⟩⟩⟩⟩⟩⟩⟩⟩⟩⟩⟩⟩⟩⟩⟩⟩⟩⟩⟩⟩⟩⟩⟩⟩⟩⟩⟩⟩⟩⟩
