/-! Rows checked. -/
set_option maxRecDepth 100000 in
theorem cb_X2_canLead : (M_X2_canLead).rw.all (rowB CLS MT TSS KD M_X2_canLead (decide ((M_X2_canLead).nm.name = "<init>")) ck_X2_canLead) = true := by decide +kernel
set_option maxRecDepth 100000 in
theorem cw_X2_canLead : ∀ w ∈ ckW CLS MT (M_X2_canLead).nm.cls ck_X2_canLead, w ∈ TW := tw_in [(8, 11), (8, 4), (8, 13), (8, 195)] (by decide +kernel) (by decide +kernel)
set_option maxRecDepth 100000 in
theorem ch_X2_canLead : ∀ w ∈ hdW M_X2_canLead, w ∈ TW := fun w h => nomatch h
set_option maxRecDepth 100000 in
theorem ok_X2_canLead : methOK CLS MT TSS M_X2_canLead := meth_ok (k := ck_X2_canLead) (kd := 1) hG_all prim_in inst_in cw_X2_canLead cb_X2_canLead (own1 (M_X2_canLead, 1) (List.mem_of_getElem? (i := 0) rfl)).1 (own1 (M_X2_canLead, 1) (List.mem_of_getElem? (i := 0) rfl)).2 (by decide +kernel) ch_X2_canLead (fun wd _ r hr => noThr_ok (by decide +kernel) wd TSS hr)
set_option maxRecDepth 100000 in
theorem cb_X2_callBird : (M_X2_callBird).rw.all (rowB CLS MT TSS KD M_X2_callBird (decide ((M_X2_callBird).nm.name = "<init>")) ck_X2_callBird) = true := by decide +kernel
set_option maxRecDepth 100000 in
theorem cw_X2_callBird : ∀ w ∈ ckW CLS MT (M_X2_callBird).nm.cls ck_X2_callBird, w ∈ TW := tw_in [(8, 11), (8, 4), (8, 13), (8, 195), (9, 12), (8, 205)] (by decide +kernel) (by decide +kernel)
set_option maxRecDepth 100000 in
theorem ch_X2_callBird : ∀ w ∈ hdW M_X2_callBird, w ∈ TW := fun w h => nomatch h
set_option maxRecDepth 100000 in
theorem ok_X2_callBird : methOK CLS MT TSS M_X2_callBird := meth_ok (k := ck_X2_callBird) (kd := 1) hG_all prim_in inst_in cw_X2_callBird cb_X2_callBird (own1 (M_X2_callBird, 1) (List.mem_of_getElem? (i := 1) rfl)).1 (own1 (M_X2_callBird, 1) (List.mem_of_getElem? (i := 1) rfl)).2 (by decide +kernel) ch_X2_callBird (fun wd _ r hr => noThr_ok (by decide +kernel) wd TSS hr)
set_option maxRecDepth 100000 in
theorem cb_X2_leadBird : (M_X2_leadBird).rw.all (rowB CLS MT TSS KD M_X2_leadBird (decide ((M_X2_leadBird).nm.name = "<init>")) ck_X2_leadBird) = true := by decide +kernel
set_option maxRecDepth 100000 in
theorem cw_X2_leadBird : ∀ w ∈ ckW CLS MT (M_X2_leadBird).nm.cls ck_X2_leadBird, w ∈ TW := tw_in [(8, 11), (8, 4), (8, 7), (11, 12), (8, 195), (9, 12), (8, 230), (8, 205)] (by decide +kernel) (by decide +kernel)
set_option maxRecDepth 100000 in
theorem ch_X2_leadBird : ∀ w ∈ hdW M_X2_leadBird, w ∈ TW := fun w h => nomatch h
set_option maxRecDepth 100000 in
theorem ok_X2_leadBird : methOK CLS MT TSS M_X2_leadBird := meth_ok (k := ck_X2_leadBird) (kd := 1) hG_all prim_in inst_in cw_X2_leadBird cb_X2_leadBird (own1 (M_X2_leadBird, 1) (List.mem_of_getElem? (i := 2) rfl)).1 (own1 (M_X2_leadBird, 1) (List.mem_of_getElem? (i := 2) rfl)).2 (by decide +kernel) ch_X2_leadBird (fun wd _ r hr => noThr_ok (by decide +kernel) wd TSS hr)
set_option maxRecDepth 100000 in
theorem cb_X2_putOff : (M_X2_putOff).rw.all (rowB CLS MT TSS KD M_X2_putOff (decide ((M_X2_putOff).nm.name = "<init>")) ck_X2_putOff) = true := by decide +kernel
set_option maxRecDepth 100000 in
theorem cw_X2_putOff : ∀ w ∈ ckW CLS MT (M_X2_putOff).nm.cls ck_X2_putOff, w ∈ TW := tw_in [(8, 0), (7, 107), (8, 2), (8, 13), (8, 195), (8, 227), (9, 12)] (by decide +kernel) (by decide +kernel)
set_option maxRecDepth 100000 in
theorem ch_X2_putOff : ∀ w ∈ hdW M_X2_putOff, w ∈ TW := fun w h => nomatch h
set_option maxRecDepth 100000 in
theorem ok_X2_putOff : methOK CLS MT TSS M_X2_putOff := meth_ok (k := ck_X2_putOff) (kd := 1) hG_all prim_in inst_in cw_X2_putOff cb_X2_putOff (own1 (M_X2_putOff, 1) (List.mem_of_getElem? (i := 3) rfl)).1 (own1 (M_X2_putOff, 1) (List.mem_of_getElem? (i := 3) rfl)).2 (by decide +kernel) ch_X2_putOff (fun wd _ r hr => noThr_ok (by decide +kernel) wd TSS hr)
set_option maxRecDepth 100000 in
theorem cb_X2_noteSaying : (M_X2_noteSaying).rw.all (rowB CLS MT TSS KD M_X2_noteSaying (decide ((M_X2_noteSaying).nm.name = "<init>")) ck_X2_noteSaying) = true := by decide +kernel
set_option maxRecDepth 100000 in
theorem cw_X2_noteSaying : ∀ w ∈ ckW CLS MT (M_X2_noteSaying).nm.cls ck_X2_noteSaying, w ∈ TW := tw_in [(8, 2), (8, 13), (8, 17), (11, 24), (8, 195), (9, 25), (9, 37), (8, 205)] (by decide +kernel) (by decide +kernel)
set_option maxRecDepth 100000 in
theorem ch_X2_noteSaying : ∀ w ∈ hdW M_X2_noteSaying, w ∈ TW := fun w h => nomatch h
set_option maxRecDepth 100000 in
theorem ok_X2_noteSaying : methOK CLS MT TSS M_X2_noteSaying := meth_ok (k := ck_X2_noteSaying) (kd := 1) hG_all prim_in inst_in cw_X2_noteSaying cb_X2_noteSaying (own1 (M_X2_noteSaying, 1) (List.mem_of_getElem? (i := 4) rfl)).1 (own1 (M_X2_noteSaying, 1) (List.mem_of_getElem? (i := 4) rfl)).2 (by decide +kernel) ch_X2_noteSaying (fun wd _ r hr => noThr_ok (by decide +kernel) wd TSS hr)
set_option maxRecDepth 100000 in
theorem cb_X2_passMinute : (M_X2_passMinute).rw.all (rowB CLS MT TSS KD M_X2_passMinute (decide ((M_X2_passMinute).nm.name = "<init>")) ck_X2_passMinute) = true := by decide +kernel
set_option maxRecDepth 100000 in
theorem cw_X2_passMinute : ∀ w ∈ ckW CLS MT (M_X2_passMinute).nm.cls ck_X2_passMinute, w ∈ TW := tw_in [(8, 13)] (by decide +kernel) (by decide +kernel)
set_option maxRecDepth 100000 in
theorem ch_X2_passMinute : ∀ w ∈ hdW M_X2_passMinute, w ∈ TW := fun w h => nomatch h
set_option maxRecDepth 100000 in
theorem ok_X2_passMinute : methOK CLS MT TSS M_X2_passMinute := meth_ok (k := ck_X2_passMinute) (kd := 1) hG_all prim_in inst_in cw_X2_passMinute cb_X2_passMinute (own1 (M_X2_passMinute, 1) (List.mem_of_getElem? (i := 5) rfl)).1 (own1 (M_X2_passMinute, 1) (List.mem_of_getElem? (i := 5) rfl)).2 (by decide +kernel) ch_X2_passMinute (fun wd _ r hr => noThr_ok (by decide +kernel) wd TSS hr)
set_option maxRecDepth 100000 in
theorem cb_X3_init : (M_X3_init).rw.all (rowB CLS MT TSS KD M_X3_init (decide ((M_X3_init).nm.name = "<init>")) ck_X3_init) = true := by decide +kernel
set_option maxRecDepth 100000 in
theorem cw_X3_init : ∀ w ∈ ckW CLS MT (M_X3_init).nm.cls ck_X3_init, w ∈ TW := tw_in [(7, 168), (7, 169), (7, 170), (7, 171), (7, 161), (7, 163), (7, 164), (7, 162)] (by decide +kernel) (by decide +kernel)
set_option maxRecDepth 100000 in
theorem ch_X3_init : ∀ w ∈ hdW M_X3_init, w ∈ TW := fun w h => nomatch h
set_option maxRecDepth 100000 in
theorem ok_X3_init : methOK CLS MT TSS M_X3_init := meth_ok (k := ck_X3_init) (kd := 2) hG_all prim_in inst_in cw_X3_init cb_X3_init (own1 (M_X3_init, 2) (List.mem_of_getElem? (i := 6) rfl)).1 (own1 (M_X3_init, 2) (List.mem_of_getElem? (i := 6) rfl)).2 (by decide +kernel) ch_X3_init (fun wd _ r hr => noThr_ok (by decide +kernel) wd TSS hr)
set_option maxRecDepth 100000 in
theorem cb_X3_reset : (M_X3_reset).rw.all (rowB CLS MT TSS KD M_X3_reset (decide ((M_X3_reset).nm.name = "<init>")) ck_X3_reset) = true := by decide +kernel
set_option maxRecDepth 100000 in
theorem cw_X3_reset : ∀ w ∈ ckW CLS MT (M_X3_reset).nm.cls ck_X3_reset, w ∈ TW := tw_in [(7, 168), (7, 171), (7, 164)] (by decide +kernel) (by decide +kernel)
set_option maxRecDepth 100000 in
theorem ch_X3_reset : ∀ w ∈ hdW M_X3_reset, w ∈ TW := fun w h => nomatch h
set_option maxRecDepth 100000 in
theorem ok_X3_reset : methOK CLS MT TSS M_X3_reset := meth_ok (k := ck_X3_reset) (kd := 1) hG_all prim_in inst_in cw_X3_reset cb_X3_reset (own1 (M_X3_reset, 1) (List.mem_of_getElem? (i := 7) rfl)).1 (own1 (M_X3_reset, 1) (List.mem_of_getElem? (i := 7) rfl)).2 (by decide +kernel) ch_X3_reset (fun wd _ r hr => noThr_ok (by decide +kernel) wd TSS hr)
set_option maxRecDepth 100000 in
theorem cb_X3_become : (M_X3_become).rw.all (rowB CLS MT TSS KD M_X3_become (decide ((M_X3_become).nm.name = "<init>")) ck_X3_become) = true := by decide +kernel
set_option maxRecDepth 100000 in
theorem cw_X3_become : ∀ w ∈ ckW CLS MT (M_X3_become).nm.cls ck_X3_become, w ∈ TW := tw_in [(7, 168), (7, 171), (10, 179)] (by decide +kernel) (by decide +kernel)
set_option maxRecDepth 100000 in
theorem ch_X3_become : ∀ w ∈ hdW M_X3_become, w ∈ TW := fun w h => nomatch h
set_option maxRecDepth 100000 in
theorem ok_X3_become : methOK CLS MT TSS M_X3_become := meth_ok (k := ck_X3_become) (kd := 1) hG_all prim_in inst_in cw_X3_become cb_X3_become (own1 (M_X3_become, 1) (List.mem_of_getElem? (i := 8) rfl)).1 (own1 (M_X3_become, 1) (List.mem_of_getElem? (i := 8) rfl)).2 (by decide +kernel) ch_X3_become (fun wd _ r hr => noThr_ok (by decide +kernel) wd TSS hr)
set_option maxRecDepth 100000 in
theorem cb_X3_readFrom : (M_X3_readFrom).rw.all (rowB CLS MT TSS KD M_X3_readFrom (decide ((M_X3_readFrom).nm.name = "<init>")) ck_X3_readFrom) = true := by decide +kernel
set_option maxRecDepth 100000 in
theorem cw_X3_readFrom : ∀ w ∈ ckW CLS MT (M_X3_readFrom).nm.cls ck_X3_readFrom, w ∈ TW := tw_in [(7, 171), (10, 131), (10, 174), (10, 172)] (by decide +kernel) (by decide +kernel)
set_option maxRecDepth 100000 in
theorem ch_X3_readFrom : ∀ w ∈ hdW M_X3_readFrom, w ∈ TW := fun w h => nomatch h
set_option maxRecDepth 100000 in
theorem ok_X3_readFrom : methOK CLS MT TSS M_X3_readFrom := meth_ok (k := ck_X3_readFrom) (kd := 1) hG_all prim_in inst_in cw_X3_readFrom cb_X3_readFrom (own1 (M_X3_readFrom, 1) (List.mem_of_getElem? (i := 9) rfl)).1 (own1 (M_X3_readFrom, 1) (List.mem_of_getElem? (i := 9) rfl)).2 (by decide +kernel) ch_X3_readFrom (fun wd _ r hr => noThr_ok (by decide +kernel) wd TSS hr)
set_option maxRecDepth 100000 in
theorem cb_X3_readSum : (M_X3_readSum).rw.all (rowB CLS MT TSS KD M_X3_readSum (decide ((M_X3_readSum).nm.name = "<init>")) ck_X3_readSum) = true := by decide +kernel
set_option maxRecDepth 100000 in
theorem cw_X3_readSum : ∀ w ∈ ckW CLS MT (M_X3_readSum).nm.cls ck_X3_readSum, w ∈ TW := tw_in [(10, 135), (10, 152), (10, 173), (10, 148)] (by decide +kernel) (by decide +kernel)
set_option maxRecDepth 100000 in
theorem ch_X3_readSum : ∀ w ∈ hdW M_X3_readSum, w ∈ TW := fun w h => nomatch h
set_option maxRecDepth 100000 in
theorem ok_X3_readSum : methOK CLS MT TSS M_X3_readSum := meth_ok (k := ck_X3_readSum) (kd := 1) hG_all prim_in inst_in cw_X3_readSum cb_X3_readSum (own1 (M_X3_readSum, 1) (List.mem_of_getElem? (i := 10) rfl)).1 (own1 (M_X3_readSum, 1) (List.mem_of_getElem? (i := 10) rfl)).2 (by decide +kernel) ch_X3_readSum (fun wd _ r hr => noThr_ok (by decide +kernel) wd TSS hr)
set_option maxRecDepth 100000 in
theorem cb_X3_readProduct : (M_X3_readProduct).rw.all (rowB CLS MT TSS KD M_X3_readProduct (decide ((M_X3_readProduct).nm.name = "<init>")) ck_X3_readProduct) = true := by decide +kernel
set_option maxRecDepth 100000 in
theorem cw_X3_readProduct : ∀ w ∈ ckW CLS MT (M_X3_readProduct).nm.cls ck_X3_readProduct, w ∈ TW := tw_in [(10, 139), (10, 152), (10, 173), (10, 148)] (by decide +kernel) (by decide +kernel)
set_option maxRecDepth 100000 in
theorem ch_X3_readProduct : ∀ w ∈ hdW M_X3_readProduct, w ∈ TW := fun w h => nomatch h
set_option maxRecDepth 100000 in
theorem ok_X3_readProduct : methOK CLS MT TSS M_X3_readProduct := meth_ok (k := ck_X3_readProduct) (kd := 1) hG_all prim_in inst_in cw_X3_readProduct cb_X3_readProduct (own1 (M_X3_readProduct, 1) (List.mem_of_getElem? (i := 11) rfl)).1 (own1 (M_X3_readProduct, 1) (List.mem_of_getElem? (i := 11) rfl)).2 (by decide +kernel) ch_X3_readProduct (fun wd _ r hr => noThr_ok (by decide +kernel) wd TSS hr)
set_option maxRecDepth 100000 in
theorem cb_X3_readUnit : (M_X3_readUnit).rw.all (rowB CLS MT TSS KD M_X3_readUnit (decide ((M_X3_readUnit).nm.name = "<init>")) ck_X3_readUnit) = true := by decide +kernel
set_option maxRecDepth 100000 in
theorem cw_X3_readUnit : ∀ w ∈ ckW CLS MT (M_X3_readUnit).nm.cls ck_X3_readUnit, w ∈ TW := tw_in [(10, 143), (10, 147), (10, 148), (10, 152), (10, 153), (10, 131), (10, 154), (10, 156), (10, 157), (10, 162)] (by decide +kernel) (by decide +kernel)
set_option maxRecDepth 100000 in
theorem ch_X3_readUnit : ∀ w ∈ hdW M_X3_readUnit, w ∈ TW := fun w h => nomatch h
set_option maxRecDepth 100000 in
theorem ok_X3_readUnit : methOK CLS MT TSS M_X3_readUnit := meth_ok (k := ck_X3_readUnit) (kd := 1) hG_all prim_in inst_in cw_X3_readUnit cb_X3_readUnit (own1 (M_X3_readUnit, 1) (List.mem_of_getElem? (i := 12) rfl)).1 (own1 (M_X3_readUnit, 1) (List.mem_of_getElem? (i := 12) rfl)).2 (by decide +kernel) ch_X3_readUnit (fun wd _ r hr => noThr_ok (by decide +kernel) wd TSS hr)
set_option maxRecDepth 100000 in
theorem cb_X3_readChoice : (M_X3_readChoice).rw.all (rowB CLS MT TSS KD M_X3_readChoice (decide ((M_X3_readChoice).nm.name = "<init>")) ck_X3_readChoice) = true := by decide +kernel
set_option maxRecDepth 100000 in
theorem cw_X3_readChoice : ∀ w ∈ ckW CLS MT (M_X3_readChoice).nm.cls ck_X3_readChoice, w ∈ TW := tw_in [(10, 153), (10, 154), (10, 131), (10, 148)] (by decide +kernel) (by decide +kernel)
set_option maxRecDepth 100000 in
theorem ch_X3_readChoice : ∀ w ∈ hdW M_X3_readChoice, w ∈ TW := fun w h => nomatch h
set_option maxRecDepth 100000 in
theorem ok_X3_readChoice : methOK CLS MT TSS M_X3_readChoice := meth_ok (k := ck_X3_readChoice) (kd := 1) hG_all prim_in inst_in cw_X3_readChoice cb_X3_readChoice (own1 (M_X3_readChoice, 1) (List.mem_of_getElem? (i := 13) rfl)).1 (own1 (M_X3_readChoice, 1) (List.mem_of_getElem? (i := 13) rfl)).2 (by decide +kernel) ch_X3_readChoice (fun wd _ r hr => noThr_ok (by decide +kernel) wd TSS hr)
set_option maxRecDepth 100000 in
theorem cb_X3_readInput : (M_X3_readInput).rw.all (rowB CLS MT TSS KD M_X3_readInput (decide ((M_X3_readInput).nm.name = "<init>")) ck_X3_readInput) = true := by decide +kernel
set_option maxRecDepth 100000 in
theorem cw_X3_readInput : ∀ w ∈ ckW CLS MT (M_X3_readInput).nm.cls ck_X3_readInput, w ∈ TW := tw_in [(10, 156), (10, 172), (10, 173), (10, 148)] (by decide +kernel) (by decide +kernel)
set_option maxRecDepth 100000 in
theorem ch_X3_readInput : ∀ w ∈ hdW M_X3_readInput, w ∈ TW := fun w h => nomatch h
set_option maxRecDepth 100000 in
theorem ok_X3_readInput : methOK CLS MT TSS M_X3_readInput := meth_ok (k := ck_X3_readInput) (kd := 1) hG_all prim_in inst_in cw_X3_readInput cb_X3_readInput (own1 (M_X3_readInput, 1) (List.mem_of_getElem? (i := 14) rfl)).1 (own1 (M_X3_readInput, 1) (List.mem_of_getElem? (i := 14) rfl)).2 (by decide +kernel) ch_X3_readInput (fun wd _ r hr => noThr_ok (by decide +kernel) wd TSS hr)
set_option maxRecDepth 100000 in
theorem cb_X3_addPart : (M_X3_addPart).rw.all (rowB CLS MT TSS KD M_X3_addPart (decide ((M_X3_addPart).nm.name = "<init>")) ck_X3_addPart) = true := by decide +kernel
set_option maxRecDepth 100000 in
theorem cw_X3_addPart : ∀ w ∈ ckW CLS MT (M_X3_addPart).nm.cls ck_X3_addPart, w ∈ TW := tw_in [(7, 168), (7, 171), (7, 164)] (by decide +kernel) (by decide +kernel)
set_option maxRecDepth 100000 in
theorem ch_X3_addPart : ∀ w ∈ hdW M_X3_addPart, w ∈ TW := fun w h => nomatch h
set_option maxRecDepth 100000 in
theorem ok_X3_addPart : methOK CLS MT TSS M_X3_addPart := meth_ok (k := ck_X3_addPart) (kd := 1) hG_all prim_in inst_in cw_X3_addPart cb_X3_addPart (own1 (M_X3_addPart, 1) (List.mem_of_getElem? (i := 15) rfl)).1 (own1 (M_X3_addPart, 1) (List.mem_of_getElem? (i := 15) rfl)).2 (by decide +kernel) ch_X3_addPart (fun wd _ r hr => noThr_ok (by decide +kernel) wd TSS hr)
set_option maxRecDepth 100000 in
theorem cb_X3_walk : (M_X3_walk).rw.all (rowB CLS MT TSS KD M_X3_walk (decide ((M_X3_walk).nm.name = "<init>")) ck_X3_walk) = true := by decide +kernel
set_option maxRecDepth 100000 in
theorem cw_X3_walk : ∀ w ∈ ckW CLS MT (M_X3_walk).nm.cls ck_X3_walk, w ∈ TW := tw_in [(7, 170), (7, 171), (7, 168), (7, 169), (7, 164), (9, 4), (9, 5), (9, 8), (9, 9)] (by decide +kernel) (by decide +kernel)
set_option maxRecDepth 100000 in
theorem ch_X3_walk : ∀ w ∈ hdW M_X3_walk, w ∈ TW := fun w h => nomatch h
set_option maxRecDepth 100000 in
theorem ok_X3_walk : methOK CLS MT TSS M_X3_walk := meth_ok (k := ck_X3_walk) (kd := 1) hG_all prim_in inst_in cw_X3_walk cb_X3_walk (own1 (M_X3_walk, 1) (List.mem_of_getElem? (i := 16) rfl)).1 (own1 (M_X3_walk, 1) (List.mem_of_getElem? (i := 16) rfl)).2 (by decide +kernel) ch_X3_walk (fun wd _ r hr => noThr_ok (by decide +kernel) wd TSS hr)
set_option maxRecDepth 100000 in
theorem cb_X3_apply : (M_X3_apply).rw.all (rowB CLS MT TSS KD M_X3_apply (decide ((M_X3_apply).nm.name = "<init>")) ck_X3_apply) = true := by decide +kernel
set_option maxRecDepth 100000 in
theorem cw_X3_apply : ∀ w ∈ ckW CLS MT (M_X3_apply).nm.cls ck_X3_apply, w ∈ TW := tw_in [] (by decide +kernel) (by decide +kernel)
set_option maxRecDepth 100000 in
theorem ch_X3_apply : ∀ w ∈ hdW M_X3_apply, w ∈ TW := fun w h => nomatch h
set_option maxRecDepth 100000 in
theorem ok_X3_apply : methOK CLS MT TSS M_X3_apply := meth_ok (k := ck_X3_apply) (kd := 0) hG_all prim_in inst_in cw_X3_apply cb_X3_apply (own1 (M_X3_apply, 0) (List.mem_of_getElem? (i := 17) rfl)).1 (own1 (M_X3_apply, 0) (List.mem_of_getElem? (i := 17) rfl)).2 (by decide +kernel) ch_X3_apply (fun wd _ r hr => noThr_ok (by decide +kernel) wd TSS hr)
set_option maxRecDepth 100000 in
theorem cb_X4_init : (M_X4_init).rw.all (rowB CLS MT TSS KD M_X4_init (decide ((M_X4_init).nm.name = "<init>")) ck_X4_init) = true := by decide +kernel
set_option maxRecDepth 100000 in
theorem cw_X4_init : ∀ w ∈ ckW CLS MT (M_X4_init).nm.cls ck_X4_init, w ∈ TW := tw_in [(8, 46), (8, 47), (8, 48), (8, 43), (8, 45), (8, 44)] (by decide +kernel) (by decide +kernel)
set_option maxRecDepth 100000 in
theorem ch_X4_init : ∀ w ∈ hdW M_X4_init, w ∈ TW := fun w h => nomatch h
set_option maxRecDepth 100000 in
theorem ok_X4_init : methOK CLS MT TSS M_X4_init := meth_ok (k := ck_X4_init) (kd := 2) hG_all prim_in inst_in cw_X4_init cb_X4_init (own1 (M_X4_init, 2) (List.mem_of_getElem? (i := 18) rfl)).1 (own1 (M_X4_init, 2) (List.mem_of_getElem? (i := 18) rfl)).2 (by decide +kernel) ch_X4_init (fun wd _ r hr => noThr_ok (by decide +kernel) wd TSS hr)
set_option maxRecDepth 100000 in
theorem cb_X4_reset : (M_X4_reset).rw.all (rowB CLS MT TSS KD M_X4_reset (decide ((M_X4_reset).nm.name = "<init>")) ck_X4_reset) = true := by decide +kernel
set_option maxRecDepth 100000 in
theorem cw_X4_reset : ∀ w ∈ ckW CLS MT (M_X4_reset).nm.cls ck_X4_reset, w ∈ TW := tw_in [(8, 49), (8, 51)] (by decide +kernel) (by decide +kernel)
set_option maxRecDepth 100000 in
theorem ch_X4_reset : ∀ w ∈ hdW M_X4_reset, w ∈ TW := fun w h => nomatch h
set_option maxRecDepth 100000 in
theorem ok_X4_reset : methOK CLS MT TSS M_X4_reset := meth_ok (k := ck_X4_reset) (kd := 1) hG_all prim_in inst_in cw_X4_reset cb_X4_reset (own1 (M_X4_reset, 1) (List.mem_of_getElem? (i := 19) rfl)).1 (own1 (M_X4_reset, 1) (List.mem_of_getElem? (i := 19) rfl)).2 (by decide +kernel) ch_X4_reset (fun wd _ r hr => noThr_ok (by decide +kernel) wd TSS hr)
set_option maxRecDepth 100000 in
theorem cb_X4_push : (M_X4_push).rw.all (rowB CLS MT TSS KD M_X4_push (decide ((M_X4_push).nm.name = "<init>")) ck_X4_push) = true := by decide +kernel
set_option maxRecDepth 100000 in
theorem cw_X4_push : ∀ w ∈ ckW CLS MT (M_X4_push).nm.cls ck_X4_push, w ∈ TW := tw_in [(8, 46), (8, 49), (9, 103)] (by decide +kernel) (by decide +kernel)
set_option maxRecDepth 100000 in
theorem ch_X4_push : ∀ w ∈ hdW M_X4_push, w ∈ TW := fun w h => nomatch h
set_option maxRecDepth 100000 in
theorem ok_X4_push : methOK CLS MT TSS M_X4_push := meth_ok (k := ck_X4_push) (kd := 1) hG_all prim_in inst_in cw_X4_push cb_X4_push (own1 (M_X4_push, 1) (List.mem_of_getElem? (i := 20) rfl)).1 (own1 (M_X4_push, 1) (List.mem_of_getElem? (i := 20) rfl)).2 (by decide +kernel) ch_X4_push (fun wd _ r hr => noThr_ok (by decide +kernel) wd TSS hr)
set_option maxRecDepth 100000 in
theorem cb_X4_pop : (M_X4_pop).rw.all (rowB CLS MT TSS KD M_X4_pop (decide ((M_X4_pop).nm.name = "<init>")) ck_X4_pop) = true := by decide +kernel
set_option maxRecDepth 100000 in
theorem cw_X4_pop : ∀ w ∈ ckW CLS MT (M_X4_pop).nm.cls ck_X4_pop, w ∈ TW := tw_in [(8, 49), (8, 46), (8, 191)] (by decide +kernel) (by decide +kernel)
set_option maxRecDepth 100000 in
theorem ch_X4_pop : ∀ w ∈ hdW M_X4_pop, w ∈ TW := fun w h => nomatch h
set_option maxRecDepth 100000 in
theorem ok_X4_pop : methOK CLS MT TSS M_X4_pop := meth_ok (k := ck_X4_pop) (kd := 1) hG_all prim_in inst_in cw_X4_pop cb_X4_pop (own1 (M_X4_pop, 1) (List.mem_of_getElem? (i := 21) rfl)).1 (own1 (M_X4_pop, 1) (List.mem_of_getElem? (i := 21) rfl)).2 (by decide +kernel) ch_X4_pop (fun wd _ r hr => noThr_ok (by decide +kernel) wd TSS hr)
set_option maxRecDepth 100000 in
theorem cb_X4_takeImage : (M_X4_takeImage).rw.all (rowB CLS MT TSS KD M_X4_takeImage (decide ((M_X4_takeImage).nm.name = "<init>")) ck_X4_takeImage) = true := by decide +kernel
set_option maxRecDepth 100000 in
theorem cw_X4_takeImage : ∀ w ∈ ckW CLS MT (M_X4_takeImage).nm.cls ck_X4_takeImage, w ∈ TW := tw_in [(8, 46), (8, 49), (8, 47), (8, 51), (8, 48), (9, 103), (9, 107), (9, 108)] (by decide +kernel) (by decide +kernel)
set_option maxRecDepth 100000 in
theorem ch_X4_takeImage : ∀ w ∈ hdW M_X4_takeImage, w ∈ TW := fun w h => nomatch h
set_option maxRecDepth 100000 in
theorem ok_X4_takeImage : methOK CLS MT TSS M_X4_takeImage := meth_ok (k := ck_X4_takeImage) (kd := 1) hG_all prim_in inst_in cw_X4_takeImage cb_X4_takeImage (own1 (M_X4_takeImage, 1) (List.mem_of_getElem? (i := 22) rfl)).1 (own1 (M_X4_takeImage, 1) (List.mem_of_getElem? (i := 22) rfl)).2 (by decide +kernel) ch_X4_takeImage (fun wd _ r hr => noThr_ok (by decide +kernel) wd TSS hr)
set_option maxRecDepth 100000 in
theorem cb_X4_bringImage : (M_X4_bringImage).rw.all (rowB CLS MT TSS KD M_X4_bringImage (decide ((M_X4_bringImage).nm.name = "<init>")) ck_X4_bringImage) = true := by decide +kernel
set_option maxRecDepth 100000 in
theorem cw_X4_bringImage : ∀ w ∈ ckW CLS MT (M_X4_bringImage).nm.cls ck_X4_bringImage, w ∈ TW := tw_in [(8, 51), (8, 48), (8, 49), (8, 46), (8, 47), (9, 117), (9, 107), (8, 191)] (by decide +kernel) (by decide +kernel)
set_option maxRecDepth 100000 in
theorem ch_X4_bringImage : ∀ w ∈ hdW M_X4_bringImage, w ∈ TW := fun w h => nomatch h
set_option maxRecDepth 100000 in
theorem ok_X4_bringImage : methOK CLS MT TSS M_X4_bringImage := meth_ok (k := ck_X4_bringImage) (kd := 1) hG_all prim_in inst_in cw_X4_bringImage cb_X4_bringImage (own1 (M_X4_bringImage, 1) (List.mem_of_getElem? (i := 23) rfl)).1 (own1 (M_X4_bringImage, 1) (List.mem_of_getElem? (i := 23) rfl)).2 (by decide +kernel) ch_X4_bringImage (fun wd _ r hr => noThr_ok (by decide +kernel) wd TSS hr)
set_option maxRecDepth 100000 in
theorem cb_X5_init : (M_X5_init).rw.all (rowB CLS MT TSS KD M_X5_init (decide ((M_X5_init).nm.name = "<init>")) ck_X5_init) = true := by decide +kernel
set_option maxRecDepth 100000 in
theorem cw_X5_init : ∀ w ∈ ckW CLS MT (M_X5_init).nm.cls ck_X5_init, w ∈ TW := tw_in [(7, 204), (7, 205), (7, 206), (7, 207), (7, 201), (7, 203), (7, 202)] (by decide +kernel) (by decide +kernel)
set_option maxRecDepth 100000 in
theorem ch_X5_init : ∀ w ∈ hdW M_X5_init, w ∈ TW := fun w h => nomatch h
set_option maxRecDepth 100000 in
theorem ok_X5_init : methOK CLS MT TSS M_X5_init := meth_ok (k := ck_X5_init) (kd := 2) hG_all prim_in inst_in cw_X5_init cb_X5_init (own1 (M_X5_init, 2) (List.mem_of_getElem? (i := 24) rfl)).1 (own1 (M_X5_init, 2) (List.mem_of_getElem? (i := 24) rfl)).2 (by decide +kernel) ch_X5_init (fun wd _ r hr => noThr_ok (by decide +kernel) wd TSS hr)
set_option maxRecDepth 100000 in
theorem cb_X5_readFrom : (M_X5_readFrom).rw.all (rowB CLS MT TSS KD M_X5_readFrom (decide ((M_X5_readFrom).nm.name = "<init>")) ck_X5_readFrom) = true := by decide +kernel
set_option maxRecDepth 100000 in
theorem cw_X5_readFrom : ∀ w ∈ ckW CLS MT (M_X5_readFrom).nm.cls ck_X5_readFrom, w ∈ TW := tw_in [(7, 208), (7, 210), (7, 211), (7, 213), (10, 192), (10, 193), (10, 224)] (by decide +kernel) (by decide +kernel)
set_option maxRecDepth 100000 in
theorem ch_X5_readFrom : ∀ w ∈ hdW M_X5_readFrom, w ∈ TW := fun w h => nomatch h
set_option maxRecDepth 100000 in
theorem ok_X5_readFrom : methOK CLS MT TSS M_X5_readFrom := meth_ok (k := ck_X5_readFrom) (kd := 1) hG_all prim_in inst_in cw_X5_readFrom cb_X5_readFrom (own1 (M_X5_readFrom, 1) (List.mem_of_getElem? (i := 25) rfl)).1 (own1 (M_X5_readFrom, 1) (List.mem_of_getElem? (i := 25) rfl)).2 (by decide +kernel) ch_X5_readFrom (fun wd _ r hr => noThr_ok (by decide +kernel) wd TSS hr)
set_option maxRecDepth 100000 in
theorem cb_X5_readStep : (M_X5_readStep).rw.all (rowB CLS MT TSS KD M_X5_readStep (decide ((M_X5_readStep).nm.name = "<init>")) ck_X5_readStep) = true := by decide +kernel
set_option maxRecDepth 100000 in
theorem cw_X5_readStep : ∀ w ∈ ckW CLS MT (M_X5_readStep).nm.cls ck_X5_readStep, w ∈ TW := tw_in [(7, 124), (7, 119), (7, 111), (7, 205), (7, 208), (10, 198), (10, 199), (10, 205), (10, 211), (10, 209), (10, 204), (10, 219), (10, 226)] (by decide +kernel) (by decide +kernel)
set_option maxRecDepth 100000 in
theorem ch_X5_readStep : ∀ w ∈ hdW M_X5_readStep, w ∈ TW := fun w h => nomatch h
set_option maxRecDepth 100000 in
theorem ok_X5_readStep : methOK CLS MT TSS M_X5_readStep := meth_ok (k := ck_X5_readStep) (kd := 1) hG_all prim_in inst_in cw_X5_readStep cb_X5_readStep (own1 (M_X5_readStep, 1) (List.mem_of_getElem? (i := 26) rfl)).1 (own1 (M_X5_readStep, 1) (List.mem_of_getElem? (i := 26) rfl)).2 (by decide +kernel) ch_X5_readStep (fun wd _ r hr => noThr_ok (by decide +kernel) wd TSS hr)
set_option maxRecDepth 100000 in
theorem cb_X5_startStep : (M_X5_startStep).rw.all (rowB CLS MT TSS KD M_X5_startStep (decide ((M_X5_startStep).nm.name = "<init>")) ck_X5_startStep) = true := by decide +kernel
set_option maxRecDepth 100000 in
theorem cw_X5_startStep : ∀ w ∈ ckW CLS MT (M_X5_startStep).nm.cls ck_X5_startStep, w ∈ TW := tw_in [(7, 204), (7, 208), (10, 203), (10, 204)] (by decide +kernel) (by decide +kernel)
set_option maxRecDepth 100000 in
theorem ch_X5_startStep : ∀ w ∈ hdW M_X5_startStep, w ∈ TW := fun w h => nomatch h
set_option maxRecDepth 100000 in
theorem ok_X5_startStep : methOK CLS MT TSS M_X5_startStep := meth_ok (k := ck_X5_startStep) (kd := 1) hG_all prim_in inst_in cw_X5_startStep cb_X5_startStep (own1 (M_X5_startStep, 1) (List.mem_of_getElem? (i := 27) rfl)).1 (own1 (M_X5_startStep, 1) (List.mem_of_getElem? (i := 27) rfl)).2 (by decide +kernel) ch_X5_startStep (fun wd _ r hr => noThr_ok (by decide +kernel) wd TSS hr)
set_option maxRecDepth 100000 in
theorem cb_X5_readWho : (M_X5_readWho).rw.all (rowB CLS MT TSS KD M_X5_readWho (decide ((M_X5_readWho).nm.name = "<init>")) ck_X5_readWho) = true := by decide +kernel
set_option maxRecDepth 100000 in
theorem cw_X5_readWho : ∀ w ∈ ckW CLS MT (M_X5_readWho).nm.cls ck_X5_readWho, w ∈ TW := tw_in [(7, 205), (7, 208), (7, 206), (10, 209), (10, 204)] (by decide +kernel) (by decide +kernel)
set_option maxRecDepth 100000 in
theorem ch_X5_readWho : ∀ w ∈ hdW M_X5_readWho, w ∈ TW := fun w h => nomatch h
set_option maxRecDepth 100000 in
theorem ok_X5_readWho : methOK CLS MT TSS M_X5_readWho := meth_ok (k := ck_X5_readWho) (kd := 1) hG_all prim_in inst_in cw_X5_readWho cb_X5_readWho (own1 (M_X5_readWho, 1) (List.mem_of_getElem? (i := 28) rfl)).1 (own1 (M_X5_readWho, 1) (List.mem_of_getElem? (i := 28) rfl)).2 (by decide +kernel) ch_X5_readWho (fun wd _ r hr => noThr_ok (by decide +kernel) wd TSS hr)
set_option maxRecDepth 100000 in
theorem cb_X5_readHowMuch : (M_X5_readHowMuch).rw.all (rowB CLS MT TSS KD M_X5_readHowMuch (decide ((M_X5_readHowMuch).nm.name = "<init>")) ck_X5_readHowMuch) = true := by decide +kernel
set_option maxRecDepth 100000 in
theorem cw_X5_readHowMuch : ∀ w ∈ ckW CLS MT (M_X5_readHowMuch).nm.cls ck_X5_readHowMuch, w ∈ TW := tw_in [(7, 207), (7, 208), (10, 209), (10, 204)] (by decide +kernel) (by decide +kernel)
set_option maxRecDepth 100000 in
theorem ch_X5_readHowMuch : ∀ w ∈ hdW M_X5_readHowMuch, w ∈ TW := fun w h => nomatch h
set_option maxRecDepth 100000 in
theorem ok_X5_readHowMuch : methOK CLS MT TSS M_X5_readHowMuch := meth_ok (k := ck_X5_readHowMuch) (kd := 1) hG_all prim_in inst_in cw_X5_readHowMuch cb_X5_readHowMuch (own1 (M_X5_readHowMuch, 1) (List.mem_of_getElem? (i := 29) rfl)).1 (own1 (M_X5_readHowMuch, 1) (List.mem_of_getElem? (i := 29) rfl)).2 (by decide +kernel) ch_X5_readHowMuch (fun wd _ r hr => noThr_ok (by decide +kernel) wd TSS hr)
set_option maxRecDepth 100000 in
theorem cb_X5_readAgain : (M_X5_readAgain).rw.all (rowB CLS MT TSS KD M_X5_readAgain (decide ((M_X5_readAgain).nm.name = "<init>")) ck_X5_readAgain) = true := by decide +kernel
set_option maxRecDepth 100000 in
theorem cw_X5_readAgain : ∀ w ∈ ckW CLS MT (M_X5_readAgain).nm.cls ck_X5_readAgain, w ∈ TW := tw_in [(7, 208), (7, 204), (7, 205), (7, 206), (10, 223), (10, 204), (10, 209), (10, 224), (10, 192), (10, 225), (10, 193)] (by decide +kernel) (by decide +kernel)
set_option maxRecDepth 100000 in
theorem ch_X5_readAgain : ∀ w ∈ hdW M_X5_readAgain, w ∈ TW := fun w h => nomatch h
set_option maxRecDepth 100000 in
theorem ok_X5_readAgain : methOK CLS MT TSS M_X5_readAgain := meth_ok (k := ck_X5_readAgain) (kd := 1) hG_all prim_in inst_in cw_X5_readAgain cb_X5_readAgain (own1 (M_X5_readAgain, 1) (List.mem_of_getElem? (i := 30) rfl)).1 (own1 (M_X5_readAgain, 1) (List.mem_of_getElem? (i := 30) rfl)).2 (by decide +kernel) ch_X5_readAgain (fun wd _ r hr => noThr_ok (by decide +kernel) wd TSS hr)
set_option maxRecDepth 100000 in
theorem cb_X5_run : (M_X5_run).rw.all (rowB CLS MT TSS KD M_X5_run (decide ((M_X5_run).nm.name = "<init>")) ck_X5_run) = true := by decide +kernel
set_option maxRecDepth 100000 in
theorem cw_X5_run : ∀ w ∈ ckW CLS MT (M_X5_run).nm.cls ck_X5_run, w ∈ TW := tw_in [(7, 210), (7, 204), (7, 206), (7, 205), (7, 207), (7, 211), (7, 213), (10, 235), (10, 236), (11, 1)] (by decide +kernel) (by decide +kernel)
set_option maxRecDepth 100000 in
theorem ch_X5_run : ∀ w ∈ hdW M_X5_run, w ∈ TW := fun w h => nomatch h
set_option maxRecDepth 100000 in
theorem ok_X5_run : methOK CLS MT TSS M_X5_run := meth_ok (k := ck_X5_run) (kd := 1) hG_all prim_in inst_in cw_X5_run cb_X5_run (own1 (M_X5_run, 1) (List.mem_of_getElem? (i := 31) rfl)).1 (own1 (M_X5_run, 1) (List.mem_of_getElem? (i := 31) rfl)).2 (by decide +kernel) ch_X5_run (fun wd _ r hr => noThr_ok (by decide +kernel) wd TSS hr)
set_option maxRecDepth 100000 in
theorem cb_X5_repeat : (M_X5_repeat).rw.all (rowB CLS MT TSS KD M_X5_repeat (decide ((M_X5_repeat).nm.name = "<init>")) ck_X5_repeat) = true := by decide +kernel
set_option maxRecDepth 100000 in
theorem cw_X5_repeat : ∀ w ∈ ckW CLS MT (M_X5_repeat).nm.cls ck_X5_repeat, w ∈ TW := tw_in [(7, 205), (7, 210), (7, 206), (10, 235), (11, 0)] (by decide +kernel) (by decide +kernel)
set_option maxRecDepth 100000 in
theorem ch_X5_repeat : ∀ w ∈ hdW M_X5_repeat, w ∈ TW := fun w h => nomatch h
set_option maxRecDepth 100000 in
theorem ok_X5_repeat : methOK CLS MT TSS M_X5_repeat := meth_ok (k := ck_X5_repeat) (kd := 1) hG_all prim_in inst_in cw_X5_repeat cb_X5_repeat (own1 (M_X5_repeat, 1) (List.mem_of_getElem? (i := 32) rfl)).1 (own1 (M_X5_repeat, 1) (List.mem_of_getElem? (i := 32) rfl)).2 (by decide +kernel) ch_X5_repeat (fun wd _ r hr => noThr_ok (by decide +kernel) wd TSS hr)
set_option maxRecDepth 100000 in
theorem cb_X5_doStep : (M_X5_doStep).rw.all (rowB CLS MT TSS KD M_X5_doStep (decide ((M_X5_doStep).nm.name = "<init>")) ck_X5_doStep) = true := by decide +kernel
set_option maxRecDepth 100000 in
theorem cw_X5_doStep : ∀ w ∈ ckW CLS MT (M_X5_doStep).nm.cls ck_X5_doStep, w ∈ TW := tw_in [(11, 4), (11, 8), (11, 16), (11, 20), (11, 28)] (by decide +kernel) (by decide +kernel)
set_option maxRecDepth 100000 in
theorem ch_X5_doStep : ∀ w ∈ hdW M_X5_doStep, w ∈ TW := fun w h => nomatch h
set_option maxRecDepth 100000 in
theorem ok_X5_doStep : methOK CLS MT TSS M_X5_doStep := meth_ok (k := ck_X5_doStep) (kd := 0) hG_all prim_in inst_in cw_X5_doStep cb_X5_doStep (own1 (M_X5_doStep, 0) (List.mem_of_getElem? (i := 33) rfl)).1 (own1 (M_X5_doStep, 0) (List.mem_of_getElem? (i := 33) rfl)).2 (by decide +kernel) ch_X5_doStep (fun wd _ r hr => noThr_ok (by decide +kernel) wd TSS hr)
set_option maxRecDepth 100000 in
theorem cb_X6_init : (M_X6_init).rw.all (rowB CLS MT TSS KD M_X6_init (decide ((M_X6_init).nm.name = "<init>")) ck_X6_init) = true := by decide +kernel
set_option maxRecDepth 100000 in
theorem cw_X6_init : ∀ w ∈ ckW CLS MT (M_X6_init).nm.cls ck_X6_init, w ∈ TW := tw_in [(7, 49), (7, 60), (7, 37), (7, 40), (7, 38)] (by decide +kernel) (by decide +kernel)
set_option maxRecDepth 100000 in
theorem ch_X6_init : ∀ w ∈ hdW M_X6_init, w ∈ TW := fun w h => nomatch h
set_option maxRecDepth 100000 in
theorem ok_X6_init : methOK CLS MT TSS M_X6_init := meth_ok (k := ck_X6_init) (kd := 2) hG_all prim_in inst_in cw_X6_init cb_X6_init (own1 (M_X6_init, 2) (List.mem_of_getElem? (i := 34) rfl)).1 (own1 (M_X6_init, 2) (List.mem_of_getElem? (i := 34) rfl)).2 (by decide +kernel) ch_X6_init (fun wd _ r hr => noThr_ok (by decide +kernel) wd TSS hr)
set_option maxRecDepth 100000 in
theorem cb_X6_addNumber : (M_X6_addNumber).rw.all (rowB CLS MT TSS KD M_X6_addNumber (decide ((M_X6_addNumber).nm.name = "<init>")) ck_X6_addNumber) = true := by decide +kernel
set_option maxRecDepth 100000 in
theorem cw_X6_addNumber : ∀ w ∈ ckW CLS MT (M_X6_addNumber).nm.cls ck_X6_addNumber, w ∈ TW := tw_in [(7, 49), (7, 51), (8, 178)] (by decide +kernel) (by decide +kernel)
set_option maxRecDepth 100000 in
theorem ch_X6_addNumber : ∀ w ∈ hdW M_X6_addNumber, w ∈ TW := fun w h => nomatch h
set_option maxRecDepth 100000 in
theorem ok_X6_addNumber : methOK CLS MT TSS M_X6_addNumber := meth_ok (k := ck_X6_addNumber) (kd := 1) hG_all prim_in inst_in cw_X6_addNumber cb_X6_addNumber (own1 (M_X6_addNumber, 1) (List.mem_of_getElem? (i := 35) rfl)).1 (own1 (M_X6_addNumber, 1) (List.mem_of_getElem? (i := 35) rfl)).2 (by decide +kernel) ch_X6_addNumber (fun wd _ r hr => noThr_ok (by decide +kernel) wd TSS hr)
set_option maxRecDepth 100000 in
theorem cb_X6_start : (M_X6_start).rw.all (rowB CLS MT TSS KD M_X6_start (decide ((M_X6_start).nm.name = "<init>")) ck_X6_start) = true := by decide +kernel
set_option maxRecDepth 100000 in
theorem cw_X6_start : ∀ w ∈ ckW CLS MT (M_X6_start).nm.cls ck_X6_start, w ∈ TW := tw_in [(7, 52), (7, 51), (7, 58), (7, 60), (7, 55), (9, 213)] (by decide +kernel) (by decide +kernel)
set_option maxRecDepth 100000 in
theorem ch_X6_start : ∀ w ∈ hdW M_X6_start, w ∈ TW := fun w h => nomatch h
set_option maxRecDepth 100000 in
theorem ok_X6_start : methOK CLS MT TSS M_X6_start := meth_ok (k := ck_X6_start) (kd := 1) hG_all prim_in inst_in cw_X6_start cb_X6_start (own1 (M_X6_start, 1) (List.mem_of_getElem? (i := 36) rfl)).1 (own1 (M_X6_start, 1) (List.mem_of_getElem? (i := 36) rfl)).2 (by decide +kernel) ch_X6_start (fun wd _ r hr => noThr_ok (by decide +kernel) wd TSS hr)
set_option maxRecDepth 100000 in
theorem cb_X6_advance : (M_X6_advance).rw.all (rowB CLS MT TSS KD M_X6_advance (decide ((M_X6_advance).nm.name = "<init>")) ck_X6_advance) = true := by decide +kernel
set_option maxRecDepth 100000 in
theorem cw_X6_advance : ∀ w ∈ ckW CLS MT (M_X6_advance).nm.cls ck_X6_advance, w ∈ TW := tw_in [(7, 55), (7, 52), (7, 49), (7, 54), (7, 56), (7, 53), (9, 217), (9, 218), (9, 221), (9, 226), (9, 229)] (by decide +kernel) (by decide +kernel)
set_option maxRecDepth 100000 in
theorem ch_X6_advance : ∀ w ∈ hdW M_X6_advance, w ∈ TW := fun w h => nomatch h
set_option maxRecDepth 100000 in
theorem ok_X6_advance : methOK CLS MT TSS M_X6_advance := meth_ok (k := ck_X6_advance) (kd := 1) hG_all prim_in inst_in cw_X6_advance cb_X6_advance (own1 (M_X6_advance, 1) (List.mem_of_getElem? (i := 37) rfl)).1 (own1 (M_X6_advance, 1) (List.mem_of_getElem? (i := 37) rfl)).2 (by decide +kernel) ch_X6_advance (fun wd _ r hr => noThr_ok (by decide +kernel) wd TSS hr)
set_option maxRecDepth 100000 in
theorem cb_X6_takeDigits : (M_X6_takeDigits).rw.all (rowB CLS MT TSS KD M_X6_takeDigits (decide ((M_X6_takeDigits).nm.name = "<init>")) ck_X6_takeDigits) = true := by decide +kernel
set_option maxRecDepth 100000 in
theorem cw_X6_takeDigits : ∀ w ∈ ckW CLS MT (M_X6_takeDigits).nm.cls ck_X6_takeDigits, w ∈ TW := tw_in [(7, 54), (7, 52), (7, 49), (7, 56), (7, 55), (9, 217), (9, 218), (9, 225)] (by decide +kernel) (by decide +kernel)
set_option maxRecDepth 100000 in
theorem ch_X6_takeDigits : ∀ w ∈ hdW M_X6_takeDigits, w ∈ TW := fun w h => nomatch h
set_option maxRecDepth 100000 in
theorem ok_X6_takeDigits : methOK CLS MT TSS M_X6_takeDigits := meth_ok (k := ck_X6_takeDigits) (kd := 1) hG_all prim_in inst_in cw_X6_takeDigits cb_X6_takeDigits (own1 (M_X6_takeDigits, 1) (List.mem_of_getElem? (i := 38) rfl)).1 (own1 (M_X6_takeDigits, 1) (List.mem_of_getElem? (i := 38) rfl)).2 (by decide +kernel) ch_X6_takeDigits (fun wd _ r hr => noThr_ok (by decide +kernel) wd TSS hr)
set_option maxRecDepth 100000 in
theorem cb_X6_takeLetters : (M_X6_takeLetters).rw.all (rowB CLS MT TSS KD M_X6_takeLetters (decide ((M_X6_takeLetters).nm.name = "<init>")) ck_X6_takeLetters) = true := by decide +kernel
set_option maxRecDepth 100000 in
theorem cw_X6_takeLetters : ∀ w ∈ ckW CLS MT (M_X6_takeLetters).nm.cls ck_X6_takeLetters, w ∈ TW := tw_in [(7, 54), (7, 52), (7, 49), (7, 55), (9, 217), (9, 226)] (by decide +kernel) (by decide +kernel)
set_option maxRecDepth 100000 in
theorem ch_X6_takeLetters : ∀ w ∈ hdW M_X6_takeLetters, w ∈ TW := fun w h => nomatch h
set_option maxRecDepth 100000 in
theorem ok_X6_takeLetters : methOK CLS MT TSS M_X6_takeLetters := meth_ok (k := ck_X6_takeLetters) (kd := 1) hG_all prim_in inst_in cw_X6_takeLetters cb_X6_takeLetters (own1 (M_X6_takeLetters, 1) (List.mem_of_getElem? (i := 39) rfl)).1 (own1 (M_X6_takeLetters, 1) (List.mem_of_getElem? (i := 39) rfl)).2 (by decide +kernel) ch_X6_takeLetters (fun wd _ r hr => noThr_ok (by decide +kernel) wd TSS hr)
set_option maxRecDepth 100000 in
theorem cb_X6_hasMore : (M_X6_hasMore).rw.all (rowB CLS MT TSS KD M_X6_hasMore (decide ((M_X6_hasMore).nm.name = "<init>")) ck_X6_hasMore) = true := by decide +kernel
set_option maxRecDepth 100000 in
theorem cw_X6_hasMore : ∀ w ∈ ckW CLS MT (M_X6_hasMore).nm.cls ck_X6_hasMore, w ∈ TW := tw_in [(7, 53)] (by decide +kernel) (by decide +kernel)
set_option maxRecDepth 100000 in
theorem ch_X6_hasMore : ∀ w ∈ hdW M_X6_hasMore, w ∈ TW := fun w h => nomatch h
set_option maxRecDepth 100000 in
theorem ok_X6_hasMore : methOK CLS MT TSS M_X6_hasMore := meth_ok (k := ck_X6_hasMore) (kd := 1) hG_all prim_in inst_in cw_X6_hasMore cb_X6_hasMore (own1 (M_X6_hasMore, 1) (List.mem_of_getElem? (i := 40) rfl)).1 (own1 (M_X6_hasMore, 1) (List.mem_of_getElem? (i := 40) rfl)).2 (by decide +kernel) ch_X6_hasMore (fun wd _ r hr => noThr_ok (by decide +kernel) wd TSS hr)
set_option maxRecDepth 100000 in
theorem okc1 : ∀ q ∈ MTK1, methOK CLS MT TSS q.1 := List.forall_mem_cons.mpr ⟨ok_X2_canLead, List.forall_mem_cons.mpr ⟨ok_X2_callBird, List.forall_mem_cons.mpr ⟨ok_X2_leadBird, List.forall_mem_cons.mpr ⟨ok_X2_putOff, List.forall_mem_cons.mpr ⟨ok_X2_noteSaying, List.forall_mem_cons.mpr ⟨ok_X2_passMinute, List.forall_mem_cons.mpr ⟨ok_X3_init, List.forall_mem_cons.mpr ⟨ok_X3_reset, List.forall_mem_cons.mpr ⟨ok_X3_become, List.forall_mem_cons.mpr ⟨ok_X3_readFrom, List.forall_mem_cons.mpr ⟨ok_X3_readSum, List.forall_mem_cons.mpr ⟨ok_X3_readProduct, List.forall_mem_cons.mpr ⟨ok_X3_readUnit, List.forall_mem_cons.mpr ⟨ok_X3_readChoice, List.forall_mem_cons.mpr ⟨ok_X3_readInput, List.forall_mem_cons.mpr ⟨ok_X3_addPart, List.forall_mem_cons.mpr ⟨ok_X3_walk, List.forall_mem_cons.mpr ⟨ok_X3_apply, List.forall_mem_cons.mpr ⟨ok_X4_init, List.forall_mem_cons.mpr ⟨ok_X4_reset, List.forall_mem_cons.mpr ⟨ok_X4_push, List.forall_mem_cons.mpr ⟨ok_X4_pop, List.forall_mem_cons.mpr ⟨ok_X4_takeImage, List.forall_mem_cons.mpr ⟨ok_X4_bringImage, List.forall_mem_cons.mpr ⟨ok_X5_init, List.forall_mem_cons.mpr ⟨ok_X5_readFrom, List.forall_mem_cons.mpr ⟨ok_X5_readStep, List.forall_mem_cons.mpr ⟨ok_X5_startStep, List.forall_mem_cons.mpr ⟨ok_X5_readWho, List.forall_mem_cons.mpr ⟨ok_X5_readHowMuch, List.forall_mem_cons.mpr ⟨ok_X5_readAgain, List.forall_mem_cons.mpr ⟨ok_X5_run, List.forall_mem_cons.mpr ⟨ok_X5_repeat, List.forall_mem_cons.mpr ⟨ok_X5_doStep, List.forall_mem_cons.mpr ⟨ok_X6_init, List.forall_mem_cons.mpr ⟨ok_X6_addNumber, List.forall_mem_cons.mpr ⟨ok_X6_start, List.forall_mem_cons.mpr ⟨ok_X6_advance, List.forall_mem_cons.mpr ⟨ok_X6_takeDigits, List.forall_mem_cons.mpr ⟨ok_X6_takeLetters, List.forall_mem_cons.mpr ⟨ok_X6_hasMore, fun _ h => nomatch h⟩⟩⟩⟩⟩⟩⟩⟩⟩⟩⟩⟩⟩⟩⟩⟩⟩⟩⟩⟩⟩⟩⟩⟩⟩⟩⟩⟩⟩⟩⟩⟩⟩⟩⟩⟩⟩⟩⟩⟩⟩
