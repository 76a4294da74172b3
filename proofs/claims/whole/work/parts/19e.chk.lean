/-! Rows checked. -/
set_option maxRecDepth 100000 in
theorem cb_X10_power : (M_X10_power).rw.all (rowB CLS MT TSS KD M_X10_power (decide ((M_X10_power).nm.name = "<init>")) ck_X10_power) = true := by decide +kernel
set_option maxRecDepth 100000 in
theorem cw_X10_power : ∀ w ∈ ckW CLS MT (M_X10_power).nm.cls ck_X10_power, w ∈ TW := tw_in [] (by decide +kernel) (by decide +kernel)
set_option maxRecDepth 100000 in
theorem ch_X10_power : ∀ w ∈ hdW M_X10_power, w ∈ TW := fun w h => nomatch h
set_option maxRecDepth 100000 in
theorem ok_X10_power : methOK CLS MT TSS M_X10_power := meth_ok (k := ck_X10_power) (kd := 0) hG_all prim_in inst_in cw_X10_power cb_X10_power (own4 (M_X10_power, 0) (List.mem_of_getElem? (i := 0) rfl)).1 (own4 (M_X10_power, 0) (List.mem_of_getElem? (i := 0) rfl)).2 (by decide +kernel) ch_X10_power (fun wd _ r hr => noThr_ok (by decide +kernel) wd TSS hr)
set_option maxRecDepth 100000 in
theorem cb_X10_waysToChoose : (M_X10_waysToChoose).rw.all (rowB CLS MT TSS KD M_X10_waysToChoose (decide ((M_X10_waysToChoose).nm.name = "<init>")) ck_X10_waysToChoose) = true := by decide +kernel
set_option maxRecDepth 100000 in
theorem cw_X10_waysToChoose : ∀ w ∈ ckW CLS MT (M_X10_waysToChoose).nm.cls ck_X10_waysToChoose, w ∈ TW := tw_in [] (by decide +kernel) (by decide +kernel)
set_option maxRecDepth 100000 in
theorem ch_X10_waysToChoose : ∀ w ∈ hdW M_X10_waysToChoose, w ∈ TW := fun w h => nomatch h
set_option maxRecDepth 100000 in
theorem ok_X10_waysToChoose : methOK CLS MT TSS M_X10_waysToChoose := meth_ok (k := ck_X10_waysToChoose) (kd := 0) hG_all prim_in inst_in cw_X10_waysToChoose cb_X10_waysToChoose (own4 (M_X10_waysToChoose, 0) (List.mem_of_getElem? (i := 1) rfl)).1 (own4 (M_X10_waysToChoose, 0) (List.mem_of_getElem? (i := 1) rfl)).2 (by decide +kernel) ch_X10_waysToChoose (fun wd _ r hr => noThr_ok (by decide +kernel) wd TSS hr)
set_option maxRecDepth 100000 in
theorem cb_X10_gain : (M_X10_gain).rw.all (rowB CLS MT TSS KD M_X10_gain (decide ((M_X10_gain).nm.name = "<init>")) ck_X10_gain) = true := by decide +kernel
set_option maxRecDepth 100000 in
theorem cw_X10_gain : ∀ w ∈ ckW CLS MT (M_X10_gain).nm.cls ck_X10_gain, w ∈ TW := tw_in [] (by decide +kernel) (by decide +kernel)
set_option maxRecDepth 100000 in
theorem ch_X10_gain : ∀ w ∈ hdW M_X10_gain, w ∈ TW := fun w h => nomatch h
set_option maxRecDepth 100000 in
theorem ok_X10_gain : methOK CLS MT TSS M_X10_gain := meth_ok (k := ck_X10_gain) (kd := 0) hG_all prim_in inst_in cw_X10_gain cb_X10_gain (own4 (M_X10_gain, 0) (List.mem_of_getElem? (i := 2) rfl)).1 (own4 (M_X10_gain, 0) (List.mem_of_getElem? (i := 2) rfl)).2 (by decide +kernel) ch_X10_gain (fun wd _ r hr => noThr_ok (by decide +kernel) wd TSS hr)
set_option maxRecDepth 100000 in
theorem cb_X10_isRest : (M_X10_isRest).rw.all (rowB CLS MT TSS KD M_X10_isRest (decide ((M_X10_isRest).nm.name = "<init>")) ck_X10_isRest) = true := by decide +kernel
set_option maxRecDepth 100000 in
theorem cw_X10_isRest : ∀ w ∈ ckW CLS MT (M_X10_isRest).nm.cls ck_X10_isRest, w ∈ TW := tw_in [(12, 6)] (by decide +kernel) (by decide +kernel)
set_option maxRecDepth 100000 in
theorem ch_X10_isRest : ∀ w ∈ hdW M_X10_isRest, w ∈ TW := fun w h => nomatch h
set_option maxRecDepth 100000 in
theorem ok_X10_isRest : methOK CLS MT TSS M_X10_isRest := meth_ok (k := ck_X10_isRest) (kd := 0) hG_all prim_in inst_in cw_X10_isRest cb_X10_isRest (own4 (M_X10_isRest, 0) (List.mem_of_getElem? (i := 3) rfl)).1 (own4 (M_X10_isRest, 0) (List.mem_of_getElem? (i := 3) rfl)).2 (by decide +kernel) ch_X10_isRest (fun wd _ r hr => noThr_ok (by decide +kernel) wd TSS hr)
set_option maxRecDepth 100000 in
theorem cb_X11_thrown : (M_X11_thrown).rw.all (rowB CLS MT TSS KD M_X11_thrown (decide ((M_X11_thrown).nm.name = "<init>")) ck_X11_thrown) = true := by decide +kernel
set_option maxRecDepth 100000 in
theorem cw_X11_thrown : ∀ w ∈ ckW CLS MT (M_X11_thrown).nm.cls ck_X11_thrown, w ∈ TW := tw_in [(12, 180)] (by decide +kernel) (by decide +kernel)
set_option maxRecDepth 100000 in
theorem ch_X11_thrown : ∀ w ∈ hdW M_X11_thrown, w ∈ TW := fun w h => nomatch h
set_option maxRecDepth 100000 in
theorem ok_X11_thrown : methOK CLS MT TSS M_X11_thrown := meth_ok (k := ck_X11_thrown) (kd := 1) hG_all prim_in inst_in cw_X11_thrown cb_X11_thrown (own4 (M_X11_thrown, 1) (List.mem_of_getElem? (i := 4) rfl)).1 (own4 (M_X11_thrown, 1) (List.mem_of_getElem? (i := 4) rfl)).2 (by decide +kernel) ch_X11_thrown (fun wd _ r hr => noThr_ok (by decide +kernel) wd TSS hr)
set_option maxRecDepth 100000 in
theorem cb_X11_may : (M_X11_may).rw.all (rowB CLS MT TSS KD M_X11_may (decide ((M_X11_may).nm.name = "<init>")) ck_X11_may) = true := by decide +kernel
set_option maxRecDepth 100000 in
theorem cw_X11_may : ∀ w ∈ ckW CLS MT (M_X11_may).nm.cls ck_X11_may, w ∈ TW := tw_in [(12, 180), (12, 181)] (by decide +kernel) (by decide +kernel)
set_option maxRecDepth 100000 in
theorem ch_X11_may : ∀ w ∈ hdW M_X11_may, w ∈ TW := fun w h => nomatch h
set_option maxRecDepth 100000 in
theorem ok_X11_may : methOK CLS MT TSS M_X11_may := meth_ok (k := ck_X11_may) (kd := 1) hG_all prim_in inst_in cw_X11_may cb_X11_may (own4 (M_X11_may, 1) (List.mem_of_getElem? (i := 5) rfl)).1 (own4 (M_X11_may, 1) (List.mem_of_getElem? (i := 5) rfl)).2 (by decide +kernel) ch_X11_may (fun wd _ r hr => noThr_ok (by decide +kernel) wd TSS hr)
set_option maxRecDepth 100000 in
theorem cb_X11_within : (M_X11_within).rw.all (rowB CLS MT TSS KD M_X11_within (decide ((M_X11_within).nm.name = "<init>")) ck_X11_within) = true := by decide +kernel
set_option maxRecDepth 100000 in
theorem cw_X11_within : ∀ w ∈ ckW CLS MT (M_X11_within).nm.cls ck_X11_within, w ∈ TW := tw_in [] (by decide +kernel) (by decide +kernel)
set_option maxRecDepth 100000 in
theorem ch_X11_within : ∀ w ∈ hdW M_X11_within, w ∈ TW := fun w h => nomatch h
set_option maxRecDepth 100000 in
theorem ok_X11_within : methOK CLS MT TSS M_X11_within := meth_ok (k := ck_X11_within) (kd := 0) hG_all prim_in inst_in cw_X11_within cb_X11_within (own4 (M_X11_within, 0) (List.mem_of_getElem? (i := 6) rfl)).1 (own4 (M_X11_within, 0) (List.mem_of_getElem? (i := 6) rfl)).2 (by decide +kernel) ch_X11_within (fun wd _ r hr => noThr_ok (by decide +kernel) wd TSS hr)
set_option maxRecDepth 100000 in
theorem cb_X11_init : (M_X11_init).rw.all (rowB CLS MT TSS KD M_X11_init (decide ((M_X11_init).nm.name = "<init>")) ck_X11_init) = true := by decide +kernel
set_option maxRecDepth 100000 in
theorem cw_X11_init : ∀ w ∈ ckW CLS MT (M_X11_init).nm.cls ck_X11_init, w ∈ TW := tw_in [(12, 181), (12, 188), (12, 189), (12, 190), (12, 191), (12, 192), (12, 193), (12, 194), (12, 195), (12, 196), (12, 197), (12, 206), (12, 207), (12, 208), (12, 209), (12, 210), (12, 213), (12, 214), (12, 215), (12, 222), (12, 223), (12, 224), (12, 225), (12, 226), (12, 228), (12, 229), (12, 231), (12, 232), (12, 234), (12, 167), (12, 168), (12, 172)] (by decide +kernel) (by decide +kernel)
set_option maxRecDepth 100000 in
theorem ch_X11_init : ∀ w ∈ hdW M_X11_init, w ∈ TW := fun w h => nomatch h
set_option maxRecDepth 100000 in
theorem ok_X11_init : methOK CLS MT TSS M_X11_init := meth_ok (k := ck_X11_init) (kd := 2) hG_all prim_in inst_in cw_X11_init cb_X11_init (own4 (M_X11_init, 2) (List.mem_of_getElem? (i := 7) rfl)).1 (own4 (M_X11_init, 2) (List.mem_of_getElem? (i := 7) rfl)).2 (by decide +kernel) ch_X11_init (fun wd _ r hr => noThr_ok (by decide +kernel) wd TSS hr)
set_option maxRecDepth 100000 in
theorem cb_X11_feed : (M_X11_feed).rw.all (rowB CLS MT TSS KD M_X11_feed (decide ((M_X11_feed).nm.name = "<init>")) ck_X11_feed) = true := by decide +kernel
set_option maxRecDepth 100000 in
theorem cw_X11_feed : ∀ w ∈ ckW CLS MT (M_X11_feed).nm.cls ck_X11_feed, w ∈ TW := tw_in [(12, 180), (12, 182), (12, 189)] (by decide +kernel) (by decide +kernel)
set_option maxRecDepth 100000 in
theorem ch_X11_feed : ∀ w ∈ hdW M_X11_feed, w ∈ TW := fun w h => nomatch h
set_option maxRecDepth 100000 in
theorem ok_X11_feed : methOK CLS MT TSS M_X11_feed := meth_ok (k := ck_X11_feed) (kd := 1) hG_all prim_in inst_in cw_X11_feed cb_X11_feed (own4 (M_X11_feed, 1) (List.mem_of_getElem? (i := 8) rfl)).1 (own4 (M_X11_feed, 1) (List.mem_of_getElem? (i := 8) rfl)).2 (by decide +kernel) ch_X11_feed (fun wd _ r hr => noThr_ok (by decide +kernel) wd TSS hr)
set_option maxRecDepth 100000 in
theorem cb_X11_fine : (M_X11_fine).rw.all (rowB CLS MT TSS KD M_X11_fine (decide ((M_X11_fine).nm.name = "<init>")) ck_X11_fine) = true := by decide +kernel
set_option maxRecDepth 100000 in
theorem cw_X11_fine : ∀ w ∈ ckW CLS MT (M_X11_fine).nm.cls ck_X11_fine, w ∈ TW := tw_in [(12, 185)] (by decide +kernel) (by decide +kernel)
set_option maxRecDepth 100000 in
theorem ch_X11_fine : ∀ w ∈ hdW M_X11_fine, w ∈ TW := fun w h => nomatch h
set_option maxRecDepth 100000 in
theorem ok_X11_fine : methOK CLS MT TSS M_X11_fine := meth_ok (k := ck_X11_fine) (kd := 1) hG_all prim_in inst_in cw_X11_fine cb_X11_fine (own4 (M_X11_fine, 1) (List.mem_of_getElem? (i := 9) rfl)).1 (own4 (M_X11_fine, 1) (List.mem_of_getElem? (i := 9) rfl)).2 (by decide +kernel) ch_X11_fine (fun wd _ r hr => noThr_ok (by decide +kernel) wd TSS hr)
set_option maxRecDepth 100000 in
theorem cb_X11_wrong : (M_X11_wrong).rw.all (rowB CLS MT TSS KD M_X11_wrong (decide ((M_X11_wrong).nm.name = "<init>")) ck_X11_wrong) = true := by decide +kernel
set_option maxRecDepth 100000 in
theorem cw_X11_wrong : ∀ w ∈ ckW CLS MT (M_X11_wrong).nm.cls ck_X11_wrong, w ∈ TW := tw_in [(12, 185), (12, 186)] (by decide +kernel) (by decide +kernel)
set_option maxRecDepth 100000 in
theorem ch_X11_wrong : ∀ w ∈ hdW M_X11_wrong, w ∈ TW := fun w h => nomatch h
set_option maxRecDepth 100000 in
theorem ok_X11_wrong : methOK CLS MT TSS M_X11_wrong := meth_ok (k := ck_X11_wrong) (kd := 1) hG_all prim_in inst_in cw_X11_wrong cb_X11_wrong (own4 (M_X11_wrong, 1) (List.mem_of_getElem? (i := 10) rfl)).1 (own4 (M_X11_wrong, 1) (List.mem_of_getElem? (i := 10) rfl)).2 (by decide +kernel) ch_X11_wrong (fun wd _ r hr => noThr_ok (by decide +kernel) wd TSS hr)
set_option maxRecDepth 100000 in
theorem cb_X11_here : (M_X11_here).rw.all (rowB CLS MT TSS KD M_X11_here (decide ((M_X11_here).nm.name = "<init>")) ck_X11_here) = true := by decide +kernel
set_option maxRecDepth 100000 in
theorem cw_X11_here : ∀ w ∈ ckW CLS MT (M_X11_here).nm.cls ck_X11_here, w ∈ TW := tw_in [(12, 184), (12, 183), (12, 189)] (by decide +kernel) (by decide +kernel)
set_option maxRecDepth 100000 in
theorem ch_X11_here : ∀ w ∈ hdW M_X11_here, w ∈ TW := fun w h => nomatch h
set_option maxRecDepth 100000 in
theorem ok_X11_here : methOK CLS MT TSS M_X11_here := meth_ok (k := ck_X11_here) (kd := 1) hG_all prim_in inst_in cw_X11_here cb_X11_here (own4 (M_X11_here, 1) (List.mem_of_getElem? (i := 11) rfl)).1 (own4 (M_X11_here, 1) (List.mem_of_getElem? (i := 11) rfl)).2 (by decide +kernel) ch_X11_here (fun wd _ r hr => noThr_ok (by decide +kernel) wd TSS hr)
set_option maxRecDepth 100000 in
theorem cb_X11_isSmall : (M_X11_isSmall).rw.all (rowB CLS MT TSS KD M_X11_isSmall (decide ((M_X11_isSmall).nm.name = "<init>")) ck_X11_isSmall) = true := by decide +kernel
set_option maxRecDepth 100000 in
theorem cw_X11_isSmall : ∀ w ∈ ckW CLS MT (M_X11_isSmall).nm.cls ck_X11_isSmall, w ∈ TW := tw_in [] (by decide +kernel) (by decide +kernel)
set_option maxRecDepth 100000 in
theorem ch_X11_isSmall : ∀ w ∈ hdW M_X11_isSmall, w ∈ TW := fun w h => nomatch h
set_option maxRecDepth 100000 in
theorem ok_X11_isSmall : methOK CLS MT TSS M_X11_isSmall := meth_ok (k := ck_X11_isSmall) (kd := 0) hG_all prim_in inst_in cw_X11_isSmall cb_X11_isSmall (own4 (M_X11_isSmall, 0) (List.mem_of_getElem? (i := 12) rfl)).1 (own4 (M_X11_isSmall, 0) (List.mem_of_getElem? (i := 12) rfl)).2 (by decide +kernel) ch_X11_isSmall (fun wd _ r hr => noThr_ok (by decide +kernel) wd TSS hr)
set_option maxRecDepth 100000 in
theorem cb_X11_isDigit : (M_X11_isDigit).rw.all (rowB CLS MT TSS KD M_X11_isDigit (decide ((M_X11_isDigit).nm.name = "<init>")) ck_X11_isDigit) = true := by decide +kernel
set_option maxRecDepth 100000 in
theorem cw_X11_isDigit : ∀ w ∈ ckW CLS MT (M_X11_isDigit).nm.cls ck_X11_isDigit, w ∈ TW := tw_in [] (by decide +kernel) (by decide +kernel)
set_option maxRecDepth 100000 in
theorem ch_X11_isDigit : ∀ w ∈ hdW M_X11_isDigit, w ∈ TW := fun w h => nomatch h
set_option maxRecDepth 100000 in
theorem ok_X11_isDigit : methOK CLS MT TSS M_X11_isDigit := meth_ok (k := ck_X11_isDigit) (kd := 0) hG_all prim_in inst_in cw_X11_isDigit cb_X11_isDigit (own4 (M_X11_isDigit, 0) (List.mem_of_getElem? (i := 13) rfl)).1 (own4 (M_X11_isDigit, 0) (List.mem_of_getElem? (i := 13) rfl)).2 (by decide +kernel) ch_X11_isDigit (fun wd _ r hr => noThr_ok (by decide +kernel) wd TSS hr)
set_option maxRecDepth 100000 in
theorem cb_X11_word : (M_X11_word).rw.all (rowB CLS MT TSS KD M_X11_word (decide ((M_X11_word).nm.name = "<init>")) ck_X11_word) = true := by decide +kernel
set_option maxRecDepth 100000 in
theorem cw_X11_word : ∀ w ∈ ckW CLS MT (M_X11_word).nm.cls ck_X11_word, w ∈ TW := tw_in [(12, 184), (12, 183), (12, 189), (13, 138), (13, 146)] (by decide +kernel) (by decide +kernel)
set_option maxRecDepth 100000 in
theorem ch_X11_word : ∀ w ∈ hdW M_X11_word, w ∈ TW := fun w h => nomatch h
set_option maxRecDepth 100000 in
theorem ok_X11_word : methOK CLS MT TSS M_X11_word := meth_ok (k := ck_X11_word) (kd := 1) hG_all prim_in inst_in cw_X11_word cb_X11_word (own4 (M_X11_word, 1) (List.mem_of_getElem? (i := 14) rfl)).1 (own4 (M_X11_word, 1) (List.mem_of_getElem? (i := 14) rfl)).2 (by decide +kernel) ch_X11_word (fun wd _ r hr => noThr_ok (by decide +kernel) wd TSS hr)
set_option maxRecDepth 100000 in
theorem cb_X11_of : (M_X11_of).rw.all (rowB CLS MT TSS KD M_X11_of (decide ((M_X11_of).nm.name = "<init>")) ck_X11_of) = true := by decide +kernel
set_option maxRecDepth 100000 in
theorem cw_X11_of : ∀ w ∈ ckW CLS MT (M_X11_of).nm.cls ck_X11_of, w ∈ TW := tw_in [(13, 154), (13, 155)] (by decide +kernel) (by decide +kernel)
set_option maxRecDepth 100000 in
theorem ch_X11_of : ∀ w ∈ hdW M_X11_of, w ∈ TW := fun w h => nomatch h
set_option maxRecDepth 100000 in
theorem ok_X11_of : methOK CLS MT TSS M_X11_of := meth_ok (k := ck_X11_of) (kd := 0) hG_all prim_in inst_in cw_X11_of cb_X11_of (own4 (M_X11_of, 0) (List.mem_of_getElem? (i := 15) rfl)).1 (own4 (M_X11_of, 0) (List.mem_of_getElem? (i := 15) rfl)).2 (by decide +kernel) ch_X11_of (fun wd _ r hr => noThr_ok (by decide +kernel) wd TSS hr)
set_option maxRecDepth 100000 in
theorem cb_X11_pass : (M_X11_pass).rw.all (rowB CLS MT TSS KD M_X11_pass (decide ((M_X11_pass).nm.name = "<init>")) ck_X11_pass) = true := by decide +kernel
set_option maxRecDepth 100000 in
theorem cw_X11_pass : ∀ w ∈ ckW CLS MT (M_X11_pass).nm.cls ck_X11_pass, w ∈ TW := tw_in [(12, 184), (12, 183), (12, 189), (13, 146)] (by decide +kernel) (by decide +kernel)
set_option maxRecDepth 100000 in
theorem ch_X11_pass : ∀ w ∈ hdW M_X11_pass, w ∈ TW := fun w h => nomatch h
set_option maxRecDepth 100000 in
theorem ok_X11_pass : methOK CLS MT TSS M_X11_pass := meth_ok (k := ck_X11_pass) (kd := 1) hG_all prim_in inst_in cw_X11_pass cb_X11_pass (own4 (M_X11_pass, 1) (List.mem_of_getElem? (i := 16) rfl)).1 (own4 (M_X11_pass, 1) (List.mem_of_getElem? (i := 16) rfl)).2 (by decide +kernel) ch_X11_pass (fun wd _ r hr => noThr_ok (by decide +kernel) wd TSS hr)
set_option maxRecDepth 100000 in
theorem cb_X11_readNumber : (M_X11_readNumber).rw.all (rowB CLS MT TSS KD M_X11_readNumber (decide ((M_X11_readNumber).nm.name = "<init>")) ck_X11_readNumber) = true := by decide +kernel
set_option maxRecDepth 100000 in
theorem cw_X11_readNumber : ∀ w ∈ ckW CLS MT (M_X11_readNumber).nm.cls ck_X11_readNumber, w ∈ TW := tw_in [(12, 184), (12, 183), (12, 189), (13, 130), (13, 138), (13, 185), (13, 165)] (by decide +kernel) (by decide +kernel)
set_option maxRecDepth 100000 in
theorem ch_X11_readNumber : ∀ w ∈ hdW M_X11_readNumber, w ∈ TW := fun w h => nomatch h
set_option maxRecDepth 100000 in
theorem ok_X11_readNumber : methOK CLS MT TSS M_X11_readNumber := meth_ok (k := ck_X11_readNumber) (kd := 1) hG_all prim_in inst_in cw_X11_readNumber cb_X11_readNumber (own4 (M_X11_readNumber, 1) (List.mem_of_getElem? (i := 17) rfl)).1 (own4 (M_X11_readNumber, 1) (List.mem_of_getElem? (i := 17) rfl)).2 (by decide +kernel) ch_X11_readNumber (fun wd _ r hr => noThr_ok (by decide +kernel) wd TSS hr)
set_option maxRecDepth 100000 in
theorem cb_X11_sign : (M_X11_sign).rw.all (rowB CLS MT TSS KD M_X11_sign (decide ((M_X11_sign).nm.name = "<init>")) ck_X11_sign) = true := by decide +kernel
set_option maxRecDepth 100000 in
theorem cw_X11_sign : ∀ w ∈ ckW CLS MT (M_X11_sign).nm.cls ck_X11_sign, w ∈ TW := tw_in [(12, 184), (13, 130), (13, 138), (13, 165)] (by decide +kernel) (by decide +kernel)
set_option maxRecDepth 100000 in
theorem ch_X11_sign : ∀ w ∈ hdW M_X11_sign, w ∈ TW := fun w h => nomatch h
set_option maxRecDepth 100000 in
theorem ok_X11_sign : methOK CLS MT TSS M_X11_sign := meth_ok (k := ck_X11_sign) (kd := 1) hG_all prim_in inst_in cw_X11_sign cb_X11_sign (own4 (M_X11_sign, 1) (List.mem_of_getElem? (i := 18) rfl)).1 (own4 (M_X11_sign, 1) (List.mem_of_getElem? (i := 18) rfl)).2 (by decide +kernel) ch_X11_sign (fun wd _ r hr => noThr_ok (by decide +kernel) wd TSS hr)
set_option maxRecDepth 100000 in
theorem cb_X11_isMore : (M_X11_isMore).rw.all (rowB CLS MT TSS KD M_X11_isMore (decide ((M_X11_isMore).nm.name = "<init>")) ck_X11_isMore) = true := by decide +kernel
set_option maxRecDepth 100000 in
theorem cw_X11_isMore : ∀ w ∈ ckW CLS MT (M_X11_isMore).nm.cls ck_X11_isMore, w ∈ TW := tw_in [(12, 184), (12, 183), (13, 138)] (by decide +kernel) (by decide +kernel)
set_option maxRecDepth 100000 in
theorem ch_X11_isMore : ∀ w ∈ hdW M_X11_isMore, w ∈ TW := fun w h => nomatch h
set_option maxRecDepth 100000 in
theorem ok_X11_isMore : methOK CLS MT TSS M_X11_isMore := meth_ok (k := ck_X11_isMore) (kd := 1) hG_all prim_in inst_in cw_X11_isMore cb_X11_isMore (own4 (M_X11_isMore, 1) (List.mem_of_getElem? (i := 19) rfl)).1 (own4 (M_X11_isMore, 1) (List.mem_of_getElem? (i := 19) rfl)).2 (by decide +kernel) ch_X11_isMore (fun wd _ r hr => noThr_ok (by decide +kernel) wd TSS hr)
set_option maxRecDepth 100000 in
theorem cb_X11_begins : (M_X11_begins).rw.all (rowB CLS MT TSS KD M_X11_begins (decide ((M_X11_begins).nm.name = "<init>")) ck_X11_begins) = true := by decide +kernel
set_option maxRecDepth 100000 in
theorem cw_X11_begins : ∀ w ∈ ckW CLS MT (M_X11_begins).nm.cls ck_X11_begins, w ∈ TW := tw_in [(12, 182), (12, 188), (12, 183), (12, 184), (12, 185), (12, 187)] (by decide +kernel) (by decide +kernel)
set_option maxRecDepth 100000 in
theorem ch_X11_begins : ∀ w ∈ hdW M_X11_begins, w ∈ TW := fun w h => nomatch h
set_option maxRecDepth 100000 in
theorem ok_X11_begins : methOK CLS MT TSS M_X11_begins := meth_ok (k := ck_X11_begins) (kd := 1) hG_all prim_in inst_in cw_X11_begins cb_X11_begins (own4 (M_X11_begins, 1) (List.mem_of_getElem? (i := 20) rfl)).1 (own4 (M_X11_begins, 1) (List.mem_of_getElem? (i := 20) rfl)).2 (by decide +kernel) ch_X11_begins (fun wd _ r hr => noThr_ok (by decide +kernel) wd TSS hr)
set_option maxRecDepth 100000 in
theorem cb_X11_result : (M_X11_result).rw.all (rowB CLS MT TSS KD M_X11_result (decide ((M_X11_result).nm.name = "<init>")) ck_X11_result) = true := by decide +kernel
set_option maxRecDepth 100000 in
theorem cw_X11_result : ∀ w ∈ ckW CLS MT (M_X11_result).nm.cls ck_X11_result, w ∈ TW := tw_in [(12, 185), (12, 188), (12, 186), (13, 130)] (by decide +kernel) (by decide +kernel)
set_option maxRecDepth 100000 in
theorem ch_X11_result : ∀ w ∈ hdW M_X11_result, w ∈ TW := fun w h => nomatch h
set_option maxRecDepth 100000 in
theorem ok_X11_result : methOK CLS MT TSS M_X11_result := meth_ok (k := ck_X11_result) (kd := 1) hG_all prim_in inst_in cw_X11_result cb_X11_result (own4 (M_X11_result, 1) (List.mem_of_getElem? (i := 21) rfl)).1 (own4 (M_X11_result, 1) (List.mem_of_getElem? (i := 21) rfl)).2 (by decide +kernel) ch_X11_result (fun wd _ r hr => noThr_ok (by decide +kernel) wd TSS hr)
set_option maxRecDepth 100000 in
theorem cb_X11_fault : (M_X11_fault).rw.all (rowB CLS MT TSS KD M_X11_fault (decide ((M_X11_fault).nm.name = "<init>")) ck_X11_fault) = true := by decide +kernel
set_option maxRecDepth 100000 in
theorem cw_X11_fault : ∀ w ∈ ckW CLS MT (M_X11_fault).nm.cls ck_X11_fault, w ∈ TW := tw_in [(12, 180), (12, 188)] (by decide +kernel) (by decide +kernel)
set_option maxRecDepth 100000 in
theorem ch_X11_fault : ∀ w ∈ hdW M_X11_fault, w ∈ TW := fun w h => nomatch h
set_option maxRecDepth 100000 in
theorem ok_X11_fault : methOK CLS MT TSS M_X11_fault := meth_ok (k := ck_X11_fault) (kd := 1) hG_all prim_in inst_in cw_X11_fault cb_X11_fault (own4 (M_X11_fault, 1) (List.mem_of_getElem? (i := 22) rfl)).1 (own4 (M_X11_fault, 1) (List.mem_of_getElem? (i := 22) rfl)).2 (by decide +kernel) ch_X11_fault (fun wd _ r hr => noThr_ok (by decide +kernel) wd TSS hr)
set_option maxRecDepth 100000 in
theorem cb_X11_copies : (M_X11_copies).rw.all (rowB CLS MT TSS KD M_X11_copies (decide ((M_X11_copies).nm.name = "<init>")) ck_X11_copies) = true := by decide +kernel
set_option maxRecDepth 100000 in
theorem cw_X11_copies : ∀ w ∈ ckW CLS MT (M_X11_copies).nm.cls ck_X11_copies, w ∈ TW := tw_in [] (by decide +kernel) (by decide +kernel)
set_option maxRecDepth 100000 in
theorem ch_X11_copies : ∀ w ∈ hdW M_X11_copies, w ∈ TW := fun w h => nomatch h
set_option maxRecDepth 100000 in
theorem ok_X11_copies : methOK CLS MT TSS M_X11_copies := meth_ok (k := ck_X11_copies) (kd := 1) hG_all prim_in inst_in cw_X11_copies cb_X11_copies (own4 (M_X11_copies, 1) (List.mem_of_getElem? (i := 23) rfl)).1 (own4 (M_X11_copies, 1) (List.mem_of_getElem? (i := 23) rfl)).2 (by decide +kernel) ch_X11_copies (fun wd _ r hr => noThr_ok (by decide +kernel) wd TSS hr)
set_option maxRecDepth 100000 in
theorem cb_X11_clears : (M_X11_clears).rw.all (rowB CLS MT TSS KD M_X11_clears (decide ((M_X11_clears).nm.name = "<init>")) ck_X11_clears) = true := by decide +kernel
set_option maxRecDepth 100000 in
theorem cw_X11_clears : ∀ w ∈ ckW CLS MT (M_X11_clears).nm.cls ck_X11_clears, w ∈ TW := tw_in [(12, 198), (12, 199), (12, 200), (12, 201)] (by decide +kernel) (by decide +kernel)
set_option maxRecDepth 100000 in
theorem ch_X11_clears : ∀ w ∈ hdW M_X11_clears, w ∈ TW := fun w h => nomatch h
set_option maxRecDepth 100000 in
theorem ok_X11_clears : methOK CLS MT TSS M_X11_clears := meth_ok (k := ck_X11_clears) (kd := 1) hG_all prim_in inst_in cw_X11_clears cb_X11_clears (own4 (M_X11_clears, 1) (List.mem_of_getElem? (i := 24) rfl)).1 (own4 (M_X11_clears, 1) (List.mem_of_getElem? (i := 24) rfl)).2 (by decide +kernel) ch_X11_clears (fun wd _ r hr => noThr_ok (by decide +kernel) wd TSS hr)
set_option maxRecDepth 100000 in
theorem cb_X11_sets : (M_X11_sets).rw.all (rowB CLS MT TSS KD M_X11_sets (decide ((M_X11_sets).nm.name = "<init>")) ck_X11_sets) = true := by decide +kernel
set_option maxRecDepth 100000 in
theorem cw_X11_sets : ∀ w ∈ ckW CLS MT (M_X11_sets).nm.cls ck_X11_sets, w ∈ TW := tw_in [(12, 198), (12, 202), (12, 199), (12, 203), (12, 200), (12, 204), (12, 201), (12, 205), (12, 190), (12, 194), (12, 191), (12, 195), (12, 192), (12, 196), (12, 193), (12, 197), (12, 212), (12, 227), (12, 217), (12, 235), (12, 218), (12, 226), (12, 222), (12, 176)] (by decide +kernel) (by decide +kernel)
set_option maxRecDepth 100000 in
theorem ch_X11_sets : ∀ w ∈ hdW M_X11_sets, w ∈ TW := fun w h => nomatch h
set_option maxRecDepth 100000 in
theorem ok_X11_sets : methOK CLS MT TSS M_X11_sets := meth_ok (k := ck_X11_sets) (kd := 1) hG_all prim_in inst_in cw_X11_sets cb_X11_sets (own4 (M_X11_sets, 1) (List.mem_of_getElem? (i := 25) rfl)).1 (own4 (M_X11_sets, 1) (List.mem_of_getElem? (i := 25) rfl)).2 (by decide +kernel) ch_X11_sets (fun wd _ r hr => noThr_ok (by decide +kernel) wd TSS hr)
set_option maxRecDepth 100000 in
theorem cb_X11_rowOf : (M_X11_rowOf).rw.all (rowB CLS MT TSS KD M_X11_rowOf (decide ((M_X11_rowOf).nm.name = "<init>")) ck_X11_rowOf) = true := by decide +kernel
set_option maxRecDepth 100000 in
theorem cw_X11_rowOf : ∀ w ∈ ckW CLS MT (M_X11_rowOf).nm.cls ck_X11_rowOf, w ∈ TW := tw_in [(13, 160)] (by decide +kernel) (by decide +kernel)
set_option maxRecDepth 100000 in
theorem ch_X11_rowOf : ∀ w ∈ hdW M_X11_rowOf, w ∈ TW := fun w h => nomatch h
set_option maxRecDepth 100000 in
theorem ok_X11_rowOf : methOK CLS MT TSS M_X11_rowOf := meth_ok (k := ck_X11_rowOf) (kd := 0) hG_all prim_in inst_in cw_X11_rowOf cb_X11_rowOf (own4 (M_X11_rowOf, 0) (List.mem_of_getElem? (i := 26) rfl)).1 (own4 (M_X11_rowOf, 0) (List.mem_of_getElem? (i := 26) rfl)).2 (by decide +kernel) ch_X11_rowOf (fun wd _ r hr => noThr_ok (by decide +kernel) wd TSS hr)
set_option maxRecDepth 100000 in
theorem cb_X11_standsHere : (M_X11_standsHere).rw.all (rowB CLS MT TSS KD M_X11_standsHere (decide ((M_X11_standsHere).nm.name = "<init>")) ck_X11_standsHere) = true := by decide +kernel
set_option maxRecDepth 100000 in
theorem cw_X11_standsHere : ∀ w ∈ ckW CLS MT (M_X11_standsHere).nm.cls ck_X11_standsHere, w ∈ TW := tw_in [(12, 184), (12, 183), (12, 189), (13, 138), (13, 154), (13, 155), (13, 146)] (by decide +kernel) (by decide +kernel)
set_option maxRecDepth 100000 in
theorem ch_X11_standsHere : ∀ w ∈ hdW M_X11_standsHere, w ∈ TW := fun w h => nomatch h
set_option maxRecDepth 100000 in
theorem ok_X11_standsHere : methOK CLS MT TSS M_X11_standsHere := meth_ok (k := ck_X11_standsHere) (kd := 1) hG_all prim_in inst_in cw_X11_standsHere cb_X11_standsHere (own4 (M_X11_standsHere, 1) (List.mem_of_getElem? (i := 27) rfl)).1 (own4 (M_X11_standsHere, 1) (List.mem_of_getElem? (i := 27) rfl)).2 (by decide +kernel) ch_X11_standsHere (fun wd _ r hr => noThr_ok (by decide +kernel) wd TSS hr)
set_option maxRecDepth 100000 in
theorem cb_X11_isFull : (M_X11_isFull).rw.all (rowB CLS MT TSS KD M_X11_isFull (decide ((M_X11_isFull).nm.name = "<init>")) ck_X11_isFull) = true := by decide +kernel
set_option maxRecDepth 100000 in
theorem cw_X11_isFull : ∀ w ∈ ckW CLS MT (M_X11_isFull).nm.cls ck_X11_isFull, w ∈ TW := tw_in [(12, 198), (12, 199), (12, 200), (12, 201)] (by decide +kernel) (by decide +kernel)
set_option maxRecDepth 100000 in
theorem ch_X11_isFull : ∀ w ∈ hdW M_X11_isFull, w ∈ TW := fun w h => nomatch h
set_option maxRecDepth 100000 in
theorem ok_X11_isFull : methOK CLS MT TSS M_X11_isFull := meth_ok (k := ck_X11_isFull) (kd := 1) hG_all prim_in inst_in cw_X11_isFull cb_X11_isFull (own4 (M_X11_isFull, 1) (List.mem_of_getElem? (i := 28) rfl)).1 (own4 (M_X11_isFull, 1) (List.mem_of_getElem? (i := 28) rfl)).2 (by decide +kernel) ch_X11_isFull (fun wd _ r hr => noThr_ok (by decide +kernel) wd TSS hr)
set_option maxRecDepth 100000 in
theorem cb_X11_readRow : (M_X11_readRow).rw.all (rowB CLS MT TSS KD M_X11_readRow (decide ((M_X11_readRow).nm.name = "<init>")) ck_X11_readRow) = true := by decide +kernel
set_option maxRecDepth 100000 in
theorem cw_X11_readRow : ∀ w ∈ ckW CLS MT (M_X11_readRow).nm.cls ck_X11_readRow, w ∈ TW := tw_in [(12, 190), (12, 198), (12, 191), (12, 199), (12, 192), (12, 200), (12, 193), (12, 201), (13, 181)] (by decide +kernel) (by decide +kernel)
set_option maxRecDepth 100000 in
theorem ch_X11_readRow : ∀ w ∈ hdW M_X11_readRow, w ∈ TW := fun w h => nomatch h
set_option maxRecDepth 100000 in
theorem ok_X11_readRow : methOK CLS MT TSS M_X11_readRow := meth_ok (k := ck_X11_readRow) (kd := 1) hG_all prim_in inst_in cw_X11_readRow cb_X11_readRow (own4 (M_X11_readRow, 1) (List.mem_of_getElem? (i := 29) rfl)).1 (own4 (M_X11_readRow, 1) (List.mem_of_getElem? (i := 29) rfl)).2 (by decide +kernel) ch_X11_readRow (fun wd _ r hr => noThr_ok (by decide +kernel) wd TSS hr)
set_option maxRecDepth 100000 in
theorem cb_X11_court : (M_X11_court).rw.all (rowB CLS MT TSS KD M_X11_court (decide ((M_X11_court).nm.name = "<init>")) ck_X11_court) = true := by decide +kernel
set_option maxRecDepth 100000 in
theorem cw_X11_court : ∀ w ∈ ckW CLS MT (M_X11_court).nm.cls ck_X11_court, w ∈ TW := tw_in [(12, 180), (12, 182), (12, 184), (12, 198), (12, 185), (13, 122), (13, 126), (12, 168), (13, 130), (13, 134), (13, 142), (13, 150), (13, 156), (13, 165), (13, 169), (13, 173), (13, 177), (13, 188), (13, 192), (12, 172)] (by decide +kernel) (by decide +kernel)
set_option maxRecDepth 100000 in
theorem ch_X11_court : ∀ w ∈ hdW M_X11_court, w ∈ TW := fun w h => nomatch h
set_option maxRecDepth 100000 in
theorem ok_X11_court : methOK CLS MT TSS M_X11_court := meth_ok (k := ck_X11_court) (kd := 1) hG_all prim_in inst_in cw_X11_court cb_X11_court (own4 (M_X11_court, 1) (List.mem_of_getElem? (i := 30) rfl)).1 (own4 (M_X11_court, 1) (List.mem_of_getElem? (i := 30) rfl)).2 (by decide +kernel) ch_X11_court (fun wd _ r hr => noThr_ok (by decide +kernel) wd TSS hr)
set_option maxRecDepth 100000 in
theorem cb_X11_emit : (M_X11_emit).rw.all (rowB CLS MT TSS KD M_X11_emit (decide ((M_X11_emit).nm.name = "<init>")) ck_X11_emit) = true := by decide +kernel
set_option maxRecDepth 100000 in
theorem cw_X11_emit : ∀ w ∈ ckW CLS MT (M_X11_emit).nm.cls ck_X11_emit, w ∈ TW := tw_in [(12, 206), (12, 211), (12, 207), (13, 130)] (by decide +kernel) (by decide +kernel)
set_option maxRecDepth 100000 in
theorem ch_X11_emit : ∀ w ∈ hdW M_X11_emit, w ∈ TW := fun w h => nomatch h
set_option maxRecDepth 100000 in
theorem ok_X11_emit : methOK CLS MT TSS M_X11_emit := meth_ok (k := ck_X11_emit) (kd := 1) hG_all prim_in inst_in cw_X11_emit cb_X11_emit (own4 (M_X11_emit, 1) (List.mem_of_getElem? (i := 31) rfl)).1 (own4 (M_X11_emit, 1) (List.mem_of_getElem? (i := 31) rfl)).2 (by decide +kernel) ch_X11_emit (fun wd _ r hr => noThr_ok (by decide +kernel) wd TSS hr)
set_option maxRecDepth 100000 in
theorem cb_X11_opensOne : (M_X11_opensOne).rw.all (rowB CLS MT TSS KD M_X11_opensOne (decide ((M_X11_opensOne).nm.name = "<init>")) ck_X11_opensOne) = true := by decide +kernel
set_option maxRecDepth 100000 in
theorem cw_X11_opensOne : ∀ w ∈ ckW CLS MT (M_X11_opensOne).nm.cls ck_X11_opensOne, w ∈ TW := tw_in [(12, 187), (12, 184), (13, 130), (13, 165)] (by decide +kernel) (by decide +kernel)
set_option maxRecDepth 100000 in
theorem ch_X11_opensOne : ∀ w ∈ hdW M_X11_opensOne, w ∈ TW := fun w h => nomatch h
set_option maxRecDepth 100000 in
theorem ok_X11_opensOne : methOK CLS MT TSS M_X11_opensOne := meth_ok (k := ck_X11_opensOne) (kd := 1) hG_all prim_in inst_in cw_X11_opensOne cb_X11_opensOne (own4 (M_X11_opensOne, 1) (List.mem_of_getElem? (i := 32) rfl)).1 (own4 (M_X11_opensOne, 1) (List.mem_of_getElem? (i := 32) rfl)).2 (by decide +kernel) ch_X11_opensOne (fun wd _ r hr => noThr_ok (by decide +kernel) wd TSS hr)
set_option maxRecDepth 100000 in
theorem cb_X11_readSum : (M_X11_readSum).rw.all (rowB CLS MT TSS KD M_X11_readSum (decide ((M_X11_readSum).nm.name = "<init>")) ck_X11_readSum) = true := by decide +kernel
set_option maxRecDepth 100000 in
theorem cw_X11_readSum : ∀ w ∈ ckW CLS MT (M_X11_readSum).nm.cls ck_X11_readSum, w ∈ TW := tw_in [(12, 184), (13, 204), (13, 130), (13, 138), (13, 216)] (by decide +kernel) (by decide +kernel)
set_option maxRecDepth 100000 in
theorem ch_X11_readSum : ∀ w ∈ hdW M_X11_readSum, w ∈ TW := fun w h => nomatch h
set_option maxRecDepth 100000 in
theorem ok_X11_readSum : methOK CLS MT TSS M_X11_readSum := meth_ok (k := ck_X11_readSum) (kd := 1) hG_all prim_in inst_in cw_X11_readSum cb_X11_readSum (own4 (M_X11_readSum, 1) (List.mem_of_getElem? (i := 33) rfl)).1 (own4 (M_X11_readSum, 1) (List.mem_of_getElem? (i := 33) rfl)).2 (by decide +kernel) ch_X11_readSum (fun wd _ r hr => noThr_ok (by decide +kernel) wd TSS hr)
set_option maxRecDepth 100000 in
theorem cb_X11_readProduct : (M_X11_readProduct).rw.all (rowB CLS MT TSS KD M_X11_readProduct (decide ((M_X11_readProduct).nm.name = "<init>")) ck_X11_readProduct) = true := by decide +kernel
set_option maxRecDepth 100000 in
theorem cw_X11_readProduct : ∀ w ∈ ckW CLS MT (M_X11_readProduct).nm.cls ck_X11_readProduct, w ∈ TW := tw_in [(12, 184), (13, 208), (13, 130), (13, 138), (13, 216)] (by decide +kernel) (by decide +kernel)
set_option maxRecDepth 100000 in
theorem ch_X11_readProduct : ∀ w ∈ hdW M_X11_readProduct, w ∈ TW := fun w h => nomatch h
set_option maxRecDepth 100000 in
theorem ok_X11_readProduct : methOK CLS MT TSS M_X11_readProduct := meth_ok (k := ck_X11_readProduct) (kd := 1) hG_all prim_in inst_in cw_X11_readProduct cb_X11_readProduct (own4 (M_X11_readProduct, 1) (List.mem_of_getElem? (i := 34) rfl)).1 (own4 (M_X11_readProduct, 1) (List.mem_of_getElem? (i := 34) rfl)).2 (by decide +kernel) ch_X11_readProduct (fun wd _ r hr => noThr_ok (by decide +kernel) wd TSS hr)
set_option maxRecDepth 100000 in
theorem cb_X11_readTwo : (M_X11_readTwo).rw.all (rowB CLS MT TSS KD M_X11_readTwo (decide ((M_X11_readTwo).nm.name = "<init>")) ck_X11_readTwo) = true := by decide +kernel
set_option maxRecDepth 100000 in
theorem cw_X11_readTwo : ∀ w ∈ ckW CLS MT (M_X11_readTwo).nm.cls ck_X11_readTwo, w ∈ TW := tw_in [(12, 187), (13, 212), (13, 188), (13, 200), (13, 216)] (by decide +kernel) (by decide +kernel)
set_option maxRecDepth 100000 in
theorem ch_X11_readTwo : ∀ w ∈ hdW M_X11_readTwo, w ∈ TW := fun w h => nomatch h
set_option maxRecDepth 100000 in
theorem ok_X11_readTwo : methOK CLS MT TSS M_X11_readTwo := meth_ok (k := ck_X11_readTwo) (kd := 1) hG_all prim_in inst_in cw_X11_readTwo cb_X11_readTwo (own4 (M_X11_readTwo, 1) (List.mem_of_getElem? (i := 35) rfl)).1 (own4 (M_X11_readTwo, 1) (List.mem_of_getElem? (i := 35) rfl)).2 (by decide +kernel) ch_X11_readTwo (fun wd _ r hr => noThr_ok (by decide +kernel) wd TSS hr)
set_option maxRecDepth 100000 in
theorem cb_X11_factHere : (M_X11_factHere).rw.all (rowB CLS MT TSS KD M_X11_factHere (decide ((M_X11_factHere).nm.name = "<init>")) ck_X11_factHere) = true := by decide +kernel
set_option maxRecDepth 100000 in
theorem cw_X11_factHere : ∀ w ∈ ckW CLS MT (M_X11_factHere).nm.cls ck_X11_factHere, w ∈ TW := tw_in [(13, 142), (13, 160)] (by decide +kernel) (by decide +kernel)
set_option maxRecDepth 100000 in
theorem ch_X11_factHere : ∀ w ∈ hdW M_X11_factHere, w ∈ TW := fun w h => nomatch h
set_option maxRecDepth 100000 in
theorem ok_X11_factHere : methOK CLS MT TSS M_X11_factHere := meth_ok (k := ck_X11_factHere) (kd := 1) hG_all prim_in inst_in cw_X11_factHere cb_X11_factHere (own4 (M_X11_factHere, 1) (List.mem_of_getElem? (i := 36) rfl)).1 (own4 (M_X11_factHere, 1) (List.mem_of_getElem? (i := 36) rfl)).2 (by decide +kernel) ch_X11_factHere (fun wd _ r hr => noThr_ok (by decide +kernel) wd TSS hr)
set_option maxRecDepth 100000 in
theorem cb_X11_readUnit : (M_X11_readUnit).rw.all (rowB CLS MT TSS KD M_X11_readUnit (decide ((M_X11_readUnit).nm.name = "<init>")) ck_X11_readUnit) = true := by decide +kernel
set_option maxRecDepth 100000 in
theorem cw_X11_readUnit : ∀ w ∈ ckW CLS MT (M_X11_readUnit).nm.cls ck_X11_readUnit, w ∈ TW := tw_in [(12, 187), (12, 184), (13, 130), (13, 138), (13, 212), (13, 200), (13, 188), (13, 185), (13, 181), (13, 216), (13, 142), (13, 160), (13, 221), (13, 226), (13, 165), (13, 173)] (by decide +kernel) (by decide +kernel)
set_option maxRecDepth 100000 in
theorem ch_X11_readUnit : ∀ w ∈ hdW M_X11_readUnit, w ∈ TW := fun w h => nomatch h
set_option maxRecDepth 100000 in
theorem ok_X11_readUnit : methOK CLS MT TSS M_X11_readUnit := meth_ok (k := ck_X11_readUnit) (kd := 1) hG_all prim_in inst_in cw_X11_readUnit cb_X11_readUnit (own4 (M_X11_readUnit, 1) (List.mem_of_getElem? (i := 37) rfl)).1 (own4 (M_X11_readUnit, 1) (List.mem_of_getElem? (i := 37) rfl)).2 (by decide +kernel) ch_X11_readUnit (fun wd _ r hr => noThr_ok (by decide +kernel) wd TSS hr)
set_option maxRecDepth 100000 in
theorem cb_X11_law : (M_X11_law).rw.all (rowB CLS MT TSS KD M_X11_law (decide ((M_X11_law).nm.name = "<init>")) ck_X11_law) = true := by decide +kernel
set_option maxRecDepth 100000 in
theorem cw_X11_law : ∀ w ∈ ckW CLS MT (M_X11_law).nm.cls ck_X11_law, w ∈ TW := tw_in [(12, 180), (12, 182), (12, 211), (12, 184), (12, 185), (12, 212), (12, 206), (12, 208), (12, 207), (12, 209), (13, 122), (13, 126), (13, 200), (13, 130), (13, 134), (13, 165), (13, 192), (12, 176)] (by decide +kernel) (by decide +kernel)
set_option maxRecDepth 100000 in
theorem ch_X11_law : ∀ w ∈ hdW M_X11_law, w ∈ TW := fun w h => nomatch h
set_option maxRecDepth 100000 in
theorem ok_X11_law : methOK CLS MT TSS M_X11_law := meth_ok (k := ck_X11_law) (kd := 1) hG_all prim_in inst_in cw_X11_law cb_X11_law (own4 (M_X11_law, 1) (List.mem_of_getElem? (i := 38) rfl)).1 (own4 (M_X11_law, 1) (List.mem_of_getElem? (i := 38) rfl)).2 (by decide +kernel) ch_X11_law (fun wd _ r hr => noThr_ok (by decide +kernel) wd TSS hr)
set_option maxRecDepth 100000 in
theorem cb_X11_valueNow : (M_X11_valueNow).rw.all (rowB CLS MT TSS KD M_X11_valueNow (decide ((M_X11_valueNow).nm.name = "<init>")) ck_X11_valueNow) = true := by decide +kernel
set_option maxRecDepth 100000 in
theorem cw_X11_valueNow : ∀ w ∈ ckW CLS MT (M_X11_valueNow).nm.cls ck_X11_valueNow, w ∈ TW := tw_in [(12, 212), (12, 208), (12, 210), (12, 209), (12, 213), (14, 87)] (by decide +kernel) (by decide +kernel)
set_option maxRecDepth 100000 in
theorem ch_X11_valueNow : ∀ w ∈ hdW M_X11_valueNow, w ∈ TW := fun w h => nomatch h
set_option maxRecDepth 100000 in
theorem ok_X11_valueNow : methOK CLS MT TSS M_X11_valueNow := meth_ok (k := ck_X11_valueNow) (kd := 1) hG_all prim_in inst_in cw_X11_valueNow cb_X11_valueNow (own4 (M_X11_valueNow, 1) (List.mem_of_getElem? (i := 39) rfl)).1 (own4 (M_X11_valueNow, 1) (List.mem_of_getElem? (i := 39) rfl)).2 (by decide +kernel) ch_X11_valueNow (fun wd _ r hr => noThr_ok (by decide +kernel) wd TSS hr)
set_option maxRecDepth 100000 in
theorem cb_X11_both : (M_X11_both).rw.all (rowB CLS MT TSS KD M_X11_both (decide ((M_X11_both).nm.name = "<init>")) ck_X11_both) = true := by decide +kernel
set_option maxRecDepth 100000 in
theorem cw_X11_both : ∀ w ∈ ckW CLS MT (M_X11_both).nm.cls ck_X11_both, w ∈ TW := tw_in [] (by decide +kernel) (by decide +kernel)
set_option maxRecDepth 100000 in
theorem ch_X11_both : ∀ w ∈ hdW M_X11_both, w ∈ TW := fun w h => nomatch h
set_option maxRecDepth 100000 in
theorem ok_X11_both : methOK CLS MT TSS M_X11_both := meth_ok (k := ck_X11_both) (kd := 0) hG_all prim_in inst_in cw_X11_both cb_X11_both (own4 (M_X11_both, 0) (List.mem_of_getElem? (i := 40) rfl)).1 (own4 (M_X11_both, 0) (List.mem_of_getElem? (i := 40) rfl)).2 (by decide +kernel) ch_X11_both (fun wd _ r hr => noThr_ok (by decide +kernel) wd TSS hr)
set_option maxRecDepth 100000 in
theorem okc4 : ∀ q ∈ MTK4, methOK CLS MT TSS q.1 := List.forall_mem_cons.mpr ⟨ok_X10_power, List.forall_mem_cons.mpr ⟨ok_X10_waysToChoose, List.forall_mem_cons.mpr ⟨ok_X10_gain, List.forall_mem_cons.mpr ⟨ok_X10_isRest, List.forall_mem_cons.mpr ⟨ok_X11_thrown, List.forall_mem_cons.mpr ⟨ok_X11_may, List.forall_mem_cons.mpr ⟨ok_X11_within, List.forall_mem_cons.mpr ⟨ok_X11_init, List.forall_mem_cons.mpr ⟨ok_X11_feed, List.forall_mem_cons.mpr ⟨ok_X11_fine, List.forall_mem_cons.mpr ⟨ok_X11_wrong, List.forall_mem_cons.mpr ⟨ok_X11_here, List.forall_mem_cons.mpr ⟨ok_X11_isSmall, List.forall_mem_cons.mpr ⟨ok_X11_isDigit, List.forall_mem_cons.mpr ⟨ok_X11_word, List.forall_mem_cons.mpr ⟨ok_X11_of, List.forall_mem_cons.mpr ⟨ok_X11_pass, List.forall_mem_cons.mpr ⟨ok_X11_readNumber, List.forall_mem_cons.mpr ⟨ok_X11_sign, List.forall_mem_cons.mpr ⟨ok_X11_isMore, List.forall_mem_cons.mpr ⟨ok_X11_begins, List.forall_mem_cons.mpr ⟨ok_X11_result, List.forall_mem_cons.mpr ⟨ok_X11_fault, List.forall_mem_cons.mpr ⟨ok_X11_copies, List.forall_mem_cons.mpr ⟨ok_X11_clears, List.forall_mem_cons.mpr ⟨ok_X11_sets, List.forall_mem_cons.mpr ⟨ok_X11_rowOf, List.forall_mem_cons.mpr ⟨ok_X11_standsHere, List.forall_mem_cons.mpr ⟨ok_X11_isFull, List.forall_mem_cons.mpr ⟨ok_X11_readRow, List.forall_mem_cons.mpr ⟨ok_X11_court, List.forall_mem_cons.mpr ⟨ok_X11_emit, List.forall_mem_cons.mpr ⟨ok_X11_opensOne, List.forall_mem_cons.mpr ⟨ok_X11_readSum, List.forall_mem_cons.mpr ⟨ok_X11_readProduct, List.forall_mem_cons.mpr ⟨ok_X11_readTwo, List.forall_mem_cons.mpr ⟨ok_X11_factHere, List.forall_mem_cons.mpr ⟨ok_X11_readUnit, List.forall_mem_cons.mpr ⟨ok_X11_law, List.forall_mem_cons.mpr ⟨ok_X11_valueNow, List.forall_mem_cons.mpr ⟨ok_X11_both, fun _ h => nomatch h⟩⟩⟩⟩⟩⟩⟩⟩⟩⟩⟩⟩⟩⟩⟩⟩⟩⟩⟩⟩⟩⟩⟩⟩⟩⟩⟩⟩⟩⟩⟩⟩⟩⟩⟩⟩⟩⟩⟩⟩⟩
