/-! What is checked of all. -/
set_option maxRecDepth 100000 in
theorem prim_in : ∀ w ∈ primW, w ∈ TW := tw_in [(8, 228), (9, 10), (7, 21), (8, 229), (9, 11), (7, 30), (7, 31), (7, 48), (13, 109)] (by decide +kernel) (by decide +kernel)
set_option maxRecDepth 100000 in
theorem inst_in : ∀ w ∈ instW CLS, w ∈ TW := tw_in [(7, 182), (7, 6), (7, 82), (7, 4), (7, 233), (7, 8), (7, 157), (7, 5), (8, 39), (7, 9), (7, 197), (7, 7), (7, 33), (7, 2), (7, 39), (7, 3), (8, 65), (7, 10), (8, 108), (7, 11), (7, 25), (7, 1), (12, 163), (7, 12)] (by decide +kernel) (by decide +kernel)
def ownP (q : MI × Nat) : Prop := ownB CLS q.1 q.2 = true ∧ codeW q.1 ∈ TW ∧ ∀ w ∈ ownW q.1 q.2, w ∈ TW
set_option maxRecDepth 100000 in
theorem ownb0 : MTK0.all (fun q => ownB CLS q.1 q.2) = true := by decide +kernel
set_option maxRecDepth 100000 in
theorem ownw0 : ∀ w ∈ MTK0.flatMap (fun q => ownW q.1 q.2), w ∈ TW := tw_in [(7, 6), (7, 184), (7, 6), (10, 109), (10, 110), (7, 6), (11, 56), (11, 57), (7, 6), (11, 40), (11, 41), (7, 6), (11, 47), (1, 10), (7, 6), (11, 203), (11, 204), (7, 4), (7, 84), (7, 4), (9, 234), (9, 235), (7, 4), (10, 3), (0, 8), (7, 4), (10, 60), (0, 9), (7, 4), (10, 78), (0, 10), (7, 4), (10, 83), (0, 11), (7, 4), (10, 88), (0, 12), (7, 4), (10, 100), (10, 101), (7, 4), (9, 73), (9, 74), (7, 4), (8, 214), (8, 215), (7, 4), (12, 54), (12, 55), (7, 4), (12, 58), (12, 59), (7, 4), (12, 28), (12, 29), (7, 4), (9, 47), (9, 48), (7, 4), (9, 52), (0, 2), (7, 4), (9, 86), (9, 87), (7, 4), (9, 43), (9, 44), (7, 8), (7, 235), (7, 8), (10, 117), (10, 118), (7, 8), (12, 134), (12, 135), (7, 8), (9, 104), (9, 105), (7, 8), (8, 192), (8, 193), (7, 8), (8, 206), (8, 207), (7, 8), (8, 211), (0, 0), (7, 8), (8, 232), (0, 1), (7, 8), (11, 149), (11, 150), (7, 8), (8, 221), (8, 222), (7, 8), (9, 34), (9, 35), (7, 8), (9, 30), (9, 31), (7, 8), (9, 26), (9, 27), (7, 8), (9, 22), (9, 23), (7, 8), (9, 39), (9, 40), (7, 8), (9, 18), (9, 19), (7, 8), (12, 43), (12, 44), (7, 8), (11, 25), (11, 26)] (by decide +kernel) (by decide +kernel)
set_option maxRecDepth 100000 in
theorem cd_X0_init : codeW M_X0_init ∈ TW := tw_of 7 185 rfl rfl
set_option maxRecDepth 100000 in
theorem cd_X0_reset : codeW M_X0_reset ∈ TW := tw_of 10 111 rfl rfl
set_option maxRecDepth 100000 in
theorem cd_X0_become : codeW M_X0_become ∈ TW := tw_of 11 58 rfl rfl
set_option maxRecDepth 100000 in
theorem cd_X0_readFrom : codeW M_X0_readFrom ∈ TW := tw_of 11 42 rfl rfl
set_option maxRecDepth 100000 in
theorem cd_X0_readLine : codeW M_X0_readLine ∈ TW := tw_of 11 48 rfl rfl
set_option maxRecDepth 100000 in
theorem cd_X0_agrees : codeW M_X0_agrees ∈ TW := tw_of 11 205 rfl rfl
set_option maxRecDepth 100000 in
theorem cd_X1_init : codeW M_X1_init ∈ TW := tw_of 7 85 rfl rfl
set_option maxRecDepth 100000 in
theorem cd_X1_readFrom : codeW M_X1_readFrom ∈ TW := tw_of 9 236 rfl rfl
set_option maxRecDepth 100000 in
theorem cd_X1_readClause : codeW M_X1_readClause ∈ TW := tw_of 10 4 rfl rfl
set_option maxRecDepth 100000 in
theorem cd_X1_readSaying : codeW M_X1_readSaying ∈ TW := tw_of 10 61 rfl rfl
set_option maxRecDepth 100000 in
theorem cd_X1_readRule : codeW M_X1_readRule ∈ TW := tw_of 10 79 rfl rfl
set_option maxRecDepth 100000 in
theorem cd_X1_readBird : codeW M_X1_readBird ∈ TW := tw_of 10 84 rfl rfl
set_option maxRecDepth 100000 in
theorem cd_X1_readCounsel : codeW M_X1_readCounsel ∈ TW := tw_of 10 89 rfl rfl
set_option maxRecDepth 100000 in
theorem cd_X1_become : codeW M_X1_become ∈ TW := tw_of 10 102 rfl rfl
set_option maxRecDepth 100000 in
theorem cd_X1_allSayings : codeW M_X1_allSayings ∈ TW := tw_of 9 75 rfl rfl
set_option maxRecDepth 100000 in
theorem cd_X1_allCounsel : codeW M_X1_allCounsel ∈ TW := tw_of 8 216 rfl rfl
set_option maxRecDepth 100000 in
theorem cd_X1_ofSide : codeW M_X1_ofSide ∈ TW := tw_of 12 56 rfl rfl
set_option maxRecDepth 100000 in
theorem cd_X1_weightOf : codeW M_X1_weightOf ∈ TW := tw_of 12 60 rfl rfl
set_option maxRecDepth 100000 in
theorem cd_X1_heaviest : codeW M_X1_heaviest ∈ TW := tw_of 12 30 rfl rfl
set_option maxRecDepth 100000 in
theorem cd_X1_closure : codeW M_X1_closure ∈ TW := tw_of 9 49 rfl rfl
set_option maxRecDepth 100000 in
theorem cd_X1_isUsed : codeW M_X1_isUsed ∈ TW := tw_of 9 53 rfl rfl
set_option maxRecDepth 100000 in
theorem cd_X1_rulesUsed : codeW M_X1_rulesUsed ∈ TW := tw_of 9 88 rfl rfl
set_option maxRecDepth 100000 in
theorem cd_X1_leanFrom : codeW M_X1_leanFrom ∈ TW := tw_of 9 45 rfl rfl
set_option maxRecDepth 100000 in
theorem cd_X2_init : codeW M_X2_init ∈ TW := tw_of 7 236 rfl rfl
set_option maxRecDepth 100000 in
theorem cd_X2_begin : codeW M_X2_begin ∈ TW := tw_of 10 119 rfl rfl
set_option maxRecDepth 100000 in
theorem cd_X2_become : codeW M_X2_become ∈ TW := tw_of 12 136 rfl rfl
set_option maxRecDepth 100000 in
theorem cd_X2_save : codeW M_X2_save ∈ TW := tw_of 9 106 rfl rfl
set_option maxRecDepth 100000 in
theorem cd_X2_load : codeW M_X2_load ∈ TW := tw_of 8 194 rfl rfl
set_option maxRecDepth 100000 in
theorem cd_X2_measure : codeW M_X2_measure ∈ TW := tw_of 8 208 rfl rfl
set_option maxRecDepth 100000 in
theorem cd_X2_walkIfLed : codeW M_X2_walkIfLed ∈ TW := tw_of 8 212 rfl rfl
set_option maxRecDepth 100000 in
theorem cd_X2_beginIfLed : codeW M_X2_beginIfLed ∈ TW := tw_of 8 233 rfl rfl
set_option maxRecDepth 100000 in
theorem cd_X2_coveredIfLed : codeW M_X2_coveredIfLed ∈ TW := tw_of 11 151 rfl rfl
set_option maxRecDepth 100000 in
theorem cd_X2_crumbsOf : codeW M_X2_crumbsOf ∈ TW := tw_of 8 223 rfl rfl
set_option maxRecDepth 100000 in
theorem cd_X2_lastOn : codeW M_X2_lastOn ∈ TW := tw_of 9 36 rfl rfl
set_option maxRecDepth 100000 in
theorem cd_X2_birdsOn : codeW M_X2_birdsOn ∈ TW := tw_of 9 32 rfl rfl
set_option maxRecDepth 100000 in
theorem cd_X2_doesCount : codeW M_X2_doesCount ∈ TW := tw_of 9 28 rfl rfl
set_option maxRecDepth 100000 in
theorem cd_X2_counting : codeW M_X2_counting ∈ TW := tw_of 9 24 rfl rfl
set_option maxRecDepth 100000 in
theorem cd_X2_saidBetween : codeW M_X2_saidBetween ∈ TW := tw_of 9 41 rfl rfl
set_option maxRecDepth 100000 in
theorem cd_X2_heardBy : codeW M_X2_heardBy ∈ TW := tw_of 9 20 rfl rfl
set_option maxRecDepth 100000 in
theorem cd_X2_nextSaid : codeW M_X2_nextSaid ∈ TW := tw_of 12 45 rfl rfl
set_option maxRecDepth 100000 in
theorem cd_X2_isNoted : codeW M_X2_isNoted ∈ TW := tw_of 11 27 rfl rfl
set_option maxRecDepth 100000 in
theorem ownc0 : ∀ q ∈ MTK0, codeW q.1 ∈ TW := List.forall_mem_cons.mpr ⟨cd_X0_init, List.forall_mem_cons.mpr ⟨cd_X0_reset, List.forall_mem_cons.mpr ⟨cd_X0_become, List.forall_mem_cons.mpr ⟨cd_X0_readFrom, List.forall_mem_cons.mpr ⟨cd_X0_readLine, List.forall_mem_cons.mpr ⟨cd_X0_agrees, List.forall_mem_cons.mpr ⟨cd_X1_init, List.forall_mem_cons.mpr ⟨cd_X1_readFrom, List.forall_mem_cons.mpr ⟨cd_X1_readClause, List.forall_mem_cons.mpr ⟨cd_X1_readSaying, List.forall_mem_cons.mpr ⟨cd_X1_readRule, List.forall_mem_cons.mpr ⟨cd_X1_readBird, List.forall_mem_cons.mpr ⟨cd_X1_readCounsel, List.forall_mem_cons.mpr ⟨cd_X1_become, List.forall_mem_cons.mpr ⟨cd_X1_allSayings, List.forall_mem_cons.mpr ⟨cd_X1_allCounsel, List.forall_mem_cons.mpr ⟨cd_X1_ofSide, List.forall_mem_cons.mpr ⟨cd_X1_weightOf, List.forall_mem_cons.mpr ⟨cd_X1_heaviest, List.forall_mem_cons.mpr ⟨cd_X1_closure, List.forall_mem_cons.mpr ⟨cd_X1_isUsed, List.forall_mem_cons.mpr ⟨cd_X1_rulesUsed, List.forall_mem_cons.mpr ⟨cd_X1_leanFrom, List.forall_mem_cons.mpr ⟨cd_X2_init, List.forall_mem_cons.mpr ⟨cd_X2_begin, List.forall_mem_cons.mpr ⟨cd_X2_become, List.forall_mem_cons.mpr ⟨cd_X2_save, List.forall_mem_cons.mpr ⟨cd_X2_load, List.forall_mem_cons.mpr ⟨cd_X2_measure, List.forall_mem_cons.mpr ⟨cd_X2_walkIfLed, List.forall_mem_cons.mpr ⟨cd_X2_beginIfLed, List.forall_mem_cons.mpr ⟨cd_X2_coveredIfLed, List.forall_mem_cons.mpr ⟨cd_X2_crumbsOf, List.forall_mem_cons.mpr ⟨cd_X2_lastOn, List.forall_mem_cons.mpr ⟨cd_X2_birdsOn, List.forall_mem_cons.mpr ⟨cd_X2_doesCount, List.forall_mem_cons.mpr ⟨cd_X2_counting, List.forall_mem_cons.mpr ⟨cd_X2_saidBetween, List.forall_mem_cons.mpr ⟨cd_X2_heardBy, List.forall_mem_cons.mpr ⟨cd_X2_nextSaid, List.forall_mem_cons.mpr ⟨cd_X2_isNoted, fun _ h => nomatch h⟩⟩⟩⟩⟩⟩⟩⟩⟩⟩⟩⟩⟩⟩⟩⟩⟩⟩⟩⟩⟩⟩⟩⟩⟩⟩⟩⟩⟩⟩⟩⟩⟩⟩⟩⟩⟩⟩⟩⟩⟩
theorem own0 : ∀ q ∈ MTK0, ownP q := fun q hq => ⟨List.all_eq_true.mp ownb0 q hq, ownc0 q hq, fun w hw => ownw0 w (List.mem_flatMap.mpr ⟨q, hq, hw⟩)⟩
set_option maxRecDepth 100000 in
theorem ownb1 : MTK1.all (fun q => ownB CLS q.1 q.2) = true := by decide +kernel
set_option maxRecDepth 100000 in
theorem ownw1 : ∀ w ∈ MTK1.flatMap (fun q => ownW q.1 q.2), w ∈ TW := tw_in [(7, 8), (11, 13), (11, 14), (7, 8), (11, 5), (11, 6), (7, 8), (11, 9), (11, 10), (7, 8), (11, 17), (11, 18), (7, 8), (11, 21), (11, 22), (7, 8), (11, 29), (11, 30), (7, 5), (7, 159), (7, 5), (10, 105), (10, 106), (7, 5), (10, 176), (10, 177), (7, 5), (10, 128), (10, 129), (7, 5), (10, 133), (0, 13), (7, 5), (10, 137), (0, 14), (7, 5), (10, 141), (0, 15), (7, 5), (10, 159), (1, 1), (7, 5), (10, 164), (1, 2), (7, 5), (10, 150), (1, 0), (7, 5), (9, 1), (9, 2), (7, 5), (9, 6), (7, 9), (8, 41), (7, 9), (10, 113), (10, 114), (7, 9), (10, 228), (10, 229), (7, 9), (8, 188), (8, 189), (7, 9), (9, 100), (9, 101), (7, 9), (9, 114), (9, 115), (7, 7), (7, 199), (7, 7), (10, 189), (10, 190), (7, 7), (10, 195), (1, 3), (7, 7), (10, 201), (1, 4), (7, 7), (10, 207), (1, 5), (7, 7), (10, 213), (1, 6), (7, 7), (10, 221), (1, 7), (7, 7), (10, 233), (1, 8), (7, 7), (10, 238), (1, 9), (7, 7), (11, 2), (7, 2), (7, 35), (7, 2), (8, 175), (8, 176), (7, 2), (9, 210), (9, 211), (7, 2), (9, 214), (9, 215), (7, 2), (9, 223), (0, 6), (7, 2), (9, 231), (0, 7), (7, 2), (9, 238), (9, 239)] (by decide +kernel) (by decide +kernel)
set_option maxRecDepth 100000 in
theorem cd_X2_canLead : codeW M_X2_canLead ∈ TW := tw_of 11 15 rfl rfl
set_option maxRecDepth 100000 in
theorem cd_X2_callBird : codeW M_X2_callBird ∈ TW := tw_of 11 7 rfl rfl
set_option maxRecDepth 100000 in
theorem cd_X2_leadBird : codeW M_X2_leadBird ∈ TW := tw_of 11 11 rfl rfl
set_option maxRecDepth 100000 in
theorem cd_X2_putOff : codeW M_X2_putOff ∈ TW := tw_of 11 19 rfl rfl
set_option maxRecDepth 100000 in
theorem cd_X2_noteSaying : codeW M_X2_noteSaying ∈ TW := tw_of 11 23 rfl rfl
set_option maxRecDepth 100000 in
theorem cd_X2_passMinute : codeW M_X2_passMinute ∈ TW := tw_of 11 31 rfl rfl
set_option maxRecDepth 100000 in
theorem cd_X3_init : codeW M_X3_init ∈ TW := tw_of 7 160 rfl rfl
set_option maxRecDepth 100000 in
theorem cd_X3_reset : codeW M_X3_reset ∈ TW := tw_of 10 107 rfl rfl
set_option maxRecDepth 100000 in
theorem cd_X3_become : codeW M_X3_become ∈ TW := tw_of 10 178 rfl rfl
set_option maxRecDepth 100000 in
theorem cd_X3_readFrom : codeW M_X3_readFrom ∈ TW := tw_of 10 130 rfl rfl
set_option maxRecDepth 100000 in
theorem cd_X3_readSum : codeW M_X3_readSum ∈ TW := tw_of 10 134 rfl rfl
set_option maxRecDepth 100000 in
theorem cd_X3_readProduct : codeW M_X3_readProduct ∈ TW := tw_of 10 138 rfl rfl
set_option maxRecDepth 100000 in
theorem cd_X3_readUnit : codeW M_X3_readUnit ∈ TW := tw_of 10 142 rfl rfl
set_option maxRecDepth 100000 in
theorem cd_X3_readChoice : codeW M_X3_readChoice ∈ TW := tw_of 10 160 rfl rfl
set_option maxRecDepth 100000 in
theorem cd_X3_readInput : codeW M_X3_readInput ∈ TW := tw_of 10 165 rfl rfl
set_option maxRecDepth 100000 in
theorem cd_X3_addPart : codeW M_X3_addPart ∈ TW := tw_of 10 151 rfl rfl
set_option maxRecDepth 100000 in
theorem cd_X3_walk : codeW M_X3_walk ∈ TW := tw_of 9 3 rfl rfl
set_option maxRecDepth 100000 in
theorem cd_X3_apply : codeW M_X3_apply ∈ TW := tw_of 9 7 rfl rfl
set_option maxRecDepth 100000 in
theorem cd_X4_init : codeW M_X4_init ∈ TW := tw_of 8 42 rfl rfl
set_option maxRecDepth 100000 in
theorem cd_X4_reset : codeW M_X4_reset ∈ TW := tw_of 10 115 rfl rfl
set_option maxRecDepth 100000 in
theorem cd_X4_push : codeW M_X4_push ∈ TW := tw_of 10 230 rfl rfl
set_option maxRecDepth 100000 in
theorem cd_X4_pop : codeW M_X4_pop ∈ TW := tw_of 8 190 rfl rfl
set_option maxRecDepth 100000 in
theorem cd_X4_takeImage : codeW M_X4_takeImage ∈ TW := tw_of 9 102 rfl rfl
set_option maxRecDepth 100000 in
theorem cd_X4_bringImage : codeW M_X4_bringImage ∈ TW := tw_of 9 116 rfl rfl
set_option maxRecDepth 100000 in
theorem cd_X5_init : codeW M_X5_init ∈ TW := tw_of 7 200 rfl rfl
set_option maxRecDepth 100000 in
theorem cd_X5_readFrom : codeW M_X5_readFrom ∈ TW := tw_of 10 191 rfl rfl
set_option maxRecDepth 100000 in
theorem cd_X5_readStep : codeW M_X5_readStep ∈ TW := tw_of 10 196 rfl rfl
set_option maxRecDepth 100000 in
theorem cd_X5_startStep : codeW M_X5_startStep ∈ TW := tw_of 10 202 rfl rfl
set_option maxRecDepth 100000 in
theorem cd_X5_readWho : codeW M_X5_readWho ∈ TW := tw_of 10 208 rfl rfl
set_option maxRecDepth 100000 in
theorem cd_X5_readHowMuch : codeW M_X5_readHowMuch ∈ TW := tw_of 10 214 rfl rfl
set_option maxRecDepth 100000 in
theorem cd_X5_readAgain : codeW M_X5_readAgain ∈ TW := tw_of 10 222 rfl rfl
set_option maxRecDepth 100000 in
theorem cd_X5_run : codeW M_X5_run ∈ TW := tw_of 10 234 rfl rfl
set_option maxRecDepth 100000 in
theorem cd_X5_repeat : codeW M_X5_repeat ∈ TW := tw_of 10 239 rfl rfl
set_option maxRecDepth 100000 in
theorem cd_X5_doStep : codeW M_X5_doStep ∈ TW := tw_of 11 3 rfl rfl
set_option maxRecDepth 100000 in
theorem cd_X6_init : codeW M_X6_init ∈ TW := tw_of 7 36 rfl rfl
set_option maxRecDepth 100000 in
theorem cd_X6_addNumber : codeW M_X6_addNumber ∈ TW := tw_of 8 177 rfl rfl
set_option maxRecDepth 100000 in
theorem cd_X6_start : codeW M_X6_start ∈ TW := tw_of 9 212 rfl rfl
set_option maxRecDepth 100000 in
theorem cd_X6_advance : codeW M_X6_advance ∈ TW := tw_of 9 216 rfl rfl
set_option maxRecDepth 100000 in
theorem cd_X6_takeDigits : codeW M_X6_takeDigits ∈ TW := tw_of 9 224 rfl rfl
set_option maxRecDepth 100000 in
theorem cd_X6_takeLetters : codeW M_X6_takeLetters ∈ TW := tw_of 9 232 rfl rfl
set_option maxRecDepth 100000 in
theorem cd_X6_hasMore : codeW M_X6_hasMore ∈ TW := tw_of 10 0 rfl rfl
set_option maxRecDepth 100000 in
theorem ownc1 : ∀ q ∈ MTK1, codeW q.1 ∈ TW := List.forall_mem_cons.mpr ⟨cd_X2_canLead, List.forall_mem_cons.mpr ⟨cd_X2_callBird, List.forall_mem_cons.mpr ⟨cd_X2_leadBird, List.forall_mem_cons.mpr ⟨cd_X2_putOff, List.forall_mem_cons.mpr ⟨cd_X2_noteSaying, List.forall_mem_cons.mpr ⟨cd_X2_passMinute, List.forall_mem_cons.mpr ⟨cd_X3_init, List.forall_mem_cons.mpr ⟨cd_X3_reset, List.forall_mem_cons.mpr ⟨cd_X3_become, List.forall_mem_cons.mpr ⟨cd_X3_readFrom, List.forall_mem_cons.mpr ⟨cd_X3_readSum, List.forall_mem_cons.mpr ⟨cd_X3_readProduct, List.forall_mem_cons.mpr ⟨cd_X3_readUnit, List.forall_mem_cons.mpr ⟨cd_X3_readChoice, List.forall_mem_cons.mpr ⟨cd_X3_readInput, List.forall_mem_cons.mpr ⟨cd_X3_addPart, List.forall_mem_cons.mpr ⟨cd_X3_walk, List.forall_mem_cons.mpr ⟨cd_X3_apply, List.forall_mem_cons.mpr ⟨cd_X4_init, List.forall_mem_cons.mpr ⟨cd_X4_reset, List.forall_mem_cons.mpr ⟨cd_X4_push, List.forall_mem_cons.mpr ⟨cd_X4_pop, List.forall_mem_cons.mpr ⟨cd_X4_takeImage, List.forall_mem_cons.mpr ⟨cd_X4_bringImage, List.forall_mem_cons.mpr ⟨cd_X5_init, List.forall_mem_cons.mpr ⟨cd_X5_readFrom, List.forall_mem_cons.mpr ⟨cd_X5_readStep, List.forall_mem_cons.mpr ⟨cd_X5_startStep, List.forall_mem_cons.mpr ⟨cd_X5_readWho, List.forall_mem_cons.mpr ⟨cd_X5_readHowMuch, List.forall_mem_cons.mpr ⟨cd_X5_readAgain, List.forall_mem_cons.mpr ⟨cd_X5_run, List.forall_mem_cons.mpr ⟨cd_X5_repeat, List.forall_mem_cons.mpr ⟨cd_X5_doStep, List.forall_mem_cons.mpr ⟨cd_X6_init, List.forall_mem_cons.mpr ⟨cd_X6_addNumber, List.forall_mem_cons.mpr ⟨cd_X6_start, List.forall_mem_cons.mpr ⟨cd_X6_advance, List.forall_mem_cons.mpr ⟨cd_X6_takeDigits, List.forall_mem_cons.mpr ⟨cd_X6_takeLetters, List.forall_mem_cons.mpr ⟨cd_X6_hasMore, fun _ h => nomatch h⟩⟩⟩⟩⟩⟩⟩⟩⟩⟩⟩⟩⟩⟩⟩⟩⟩⟩⟩⟩⟩⟩⟩⟩⟩⟩⟩⟩⟩⟩⟩⟩⟩⟩⟩⟩⟩⟩⟩⟩⟩
theorem own1 : ∀ q ∈ MTK1, ownP q := fun q hq => ⟨List.all_eq_true.mp ownb1 q hq, ownc1 q hq, fun w hw => ownw1 w (List.mem_flatMap.mpr ⟨q, hq, hw⟩)⟩
set_option maxRecDepth 100000 in
theorem ownb2 : MTK2.all (fun q => ownB CLS q.1 q.2) = true := by decide +kernel
set_option maxRecDepth 100000 in
theorem ownw2 : ∀ w ∈ MTK2.flatMap (fun q => ownW q.1 q.2), w ∈ TW := tw_in [(7, 2), (10, 144), (10, 145), (7, 2), (10, 96), (10, 97), (7, 2), (10, 7), (10, 8), (7, 2), (10, 71), (10, 72), (7, 2), (10, 92), (10, 93), (7, 2), (10, 63), (10, 64), (7, 2), (10, 67), (10, 68), (7, 2), (9, 219), (7, 2), (9, 227), (7, 3), (7, 41), (7, 3), (8, 196), (8, 197), (7, 3), (7, 165), (7, 166), (7, 3), (8, 200), (8, 201), (7, 10), (8, 67), (7, 10), (11, 146), (1, 13), (7, 10), (11, 141), (11, 142), (7, 10), (11, 155), (1, 14), (7, 10), (11, 159), (1, 15), (7, 10), (11, 177), (11, 178), (7, 10), (9, 66), (9, 67), (7, 10), (9, 77), (7, 10), (11, 191), (11, 192), (7, 10), (11, 196), (2, 0), (7, 10), (11, 200), (2, 1), (7, 10), (11, 218), (11, 219), (7, 10), (11, 214), (11, 215), (7, 11), (8, 110), (7, 11), (12, 130), (12, 131), (7, 11), (12, 139), (2, 4), (7, 11), (12, 143), (2, 5), (7, 1), (7, 27), (7, 1), (8, 171), (8, 172), (7, 1), (9, 131), (9, 132), (7, 1), (10, 124), (10, 125), (7, 1), (10, 185), (10, 186), (7, 1), (11, 36), (11, 37), (7, 1), (8, 180), (8, 181), (7, 1), (8, 184), (8, 185), (7, 1), (11, 64), (11, 65), (7, 1), (9, 14), (9, 15), (7, 1), (11, 73), (11, 74)] (by decide +kernel) (by decide +kernel)
set_option maxRecDepth 100000 in
theorem cd_X6_seesNumber : codeW M_X6_seesNumber ∈ TW := tw_of 10 146 rfl rfl
set_option maxRecDepth 100000 in
theorem cd_X6_seesSign : codeW M_X6_seesSign ∈ TW := tw_of 10 98 rfl rfl
set_option maxRecDepth 100000 in
theorem cd_X6_seesWord : codeW M_X6_seesWord ∈ TW := tw_of 10 9 rfl rfl
set_option maxRecDepth 100000 in
theorem cd_X6_takeNumber : codeW M_X6_takeNumber ∈ TW := tw_of 10 73 rfl rfl
set_option maxRecDepth 100000 in
theorem cd_X6_takeSign : codeW M_X6_takeSign ∈ TW := tw_of 10 94 rfl rfl
set_option maxRecDepth 100000 in
theorem cd_X6_takeIfRoom : codeW M_X6_takeIfRoom ∈ TW := tw_of 10 65 rfl rfl
set_option maxRecDepth 100000 in
theorem cd_X6_fail : codeW M_X6_fail ∈ TW := tw_of 10 69 rfl rfl
set_option maxRecDepth 100000 in
theorem cd_X6_isDigit : codeW M_X6_isDigit ∈ TW := tw_of 9 220 rfl rfl
set_option maxRecDepth 100000 in
theorem cd_X6_isLetter : codeW M_X6_isLetter ∈ TW := tw_of 9 228 rfl rfl
set_option maxRecDepth 100000 in
theorem cd_X7_init : codeW M_X7_init ∈ TW := tw_of 7 42 rfl rfl
set_option maxRecDepth 100000 in
theorem cd_X7_get : codeW M_X7_get ∈ TW := tw_of 8 198 rfl rfl
set_option maxRecDepth 100000 in
theorem cd_X7_set : codeW M_X7_set ∈ TW := tw_of 7 167 rfl rfl
set_option maxRecDepth 100000 in
theorem cd_X7_copy : codeW M_X7_copy ∈ TW := tw_of 8 202 rfl rfl
set_option maxRecDepth 100000 in
theorem cd_X8_init : codeW M_X8_init ∈ TW := tw_of 8 68 rfl rfl
set_option maxRecDepth 100000 in
theorem cd_X8_coverAll : codeW M_X8_coverAll ∈ TW := tw_of 11 147 rfl rfl
set_option maxRecDepth 100000 in
theorem cd_X8_findHiding : codeW M_X8_findHiding ∈ TW := tw_of 11 143 rfl rfl
set_option maxRecDepth 100000 in
theorem cd_X8_leadFrom : codeW M_X8_leadFrom ∈ TW := tw_of 11 156 rfl rfl
set_option maxRecDepth 100000 in
theorem cd_X8_leadBirdEachWay : codeW M_X8_leadBirdEachWay ∈ TW := tw_of 11 160 rfl rfl
set_option maxRecDepth 100000 in
theorem cd_X8_leastProof : codeW M_X8_leastProof ∈ TW := tw_of 11 179 rfl rfl
set_option maxRecDepth 100000 in
theorem cd_X8_leastTurn : codeW M_X8_leastTurn ∈ TW := tw_of 9 68 rfl rfl
set_option maxRecDepth 100000 in
theorem cd_X8_isBetter : codeW M_X8_isBetter ∈ TW := tw_of 9 78 rfl rfl
set_option maxRecDepth 100000 in
theorem cd_X8_weighPairs : codeW M_X8_weighPairs ∈ TW := tw_of 11 193 rfl rfl
set_option maxRecDepth 100000 in
theorem cd_X8_coveredByOthers : codeW M_X8_coveredByOthers ∈ TW := tw_of 11 197 rfl rfl
set_option maxRecDepth 100000 in
theorem cd_X8_weighPair : codeW M_X8_weighPair ∈ TW := tw_of 11 201 rfl rfl
set_option maxRecDepth 100000 in
theorem cd_X8_pairsLeft : codeW M_X8_pairsLeft ∈ TW := tw_of 11 220 rfl rfl
set_option maxRecDepth 100000 in
theorem cd_X8_bestQuestion : codeW M_X8_bestQuestion ∈ TW := tw_of 11 216 rfl rfl
set_option maxRecDepth 100000 in
theorem cd_X9_init : codeW M_X9_init ∈ TW := tw_of 8 111 rfl rfl
set_option maxRecDepth 100000 in
theorem cd_X9_play : codeW M_X9_play ∈ TW := tw_of 12 132 rfl rfl
set_option maxRecDepth 100000 in
theorem cd_X9_playBird : codeW M_X9_playBird ∈ TW := tw_of 12 140 rfl rfl
set_option maxRecDepth 100000 in
theorem cd_X9_draw : codeW M_X9_draw ∈ TW := tw_of 12 144 rfl rfl
set_option maxRecDepth 100000 in
theorem cd_X10_init : codeW M_X10_init ∈ TW := tw_of 7 28 rfl rfl
set_option maxRecDepth 100000 in
theorem cd_X10_feed : codeW M_X10_feed ∈ TW := tw_of 8 173 rfl rfl
set_option maxRecDepth 100000 in
theorem cd_X10_court : codeW M_X10_court ∈ TW := tw_of 9 133 rfl rfl
set_option maxRecDepth 100000 in
theorem cd_X10_law : codeW M_X10_law ∈ TW := tw_of 10 126 rfl rfl
set_option maxRecDepth 100000 in
theorem cd_X10_work : codeW M_X10_work ∈ TW := tw_of 10 187 rfl rfl
set_option maxRecDepth 100000 in
theorem cd_X10_book : codeW M_X10_book ∈ TW := tw_of 11 38 rfl rfl
set_option maxRecDepth 100000 in
theorem cd_X10_fault : codeW M_X10_fault ∈ TW := tw_of 8 182 rfl rfl
set_option maxRecDepth 100000 in
theorem cd_X10_undo : codeW M_X10_undo ∈ TW := tw_of 8 186 rfl rfl
set_option maxRecDepth 100000 in
theorem cd_X10_told : codeW M_X10_told ∈ TW := tw_of 11 66 rfl rfl
set_option maxRecDepth 100000 in
theorem cd_X10_lean : codeW M_X10_lean ∈ TW := tw_of 9 16 rfl rfl
set_option maxRecDepth 100000 in
theorem cd_X10_saying : codeW M_X10_saying ∈ TW := tw_of 11 75 rfl rfl
set_option maxRecDepth 100000 in
theorem ownc2 : ∀ q ∈ MTK2, codeW q.1 ∈ TW := List.forall_mem_cons.mpr ⟨cd_X6_seesNumber, List.forall_mem_cons.mpr ⟨cd_X6_seesSign, List.forall_mem_cons.mpr ⟨cd_X6_seesWord, List.forall_mem_cons.mpr ⟨cd_X6_takeNumber, List.forall_mem_cons.mpr ⟨cd_X6_takeSign, List.forall_mem_cons.mpr ⟨cd_X6_takeIfRoom, List.forall_mem_cons.mpr ⟨cd_X6_fail, List.forall_mem_cons.mpr ⟨cd_X6_isDigit, List.forall_mem_cons.mpr ⟨cd_X6_isLetter, List.forall_mem_cons.mpr ⟨cd_X7_init, List.forall_mem_cons.mpr ⟨cd_X7_get, List.forall_mem_cons.mpr ⟨cd_X7_set, List.forall_mem_cons.mpr ⟨cd_X7_copy, List.forall_mem_cons.mpr ⟨cd_X8_init, List.forall_mem_cons.mpr ⟨cd_X8_coverAll, List.forall_mem_cons.mpr ⟨cd_X8_findHiding, List.forall_mem_cons.mpr ⟨cd_X8_leadFrom, List.forall_mem_cons.mpr ⟨cd_X8_leadBirdEachWay, List.forall_mem_cons.mpr ⟨cd_X8_leastProof, List.forall_mem_cons.mpr ⟨cd_X8_leastTurn, List.forall_mem_cons.mpr ⟨cd_X8_isBetter, List.forall_mem_cons.mpr ⟨cd_X8_weighPairs, List.forall_mem_cons.mpr ⟨cd_X8_coveredByOthers, List.forall_mem_cons.mpr ⟨cd_X8_weighPair, List.forall_mem_cons.mpr ⟨cd_X8_pairsLeft, List.forall_mem_cons.mpr ⟨cd_X8_bestQuestion, List.forall_mem_cons.mpr ⟨cd_X9_init, List.forall_mem_cons.mpr ⟨cd_X9_play, List.forall_mem_cons.mpr ⟨cd_X9_playBird, List.forall_mem_cons.mpr ⟨cd_X9_draw, List.forall_mem_cons.mpr ⟨cd_X10_init, List.forall_mem_cons.mpr ⟨cd_X10_feed, List.forall_mem_cons.mpr ⟨cd_X10_court, List.forall_mem_cons.mpr ⟨cd_X10_law, List.forall_mem_cons.mpr ⟨cd_X10_work, List.forall_mem_cons.mpr ⟨cd_X10_book, List.forall_mem_cons.mpr ⟨cd_X10_fault, List.forall_mem_cons.mpr ⟨cd_X10_undo, List.forall_mem_cons.mpr ⟨cd_X10_told, List.forall_mem_cons.mpr ⟨cd_X10_lean, List.forall_mem_cons.mpr ⟨cd_X10_saying, fun _ h => nomatch h⟩⟩⟩⟩⟩⟩⟩⟩⟩⟩⟩⟩⟩⟩⟩⟩⟩⟩⟩⟩⟩⟩⟩⟩⟩⟩⟩⟩⟩⟩⟩⟩⟩⟩⟩⟩⟩⟩⟩⟩⟩
theorem own2 : ∀ q ∈ MTK2, ownP q := fun q hq => ⟨List.all_eq_true.mp ownb2 q hq, ownc2 q hq, fun w hw => ownw2 w (List.mem_flatMap.mpr ⟨q, hq, hw⟩)⟩
set_option maxRecDepth 100000 in
theorem ownb3 : MTK3.all (fun q => ownB CLS q.1 q.2) = true := by decide +kernel
set_option maxRecDepth 100000 in
theorem ownw3 : ∀ w ∈ MTK3.flatMap (fun q => ownW q.1 q.2), w ∈ TW := tw_in [(7, 1), (11, 102), (11, 103), (7, 1), (11, 109), (11, 110), (7, 1), (11, 116), (11, 117), (7, 1), (11, 124), (11, 125), (7, 1), (9, 57), (9, 58), (7, 1), (11, 132), (11, 133), (7, 1), (11, 166), (11, 167), (7, 1), (11, 173), (11, 174), (7, 1), (9, 62), (9, 63), (7, 1), (11, 187), (11, 188), (7, 1), (11, 210), (11, 211), (7, 1), (11, 227), (11, 228), (7, 1), (12, 0), (12, 1), (7, 1), (12, 13), (12, 14), (7, 1), (12, 23), (12, 24), (7, 1), (12, 39), (12, 40), (7, 1), (12, 50), (12, 51), (7, 1), (12, 65), (12, 66), (7, 1), (9, 81), (9, 82), (7, 1), (12, 73), (12, 74), (7, 1), (12, 80), (12, 81), (7, 1), (12, 87), (12, 88), (7, 1), (12, 94), (12, 95), (7, 1), (9, 90), (9, 91), (7, 1), (12, 101), (12, 102), (7, 1), (12, 108), (12, 109), (7, 1), (12, 115), (12, 116), (7, 1), (12, 122), (12, 123), (7, 1), (12, 154), (12, 155), (7, 1), (9, 96), (9, 97), (7, 1), (9, 110), (9, 111), (7, 1), (9, 119), (9, 120), (7, 1), (9, 123), (9, 124), (7, 1), (9, 136), (0, 3), (7, 1), (12, 127), (2, 3), (7, 1), (11, 137), (1, 12), (7, 1), (9, 140), (0, 4), (7, 1), (11, 78), (1, 11), (7, 1), (12, 33), (2, 2), (7, 1), (8, 218), (7, 1), (8, 225)] (by decide +kernel) (by decide +kernel)
set_option maxRecDepth 100000 in
theorem cd_X10_bird : codeW M_X10_bird ∈ TW := tw_of 11 104 rfl rfl
set_option maxRecDepth 100000 in
theorem cd_X10_counsel : codeW M_X10_counsel ∈ TW := tw_of 11 111 rfl rfl
set_option maxRecDepth 100000 in
theorem cd_X10_would : codeW M_X10_would ∈ TW := tw_of 11 118 rfl rfl
set_option maxRecDepth 100000 in
theorem cd_X10_at : codeW M_X10_at ∈ TW := tw_of 11 126 rfl rfl
set_option maxRecDepth 100000 in
theorem cd_X10_clear : codeW M_X10_clear ∈ TW := tw_of 9 59 rfl rfl
set_option maxRecDepth 100000 in
theorem cd_X10_hide : codeW M_X10_hide ∈ TW := tw_of 11 134 rfl rfl
set_option maxRecDepth 100000 in
theorem cd_X10_follows : codeW M_X10_follows ∈ TW := tw_of 11 168 rfl rfl
set_option maxRecDepth 100000 in
theorem cd_X10_proof : codeW M_X10_proof ∈ TW := tw_of 11 175 rfl rfl
set_option maxRecDepth 100000 in
theorem cd_X10_turn : codeW M_X10_turn ∈ TW := tw_of 9 64 rfl rfl
set_option maxRecDepth 100000 in
theorem cd_X10_fits : codeW M_X10_fits ∈ TW := tw_of 11 189 rfl rfl
set_option maxRecDepth 100000 in
theorem cd_X10_look : codeW M_X10_look ∈ TW := tw_of 11 212 rfl rfl
set_option maxRecDepth 100000 in
theorem cd_X10_kind : codeW M_X10_kind ∈ TW := tw_of 11 229 rfl rfl
set_option maxRecDepth 100000 in
theorem cd_X10_order : codeW M_X10_order ∈ TW := tw_of 12 2 rfl rfl
set_option maxRecDepth 100000 in
theorem cd_X10_loaf : codeW M_X10_loaf ∈ TW := tw_of 12 15 rfl rfl
set_option maxRecDepth 100000 in
theorem cd_X10_loss : codeW M_X10_loss ∈ TW := tw_of 12 25 rfl rfl
set_option maxRecDepth 100000 in
theorem cd_X10_next : codeW M_X10_next ∈ TW := tw_of 12 41 rfl rfl
set_option maxRecDepth 100000 in
theorem cd_X10_side : codeW M_X10_side ∈ TW := tw_of 12 52 rfl rfl
set_option maxRecDepth 100000 in
theorem cd_X10_leaders : codeW M_X10_leaders ∈ TW := tw_of 12 67 rfl rfl
set_option maxRecDepth 100000 in
theorem cd_X10_used : codeW M_X10_used ∈ TW := tw_of 9 83 rfl rfl
set_option maxRecDepth 100000 in
theorem cd_X10_over : codeW M_X10_over ∈ TW := tw_of 12 75 rfl rfl
set_option maxRecDepth 100000 in
theorem cd_X10_delay : codeW M_X10_delay ∈ TW := tw_of 12 82 rfl rfl
set_option maxRecDepth 100000 in
theorem cd_X10_point : codeW M_X10_point ∈ TW := tw_of 12 89 rfl rfl
set_option maxRecDepth 100000 in
theorem cd_X10_purse : codeW M_X10_purse ∈ TW := tw_of 12 96 rfl rfl
set_option maxRecDepth 100000 in
theorem cd_X10_pairs : codeW M_X10_pairs ∈ TW := tw_of 9 92 rfl rfl
set_option maxRecDepth 100000 in
theorem cd_X10_crowd : codeW M_X10_crowd ∈ TW := tw_of 12 103 rfl rfl
set_option maxRecDepth 100000 in
theorem cd_X10_swing : codeW M_X10_swing ∈ TW := tw_of 12 110 rfl rfl
set_option maxRecDepth 100000 in
theorem cd_X10_when : codeW M_X10_when ∈ TW := tw_of 12 117 rfl rfl
set_option maxRecDepth 100000 in
theorem cd_X10_term : codeW M_X10_term ∈ TW := tw_of 12 124 rfl rfl
set_option maxRecDepth 100000 in
theorem cd_X10_span : codeW M_X10_span ∈ TW := tw_of 12 156 rfl rfl
set_option maxRecDepth 100000 in
theorem cd_X10_image : codeW M_X10_image ∈ TW := tw_of 9 98 rfl rfl
set_option maxRecDepth 100000 in
theorem cd_X10_restore : codeW M_X10_restore ∈ TW := tw_of 9 112 rfl rfl
set_option maxRecDepth 100000 in
theorem cd_X10_status : codeW M_X10_status ∈ TW := tw_of 9 121 rfl rfl
set_option maxRecDepth 100000 in
theorem cd_X10_count : codeW M_X10_count ∈ TW := tw_of 9 125 rfl rfl
set_option maxRecDepth 100000 in
theorem cd_X10_startText : codeW M_X10_startText ∈ TW := tw_of 9 137 rfl rfl
set_option maxRecDepth 100000 in
theorem cd_X10_checkTerm : codeW M_X10_checkTerm ∈ TW := tw_of 12 128 rfl rfl
set_option maxRecDepth 100000 in
theorem cd_X10_checkBits : codeW M_X10_checkBits ∈ TW := tw_of 11 138 rfl rfl
set_option maxRecDepth 100000 in
theorem cd_X10_checkArgument : codeW M_X10_checkArgument ∈ TW := tw_of 9 141 rfl rfl
set_option maxRecDepth 100000 in
theorem cd_X10_checkThere : codeW M_X10_checkThere ∈ TW := tw_of 11 79 rfl rfl
set_option maxRecDepth 100000 in
theorem cd_X10_sayingOrWeight : codeW M_X10_sayingOrWeight ∈ TW := tw_of 12 34 rfl rfl
set_option maxRecDepth 100000 in
theorem cd_X10_bit : codeW M_X10_bit ∈ TW := tw_of 8 219 rfl rfl
set_option maxRecDepth 100000 in
theorem cd_X10_has : codeW M_X10_has ∈ TW := tw_of 8 226 rfl rfl
set_option maxRecDepth 100000 in
theorem ownc3 : ∀ q ∈ MTK3, codeW q.1 ∈ TW := List.forall_mem_cons.mpr ⟨cd_X10_bird, List.forall_mem_cons.mpr ⟨cd_X10_counsel, List.forall_mem_cons.mpr ⟨cd_X10_would, List.forall_mem_cons.mpr ⟨cd_X10_at, List.forall_mem_cons.mpr ⟨cd_X10_clear, List.forall_mem_cons.mpr ⟨cd_X10_hide, List.forall_mem_cons.mpr ⟨cd_X10_follows, List.forall_mem_cons.mpr ⟨cd_X10_proof, List.forall_mem_cons.mpr ⟨cd_X10_turn, List.forall_mem_cons.mpr ⟨cd_X10_fits, List.forall_mem_cons.mpr ⟨cd_X10_look, List.forall_mem_cons.mpr ⟨cd_X10_kind, List.forall_mem_cons.mpr ⟨cd_X10_order, List.forall_mem_cons.mpr ⟨cd_X10_loaf, List.forall_mem_cons.mpr ⟨cd_X10_loss, List.forall_mem_cons.mpr ⟨cd_X10_next, List.forall_mem_cons.mpr ⟨cd_X10_side, List.forall_mem_cons.mpr ⟨cd_X10_leaders, List.forall_mem_cons.mpr ⟨cd_X10_used, List.forall_mem_cons.mpr ⟨cd_X10_over, List.forall_mem_cons.mpr ⟨cd_X10_delay, List.forall_mem_cons.mpr ⟨cd_X10_point, List.forall_mem_cons.mpr ⟨cd_X10_purse, List.forall_mem_cons.mpr ⟨cd_X10_pairs, List.forall_mem_cons.mpr ⟨cd_X10_crowd, List.forall_mem_cons.mpr ⟨cd_X10_swing, List.forall_mem_cons.mpr ⟨cd_X10_when, List.forall_mem_cons.mpr ⟨cd_X10_term, List.forall_mem_cons.mpr ⟨cd_X10_span, List.forall_mem_cons.mpr ⟨cd_X10_image, List.forall_mem_cons.mpr ⟨cd_X10_restore, List.forall_mem_cons.mpr ⟨cd_X10_status, List.forall_mem_cons.mpr ⟨cd_X10_count, List.forall_mem_cons.mpr ⟨cd_X10_startText, List.forall_mem_cons.mpr ⟨cd_X10_checkTerm, List.forall_mem_cons.mpr ⟨cd_X10_checkBits, List.forall_mem_cons.mpr ⟨cd_X10_checkArgument, List.forall_mem_cons.mpr ⟨cd_X10_checkThere, List.forall_mem_cons.mpr ⟨cd_X10_sayingOrWeight, List.forall_mem_cons.mpr ⟨cd_X10_bit, List.forall_mem_cons.mpr ⟨cd_X10_has, fun _ h => nomatch h⟩⟩⟩⟩⟩⟩⟩⟩⟩⟩⟩⟩⟩⟩⟩⟩⟩⟩⟩⟩⟩⟩⟩⟩⟩⟩⟩⟩⟩⟩⟩⟩⟩⟩⟩⟩⟩⟩⟩⟩⟩
theorem own3 : ∀ q ∈ MTK3, ownP q := fun q hq => ⟨List.all_eq_true.mp ownb3 q hq, ownc3 q hq, fun w hw => ownw3 w (List.mem_flatMap.mpr ⟨q, hq, hw⟩)⟩
set_option maxRecDepth 100000 in
theorem ownb4 : MTK4.all (fun q => ownB CLS q.1 q.2) = true := by decide +kernel
set_option maxRecDepth 100000 in
theorem ownw4 : ∀ w ∈ MTK4.flatMap (fun q => ownW q.1 q.2), w ∈ TW := tw_in [(7, 1), (11, 234), (7, 1), (11, 231), (7, 1), (12, 7), (7, 1), (12, 4), (7, 12), (12, 159), (12, 160), (7, 12), (13, 124), (2, 9), (7, 12), (14, 103), (7, 12), (12, 165), (7, 12), (13, 111), (13, 112), (7, 12), (13, 132), (2, 11), (7, 12), (13, 167), (3, 0), (7, 12), (13, 140), (2, 13), (7, 12), (13, 147), (7, 12), (13, 186), (7, 12), (13, 144), (2, 14), (7, 12), (13, 161), (7, 12), (13, 175), (3, 2), (7, 12), (13, 183), (3, 4), (7, 12), (13, 190), (3, 5), (7, 12), (13, 136), (2, 12), (7, 12), (13, 128), (2, 10), (7, 12), (13, 194), (3, 6), (7, 12), (13, 115), (13, 116), (7, 12), (12, 178), (2, 8), (7, 12), (12, 170), (2, 6), (7, 12), (12, 174), (2, 7), (7, 12), (13, 157), (7, 12), (13, 152), (2, 15), (7, 12), (13, 171), (3, 1), (7, 12), (13, 179), (3, 3), (7, 12), (13, 119), (13, 120), (7, 12), (13, 218), (3, 11), (7, 12), (13, 214), (3, 10), (7, 12), (13, 202), (3, 7), (7, 12), (13, 206), (3, 8), (7, 12), (13, 223), (3, 12), (7, 12), (13, 228), (3, 13), (7, 12), (13, 210), (3, 9), (7, 12), (13, 197), (13, 198), (7, 12), (14, 85), (5, 0), (7, 12), (14, 88)] (by decide +kernel) (by decide +kernel)
set_option maxRecDepth 100000 in
theorem cd_X10_power : codeW M_X10_power ∈ TW := tw_of 11 235 rfl rfl
set_option maxRecDepth 100000 in
theorem cd_X10_waysToChoose : codeW M_X10_waysToChoose ∈ TW := tw_of 11 232 rfl rfl
set_option maxRecDepth 100000 in
theorem cd_X10_gain : codeW M_X10_gain ∈ TW := tw_of 12 8 rfl rfl
set_option maxRecDepth 100000 in
theorem cd_X10_isRest : codeW M_X10_isRest ∈ TW := tw_of 12 5 rfl rfl
set_option maxRecDepth 100000 in
theorem cd_X11_thrown : codeW M_X11_thrown ∈ TW := tw_of 12 161 rfl rfl
set_option maxRecDepth 100000 in
theorem cd_X11_may : codeW M_X11_may ∈ TW := tw_of 13 125 rfl rfl
set_option maxRecDepth 100000 in
theorem cd_X11_within : codeW M_X11_within ∈ TW := tw_of 14 104 rfl rfl
set_option maxRecDepth 100000 in
theorem cd_X11_init : codeW M_X11_init ∈ TW := tw_of 12 166 rfl rfl
set_option maxRecDepth 100000 in
theorem cd_X11_feed : codeW M_X11_feed ∈ TW := tw_of 13 113 rfl rfl
set_option maxRecDepth 100000 in
theorem cd_X11_fine : codeW M_X11_fine ∈ TW := tw_of 13 133 rfl rfl
set_option maxRecDepth 100000 in
theorem cd_X11_wrong : codeW M_X11_wrong ∈ TW := tw_of 13 168 rfl rfl
set_option maxRecDepth 100000 in
theorem cd_X11_here : codeW M_X11_here ∈ TW := tw_of 13 141 rfl rfl
set_option maxRecDepth 100000 in
theorem cd_X11_isSmall : codeW M_X11_isSmall ∈ TW := tw_of 13 148 rfl rfl
set_option maxRecDepth 100000 in
theorem cd_X11_isDigit : codeW M_X11_isDigit ∈ TW := tw_of 13 187 rfl rfl
set_option maxRecDepth 100000 in
theorem cd_X11_word : codeW M_X11_word ∈ TW := tw_of 13 145 rfl rfl
set_option maxRecDepth 100000 in
theorem cd_X11_of : codeW M_X11_of ∈ TW := tw_of 13 162 rfl rfl
set_option maxRecDepth 100000 in
theorem cd_X11_pass : codeW M_X11_pass ∈ TW := tw_of 13 176 rfl rfl
set_option maxRecDepth 100000 in
theorem cd_X11_readNumber : codeW M_X11_readNumber ∈ TW := tw_of 13 184 rfl rfl
set_option maxRecDepth 100000 in
theorem cd_X11_sign : codeW M_X11_sign ∈ TW := tw_of 13 191 rfl rfl
set_option maxRecDepth 100000 in
theorem cd_X11_isMore : codeW M_X11_isMore ∈ TW := tw_of 13 137 rfl rfl
set_option maxRecDepth 100000 in
theorem cd_X11_begins : codeW M_X11_begins ∈ TW := tw_of 13 129 rfl rfl
set_option maxRecDepth 100000 in
theorem cd_X11_result : codeW M_X11_result ∈ TW := tw_of 13 195 rfl rfl
set_option maxRecDepth 100000 in
theorem cd_X11_fault : codeW M_X11_fault ∈ TW := tw_of 13 117 rfl rfl
set_option maxRecDepth 100000 in
theorem cd_X11_copies : codeW M_X11_copies ∈ TW := tw_of 12 179 rfl rfl
set_option maxRecDepth 100000 in
theorem cd_X11_clears : codeW M_X11_clears ∈ TW := tw_of 12 171 rfl rfl
set_option maxRecDepth 100000 in
theorem cd_X11_sets : codeW M_X11_sets ∈ TW := tw_of 12 175 rfl rfl
set_option maxRecDepth 100000 in
theorem cd_X11_rowOf : codeW M_X11_rowOf ∈ TW := tw_of 13 158 rfl rfl
set_option maxRecDepth 100000 in
theorem cd_X11_standsHere : codeW M_X11_standsHere ∈ TW := tw_of 13 153 rfl rfl
set_option maxRecDepth 100000 in
theorem cd_X11_isFull : codeW M_X11_isFull ∈ TW := tw_of 13 172 rfl rfl
set_option maxRecDepth 100000 in
theorem cd_X11_readRow : codeW M_X11_readRow ∈ TW := tw_of 13 180 rfl rfl
set_option maxRecDepth 100000 in
theorem cd_X11_court : codeW M_X11_court ∈ TW := tw_of 13 121 rfl rfl
set_option maxRecDepth 100000 in
theorem cd_X11_emit : codeW M_X11_emit ∈ TW := tw_of 13 219 rfl rfl
set_option maxRecDepth 100000 in
theorem cd_X11_opensOne : codeW M_X11_opensOne ∈ TW := tw_of 13 215 rfl rfl
set_option maxRecDepth 100000 in
theorem cd_X11_readSum : codeW M_X11_readSum ∈ TW := tw_of 13 203 rfl rfl
set_option maxRecDepth 100000 in
theorem cd_X11_readProduct : codeW M_X11_readProduct ∈ TW := tw_of 13 207 rfl rfl
set_option maxRecDepth 100000 in
theorem cd_X11_readTwo : codeW M_X11_readTwo ∈ TW := tw_of 13 224 rfl rfl
set_option maxRecDepth 100000 in
theorem cd_X11_factHere : codeW M_X11_factHere ∈ TW := tw_of 13 229 rfl rfl
set_option maxRecDepth 100000 in
theorem cd_X11_readUnit : codeW M_X11_readUnit ∈ TW := tw_of 13 211 rfl rfl
set_option maxRecDepth 100000 in
theorem cd_X11_law : codeW M_X11_law ∈ TW := tw_of 13 199 rfl rfl
set_option maxRecDepth 100000 in
theorem cd_X11_valueNow : codeW M_X11_valueNow ∈ TW := tw_of 14 86 rfl rfl
set_option maxRecDepth 100000 in
theorem cd_X11_both : codeW M_X11_both ∈ TW := tw_of 14 89 rfl rfl
set_option maxRecDepth 100000 in
theorem ownc4 : ∀ q ∈ MTK4, codeW q.1 ∈ TW := List.forall_mem_cons.mpr ⟨cd_X10_power, List.forall_mem_cons.mpr ⟨cd_X10_waysToChoose, List.forall_mem_cons.mpr ⟨cd_X10_gain, List.forall_mem_cons.mpr ⟨cd_X10_isRest, List.forall_mem_cons.mpr ⟨cd_X11_thrown, List.forall_mem_cons.mpr ⟨cd_X11_may, List.forall_mem_cons.mpr ⟨cd_X11_within, List.forall_mem_cons.mpr ⟨cd_X11_init, List.forall_mem_cons.mpr ⟨cd_X11_feed, List.forall_mem_cons.mpr ⟨cd_X11_fine, List.forall_mem_cons.mpr ⟨cd_X11_wrong, List.forall_mem_cons.mpr ⟨cd_X11_here, List.forall_mem_cons.mpr ⟨cd_X11_isSmall, List.forall_mem_cons.mpr ⟨cd_X11_isDigit, List.forall_mem_cons.mpr ⟨cd_X11_word, List.forall_mem_cons.mpr ⟨cd_X11_of, List.forall_mem_cons.mpr ⟨cd_X11_pass, List.forall_mem_cons.mpr ⟨cd_X11_readNumber, List.forall_mem_cons.mpr ⟨cd_X11_sign, List.forall_mem_cons.mpr ⟨cd_X11_isMore, List.forall_mem_cons.mpr ⟨cd_X11_begins, List.forall_mem_cons.mpr ⟨cd_X11_result, List.forall_mem_cons.mpr ⟨cd_X11_fault, List.forall_mem_cons.mpr ⟨cd_X11_copies, List.forall_mem_cons.mpr ⟨cd_X11_clears, List.forall_mem_cons.mpr ⟨cd_X11_sets, List.forall_mem_cons.mpr ⟨cd_X11_rowOf, List.forall_mem_cons.mpr ⟨cd_X11_standsHere, List.forall_mem_cons.mpr ⟨cd_X11_isFull, List.forall_mem_cons.mpr ⟨cd_X11_readRow, List.forall_mem_cons.mpr ⟨cd_X11_court, List.forall_mem_cons.mpr ⟨cd_X11_emit, List.forall_mem_cons.mpr ⟨cd_X11_opensOne, List.forall_mem_cons.mpr ⟨cd_X11_readSum, List.forall_mem_cons.mpr ⟨cd_X11_readProduct, List.forall_mem_cons.mpr ⟨cd_X11_readTwo, List.forall_mem_cons.mpr ⟨cd_X11_factHere, List.forall_mem_cons.mpr ⟨cd_X11_readUnit, List.forall_mem_cons.mpr ⟨cd_X11_law, List.forall_mem_cons.mpr ⟨cd_X11_valueNow, List.forall_mem_cons.mpr ⟨cd_X11_both, fun _ h => nomatch h⟩⟩⟩⟩⟩⟩⟩⟩⟩⟩⟩⟩⟩⟩⟩⟩⟩⟩⟩⟩⟩⟩⟩⟩⟩⟩⟩⟩⟩⟩⟩⟩⟩⟩⟩⟩⟩⟩⟩⟩⟩
theorem own4 : ∀ q ∈ MTK4, ownP q := fun q hq => ⟨List.all_eq_true.mp ownb4 q hq, ownc4 q hq, fun w hw => ownw4 w (List.mem_flatMap.mpr ⟨q, hq, hw⟩)⟩
set_option maxRecDepth 100000 in
theorem ownb5 : MTK5.all (fun q => ownB CLS q.1 q.2) = true := by decide +kernel
set_option maxRecDepth 100000 in
theorem ownw5 : ∀ w ∈ MTK5.flatMap (fun q => ownW q.1 q.2), w ∈ TW := tw_in [(7, 12), (14, 81), (4, 15), (7, 12), (14, 18), (4, 0), (7, 12), (14, 4), (7, 12), (14, 14), (3, 15), (7, 12), (14, 1), (3, 14), (7, 12), (13, 236), (13, 237), (7, 12), (14, 26), (4, 2), (7, 12), (14, 22), (4, 1), (7, 12), (14, 190), (7, 12), (14, 73), (4, 13), (7, 12), (14, 45), (7, 12), (14, 77), (4, 14), (7, 12), (14, 69), (4, 12), (7, 12), (14, 65), (4, 11), (7, 12), (14, 61), (4, 10), (7, 12), (14, 123), (5, 5), (7, 12), (14, 57), (4, 9), (7, 12), (14, 111), (5, 2), (7, 12), (14, 115), (5, 3), (7, 12), (14, 135), (5, 7), (7, 12), (14, 131), (5, 6), (7, 12), (14, 107), (5, 1), (7, 12), (14, 34), (4, 4), (7, 12), (14, 42), (4, 6), (7, 12), (14, 38), (4, 5), (7, 12), (14, 49), (4, 7), (7, 12), (14, 53), (4, 8), (7, 12), (14, 30), (4, 3), (7, 12), (14, 91), (14, 92), (7, 12), (14, 95), (14, 96), (7, 12), (14, 119), (5, 4), (7, 12), (14, 99), (14, 100), (7, 12), (14, 126), (14, 127), (7, 12), (14, 143), (5, 8), (7, 12), (14, 151), (5, 9), (7, 12), (14, 159), (5, 10), (7, 12), (14, 138), (14, 139), (7, 12), (14, 146), (14, 147), (7, 12), (14, 154), (14, 155), (7, 12), (14, 162), (14, 163), (7, 12), (14, 166), (14, 167)] (by decide +kernel) (by decide +kernel)
set_option maxRecDepth 100000 in
theorem cd_X11_walkNow : codeW M_X11_walkNow ∈ TW := tw_of 14 82 rfl rfl
set_option maxRecDepth 100000 in
theorem cd_X11_tellsStep : codeW M_X11_tellsStep ∈ TW := tw_of 14 19 rfl rfl
set_option maxRecDepth 100000 in
theorem cd_X11_stepOf : codeW M_X11_stepOf ∈ TW := tw_of 14 5 rfl rfl
set_option maxRecDepth 100000 in
theorem cd_X11_readAgain : codeW M_X11_readAgain ∈ TW := tw_of 14 15 rfl rfl
set_option maxRecDepth 100000 in
theorem cd_X11_readStep : codeW M_X11_readStep ∈ TW := tw_of 14 2 rfl rfl
set_option maxRecDepth 100000 in
theorem cd_X11_work : codeW M_X11_work ∈ TW := tw_of 13 238 rfl rfl
set_option maxRecDepth 100000 in
theorem cd_X11_goesSteps : codeW M_X11_goesSteps ∈ TW := tw_of 14 27 rfl rfl
set_option maxRecDepth 100000 in
theorem cd_X11_take : codeW M_X11_take ∈ TW := tw_of 14 23 rfl rfl
set_option maxRecDepth 100000 in
theorem cd_X11_ones : codeW M_X11_ones ∈ TW := tw_of 14 191 rfl rfl
set_option maxRecDepth 100000 in
theorem cd_X11_sumOf : codeW M_X11_sumOf ∈ TW := tw_of 14 74 rfl rfl
set_option maxRecDepth 100000 in
theorem cd_X11_held : codeW M_X11_held ∈ TW := tw_of 14 46 rfl rfl
set_option maxRecDepth 100000 in
theorem cd_X11_walkOf : codeW M_X11_walkOf ∈ TW := tw_of 14 78 rfl rfl
set_option maxRecDepth 100000 in
theorem cd_X11_walkBy : codeW M_X11_walkBy ∈ TW := tw_of 14 70 rfl rfl
set_option maxRecDepth 100000 in
theorem cd_X11_isOn : codeW M_X11_isOn ∈ TW := tw_of 14 66 rfl rfl
set_option maxRecDepth 100000 in
theorem cd_X11_overBy : codeW M_X11_overBy ∈ TW := tw_of 14 62 rfl rfl
set_option maxRecDepth 100000 in
theorem cd_X11_birdsAt : codeW M_X11_birdsAt ∈ TW := tw_of 14 124 rfl rfl
set_option maxRecDepth 100000 in
theorem cd_X11_countsNow : codeW M_X11_countsNow ∈ TW := tw_of 14 58 rfl rfl
set_option maxRecDepth 100000 in
theorem cd_X11_saidBy : codeW M_X11_saidBy ∈ TW := tw_of 14 112 rfl rfl
set_option maxRecDepth 100000 in
theorem cd_X11_allFrom : codeW M_X11_allFrom ∈ TW := tw_of 14 116 rfl rfl
set_option maxRecDepth 100000 in
theorem cd_X11_weightOf : codeW M_X11_weightOf ∈ TW := tw_of 14 136 rfl rfl
set_option maxRecDepth 100000 in
theorem cd_X11_leanOf : codeW M_X11_leanOf ∈ TW := tw_of 14 132 rfl rfl
set_option maxRecDepth 100000 in
theorem cd_X11_heardBy : codeW M_X11_heardBy ∈ TW := tw_of 14 108 rfl rfl
set_option maxRecDepth 100000 in
theorem cd_X11_isCalled : codeW M_X11_isCalled ∈ TW := tw_of 14 35 rfl rfl
set_option maxRecDepth 100000 in
theorem cd_X11_mayLead : codeW M_X11_mayLead ∈ TW := tw_of 14 43 rfl rfl
set_option maxRecDepth 100000 in
theorem cd_X11_isLed : codeW M_X11_isLed ∈ TW := tw_of 14 39 rfl rfl
set_option maxRecDepth 100000 in
theorem cd_X11_isPut : codeW M_X11_isPut ∈ TW := tw_of 14 50 rfl rfl
set_option maxRecDepth 100000 in
theorem cd_X11_isNoted : codeW M_X11_isNoted ∈ TW := tw_of 14 54 rfl rfl
set_option maxRecDepth 100000 in
theorem cd_X11_isDone : codeW M_X11_isDone ∈ TW := tw_of 14 31 rfl rfl
set_option maxRecDepth 100000 in
theorem cd_X11_book : codeW M_X11_book ∈ TW := tw_of 14 93 rfl rfl
set_option maxRecDepth 100000 in
theorem cd_X11_undo : codeW M_X11_undo ∈ TW := tw_of 14 97 rfl rfl
set_option maxRecDepth 100000 in
theorem cd_X11_notedNow : codeW M_X11_notedNow ∈ TW := tw_of 14 120 rfl rfl
set_option maxRecDepth 100000 in
theorem cd_X11_told : codeW M_X11_told ∈ TW := tw_of 14 101 rfl rfl
set_option maxRecDepth 100000 in
theorem cd_X11_lean : codeW M_X11_lean ∈ TW := tw_of 14 128 rfl rfl
set_option maxRecDepth 100000 in
theorem cd_X11_isSaying : codeW M_X11_isSaying ∈ TW := tw_of 14 144 rfl rfl
set_option maxRecDepth 100000 in
theorem cd_X11_isBird : codeW M_X11_isBird ∈ TW := tw_of 14 152 rfl rfl
set_option maxRecDepth 100000 in
theorem cd_X11_isCounsel : codeW M_X11_isCounsel ∈ TW := tw_of 14 160 rfl rfl
set_option maxRecDepth 100000 in
theorem cd_X11_saying : codeW M_X11_saying ∈ TW := tw_of 14 140 rfl rfl
set_option maxRecDepth 100000 in
theorem cd_X11_bird : codeW M_X11_bird ∈ TW := tw_of 14 148 rfl rfl
set_option maxRecDepth 100000 in
theorem cd_X11_counsel : codeW M_X11_counsel ∈ TW := tw_of 14 156 rfl rfl
set_option maxRecDepth 100000 in
theorem cd_X11_would : codeW M_X11_would ∈ TW := tw_of 14 164 rfl rfl
set_option maxRecDepth 100000 in
theorem cd_X11_at : codeW M_X11_at ∈ TW := tw_of 14 168 rfl rfl
set_option maxRecDepth 100000 in
theorem ownc5 : ∀ q ∈ MTK5, codeW q.1 ∈ TW := List.forall_mem_cons.mpr ⟨cd_X11_walkNow, List.forall_mem_cons.mpr ⟨cd_X11_tellsStep, List.forall_mem_cons.mpr ⟨cd_X11_stepOf, List.forall_mem_cons.mpr ⟨cd_X11_readAgain, List.forall_mem_cons.mpr ⟨cd_X11_readStep, List.forall_mem_cons.mpr ⟨cd_X11_work, List.forall_mem_cons.mpr ⟨cd_X11_goesSteps, List.forall_mem_cons.mpr ⟨cd_X11_take, List.forall_mem_cons.mpr ⟨cd_X11_ones, List.forall_mem_cons.mpr ⟨cd_X11_sumOf, List.forall_mem_cons.mpr ⟨cd_X11_held, List.forall_mem_cons.mpr ⟨cd_X11_walkOf, List.forall_mem_cons.mpr ⟨cd_X11_walkBy, List.forall_mem_cons.mpr ⟨cd_X11_isOn, List.forall_mem_cons.mpr ⟨cd_X11_overBy, List.forall_mem_cons.mpr ⟨cd_X11_birdsAt, List.forall_mem_cons.mpr ⟨cd_X11_countsNow, List.forall_mem_cons.mpr ⟨cd_X11_saidBy, List.forall_mem_cons.mpr ⟨cd_X11_allFrom, List.forall_mem_cons.mpr ⟨cd_X11_weightOf, List.forall_mem_cons.mpr ⟨cd_X11_leanOf, List.forall_mem_cons.mpr ⟨cd_X11_heardBy, List.forall_mem_cons.mpr ⟨cd_X11_isCalled, List.forall_mem_cons.mpr ⟨cd_X11_mayLead, List.forall_mem_cons.mpr ⟨cd_X11_isLed, List.forall_mem_cons.mpr ⟨cd_X11_isPut, List.forall_mem_cons.mpr ⟨cd_X11_isNoted, List.forall_mem_cons.mpr ⟨cd_X11_isDone, List.forall_mem_cons.mpr ⟨cd_X11_book, List.forall_mem_cons.mpr ⟨cd_X11_undo, List.forall_mem_cons.mpr ⟨cd_X11_notedNow, List.forall_mem_cons.mpr ⟨cd_X11_told, List.forall_mem_cons.mpr ⟨cd_X11_lean, List.forall_mem_cons.mpr ⟨cd_X11_isSaying, List.forall_mem_cons.mpr ⟨cd_X11_isBird, List.forall_mem_cons.mpr ⟨cd_X11_isCounsel, List.forall_mem_cons.mpr ⟨cd_X11_saying, List.forall_mem_cons.mpr ⟨cd_X11_bird, List.forall_mem_cons.mpr ⟨cd_X11_counsel, List.forall_mem_cons.mpr ⟨cd_X11_would, List.forall_mem_cons.mpr ⟨cd_X11_at, fun _ h => nomatch h⟩⟩⟩⟩⟩⟩⟩⟩⟩⟩⟩⟩⟩⟩⟩⟩⟩⟩⟩⟩⟩⟩⟩⟩⟩⟩⟩⟩⟩⟩⟩⟩⟩⟩⟩⟩⟩⟩⟩⟩⟩
theorem own5 : ∀ q ∈ MTK5, ownP q := fun q hq => ⟨List.all_eq_true.mp ownb5 q hq, ownc5 q hq, fun w hw => ownw5 w (List.mem_flatMap.mpr ⟨q, hq, hw⟩)⟩
set_option maxRecDepth 100000 in
theorem ownb6 : MTK6.all (fun q => ownB CLS q.1 q.2) = true := by decide +kernel
set_option maxRecDepth 100000 in
theorem ownw6 : ∀ w ∈ MTK6.flatMap (fun q => ownW q.1 q.2), w ∈ TW := tw_in [(7, 12), (14, 170), (14, 171), (7, 12), (14, 179), (5, 11), (7, 12), (14, 174), (14, 175), (7, 12), (14, 182), (14, 183), (7, 12), (14, 186), (14, 187), (7, 12), (14, 193), (14, 194), (7, 12), (14, 202), (5, 12), (7, 12), (14, 206), (5, 13), (7, 12), (14, 197), (14, 198), (7, 12), (14, 209), (14, 210), (7, 12), (14, 218), (7, 12), (14, 213), (14, 214), (7, 12), (14, 225), (7, 12), (14, 221), (14, 222), (7, 12), (15, 1), (6, 0), (7, 12), (14, 237), (5, 15), (7, 12), (14, 233), (5, 14), (7, 12), (14, 228), (14, 229), (7, 12), (15, 13), (6, 2), (7, 12), (15, 9), (6, 1), (7, 12), (15, 4), (15, 5), (7, 12), (15, 16), (15, 17), (7, 12), (15, 20), (15, 21), (7, 12), (15, 24), (15, 25), (7, 12), (15, 28), (15, 29), (7, 12), (15, 32), (15, 33), (7, 12), (15, 36), (15, 37), (7, 12), (15, 40), (15, 41), (7, 12), (15, 44), (15, 45), (7, 12), (15, 53), (6, 3), (7, 12), (15, 48), (15, 49), (7, 12), (15, 56), (15, 57), (7, 12), (15, 60), (15, 61), (7, 12), (15, 64), (15, 65), (7, 12), (15, 80), (6, 5), (7, 12), (15, 76), (6, 4), (7, 12), (15, 72), (7, 12), (15, 68), (15, 69), (7, 12), (15, 84), (15, 85), (7, 12), (15, 97), (6, 7), (7, 12), (15, 93), (6, 6)] (by decide +kernel) (by decide +kernel)
set_option maxRecDepth 100000 in
theorem cd_X11_clear : codeW M_X11_clear ∈ TW := tw_of 14 172 rfl rfl
set_option maxRecDepth 100000 in
theorem cd_X11_isHidden : codeW M_X11_isHidden ∈ TW := tw_of 14 180 rfl rfl
set_option maxRecDepth 100000 in
theorem cd_X11_hide : codeW M_X11_hide ∈ TW := tw_of 14 176 rfl rfl
set_option maxRecDepth 100000 in
theorem cd_X11_follows : codeW M_X11_follows ∈ TW := tw_of 14 184 rfl rfl
set_option maxRecDepth 100000 in
theorem cd_X11_proof : codeW M_X11_proof ∈ TW := tw_of 14 188 rfl rfl
set_option maxRecDepth 100000 in
theorem cd_X11_turn : codeW M_X11_turn ∈ TW := tw_of 14 195 rfl rfl
set_option maxRecDepth 100000 in
theorem cd_X11_laysCounts : codeW M_X11_laysCounts ∈ TW := tw_of 14 203 rfl rfl
set_option maxRecDepth 100000 in
theorem cd_X11_isFit : codeW M_X11_isFit ∈ TW := tw_of 14 207 rfl rfl
set_option maxRecDepth 100000 in
theorem cd_X11_fits : codeW M_X11_fits ∈ TW := tw_of 14 199 rfl rfl
set_option maxRecDepth 100000 in
theorem cd_X11_look : codeW M_X11_look ∈ TW := tw_of 14 211 rfl rfl
set_option maxRecDepth 100000 in
theorem cd_X11_least : codeW M_X11_least ∈ TW := tw_of 14 219 rfl rfl
set_option maxRecDepth 100000 in
theorem cd_X11_kind : codeW M_X11_kind ∈ TW := tw_of 14 215 rfl rfl
set_option maxRecDepth 100000 in
theorem cd_X11_hasBy : codeW M_X11_hasBy ∈ TW := tw_of 14 226 rfl rfl
set_option maxRecDepth 100000 in
theorem cd_X11_order : codeW M_X11_order ∈ TW := tw_of 14 223 rfl rfl
set_option maxRecDepth 100000 in
theorem cd_X11_bounded : codeW M_X11_bounded ∈ TW := tw_of 15 2 rfl rfl
set_option maxRecDepth 100000 in
theorem cd_X11_loafBy : codeW M_X11_loafBy ∈ TW := tw_of 14 238 rfl rfl
set_option maxRecDepth 100000 in
theorem cd_X11_isSome : codeW M_X11_isSome ∈ TW := tw_of 14 234 rfl rfl
set_option maxRecDepth 100000 in
theorem cd_X11_loaf : codeW M_X11_loaf ∈ TW := tw_of 14 230 rfl rfl
set_option maxRecDepth 100000 in
theorem cd_X11_heaviestOf : codeW M_X11_heaviestOf ∈ TW := tw_of 15 14 rfl rfl
set_option maxRecDepth 100000 in
theorem cd_X11_heaviest : codeW M_X11_heaviest ∈ TW := tw_of 15 10 rfl rfl
set_option maxRecDepth 100000 in
theorem cd_X11_loss : codeW M_X11_loss ∈ TW := tw_of 15 6 rfl rfl
set_option maxRecDepth 100000 in
theorem cd_X11_next : codeW M_X11_next ∈ TW := tw_of 15 18 rfl rfl
set_option maxRecDepth 100000 in
theorem cd_X11_side : codeW M_X11_side ∈ TW := tw_of 15 22 rfl rfl
set_option maxRecDepth 100000 in
theorem cd_X11_leaders : codeW M_X11_leaders ∈ TW := tw_of 15 26 rfl rfl
set_option maxRecDepth 100000 in
theorem cd_X11_used : codeW M_X11_used ∈ TW := tw_of 15 30 rfl rfl
set_option maxRecDepth 100000 in
theorem cd_X11_over : codeW M_X11_over ∈ TW := tw_of 15 34 rfl rfl
set_option maxRecDepth 100000 in
theorem cd_X11_delay : codeW M_X11_delay ∈ TW := tw_of 15 38 rfl rfl
set_option maxRecDepth 100000 in
theorem cd_X11_point : codeW M_X11_point ∈ TW := tw_of 15 42 rfl rfl
set_option maxRecDepth 100000 in
theorem cd_X11_purse : codeW M_X11_purse ∈ TW := tw_of 15 46 rfl rfl
set_option maxRecDepth 100000 in
theorem cd_X11_lastOf : codeW M_X11_lastOf ∈ TW := tw_of 15 54 rfl rfl
set_option maxRecDepth 100000 in
theorem cd_X11_pairs : codeW M_X11_pairs ∈ TW := tw_of 15 50 rfl rfl
set_option maxRecDepth 100000 in
theorem cd_X11_crowd : codeW M_X11_crowd ∈ TW := tw_of 15 58 rfl rfl
set_option maxRecDepth 100000 in
theorem cd_X11_swing : codeW M_X11_swing ∈ TW := tw_of 15 62 rfl rfl
set_option maxRecDepth 100000 in
theorem cd_X11_when : codeW M_X11_when ∈ TW := tw_of 15 66 rfl rfl
set_option maxRecDepth 100000 in
theorem cd_X11_draws : codeW M_X11_draws ∈ TW := tw_of 15 81 rfl rfl
set_option maxRecDepth 100000 in
theorem cd_X11_termGoes : codeW M_X11_termGoes ∈ TW := tw_of 15 77 rfl rfl
set_option maxRecDepth 100000 in
theorem cd_X11_isTerm : codeW M_X11_isTerm ∈ TW := tw_of 15 73 rfl rfl
set_option maxRecDepth 100000 in
theorem cd_X11_term : codeW M_X11_term ∈ TW := tw_of 15 70 rfl rfl
set_option maxRecDepth 100000 in
theorem cd_X11_span : codeW M_X11_span ∈ TW := tw_of 15 86 rfl rfl
set_option maxRecDepth 100000 in
theorem cd_X11_keepsRow : codeW M_X11_keepsRow ∈ TW := tw_of 15 98 rfl rfl
set_option maxRecDepth 100000 in
theorem cd_X11_keepsAll : codeW M_X11_keepsAll ∈ TW := tw_of 15 94 rfl rfl
set_option maxRecDepth 100000 in
theorem ownc6 : ∀ q ∈ MTK6, codeW q.1 ∈ TW := List.forall_mem_cons.mpr ⟨cd_X11_clear, List.forall_mem_cons.mpr ⟨cd_X11_isHidden, List.forall_mem_cons.mpr ⟨cd_X11_hide, List.forall_mem_cons.mpr ⟨cd_X11_follows, List.forall_mem_cons.mpr ⟨cd_X11_proof, List.forall_mem_cons.mpr ⟨cd_X11_turn, List.forall_mem_cons.mpr ⟨cd_X11_laysCounts, List.forall_mem_cons.mpr ⟨cd_X11_isFit, List.forall_mem_cons.mpr ⟨cd_X11_fits, List.forall_mem_cons.mpr ⟨cd_X11_look, List.forall_mem_cons.mpr ⟨cd_X11_least, List.forall_mem_cons.mpr ⟨cd_X11_kind, List.forall_mem_cons.mpr ⟨cd_X11_hasBy, List.forall_mem_cons.mpr ⟨cd_X11_order, List.forall_mem_cons.mpr ⟨cd_X11_bounded, List.forall_mem_cons.mpr ⟨cd_X11_loafBy, List.forall_mem_cons.mpr ⟨cd_X11_isSome, List.forall_mem_cons.mpr ⟨cd_X11_loaf, List.forall_mem_cons.mpr ⟨cd_X11_heaviestOf, List.forall_mem_cons.mpr ⟨cd_X11_heaviest, List.forall_mem_cons.mpr ⟨cd_X11_loss, List.forall_mem_cons.mpr ⟨cd_X11_next, List.forall_mem_cons.mpr ⟨cd_X11_side, List.forall_mem_cons.mpr ⟨cd_X11_leaders, List.forall_mem_cons.mpr ⟨cd_X11_used, List.forall_mem_cons.mpr ⟨cd_X11_over, List.forall_mem_cons.mpr ⟨cd_X11_delay, List.forall_mem_cons.mpr ⟨cd_X11_point, List.forall_mem_cons.mpr ⟨cd_X11_purse, List.forall_mem_cons.mpr ⟨cd_X11_lastOf, List.forall_mem_cons.mpr ⟨cd_X11_pairs, List.forall_mem_cons.mpr ⟨cd_X11_crowd, List.forall_mem_cons.mpr ⟨cd_X11_swing, List.forall_mem_cons.mpr ⟨cd_X11_when, List.forall_mem_cons.mpr ⟨cd_X11_draws, List.forall_mem_cons.mpr ⟨cd_X11_termGoes, List.forall_mem_cons.mpr ⟨cd_X11_isTerm, List.forall_mem_cons.mpr ⟨cd_X11_term, List.forall_mem_cons.mpr ⟨cd_X11_span, List.forall_mem_cons.mpr ⟨cd_X11_keepsRow, List.forall_mem_cons.mpr ⟨cd_X11_keepsAll, fun _ h => nomatch h⟩⟩⟩⟩⟩⟩⟩⟩⟩⟩⟩⟩⟩⟩⟩⟩⟩⟩⟩⟩⟩⟩⟩⟩⟩⟩⟩⟩⟩⟩⟩⟩⟩⟩⟩⟩⟩⟩⟩⟩⟩
theorem own6 : ∀ q ∈ MTK6, ownP q := fun q hq => ⟨List.all_eq_true.mp ownb6 q hq, ownc6 q hq, fun w hw => ownw6 w (List.mem_flatMap.mpr ⟨q, hq, hw⟩)⟩
set_option maxRecDepth 100000 in
theorem ownb7 : MTK7.all (fun q => ownB CLS q.1 q.2) = true := by decide +kernel
set_option maxRecDepth 100000 in
theorem ownw7 : ∀ w ∈ MTK7.flatMap (fun q => ownW q.1 q.2), w ∈ TW := tw_in [(7, 12), (15, 88), (15, 89), (7, 12), (15, 100), (15, 101), (7, 12), (15, 104), (15, 105), (7, 12), (15, 108), (15, 109), (7, 0), (9, 127), (7, 0), (10, 121), (7, 0), (10, 182), (7, 0), (11, 33), (7, 0), (11, 61), (7, 0), (11, 69), (7, 0), (11, 99), (7, 0), (11, 106), (7, 0), (11, 113), (7, 0), (11, 121), (7, 0), (11, 129), (7, 0), (11, 163), (7, 0), (11, 170), (7, 0), (11, 184), (7, 0), (11, 207), (7, 0), (11, 224), (7, 0), (11, 237), (7, 0), (12, 10), (7, 0), (12, 20), (7, 0), (12, 36), (7, 0), (12, 47), (7, 0), (12, 62), (7, 0), (12, 70), (7, 0), (12, 77), (7, 0), (12, 84), (7, 0), (12, 91), (7, 0), (12, 98), (7, 0), (12, 105), (7, 0), (12, 112), (7, 0), (12, 119), (7, 0), (12, 151), (7, 22), (8, 235)] (by decide +kernel) (by decide +kernel)
set_option maxRecDepth 100000 in
theorem cd_X11_image : codeW M_X11_image ∈ TW := tw_of 15 90 rfl rfl
set_option maxRecDepth 100000 in
theorem cd_X11_restore : codeW M_X11_restore ∈ TW := tw_of 15 102 rfl rfl
set_option maxRecDepth 100000 in
theorem cd_X11_status : codeW M_X11_status ∈ TW := tw_of 15 106 rfl rfl
set_option maxRecDepth 100000 in
theorem cd_X11_count : codeW M_X11_count ∈ TW := tw_of 15 110 rfl rfl
set_option maxRecDepth 100000 in
theorem cd_L_court : codeW M_L_court ∈ TW := tw_of 9 128 rfl rfl
set_option maxRecDepth 100000 in
theorem cd_L_law : codeW M_L_law ∈ TW := tw_of 10 122 rfl rfl
set_option maxRecDepth 100000 in
theorem cd_L_work : codeW M_L_work ∈ TW := tw_of 10 183 rfl rfl
set_option maxRecDepth 100000 in
theorem cd_L_book : codeW M_L_book ∈ TW := tw_of 11 34 rfl rfl
set_option maxRecDepth 100000 in
theorem cd_L_told : codeW M_L_told ∈ TW := tw_of 11 62 rfl rfl
set_option maxRecDepth 100000 in
theorem cd_L_saying : codeW M_L_saying ∈ TW := tw_of 11 70 rfl rfl
set_option maxRecDepth 100000 in
theorem cd_L_bird : codeW M_L_bird ∈ TW := tw_of 11 100 rfl rfl
set_option maxRecDepth 100000 in
theorem cd_L_counsel : codeW M_L_counsel ∈ TW := tw_of 11 107 rfl rfl
set_option maxRecDepth 100000 in
theorem cd_L_would : codeW M_L_would ∈ TW := tw_of 11 114 rfl rfl
set_option maxRecDepth 100000 in
theorem cd_L_at : codeW M_L_at ∈ TW := tw_of 11 122 rfl rfl
set_option maxRecDepth 100000 in
theorem cd_L_hide : codeW M_L_hide ∈ TW := tw_of 11 130 rfl rfl
set_option maxRecDepth 100000 in
theorem cd_L_follows : codeW M_L_follows ∈ TW := tw_of 11 164 rfl rfl
set_option maxRecDepth 100000 in
theorem cd_L_proof : codeW M_L_proof ∈ TW := tw_of 11 171 rfl rfl
set_option maxRecDepth 100000 in
theorem cd_L_fits : codeW M_L_fits ∈ TW := tw_of 11 185 rfl rfl
set_option maxRecDepth 100000 in
theorem cd_L_look : codeW M_L_look ∈ TW := tw_of 11 208 rfl rfl
set_option maxRecDepth 100000 in
theorem cd_L_kind : codeW M_L_kind ∈ TW := tw_of 11 225 rfl rfl
set_option maxRecDepth 100000 in
theorem cd_L_order : codeW M_L_order ∈ TW := tw_of 11 238 rfl rfl
set_option maxRecDepth 100000 in
theorem cd_L_loaf : codeW M_L_loaf ∈ TW := tw_of 12 11 rfl rfl
set_option maxRecDepth 100000 in
theorem cd_L_loss : codeW M_L_loss ∈ TW := tw_of 12 21 rfl rfl
set_option maxRecDepth 100000 in
theorem cd_L_next : codeW M_L_next ∈ TW := tw_of 12 37 rfl rfl
set_option maxRecDepth 100000 in
theorem cd_L_side : codeW M_L_side ∈ TW := tw_of 12 48 rfl rfl
set_option maxRecDepth 100000 in
theorem cd_L_leaders : codeW M_L_leaders ∈ TW := tw_of 12 63 rfl rfl
set_option maxRecDepth 100000 in
theorem cd_L_over : codeW M_L_over ∈ TW := tw_of 12 71 rfl rfl
set_option maxRecDepth 100000 in
theorem cd_L_delay : codeW M_L_delay ∈ TW := tw_of 12 78 rfl rfl
set_option maxRecDepth 100000 in
theorem cd_L_point : codeW M_L_point ∈ TW := tw_of 12 85 rfl rfl
set_option maxRecDepth 100000 in
theorem cd_L_purse : codeW M_L_purse ∈ TW := tw_of 12 92 rfl rfl
set_option maxRecDepth 100000 in
theorem cd_L_crowd : codeW M_L_crowd ∈ TW := tw_of 12 99 rfl rfl
set_option maxRecDepth 100000 in
theorem cd_L_swing : codeW M_L_swing ∈ TW := tw_of 12 106 rfl rfl
set_option maxRecDepth 100000 in
theorem cd_L_when : codeW M_L_when ∈ TW := tw_of 12 113 rfl rfl
set_option maxRecDepth 100000 in
theorem cd_L_term : codeW M_L_term ∈ TW := tw_of 12 120 rfl rfl
set_option maxRecDepth 100000 in
theorem cd_L_span : codeW M_L_span ∈ TW := tw_of 12 152 rfl rfl
set_option maxRecDepth 100000 in
theorem cd_J6_bitCount_0f7a4 : codeW M_J6_bitCount_0f7a4 ∈ TW := tw_of 8 236 rfl rfl
set_option maxRecDepth 100000 in
theorem ownc7 : ∀ q ∈ MTK7, codeW q.1 ∈ TW := List.forall_mem_cons.mpr ⟨cd_X11_image, List.forall_mem_cons.mpr ⟨cd_X11_restore, List.forall_mem_cons.mpr ⟨cd_X11_status, List.forall_mem_cons.mpr ⟨cd_X11_count, List.forall_mem_cons.mpr ⟨cd_L_court, List.forall_mem_cons.mpr ⟨cd_L_law, List.forall_mem_cons.mpr ⟨cd_L_work, List.forall_mem_cons.mpr ⟨cd_L_book, List.forall_mem_cons.mpr ⟨cd_L_told, List.forall_mem_cons.mpr ⟨cd_L_saying, List.forall_mem_cons.mpr ⟨cd_L_bird, List.forall_mem_cons.mpr ⟨cd_L_counsel, List.forall_mem_cons.mpr ⟨cd_L_would, List.forall_mem_cons.mpr ⟨cd_L_at, List.forall_mem_cons.mpr ⟨cd_L_hide, List.forall_mem_cons.mpr ⟨cd_L_follows, List.forall_mem_cons.mpr ⟨cd_L_proof, List.forall_mem_cons.mpr ⟨cd_L_fits, List.forall_mem_cons.mpr ⟨cd_L_look, List.forall_mem_cons.mpr ⟨cd_L_kind, List.forall_mem_cons.mpr ⟨cd_L_order, List.forall_mem_cons.mpr ⟨cd_L_loaf, List.forall_mem_cons.mpr ⟨cd_L_loss, List.forall_mem_cons.mpr ⟨cd_L_next, List.forall_mem_cons.mpr ⟨cd_L_side, List.forall_mem_cons.mpr ⟨cd_L_leaders, List.forall_mem_cons.mpr ⟨cd_L_over, List.forall_mem_cons.mpr ⟨cd_L_delay, List.forall_mem_cons.mpr ⟨cd_L_point, List.forall_mem_cons.mpr ⟨cd_L_purse, List.forall_mem_cons.mpr ⟨cd_L_crowd, List.forall_mem_cons.mpr ⟨cd_L_swing, List.forall_mem_cons.mpr ⟨cd_L_when, List.forall_mem_cons.mpr ⟨cd_L_term, List.forall_mem_cons.mpr ⟨cd_L_span, List.forall_mem_cons.mpr ⟨cd_J6_bitCount_0f7a4, fun _ h => nomatch h⟩⟩⟩⟩⟩⟩⟩⟩⟩⟩⟩⟩⟩⟩⟩⟩⟩⟩⟩⟩⟩⟩⟩⟩⟩⟩⟩⟩⟩⟩⟩⟩⟩⟩⟩⟩
theorem own7 : ∀ q ∈ MTK7, ownP q := fun q hq => ⟨List.all_eq_true.mp ownb7 q hq, ownc7 q hq, fun w hw => ownw7 w (List.mem_flatMap.mpr ⟨q, hq, hw⟩)⟩
theorem own_all : ∀ q ∈ MTK, ownP q := List.forall_mem_append.mpr ⟨own0, List.forall_mem_append.mpr ⟨own1, List.forall_mem_append.mpr ⟨own2, List.forall_mem_append.mpr ⟨own3, List.forall_mem_append.mpr ⟨own4, List.forall_mem_append.mpr ⟨own5, List.forall_mem_append.mpr ⟨own6, own7⟩⟩⟩⟩⟩⟩⟩
theorem mt_at {j : Nat} {M : MI} (h : MT[j]? = some M) : ∃ q : MI × Nat, MTK[j]? = some q ∧ q.1 = M := by
  unfold MT at h
  rw [List.getElem?_map, Option.map_eq_some_iff] at h
  exact h
theorem hG_all : ∀ (j : Nat) (M' : MI) (kd : Nat), MT[j]? = some M' → KD[j]? = some kd → ownB CLS M' kd = true ∧ codeW M' ∈ TW ∧ ∀ w ∈ ownW M' kd, w ∈ TW := by
  intro j M' kd h1 h2
  obtain ⟨q, hq, rfl⟩ := mt_at h1
  unfold KD at h2
  rw [List.getElem?_map, hq] at h2
  cases h2
  exact own_all q (List.mem_of_getElem? hq)
