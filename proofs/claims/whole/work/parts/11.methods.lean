/-! ===== the methods, their words, the constants of the classes: printed by program out of the tables ===== -/
theorem gIn0 {w : Cond} (h : w ∈ k2_sels lw_privs) : w ∈ lw_tbl := List.mem_append_left _ h
theorem gInT {w : Cond} (h : w ∈ tables_1) : w ∈ lw_tbl := List.mem_append_right _ h
theorem gIn1 {w : Cond} (h : w ∈ tables_1_1) : w ∈ lw_tbl := gInT (List.mem_append_left _ h)
theorem gIn2 {w : Cond} (h : w ∈ tables_1_2) : w ∈ lw_tbl := gInT (List.mem_append_right _ (List.mem_append_left _ h))
theorem gIn3 {w : Cond} (h : w ∈ tables_1_3) : w ∈ lw_tbl := gInT (List.mem_append_right _ (List.mem_append_right _ (List.mem_append_left _ h)))
theorem gIn4 {w : Cond} (h : w ∈ tables_1_4) : w ∈ lw_tbl := gInT (List.mem_append_right _ (List.mem_append_right _ (List.mem_append_right _ (List.mem_append_left _ h))))
theorem gIn5 {w : Cond} (h : w ∈ tables_1_5) : w ∈ lw_tbl := gInT (List.mem_append_right _ (List.mem_append_right _ (List.mem_append_right _ (List.mem_append_right _ (List.mem_append_left _ h)))))
theorem gIn6 {w : Cond} (h : w ∈ tables_1_6) : w ∈ lw_tbl := gInT (List.mem_append_right _ (List.mem_append_right _ (List.mem_append_right _ (List.mem_append_right _ (List.mem_append_right _ (h))))))
def YX0_init : gY := (yX0_init, cX0_init, 1, none, [])
theorem mt_X0_init : gMt YX0_init := ⟨gW_in (gIn1 (List.mem_of_getElem? (i := 91) rfl)) rfl, gW_in (gIn1 (List.mem_of_getElem? (i := 3) (by decide +kernel))) rfl, by decide +kernel, by decide +kernel, by decide +kernel, rfl⟩
theorem im_X0_init : Cond.instanceMethod YX0_init.1 ∈ gW := gW_in (gIn1 (List.mem_of_getElem? (i := 90) (by decide +kernel))) rfl
theorem np_X0_init : gNp YX0_init.1 = some 0 := by decide +kernel
def YX0_clearBlock : gY := (yX0_clearBlock, cX0_clearBlock, 3, none, [])
theorem mt_X0_clearBlock : gMt YX0_clearBlock := ⟨gW_in (gIn2 (List.mem_of_getElem? (i := 12) rfl)) rfl, gW_in (gIn1 (List.mem_of_getElem? (i := 3) (by decide +kernel))) rfl, by decide +kernel, by decide +kernel, by decide +kernel, rfl⟩
theorem im_X0_clearBlock : Cond.instanceMethod YX0_clearBlock.1 ∈ gW := gW_in (gIn2 (List.mem_of_getElem? (i := 11) (by decide +kernel))) rfl
theorem se_X0_clearBlock : Cond.selects (gRx 0) YX0_clearBlock.1 YX0_clearBlock.1 ∈ gW := gW_in (gIn0 (List.mem_of_getElem? (i := 14) (by decide +kernel))) rfl
theorem np_X0_clearBlock : gNp YX0_clearBlock.1 = some 1 := by decide +kernel
def YX0_load : gY := (yX0_load, cX0_load, 6, none, [])
theorem mt_X0_load : gMt YX0_load := ⟨gW_in (gIn2 (List.mem_of_getElem? (i := 8) rfl)) rfl, gW_in (gIn1 (List.mem_of_getElem? (i := 3) (by decide +kernel))) rfl, by decide +kernel, by decide +kernel, by decide +kernel, rfl⟩
theorem im_X0_load : Cond.instanceMethod YX0_load.1 ∈ gW := gW_in (gIn2 (List.mem_of_getElem? (i := 7) (by decide +kernel))) rfl
theorem se_X0_load : Cond.selects (gRx 0) YX0_load.1 YX0_load.1 ∈ gW := gW_in (gIn0 (List.mem_of_getElem? (i := 13) (by decide +kernel))) rfl
theorem np_X0_load : gNp YX0_load.1 = some 3 := by decide +kernel
def YX0_decode : gY := (yX0_decode, cX0_decode, 7, some .boolean, [])
theorem mt_X0_decode : gMt YX0_decode := ⟨gW_in (gIn2 (List.mem_of_getElem? (i := 4) rfl)) rfl, gW_in (gIn1 (List.mem_of_getElem? (i := 3) (by decide +kernel))) rfl, by decide +kernel, by decide +kernel, by decide +kernel, rfl⟩
theorem im_X0_decode : Cond.instanceMethod YX0_decode.1 ∈ gW := gW_in (gIn2 (List.mem_of_getElem? (i := 3) (by decide +kernel))) rfl
theorem se_X0_decode : Cond.selects (gRx 0) YX0_decode.1 YX0_decode.1 ∈ gW := gW_in (gIn0 (List.mem_of_getElem? (i := 12) (by decide +kernel))) rfl
theorem np_X0_decode : gNp YX0_decode.1 = some 3 := by decide +kernel
def YX0_encode : gY := (yX0_encode, cX0_encode, 1, none, [])
theorem mt_X0_encode : gMt YX0_encode := ⟨gW_in (gIn2 (List.mem_of_getElem? (i := 238) rfl)) rfl, gW_in (gIn1 (List.mem_of_getElem? (i := 3) (by decide +kernel))) rfl, by decide +kernel, by decide +kernel, by decide +kernel, rfl⟩
theorem im_X0_encode : Cond.instanceMethod YX0_encode.1 ∈ gW := gW_in (gIn2 (List.mem_of_getElem? (i := 237) (by decide +kernel))) rfl
theorem se_X0_encode : Cond.selects (gRx 0) YX0_encode.1 YX0_encode.1 ∈ gW := gW_in (gIn0 (List.mem_of_getElem? (i := 30) (by decide +kernel))) rfl
theorem np_X0_encode : gNp YX0_encode.1 = some 0 := by decide +kernel
def YX0_damageCount : gY := (yX0_damageCount, cX0_damageCount, 1, some .int, [])
theorem mt_X0_damageCount : gMt YX0_damageCount := ⟨gW_in (gIn2 (List.mem_of_getElem? (i := 74) rfl)) rfl, gW_in (gIn1 (List.mem_of_getElem? (i := 3) (by decide +kernel))) rfl, by decide +kernel, by decide +kernel, by decide +kernel, rfl⟩
theorem im_X0_damageCount : Cond.instanceMethod YX0_damageCount.1 ∈ gW := gW_in (gIn2 (List.mem_of_getElem? (i := 73) (by decide +kernel))) rfl
theorem se_X0_damageCount : Cond.selects (gRx 0) YX0_damageCount.1 YX0_damageCount.1 ∈ gW := gW_in (gIn0 (List.mem_of_getElem? (i := 21) (by decide +kernel))) rfl
theorem np_X0_damageCount : gNp YX0_damageCount.1 = some 0 := by decide +kernel
def YX0_addSums : gY := (yX0_addSums, cX0_addSums, 4, none, [])
theorem mt_X0_addSums : gMt YX0_addSums := ⟨gW_in (gIn2 (List.mem_of_getElem? (i := 29) rfl)) rfl, gW_in (gIn1 (List.mem_of_getElem? (i := 3) (by decide +kernel))) rfl, by decide +kernel, by decide +kernel, by decide +kernel, rfl⟩
theorem im_X0_addSums : Cond.instanceMethod YX0_addSums.1 ∈ gW := gW_in (gIn2 (List.mem_of_getElem? (i := 28) (by decide +kernel))) rfl
theorem se_X0_addSums : Cond.selects (gRx 0) YX0_addSums.1 YX0_addSums.1 ∈ gW := gW_in (gIn0 (List.mem_of_getElem? (i := 17) (by decide +kernel))) rfl
theorem np_X0_addSums : gNp YX0_addSums.1 = some 0 := by decide +kernel
def YX0_errorSet : gY := (yX0_errorSet, cX0_errorSet, 9, some .int, [])
theorem mt_X0_errorSet : gMt YX0_errorSet := ⟨gW_in (gIn2 (List.mem_of_getElem? (i := 56) rfl)) rfl, gW_in (gIn1 (List.mem_of_getElem? (i := 3) (by decide +kernel))) rfl, by decide +kernel, by decide +kernel, by decide +kernel, rfl⟩
theorem sf_X0_errorSet : Cond.static YX0_errorSet.1 ∈ gW := gW_in (gIn2 (List.mem_of_getElem? (i := 55) (by decide +kernel))) rfl
theorem np_X0_errorSet : gNp YX0_errorSet.1 = some 7 := by decide +kernel
def YX0_isZero : gY := (yX0_isZero, cX0_isZero, 3, some .boolean, [])
theorem mt_X0_isZero : gMt YX0_isZero := ⟨gW_in (gIn2 (List.mem_of_getElem? (i := 59) rfl)) rfl, gW_in (gIn1 (List.mem_of_getElem? (i := 3) (by decide +kernel))) rfl, by decide +kernel, by decide +kernel, by decide +kernel, rfl⟩
theorem sf_X0_isZero : Cond.static YX0_isZero.1 ∈ gW := gW_in (gIn2 (List.mem_of_getElem? (i := 58) (by decide +kernel))) rfl
theorem np_X0_isZero : gNp YX0_isZero.1 = some 2 := by decide +kernel
def YX0_cancel : gY := (yX0_cancel, cX0_cancel, 5, none, [])
theorem mt_X0_cancel : gMt YX0_cancel := ⟨gW_in (gIn2 (List.mem_of_getElem? (i := 53) rfl)) rfl, gW_in (gIn1 (List.mem_of_getElem? (i := 3) (by decide +kernel))) rfl, by decide +kernel, by decide +kernel, by decide +kernel, rfl⟩
theorem sf_X0_cancel : Cond.static YX0_cancel.1 ∈ gW := gW_in (gIn2 (List.mem_of_getElem? (i := 52) (by decide +kernel))) rfl
theorem np_X0_cancel : gNp YX0_cancel.1 = some 4 := by decide +kernel
def YX0_cancelErasures : gY := (yX0_cancelErasures, cX0_cancelErasures, 3, none, [])
theorem mt_X0_cancelErasures : gMt YX0_cancelErasures := ⟨gW_in (gIn2 (List.mem_of_getElem? (i := 47) rfl)) rfl, gW_in (gIn1 (List.mem_of_getElem? (i := 3) (by decide +kernel))) rfl, by decide +kernel, by decide +kernel, by decide +kernel, rfl⟩
theorem im_X0_cancelErasures : Cond.instanceMethod YX0_cancelErasures.1 ∈ gW := gW_in (gIn2 (List.mem_of_getElem? (i := 46) (by decide +kernel))) rfl
theorem se_X0_cancelErasures : Cond.selects (gRx 0) YX0_cancelErasures.1 YX0_cancelErasures.1 ∈ gW := gW_in (gIn0 (List.mem_of_getElem? (i := 18) (by decide +kernel))) rfl
theorem np_X0_cancelErasures : gNp YX0_cancelErasures.1 = some 0 := by decide +kernel
def YX0_solve : gY := (yX0_solve, cX0_solve, 3, none, [])
theorem mt_X0_solve : gMt YX0_solve := ⟨gW_in (gIn2 (List.mem_of_getElem? (i := 63) rfl)) rfl, gW_in (gIn1 (List.mem_of_getElem? (i := 3) (by decide +kernel))) rfl, by decide +kernel, by decide +kernel, by decide +kernel, rfl⟩
theorem im_X0_solve : Cond.instanceMethod YX0_solve.1 ∈ gW := gW_in (gIn2 (List.mem_of_getElem? (i := 62) (by decide +kernel))) rfl
theorem se_X0_solve : Cond.selects (gRx 0) YX0_solve.1 YX0_solve.1 ∈ gW := gW_in (gIn0 (List.mem_of_getElem? (i := 19) (by decide +kernel))) rfl
theorem np_X0_solve : gNp YX0_solve.1 = some 1 := by decide +kernel
def YX0_difference : gY := (yX0_difference, cX0_difference, 6, some .int, [])
theorem mt_X0_difference : gMt YX0_difference := ⟨gW_in (gIn2 (List.mem_of_getElem? (i := 67) rfl)) rfl, gW_in (gIn1 (List.mem_of_getElem? (i := 3) (by decide +kernel))) rfl, by decide +kernel, by decide +kernel, by decide +kernel, rfl⟩
theorem im_X0_difference : Cond.instanceMethod YX0_difference.1 ∈ gW := gW_in (gIn2 (List.mem_of_getElem? (i := 66) (by decide +kernel))) rfl
theorem se_X0_difference : Cond.selects (gRx 0) YX0_difference.1 YX0_difference.1 ∈ gW := gW_in (gIn0 (List.mem_of_getElem? (i := 20) (by decide +kernel))) rfl
theorem np_X0_difference : gNp YX0_difference.1 = some 2 := by decide +kernel
def YX1_init : gY := (yX1_init, cX1_init, 1, none, [])
theorem mt_X1_init : gMt YX1_init := ⟨gW_in (gIn1 (List.mem_of_getElem? (i := 31) rfl)) rfl, gW_in (gIn1 (List.mem_of_getElem? (i := 2) (by decide +kernel))) rfl, by decide +kernel, by decide +kernel, by decide +kernel, rfl⟩
theorem im_X1_init : Cond.instanceMethod YX1_init.1 ∈ gW := gW_in (gIn1 (List.mem_of_getElem? (i := 30) (by decide +kernel))) rfl
theorem np_X1_init : gNp YX1_init.1 = some 0 := by decide +kernel
def YX1_takeOver : gY := (yX1_takeOver, cX1_takeOver, 2, none, [])
theorem mt_X1_takeOver : gMt YX1_takeOver := ⟨gW_in (gIn2 (List.mem_of_getElem? (i := 86) rfl)) rfl, gW_in (gIn1 (List.mem_of_getElem? (i := 2) (by decide +kernel))) rfl, by decide +kernel, by decide +kernel, by decide +kernel, rfl⟩
theorem im_X1_takeOver : Cond.instanceMethod YX1_takeOver.1 ∈ gW := gW_in (gIn2 (List.mem_of_getElem? (i := 85) (by decide +kernel))) rfl
theorem se_X1_takeOver : Cond.selects (gRx 1) YX1_takeOver.1 YX1_takeOver.1 ∈ gW := gW_in (gIn0 (List.mem_of_getElem? (i := 22) (by decide +kernel))) rfl
theorem np_X1_takeOver : gNp YX1_takeOver.1 = some 1 := by decide +kernel
def YX1_reset : gY := (yX1_reset, cX1_reset, 2, none, [])
theorem mt_X1_reset : gMt YX1_reset := ⟨gW_in (gIn1 (List.mem_of_getElem? (i := 184) rfl)) rfl, gW_in (gIn1 (List.mem_of_getElem? (i := 2) (by decide +kernel))) rfl, by decide +kernel, by decide +kernel, by decide +kernel, rfl⟩
theorem im_X1_reset : Cond.instanceMethod YX1_reset.1 ∈ gW := gW_in (gIn1 (List.mem_of_getElem? (i := 183) (by decide +kernel))) rfl
theorem se_X1_reset : Cond.selects (gRx 1) YX1_reset.1 YX1_reset.1 ∈ gW := gW_in (gIn0 (List.mem_of_getElem? (i := 2) (by decide +kernel))) rfl
theorem np_X1_reset : gNp YX1_reset.1 = some 0 := by decide +kernel
def YX1_hasFile : gY := (yX1_hasFile, cX1_hasFile, 2, some .boolean, [])
theorem mt_X1_hasFile : gMt YX1_hasFile := ⟨gW_in (gIn1 (List.mem_of_getElem? (i := 180) rfl)) rfl, gW_in (gIn1 (List.mem_of_getElem? (i := 2) (by decide +kernel))) rfl, by decide +kernel, by decide +kernel, by decide +kernel, rfl⟩
theorem im_X1_hasFile : Cond.instanceMethod YX1_hasFile.1 ∈ gW := gW_in (gIn1 (List.mem_of_getElem? (i := 179) (by decide +kernel))) rfl
theorem se_X1_hasFile : Cond.selects (gRx 1) YX1_hasFile.1 YX1_hasFile.1 ∈ gW := gW_in (gIn0 (List.mem_of_getElem? (i := 1) (by decide +kernel))) rfl
theorem np_X1_hasFile : gNp YX1_hasFile.1 = some 1 := by decide +kernel
def YX1_hasBlock : gY := (yX1_hasBlock, cX1_hasBlock, 3, some .boolean, [])
theorem mt_X1_hasBlock : gMt YX1_hasBlock := ⟨gW_in (gIn3 (List.mem_of_getElem? (i := 105) rfl)) rfl, gW_in (gIn1 (List.mem_of_getElem? (i := 2) (by decide +kernel))) rfl, by decide +kernel, by decide +kernel, by decide +kernel, rfl⟩
theorem im_X1_hasBlock : Cond.instanceMethod YX1_hasBlock.1 ∈ gW := gW_in (gIn3 (List.mem_of_getElem? (i := 104) (by decide +kernel))) rfl
theorem se_X1_hasBlock : Cond.selects (gRx 1) YX1_hasBlock.1 YX1_hasBlock.1 ∈ gW := gW_in (gIn0 (List.mem_of_getElem? (i := 35) (by decide +kernel))) rfl
theorem np_X1_hasBlock : gNp YX1_hasBlock.1 = some 2 := by decide +kernel
def YX1_hasPosition : gY := (yX1_hasPosition, cX1_hasPosition, 4, some .boolean, [])
theorem mt_X1_hasPosition : gMt YX1_hasPosition := ⟨gW_in (gIn3 (List.mem_of_getElem? (i := 101) rfl)) rfl, gW_in (gIn1 (List.mem_of_getElem? (i := 2) (by decide +kernel))) rfl, by decide +kernel, by decide +kernel, by decide +kernel, rfl⟩
theorem im_X1_hasPosition : Cond.instanceMethod YX1_hasPosition.1 ∈ gW := gW_in (gIn3 (List.mem_of_getElem? (i := 100) (by decide +kernel))) rfl
theorem se_X1_hasPosition : Cond.selects (gRx 1) YX1_hasPosition.1 YX1_hasPosition.1 ∈ gW := gW_in (gIn0 (List.mem_of_getElem? (i := 34) (by decide +kernel))) rfl
theorem np_X1_hasPosition : gNp YX1_hasPosition.1 = some 3 := by decide +kernel
def YX1_fileCount : gY := (yX1_fileCount, cX1_fileCount, 3, some .int, [])
theorem mt_X1_fileCount : gMt YX1_fileCount := ⟨gW_in (gIn1 (List.mem_of_getElem? (i := 176) rfl)) rfl, gW_in (gIn1 (List.mem_of_getElem? (i := 2) (by decide +kernel))) rfl, by decide +kernel, by decide +kernel, by decide +kernel, rfl⟩
theorem im_X1_fileCount : Cond.instanceMethod YX1_fileCount.1 ∈ gW := gW_in (gIn1 (List.mem_of_getElem? (i := 175) (by decide +kernel))) rfl
theorem se_X1_fileCount : Cond.selects (gRx 1) YX1_fileCount.1 YX1_fileCount.1 ∈ gW := gW_in (gIn0 (List.mem_of_getElem? (i := 0) (by decide +kernel))) rfl
theorem np_X1_fileCount : gNp YX1_fileCount.1 = some 0 := by decide +kernel
def YX1_freeFile : gY := (yX1_freeFile, cX1_freeFile, 2, some .int, [])
theorem mt_X1_freeFile : gMt YX1_freeFile := ⟨gW_in (gIn2 (List.mem_of_getElem? (i := 205) rfl)) rfl, gW_in (gIn1 (List.mem_of_getElem? (i := 2) (by decide +kernel))) rfl, by decide +kernel, by decide +kernel, by decide +kernel, rfl⟩
theorem im_X1_freeFile : Cond.instanceMethod YX1_freeFile.1 ∈ gW := gW_in (gIn2 (List.mem_of_getElem? (i := 204) (by decide +kernel))) rfl
theorem se_X1_freeFile : Cond.selects (gRx 1) YX1_freeFile.1 YX1_freeFile.1 ∈ gW := gW_in (gIn0 (List.mem_of_getElem? (i := 24) (by decide +kernel))) rfl
theorem np_X1_freeFile : gNp YX1_freeFile.1 = some 0 := by decide +kernel
def YX1_enter : gY := (yX1_enter, cX1_enter, 7, none, [])
theorem mt_X1_enter : gMt YX1_enter := ⟨gW_in (gIn2 (List.mem_of_getElem? (i := 221) rfl)) rfl, gW_in (gIn1 (List.mem_of_getElem? (i := 2) (by decide +kernel))) rfl, by decide +kernel, by decide +kernel, by decide +kernel, rfl⟩
theorem im_X1_enter : Cond.instanceMethod YX1_enter.1 ∈ gW := gW_in (gIn2 (List.mem_of_getElem? (i := 220) (by decide +kernel))) rfl
theorem se_X1_enter : Cond.selects (gRx 1) YX1_enter.1 YX1_enter.1 ∈ gW := gW_in (gIn0 (List.mem_of_getElem? (i := 27) (by decide +kernel))) rfl
theorem np_X1_enter : gNp YX1_enter.1 = some 5 := by decide +kernel
def YX1_drop : gY := (yX1_drop, cX1_drop, 2, none, [])
theorem mt_X1_drop : gMt YX1_drop := ⟨gW_in (gIn1 (List.mem_of_getElem? (i := 188) rfl)) rfl, gW_in (gIn1 (List.mem_of_getElem? (i := 2) (by decide +kernel))) rfl, by decide +kernel, by decide +kernel, by decide +kernel, rfl⟩
theorem im_X1_drop : Cond.instanceMethod YX1_drop.1 ∈ gW := gW_in (gIn1 (List.mem_of_getElem? (i := 187) (by decide +kernel))) rfl
theorem se_X1_drop : Cond.selects (gRx 1) YX1_drop.1 YX1_drop.1 ∈ gW := gW_in (gIn0 (List.mem_of_getElem? (i := 3) (by decide +kernel))) rfl
theorem np_X1_drop : gNp YX1_drop.1 = some 1 := by decide +kernel
def YX1_blockSize : gY := (yX1_blockSize, cX1_blockSize, 2, some .int, [])
theorem mt_X1_blockSize : gMt YX1_blockSize := ⟨gW_in (gIn1 (List.mem_of_getElem? (i := 225) rfl)) rfl, gW_in (gIn1 (List.mem_of_getElem? (i := 2) (by decide +kernel))) rfl, by decide +kernel, by decide +kernel, by decide +kernel, rfl⟩
theorem im_X1_blockSize : Cond.instanceMethod YX1_blockSize.1 ∈ gW := gW_in (gIn1 (List.mem_of_getElem? (i := 224) (by decide +kernel))) rfl
theorem se_X1_blockSize : Cond.selects (gRx 1) YX1_blockSize.1 YX1_blockSize.1 ∈ gW := gW_in (gIn0 (List.mem_of_getElem? (i := 10) (by decide +kernel))) rfl
theorem np_X1_blockSize : gNp YX1_blockSize.1 = some 1 := by decide +kernel
def YX1_areaSize : gY := (yX1_areaSize, cX1_areaSize, 2, some .int, [])
theorem mt_X1_areaSize : gMt YX1_areaSize := ⟨gW_in (gIn1 (List.mem_of_getElem? (i := 221) rfl)) rfl, gW_in (gIn1 (List.mem_of_getElem? (i := 2) (by decide +kernel))) rfl, by decide +kernel, by decide +kernel, by decide +kernel, rfl⟩
theorem im_X1_areaSize : Cond.instanceMethod YX1_areaSize.1 ∈ gW := gW_in (gIn1 (List.mem_of_getElem? (i := 220) (by decide +kernel))) rfl
theorem se_X1_areaSize : Cond.selects (gRx 1) YX1_areaSize.1 YX1_areaSize.1 ∈ gW := gW_in (gIn0 (List.mem_of_getElem? (i := 9) (by decide +kernel))) rfl
theorem np_X1_areaSize : gNp YX1_areaSize.1 = some 1 := by decide +kernel
def YX1_areaStart : gY := (yX1_areaStart, cX1_areaStart, 2, some .int, [])
theorem mt_X1_areaStart : gMt YX1_areaStart := ⟨gW_in (gIn1 (List.mem_of_getElem? (i := 213) rfl)) rfl, gW_in (gIn1 (List.mem_of_getElem? (i := 2) (by decide +kernel))) rfl, by decide +kernel, by decide +kernel, by decide +kernel, rfl⟩
theorem im_X1_areaStart : Cond.instanceMethod YX1_areaStart.1 ∈ gW := gW_in (gIn1 (List.mem_of_getElem? (i := 212) (by decide +kernel))) rfl
theorem se_X1_areaStart : Cond.selects (gRx 1) YX1_areaStart.1 YX1_areaStart.1 ∈ gW := gW_in (gIn0 (List.mem_of_getElem? (i := 7) (by decide +kernel))) rfl
theorem np_X1_areaStart : gNp YX1_areaStart.1 = some 1 := by decide +kernel
def YX1_areaEnd : gY := (yX1_areaEnd, cX1_areaEnd, 2, some .int, [])
theorem mt_X1_areaEnd : gMt YX1_areaEnd := ⟨gW_in (gIn1 (List.mem_of_getElem? (i := 217) rfl)) rfl, gW_in (gIn1 (List.mem_of_getElem? (i := 2) (by decide +kernel))) rfl, by decide +kernel, by decide +kernel, by decide +kernel, rfl⟩
theorem im_X1_areaEnd : Cond.instanceMethod YX1_areaEnd.1 ∈ gW := gW_in (gIn1 (List.mem_of_getElem? (i := 216) (by decide +kernel))) rfl
theorem se_X1_areaEnd : Cond.selects (gRx 1) YX1_areaEnd.1 YX1_areaEnd.1 ∈ gW := gW_in (gIn0 (List.mem_of_getElem? (i := 8) (by decide +kernel))) rfl
theorem np_X1_areaEnd : gNp YX1_areaEnd.1 = some 1 := by decide +kernel
def YX1_groupSize : gY := (yX1_groupSize, cX1_groupSize, 3, some .int, [])
theorem mt_X1_groupSize : gMt YX1_groupSize := ⟨gW_in (gIn2 (List.mem_of_getElem? (i := 24) rfl)) rfl, gW_in (gIn1 (List.mem_of_getElem? (i := 2) (by decide +kernel))) rfl, by decide +kernel, by decide +kernel, by decide +kernel, rfl⟩
theorem im_X1_groupSize : Cond.instanceMethod YX1_groupSize.1 ∈ gW := gW_in (gIn2 (List.mem_of_getElem? (i := 23) (by decide +kernel))) rfl
theorem se_X1_groupSize : Cond.selects (gRx 1) YX1_groupSize.1 YX1_groupSize.1 ∈ gW := gW_in (gIn0 (List.mem_of_getElem? (i := 16) (by decide +kernel))) rfl
theorem np_X1_groupSize : gNp YX1_groupSize.1 = some 2 := by decide +kernel
def YX1_cellAt : gY := (yX1_cellAt, cX1_cellAt, 6, some .int, [])
theorem mt_X1_cellAt : gMt YX1_cellAt := ⟨gW_in (gIn2 (List.mem_of_getElem? (i := 20) rfl)) rfl, gW_in (gIn1 (List.mem_of_getElem? (i := 2) (by decide +kernel))) rfl, by decide +kernel, by decide +kernel, by decide +kernel, rfl⟩
theorem im_X1_cellAt : Cond.instanceMethod YX1_cellAt.1 ∈ gW := gW_in (gIn2 (List.mem_of_getElem? (i := 19) (by decide +kernel))) rfl
theorem se_X1_cellAt : Cond.selects (gRx 1) YX1_cellAt.1 YX1_cellAt.1 ∈ gW := gW_in (gIn0 (List.mem_of_getElem? (i := 15) (by decide +kernel))) rfl
theorem np_X1_cellAt : gNp YX1_cellAt.1 = some 3 := by decide +kernel
def YX1_placeInFile : gY := (yX1_placeInFile, cX1_placeInFile, 8, some .int, [])
theorem mt_X1_placeInFile : gMt YX1_placeInFile := ⟨gW_in (gIn3 (List.mem_of_getElem? (i := 130) rfl)) rfl, gW_in (gIn1 (List.mem_of_getElem? (i := 2) (by decide +kernel))) rfl, by decide +kernel, by decide +kernel, by decide +kernel, rfl⟩
theorem im_X1_placeInFile : Cond.instanceMethod YX1_placeInFile.1 ∈ gW := gW_in (gIn3 (List.mem_of_getElem? (i := 129) (by decide +kernel))) rfl
theorem se_X1_placeInFile : Cond.selects (gRx 1) YX1_placeInFile.1 YX1_placeInFile.1 ∈ gW := gW_in (gIn0 (List.mem_of_getElem? (i := 36) (by decide +kernel))) rfl
theorem np_X1_placeInFile : gNp YX1_placeInFile.1 = some 2 := by decide +kernel
def YX1_fileAt : gY := (yX1_fileAt, cX1_fileAt, 3, some .int, [])
theorem mt_X1_fileAt : gMt YX1_fileAt := ⟨gW_in (gIn1 (List.mem_of_getElem? (i := 209) rfl)) rfl, gW_in (gIn1 (List.mem_of_getElem? (i := 2) (by decide +kernel))) rfl, by decide +kernel, by decide +kernel, by decide +kernel, rfl⟩
theorem im_X1_fileAt : Cond.instanceMethod YX1_fileAt.1 ∈ gW := gW_in (gIn1 (List.mem_of_getElem? (i := 208) (by decide +kernel))) rfl
theorem se_X1_fileAt : Cond.selects (gRx 1) YX1_fileAt.1 YX1_fileAt.1 ∈ gW := gW_in (gIn0 (List.mem_of_getElem? (i := 6) (by decide +kernel))) rfl
theorem np_X1_fileAt : gNp YX1_fileAt.1 = some 1 := by decide +kernel
def YX1_freeArea : gY := (yX1_freeArea, cX1_freeArea, 4, some .int, [])
theorem mt_X1_freeArea : gMt YX1_freeArea := ⟨gW_in (gIn2 (List.mem_of_getElem? (i := 212) rfl)) rfl, gW_in (gIn1 (List.mem_of_getElem? (i := 2) (by decide +kernel))) rfl, by decide +kernel, by decide +kernel, by decide +kernel, rfl⟩
theorem im_X1_freeArea : Cond.instanceMethod YX1_freeArea.1 ∈ gW := gW_in (gIn2 (List.mem_of_getElem? (i := 211) (by decide +kernel))) rfl
theorem se_X1_freeArea : Cond.selects (gRx 1) YX1_freeArea.1 YX1_freeArea.1 ∈ gW := gW_in (gIn0 (List.mem_of_getElem? (i := 25) (by decide +kernel))) rfl
theorem np_X1_freeArea : gNp YX1_freeArea.1 = some 1 := by decide +kernel
def YX1_greatestFreeArea : gY := (yX1_greatestFreeArea, cX1_greatestFreeArea, 4, some .int, [])
theorem mt_X1_greatestFreeArea : gMt YX1_greatestFreeArea := ⟨gW_in (gIn1 (List.mem_of_getElem? (i := 205) rfl)) rfl, gW_in (gIn1 (List.mem_of_getElem? (i := 2) (by decide +kernel))) rfl, by decide +kernel, by decide +kernel, by decide +kernel, rfl⟩
theorem im_X1_greatestFreeArea : Cond.instanceMethod YX1_greatestFreeArea.1 ∈ gW := gW_in (gIn1 (List.mem_of_getElem? (i := 204) (by decide +kernel))) rfl
theorem se_X1_greatestFreeArea : Cond.selects (gRx 1) YX1_greatestFreeArea.1 YX1_greatestFreeArea.1 ∈ gW := gW_in (gIn0 (List.mem_of_getElem? (i := 5) (by decide +kernel))) rfl
theorem np_X1_greatestFreeArea : gNp YX1_greatestFreeArea.1 = some 0 := by decide +kernel
def YX1_write : gY := (yX1_write, cX1_write, 3, none, [])
theorem mt_X1_write : gMt YX1_write := ⟨gW_in (gIn3 (List.mem_of_getElem? (i := 11) rfl)) rfl, gW_in (gIn1 (List.mem_of_getElem? (i := 2) (by decide +kernel))) rfl, by decide +kernel, by decide +kernel, by decide +kernel, rfl⟩
theorem im_X1_write : Cond.instanceMethod YX1_write.1 ∈ gW := gW_in (gIn3 (List.mem_of_getElem? (i := 10) (by decide +kernel))) rfl
theorem se_X1_write : Cond.selects (gRx 1) YX1_write.1 YX1_write.1 ∈ gW := gW_in (gIn0 (List.mem_of_getElem? (i := 33) (by decide +kernel))) rfl
theorem np_X1_write : gNp YX1_write.1 = some 2 := by decide +kernel
def YX1_damage : gY := (yX1_damage, cX1_damage, 3, none, [])
theorem mt_X1_damage : gMt YX1_damage := ⟨gW_in (gIn3 (List.mem_of_getElem? (i := 156) rfl)) rfl, gW_in (gIn1 (List.mem_of_getElem? (i := 2) (by decide +kernel))) rfl, by decide +kernel, by decide +kernel, by decide +kernel, rfl⟩
theorem im_X1_damage : Cond.instanceMethod YX1_damage.1 ∈ gW := gW_in (gIn3 (List.mem_of_getElem? (i := 155) (by decide +kernel))) rfl
theorem se_X1_damage : Cond.selects (gRx 1) YX1_damage.1 YX1_damage.1 ∈ gW := gW_in (gIn0 (List.mem_of_getElem? (i := 37) (by decide +kernel))) rfl
theorem np_X1_damage : gNp YX1_damage.1 = some 2 := by decide +kernel
def YX1_isDue : gY := (yX1_isDue, cX1_isDue, 3, some .boolean, [])
theorem mt_X1_isDue : gMt YX1_isDue := ⟨gW_in (gIn2 (List.mem_of_getElem? (i := 0) rfl)) rfl, gW_in (gIn1 (List.mem_of_getElem? (i := 2) (by decide +kernel))) rfl, by decide +kernel, by decide +kernel, by decide +kernel, rfl⟩
theorem im_X1_isDue : Cond.instanceMethod YX1_isDue.1 ∈ gW := gW_in (gIn1 (List.mem_of_getElem? (i := 239) (by decide +kernel))) rfl
theorem se_X1_isDue : Cond.selects (gRx 1) YX1_isDue.1 YX1_isDue.1 ∈ gW := gW_in (gIn0 (List.mem_of_getElem? (i := 11) (by decide +kernel))) rfl
theorem np_X1_isDue : gNp YX1_isDue.1 = some 2 := by decide +kernel
def YX1_blockToCheck : gY := (yX1_blockToCheck, cX1_blockToCheck, 5, some .int, [])
theorem mt_X1_blockToCheck : gMt YX1_blockToCheck := ⟨gW_in (gIn4 (List.mem_of_getElem? (i := 39) rfl)) rfl, gW_in (gIn1 (List.mem_of_getElem? (i := 2) (by decide +kernel))) rfl, by decide +kernel, by decide +kernel, by decide +kernel, rfl⟩
theorem im_X1_blockToCheck : Cond.instanceMethod YX1_blockToCheck.1 ∈ gW := gW_in (gIn4 (List.mem_of_getElem? (i := 38) (by decide +kernel))) rfl
theorem se_X1_blockToCheck : Cond.selects (gRx 1) YX1_blockToCheck.1 YX1_blockToCheck.1 ∈ gW := gW_in (gIn0 (List.mem_of_getElem? (i := 40) (by decide +kernel))) rfl
theorem np_X1_blockToCheck : gNp YX1_blockToCheck.1 = some 0 := by decide +kernel
def YX2_init : gY := (yX2_init, cX2_init, 2, none, [])
theorem mt_X2_init : gMt YX2_init := ⟨gW_in (gIn1 (List.mem_of_getElem? (i := 23) rfl)) rfl, gW_in (gIn1 (List.mem_of_getElem? (i := 1) (by decide +kernel))) rfl, by decide +kernel, by decide +kernel, by decide +kernel, rfl⟩
theorem im_X2_init : Cond.instanceMethod YX2_init.1 ∈ gW := gW_in (gIn1 (List.mem_of_getElem? (i := 22) (by decide +kernel))) rfl
theorem np_X2_init : gNp YX2_init.1 = some 0 := by decide +kernel
def YX2_clear : gY := (yX2_clear, cX2_clear, 2, some .int, [])
theorem mt_X2_clear : gMt YX2_clear := ⟨gW_in (gIn1 (List.mem_of_getElem? (i := 172) rfl)) rfl, gW_in (gIn1 (List.mem_of_getElem? (i := 1) (by decide +kernel))) rfl, by decide +kernel, by decide +kernel, by decide +kernel, rfl⟩
theorem im_X2_clear : Cond.instanceMethod YX2_clear.1 ∈ gW := gW_in (gIn1 (List.mem_of_getElem? (i := 170) (by decide +kernel))) rfl
theorem se_X2_clear : Cond.selects (gRx 2) YX2_clear.1 YX2_clear.1 ∈ gW := gW_in (gIn1 (List.mem_of_getElem? (i := 171) (by decide +kernel))) rfl
theorem np_X2_clear : gNp YX2_clear.1 = some 0 := by decide +kernel
def YX2_append : gY := (yX2_append, cX2_append, 2, some .int, [])
theorem mt_X2_append : gMt YX2_append := ⟨gW_in (gIn2 (List.mem_of_getElem? (i := 96) rfl)) rfl, gW_in (gIn1 (List.mem_of_getElem? (i := 1) (by decide +kernel))) rfl, by decide +kernel, by decide +kernel, by decide +kernel, rfl⟩
theorem im_X2_append : Cond.instanceMethod YX2_append.1 ∈ gW := gW_in (gIn2 (List.mem_of_getElem? (i := 94) (by decide +kernel))) rfl
theorem se_X2_append : Cond.selects (gRx 2) YX2_append.1 YX2_append.1 ∈ gW := gW_in (gIn2 (List.mem_of_getElem? (i := 95) (by decide +kernel))) rfl
theorem np_X2_append : gNp YX2_append.1 = some 1 := by decide +kernel
def YX2_store : gY := (yX2_store, cX2_store, 7, some .int, [])
theorem mt_X2_store : gMt YX2_store := ⟨gW_in (gIn2 (List.mem_of_getElem? (i := 191) rfl)) rfl, gW_in (gIn1 (List.mem_of_getElem? (i := 1) (by decide +kernel))) rfl, by decide +kernel, by decide +kernel, by decide +kernel, rfl⟩
theorem im_X2_store : Cond.instanceMethod YX2_store.1 ∈ gW := gW_in (gIn2 (List.mem_of_getElem? (i := 189) (by decide +kernel))) rfl
theorem se_X2_store : Cond.selects (gRx 2) YX2_store.1 YX2_store.1 ∈ gW := gW_in (gIn2 (List.mem_of_getElem? (i := 190) (by decide +kernel))) rfl
theorem np_X2_store : gNp YX2_store.1 = some 0 := by decide +kernel
def YX2_errorPosition : gY := (yX2_errorPosition, cX2_errorPosition, 1, some .int, [])
theorem mt_X2_errorPosition : gMt YX2_errorPosition := ⟨gW_in (gIn3 (List.mem_of_getElem? (i := 20) rfl)) rfl, gW_in (gIn1 (List.mem_of_getElem? (i := 1) (by decide +kernel))) rfl, by decide +kernel, by decide +kernel, by decide +kernel, rfl⟩
theorem im_X2_errorPosition : Cond.instanceMethod YX2_errorPosition.1 ∈ gW := gW_in (gIn3 (List.mem_of_getElem? (i := 18) (by decide +kernel))) rfl
theorem se_X2_errorPosition : Cond.selects (gRx 2) YX2_errorPosition.1 YX2_errorPosition.1 ∈ gW := gW_in (gIn3 (List.mem_of_getElem? (i := 19) (by decide +kernel))) rfl
theorem np_X2_errorPosition : gNp YX2_errorPosition.1 = some 0 := by decide +kernel
def YX2_remove : gY := (yX2_remove, cX2_remove, 2, some .int, [])
theorem mt_X2_remove : gMt YX2_remove := ⟨gW_in (gIn3 (List.mem_of_getElem? (i := 67) rfl)) rfl, gW_in (gIn1 (List.mem_of_getElem? (i := 1) (by decide +kernel))) rfl, by decide +kernel, by decide +kernel, by decide +kernel, rfl⟩
theorem im_X2_remove : Cond.instanceMethod YX2_remove.1 ∈ gW := gW_in (gIn3 (List.mem_of_getElem? (i := 65) (by decide +kernel))) rfl
theorem se_X2_remove : Cond.selects (gRx 2) YX2_remove.1 YX2_remove.1 ∈ gW := gW_in (gIn3 (List.mem_of_getElem? (i := 66) (by decide +kernel))) rfl
theorem np_X2_remove : gNp YX2_remove.1 = some 1 := by decide +kernel
def YX2_file : gY := (yX2_file, cX2_file, 3, some .int, [])
theorem mt_X2_file : gMt YX2_file := ⟨gW_in (gIn3 (List.mem_of_getElem? (i := 88) rfl)) rfl, gW_in (gIn1 (List.mem_of_getElem? (i := 1) (by decide +kernel))) rfl, by decide +kernel, by decide +kernel, by decide +kernel, rfl⟩
theorem im_X2_file : Cond.instanceMethod YX2_file.1 ∈ gW := gW_in (gIn3 (List.mem_of_getElem? (i := 86) (by decide +kernel))) rfl
theorem se_X2_file : Cond.selects (gRx 2) YX2_file.1 YX2_file.1 ∈ gW := gW_in (gIn3 (List.mem_of_getElem? (i := 87) (by decide +kernel))) rfl
theorem np_X2_file : gNp YX2_file.1 = some 2 := by decide +kernel
def YX2_files : gY := (yX2_files, cX2_files, 3, some .int, [])
theorem mt_X2_files : gMt YX2_files := ⟨gW_in (gIn1 (List.mem_of_getElem? (i := 196) rfl)) rfl, gW_in (gIn1 (List.mem_of_getElem? (i := 1) (by decide +kernel))) rfl, by decide +kernel, by decide +kernel, by decide +kernel, rfl⟩
theorem im_X2_files : Cond.instanceMethod YX2_files.1 ∈ gW := gW_in (gIn1 (List.mem_of_getElem? (i := 194) (by decide +kernel))) rfl
theorem se_X2_files : Cond.selects (gRx 2) YX2_files.1 YX2_files.1 ∈ gW := gW_in (gIn1 (List.mem_of_getElem? (i := 195) (by decide +kernel))) rfl
theorem np_X2_files : gNp YX2_files.1 = some 0 := by decide +kernel
def YX2_cellOf : gY := (yX2_cellOf, cX2_cellOf, 4, some .int, [])
theorem mt_X2_cellOf : gMt YX2_cellOf := ⟨gW_in (gIn3 (List.mem_of_getElem? (i := 97) rfl)) rfl, gW_in (gIn1 (List.mem_of_getElem? (i := 1) (by decide +kernel))) rfl, by decide +kernel, by decide +kernel, by decide +kernel, rfl⟩
theorem im_X2_cellOf : Cond.instanceMethod YX2_cellOf.1 ∈ gW := gW_in (gIn3 (List.mem_of_getElem? (i := 95) (by decide +kernel))) rfl
theorem se_X2_cellOf : Cond.selects (gRx 2) YX2_cellOf.1 YX2_cellOf.1 ∈ gW := gW_in (gIn3 (List.mem_of_getElem? (i := 96) (by decide +kernel))) rfl
theorem np_X2_cellOf : gNp YX2_cellOf.1 = some 3 := by decide +kernel
def YX2_owner : gY := (yX2_owner, cX2_owner, 2, some .int, [])
theorem mt_X2_owner : gMt YX2_owner := ⟨gW_in (gIn3 (List.mem_of_getElem? (i := 113) rfl)) rfl, gW_in (gIn1 (List.mem_of_getElem? (i := 1) (by decide +kernel))) rfl, by decide +kernel, by decide +kernel, by decide +kernel, rfl⟩
theorem im_X2_owner : Cond.instanceMethod YX2_owner.1 ∈ gW := gW_in (gIn3 (List.mem_of_getElem? (i := 111) (by decide +kernel))) rfl
theorem se_X2_owner : Cond.selects (gRx 2) YX2_owner.1 YX2_owner.1 ∈ gW := gW_in (gIn3 (List.mem_of_getElem? (i := 112) (by decide +kernel))) rfl
theorem np_X2_owner : gNp YX2_owner.1 = some 1 := by decide +kernel
def YX2_placeOf : gY := (yX2_placeOf, cX2_placeOf, 3, some .int, [])
theorem mt_X2_placeOf : gMt YX2_placeOf := ⟨gW_in (gIn3 (List.mem_of_getElem? (i := 125) rfl)) rfl, gW_in (gIn1 (List.mem_of_getElem? (i := 1) (by decide +kernel))) rfl, by decide +kernel, by decide +kernel, by decide +kernel, rfl⟩
theorem im_X2_placeOf : Cond.instanceMethod YX2_placeOf.1 ∈ gW := gW_in (gIn3 (List.mem_of_getElem? (i := 123) (by decide +kernel))) rfl
theorem se_X2_placeOf : Cond.selects (gRx 2) YX2_placeOf.1 YX2_placeOf.1 ∈ gW := gW_in (gIn3 (List.mem_of_getElem? (i := 124) (by decide +kernel))) rfl
theorem np_X2_placeOf : gNp YX2_placeOf.1 = some 1 := by decide +kernel
def YX2_room : gY := (yX2_room, cX2_room, 1, some .int, [])
theorem mt_X2_room : gMt YX2_room := ⟨gW_in (gIn1 (List.mem_of_getElem? (i := 201) rfl)) rfl, gW_in (gIn1 (List.mem_of_getElem? (i := 1) (by decide +kernel))) rfl, by decide +kernel, by decide +kernel, by decide +kernel, rfl⟩
theorem im_X2_room : Cond.instanceMethod YX2_room.1 ∈ gW := gW_in (gIn1 (List.mem_of_getElem? (i := 199) (by decide +kernel))) rfl
theorem se_X2_room : Cond.selects (gRx 2) YX2_room.1 YX2_room.1 ∈ gW := gW_in (gIn1 (List.mem_of_getElem? (i := 200) (by decide +kernel))) rfl
theorem np_X2_room : gNp YX2_room.1 = some 0 := by decide +kernel
def YX2_symbol : gY := (yX2_symbol, cX2_symbol, 2, some .int, [])
theorem mt_X2_symbol : gMt YX2_symbol := ⟨gW_in (gIn3 (List.mem_of_getElem? (i := 137) rfl)) rfl, gW_in (gIn1 (List.mem_of_getElem? (i := 1) (by decide +kernel))) rfl, by decide +kernel, by decide +kernel, by decide +kernel, rfl⟩
theorem im_X2_symbol : Cond.instanceMethod YX2_symbol.1 ∈ gW := gW_in (gIn3 (List.mem_of_getElem? (i := 135) (by decide +kernel))) rfl
theorem se_X2_symbol : Cond.selects (gRx 2) YX2_symbol.1 YX2_symbol.1 ∈ gW := gW_in (gIn3 (List.mem_of_getElem? (i := 136) (by decide +kernel))) rfl
theorem np_X2_symbol : gNp YX2_symbol.1 = some 1 := by decide +kernel
def YX2_isErased : gY := (yX2_isErased, cX2_isErased, 2, some .boolean, [])
theorem mt_X2_isErased : gMt YX2_isErased := ⟨gW_in (gIn3 (List.mem_of_getElem? (i := 144) rfl)) rfl, gW_in (gIn1 (List.mem_of_getElem? (i := 1) (by decide +kernel))) rfl, by decide +kernel, by decide +kernel, by decide +kernel, rfl⟩
theorem im_X2_isErased : Cond.instanceMethod YX2_isErased.1 ∈ gW := gW_in (gIn3 (List.mem_of_getElem? (i := 142) (by decide +kernel))) rfl
theorem se_X2_isErased : Cond.selects (gRx 2) YX2_isErased.1 YX2_isErased.1 ∈ gW := gW_in (gIn3 (List.mem_of_getElem? (i := 143) (by decide +kernel))) rfl
theorem np_X2_isErased : gNp YX2_isErased.1 = some 1 := by decide +kernel
def YX2_flip : gY := (yX2_flip, cX2_flip, 3, some .int, [])
theorem mt_X2_flip : gMt YX2_flip := ⟨gW_in (gIn3 (List.mem_of_getElem? (i := 151) rfl)) rfl, gW_in (gIn1 (List.mem_of_getElem? (i := 1) (by decide +kernel))) rfl, by decide +kernel, by decide +kernel, by decide +kernel, rfl⟩
theorem im_X2_flip : Cond.instanceMethod YX2_flip.1 ∈ gW := gW_in (gIn3 (List.mem_of_getElem? (i := 149) (by decide +kernel))) rfl
theorem se_X2_flip : Cond.selects (gRx 2) YX2_flip.1 YX2_flip.1 ∈ gW := gW_in (gIn3 (List.mem_of_getElem? (i := 150) (by decide +kernel))) rfl
theorem np_X2_flip : gNp YX2_flip.1 = some 2 := by decide +kernel
def YX2_erase : gY := (yX2_erase, cX2_erase, 3, some .int, [])
theorem mt_X2_erase : gMt YX2_erase := ⟨gW_in (gIn3 (List.mem_of_getElem? (i := 163) rfl)) rfl, gW_in (gIn1 (List.mem_of_getElem? (i := 1) (by decide +kernel))) rfl, by decide +kernel, by decide +kernel, by decide +kernel, rfl⟩
theorem im_X2_erase : Cond.instanceMethod YX2_erase.1 ∈ gW := gW_in (gIn3 (List.mem_of_getElem? (i := 161) (by decide +kernel))) rfl
theorem se_X2_erase : Cond.selects (gRx 2) YX2_erase.1 YX2_erase.1 ∈ gW := gW_in (gIn3 (List.mem_of_getElem? (i := 162) (by decide +kernel))) rfl
theorem np_X2_erase : gNp YX2_erase.1 = some 1 := by decide +kernel
def YX2_burst : gY := (yX2_burst, cX2_burst, 6, some .int, [])
theorem mt_X2_burst : gMt YX2_burst := ⟨gW_in (gIn3 (List.mem_of_getElem? (i := 170) rfl)) rfl, gW_in (gIn1 (List.mem_of_getElem? (i := 1) (by decide +kernel))) rfl, by decide +kernel, by decide +kernel, by decide +kernel, rfl⟩
theorem im_X2_burst : Cond.instanceMethod YX2_burst.1 ∈ gW := gW_in (gIn3 (List.mem_of_getElem? (i := 168) (by decide +kernel))) rfl
theorem se_X2_burst : Cond.selects (gRx 2) YX2_burst.1 YX2_burst.1 ∈ gW := gW_in (gIn3 (List.mem_of_getElem? (i := 169) (by decide +kernel))) rfl
theorem np_X2_burst : gNp YX2_burst.1 = some 3 := by decide +kernel
def YX2_wrong : gY := (yX2_wrong, cX2_wrong, 4, some .int, [])
theorem mt_X2_wrong : gMt YX2_wrong := ⟨gW_in (gIn3 (List.mem_of_getElem? (i := 178) rfl)) rfl, gW_in (gIn1 (List.mem_of_getElem? (i := 1) (by decide +kernel))) rfl, by decide +kernel, by decide +kernel, by decide +kernel, rfl⟩
theorem im_X2_wrong : Cond.instanceMethod YX2_wrong.1 ∈ gW := gW_in (gIn3 (List.mem_of_getElem? (i := 176) (by decide +kernel))) rfl
theorem se_X2_wrong : Cond.selects (gRx 2) YX2_wrong.1 YX2_wrong.1 ∈ gW := gW_in (gIn3 (List.mem_of_getElem? (i := 177) (by decide +kernel))) rfl
theorem np_X2_wrong : gNp YX2_wrong.1 = some 1 := by decide +kernel
def YX2_erased : gY := (yX2_erased, cX2_erased, 4, some .int, [])
theorem mt_X2_erased : gMt YX2_erased := ⟨gW_in (gIn3 (List.mem_of_getElem? (i := 187) rfl)) rfl, gW_in (gIn1 (List.mem_of_getElem? (i := 1) (by decide +kernel))) rfl, by decide +kernel, by decide +kernel, by decide +kernel, rfl⟩
theorem im_X2_erased : Cond.instanceMethod YX2_erased.1 ∈ gW := gW_in (gIn3 (List.mem_of_getElem? (i := 185) (by decide +kernel))) rfl
theorem se_X2_erased : Cond.selects (gRx 2) YX2_erased.1 YX2_erased.1 ∈ gW := gW_in (gIn3 (List.mem_of_getElem? (i := 186) (by decide +kernel))) rfl
theorem np_X2_erased : gNp YX2_erased.1 = some 1 := by decide +kernel
def YX2_sum : gY := (yX2_sum, cX2_sum, 4, some .int, [])
theorem mt_X2_sum : gMt YX2_sum := ⟨gW_in (gIn3 (List.mem_of_getElem? (i := 194) rfl)) rfl, gW_in (gIn1 (List.mem_of_getElem? (i := 1) (by decide +kernel))) rfl, by decide +kernel, by decide +kernel, by decide +kernel, rfl⟩
theorem im_X2_sum : Cond.instanceMethod YX2_sum.1 ∈ gW := gW_in (gIn3 (List.mem_of_getElem? (i := 192) (by decide +kernel))) rfl
theorem se_X2_sum : Cond.selects (gRx 2) YX2_sum.1 YX2_sum.1 ∈ gW := gW_in (gIn3 (List.mem_of_getElem? (i := 193) (by decide +kernel))) rfl
theorem np_X2_sum : gNp YX2_sum.1 = some 3 := by decide +kernel
def YX2_decoded : gY := (yX2_decoded, cX2_decoded, 5, some .int, [])
theorem mt_X2_decoded : gMt YX2_decoded := ⟨gW_in (gIn3 (List.mem_of_getElem? (i := 204) rfl)) rfl, gW_in (gIn1 (List.mem_of_getElem? (i := 1) (by decide +kernel))) rfl, by decide +kernel, by decide +kernel, by decide +kernel, rfl⟩
theorem im_X2_decoded : Cond.instanceMethod YX2_decoded.1 ∈ gW := gW_in (gIn3 (List.mem_of_getElem? (i := 202) (by decide +kernel))) rfl
theorem se_X2_decoded : Cond.selects (gRx 2) YX2_decoded.1 YX2_decoded.1 ∈ gW := gW_in (gIn3 (List.mem_of_getElem? (i := 203) (by decide +kernel))) rfl
theorem np_X2_decoded : gNp YX2_decoded.1 = some 3 := by decide +kernel
def YX2_found : gY := (yX2_found, cX2_found, 4, some .int, [])
theorem mt_X2_found : gMt YX2_found := ⟨gW_in (gIn3 (List.mem_of_getElem? (i := 214) rfl)) rfl, gW_in (gIn1 (List.mem_of_getElem? (i := 1) (by decide +kernel))) rfl, by decide +kernel, by decide +kernel, by decide +kernel, rfl⟩
theorem im_X2_found : Cond.instanceMethod YX2_found.1 ∈ gW := gW_in (gIn3 (List.mem_of_getElem? (i := 212) (by decide +kernel))) rfl
theorem se_X2_found : Cond.selects (gRx 2) YX2_found.1 YX2_found.1 ∈ gW := gW_in (gIn3 (List.mem_of_getElem? (i := 213) (by decide +kernel))) rfl
theorem np_X2_found : gNp YX2_found.1 = some 3 := by decide +kernel
def YX2_read : gY := (yX2_read, cX2_read, 3, some .int, [])
theorem mt_X2_read : gMt YX2_read := ⟨gW_in (gIn3 (List.mem_of_getElem? (i := 221) rfl)) rfl, gW_in (gIn1 (List.mem_of_getElem? (i := 1) (by decide +kernel))) rfl, by decide +kernel, by decide +kernel, by decide +kernel, rfl⟩
theorem im_X2_read : Cond.instanceMethod YX2_read.1 ∈ gW := gW_in (gIn3 (List.mem_of_getElem? (i := 219) (by decide +kernel))) rfl
theorem se_X2_read : Cond.selects (gRx 2) YX2_read.1 YX2_read.1 ∈ gW := gW_in (gIn3 (List.mem_of_getElem? (i := 220) (by decide +kernel))) rfl
theorem np_X2_read : gNp YX2_read.1 = some 2 := by decide +kernel
def YX2_condition : gY := (yX2_condition, cX2_condition, 5, some .int, [])
theorem mt_X2_condition : gMt YX2_condition := ⟨gW_in (gIn3 (List.mem_of_getElem? (i := 229) rfl)) rfl, gW_in (gIn1 (List.mem_of_getElem? (i := 1) (by decide +kernel))) rfl, by decide +kernel, by decide +kernel, by decide +kernel, rfl⟩
theorem im_X2_condition : Cond.instanceMethod YX2_condition.1 ∈ gW := gW_in (gIn3 (List.mem_of_getElem? (i := 227) (by decide +kernel))) rfl
theorem se_X2_condition : Cond.selects (gRx 2) YX2_condition.1 YX2_condition.1 ∈ gW := gW_in (gIn3 (List.mem_of_getElem? (i := 228) (by decide +kernel))) rfl
theorem np_X2_condition : gNp YX2_condition.1 = some 1 := by decide +kernel
def YX2_undecodable : gY := (yX2_undecodable, cX2_undecodable, 2, some .int, [])
theorem mt_X2_undecodable : gMt YX2_undecodable := ⟨gW_in (gIn3 (List.mem_of_getElem? (i := 236) rfl)) rfl, gW_in (gIn1 (List.mem_of_getElem? (i := 1) (by decide +kernel))) rfl, by decide +kernel, by decide +kernel, by decide +kernel, rfl⟩
theorem im_X2_undecodable : Cond.instanceMethod YX2_undecodable.1 ∈ gW := gW_in (gIn3 (List.mem_of_getElem? (i := 234) (by decide +kernel))) rfl
theorem se_X2_undecodable : Cond.selects (gRx 2) YX2_undecodable.1 YX2_undecodable.1 ∈ gW := gW_in (gIn3 (List.mem_of_getElem? (i := 235) (by decide +kernel))) rfl
theorem np_X2_undecodable : gNp YX2_undecodable.1 = some 1 := by decide +kernel
def YX2_margin : gY := (yX2_margin, cX2_margin, 3, some .int, [])
theorem mt_X2_margin : gMt YX2_margin := ⟨gW_in (gIn4 (List.mem_of_getElem? (i := 7) rfl)) rfl, gW_in (gIn1 (List.mem_of_getElem? (i := 1) (by decide +kernel))) rfl, by decide +kernel, by decide +kernel, by decide +kernel, rfl⟩
theorem im_X2_margin : Cond.instanceMethod YX2_margin.1 ∈ gW := gW_in (gIn4 (List.mem_of_getElem? (i := 5) (by decide +kernel))) rfl
theorem se_X2_margin : Cond.selects (gRx 2) YX2_margin.1 YX2_margin.1 ∈ gW := gW_in (gIn4 (List.mem_of_getElem? (i := 6) (by decide +kernel))) rfl
theorem np_X2_margin : gNp YX2_margin.1 = some 2 := by decide +kernel
def YX2_burstLimit : gY := (yX2_burstLimit, cX2_burstLimit, 4, some .int, [])
theorem mt_X2_burstLimit : gMt YX2_burstLimit := ⟨gW_in (gIn4 (List.mem_of_getElem? (i := 14) rfl)) rfl, gW_in (gIn1 (List.mem_of_getElem? (i := 1) (by decide +kernel))) rfl, by decide +kernel, by decide +kernel, by decide +kernel, rfl⟩
theorem im_X2_burstLimit : Cond.instanceMethod YX2_burstLimit.1 ∈ gW := gW_in (gIn4 (List.mem_of_getElem? (i := 12) (by decide +kernel))) rfl
theorem se_X2_burstLimit : Cond.selects (gRx 2) YX2_burstLimit.1 YX2_burstLimit.1 ∈ gW := gW_in (gIn4 (List.mem_of_getElem? (i := 13) (by decide +kernel))) rfl
theorem np_X2_burstLimit : gNp YX2_burstLimit.1 = some 1 := by decide +kernel
def YX2_advance : gY := (yX2_advance, cX2_advance, 2, some .int, [])
theorem mt_X2_advance : gMt YX2_advance := ⟨gW_in (gIn4 (List.mem_of_getElem? (i := 25) rfl)) rfl, gW_in (gIn1 (List.mem_of_getElem? (i := 1) (by decide +kernel))) rfl, by decide +kernel, by decide +kernel, by decide +kernel, rfl⟩
theorem im_X2_advance : Cond.instanceMethod YX2_advance.1 ∈ gW := gW_in (gIn4 (List.mem_of_getElem? (i := 23) (by decide +kernel))) rfl
theorem se_X2_advance : Cond.selects (gRx 2) YX2_advance.1 YX2_advance.1 ∈ gW := gW_in (gIn4 (List.mem_of_getElem? (i := 24) (by decide +kernel))) rfl
theorem np_X2_advance : gNp YX2_advance.1 = some 1 := by decide +kernel
def YX2_scrub : gY := (yX2_scrub, cX2_scrub, 7, some .int, [])
theorem mt_X2_scrub : gMt YX2_scrub := ⟨gW_in (gIn4 (List.mem_of_getElem? (i := 34) rfl)) rfl, gW_in (gIn1 (List.mem_of_getElem? (i := 1) (by decide +kernel))) rfl, by decide +kernel, by decide +kernel, by decide +kernel, rfl⟩
theorem im_X2_scrub : Cond.instanceMethod YX2_scrub.1 ∈ gW := gW_in (gIn4 (List.mem_of_getElem? (i := 32) (by decide +kernel))) rfl
theorem se_X2_scrub : Cond.selects (gRx 2) YX2_scrub.1 YX2_scrub.1 ∈ gW := gW_in (gIn4 (List.mem_of_getElem? (i := 33) (by decide +kernel))) rfl
theorem np_X2_scrub : gNp YX2_scrub.1 = some 1 := by decide +kernel
def YX2_report : gY := (yX2_report, cX2_report, 3, some .int, [])
theorem mt_X2_report : gMt YX2_report := ⟨gW_in (gIn4 (List.mem_of_getElem? (i := 54) rfl)) rfl, gW_in (gIn1 (List.mem_of_getElem? (i := 1) (by decide +kernel))) rfl, by decide +kernel, by decide +kernel, by decide +kernel, rfl⟩
theorem im_X2_report : Cond.instanceMethod YX2_report.1 ∈ gW := gW_in (gIn4 (List.mem_of_getElem? (i := 52) (by decide +kernel))) rfl
theorem se_X2_report : Cond.selects (gRx 2) YX2_report.1 YX2_report.1 ∈ gW := gW_in (gIn4 (List.mem_of_getElem? (i := 53) (by decide +kernel))) rfl
theorem np_X2_report : gNp YX2_report.1 = some 2 := by decide +kernel
def YX2_reportLines : gY := (yX2_reportLines, cX2_reportLines, 1, some .int, [])
theorem mt_X2_reportLines : gMt YX2_reportLines := ⟨gW_in (gIn1 (List.mem_of_getElem? (i := 232) rfl)) rfl, gW_in (gIn1 (List.mem_of_getElem? (i := 1) (by decide +kernel))) rfl, by decide +kernel, by decide +kernel, by decide +kernel, rfl⟩
theorem im_X2_reportLines : Cond.instanceMethod YX2_reportLines.1 ∈ gW := gW_in (gIn1 (List.mem_of_getElem? (i := 230) (by decide +kernel))) rfl
theorem se_X2_reportLines : Cond.selects (gRx 2) YX2_reportLines.1 YX2_reportLines.1 ∈ gW := gW_in (gIn1 (List.mem_of_getElem? (i := 231) (by decide +kernel))) rfl
theorem np_X2_reportLines : gNp YX2_reportLines.1 = some 0 := by decide +kernel
def YX2_repair : gY := (yX2_repair, cX2_repair, 3, some .int, [])
theorem mt_X2_repair : gMt YX2_repair := ⟨gW_in (gIn4 (List.mem_of_getElem? (i := 64) rfl)) rfl, gW_in (gIn1 (List.mem_of_getElem? (i := 1) (by decide +kernel))) rfl, by decide +kernel, by decide +kernel, by decide +kernel, rfl⟩
theorem im_X2_repair : Cond.instanceMethod YX2_repair.1 ∈ gW := gW_in (gIn4 (List.mem_of_getElem? (i := 62) (by decide +kernel))) rfl
theorem se_X2_repair : Cond.selects (gRx 2) YX2_repair.1 YX2_repair.1 ∈ gW := gW_in (gIn4 (List.mem_of_getElem? (i := 63) (by decide +kernel))) rfl
theorem np_X2_repair : gNp YX2_repair.1 = some 2 := by decide +kernel
def YX2_checked : gY := (yX2_checked, cX2_checked, 3, some .int, [])
theorem mt_X2_checked : gMt YX2_checked := ⟨gW_in (gIn4 (List.mem_of_getElem? (i := 86) rfl)) rfl, gW_in (gIn1 (List.mem_of_getElem? (i := 1) (by decide +kernel))) rfl, by decide +kernel, by decide +kernel, by decide +kernel, rfl⟩
theorem im_X2_checked : Cond.instanceMethod YX2_checked.1 ∈ gW := gW_in (gIn4 (List.mem_of_getElem? (i := 84) (by decide +kernel))) rfl
theorem se_X2_checked : Cond.selects (gRx 2) YX2_checked.1 YX2_checked.1 ∈ gW := gW_in (gIn4 (List.mem_of_getElem? (i := 85) (by decide +kernel))) rfl
theorem np_X2_checked : gNp YX2_checked.1 = some 2 := by decide +kernel
def YX2_nextToCheck : gY := (yX2_nextToCheck, cX2_nextToCheck, 2, some .int, [])
theorem mt_X2_nextToCheck : gMt YX2_nextToCheck := ⟨gW_in (gIn4 (List.mem_of_getElem? (i := 93) rfl)) rfl, gW_in (gIn1 (List.mem_of_getElem? (i := 1) (by decide +kernel))) rfl, by decide +kernel, by decide +kernel, by decide +kernel, rfl⟩
theorem im_X2_nextToCheck : Cond.instanceMethod YX2_nextToCheck.1 ∈ gW := gW_in (gIn4 (List.mem_of_getElem? (i := 91) (by decide +kernel))) rfl
theorem se_X2_nextToCheck : Cond.selects (gRx 2) YX2_nextToCheck.1 YX2_nextToCheck.1 ∈ gW := gW_in (gIn4 (List.mem_of_getElem? (i := 92) (by decide +kernel))) rfl
theorem np_X2_nextToCheck : gNp YX2_nextToCheck.1 = some 0 := by decide +kernel
def YX2_needed : gY := (yX2_needed, cX2_needed, 4, some .int, [])
theorem mt_X2_needed : gMt YX2_needed := ⟨gW_in (gIn1 (List.mem_of_getElem? (i := 236) rfl)) rfl, gW_in (gIn1 (List.mem_of_getElem? (i := 1) (by decide +kernel))) rfl, by decide +kernel, by decide +kernel, by decide +kernel, rfl⟩
theorem im_X2_needed : Cond.instanceMethod YX2_needed.1 ∈ gW := gW_in (gIn1 (List.mem_of_getElem? (i := 234) (by decide +kernel))) rfl
theorem se_X2_needed : Cond.selects (gRx 2) YX2_needed.1 YX2_needed.1 ∈ gW := gW_in (gIn1 (List.mem_of_getElem? (i := 235) (by decide +kernel))) rfl
theorem np_X2_needed : gNp YX2_needed.1 = some 0 := by decide +kernel
def YX2_account : gY := (yX2_account, cX2_account, 2, some .int, [])
theorem mt_X2_account : gMt YX2_account := ⟨gW_in (gIn4 (List.mem_of_getElem? (i := 101) rfl)) rfl, gW_in (gIn1 (List.mem_of_getElem? (i := 1) (by decide +kernel))) rfl, by decide +kernel, by decide +kernel, by decide +kernel, rfl⟩
theorem im_X2_account : Cond.instanceMethod YX2_account.1 ∈ gW := gW_in (gIn4 (List.mem_of_getElem? (i := 99) (by decide +kernel))) rfl
theorem se_X2_account : Cond.selects (gRx 2) YX2_account.1 YX2_account.1 ∈ gW := gW_in (gIn4 (List.mem_of_getElem? (i := 100) (by decide +kernel))) rfl
theorem np_X2_account : gNp YX2_account.1 = some 1 := by decide +kernel
def YX2_day : gY := (yX2_day, cX2_day, 1, some .int, [])
theorem mt_X2_day : gMt YX2_day := ⟨gW_in (gIn2 (List.mem_of_getElem? (i := 78) rfl)) rfl, gW_in (gIn1 (List.mem_of_getElem? (i := 1) (by decide +kernel))) rfl, by decide +kernel, by decide +kernel, by decide +kernel, rfl⟩
theorem im_X2_day : Cond.instanceMethod YX2_day.1 ∈ gW := gW_in (gIn2 (List.mem_of_getElem? (i := 76) (by decide +kernel))) rfl
theorem se_X2_day : Cond.selects (gRx 2) YX2_day.1 YX2_day.1 ∈ gW := gW_in (gIn2 (List.mem_of_getElem? (i := 77) (by decide +kernel))) rfl
theorem np_X2_day : gNp YX2_day.1 = some 0 := by decide +kernel
def YX2_health : gY := (yX2_health, cX2_health, 4, some .double, [])
theorem mt_X2_health : gMt YX2_health := ⟨gW_in (gIn4 (List.mem_of_getElem? (i := 123) rfl)) rfl, gW_in (gIn1 (List.mem_of_getElem? (i := 1) (by decide +kernel))) rfl, by decide +kernel, by decide +kernel, by decide +kernel, rfl⟩
theorem im_X2_health : Cond.instanceMethod YX2_health.1 ∈ gW := gW_in (gIn4 (List.mem_of_getElem? (i := 121) (by decide +kernel))) rfl
theorem se_X2_health : Cond.selects (gRx 2) YX2_health.1 YX2_health.1 ∈ gW := gW_in (gIn4 (List.mem_of_getElem? (i := 122) (by decide +kernel))) rfl
theorem np_X2_health : gNp YX2_health.1 = some 0 := by decide +kernel
def YX2_describe : gY := (yX2_describe, cX2_describe, 4, some .int, [])
theorem mt_X2_describe : gMt YX2_describe := ⟨gW_in (gIn4 (List.mem_of_getElem? (i := 133) rfl)) rfl, gW_in (gIn1 (List.mem_of_getElem? (i := 1) (by decide +kernel))) rfl, by decide +kernel, by decide +kernel, by decide +kernel, rfl⟩
theorem im_X2_describe : Cond.instanceMethod YX2_describe.1 ∈ gW := gW_in (gIn4 (List.mem_of_getElem? (i := 131) (by decide +kernel))) rfl
theorem se_X2_describe : Cond.selects (gRx 2) YX2_describe.1 YX2_describe.1 ∈ gW := gW_in (gIn4 (List.mem_of_getElem? (i := 132) (by decide +kernel))) rfl
theorem np_X2_describe : gNp YX2_describe.1 = some 2 := by decide +kernel
def YX2_undo : gY := (yX2_undo, cX2_undo, 1, some .int, [])
theorem mt_X2_undo : gMt YX2_undo := ⟨gW_in (gIn4 (List.mem_of_getElem? (i := 150) rfl)) rfl, gW_in (gIn1 (List.mem_of_getElem? (i := 1) (by decide +kernel))) rfl, by decide +kernel, by decide +kernel, by decide +kernel, rfl⟩
theorem im_X2_undo : Cond.instanceMethod YX2_undo.1 ∈ gW := gW_in (gIn4 (List.mem_of_getElem? (i := 148) (by decide +kernel))) rfl
theorem se_X2_undo : Cond.selects (gRx 2) YX2_undo.1 YX2_undo.1 ∈ gW := gW_in (gIn4 (List.mem_of_getElem? (i := 149) (by decide +kernel))) rfl
theorem np_X2_undo : gNp YX2_undo.1 = some 0 := by decide +kernel
def YX2_save : gY := (yX2_save, cX2_save, 1, some .int, [])
theorem mt_X2_save : gMt YX2_save := ⟨gW_in (gIn2 (List.mem_of_getElem? (i := 82) rfl)) rfl, gW_in (gIn1 (List.mem_of_getElem? (i := 1) (by decide +kernel))) rfl, by decide +kernel, by decide +kernel, by decide +kernel, rfl⟩
theorem im_X2_save : Cond.instanceMethod YX2_save.1 ∈ gW := gW_in (gIn2 (List.mem_of_getElem? (i := 80) (by decide +kernel))) rfl
theorem se_X2_save : Cond.selects (gRx 2) YX2_save.1 YX2_save.1 ∈ gW := gW_in (gIn2 (List.mem_of_getElem? (i := 81) (by decide +kernel))) rfl
theorem np_X2_save : gNp YX2_save.1 = some 0 := by decide +kernel
def YX2_restore : gY := (yX2_restore, cX2_restore, 1, some .int, [])
theorem mt_X2_restore : gMt YX2_restore := ⟨gW_in (gIn4 (List.mem_of_getElem? (i := 158) rfl)) rfl, gW_in (gIn1 (List.mem_of_getElem? (i := 1) (by decide +kernel))) rfl, by decide +kernel, by decide +kernel, by decide +kernel, rfl⟩
theorem im_X2_restore : Cond.instanceMethod YX2_restore.1 ∈ gW := gW_in (gIn4 (List.mem_of_getElem? (i := 156) (by decide +kernel))) rfl
theorem se_X2_restore : Cond.selects (gRx 2) YX2_restore.1 YX2_restore.1 ∈ gW := gW_in (gIn4 (List.mem_of_getElem? (i := 157) (by decide +kernel))) rfl
theorem np_X2_restore : gNp YX2_restore.1 = some 0 := by decide +kernel
def YX2_remember : gY := (yX2_remember, cX2_remember, 1, none, [])
theorem mt_X2_remember : gMt YX2_remember := ⟨gW_in (gIn2 (List.mem_of_getElem? (i := 217) rfl)) rfl, gW_in (gIn1 (List.mem_of_getElem? (i := 1) (by decide +kernel))) rfl, by decide +kernel, by decide +kernel, by decide +kernel, rfl⟩
theorem im_X2_remember : Cond.instanceMethod YX2_remember.1 ∈ gW := gW_in (gIn2 (List.mem_of_getElem? (i := 216) (by decide +kernel))) rfl
theorem se_X2_remember : Cond.selects (gRx 2) YX2_remember.1 YX2_remember.1 ∈ gW := gW_in (gIn0 (List.mem_of_getElem? (i := 26) (by decide +kernel))) rfl
theorem np_X2_remember : gNp YX2_remember.1 = some 0 := by decide +kernel
def YX2_forgetChanges : gY := (yX2_forgetChanges, cX2_forgetChanges, 1, none, [])
theorem mt_X2_forgetChanges : gMt YX2_forgetChanges := ⟨gW_in (gIn1 (List.mem_of_getElem? (i := 192) rfl)) rfl, gW_in (gIn1 (List.mem_of_getElem? (i := 1) (by decide +kernel))) rfl, by decide +kernel, by decide +kernel, by decide +kernel, rfl⟩
theorem im_X2_forgetChanges : Cond.instanceMethod YX2_forgetChanges.1 ∈ gW := gW_in (gIn1 (List.mem_of_getElem? (i := 191) (by decide +kernel))) rfl
theorem se_X2_forgetChanges : Cond.selects (gRx 2) YX2_forgetChanges.1 YX2_forgetChanges.1 ∈ gW := gW_in (gIn0 (List.mem_of_getElem? (i := 4) (by decide +kernel))) rfl
theorem np_X2_forgetChanges : gNp YX2_forgetChanges.1 = some 0 := by decide +kernel
def YX2_textError : gY := (yX2_textError, cX2_textError, 3, some .int, [])
theorem mt_X2_textError : gMt YX2_textError := ⟨gW_in (gIn2 (List.mem_of_getElem? (i := 194) rfl)) rfl, gW_in (gIn1 (List.mem_of_getElem? (i := 1) (by decide +kernel))) rfl, by decide +kernel, by decide +kernel, by decide +kernel, rfl⟩
theorem sf_X2_textError : Cond.static YX2_textError.1 ∈ gW := gW_in (gIn2 (List.mem_of_getElem? (i := 193) (by decide +kernel))) rfl
theorem np_X2_textError : gNp YX2_textError.1 = some 2 := by decide +kernel
def YX2_fitsText : gY := (yX2_fitsText, cX2_fitsText, 2, some .boolean, [])
theorem mt_X2_fitsText : gMt YX2_fitsText := ⟨gW_in (gIn2 (List.mem_of_getElem? (i := 197) rfl)) rfl, gW_in (gIn1 (List.mem_of_getElem? (i := 1) (by decide +kernel))) rfl, by decide +kernel, by decide +kernel, by decide +kernel, rfl⟩
theorem sf_X2_fitsText : Cond.static YX2_fitsText.1 ∈ gW := gW_in (gIn2 (List.mem_of_getElem? (i := 196) (by decide +kernel))) rfl
theorem np_X2_fitsText : gNp YX2_fitsText.1 = some 2 := by decide +kernel
def YX2_symbolOf : gY := (yX2_symbolOf, cX2_symbolOf, 1, some .int, [])
theorem mt_X2_symbolOf : gMt YX2_symbolOf := ⟨gW_in (gIn2 (List.mem_of_getElem? (i := 200) rfl)) rfl, gW_in (gIn1 (List.mem_of_getElem? (i := 1) (by decide +kernel))) rfl, by decide +kernel, by decide +kernel, by decide +kernel, rfl⟩
theorem sf_X2_symbolOf : Cond.static YX2_symbolOf.1 ∈ gW := gW_in (gIn2 (List.mem_of_getElem? (i := 199) (by decide +kernel))) rfl
theorem np_X2_symbolOf : gNp YX2_symbolOf.1 = some 1 := by decide +kernel
def YX2_headCharacter : gY := (yX2_headCharacter, cX2_headCharacter, 3, some .int, [])
theorem mt_X2_headCharacter : gMt YX2_headCharacter := ⟨gW_in (gIn4 (List.mem_of_getElem? (i := 139) rfl)) rfl, gW_in (gIn1 (List.mem_of_getElem? (i := 1) (by decide +kernel))) rfl, by decide +kernel, by decide +kernel, by decide +kernel, rfl⟩
theorem im_X2_headCharacter : Cond.instanceMethod YX2_headCharacter.1 ∈ gW := gW_in (gIn4 (List.mem_of_getElem? (i := 138) (by decide +kernel))) rfl
theorem se_X2_headCharacter : Cond.selects (gRx 2) YX2_headCharacter.1 YX2_headCharacter.1 ∈ gW := gW_in (gIn0 (List.mem_of_getElem? (i := 43) (by decide +kernel))) rfl
theorem np_X2_headCharacter : gNp YX2_headCharacter.1 = some 2 := by decide +kernel
def YX2_dataCharacter : gY := (yX2_dataCharacter, cX2_dataCharacter, 4, some .int, [])
theorem mt_X2_dataCharacter : gMt YX2_dataCharacter := ⟨gW_in (gIn4 (List.mem_of_getElem? (i := 143) rfl)) rfl, gW_in (gIn1 (List.mem_of_getElem? (i := 1) (by decide +kernel))) rfl, by decide +kernel, by decide +kernel, by decide +kernel, rfl⟩
theorem im_X2_dataCharacter : Cond.instanceMethod YX2_dataCharacter.1 ∈ gW := gW_in (gIn4 (List.mem_of_getElem? (i := 142) (by decide +kernel))) rfl
theorem se_X2_dataCharacter : Cond.selects (gRx 2) YX2_dataCharacter.1 YX2_dataCharacter.1 ∈ gW := gW_in (gIn0 (List.mem_of_getElem? (i := 44) (by decide +kernel))) rfl
theorem np_X2_dataCharacter : gNp YX2_dataCharacter.1 = some 2 := by decide +kernel
def YX2_writeFile : gY := (yX2_writeFile, cX2_writeFile, 6, none, [])
theorem mt_X2_writeFile : gMt YX2_writeFile := ⟨gW_in (gIn2 (List.mem_of_getElem? (i := 226) rfl)) rfl, gW_in (gIn1 (List.mem_of_getElem? (i := 1) (by decide +kernel))) rfl, by decide +kernel, by decide +kernel, by decide +kernel, rfl⟩
theorem im_X2_writeFile : Cond.instanceMethod YX2_writeFile.1 ∈ gW := gW_in (gIn2 (List.mem_of_getElem? (i := 225) (by decide +kernel))) rfl
theorem se_X2_writeFile : Cond.selects (gRx 2) YX2_writeFile.1 YX2_writeFile.1 ∈ gW := gW_in (gIn0 (List.mem_of_getElem? (i := 28) (by decide +kernel))) rfl
theorem np_X2_writeFile : gNp YX2_writeFile.1 = some 1 := by decide +kernel
def YX2_writeFound : gY := (yX2_writeFound, cX2_writeFound, 5, none, [])
theorem mt_X2_writeFound : gMt YX2_writeFound := ⟨gW_in (gIn3 (List.mem_of_getElem? (i := 6) rfl)) rfl, gW_in (gIn1 (List.mem_of_getElem? (i := 1) (by decide +kernel))) rfl, by decide +kernel, by decide +kernel, by decide +kernel, rfl⟩
theorem im_X2_writeFound : Cond.instanceMethod YX2_writeFound.1 ∈ gW := gW_in (gIn3 (List.mem_of_getElem? (i := 5) (by decide +kernel))) rfl
theorem se_X2_writeFound : Cond.selects (gRx 2) YX2_writeFound.1 YX2_writeFound.1 ∈ gW := gW_in (gIn0 (List.mem_of_getElem? (i := 32) (by decide +kernel))) rfl
theorem np_X2_writeFound : gNp YX2_writeFound.1 = some 3 := by decide +kernel
def YX2_sealBehind : gY := (yX2_sealBehind, cX2_sealBehind, 6, some .int, [])
theorem mt_X2_sealBehind : gMt YX2_sealBehind := ⟨gW_in (gIn3 (List.mem_of_getElem? (i := 2) rfl)) rfl, gW_in (gIn1 (List.mem_of_getElem? (i := 1) (by decide +kernel))) rfl, by decide +kernel, by decide +kernel, by decide +kernel, rfl⟩
theorem im_X2_sealBehind : Cond.instanceMethod YX2_sealBehind.1 ∈ gW := gW_in (gIn3 (List.mem_of_getElem? (i := 1) (by decide +kernel))) rfl
theorem se_X2_sealBehind : Cond.selects (gRx 2) YX2_sealBehind.1 YX2_sealBehind.1 ∈ gW := gW_in (gIn0 (List.mem_of_getElem? (i := 31) (by decide +kernel))) rfl
theorem np_X2_sealBehind : gNp YX2_sealBehind.1 = some 3 := by decide +kernel
def YX2_dataIn : gY := (yX2_dataIn, cX2_dataIn, 3, some .int, [])
theorem mt_X2_dataIn : gMt YX2_dataIn := ⟨gW_in (gIn2 (List.mem_of_getElem? (i := 232) rfl)) rfl, gW_in (gIn1 (List.mem_of_getElem? (i := 1) (by decide +kernel))) rfl, by decide +kernel, by decide +kernel, by decide +kernel, rfl⟩
theorem im_X2_dataIn : Cond.instanceMethod YX2_dataIn.1 ∈ gW := gW_in (gIn2 (List.mem_of_getElem? (i := 231) (by decide +kernel))) rfl
theorem se_X2_dataIn : Cond.selects (gRx 2) YX2_dataIn.1 YX2_dataIn.1 ∈ gW := gW_in (gIn0 (List.mem_of_getElem? (i := 29) (by decide +kernel))) rfl
theorem np_X2_dataIn : gNp YX2_dataIn.1 = some 2 := by decide +kernel
def YX2_lostBlocks : gY := (yX2_lostBlocks, cX2_lostBlocks, 4, some .int, [])
theorem mt_X2_lostBlocks : gMt YX2_lostBlocks := ⟨gW_in (gIn4 (List.mem_of_getElem? (i := 0) rfl)) rfl, gW_in (gIn1 (List.mem_of_getElem? (i := 1) (by decide +kernel))) rfl, by decide +kernel, by decide +kernel, by decide +kernel, rfl⟩
theorem im_X2_lostBlocks : Cond.instanceMethod YX2_lostBlocks.1 ∈ gW := gW_in (gIn3 (List.mem_of_getElem? (i := 239) (by decide +kernel))) rfl
theorem se_X2_lostBlocks : Cond.selects (gRx 2) YX2_lostBlocks.1 YX2_lostBlocks.1 ∈ gW := gW_in (gIn0 (List.mem_of_getElem? (i := 38) (by decide +kernel))) rfl
theorem np_X2_lostBlocks : gNp YX2_lostBlocks.1 = some 1 := by decide +kernel
def YX2_standingFrom : gY := (yX2_standingFrom, cX2_standingFrom, 6, some .int, [])
theorem mt_X2_standingFrom : gMt YX2_standingFrom := ⟨gW_in (gIn4 (List.mem_of_getElem? (i := 18) rfl)) rfl, gW_in (gIn1 (List.mem_of_getElem? (i := 1) (by decide +kernel))) rfl, by decide +kernel, by decide +kernel, by decide +kernel, rfl⟩
theorem im_X2_standingFrom : Cond.instanceMethod YX2_standingFrom.1 ∈ gW := gW_in (gIn4 (List.mem_of_getElem? (i := 17) (by decide +kernel))) rfl
theorem se_X2_standingFrom : Cond.selects (gRx 2) YX2_standingFrom.1 YX2_standingFrom.1 ∈ gW := gW_in (gIn0 (List.mem_of_getElem? (i := 39) (by decide +kernel))) rfl
theorem np_X2_standingFrom : gNp YX2_standingFrom.1 = some 3 := by decide +kernel
def YX2_scrubBlock : gY := (yX2_scrubBlock, cX2_scrubBlock, 7, some .int, [])
theorem mt_X2_scrubBlock : gMt YX2_scrubBlock := ⟨gW_in (gIn4 (List.mem_of_getElem? (i := 43) rfl)) rfl, gW_in (gIn1 (List.mem_of_getElem? (i := 1) (by decide +kernel))) rfl, by decide +kernel, by decide +kernel, by decide +kernel, rfl⟩
theorem im_X2_scrubBlock : Cond.instanceMethod YX2_scrubBlock.1 ∈ gW := gW_in (gIn4 (List.mem_of_getElem? (i := 42) (by decide +kernel))) rfl
theorem se_X2_scrubBlock : Cond.selects (gRx 2) YX2_scrubBlock.1 YX2_scrubBlock.1 ∈ gW := gW_in (gIn0 (List.mem_of_getElem? (i := 41) (by decide +kernel))) rfl
theorem np_X2_scrubBlock : gNp YX2_scrubBlock.1 = some 3 := by decide +kernel
def YX2_addLine : gY := (yX2_addLine, cX2_addLine, 6, none, [])
theorem mt_X2_addLine : gMt YX2_addLine := ⟨gW_in (gIn4 (List.mem_of_getElem? (i := 47) rfl)) rfl, gW_in (gIn1 (List.mem_of_getElem? (i := 1) (by decide +kernel))) rfl, by decide +kernel, by decide +kernel, by decide +kernel, rfl⟩
theorem im_X2_addLine : Cond.instanceMethod YX2_addLine.1 ∈ gW := gW_in (gIn4 (List.mem_of_getElem? (i := 46) (by decide +kernel))) rfl
theorem se_X2_addLine : Cond.selects (gRx 2) YX2_addLine.1 YX2_addLine.1 ∈ gW := gW_in (gIn0 (List.mem_of_getElem? (i := 42) (by decide +kernel))) rfl
theorem np_X2_addLine : gNp YX2_addLine.1 = some 4 := by decide +kernel
def YX2_isCell : gY := (yX2_isCell, cX2_isCell, 1, some .boolean, [])
theorem mt_X2_isCell : gMt YX2_isCell := ⟨gW_in (gIn3 (List.mem_of_getElem? (i := 116) rfl)) rfl, gW_in (gIn1 (List.mem_of_getElem? (i := 1) (by decide +kernel))) rfl, by decide +kernel, by decide +kernel, by decide +kernel, rfl⟩
theorem sf_X2_isCell : Cond.static YX2_isCell.1 ∈ gW := gW_in (gIn3 (List.mem_of_getElem? (i := 115) (by decide +kernel))) rfl
theorem np_X2_isCell : gNp YX2_isCell.1 = some 1 := by decide +kernel
def YX2_blocksFor : gY := (yX2_blocksFor, cX2_blocksFor, 1, some .int, [])
theorem mt_X2_blocksFor : gMt YX2_blocksFor := ⟨gW_in (gIn2 (List.mem_of_getElem? (i := 208) rfl)) rfl, gW_in (gIn1 (List.mem_of_getElem? (i := 1) (by decide +kernel))) rfl, by decide +kernel, by decide +kernel, by decide +kernel, rfl⟩
theorem sf_X2_blocksFor : Cond.static YX2_blocksFor.1 ∈ gW := gW_in (gIn2 (List.mem_of_getElem? (i := 207) (by decide +kernel))) rfl
theorem np_X2_blocksFor : gNp YX2_blocksFor.1 = some 1 := by decide +kernel
def YX2_product : gY := (yX2_product, cX2_product, 2, some .int, [])
theorem mt_X2_product : gMt YX2_product := ⟨gW_in (gIn2 (List.mem_of_getElem? (i := 34) rfl)) rfl, gW_in (gIn1 (List.mem_of_getElem? (i := 1) (by decide +kernel))) rfl, by decide +kernel, by decide +kernel, by decide +kernel, rfl⟩
theorem sf_X2_product : Cond.static YX2_product.1 ∈ gW := gW_in (gIn2 (List.mem_of_getElem? (i := 33) (by decide +kernel))) rfl
theorem np_X2_product : gNp YX2_product.1 = some 2 := by decide +kernel
def YX2_quotient : gY := (yX2_quotient, cX2_quotient, 2, some .int, [])
theorem mt_X2_quotient : gMt YX2_quotient := ⟨gW_in (gIn2 (List.mem_of_getElem? (i := 70) rfl)) rfl, gW_in (gIn1 (List.mem_of_getElem? (i := 1) (by decide +kernel))) rfl, by decide +kernel, by decide +kernel, by decide +kernel, rfl⟩
theorem sf_X2_quotient : Cond.static YX2_quotient.1 ∈ gW := gW_in (gIn2 (List.mem_of_getElem? (i := 69) (by decide +kernel))) rfl
theorem np_X2_quotient : gNp YX2_quotient.1 = some 2 := by decide +kernel
def YX3_init : gY := (yX3_init, cX3_init, 3, none, [])
theorem mt_X3_init : gMt YX3_init := ⟨gW_in (gIn4 (List.mem_of_getElem? (i := 164) rfl)) rfl, gW_in (gIn1 (List.mem_of_getElem? (i := 4) (by decide +kernel))) rfl, by decide +kernel, by decide +kernel, by decide +kernel, rfl⟩
theorem im_X3_init : Cond.instanceMethod YX3_init.1 ∈ gW := gW_in (gIn4 (List.mem_of_getElem? (i := 163) (by decide +kernel))) rfl
theorem np_X3_init : gNp YX3_init.1 = some 0 := by decide +kernel
def YX3_thrown : gY := (yX3_thrown, cX3_thrown, 1, some .int, [])
theorem mt_X3_thrown : gMt YX3_thrown := ⟨gW_in (gIn5 (List.mem_of_getElem? (i := 26) rfl)) rfl, gW_in (gIn1 (List.mem_of_getElem? (i := 4) (by decide +kernel))) rfl, by decide +kernel, by decide +kernel, by decide +kernel, rfl⟩
theorem im_X3_thrown : Cond.instanceMethod YX3_thrown.1 ∈ gW := gW_in (gIn5 (List.mem_of_getElem? (i := 24) (by decide +kernel))) rfl
theorem se_X3_thrown : Cond.selects (gRx 3) YX3_thrown.1 YX3_thrown.1 ∈ gW := gW_in (gIn5 (List.mem_of_getElem? (i := 25) (by decide +kernel))) rfl
theorem np_X3_thrown : gNp YX3_thrown.1 = some 0 := by decide +kernel
def YX3_no : gY := (yX3_no, cX3_no, 2, some .int, [])
theorem mt_X3_no : gMt YX3_no := ⟨gW_in (gIn5 (List.mem_of_getElem? (i := 72) rfl)) rfl, gW_in (gIn1 (List.mem_of_getElem? (i := 4) (by decide +kernel))) rfl, by decide +kernel, by decide +kernel, by decide +kernel, rfl⟩
theorem im_X3_no : Cond.instanceMethod YX3_no.1 ∈ gW := gW_in (gIn5 (List.mem_of_getElem? (i := 71) (by decide +kernel))) rfl
theorem se_X3_no : Cond.selects (gRx 3) YX3_no.1 YX3_no.1 ∈ gW := gW_in (gIn0 (List.mem_of_getElem? (i := 51) (by decide +kernel))) rfl
theorem np_X3_no : gNp YX3_no.1 = some 1 := by decide +kernel
def YX3_isIn : gY := (yX3_isIn, cX3_isIn, 3, some .boolean, [])
theorem mt_X3_isIn : gMt YX3_isIn := ⟨gW_in (gIn5 (List.mem_of_getElem? (i := 41) rfl)) rfl, gW_in (gIn1 (List.mem_of_getElem? (i := 4) (by decide +kernel))) rfl, by decide +kernel, by decide +kernel, by decide +kernel, rfl⟩
theorem sf_X3_isIn : Cond.static YX3_isIn.1 ∈ gW := gW_in (gIn5 (List.mem_of_getElem? (i := 40) (by decide +kernel))) rfl
theorem np_X3_isIn : gNp YX3_isIn.1 = some 3 := by decide +kernel
def YX3_keeps : gY := (yX3_keeps, cX3_keeps, 2, none, [])
theorem mt_X3_keeps : gMt YX3_keeps := ⟨gW_in (gIn5 (List.mem_of_getElem? (i := 96) rfl)) rfl, gW_in (gIn1 (List.mem_of_getElem? (i := 4) (by decide +kernel))) rfl, by decide +kernel, by decide +kernel, by decide +kernel, rfl⟩
theorem im_X3_keeps : Cond.instanceMethod YX3_keeps.1 ∈ gW := gW_in (gIn5 (List.mem_of_getElem? (i := 95) (by decide +kernel))) rfl
theorem se_X3_keeps : Cond.selects (gRx 3) YX3_keeps.1 YX3_keeps.1 ∈ gW := gW_in (gIn0 (List.mem_of_getElem? (i := 57) (by decide +kernel))) rfl
theorem np_X3_keeps : gNp YX3_keeps.1 = some 0 := by decide +kernel
def YX3_copies : gY := (yX3_copies, cX3_copies, 3, none, [])
theorem mt_X3_copies : gMt YX3_copies := ⟨gW_in (gIn6 (List.mem_of_getElem? (i := 97) rfl)) rfl, gW_in (gIn1 (List.mem_of_getElem? (i := 4) (by decide +kernel))) rfl, by decide +kernel, by decide +kernel, by decide +kernel, rfl⟩
theorem sf_X3_copies : Cond.static YX3_copies.1 ∈ gW := gW_in (gIn6 (List.mem_of_getElem? (i := 96) (by decide +kernel))) rfl
theorem np_X3_copies : gNp YX3_copies.1 = some 2 := by decide +kernel
def YX3_multiplied : gY := (yX3_multiplied, cX3_multiplied, 5, some .int, [])
theorem mt_X3_multiplied : gMt YX3_multiplied := ⟨gW_in (gIn4 (List.mem_of_getElem? (i := 168) rfl)) rfl, gW_in (gIn1 (List.mem_of_getElem? (i := 4) (by decide +kernel))) rfl, by decide +kernel, by decide +kernel, by decide +kernel, rfl⟩
theorem sf_X3_multiplied : Cond.static YX3_multiplied.1 ∈ gW := gW_in (gIn4 (List.mem_of_getElem? (i := 167) (by decide +kernel))) rfl
theorem np_X3_multiplied : gNp YX3_multiplied.1 = some 2 := by decide +kernel
def YX3_times : gY := (yX3_times, cX3_times, 3, some .int, [])
theorem mt_X3_times : gMt YX3_times := ⟨gW_in (gIn5 (List.mem_of_getElem? (i := 115) rfl)) rfl, gW_in (gIn1 (List.mem_of_getElem? (i := 4) (by decide +kernel))) rfl, by decide +kernel, by decide +kernel, by decide +kernel, rfl⟩
theorem im_X3_times : Cond.instanceMethod YX3_times.1 ∈ gW := gW_in (gIn5 (List.mem_of_getElem? (i := 114) (by decide +kernel))) rfl
theorem se_X3_times : Cond.selects (gRx 3) YX3_times.1 YX3_times.1 ∈ gW := gW_in (gIn0 (List.mem_of_getElem? (i := 61) (by decide +kernel))) rfl
theorem np_X3_times : gNp YX3_times.1 = some 2 := by decide +kernel
def YX3_power : gY := (yX3_power, cX3_power, 2, some .int, [])
theorem mt_X3_power : gMt YX3_power := ⟨gW_in (gIn5 (List.mem_of_getElem? (i := 111) rfl)) rfl, gW_in (gIn1 (List.mem_of_getElem? (i := 4) (by decide +kernel))) rfl, by decide +kernel, by decide +kernel, by decide +kernel, rfl⟩
theorem im_X3_power : Cond.instanceMethod YX3_power.1 ∈ gW := gW_in (gIn5 (List.mem_of_getElem? (i := 110) (by decide +kernel))) rfl
theorem se_X3_power : Cond.selects (gRx 3) YX3_power.1 YX3_power.1 ∈ gW := gW_in (gIn0 (List.mem_of_getElem? (i := 60) (by decide +kernel))) rfl
theorem np_X3_power : gNp YX3_power.1 = some 1 := by decide +kernel
def YX3_of : gY := (yX3_of, cX3_of, 3, some .int, [])
theorem mt_X3_of : gMt YX3_of := ⟨gW_in (gIn5 (List.mem_of_getElem? (i := 45) rfl)) rfl, gW_in (gIn1 (List.mem_of_getElem? (i := 4) (by decide +kernel))) rfl, by decide +kernel, by decide +kernel, by decide +kernel, rfl⟩
theorem im_X3_of : Cond.instanceMethod YX3_of.1 ∈ gW := gW_in (gIn5 (List.mem_of_getElem? (i := 44) (by decide +kernel))) rfl
theorem se_X3_of : Cond.selects (gRx 3) YX3_of.1 YX3_of.1 ∈ gW := gW_in (gIn0 (List.mem_of_getElem? (i := 47) (by decide +kernel))) rfl
theorem np_X3_of : gNp YX3_of.1 = some 2 := by decide +kernel
def YX3_isFile : gY := (yX3_isFile, cX3_isFile, 2, some .boolean, [])
theorem mt_X3_isFile : gMt YX3_isFile := ⟨gW_in (gIn5 (List.mem_of_getElem? (i := 38) rfl)) rfl, gW_in (gIn1 (List.mem_of_getElem? (i := 4) (by decide +kernel))) rfl, by decide +kernel, by decide +kernel, by decide +kernel, rfl⟩
theorem im_X3_isFile : Cond.instanceMethod YX3_isFile.1 ∈ gW := gW_in (gIn5 (List.mem_of_getElem? (i := 37) (by decide +kernel))) rfl
theorem se_X3_isFile : Cond.selects (gRx 3) YX3_isFile.1 YX3_isFile.1 ∈ gW := gW_in (gIn0 (List.mem_of_getElem? (i := 46) (by decide +kernel))) rfl
theorem np_X3_isFile : gNp YX3_isFile.1 = some 1 := by decide +kernel
def YX3_blocks : gY := (yX3_blocks, cX3_blocks, 2, some .int, [])
theorem mt_X3_blocks : gMt YX3_blocks := ⟨gW_in (gIn5 (List.mem_of_getElem? (i := 88) rfl)) rfl, gW_in (gIn1 (List.mem_of_getElem? (i := 4) (by decide +kernel))) rfl, by decide +kernel, by decide +kernel, by decide +kernel, rfl⟩
theorem im_X3_blocks : Cond.instanceMethod YX3_blocks.1 ∈ gW := gW_in (gIn5 (List.mem_of_getElem? (i := 87) (by decide +kernel))) rfl
theorem se_X3_blocks : Cond.selects (gRx 3) YX3_blocks.1 YX3_blocks.1 ∈ gW := gW_in (gIn0 (List.mem_of_getElem? (i := 55) (by decide +kernel))) rfl
theorem np_X3_blocks : gNp YX3_blocks.1 = some 1 := by decide +kernel
def YX3_size : gY := (yX3_size, cX3_size, 2, some .int, [])
theorem mt_X3_size : gMt YX3_size := ⟨gW_in (gIn5 (List.mem_of_getElem? (i := 92) rfl)) rfl, gW_in (gIn1 (List.mem_of_getElem? (i := 4) (by decide +kernel))) rfl, by decide +kernel, by decide +kernel, by decide +kernel, rfl⟩
theorem im_X3_size : Cond.instanceMethod YX3_size.1 ∈ gW := gW_in (gIn5 (List.mem_of_getElem? (i := 91) (by decide +kernel))) rfl
theorem se_X3_size : Cond.selects (gRx 3) YX3_size.1 YX3_size.1 ∈ gW := gW_in (gIn0 (List.mem_of_getElem? (i := 56) (by decide +kernel))) rfl
theorem np_X3_size : gNp YX3_size.1 = some 1 := by decide +kernel
def YX3_cells : gY := (yX3_cells, cX3_cells, 2, some .int, [])
theorem mt_X3_cells : gMt YX3_cells := ⟨gW_in (gIn5 (List.mem_of_getElem? (i := 84) rfl)) rfl, gW_in (gIn1 (List.mem_of_getElem? (i := 4) (by decide +kernel))) rfl, by decide +kernel, by decide +kernel, by decide +kernel, rfl⟩
theorem im_X3_cells : Cond.instanceMethod YX3_cells.1 ∈ gW := gW_in (gIn5 (List.mem_of_getElem? (i := 83) (by decide +kernel))) rfl
theorem se_X3_cells : Cond.selects (gRx 3) YX3_cells.1 YX3_cells.1 ∈ gW := gW_in (gIn0 (List.mem_of_getElem? (i := 54) (by decide +kernel))) rfl
theorem np_X3_cells : gNp YX3_cells.1 = some 1 := by decide +kernel
def YX3_isBlock : gY := (yX3_isBlock, cX3_isBlock, 3, some .boolean, [])
theorem mt_X3_isBlock : gMt YX3_isBlock := ⟨gW_in (gIn5 (List.mem_of_getElem? (i := 158) rfl)) rfl, gW_in (gIn1 (List.mem_of_getElem? (i := 4) (by decide +kernel))) rfl, by decide +kernel, by decide +kernel, by decide +kernel, rfl⟩
theorem im_X3_isBlock : Cond.instanceMethod YX3_isBlock.1 ∈ gW := gW_in (gIn5 (List.mem_of_getElem? (i := 157) (by decide +kernel))) rfl
theorem se_X3_isBlock : Cond.selects (gRx 3) YX3_isBlock.1 YX3_isBlock.1 ∈ gW := gW_in (gIn0 (List.mem_of_getElem? (i := 66) (by decide +kernel))) rfl
theorem np_X3_isBlock : gNp YX3_isBlock.1 = some 2 := by decide +kernel
def YX3_cell : gY := (yX3_cell, cX3_cell, 7, some .int, [])
theorem mt_X3_cell : gMt YX3_cell := ⟨gW_in (gIn5 (List.mem_of_getElem? (i := 126) rfl)) rfl, gW_in (gIn1 (List.mem_of_getElem? (i := 4) (by decide +kernel))) rfl, by decide +kernel, by decide +kernel, by decide +kernel, rfl⟩
theorem im_X3_cell : Cond.instanceMethod YX3_cell.1 ∈ gW := gW_in (gIn5 (List.mem_of_getElem? (i := 125) (by decide +kernel))) rfl
theorem se_X3_cell : Cond.selects (gRx 3) YX3_cell.1 YX3_cell.1 ∈ gW := gW_in (gIn0 (List.mem_of_getElem? (i := 63) (by decide +kernel))) rfl
theorem np_X3_cell : gNp YX3_cell.1 = some 3 := by decide +kernel
def YX3_ownerOf : gY := (yX3_ownerOf, cX3_ownerOf, 3, some .int, [])
theorem mt_X3_ownerOf : gMt YX3_ownerOf := ⟨gW_in (gIn5 (List.mem_of_getElem? (i := 80) rfl)) rfl, gW_in (gIn1 (List.mem_of_getElem? (i := 4) (by decide +kernel))) rfl, by decide +kernel, by decide +kernel, by decide +kernel, rfl⟩
theorem im_X3_ownerOf : Cond.instanceMethod YX3_ownerOf.1 ∈ gW := gW_in (gIn5 (List.mem_of_getElem? (i := 79) (by decide +kernel))) rfl
theorem se_X3_ownerOf : Cond.selects (gRx 3) YX3_ownerOf.1 YX3_ownerOf.1 ∈ gW := gW_in (gIn0 (List.mem_of_getElem? (i := 53) (by decide +kernel))) rfl
theorem np_X3_ownerOf : gNp YX3_ownerOf.1 = some 1 := by decide +kernel
def YX3_many : gY := (yX3_many, cX3_many, 3, some .int, [])
theorem mt_X3_many : gMt YX3_many := ⟨gW_in (gIn5 (List.mem_of_getElem? (i := 34) rfl)) rfl, gW_in (gIn1 (List.mem_of_getElem? (i := 4) (by decide +kernel))) rfl, by decide +kernel, by decide +kernel, by decide +kernel, rfl⟩
theorem im_X3_many : Cond.instanceMethod YX3_many.1 ∈ gW := gW_in (gIn5 (List.mem_of_getElem? (i := 33) (by decide +kernel))) rfl
theorem se_X3_many : Cond.selects (gRx 3) YX3_many.1 YX3_many.1 ∈ gW := gW_in (gIn0 (List.mem_of_getElem? (i := 45) (by decide +kernel))) rfl
theorem np_X3_many : gNp YX3_many.1 = some 0 := by decide +kernel
def YX3_clear : gY := (yX3_clear, cX3_clear, 3, some .int, [])
theorem mt_X3_clear : gMt YX3_clear := ⟨gW_in (gIn5 (List.mem_of_getElem? (i := 30) rfl)) rfl, gW_in (gIn1 (List.mem_of_getElem? (i := 4) (by decide +kernel))) rfl, by decide +kernel, by decide +kernel, by decide +kernel, rfl⟩
theorem im_X3_clear : Cond.instanceMethod YX3_clear.1 ∈ gW := gW_in (gIn5 (List.mem_of_getElem? (i := 28) (by decide +kernel))) rfl
theorem se_X3_clear : Cond.selects (gRx 3) YX3_clear.1 YX3_clear.1 ∈ gW := gW_in (gIn5 (List.mem_of_getElem? (i := 29) (by decide +kernel))) rfl
theorem np_X3_clear : gNp YX3_clear.1 = some 0 := by decide +kernel
def YX3_append : gY := (yX3_append, cX3_append, 2, some .int, [])
theorem mt_X3_append : gMt YX3_append := ⟨gW_in (gIn5 (List.mem_of_getElem? (i := 49) rfl)) rfl, gW_in (gIn1 (List.mem_of_getElem? (i := 4) (by decide +kernel))) rfl, by decide +kernel, by decide +kernel, by decide +kernel, rfl⟩
theorem im_X3_append : Cond.instanceMethod YX3_append.1 ∈ gW := gW_in (gIn5 (List.mem_of_getElem? (i := 47) (by decide +kernel))) rfl
theorem se_X3_append : Cond.selects (gRx 3) YX3_append.1 YX3_append.1 ∈ gW := gW_in (gIn5 (List.mem_of_getElem? (i := 48) (by decide +kernel))) rfl
theorem np_X3_append : gNp YX3_append.1 = some 1 := by decide +kernel
def YX3_here : gY := (yX3_here, cX3_here, 1, some .int, [])
theorem mt_X3_here : gMt YX3_here := ⟨gW_in (gIn5 (List.mem_of_getElem? (i := 61) rfl)) rfl, gW_in (gIn1 (List.mem_of_getElem? (i := 4) (by decide +kernel))) rfl, by decide +kernel, by decide +kernel, by decide +kernel, rfl⟩
theorem im_X3_here : Cond.instanceMethod YX3_here.1 ∈ gW := gW_in (gIn5 (List.mem_of_getElem? (i := 60) (by decide +kernel))) rfl
theorem se_X3_here : Cond.selects (gRx 3) YX3_here.1 YX3_here.1 ∈ gW := gW_in (gIn0 (List.mem_of_getElem? (i := 49) (by decide +kernel))) rfl
theorem np_X3_here : gNp YX3_here.1 = some 0 := by decide +kernel
def YX3_digit : gY := (yX3_digit, cX3_digit, 3, some .int, [])
theorem mt_X3_digit : gMt YX3_digit := ⟨gW_in (gIn5 (List.mem_of_getElem? (i := 57) rfl)) rfl, gW_in (gIn1 (List.mem_of_getElem? (i := 4) (by decide +kernel))) rfl, by decide +kernel, by decide +kernel, by decide +kernel, rfl⟩
theorem im_X3_digit : Cond.instanceMethod YX3_digit.1 ∈ gW := gW_in (gIn5 (List.mem_of_getElem? (i := 56) (by decide +kernel))) rfl
theorem se_X3_digit : Cond.selects (gRx 3) YX3_digit.1 YX3_digit.1 ∈ gW := gW_in (gIn0 (List.mem_of_getElem? (i := 48) (by decide +kernel))) rfl
theorem np_X3_digit : gNp YX3_digit.1 = some 1 := by decide +kernel
def YX3_takes : gY := (yX3_takes, cX3_takes, 2, none, [])
theorem mt_X3_takes : gMt YX3_takes := ⟨gW_in (gIn5 (List.mem_of_getElem? (i := 65) rfl)) rfl, gW_in (gIn1 (List.mem_of_getElem? (i := 4) (by decide +kernel))) rfl, by decide +kernel, by decide +kernel, by decide +kernel, rfl⟩
theorem im_X3_takes : Cond.instanceMethod YX3_takes.1 ∈ gW := gW_in (gIn5 (List.mem_of_getElem? (i := 64) (by decide +kernel))) rfl
theorem se_X3_takes : Cond.selects (gRx 3) YX3_takes.1 YX3_takes.1 ∈ gW := gW_in (gIn0 (List.mem_of_getElem? (i := 50) (by decide +kernel))) rfl
theorem np_X3_takes : gNp YX3_takes.1 = some 1 := by decide +kernel
def YX3_symbolOf : gY := (yX3_symbolOf, cX3_symbolOf, 1, some .int, [])
theorem mt_X3_symbolOf : gMt YX3_symbolOf := ⟨gW_in (gIn5 (List.mem_of_getElem? (i := 68) rfl)) rfl, gW_in (gIn1 (List.mem_of_getElem? (i := 4) (by decide +kernel))) rfl, by decide +kernel, by decide +kernel, by decide +kernel, rfl⟩
theorem sf_X3_symbolOf : Cond.static YX3_symbolOf.1 ∈ gW := gW_in (gIn5 (List.mem_of_getElem? (i := 67) (by decide +kernel))) rfl
theorem np_X3_symbolOf : gNp YX3_symbolOf.1 = some 1 := by decide +kernel
def YX3_area : gY := (yX3_area, cX3_area, 4, some .int, [])
theorem mt_X3_area : gMt YX3_area := ⟨gW_in (gIn5 (List.mem_of_getElem? (i := 76) rfl)) rfl, gW_in (gIn1 (List.mem_of_getElem? (i := 4) (by decide +kernel))) rfl, by decide +kernel, by decide +kernel, by decide +kernel, rfl⟩
theorem im_X3_area : Cond.instanceMethod YX3_area.1 ∈ gW := gW_in (gIn5 (List.mem_of_getElem? (i := 75) (by decide +kernel))) rfl
theorem se_X3_area : Cond.selects (gRx 3) YX3_area.1 YX3_area.1 ∈ gW := gW_in (gIn0 (List.mem_of_getElem? (i := 52) (by decide +kernel))) rfl
theorem np_X3_area : gNp YX3_area.1 = some 1 := by decide +kernel
def YX3_writes : gY := (yX3_writes, cX3_writes, 3, none, [])
theorem mt_X3_writes : gMt YX3_writes := ⟨gW_in (gIn5 (List.mem_of_getElem? (i := 130) rfl)) rfl, gW_in (gIn1 (List.mem_of_getElem? (i := 4) (by decide +kernel))) rfl, by decide +kernel, by decide +kernel, by decide +kernel, rfl⟩
theorem im_X3_writes : Cond.instanceMethod YX3_writes.1 ∈ gW := gW_in (gIn5 (List.mem_of_getElem? (i := 129) (by decide +kernel))) rfl
theorem se_X3_writes : Cond.selects (gRx 3) YX3_writes.1 YX3_writes.1 ∈ gW := gW_in (gIn0 (List.mem_of_getElem? (i := 64) (by decide +kernel))) rfl
theorem np_X3_writes : gNp YX3_writes.1 = some 2 := by decide +kernel
def YX3_store : gY := (yX3_store, cX3_store, 11, some .int, [])
theorem mt_X3_store : gMt YX3_store := ⟨gW_in (gIn5 (List.mem_of_getElem? (i := 53) rfl)) rfl, gW_in (gIn1 (List.mem_of_getElem? (i := 4) (by decide +kernel))) rfl, by decide +kernel, by decide +kernel, by decide +kernel, rfl⟩
theorem im_X3_store : Cond.instanceMethod YX3_store.1 ∈ gW := gW_in (gIn5 (List.mem_of_getElem? (i := 51) (by decide +kernel))) rfl
theorem se_X3_store : Cond.selects (gRx 3) YX3_store.1 YX3_store.1 ∈ gW := gW_in (gIn5 (List.mem_of_getElem? (i := 52) (by decide +kernel))) rfl
theorem np_X3_store : gNp YX3_store.1 = some 0 := by decide +kernel
def YX3_errorPosition : gY := (yX3_errorPosition, cX3_errorPosition, 1, some .int, [])
theorem mt_X3_errorPosition : gMt YX3_errorPosition := ⟨gW_in (gIn5 (List.mem_of_getElem? (i := 134) rfl)) rfl, gW_in (gIn1 (List.mem_of_getElem? (i := 4) (by decide +kernel))) rfl, by decide +kernel, by decide +kernel, by decide +kernel, rfl⟩
theorem im_X3_errorPosition : Cond.instanceMethod YX3_errorPosition.1 ∈ gW := gW_in (gIn5 (List.mem_of_getElem? (i := 132) (by decide +kernel))) rfl
theorem se_X3_errorPosition : Cond.selects (gRx 3) YX3_errorPosition.1 YX3_errorPosition.1 ∈ gW := gW_in (gIn5 (List.mem_of_getElem? (i := 133) (by decide +kernel))) rfl
theorem np_X3_errorPosition : gNp YX3_errorPosition.1 = some 0 := by decide +kernel
def YX3_remove : gY := (yX3_remove, cX3_remove, 3, some .int, [])
theorem mt_X3_remove : gMt YX3_remove := ⟨gW_in (gIn5 (List.mem_of_getElem? (i := 138) rfl)) rfl, gW_in (gIn1 (List.mem_of_getElem? (i := 4) (by decide +kernel))) rfl, by decide +kernel, by decide +kernel, by decide +kernel, rfl⟩
theorem im_X3_remove : Cond.instanceMethod YX3_remove.1 ∈ gW := gW_in (gIn5 (List.mem_of_getElem? (i := 136) (by decide +kernel))) rfl
theorem se_X3_remove : Cond.selects (gRx 3) YX3_remove.1 YX3_remove.1 ∈ gW := gW_in (gIn5 (List.mem_of_getElem? (i := 137) (by decide +kernel))) rfl
theorem np_X3_remove : gNp YX3_remove.1 = some 1 := by decide +kernel
def YX3_file : gY := (yX3_file, cX3_file, 3, some .int, [])
theorem mt_X3_file : gMt YX3_file := ⟨gW_in (gIn5 (List.mem_of_getElem? (i := 142) rfl)) rfl, gW_in (gIn1 (List.mem_of_getElem? (i := 4) (by decide +kernel))) rfl, by decide +kernel, by decide +kernel, by decide +kernel, rfl⟩
theorem im_X3_file : Cond.instanceMethod YX3_file.1 ∈ gW := gW_in (gIn5 (List.mem_of_getElem? (i := 140) (by decide +kernel))) rfl
theorem se_X3_file : Cond.selects (gRx 3) YX3_file.1 YX3_file.1 ∈ gW := gW_in (gIn5 (List.mem_of_getElem? (i := 141) (by decide +kernel))) rfl
theorem np_X3_file : gNp YX3_file.1 = some 2 := by decide +kernel
def YX3_files : gY := (yX3_files, cX3_files, 3, some .int, [])
theorem mt_X3_files : gMt YX3_files := ⟨gW_in (gIn5 (List.mem_of_getElem? (i := 146) rfl)) rfl, gW_in (gIn1 (List.mem_of_getElem? (i := 4) (by decide +kernel))) rfl, by decide +kernel, by decide +kernel, by decide +kernel, rfl⟩
theorem im_X3_files : Cond.instanceMethod YX3_files.1 ∈ gW := gW_in (gIn5 (List.mem_of_getElem? (i := 144) (by decide +kernel))) rfl
theorem se_X3_files : Cond.selects (gRx 3) YX3_files.1 YX3_files.1 ∈ gW := gW_in (gIn5 (List.mem_of_getElem? (i := 145) (by decide +kernel))) rfl
theorem np_X3_files : gNp YX3_files.1 = some 0 := by decide +kernel
def YX3_isPlace : gY := (yX3_isPlace, cX3_isPlace, 4, some .boolean, [])
theorem mt_X3_isPlace : gMt YX3_isPlace := ⟨gW_in (gIn5 (List.mem_of_getElem? (i := 154) rfl)) rfl, gW_in (gIn1 (List.mem_of_getElem? (i := 4) (by decide +kernel))) rfl, by decide +kernel, by decide +kernel, by decide +kernel, rfl⟩
theorem im_X3_isPlace : Cond.instanceMethod YX3_isPlace.1 ∈ gW := gW_in (gIn5 (List.mem_of_getElem? (i := 153) (by decide +kernel))) rfl
theorem se_X3_isPlace : Cond.selects (gRx 3) YX3_isPlace.1 YX3_isPlace.1 ∈ gW := gW_in (gIn0 (List.mem_of_getElem? (i := 65) (by decide +kernel))) rfl
theorem np_X3_isPlace : gNp YX3_isPlace.1 = some 3 := by decide +kernel
def YX3_cellOf : gY := (yX3_cellOf, cX3_cellOf, 4, some .int, [])
theorem mt_X3_cellOf : gMt YX3_cellOf := ⟨gW_in (gIn5 (List.mem_of_getElem? (i := 150) rfl)) rfl, gW_in (gIn1 (List.mem_of_getElem? (i := 4) (by decide +kernel))) rfl, by decide +kernel, by decide +kernel, by decide +kernel, rfl⟩
theorem im_X3_cellOf : Cond.instanceMethod YX3_cellOf.1 ∈ gW := gW_in (gIn5 (List.mem_of_getElem? (i := 148) (by decide +kernel))) rfl
theorem se_X3_cellOf : Cond.selects (gRx 3) YX3_cellOf.1 YX3_cellOf.1 ∈ gW := gW_in (gIn5 (List.mem_of_getElem? (i := 149) (by decide +kernel))) rfl
theorem np_X3_cellOf : gNp YX3_cellOf.1 = some 3 := by decide +kernel
def YX3_isCell : gY := (yX3_isCell, cX3_isCell, 2, some .boolean, [])
theorem mt_X3_isCell : gMt YX3_isCell := ⟨gW_in (gIn5 (List.mem_of_getElem? (i := 166) rfl)) rfl, gW_in (gIn1 (List.mem_of_getElem? (i := 4) (by decide +kernel))) rfl, by decide +kernel, by decide +kernel, by decide +kernel, rfl⟩
theorem im_X3_isCell : Cond.instanceMethod YX3_isCell.1 ∈ gW := gW_in (gIn5 (List.mem_of_getElem? (i := 165) (by decide +kernel))) rfl
theorem se_X3_isCell : Cond.selects (gRx 3) YX3_isCell.1 YX3_isCell.1 ∈ gW := gW_in (gIn0 (List.mem_of_getElem? (i := 67) (by decide +kernel))) rfl
theorem np_X3_isCell : gNp YX3_isCell.1 = some 1 := by decide +kernel
def YX3_owner : gY := (yX3_owner, cX3_owner, 2, some .int, [])
theorem mt_X3_owner : gMt YX3_owner := ⟨gW_in (gIn5 (List.mem_of_getElem? (i := 162) rfl)) rfl, gW_in (gIn1 (List.mem_of_getElem? (i := 4) (by decide +kernel))) rfl, by decide +kernel, by decide +kernel, by decide +kernel, rfl⟩
theorem im_X3_owner : Cond.instanceMethod YX3_owner.1 ∈ gW := gW_in (gIn5 (List.mem_of_getElem? (i := 160) (by decide +kernel))) rfl
theorem se_X3_owner : Cond.selects (gRx 3) YX3_owner.1 YX3_owner.1 ∈ gW := gW_in (gIn5 (List.mem_of_getElem? (i := 161) (by decide +kernel))) rfl
theorem np_X3_owner : gNp YX3_owner.1 = some 1 := by decide +kernel
def YX3_placeOf : gY := (yX3_placeOf, cX3_placeOf, 5, some .int, [])
theorem mt_X3_placeOf : gMt YX3_placeOf := ⟨gW_in (gIn5 (List.mem_of_getElem? (i := 170) rfl)) rfl, gW_in (gIn1 (List.mem_of_getElem? (i := 4) (by decide +kernel))) rfl, by decide +kernel, by decide +kernel, by decide +kernel, rfl⟩
theorem im_X3_placeOf : Cond.instanceMethod YX3_placeOf.1 ∈ gW := gW_in (gIn5 (List.mem_of_getElem? (i := 168) (by decide +kernel))) rfl
theorem se_X3_placeOf : Cond.selects (gRx 3) YX3_placeOf.1 YX3_placeOf.1 ∈ gW := gW_in (gIn5 (List.mem_of_getElem? (i := 169) (by decide +kernel))) rfl
theorem np_X3_placeOf : gNp YX3_placeOf.1 = some 1 := by decide +kernel
def YX3_room : gY := (yX3_room, cX3_room, 4, some .int, [])
theorem mt_X3_room : gMt YX3_room := ⟨gW_in (gIn5 (List.mem_of_getElem? (i := 174) rfl)) rfl, gW_in (gIn1 (List.mem_of_getElem? (i := 4) (by decide +kernel))) rfl, by decide +kernel, by decide +kernel, by decide +kernel, rfl⟩
theorem im_X3_room : Cond.instanceMethod YX3_room.1 ∈ gW := gW_in (gIn5 (List.mem_of_getElem? (i := 172) (by decide +kernel))) rfl
theorem se_X3_room : Cond.selects (gRx 3) YX3_room.1 YX3_room.1 ∈ gW := gW_in (gIn5 (List.mem_of_getElem? (i := 173) (by decide +kernel))) rfl
theorem np_X3_room : gNp YX3_room.1 = some 0 := by decide +kernel
def YX3_symbol : gY := (yX3_symbol, cX3_symbol, 2, some .int, [])
theorem mt_X3_symbol : gMt YX3_symbol := ⟨gW_in (gIn5 (List.mem_of_getElem? (i := 178) rfl)) rfl, gW_in (gIn1 (List.mem_of_getElem? (i := 4) (by decide +kernel))) rfl, by decide +kernel, by decide +kernel, by decide +kernel, rfl⟩
theorem im_X3_symbol : Cond.instanceMethod YX3_symbol.1 ∈ gW := gW_in (gIn5 (List.mem_of_getElem? (i := 176) (by decide +kernel))) rfl
theorem se_X3_symbol : Cond.selects (gRx 3) YX3_symbol.1 YX3_symbol.1 ∈ gW := gW_in (gIn5 (List.mem_of_getElem? (i := 177) (by decide +kernel))) rfl
theorem np_X3_symbol : gNp YX3_symbol.1 = some 1 := by decide +kernel
def YX3_isErased : gY := (yX3_isErased, cX3_isErased, 2, some .boolean, [])
theorem mt_X3_isErased : gMt YX3_isErased := ⟨gW_in (gIn5 (List.mem_of_getElem? (i := 182) rfl)) rfl, gW_in (gIn1 (List.mem_of_getElem? (i := 4) (by decide +kernel))) rfl, by decide +kernel, by decide +kernel, by decide +kernel, rfl⟩
theorem im_X3_isErased : Cond.instanceMethod YX3_isErased.1 ∈ gW := gW_in (gIn5 (List.mem_of_getElem? (i := 180) (by decide +kernel))) rfl
theorem se_X3_isErased : Cond.selects (gRx 3) YX3_isErased.1 YX3_isErased.1 ∈ gW := gW_in (gIn5 (List.mem_of_getElem? (i := 181) (by decide +kernel))) rfl
theorem np_X3_isErased : gNp YX3_isErased.1 = some 1 := by decide +kernel
def YX3_flip : gY := (yX3_flip, cX3_flip, 3, some .int, [])
theorem mt_X3_flip : gMt YX3_flip := ⟨gW_in (gIn5 (List.mem_of_getElem? (i := 186) rfl)) rfl, gW_in (gIn1 (List.mem_of_getElem? (i := 4) (by decide +kernel))) rfl, by decide +kernel, by decide +kernel, by decide +kernel, rfl⟩
theorem im_X3_flip : Cond.instanceMethod YX3_flip.1 ∈ gW := gW_in (gIn5 (List.mem_of_getElem? (i := 184) (by decide +kernel))) rfl
theorem se_X3_flip : Cond.selects (gRx 3) YX3_flip.1 YX3_flip.1 ∈ gW := gW_in (gIn5 (List.mem_of_getElem? (i := 185) (by decide +kernel))) rfl
theorem np_X3_flip : gNp YX3_flip.1 = some 2 := by decide +kernel
def YX3_erase : gY := (yX3_erase, cX3_erase, 3, some .int, [])
theorem mt_X3_erase : gMt YX3_erase := ⟨gW_in (gIn5 (List.mem_of_getElem? (i := 190) rfl)) rfl, gW_in (gIn1 (List.mem_of_getElem? (i := 4) (by decide +kernel))) rfl, by decide +kernel, by decide +kernel, by decide +kernel, rfl⟩
theorem im_X3_erase : Cond.instanceMethod YX3_erase.1 ∈ gW := gW_in (gIn5 (List.mem_of_getElem? (i := 188) (by decide +kernel))) rfl
theorem se_X3_erase : Cond.selects (gRx 3) YX3_erase.1 YX3_erase.1 ∈ gW := gW_in (gIn5 (List.mem_of_getElem? (i := 189) (by decide +kernel))) rfl
theorem np_X3_erase : gNp YX3_erase.1 = some 1 := by decide +kernel
def YX3_burst : gY := (yX3_burst, cX3_burst, 6, some .int, [])
theorem mt_X3_burst : gMt YX3_burst := ⟨gW_in (gIn5 (List.mem_of_getElem? (i := 194) rfl)) rfl, gW_in (gIn1 (List.mem_of_getElem? (i := 4) (by decide +kernel))) rfl, by decide +kernel, by decide +kernel, by decide +kernel, rfl⟩
theorem im_X3_burst : Cond.instanceMethod YX3_burst.1 ∈ gW := gW_in (gIn5 (List.mem_of_getElem? (i := 192) (by decide +kernel))) rfl
theorem se_X3_burst : Cond.selects (gRx 3) YX3_burst.1 YX3_burst.1 ∈ gW := gW_in (gIn5 (List.mem_of_getElem? (i := 193) (by decide +kernel))) rfl
theorem np_X3_burst : gNp YX3_burst.1 = some 3 := by decide +kernel
def YX3_isWrong : gY := (yX3_isWrong, cX3_isWrong, 2, some .boolean, [])
theorem mt_X3_isWrong : gMt YX3_isWrong := ⟨gW_in (gIn5 (List.mem_of_getElem? (i := 206) rfl)) rfl, gW_in (gIn1 (List.mem_of_getElem? (i := 4) (by decide +kernel))) rfl, by decide +kernel, by decide +kernel, by decide +kernel, rfl⟩
theorem im_X3_isWrong : Cond.instanceMethod YX3_isWrong.1 ∈ gW := gW_in (gIn5 (List.mem_of_getElem? (i := 205) (by decide +kernel))) rfl
theorem se_X3_isWrong : Cond.selects (gRx 3) YX3_isWrong.1 YX3_isWrong.1 ∈ gW := gW_in (gIn0 (List.mem_of_getElem? (i := 69) (by decide +kernel))) rfl
theorem np_X3_isWrong : gNp YX3_isWrong.1 = some 1 := by decide +kernel
def YX3_isFileOrAll : gY := (yX3_isFileOrAll, cX3_isFileOrAll, 2, some .boolean, [])
theorem mt_X3_isFileOrAll : gMt YX3_isFileOrAll := ⟨gW_in (gIn5 (List.mem_of_getElem? (i := 202) rfl)) rfl, gW_in (gIn1 (List.mem_of_getElem? (i := 4) (by decide +kernel))) rfl, by decide +kernel, by decide +kernel, by decide +kernel, rfl⟩
theorem im_X3_isFileOrAll : Cond.instanceMethod YX3_isFileOrAll.1 ∈ gW := gW_in (gIn5 (List.mem_of_getElem? (i := 201) (by decide +kernel))) rfl
theorem se_X3_isFileOrAll : Cond.selects (gRx 3) YX3_isFileOrAll.1 YX3_isFileOrAll.1 ∈ gW := gW_in (gIn0 (List.mem_of_getElem? (i := 68) (by decide +kernel))) rfl
theorem np_X3_isFileOrAll : gNp YX3_isFileOrAll.1 = some 1 := by decide +kernel
def YX3_wrong : gY := (yX3_wrong, cX3_wrong, 4, some .int, [])
theorem mt_X3_wrong : gMt YX3_wrong := ⟨gW_in (gIn5 (List.mem_of_getElem? (i := 198) rfl)) rfl, gW_in (gIn1 (List.mem_of_getElem? (i := 4) (by decide +kernel))) rfl, by decide +kernel, by decide +kernel, by decide +kernel, rfl⟩
theorem im_X3_wrong : Cond.instanceMethod YX3_wrong.1 ∈ gW := gW_in (gIn5 (List.mem_of_getElem? (i := 196) (by decide +kernel))) rfl
theorem se_X3_wrong : Cond.selects (gRx 3) YX3_wrong.1 YX3_wrong.1 ∈ gW := gW_in (gIn5 (List.mem_of_getElem? (i := 197) (by decide +kernel))) rfl
theorem np_X3_wrong : gNp YX3_wrong.1 = some 1 := by decide +kernel
def YX3_erased : gY := (yX3_erased, cX3_erased, 4, some .int, [])
theorem mt_X3_erased : gMt YX3_erased := ⟨gW_in (gIn5 (List.mem_of_getElem? (i := 210) rfl)) rfl, gW_in (gIn1 (List.mem_of_getElem? (i := 4) (by decide +kernel))) rfl, by decide +kernel, by decide +kernel, by decide +kernel, rfl⟩
theorem im_X3_erased : Cond.instanceMethod YX3_erased.1 ∈ gW := gW_in (gIn5 (List.mem_of_getElem? (i := 208) (by decide +kernel))) rfl
theorem se_X3_erased : Cond.selects (gRx 3) YX3_erased.1 YX3_erased.1 ∈ gW := gW_in (gIn5 (List.mem_of_getElem? (i := 209) (by decide +kernel))) rfl
theorem np_X3_erased : gNp YX3_erased.1 = some 1 := by decide +kernel
def YX3_looks : gY := (yX3_looks, cX3_looks, 5, none, [])
theorem mt_X3_looks : gMt YX3_looks := ⟨gW_in (gIn5 (List.mem_of_getElem? (i := 218) rfl)) rfl, gW_in (gIn1 (List.mem_of_getElem? (i := 4) (by decide +kernel))) rfl, by decide +kernel, by decide +kernel, by decide +kernel, rfl⟩
theorem im_X3_looks : Cond.instanceMethod YX3_looks.1 ∈ gW := gW_in (gIn5 (List.mem_of_getElem? (i := 217) (by decide +kernel))) rfl
theorem se_X3_looks : Cond.selects (gRx 3) YX3_looks.1 YX3_looks.1 ∈ gW := gW_in (gIn0 (List.mem_of_getElem? (i := 70) (by decide +kernel))) rfl
theorem np_X3_looks : gNp YX3_looks.1 = some 2 := by decide +kernel
def YX3_sumOf : gY := (yX3_sumOf, cX3_sumOf, 4, some .int, [])
theorem mt_X3_sumOf : gMt YX3_sumOf := ⟨gW_in (gIn5 (List.mem_of_getElem? (i := 107) rfl)) rfl, gW_in (gIn1 (List.mem_of_getElem? (i := 4) (by decide +kernel))) rfl, by decide +kernel, by decide +kernel, by decide +kernel, rfl⟩
theorem im_X3_sumOf : Cond.instanceMethod YX3_sumOf.1 ∈ gW := gW_in (gIn5 (List.mem_of_getElem? (i := 106) (by decide +kernel))) rfl
theorem se_X3_sumOf : Cond.selects (gRx 3) YX3_sumOf.1 YX3_sumOf.1 ∈ gW := gW_in (gIn0 (List.mem_of_getElem? (i := 59) (by decide +kernel))) rfl
theorem np_X3_sumOf : gNp YX3_sumOf.1 = some 1 := by decide +kernel
def YX3_bits : gY := (yX3_bits, cX3_bits, 3, some .int, [])
theorem mt_X3_bits : gMt YX3_bits := ⟨gW_in (gIn5 (List.mem_of_getElem? (i := 103) rfl)) rfl, gW_in (gIn1 (List.mem_of_getElem? (i := 4) (by decide +kernel))) rfl, by decide +kernel, by decide +kernel, by decide +kernel, rfl⟩
theorem sf_X3_bits : Cond.static YX3_bits.1 ∈ gW := gW_in (gIn5 (List.mem_of_getElem? (i := 102) (by decide +kernel))) rfl
theorem np_X3_bits : gNp YX3_bits.1 = some 1 := by decide +kernel
def YX3_isSolved : gY := (yX3_isSolved, cX3_isSolved, 9, some .boolean, [])
theorem mt_X3_isSolved : gMt YX3_isSolved := ⟨gW_in (gIn5 (List.mem_of_getElem? (i := 119) rfl)) rfl, gW_in (gIn1 (List.mem_of_getElem? (i := 4) (by decide +kernel))) rfl, by decide +kernel, by decide +kernel, by decide +kernel, rfl⟩
theorem im_X3_isSolved : Cond.instanceMethod YX3_isSolved.1 ∈ gW := gW_in (gIn5 (List.mem_of_getElem? (i := 118) (by decide +kernel))) rfl
theorem se_X3_isSolved : Cond.selects (gRx 3) YX3_isSolved.1 YX3_isSolved.1 ∈ gW := gW_in (gIn0 (List.mem_of_getElem? (i := 62) (by decide +kernel))) rfl
theorem np_X3_isSolved : gNp YX3_isSolved.1 = some 1 := by decide +kernel
def YX3_isDecoded : gY := (yX3_isDecoded, cX3_isDecoded, 2, some .boolean, [])
theorem mt_X3_isDecoded : gMt YX3_isDecoded := ⟨gW_in (gIn5 (List.mem_of_getElem? (i := 100) rfl)) rfl, gW_in (gIn1 (List.mem_of_getElem? (i := 4) (by decide +kernel))) rfl, by decide +kernel, by decide +kernel, by decide +kernel, rfl⟩
theorem im_X3_isDecoded : Cond.instanceMethod YX3_isDecoded.1 ∈ gW := gW_in (gIn5 (List.mem_of_getElem? (i := 99) (by decide +kernel))) rfl
theorem se_X3_isDecoded : Cond.selects (gRx 3) YX3_isDecoded.1 YX3_isDecoded.1 ∈ gW := gW_in (gIn0 (List.mem_of_getElem? (i := 58) (by decide +kernel))) rfl
theorem np_X3_isDecoded : gNp YX3_isDecoded.1 = some 0 := by decide +kernel
def YX3_behind : gY := (yX3_behind, cX3_behind, 4, some .int, [])
theorem mt_X3_behind : gMt YX3_behind := ⟨gW_in (gIn5 (List.mem_of_getElem? (i := 122) rfl)) rfl, gW_in (gIn1 (List.mem_of_getElem? (i := 4) (by decide +kernel))) rfl, by decide +kernel, by decide +kernel, by decide +kernel, rfl⟩
theorem sf_X3_behind : Cond.static YX3_behind.1 ∈ gW := gW_in (gIn5 (List.mem_of_getElem? (i := 121) (by decide +kernel))) rfl
theorem np_X3_behind : gNp YX3_behind.1 = some 2 := by decide +kernel
def YX3_isDecoded_ : gY := (yX3_isDecoded_, cX3_isDecoded_, 3, some .boolean, [])
theorem mt_X3_isDecoded_ : gMt YX3_isDecoded_ := ⟨gW_in (gIn5 (List.mem_of_getElem? (i := 230) rfl)) rfl, gW_in (gIn1 (List.mem_of_getElem? (i := 4) (by decide +kernel))) rfl, by decide +kernel, by decide +kernel, by decide +kernel, rfl⟩
theorem im_X3_isDecoded_ : Cond.instanceMethod YX3_isDecoded_.1 ∈ gW := gW_in (gIn5 (List.mem_of_getElem? (i := 229) (by decide +kernel))) rfl
theorem se_X3_isDecoded_ : Cond.selects (gRx 3) YX3_isDecoded_.1 YX3_isDecoded_.1 ∈ gW := gW_in (gIn0 (List.mem_of_getElem? (i := 72) (by decide +kernel))) rfl
theorem np_X3_isDecoded_ : gNp YX3_isDecoded_.1 = some 2 := by decide +kernel
def YX3_isClean : gY := (yX3_isClean, cX3_isClean, 1, some .boolean, [])
theorem mt_X3_isClean : gMt YX3_isClean := ⟨gW_in (gIn6 (List.mem_of_getElem? (i := 10) rfl)) rfl, gW_in (gIn1 (List.mem_of_getElem? (i := 4) (by decide +kernel))) rfl, by decide +kernel, by decide +kernel, by decide +kernel, rfl⟩
theorem im_X3_isClean : Cond.instanceMethod YX3_isClean.1 ∈ gW := gW_in (gIn6 (List.mem_of_getElem? (i := 9) (by decide +kernel))) rfl
theorem se_X3_isClean : Cond.selects (gRx 3) YX3_isClean.1 YX3_isClean.1 ∈ gW := gW_in (gIn0 (List.mem_of_getElem? (i := 74) (by decide +kernel))) rfl
theorem np_X3_isClean : gNp YX3_isClean.1 = some 0 := by decide +kernel
def YX3_isThere : gY := (yX3_isThere, cX3_isThere, 3, some .boolean, [])
theorem mt_X3_isThere : gMt YX3_isThere := ⟨gW_in (gIn5 (List.mem_of_getElem? (i := 226) rfl)) rfl, gW_in (gIn1 (List.mem_of_getElem? (i := 4) (by decide +kernel))) rfl, by decide +kernel, by decide +kernel, by decide +kernel, rfl⟩
theorem im_X3_isThere : Cond.instanceMethod YX3_isThere.1 ∈ gW := gW_in (gIn5 (List.mem_of_getElem? (i := 225) (by decide +kernel))) rfl
theorem se_X3_isThere : Cond.selects (gRx 3) YX3_isThere.1 YX3_isThere.1 ∈ gW := gW_in (gIn0 (List.mem_of_getElem? (i := 71) (by decide +kernel))) rfl
theorem np_X3_isThere : gNp YX3_isThere.1 = some 2 := by decide +kernel
def YX3_sum : gY := (yX3_sum, cX3_sum, 4, some .int, [])
theorem mt_X3_sum : gMt YX3_sum := ⟨gW_in (gIn5 (List.mem_of_getElem? (i := 214) rfl)) rfl, gW_in (gIn1 (List.mem_of_getElem? (i := 4) (by decide +kernel))) rfl, by decide +kernel, by decide +kernel, by decide +kernel, rfl⟩
theorem im_X3_sum : Cond.instanceMethod YX3_sum.1 ∈ gW := gW_in (gIn5 (List.mem_of_getElem? (i := 212) (by decide +kernel))) rfl
theorem se_X3_sum : Cond.selects (gRx 3) YX3_sum.1 YX3_sum.1 ∈ gW := gW_in (gIn5 (List.mem_of_getElem? (i := 213) (by decide +kernel))) rfl
theorem np_X3_sum : gNp YX3_sum.1 = some 3 := by decide +kernel
def YX3_decoded : gY := (yX3_decoded, cX3_decoded, 5, some .int, [])
theorem mt_X3_decoded : gMt YX3_decoded := ⟨gW_in (gIn5 (List.mem_of_getElem? (i := 222) rfl)) rfl, gW_in (gIn1 (List.mem_of_getElem? (i := 4) (by decide +kernel))) rfl, by decide +kernel, by decide +kernel, by decide +kernel, rfl⟩
theorem im_X3_decoded : Cond.instanceMethod YX3_decoded.1 ∈ gW := gW_in (gIn5 (List.mem_of_getElem? (i := 220) (by decide +kernel))) rfl
theorem se_X3_decoded : Cond.selects (gRx 3) YX3_decoded.1 YX3_decoded.1 ∈ gW := gW_in (gIn5 (List.mem_of_getElem? (i := 221) (by decide +kernel))) rfl
theorem np_X3_decoded : gNp YX3_decoded.1 = some 3 := by decide +kernel
def YX3_found : gY := (yX3_found, cX3_found, 4, some .int, [])
theorem mt_X3_found : gMt YX3_found := ⟨gW_in (gIn5 (List.mem_of_getElem? (i := 234) rfl)) rfl, gW_in (gIn1 (List.mem_of_getElem? (i := 4) (by decide +kernel))) rfl, by decide +kernel, by decide +kernel, by decide +kernel, rfl⟩
theorem im_X3_found : Cond.instanceMethod YX3_found.1 ∈ gW := gW_in (gIn5 (List.mem_of_getElem? (i := 232) (by decide +kernel))) rfl
theorem se_X3_found : Cond.selects (gRx 3) YX3_found.1 YX3_found.1 ∈ gW := gW_in (gIn5 (List.mem_of_getElem? (i := 233) (by decide +kernel))) rfl
theorem np_X3_found : gNp YX3_found.1 = some 3 := by decide +kernel
def YX3_read : gY := (yX3_read, cX3_read, 3, some .int, [])
theorem mt_X3_read : gMt YX3_read := ⟨gW_in (gIn5 (List.mem_of_getElem? (i := 238) rfl)) rfl, gW_in (gIn1 (List.mem_of_getElem? (i := 4) (by decide +kernel))) rfl, by decide +kernel, by decide +kernel, by decide +kernel, rfl⟩
theorem im_X3_read : Cond.instanceMethod YX3_read.1 ∈ gW := gW_in (gIn5 (List.mem_of_getElem? (i := 236) (by decide +kernel))) rfl
theorem se_X3_read : Cond.selects (gRx 3) YX3_read.1 YX3_read.1 ∈ gW := gW_in (gIn5 (List.mem_of_getElem? (i := 237) (by decide +kernel))) rfl
theorem np_X3_read : gNp YX3_read.1 = some 2 := by decide +kernel
def YX3_isWhole : gY := (yX3_isWhole, cX3_isWhole, 4, some .boolean, [])
theorem mt_X3_isWhole : gMt YX3_isWhole := ⟨gW_in (gIn6 (List.mem_of_getElem? (i := 6) rfl)) rfl, gW_in (gIn1 (List.mem_of_getElem? (i := 4) (by decide +kernel))) rfl, by decide +kernel, by decide +kernel, by decide +kernel, rfl⟩
theorem im_X3_isWhole : Cond.instanceMethod YX3_isWhole.1 ∈ gW := gW_in (gIn6 (List.mem_of_getElem? (i := 5) (by decide +kernel))) rfl
theorem se_X3_isWhole : Cond.selects (gRx 3) YX3_isWhole.1 YX3_isWhole.1 ∈ gW := gW_in (gIn0 (List.mem_of_getElem? (i := 73) (by decide +kernel))) rfl
theorem np_X3_isWhole : gNp YX3_isWhole.1 = some 1 := by decide +kernel
def YX3_condition : gY := (yX3_condition, cX3_condition, 4, some .int, [])
theorem mt_X3_condition : gMt YX3_condition := ⟨gW_in (gIn6 (List.mem_of_getElem? (i := 2) rfl)) rfl, gW_in (gIn1 (List.mem_of_getElem? (i := 4) (by decide +kernel))) rfl, by decide +kernel, by decide +kernel, by decide +kernel, rfl⟩
theorem im_X3_condition : Cond.instanceMethod YX3_condition.1 ∈ gW := gW_in (gIn6 (List.mem_of_getElem? (i := 0) (by decide +kernel))) rfl
theorem se_X3_condition : Cond.selects (gRx 3) YX3_condition.1 YX3_condition.1 ∈ gW := gW_in (gIn6 (List.mem_of_getElem? (i := 1) (by decide +kernel))) rfl
theorem np_X3_condition : gNp YX3_condition.1 = some 1 := by decide +kernel
def YX3_undecodable : gY := (yX3_undecodable, cX3_undecodable, 4, some .int, [])
theorem mt_X3_undecodable : gMt YX3_undecodable := ⟨gW_in (gIn6 (List.mem_of_getElem? (i := 14) rfl)) rfl, gW_in (gIn1 (List.mem_of_getElem? (i := 4) (by decide +kernel))) rfl, by decide +kernel, by decide +kernel, by decide +kernel, rfl⟩
theorem im_X3_undecodable : Cond.instanceMethod YX3_undecodable.1 ∈ gW := gW_in (gIn6 (List.mem_of_getElem? (i := 12) (by decide +kernel))) rfl
theorem se_X3_undecodable : Cond.selects (gRx 3) YX3_undecodable.1 YX3_undecodable.1 ∈ gW := gW_in (gIn6 (List.mem_of_getElem? (i := 13) (by decide +kernel))) rfl
theorem np_X3_undecodable : gNp YX3_undecodable.1 = some 1 := by decide +kernel
def YX3_margin : gY := (yX3_margin, cX3_margin, 3, some .int, [])
theorem mt_X3_margin : gMt YX3_margin := ⟨gW_in (gIn6 (List.mem_of_getElem? (i := 18) rfl)) rfl, gW_in (gIn1 (List.mem_of_getElem? (i := 4) (by decide +kernel))) rfl, by decide +kernel, by decide +kernel, by decide +kernel, rfl⟩
theorem im_X3_margin : Cond.instanceMethod YX3_margin.1 ∈ gW := gW_in (gIn6 (List.mem_of_getElem? (i := 16) (by decide +kernel))) rfl
theorem se_X3_margin : Cond.selects (gRx 3) YX3_margin.1 YX3_margin.1 ∈ gW := gW_in (gIn6 (List.mem_of_getElem? (i := 17) (by decide +kernel))) rfl
theorem np_X3_margin : gNp YX3_margin.1 = some 2 := by decide +kernel
def YX3_isStood : gY := (yX3_isStood, cX3_isStood, 7, some .boolean, [])
theorem mt_X3_isStood : gMt YX3_isStood := ⟨gW_in (gIn6 (List.mem_of_getElem? (i := 26) rfl)) rfl, gW_in (gIn1 (List.mem_of_getElem? (i := 4) (by decide +kernel))) rfl, by decide +kernel, by decide +kernel, by decide +kernel, rfl⟩
theorem im_X3_isStood : Cond.instanceMethod YX3_isStood.1 ∈ gW := gW_in (gIn6 (List.mem_of_getElem? (i := 25) (by decide +kernel))) rfl
theorem se_X3_isStood : Cond.selects (gRx 3) YX3_isStood.1 YX3_isStood.1 ∈ gW := gW_in (gIn0 (List.mem_of_getElem? (i := 75) (by decide +kernel))) rfl
theorem np_X3_isStood : gNp YX3_isStood.1 = some 3 := by decide +kernel
def YX3_burstLimit : gY := (yX3_burstLimit, cX3_burstLimit, 5, some .int, [])
theorem mt_X3_burstLimit : gMt YX3_burstLimit := ⟨gW_in (gIn6 (List.mem_of_getElem? (i := 22) rfl)) rfl, gW_in (gIn1 (List.mem_of_getElem? (i := 4) (by decide +kernel))) rfl, by decide +kernel, by decide +kernel, by decide +kernel, rfl⟩
theorem im_X3_burstLimit : Cond.instanceMethod YX3_burstLimit.1 ∈ gW := gW_in (gIn6 (List.mem_of_getElem? (i := 20) (by decide +kernel))) rfl
theorem se_X3_burstLimit : Cond.selects (gRx 3) YX3_burstLimit.1 YX3_burstLimit.1 ∈ gW := gW_in (gIn6 (List.mem_of_getElem? (i := 21) (by decide +kernel))) rfl
theorem np_X3_burstLimit : gNp YX3_burstLimit.1 = some 1 := by decide +kernel
def YX3_advance : gY := (yX3_advance, cX3_advance, 2, some .int, [])
theorem mt_X3_advance : gMt YX3_advance := ⟨gW_in (gIn6 (List.mem_of_getElem? (i := 30) rfl)) rfl, gW_in (gIn1 (List.mem_of_getElem? (i := 4) (by decide +kernel))) rfl, by decide +kernel, by decide +kernel, by decide +kernel, rfl⟩
theorem im_X3_advance : Cond.instanceMethod YX3_advance.1 ∈ gW := gW_in (gIn6 (List.mem_of_getElem? (i := 28) (by decide +kernel))) rfl
theorem se_X3_advance : Cond.selects (gRx 3) YX3_advance.1 YX3_advance.1 ∈ gW := gW_in (gIn6 (List.mem_of_getElem? (i := 29) (by decide +kernel))) rfl
theorem np_X3_advance : gNp YX3_advance.1 = some 1 := by decide +kernel
def YX3_next : gY := (yX3_next, cX3_next, 5, some .int, [])
theorem mt_X3_next : gMt YX3_next := ⟨gW_in (gIn6 (List.mem_of_getElem? (i := 38) rfl)) rfl, gW_in (gIn1 (List.mem_of_getElem? (i := 4) (by decide +kernel))) rfl, by decide +kernel, by decide +kernel, by decide +kernel, rfl⟩
theorem im_X3_next : Cond.instanceMethod YX3_next.1 ∈ gW := gW_in (gIn6 (List.mem_of_getElem? (i := 37) (by decide +kernel))) rfl
theorem se_X3_next : Cond.selects (gRx 3) YX3_next.1 YX3_next.1 ∈ gW := gW_in (gIn0 (List.mem_of_getElem? (i := 76) (by decide +kernel))) rfl
theorem np_X3_next : gNp YX3_next.1 = some 0 := by decide +kernel
def YX3_tells : gY := (yX3_tells, cX3_tells, 5, none, [])
theorem mt_X3_tells : gMt YX3_tells := ⟨gW_in (gIn6 (List.mem_of_getElem? (i := 42) rfl)) rfl, gW_in (gIn1 (List.mem_of_getElem? (i := 4) (by decide +kernel))) rfl, by decide +kernel, by decide +kernel, by decide +kernel, rfl⟩
theorem im_X3_tells : Cond.instanceMethod YX3_tells.1 ∈ gW := gW_in (gIn6 (List.mem_of_getElem? (i := 41) (by decide +kernel))) rfl
theorem se_X3_tells : Cond.selects (gRx 3) YX3_tells.1 YX3_tells.1 ∈ gW := gW_in (gIn0 (List.mem_of_getElem? (i := 77) (by decide +kernel))) rfl
theorem np_X3_tells : gNp YX3_tells.1 = some 4 := by decide +kernel
def YX3_mends : gY := (yX3_mends, cX3_mends, 5, some .int, [])
theorem mt_X3_mends : gMt YX3_mends := ⟨gW_in (gIn6 (List.mem_of_getElem? (i := 46) rfl)) rfl, gW_in (gIn1 (List.mem_of_getElem? (i := 4) (by decide +kernel))) rfl, by decide +kernel, by decide +kernel, by decide +kernel, rfl⟩
theorem im_X3_mends : Cond.instanceMethod YX3_mends.1 ∈ gW := gW_in (gIn6 (List.mem_of_getElem? (i := 45) (by decide +kernel))) rfl
theorem se_X3_mends : Cond.selects (gRx 3) YX3_mends.1 YX3_mends.1 ∈ gW := gW_in (gIn0 (List.mem_of_getElem? (i := 78) (by decide +kernel))) rfl
theorem np_X3_mends : gNp YX3_mends.1 = some 2 := by decide +kernel
def YX3_scrub : gY := (yX3_scrub, cX3_scrub, 9, some .int, [])
theorem mt_X3_scrub : gMt YX3_scrub := ⟨gW_in (gIn6 (List.mem_of_getElem? (i := 34) rfl)) rfl, gW_in (gIn1 (List.mem_of_getElem? (i := 4) (by decide +kernel))) rfl, by decide +kernel, by decide +kernel, by decide +kernel, rfl⟩
theorem im_X3_scrub : Cond.instanceMethod YX3_scrub.1 ∈ gW := gW_in (gIn6 (List.mem_of_getElem? (i := 32) (by decide +kernel))) rfl
theorem se_X3_scrub : Cond.selects (gRx 3) YX3_scrub.1 YX3_scrub.1 ∈ gW := gW_in (gIn6 (List.mem_of_getElem? (i := 33) (by decide +kernel))) rfl
theorem np_X3_scrub : gNp YX3_scrub.1 = some 1 := by decide +kernel
def YX3_report : gY := (yX3_report, cX3_report, 3, some .int, [])
theorem mt_X3_report : gMt YX3_report := ⟨gW_in (gIn6 (List.mem_of_getElem? (i := 50) rfl)) rfl, gW_in (gIn1 (List.mem_of_getElem? (i := 4) (by decide +kernel))) rfl, by decide +kernel, by decide +kernel, by decide +kernel, rfl⟩
theorem im_X3_report : Cond.instanceMethod YX3_report.1 ∈ gW := gW_in (gIn6 (List.mem_of_getElem? (i := 48) (by decide +kernel))) rfl
theorem se_X3_report : Cond.selects (gRx 3) YX3_report.1 YX3_report.1 ∈ gW := gW_in (gIn6 (List.mem_of_getElem? (i := 49) (by decide +kernel))) rfl
theorem np_X3_report : gNp YX3_report.1 = some 2 := by decide +kernel
def YX3_reportLines : gY := (yX3_reportLines, cX3_reportLines, 1, some .int, [])
theorem mt_X3_reportLines : gMt YX3_reportLines := ⟨gW_in (gIn6 (List.mem_of_getElem? (i := 54) rfl)) rfl, gW_in (gIn1 (List.mem_of_getElem? (i := 4) (by decide +kernel))) rfl, by decide +kernel, by decide +kernel, by decide +kernel, rfl⟩
theorem im_X3_reportLines : Cond.instanceMethod YX3_reportLines.1 ∈ gW := gW_in (gIn6 (List.mem_of_getElem? (i := 52) (by decide +kernel))) rfl
theorem se_X3_reportLines : Cond.selects (gRx 3) YX3_reportLines.1 YX3_reportLines.1 ∈ gW := gW_in (gIn6 (List.mem_of_getElem? (i := 53) (by decide +kernel))) rfl
theorem np_X3_reportLines : gNp YX3_reportLines.1 = some 0 := by decide +kernel
def YX3_repair : gY := (yX3_repair, cX3_repair, 3, some .int, [])
theorem mt_X3_repair : gMt YX3_repair := ⟨gW_in (gIn6 (List.mem_of_getElem? (i := 58) rfl)) rfl, gW_in (gIn1 (List.mem_of_getElem? (i := 4) (by decide +kernel))) rfl, by decide +kernel, by decide +kernel, by decide +kernel, rfl⟩
theorem im_X3_repair : Cond.instanceMethod YX3_repair.1 ∈ gW := gW_in (gIn6 (List.mem_of_getElem? (i := 56) (by decide +kernel))) rfl
theorem se_X3_repair : Cond.selects (gRx 3) YX3_repair.1 YX3_repair.1 ∈ gW := gW_in (gIn6 (List.mem_of_getElem? (i := 57) (by decide +kernel))) rfl
theorem np_X3_repair : gNp YX3_repair.1 = some 2 := by decide +kernel
def YX3_checked : gY := (yX3_checked, cX3_checked, 3, some .int, [])
theorem mt_X3_checked : gMt YX3_checked := ⟨gW_in (gIn6 (List.mem_of_getElem? (i := 62) rfl)) rfl, gW_in (gIn1 (List.mem_of_getElem? (i := 4) (by decide +kernel))) rfl, by decide +kernel, by decide +kernel, by decide +kernel, rfl⟩
theorem im_X3_checked : Cond.instanceMethod YX3_checked.1 ∈ gW := gW_in (gIn6 (List.mem_of_getElem? (i := 60) (by decide +kernel))) rfl
theorem se_X3_checked : Cond.selects (gRx 3) YX3_checked.1 YX3_checked.1 ∈ gW := gW_in (gIn6 (List.mem_of_getElem? (i := 61) (by decide +kernel))) rfl
theorem np_X3_checked : gNp YX3_checked.1 = some 2 := by decide +kernel
def YX3_nextToCheck : gY := (yX3_nextToCheck, cX3_nextToCheck, 2, some .int, [])
theorem mt_X3_nextToCheck : gMt YX3_nextToCheck := ⟨gW_in (gIn6 (List.mem_of_getElem? (i := 66) rfl)) rfl, gW_in (gIn1 (List.mem_of_getElem? (i := 4) (by decide +kernel))) rfl, by decide +kernel, by decide +kernel, by decide +kernel, rfl⟩
theorem im_X3_nextToCheck : Cond.instanceMethod YX3_nextToCheck.1 ∈ gW := gW_in (gIn6 (List.mem_of_getElem? (i := 64) (by decide +kernel))) rfl
theorem se_X3_nextToCheck : Cond.selects (gRx 3) YX3_nextToCheck.1 YX3_nextToCheck.1 ∈ gW := gW_in (gIn6 (List.mem_of_getElem? (i := 65) (by decide +kernel))) rfl
theorem np_X3_nextToCheck : gNp YX3_nextToCheck.1 = some 0 := by decide +kernel
def YX3_needed : gY := (yX3_needed, cX3_needed, 4, some .int, [])
theorem mt_X3_needed : gMt YX3_needed := ⟨gW_in (gIn6 (List.mem_of_getElem? (i := 70) rfl)) rfl, gW_in (gIn1 (List.mem_of_getElem? (i := 4) (by decide +kernel))) rfl, by decide +kernel, by decide +kernel, by decide +kernel, rfl⟩
theorem im_X3_needed : Cond.instanceMethod YX3_needed.1 ∈ gW := gW_in (gIn6 (List.mem_of_getElem? (i := 68) (by decide +kernel))) rfl
theorem se_X3_needed : Cond.selects (gRx 3) YX3_needed.1 YX3_needed.1 ∈ gW := gW_in (gIn6 (List.mem_of_getElem? (i := 69) (by decide +kernel))) rfl
theorem np_X3_needed : gNp YX3_needed.1 = some 0 := by decide +kernel
def YX3_account : gY := (yX3_account, cX3_account, 2, some .int, [])
theorem mt_X3_account : gMt YX3_account := ⟨gW_in (gIn6 (List.mem_of_getElem? (i := 74) rfl)) rfl, gW_in (gIn1 (List.mem_of_getElem? (i := 4) (by decide +kernel))) rfl, by decide +kernel, by decide +kernel, by decide +kernel, rfl⟩
theorem im_X3_account : Cond.instanceMethod YX3_account.1 ∈ gW := gW_in (gIn6 (List.mem_of_getElem? (i := 72) (by decide +kernel))) rfl
theorem se_X3_account : Cond.selects (gRx 3) YX3_account.1 YX3_account.1 ∈ gW := gW_in (gIn6 (List.mem_of_getElem? (i := 73) (by decide +kernel))) rfl
theorem np_X3_account : gNp YX3_account.1 = some 1 := by decide +kernel
def YX3_day : gY := (yX3_day, cX3_day, 1, some .int, [])
theorem mt_X3_day : gMt YX3_day := ⟨gW_in (gIn6 (List.mem_of_getElem? (i := 78) rfl)) rfl, gW_in (gIn1 (List.mem_of_getElem? (i := 4) (by decide +kernel))) rfl, by decide +kernel, by decide +kernel, by decide +kernel, rfl⟩
theorem im_X3_day : Cond.instanceMethod YX3_day.1 ∈ gW := gW_in (gIn6 (List.mem_of_getElem? (i := 76) (by decide +kernel))) rfl
theorem se_X3_day : Cond.selects (gRx 3) YX3_day.1 YX3_day.1 ∈ gW := gW_in (gIn6 (List.mem_of_getElem? (i := 77) (by decide +kernel))) rfl
theorem np_X3_day : gNp YX3_day.1 = some 0 := by decide +kernel
def YX3_health : gY := (yX3_health, cX3_health, 4, some .double, [])
theorem mt_X3_health : gMt YX3_health := ⟨gW_in (gIn6 (List.mem_of_getElem? (i := 82) rfl)) rfl, gW_in (gIn1 (List.mem_of_getElem? (i := 4) (by decide +kernel))) rfl, by decide +kernel, by decide +kernel, by decide +kernel, rfl⟩
theorem im_X3_health : Cond.instanceMethod YX3_health.1 ∈ gW := gW_in (gIn6 (List.mem_of_getElem? (i := 80) (by decide +kernel))) rfl
theorem se_X3_health : Cond.selects (gRx 3) YX3_health.1 YX3_health.1 ∈ gW := gW_in (gIn6 (List.mem_of_getElem? (i := 81) (by decide +kernel))) rfl
theorem np_X3_health : gNp YX3_health.1 = some 0 := by decide +kernel
def YX3_describe : gY := (yX3_describe, cX3_describe, 4, some .int, [])
theorem mt_X3_describe : gMt YX3_describe := ⟨gW_in (gIn6 (List.mem_of_getElem? (i := 86) rfl)) rfl, gW_in (gIn1 (List.mem_of_getElem? (i := 4) (by decide +kernel))) rfl, by decide +kernel, by decide +kernel, by decide +kernel, rfl⟩
theorem im_X3_describe : Cond.instanceMethod YX3_describe.1 ∈ gW := gW_in (gIn6 (List.mem_of_getElem? (i := 84) (by decide +kernel))) rfl
theorem se_X3_describe : Cond.selects (gRx 3) YX3_describe.1 YX3_describe.1 ∈ gW := gW_in (gIn6 (List.mem_of_getElem? (i := 85) (by decide +kernel))) rfl
theorem np_X3_describe : gNp YX3_describe.1 = some 2 := by decide +kernel
def YX3_undo : gY := (yX3_undo, cX3_undo, 2, some .int, [])
theorem mt_X3_undo : gMt YX3_undo := ⟨gW_in (gIn6 (List.mem_of_getElem? (i := 90) rfl)) rfl, gW_in (gIn1 (List.mem_of_getElem? (i := 4) (by decide +kernel))) rfl, by decide +kernel, by decide +kernel, by decide +kernel, rfl⟩
theorem im_X3_undo : Cond.instanceMethod YX3_undo.1 ∈ gW := gW_in (gIn6 (List.mem_of_getElem? (i := 88) (by decide +kernel))) rfl
theorem se_X3_undo : Cond.selects (gRx 3) YX3_undo.1 YX3_undo.1 ∈ gW := gW_in (gIn6 (List.mem_of_getElem? (i := 89) (by decide +kernel))) rfl
theorem np_X3_undo : gNp YX3_undo.1 = some 0 := by decide +kernel
def YX3_save : gY := (yX3_save, cX3_save, 1, some .int, [])
theorem mt_X3_save : gMt YX3_save := ⟨gW_in (gIn6 (List.mem_of_getElem? (i := 94) rfl)) rfl, gW_in (gIn1 (List.mem_of_getElem? (i := 4) (by decide +kernel))) rfl, by decide +kernel, by decide +kernel, by decide +kernel, rfl⟩
theorem im_X3_save : Cond.instanceMethod YX3_save.1 ∈ gW := gW_in (gIn6 (List.mem_of_getElem? (i := 92) (by decide +kernel))) rfl
theorem se_X3_save : Cond.selects (gRx 3) YX3_save.1 YX3_save.1 ∈ gW := gW_in (gIn6 (List.mem_of_getElem? (i := 93) (by decide +kernel))) rfl
theorem np_X3_save : gNp YX3_save.1 = some 0 := by decide +kernel
def YX3_restore : gY := (yX3_restore, cX3_restore, 1, some .int, [])
theorem mt_X3_restore : gMt YX3_restore := ⟨gW_in (gIn6 (List.mem_of_getElem? (i := 101) rfl)) rfl, gW_in (gIn1 (List.mem_of_getElem? (i := 4) (by decide +kernel))) rfl, by decide +kernel, by decide +kernel, by decide +kernel, rfl⟩
theorem im_X3_restore : Cond.instanceMethod YX3_restore.1 ∈ gW := gW_in (gIn6 (List.mem_of_getElem? (i := 99) (by decide +kernel))) rfl
theorem se_X3_restore : Cond.selects (gRx 3) YX3_restore.1 YX3_restore.1 ∈ gW := gW_in (gIn6 (List.mem_of_getElem? (i := 100) (by decide +kernel))) rfl
theorem np_X3_restore : gNp YX3_restore.1 = some 0 := by decide +kernel
def YJx00060_init_a7421 : gY := (yJx00060_init_a7421, cJx00060_init_a7421, 2, none, [])
theorem mt_Jx00060_init_a7421 : gMt YJx00060_init_a7421 := ⟨gW_in (gIn3 (List.mem_of_getElem? (i := 43) rfl)) rfl, gW_in (gIn1 (List.mem_of_getElem? (i := 15) (by decide +kernel))) rfl, by decide +kernel, by decide +kernel, by decide +kernel, rfl⟩
theorem im_Jx00060_init_a7421 : Cond.instanceMethod YJx00060_init_a7421.1 ∈ gW := gW_in (gIn3 (List.mem_of_getElem? (i := 42) (by decide +kernel))) rfl
theorem np_Jx00060_init_a7421 : gNp YJx00060_init_a7421.1 = some 1 := by decide +kernel
def YJ6_bitCount_0f7a4 : gY := (yJ6_bitCount_0f7a4, cJ6_bitCount_0f7a4, 1, some .int, [])
theorem mt_J6_bitCount_0f7a4 : gMt YJ6_bitCount_0f7a4 := ⟨gW_in (gIn2 (List.mem_of_getElem? (i := 40) rfl)) rfl, gW_in (gIn1 (List.mem_of_getElem? (i := 12) (by decide +kernel))) rfl, by decide +kernel, by decide +kernel, by decide +kernel, rfl⟩
theorem sf_J6_bitCount_0f7a4 : Cond.static YJ6_bitCount_0f7a4.1 ∈ gW := gW_in (gIn2 (List.mem_of_getElem? (i := 39) (by decide +kernel))) rfl
theorem np_J6_bitCount_0f7a4 : gNp YJ6_bitCount_0f7a4.1 = some 1 := by decide +kernel
def YL_append : gY := (yL_append, cL_append, 4, some .int, [(0, 9, 12, 13), (0, 9, 15, 15)])
theorem mh_L_append : gMh YL_append := ⟨gW_in (gIn2 (List.mem_of_getElem? (i := 90) rfl)) rfl, gW_in (gIn1 (List.mem_of_getElem? (i := 0) (by decide +kernel))) rfl, by decide +kernel, by decide +kernel, by decide +kernel⟩
theorem sf_L_append : Cond.static YL_append.1 ∈ gW := gW_in (gIn2 (List.mem_of_getElem? (i := 89) (by decide +kernel))) rfl
theorem np_L_append : gNp YL_append.1 = some 3 := by decide +kernel
def YL_store : gY := (yL_store, cL_store, 3, some .int, [(0, 8, 11, 13), (0, 8, 14, 15)])
theorem mh_L_store : gMh YL_store := ⟨gW_in (gIn2 (List.mem_of_getElem? (i := 187) rfl)) rfl, gW_in (gIn1 (List.mem_of_getElem? (i := 0) (by decide +kernel))) rfl, by decide +kernel, by decide +kernel, by decide +kernel⟩
theorem sf_L_store : Cond.static YL_store.1 ∈ gW := gW_in (gIn2 (List.mem_of_getElem? (i := 186) (by decide +kernel))) rfl
theorem np_L_store : gNp YL_store.1 = some 2 := by decide +kernel
def YL_errorPosition : gY := (yL_errorPosition, cL_errorPosition, 3, some .int, [(0, 8, 11, 24)])
theorem mh_L_errorPosition : gMh YL_errorPosition := ⟨gW_in (gIn3 (List.mem_of_getElem? (i := 15) rfl)) rfl, gW_in (gIn1 (List.mem_of_getElem? (i := 0) (by decide +kernel))) rfl, by decide +kernel, by decide +kernel, by decide +kernel⟩
theorem sf_L_errorPosition : Cond.static YL_errorPosition.1 ∈ gW := gW_in (gIn3 (List.mem_of_getElem? (i := 14) (by decide +kernel))) rfl
theorem np_L_errorPosition : gNp YL_errorPosition.1 = some 2 := by decide +kernel
def YL_remove : gY := (yL_remove, cL_remove, 4, some .int, [(0, 9, 12, 30)])
theorem mh_L_remove : gMh YL_remove := ⟨gW_in (gIn3 (List.mem_of_getElem? (i := 39) rfl)) rfl, gW_in (gIn1 (List.mem_of_getElem? (i := 0) (by decide +kernel))) rfl, by decide +kernel, by decide +kernel, by decide +kernel⟩
theorem sf_L_remove : Cond.static YL_remove.1 ∈ gW := gW_in (gIn3 (List.mem_of_getElem? (i := 38) (by decide +kernel))) rfl
theorem np_L_remove : gNp YL_remove.1 = some 3 := by decide +kernel
def YL_file : gY := (yL_file, cL_file, 5, some .int, [(0, 10, 13, 30), (0, 10, 17, 13)])
theorem mh_L_file : gMh YL_file := ⟨gW_in (gIn3 (List.mem_of_getElem? (i := 84) rfl)) rfl, gW_in (gIn1 (List.mem_of_getElem? (i := 0) (by decide +kernel))) rfl, by decide +kernel, by decide +kernel, by decide +kernel⟩
theorem sf_L_file : Cond.static YL_file.1 ∈ gW := gW_in (gIn3 (List.mem_of_getElem? (i := 83) (by decide +kernel))) rfl
theorem np_L_file : gNp YL_file.1 = some 4 := by decide +kernel
def YL_cellOf : gY := (yL_cellOf, cL_cellOf, 6, some .int, [(0, 12, 15, 30)])
theorem mh_L_cellOf : gMh YL_cellOf := ⟨gW_in (gIn3 (List.mem_of_getElem? (i := 93) rfl)) rfl, gW_in (gIn1 (List.mem_of_getElem? (i := 0) (by decide +kernel))) rfl, by decide +kernel, by decide +kernel, by decide +kernel⟩
theorem sf_L_cellOf : Cond.static YL_cellOf.1 ∈ gW := gW_in (gIn3 (List.mem_of_getElem? (i := 92) (by decide +kernel))) rfl
theorem np_L_cellOf : gNp YL_cellOf.1 = some 5 := by decide +kernel
def YL_owner : gY := (yL_owner, cL_owner, 4, some .int, [(0, 9, 12, 30)])
theorem mh_L_owner : gMh YL_owner := ⟨gW_in (gIn3 (List.mem_of_getElem? (i := 109) rfl)) rfl, gW_in (gIn1 (List.mem_of_getElem? (i := 0) (by decide +kernel))) rfl, by decide +kernel, by decide +kernel, by decide +kernel⟩
theorem sf_L_owner : Cond.static YL_owner.1 ∈ gW := gW_in (gIn3 (List.mem_of_getElem? (i := 108) (by decide +kernel))) rfl
theorem np_L_owner : gNp YL_owner.1 = some 3 := by decide +kernel
def YL_placeOf : gY := (yL_placeOf, cL_placeOf, 4, some .int, [(0, 9, 12, 30), (0, 9, 15, 24)])
theorem mh_L_placeOf : gMh YL_placeOf := ⟨gW_in (gIn3 (List.mem_of_getElem? (i := 121) rfl)) rfl, gW_in (gIn1 (List.mem_of_getElem? (i := 0) (by decide +kernel))) rfl, by decide +kernel, by decide +kernel, by decide +kernel⟩
theorem sf_L_placeOf : Cond.static YL_placeOf.1 ∈ gW := gW_in (gIn3 (List.mem_of_getElem? (i := 120) (by decide +kernel))) rfl
theorem np_L_placeOf : gNp YL_placeOf.1 = some 3 := by decide +kernel
def YL_symbol : gY := (yL_symbol, cL_symbol, 4, some .int, [(0, 9, 12, 30)])
theorem mh_L_symbol : gMh YL_symbol := ⟨gW_in (gIn3 (List.mem_of_getElem? (i := 133) rfl)) rfl, gW_in (gIn1 (List.mem_of_getElem? (i := 0) (by decide +kernel))) rfl, by decide +kernel, by decide +kernel, by decide +kernel⟩
theorem sf_L_symbol : Cond.static YL_symbol.1 ∈ gW := gW_in (gIn3 (List.mem_of_getElem? (i := 132) (by decide +kernel))) rfl
theorem np_L_symbol : gNp YL_symbol.1 = some 3 := by decide +kernel
def YL_isErased : gY := (yL_isErased, cL_isErased, 4, some .int, [(0, 16, 19, 30)])
theorem mh_L_isErased : gMh YL_isErased := ⟨gW_in (gIn3 (List.mem_of_getElem? (i := 140) rfl)) rfl, gW_in (gIn1 (List.mem_of_getElem? (i := 0) (by decide +kernel))) rfl, by decide +kernel, by decide +kernel, by decide +kernel⟩
theorem sf_L_isErased : Cond.static YL_isErased.1 ∈ gW := gW_in (gIn3 (List.mem_of_getElem? (i := 139) (by decide +kernel))) rfl
theorem np_L_isErased : gNp YL_isErased.1 = some 3 := by decide +kernel
def YL_flip : gY := (yL_flip, cL_flip, 5, some .int, [(0, 10, 13, 30), (0, 10, 17, 13)])
theorem mh_L_flip : gMh YL_flip := ⟨gW_in (gIn3 (List.mem_of_getElem? (i := 147) rfl)) rfl, gW_in (gIn1 (List.mem_of_getElem? (i := 0) (by decide +kernel))) rfl, by decide +kernel, by decide +kernel, by decide +kernel⟩
theorem sf_L_flip : Cond.static YL_flip.1 ∈ gW := gW_in (gIn3 (List.mem_of_getElem? (i := 146) (by decide +kernel))) rfl
theorem np_L_flip : gNp YL_flip.1 = some 4 := by decide +kernel
def YL_erase : gY := (yL_erase, cL_erase, 4, some .int, [(0, 9, 12, 30)])
theorem mh_L_erase : gMh YL_erase := ⟨gW_in (gIn3 (List.mem_of_getElem? (i := 159) rfl)) rfl, gW_in (gIn1 (List.mem_of_getElem? (i := 0) (by decide +kernel))) rfl, by decide +kernel, by decide +kernel, by decide +kernel⟩
theorem sf_L_erase : Cond.static YL_erase.1 ∈ gW := gW_in (gIn3 (List.mem_of_getElem? (i := 158) (by decide +kernel))) rfl
theorem np_L_erase : gNp YL_erase.1 = some 3 := by decide +kernel
def YL_burst : gY := (yL_burst, cL_burst, 6, some .int, [(0, 12, 15, 30), (0, 12, 19, 13)])
theorem mh_L_burst : gMh YL_burst := ⟨gW_in (gIn3 (List.mem_of_getElem? (i := 166) rfl)) rfl, gW_in (gIn1 (List.mem_of_getElem? (i := 0) (by decide +kernel))) rfl, by decide +kernel, by decide +kernel, by decide +kernel⟩
theorem sf_L_burst : Cond.static YL_burst.1 ∈ gW := gW_in (gIn3 (List.mem_of_getElem? (i := 165) (by decide +kernel))) rfl
theorem np_L_burst : gNp YL_burst.1 = some 5 := by decide +kernel
def YL_wrong : gY := (yL_wrong, cL_wrong, 4, some .int, [(0, 9, 12, 30)])
theorem mh_L_wrong : gMh YL_wrong := ⟨gW_in (gIn3 (List.mem_of_getElem? (i := 174) rfl)) rfl, gW_in (gIn1 (List.mem_of_getElem? (i := 0) (by decide +kernel))) rfl, by decide +kernel, by decide +kernel, by decide +kernel⟩
theorem sf_L_wrong : Cond.static YL_wrong.1 ∈ gW := gW_in (gIn3 (List.mem_of_getElem? (i := 173) (by decide +kernel))) rfl
theorem np_L_wrong : gNp YL_wrong.1 = some 3 := by decide +kernel
def YL_erased : gY := (yL_erased, cL_erased, 4, some .int, [(0, 9, 12, 30)])
theorem mh_L_erased : gMh YL_erased := ⟨gW_in (gIn3 (List.mem_of_getElem? (i := 183) rfl)) rfl, gW_in (gIn1 (List.mem_of_getElem? (i := 0) (by decide +kernel))) rfl, by decide +kernel, by decide +kernel, by decide +kernel⟩
theorem sf_L_erased : Cond.static YL_erased.1 ∈ gW := gW_in (gIn3 (List.mem_of_getElem? (i := 182) (by decide +kernel))) rfl
theorem np_L_erased : gNp YL_erased.1 = some 3 := by decide +kernel
def YL_sum : gY := (yL_sum, cL_sum, 6, some .int, [(0, 12, 15, 30)])
theorem mh_L_sum : gMh YL_sum := ⟨gW_in (gIn3 (List.mem_of_getElem? (i := 190) rfl)) rfl, gW_in (gIn1 (List.mem_of_getElem? (i := 0) (by decide +kernel))) rfl, by decide +kernel, by decide +kernel, by decide +kernel⟩
theorem sf_L_sum : Cond.static YL_sum.1 ∈ gW := gW_in (gIn3 (List.mem_of_getElem? (i := 189) (by decide +kernel))) rfl
theorem np_L_sum : gNp YL_sum.1 = some 5 := by decide +kernel
def YL_decoded : gY := (yL_decoded, cL_decoded, 6, some .int, [(0, 12, 15, 30), (0, 12, 19, 13), (0, 12, 23, 24)])
theorem mh_L_decoded : gMh YL_decoded := ⟨gW_in (gIn3 (List.mem_of_getElem? (i := 200) rfl)) rfl, gW_in (gIn1 (List.mem_of_getElem? (i := 0) (by decide +kernel))) rfl, by decide +kernel, by decide +kernel, by decide +kernel⟩
theorem sf_L_decoded : Cond.static YL_decoded.1 ∈ gW := gW_in (gIn3 (List.mem_of_getElem? (i := 199) (by decide +kernel))) rfl
theorem np_L_decoded : gNp YL_decoded.1 = some 5 := by decide +kernel
def YL_found : gY := (yL_found, cL_found, 6, some .int, [(0, 12, 15, 30), (0, 12, 19, 24)])
theorem mh_L_found : gMh YL_found := ⟨gW_in (gIn3 (List.mem_of_getElem? (i := 210) rfl)) rfl, gW_in (gIn1 (List.mem_of_getElem? (i := 0) (by decide +kernel))) rfl, by decide +kernel, by decide +kernel, by decide +kernel⟩
theorem sf_L_found : Cond.static YL_found.1 ∈ gW := gW_in (gIn3 (List.mem_of_getElem? (i := 209) (by decide +kernel))) rfl
theorem np_L_found : gNp YL_found.1 = some 5 := by decide +kernel
def YL_read : gY := (yL_read, cL_read, 5, some .int, [(0, 10, 13, 30), (0, 10, 17, 24)])
theorem mh_L_read : gMh YL_read := ⟨gW_in (gIn3 (List.mem_of_getElem? (i := 217) rfl)) rfl, gW_in (gIn1 (List.mem_of_getElem? (i := 0) (by decide +kernel))) rfl, by decide +kernel, by decide +kernel, by decide +kernel⟩
theorem sf_L_read : Cond.static YL_read.1 ∈ gW := gW_in (gIn3 (List.mem_of_getElem? (i := 216) (by decide +kernel))) rfl
theorem np_L_read : gNp YL_read.1 = some 4 := by decide +kernel
def YL_condition : gY := (yL_condition, cL_condition, 4, some .int, [(0, 9, 12, 30)])
theorem mh_L_condition : gMh YL_condition := ⟨gW_in (gIn3 (List.mem_of_getElem? (i := 225) rfl)) rfl, gW_in (gIn1 (List.mem_of_getElem? (i := 0) (by decide +kernel))) rfl, by decide +kernel, by decide +kernel, by decide +kernel⟩
theorem sf_L_condition : Cond.static YL_condition.1 ∈ gW := gW_in (gIn3 (List.mem_of_getElem? (i := 224) (by decide +kernel))) rfl
theorem np_L_condition : gNp YL_condition.1 = some 3 := by decide +kernel
def YL_undecodable : gY := (yL_undecodable, cL_undecodable, 4, some .int, [(0, 9, 12, 30)])
theorem mh_L_undecodable : gMh YL_undecodable := ⟨gW_in (gIn3 (List.mem_of_getElem? (i := 232) rfl)) rfl, gW_in (gIn1 (List.mem_of_getElem? (i := 0) (by decide +kernel))) rfl, by decide +kernel, by decide +kernel, by decide +kernel⟩
theorem sf_L_undecodable : Cond.static YL_undecodable.1 ∈ gW := gW_in (gIn3 (List.mem_of_getElem? (i := 231) (by decide +kernel))) rfl
theorem np_L_undecodable : gNp YL_undecodable.1 = some 3 := by decide +kernel
def YL_margin : gY := (yL_margin, cL_margin, 5, some .int, [(0, 10, 13, 30), (0, 10, 17, 24)])
theorem mh_L_margin : gMh YL_margin := ⟨gW_in (gIn4 (List.mem_of_getElem? (i := 3) rfl)) rfl, gW_in (gIn1 (List.mem_of_getElem? (i := 0) (by decide +kernel))) rfl, by decide +kernel, by decide +kernel, by decide +kernel⟩
theorem sf_L_margin : Cond.static YL_margin.1 ∈ gW := gW_in (gIn4 (List.mem_of_getElem? (i := 2) (by decide +kernel))) rfl
theorem np_L_margin : gNp YL_margin.1 = some 4 := by decide +kernel
def YL_burstLimit : gY := (yL_burstLimit, cL_burstLimit, 4, some .int, [(0, 9, 12, 30)])
theorem mh_L_burstLimit : gMh YL_burstLimit := ⟨gW_in (gIn4 (List.mem_of_getElem? (i := 10) rfl)) rfl, gW_in (gIn1 (List.mem_of_getElem? (i := 0) (by decide +kernel))) rfl, by decide +kernel, by decide +kernel, by decide +kernel⟩
theorem sf_L_burstLimit : Cond.static YL_burstLimit.1 ∈ gW := gW_in (gIn4 (List.mem_of_getElem? (i := 9) (by decide +kernel))) rfl
theorem np_L_burstLimit : gNp YL_burstLimit.1 = some 3 := by decide +kernel
def YL_advance : gY := (yL_advance, cL_advance, 4, some .int, [(0, 9, 12, 13), (0, 9, 15, 15)])
theorem mh_L_advance : gMh YL_advance := ⟨gW_in (gIn4 (List.mem_of_getElem? (i := 21) rfl)) rfl, gW_in (gIn1 (List.mem_of_getElem? (i := 0) (by decide +kernel))) rfl, by decide +kernel, by decide +kernel, by decide +kernel⟩
theorem sf_L_advance : Cond.static YL_advance.1 ∈ gW := gW_in (gIn4 (List.mem_of_getElem? (i := 20) (by decide +kernel))) rfl
theorem np_L_advance : gNp YL_advance.1 = some 3 := by decide +kernel
def YL_scrub : gY := (yL_scrub, cL_scrub, 4, some .int, [(0, 9, 12, 13)])
theorem mh_L_scrub : gMh YL_scrub := ⟨gW_in (gIn4 (List.mem_of_getElem? (i := 30) rfl)) rfl, gW_in (gIn1 (List.mem_of_getElem? (i := 0) (by decide +kernel))) rfl, by decide +kernel, by decide +kernel, by decide +kernel⟩
theorem sf_L_scrub : Cond.static YL_scrub.1 ∈ gW := gW_in (gIn4 (List.mem_of_getElem? (i := 29) (by decide +kernel))) rfl
theorem np_L_scrub : gNp YL_scrub.1 = some 3 := by decide +kernel
def YL_report : gY := (yL_report, cL_report, 5, some .int, [(0, 10, 13, 30), (0, 10, 17, 13)])
theorem mh_L_report : gMh YL_report := ⟨gW_in (gIn4 (List.mem_of_getElem? (i := 50) rfl)) rfl, gW_in (gIn1 (List.mem_of_getElem? (i := 0) (by decide +kernel))) rfl, by decide +kernel, by decide +kernel, by decide +kernel⟩
theorem sf_L_report : Cond.static YL_report.1 ∈ gW := gW_in (gIn4 (List.mem_of_getElem? (i := 49) (by decide +kernel))) rfl
theorem np_L_report : gNp YL_report.1 = some 4 := by decide +kernel
def YL_repair : gY := (yL_repair, cL_repair, 5, some .int, [(0, 10, 13, 30), (0, 10, 17, 104)])
theorem mh_L_repair : gMh YL_repair := ⟨gW_in (gIn4 (List.mem_of_getElem? (i := 59) rfl)) rfl, gW_in (gIn1 (List.mem_of_getElem? (i := 0) (by decide +kernel))) rfl, by decide +kernel, by decide +kernel, by decide +kernel⟩
theorem sf_L_repair : Cond.static YL_repair.1 ∈ gW := gW_in (gIn4 (List.mem_of_getElem? (i := 58) (by decide +kernel))) rfl
theorem np_L_repair : gNp YL_repair.1 = some 4 := by decide +kernel
def YL_checked : gY := (yL_checked, cL_checked, 5, some .int, [(0, 10, 13, 30)])
theorem mh_L_checked : gMh YL_checked := ⟨gW_in (gIn4 (List.mem_of_getElem? (i := 82) rfl)) rfl, gW_in (gIn1 (List.mem_of_getElem? (i := 0) (by decide +kernel))) rfl, by decide +kernel, by decide +kernel, by decide +kernel⟩
theorem sf_L_checked : Cond.static YL_checked.1 ∈ gW := gW_in (gIn4 (List.mem_of_getElem? (i := 81) (by decide +kernel))) rfl
theorem np_L_checked : gNp YL_checked.1 = some 4 := by decide +kernel
def YL_nextToCheck : gY := (yL_nextToCheck, cL_nextToCheck, 3, some .int, [(0, 8, 11, 24)])
theorem mh_L_nextToCheck : gMh YL_nextToCheck := ⟨gW_in (gIn4 (List.mem_of_getElem? (i := 89) rfl)) rfl, gW_in (gIn1 (List.mem_of_getElem? (i := 0) (by decide +kernel))) rfl, by decide +kernel, by decide +kernel, by decide +kernel⟩
theorem sf_L_nextToCheck : Cond.static YL_nextToCheck.1 ∈ gW := gW_in (gIn4 (List.mem_of_getElem? (i := 88) (by decide +kernel))) rfl
theorem np_L_nextToCheck : gNp YL_nextToCheck.1 = some 2 := by decide +kernel
def YL_account : gY := (yL_account, cL_account, 4, some .int, [(0, 9, 12, 13)])
theorem mh_L_account : gMh YL_account := ⟨gW_in (gIn4 (List.mem_of_getElem? (i := 97) rfl)) rfl, gW_in (gIn1 (List.mem_of_getElem? (i := 0) (by decide +kernel))) rfl, by decide +kernel, by decide +kernel, by decide +kernel⟩
theorem sf_L_account : Cond.static YL_account.1 ∈ gW := gW_in (gIn4 (List.mem_of_getElem? (i := 96) (by decide +kernel))) rfl
theorem np_L_account : gNp YL_account.1 = some 3 := by decide +kernel
def YL_health : gY := (yL_health, cL_health, 3, some .int, [(0, 7, 10, 119)])
theorem mh_L_health : gMh YL_health := ⟨gW_in (gIn4 (List.mem_of_getElem? (i := 105) rfl)) rfl, gW_in (gIn1 (List.mem_of_getElem? (i := 0) (by decide +kernel))) rfl, by decide +kernel, by decide +kernel, by decide +kernel⟩
theorem sf_L_health : Cond.static YL_health.1 ∈ gW := gW_in (gIn4 (List.mem_of_getElem? (i := 104) (by decide +kernel))) rfl
theorem np_L_health : gNp YL_health.1 = some 2 := by decide +kernel
def YL_describe : gY := (yL_describe, cL_describe, 5, some .int, [(0, 10, 13, 30), (0, 10, 17, 15), (0, 10, 21, 24)])
theorem mh_L_describe : gMh YL_describe := ⟨gW_in (gIn4 (List.mem_of_getElem? (i := 129) rfl)) rfl, gW_in (gIn1 (List.mem_of_getElem? (i := 0) (by decide +kernel))) rfl, by decide +kernel, by decide +kernel, by decide +kernel⟩
theorem sf_L_describe : Cond.static YL_describe.1 ∈ gW := gW_in (gIn4 (List.mem_of_getElem? (i := 128) (by decide +kernel))) rfl
theorem np_L_describe : gNp YL_describe.1 = some 4 := by decide +kernel
def YL_undo : gY := (yL_undo, cL_undo, 3, some .int, [(0, 8, 11, 24)])
theorem mh_L_undo : gMh YL_undo := ⟨gW_in (gIn4 (List.mem_of_getElem? (i := 146) rfl)) rfl, gW_in (gIn1 (List.mem_of_getElem? (i := 0) (by decide +kernel))) rfl, by decide +kernel, by decide +kernel, by decide +kernel⟩
theorem sf_L_undo : Cond.static YL_undo.1 ∈ gW := gW_in (gIn4 (List.mem_of_getElem? (i := 145) (by decide +kernel))) rfl
theorem np_L_undo : gNp YL_undo.1 = some 2 := by decide +kernel
def YL_restore : gY := (yL_restore, cL_restore, 3, some .int, [(0, 8, 11, 15)])
theorem mh_L_restore : gMh YL_restore := ⟨gW_in (gIn4 (List.mem_of_getElem? (i := 154) rfl)) rfl, gW_in (gIn1 (List.mem_of_getElem? (i := 0) (by decide +kernel))) rfl, by decide +kernel, by decide +kernel, by decide +kernel⟩
theorem sf_L_restore : Cond.static YL_restore.1 ∈ gW := gW_in (gIn4 (List.mem_of_getElem? (i := 153) (by decide +kernel))) rfl
theorem np_L_restore : gNp YL_restore.1 = some 2 := by decide +kernel
theorem lk_X0_103 : gLk RX0 103 YX0_cancel.1 := Or.inl (gW_in (gIn2 (List.mem_of_getElem? (i := 51) (by decide +kernel))) rfl)
theorem lk_X0_113 : gLk RX0 113 YX0_difference.1 := Or.inl (gW_in (gIn2 (List.mem_of_getElem? (i := 64) (by decide +kernel))) rfl)
theorem lk_X0_56 : gLk RX0 56 YX0_clearBlock.1 := Or.inl (gW_in (gIn2 (List.mem_of_getElem? (i := 9) (by decide +kernel))) rfl)
theorem lk_X0_70 : gLk RX0 70 YX0_addSums.1 := Or.inl (gW_in (gIn2 (List.mem_of_getElem? (i := 26) (by decide +kernel))) rfl)
theorem lk_X0_73 : gLk RX0 73 YX0_load.1 := Or.inl (gW_in (gIn2 (List.mem_of_getElem? (i := 5) (by decide +kernel))) rfl)
theorem lk_X0_77 : gLk RX0 77 YJ6_bitCount_0f7a4.1 := Or.inl (gW_in (gIn2 (List.mem_of_getElem? (i := 38) (by decide +kernel))) rfl)
theorem lk_X0_83 : gLk RX0 83 YX0_cancelErasures.1 := Or.inl (gW_in (gIn2 (List.mem_of_getElem? (i := 44) (by decide +kernel))) rfl)
theorem lk_X0_86 : gLk RX0 86 YX0_errorSet.1 := Or.inl (gW_in (gIn2 (List.mem_of_getElem? (i := 54) (by decide +kernel))) rfl)
theorem lk_X0_90 : gLk RX0 90 YX0_solve.1 := Or.inl (gW_in (gIn2 (List.mem_of_getElem? (i := 60) (by decide +kernel))) rfl)
theorem lk_X0_99 : gLk RX0 99 YX0_isZero.1 := Or.inl (gW_in (gIn2 (List.mem_of_getElem? (i := 57) (by decide +kernel))) rfl)
theorem lk_X1_55 : gLk RX1 55 YX1_drop.1 := Or.inl (gW_in (gIn1 (List.mem_of_getElem? (i := 185) (by decide +kernel))) rfl)
theorem lk_X1_59 : gLk RX1 59 YX1_hasFile.1 := Or.inl (gW_in (gIn1 (List.mem_of_getElem? (i := 177) (by decide +kernel))) rfl)
theorem lk_X1_63 : gLk RX1 63 YX1_hasBlock.1 := Or.inl (gW_in (gIn3 (List.mem_of_getElem? (i := 102) (by decide +kernel))) rfl)
theorem lk_X1_67 : gLk RX1 67 YX1_blockSize.1 := Or.inl (gW_in (gIn1 (List.mem_of_getElem? (i := 222) (by decide +kernel))) rfl)
theorem lk_X1_74 : gLk RX1 74 YX1_areaSize.1 := Or.inl (gW_in (gIn1 (List.mem_of_getElem? (i := 218) (by decide +kernel))) rfl)
theorem lk_X1_86 : gLk RX1 86 YX1_groupSize.1 := Or.inl (gW_in (gIn2 (List.mem_of_getElem? (i := 21) (by decide +kernel))) rfl)
theorem lk_X1_89 : gLk RX1 89 YX1_areaStart.1 := Or.inl (gW_in (gIn1 (List.mem_of_getElem? (i := 210) (by decide +kernel))) rfl)
theorem lk_X1_92 : gLk RX1 92 YX1_areaEnd.1 := Or.inl (gW_in (gIn1 (List.mem_of_getElem? (i := 214) (by decide +kernel))) rfl)
theorem lk_X1_95 : gLk RX1 95 YX1_fileAt.1 := Or.inl (gW_in (gIn1 (List.mem_of_getElem? (i := 206) (by decide +kernel))) rfl)
theorem lk_X2_101 : gLk RX2 101 YX2_remember.1 := Or.inl (gW_in (gIn2 (List.mem_of_getElem? (i := 214) (by decide +kernel))) rfl)
theorem lk_X2_108 : gLk RX2 108 YX2_writeFile.1 := Or.inl (gW_in (gIn2 (List.mem_of_getElem? (i := 223) (by decide +kernel))) rfl)
theorem lk_X2_162 : gLk RX2 162 YX2_isCell.1 := Or.inl (gW_in (gIn3 (List.mem_of_getElem? (i := 114) (by decide +kernel))) rfl)
theorem lk_X2_226 : gLk RX2 226 YJ6_bitCount_0f7a4.1 := Or.inl (gW_in (gIn3 (List.mem_of_getElem? (i := 12) (by decide +kernel))) rfl)
theorem lk_X2_244 : gLk RX2 244 YX2_sealBehind.1 := Or.inl (gW_in (gIn2 (List.mem_of_getElem? (i := 239) (by decide +kernel))) rfl)
theorem lk_X2_247 : gLk RX2 247 YX2_lostBlocks.1 := Or.inl (gW_in (gIn3 (List.mem_of_getElem? (i := 237) (by decide +kernel))) rfl)
theorem lk_X2_250 : gLk RX2 250 YX2_standingFrom.1 := Or.inl (gW_in (gIn4 (List.mem_of_getElem? (i := 15) (by decide +kernel))) rfl)
theorem lk_X2_265 : gLk RX2 265 YX2_scrubBlock.1 := Or.inl (gW_in (gIn4 (List.mem_of_getElem? (i := 40) (by decide +kernel))) rfl)
theorem lk_X2_278 : gLk RX2 278 YX2_writeFound.1 := Or.inl (gW_in (gIn3 (List.mem_of_getElem? (i := 3) (by decide +kernel))) rfl)
theorem lk_X2_301 : gLk RX2 301 YX2_headCharacter.1 := Or.inl (gW_in (gIn4 (List.mem_of_getElem? (i := 136) (by decide +kernel))) rfl)
theorem lk_X2_304 : gLk RX2 304 YX2_dataCharacter.1 := Or.inl (gW_in (gIn4 (List.mem_of_getElem? (i := 140) (by decide +kernel))) rfl)
theorem lk_X2_315 : gLk RX2 315 YX2_fitsText.1 := Or.inl (gW_in (gIn2 (List.mem_of_getElem? (i := 195) (by decide +kernel))) rfl)
theorem lk_X2_319 : gLk RX2 319 YX2_symbolOf.1 := Or.inl (gW_in (gIn2 (List.mem_of_getElem? (i := 198) (by decide +kernel))) rfl)
theorem lk_X2_329 : gLk RX2 329 YX2_dataIn.1 := Or.inl (gW_in (gIn2 (List.mem_of_getElem? (i := 229) (by decide +kernel))) rfl)
theorem lk_X2_349 : gLk RX2 349 YX2_addLine.1 := Or.inl (gW_in (gIn4 (List.mem_of_getElem? (i := 44) (by decide +kernel))) rfl)
theorem lk_X2_68 : gLk RX2 68 YX2_forgetChanges.1 := Or.inl (gW_in (gIn1 (List.mem_of_getElem? (i := 189) (by decide +kernel))) rfl)
theorem lk_X2_83 : gLk RX2 83 YX2_textError.1 := Or.inl (gW_in (gIn2 (List.mem_of_getElem? (i := 192) (by decide +kernel))) rfl)
theorem lk_X2_92 : gLk RX2 92 YX2_blocksFor.1 := Or.inl (gW_in (gIn2 (List.mem_of_getElem? (i := 206) (by decide +kernel))) rfl)
theorem lk_L_101 : gLk RL 101 YX2_repair.1 := Or.inl (gW_in (gIn4 (List.mem_of_getElem? (i := 61) (by decide +kernel))) rfl)
theorem lk_L_101p : Cond.methodLink RL 101 YX2_repair.1 ∈ gW := gW_in (gIn4 (List.mem_of_getElem? (i := 61) (by decide +kernel))) rfl
theorem lk_L_106 : gLk RL 106 YX2_checked.1 := Or.inl (gW_in (gIn4 (List.mem_of_getElem? (i := 83) (by decide +kernel))) rfl)
theorem lk_L_106p : Cond.methodLink RL 106 YX2_checked.1 ∈ gW := gW_in (gIn4 (List.mem_of_getElem? (i := 83) (by decide +kernel))) rfl
theorem lk_L_109 : gLk RL 109 YX2_nextToCheck.1 := Or.inl (gW_in (gIn4 (List.mem_of_getElem? (i := 90) (by decide +kernel))) rfl)
theorem lk_L_109p : Cond.methodLink RL 109 YX2_nextToCheck.1 ∈ gW := gW_in (gIn4 (List.mem_of_getElem? (i := 90) (by decide +kernel))) rfl
theorem lk_L_112 : gLk RL 112 YX2_account.1 := Or.inl (gW_in (gIn4 (List.mem_of_getElem? (i := 98) (by decide +kernel))) rfl)
theorem lk_L_112p : Cond.methodLink RL 112 YX2_account.1 ∈ gW := gW_in (gIn4 (List.mem_of_getElem? (i := 98) (by decide +kernel))) rfl
theorem lk_L_115 : gLk RL 115 YX2_health.1 := Or.inl (gW_in (gIn4 (List.mem_of_getElem? (i := 120) (by decide +kernel))) rfl)
theorem lk_L_115p : Cond.methodLink RL 115 YX2_health.1 ∈ gW := gW_in (gIn4 (List.mem_of_getElem? (i := 120) (by decide +kernel))) rfl
theorem lk_L_121 : gLk RL 121 YX2_describe.1 := Or.inl (gW_in (gIn4 (List.mem_of_getElem? (i := 130) (by decide +kernel))) rfl)
theorem lk_L_121p : Cond.methodLink RL 121 YX2_describe.1 ∈ gW := gW_in (gIn4 (List.mem_of_getElem? (i := 130) (by decide +kernel))) rfl
theorem lk_L_124 : gLk RL 124 YX2_undo.1 := Or.inl (gW_in (gIn4 (List.mem_of_getElem? (i := 147) (by decide +kernel))) rfl)
theorem lk_L_124p : Cond.methodLink RL 124 YX2_undo.1 ∈ gW := gW_in (gIn4 (List.mem_of_getElem? (i := 147) (by decide +kernel))) rfl
theorem lk_L_127 : gLk RL 127 YX2_restore.1 := Or.inl (gW_in (gIn4 (List.mem_of_getElem? (i := 155) (by decide +kernel))) rfl)
theorem lk_L_127p : Cond.methodLink RL 127 YX2_restore.1 ∈ gW := gW_in (gIn4 (List.mem_of_getElem? (i := 155) (by decide +kernel))) rfl
theorem lk_L_130 : gLk RL 130 YX2_init.1 := Or.inl (gW_in (gIn1 (List.mem_of_getElem? (i := 21) (by decide +kernel))) rfl)
theorem lk_L_130p : Cond.methodLink RL 130 YX2_init.1 ∈ gW := gW_in (gIn1 (List.mem_of_getElem? (i := 21) (by decide +kernel))) rfl
theorem lk_L_133 : gLk RL 133 YX3_init.1 := Or.inl (gW_in (gIn4 (List.mem_of_getElem? (i := 162) (by decide +kernel))) rfl)
theorem lk_L_133p : Cond.methodLink RL 133 YX3_init.1 ∈ gW := gW_in (gIn4 (List.mem_of_getElem? (i := 162) (by decide +kernel))) rfl
theorem lk_L_134 : gLk RL 134 YX2_clear.1 := Or.inl (gW_in (gIn1 (List.mem_of_getElem? (i := 169) (by decide +kernel))) rfl)
theorem lk_L_134p : Cond.methodLink RL 134 YX2_clear.1 ∈ gW := gW_in (gIn1 (List.mem_of_getElem? (i := 169) (by decide +kernel))) rfl
theorem lk_L_137 : gLk RL 137 YX3_clear.1 := Or.inl (gW_in (gIn5 (List.mem_of_getElem? (i := 27) (by decide +kernel))) rfl)
theorem lk_L_137p : Cond.methodLink RL 137 YX3_clear.1 ∈ gW := gW_in (gIn5 (List.mem_of_getElem? (i := 27) (by decide +kernel))) rfl
theorem lk_L_138 : gLk RL 138 YL_append.1 := Or.inl (gW_in (gIn2 (List.mem_of_getElem? (i := 88) (by decide +kernel))) rfl)
theorem lk_L_138p : Cond.methodLink RL 138 YL_append.1 ∈ gW := gW_in (gIn2 (List.mem_of_getElem? (i := 88) (by decide +kernel))) rfl
theorem lk_L_143 : gLk RL 143 YX3_append.1 := Or.inl (gW_in (gIn5 (List.mem_of_getElem? (i := 46) (by decide +kernel))) rfl)
theorem lk_L_143p : Cond.methodLink RL 143 YX3_append.1 ∈ gW := gW_in (gIn5 (List.mem_of_getElem? (i := 46) (by decide +kernel))) rfl
theorem lk_L_144 : gLk RL 144 YX3_thrown.1 := Or.inl (gW_in (gIn5 (List.mem_of_getElem? (i := 23) (by decide +kernel))) rfl)
theorem lk_L_144p : Cond.methodLink RL 144 YX3_thrown.1 ∈ gW := gW_in (gIn5 (List.mem_of_getElem? (i := 23) (by decide +kernel))) rfl
theorem lk_L_147 : gLk RL 147 YL_store.1 := Or.inl (gW_in (gIn2 (List.mem_of_getElem? (i := 185) (by decide +kernel))) rfl)
theorem lk_L_147p : Cond.methodLink RL 147 YL_store.1 ∈ gW := gW_in (gIn2 (List.mem_of_getElem? (i := 185) (by decide +kernel))) rfl
theorem lk_L_150 : gLk RL 150 YX3_store.1 := Or.inl (gW_in (gIn5 (List.mem_of_getElem? (i := 50) (by decide +kernel))) rfl)
theorem lk_L_150p : Cond.methodLink RL 150 YX3_store.1 ∈ gW := gW_in (gIn5 (List.mem_of_getElem? (i := 50) (by decide +kernel))) rfl
theorem lk_L_151 : gLk RL 151 YL_errorPosition.1 := Or.inl (gW_in (gIn3 (List.mem_of_getElem? (i := 13) (by decide +kernel))) rfl)
theorem lk_L_151p : Cond.methodLink RL 151 YL_errorPosition.1 ∈ gW := gW_in (gIn3 (List.mem_of_getElem? (i := 13) (by decide +kernel))) rfl
theorem lk_L_153 : gLk RL 153 YX3_errorPosition.1 := Or.inl (gW_in (gIn5 (List.mem_of_getElem? (i := 131) (by decide +kernel))) rfl)
theorem lk_L_153p : Cond.methodLink RL 153 YX3_errorPosition.1 ∈ gW := gW_in (gIn5 (List.mem_of_getElem? (i := 131) (by decide +kernel))) rfl
theorem lk_L_154 : gLk RL 154 YL_remove.1 := Or.inl (gW_in (gIn3 (List.mem_of_getElem? (i := 37) (by decide +kernel))) rfl)
theorem lk_L_154p : Cond.methodLink RL 154 YL_remove.1 ∈ gW := gW_in (gIn3 (List.mem_of_getElem? (i := 37) (by decide +kernel))) rfl
theorem lk_L_157 : gLk RL 157 YX3_remove.1 := Or.inl (gW_in (gIn5 (List.mem_of_getElem? (i := 135) (by decide +kernel))) rfl)
theorem lk_L_157p : Cond.methodLink RL 157 YX3_remove.1 ∈ gW := gW_in (gIn5 (List.mem_of_getElem? (i := 135) (by decide +kernel))) rfl
theorem lk_L_158 : gLk RL 158 YL_file.1 := Or.inl (gW_in (gIn3 (List.mem_of_getElem? (i := 82) (by decide +kernel))) rfl)
theorem lk_L_158p : Cond.methodLink RL 158 YL_file.1 ∈ gW := gW_in (gIn3 (List.mem_of_getElem? (i := 82) (by decide +kernel))) rfl
theorem lk_L_161 : gLk RL 161 YX3_file.1 := Or.inl (gW_in (gIn5 (List.mem_of_getElem? (i := 139) (by decide +kernel))) rfl)
theorem lk_L_161p : Cond.methodLink RL 161 YX3_file.1 ∈ gW := gW_in (gIn5 (List.mem_of_getElem? (i := 139) (by decide +kernel))) rfl
theorem lk_L_162 : gLk RL 162 YX2_files.1 := Or.inl (gW_in (gIn1 (List.mem_of_getElem? (i := 193) (by decide +kernel))) rfl)
theorem lk_L_162p : Cond.methodLink RL 162 YX2_files.1 ∈ gW := gW_in (gIn1 (List.mem_of_getElem? (i := 193) (by decide +kernel))) rfl
theorem lk_L_165 : gLk RL 165 YX3_files.1 := Or.inl (gW_in (gIn5 (List.mem_of_getElem? (i := 143) (by decide +kernel))) rfl)
theorem lk_L_165p : Cond.methodLink RL 165 YX3_files.1 ∈ gW := gW_in (gIn5 (List.mem_of_getElem? (i := 143) (by decide +kernel))) rfl
theorem lk_L_166 : gLk RL 166 YL_cellOf.1 := Or.inl (gW_in (gIn3 (List.mem_of_getElem? (i := 91) (by decide +kernel))) rfl)
theorem lk_L_166p : Cond.methodLink RL 166 YL_cellOf.1 ∈ gW := gW_in (gIn3 (List.mem_of_getElem? (i := 91) (by decide +kernel))) rfl
theorem lk_L_169 : gLk RL 169 YX3_cellOf.1 := Or.inl (gW_in (gIn5 (List.mem_of_getElem? (i := 147) (by decide +kernel))) rfl)
theorem lk_L_169p : Cond.methodLink RL 169 YX3_cellOf.1 ∈ gW := gW_in (gIn5 (List.mem_of_getElem? (i := 147) (by decide +kernel))) rfl
theorem lk_L_17 : gLk RL 17 YX2_store.1 := Or.inl (gW_in (gIn2 (List.mem_of_getElem? (i := 188) (by decide +kernel))) rfl)
theorem lk_L_17p : Cond.methodLink RL 17 YX2_store.1 ∈ gW := gW_in (gIn2 (List.mem_of_getElem? (i := 188) (by decide +kernel))) rfl
theorem lk_L_170 : gLk RL 170 YL_owner.1 := Or.inl (gW_in (gIn3 (List.mem_of_getElem? (i := 107) (by decide +kernel))) rfl)
theorem lk_L_170p : Cond.methodLink RL 170 YL_owner.1 ∈ gW := gW_in (gIn3 (List.mem_of_getElem? (i := 107) (by decide +kernel))) rfl
theorem lk_L_172 : gLk RL 172 YX3_owner.1 := Or.inl (gW_in (gIn5 (List.mem_of_getElem? (i := 159) (by decide +kernel))) rfl)
theorem lk_L_172p : Cond.methodLink RL 172 YX3_owner.1 ∈ gW := gW_in (gIn5 (List.mem_of_getElem? (i := 159) (by decide +kernel))) rfl
theorem lk_L_173 : gLk RL 173 YL_placeOf.1 := Or.inl (gW_in (gIn3 (List.mem_of_getElem? (i := 119) (by decide +kernel))) rfl)
theorem lk_L_173p : Cond.methodLink RL 173 YL_placeOf.1 ∈ gW := gW_in (gIn3 (List.mem_of_getElem? (i := 119) (by decide +kernel))) rfl
theorem lk_L_175 : gLk RL 175 YX3_placeOf.1 := Or.inl (gW_in (gIn5 (List.mem_of_getElem? (i := 167) (by decide +kernel))) rfl)
theorem lk_L_175p : Cond.methodLink RL 175 YX3_placeOf.1 ∈ gW := gW_in (gIn5 (List.mem_of_getElem? (i := 167) (by decide +kernel))) rfl
theorem lk_L_176 : gLk RL 176 YX2_room.1 := Or.inl (gW_in (gIn1 (List.mem_of_getElem? (i := 198) (by decide +kernel))) rfl)
theorem lk_L_176p : Cond.methodLink RL 176 YX2_room.1 ∈ gW := gW_in (gIn1 (List.mem_of_getElem? (i := 198) (by decide +kernel))) rfl
theorem lk_L_179 : gLk RL 179 YX3_room.1 := Or.inl (gW_in (gIn5 (List.mem_of_getElem? (i := 171) (by decide +kernel))) rfl)
theorem lk_L_179p : Cond.methodLink RL 179 YX3_room.1 ∈ gW := gW_in (gIn5 (List.mem_of_getElem? (i := 171) (by decide +kernel))) rfl
theorem lk_L_180 : gLk RL 180 YL_symbol.1 := Or.inl (gW_in (gIn3 (List.mem_of_getElem? (i := 131) (by decide +kernel))) rfl)
theorem lk_L_180p : Cond.methodLink RL 180 YL_symbol.1 ∈ gW := gW_in (gIn3 (List.mem_of_getElem? (i := 131) (by decide +kernel))) rfl
theorem lk_L_182 : gLk RL 182 YX3_symbol.1 := Or.inl (gW_in (gIn5 (List.mem_of_getElem? (i := 175) (by decide +kernel))) rfl)
theorem lk_L_182p : Cond.methodLink RL 182 YX3_symbol.1 ∈ gW := gW_in (gIn5 (List.mem_of_getElem? (i := 175) (by decide +kernel))) rfl
theorem lk_L_183 : gLk RL 183 YL_isErased.1 := Or.inl (gW_in (gIn3 (List.mem_of_getElem? (i := 138) (by decide +kernel))) rfl)
theorem lk_L_183p : Cond.methodLink RL 183 YL_isErased.1 ∈ gW := gW_in (gIn3 (List.mem_of_getElem? (i := 138) (by decide +kernel))) rfl
theorem lk_L_185 : gLk RL 185 YX3_isErased.1 := Or.inl (gW_in (gIn5 (List.mem_of_getElem? (i := 179) (by decide +kernel))) rfl)
theorem lk_L_185p : Cond.methodLink RL 185 YX3_isErased.1 ∈ gW := gW_in (gIn5 (List.mem_of_getElem? (i := 179) (by decide +kernel))) rfl
theorem lk_L_186 : gLk RL 186 YL_flip.1 := Or.inl (gW_in (gIn3 (List.mem_of_getElem? (i := 145) (by decide +kernel))) rfl)
theorem lk_L_186p : Cond.methodLink RL 186 YL_flip.1 ∈ gW := gW_in (gIn3 (List.mem_of_getElem? (i := 145) (by decide +kernel))) rfl
theorem lk_L_188 : gLk RL 188 YX3_flip.1 := Or.inl (gW_in (gIn5 (List.mem_of_getElem? (i := 183) (by decide +kernel))) rfl)
theorem lk_L_188p : Cond.methodLink RL 188 YX3_flip.1 ∈ gW := gW_in (gIn5 (List.mem_of_getElem? (i := 183) (by decide +kernel))) rfl
theorem lk_L_189 : gLk RL 189 YL_erase.1 := Or.inl (gW_in (gIn3 (List.mem_of_getElem? (i := 157) (by decide +kernel))) rfl)
theorem lk_L_189p : Cond.methodLink RL 189 YL_erase.1 ∈ gW := gW_in (gIn3 (List.mem_of_getElem? (i := 157) (by decide +kernel))) rfl
theorem lk_L_191 : gLk RL 191 YX3_erase.1 := Or.inl (gW_in (gIn5 (List.mem_of_getElem? (i := 187) (by decide +kernel))) rfl)
theorem lk_L_191p : Cond.methodLink RL 191 YX3_erase.1 ∈ gW := gW_in (gIn5 (List.mem_of_getElem? (i := 187) (by decide +kernel))) rfl
theorem lk_L_192 : gLk RL 192 YL_burst.1 := Or.inl (gW_in (gIn3 (List.mem_of_getElem? (i := 164) (by decide +kernel))) rfl)
theorem lk_L_192p : Cond.methodLink RL 192 YL_burst.1 ∈ gW := gW_in (gIn3 (List.mem_of_getElem? (i := 164) (by decide +kernel))) rfl
theorem lk_L_194 : gLk RL 194 YX3_burst.1 := Or.inl (gW_in (gIn5 (List.mem_of_getElem? (i := 191) (by decide +kernel))) rfl)
theorem lk_L_194p : Cond.methodLink RL 194 YX3_burst.1 ∈ gW := gW_in (gIn5 (List.mem_of_getElem? (i := 191) (by decide +kernel))) rfl
theorem lk_L_195 : gLk RL 195 YL_wrong.1 := Or.inl (gW_in (gIn3 (List.mem_of_getElem? (i := 172) (by decide +kernel))) rfl)
theorem lk_L_195p : Cond.methodLink RL 195 YL_wrong.1 ∈ gW := gW_in (gIn3 (List.mem_of_getElem? (i := 172) (by decide +kernel))) rfl
theorem lk_L_197 : gLk RL 197 YX3_wrong.1 := Or.inl (gW_in (gIn5 (List.mem_of_getElem? (i := 195) (by decide +kernel))) rfl)
theorem lk_L_197p : Cond.methodLink RL 197 YX3_wrong.1 ∈ gW := gW_in (gIn5 (List.mem_of_getElem? (i := 195) (by decide +kernel))) rfl
theorem lk_L_198 : gLk RL 198 YL_erased.1 := Or.inl (gW_in (gIn3 (List.mem_of_getElem? (i := 181) (by decide +kernel))) rfl)
theorem lk_L_198p : Cond.methodLink RL 198 YL_erased.1 ∈ gW := gW_in (gIn3 (List.mem_of_getElem? (i := 181) (by decide +kernel))) rfl
theorem lk_L_200 : gLk RL 200 YX3_erased.1 := Or.inl (gW_in (gIn5 (List.mem_of_getElem? (i := 207) (by decide +kernel))) rfl)
theorem lk_L_200p : Cond.methodLink RL 200 YX3_erased.1 ∈ gW := gW_in (gIn5 (List.mem_of_getElem? (i := 207) (by decide +kernel))) rfl
theorem lk_L_201 : gLk RL 201 YL_sum.1 := Or.inl (gW_in (gIn3 (List.mem_of_getElem? (i := 188) (by decide +kernel))) rfl)
theorem lk_L_201p : Cond.methodLink RL 201 YL_sum.1 ∈ gW := gW_in (gIn3 (List.mem_of_getElem? (i := 188) (by decide +kernel))) rfl
theorem lk_L_203 : gLk RL 203 YX3_sum.1 := Or.inl (gW_in (gIn5 (List.mem_of_getElem? (i := 211) (by decide +kernel))) rfl)
theorem lk_L_203p : Cond.methodLink RL 203 YX3_sum.1 ∈ gW := gW_in (gIn5 (List.mem_of_getElem? (i := 211) (by decide +kernel))) rfl
theorem lk_L_204 : gLk RL 204 YL_decoded.1 := Or.inl (gW_in (gIn3 (List.mem_of_getElem? (i := 198) (by decide +kernel))) rfl)
theorem lk_L_204p : Cond.methodLink RL 204 YL_decoded.1 ∈ gW := gW_in (gIn3 (List.mem_of_getElem? (i := 198) (by decide +kernel))) rfl
theorem lk_L_206 : gLk RL 206 YX3_decoded.1 := Or.inl (gW_in (gIn5 (List.mem_of_getElem? (i := 219) (by decide +kernel))) rfl)
theorem lk_L_206p : Cond.methodLink RL 206 YX3_decoded.1 ∈ gW := gW_in (gIn5 (List.mem_of_getElem? (i := 219) (by decide +kernel))) rfl
theorem lk_L_207 : gLk RL 207 YL_found.1 := Or.inl (gW_in (gIn3 (List.mem_of_getElem? (i := 208) (by decide +kernel))) rfl)
theorem lk_L_207p : Cond.methodLink RL 207 YL_found.1 ∈ gW := gW_in (gIn3 (List.mem_of_getElem? (i := 208) (by decide +kernel))) rfl
theorem lk_L_209 : gLk RL 209 YX3_found.1 := Or.inl (gW_in (gIn5 (List.mem_of_getElem? (i := 231) (by decide +kernel))) rfl)
theorem lk_L_209p : Cond.methodLink RL 209 YX3_found.1 ∈ gW := gW_in (gIn5 (List.mem_of_getElem? (i := 231) (by decide +kernel))) rfl
theorem lk_L_21 : gLk RL 21 YX2_errorPosition.1 := Or.inl (gW_in (gIn3 (List.mem_of_getElem? (i := 17) (by decide +kernel))) rfl)
theorem lk_L_21p : Cond.methodLink RL 21 YX2_errorPosition.1 ∈ gW := gW_in (gIn3 (List.mem_of_getElem? (i := 17) (by decide +kernel))) rfl
theorem lk_L_210 : gLk RL 210 YL_read.1 := Or.inl (gW_in (gIn3 (List.mem_of_getElem? (i := 215) (by decide +kernel))) rfl)
theorem lk_L_210p : Cond.methodLink RL 210 YL_read.1 ∈ gW := gW_in (gIn3 (List.mem_of_getElem? (i := 215) (by decide +kernel))) rfl
theorem lk_L_212 : gLk RL 212 YX3_read.1 := Or.inl (gW_in (gIn5 (List.mem_of_getElem? (i := 235) (by decide +kernel))) rfl)
theorem lk_L_212p : Cond.methodLink RL 212 YX3_read.1 ∈ gW := gW_in (gIn5 (List.mem_of_getElem? (i := 235) (by decide +kernel))) rfl
theorem lk_L_213 : gLk RL 213 YL_condition.1 := Or.inl (gW_in (gIn3 (List.mem_of_getElem? (i := 223) (by decide +kernel))) rfl)
theorem lk_L_213p : Cond.methodLink RL 213 YL_condition.1 ∈ gW := gW_in (gIn3 (List.mem_of_getElem? (i := 223) (by decide +kernel))) rfl
theorem lk_L_215 : gLk RL 215 YX3_condition.1 := Or.inl (gW_in (gIn5 (List.mem_of_getElem? (i := 239) (by decide +kernel))) rfl)
theorem lk_L_215p : Cond.methodLink RL 215 YX3_condition.1 ∈ gW := gW_in (gIn5 (List.mem_of_getElem? (i := 239) (by decide +kernel))) rfl
theorem lk_L_216 : gLk RL 216 YL_undecodable.1 := Or.inl (gW_in (gIn3 (List.mem_of_getElem? (i := 230) (by decide +kernel))) rfl)
theorem lk_L_216p : Cond.methodLink RL 216 YL_undecodable.1 ∈ gW := gW_in (gIn3 (List.mem_of_getElem? (i := 230) (by decide +kernel))) rfl
theorem lk_L_218 : gLk RL 218 YX3_undecodable.1 := Or.inl (gW_in (gIn6 (List.mem_of_getElem? (i := 11) (by decide +kernel))) rfl)
theorem lk_L_218p : Cond.methodLink RL 218 YX3_undecodable.1 ∈ gW := gW_in (gIn6 (List.mem_of_getElem? (i := 11) (by decide +kernel))) rfl
theorem lk_L_219 : gLk RL 219 YL_margin.1 := Or.inl (gW_in (gIn4 (List.mem_of_getElem? (i := 1) (by decide +kernel))) rfl)
theorem lk_L_219p : Cond.methodLink RL 219 YL_margin.1 ∈ gW := gW_in (gIn4 (List.mem_of_getElem? (i := 1) (by decide +kernel))) rfl
theorem lk_L_221 : gLk RL 221 YX3_margin.1 := Or.inl (gW_in (gIn6 (List.mem_of_getElem? (i := 15) (by decide +kernel))) rfl)
theorem lk_L_221p : Cond.methodLink RL 221 YX3_margin.1 ∈ gW := gW_in (gIn6 (List.mem_of_getElem? (i := 15) (by decide +kernel))) rfl
theorem lk_L_222 : gLk RL 222 YL_burstLimit.1 := Or.inl (gW_in (gIn4 (List.mem_of_getElem? (i := 8) (by decide +kernel))) rfl)
theorem lk_L_222p : Cond.methodLink RL 222 YL_burstLimit.1 ∈ gW := gW_in (gIn4 (List.mem_of_getElem? (i := 8) (by decide +kernel))) rfl
theorem lk_L_224 : gLk RL 224 YX3_burstLimit.1 := Or.inl (gW_in (gIn6 (List.mem_of_getElem? (i := 19) (by decide +kernel))) rfl)
theorem lk_L_224p : Cond.methodLink RL 224 YX3_burstLimit.1 ∈ gW := gW_in (gIn6 (List.mem_of_getElem? (i := 19) (by decide +kernel))) rfl
theorem lk_L_225 : gLk RL 225 YL_advance.1 := Or.inl (gW_in (gIn4 (List.mem_of_getElem? (i := 19) (by decide +kernel))) rfl)
theorem lk_L_225p : Cond.methodLink RL 225 YL_advance.1 ∈ gW := gW_in (gIn4 (List.mem_of_getElem? (i := 19) (by decide +kernel))) rfl
theorem lk_L_227 : gLk RL 227 YX3_advance.1 := Or.inl (gW_in (gIn6 (List.mem_of_getElem? (i := 27) (by decide +kernel))) rfl)
theorem lk_L_227p : Cond.methodLink RL 227 YX3_advance.1 ∈ gW := gW_in (gIn6 (List.mem_of_getElem? (i := 27) (by decide +kernel))) rfl
theorem lk_L_228 : gLk RL 228 YL_scrub.1 := Or.inl (gW_in (gIn4 (List.mem_of_getElem? (i := 28) (by decide +kernel))) rfl)
theorem lk_L_228p : Cond.methodLink RL 228 YL_scrub.1 ∈ gW := gW_in (gIn4 (List.mem_of_getElem? (i := 28) (by decide +kernel))) rfl
theorem lk_L_230 : gLk RL 230 YX3_scrub.1 := Or.inl (gW_in (gIn6 (List.mem_of_getElem? (i := 31) (by decide +kernel))) rfl)
theorem lk_L_230p : Cond.methodLink RL 230 YX3_scrub.1 ∈ gW := gW_in (gIn6 (List.mem_of_getElem? (i := 31) (by decide +kernel))) rfl
theorem lk_L_231 : gLk RL 231 YL_report.1 := Or.inl (gW_in (gIn4 (List.mem_of_getElem? (i := 48) (by decide +kernel))) rfl)
theorem lk_L_231p : Cond.methodLink RL 231 YL_report.1 ∈ gW := gW_in (gIn4 (List.mem_of_getElem? (i := 48) (by decide +kernel))) rfl
theorem lk_L_233 : gLk RL 233 YX3_report.1 := Or.inl (gW_in (gIn6 (List.mem_of_getElem? (i := 47) (by decide +kernel))) rfl)
theorem lk_L_233p : Cond.methodLink RL 233 YX3_report.1 ∈ gW := gW_in (gIn6 (List.mem_of_getElem? (i := 47) (by decide +kernel))) rfl
theorem lk_L_234 : gLk RL 234 YX2_reportLines.1 := Or.inl (gW_in (gIn1 (List.mem_of_getElem? (i := 229) (by decide +kernel))) rfl)
theorem lk_L_234p : Cond.methodLink RL 234 YX2_reportLines.1 ∈ gW := gW_in (gIn1 (List.mem_of_getElem? (i := 229) (by decide +kernel))) rfl
theorem lk_L_237 : gLk RL 237 YX3_reportLines.1 := Or.inl (gW_in (gIn6 (List.mem_of_getElem? (i := 51) (by decide +kernel))) rfl)
theorem lk_L_237p : Cond.methodLink RL 237 YX3_reportLines.1 ∈ gW := gW_in (gIn6 (List.mem_of_getElem? (i := 51) (by decide +kernel))) rfl
theorem lk_L_238 : gLk RL 238 YL_repair.1 := Or.inl (gW_in (gIn4 (List.mem_of_getElem? (i := 57) (by decide +kernel))) rfl)
theorem lk_L_238p : Cond.methodLink RL 238 YL_repair.1 ∈ gW := gW_in (gIn4 (List.mem_of_getElem? (i := 57) (by decide +kernel))) rfl
theorem lk_L_240 : gLk RL 240 YX3_repair.1 := Or.inl (gW_in (gIn6 (List.mem_of_getElem? (i := 55) (by decide +kernel))) rfl)
theorem lk_L_240p : Cond.methodLink RL 240 YX3_repair.1 ∈ gW := gW_in (gIn6 (List.mem_of_getElem? (i := 55) (by decide +kernel))) rfl
theorem lk_L_241 : gLk RL 241 YL_checked.1 := Or.inl (gW_in (gIn4 (List.mem_of_getElem? (i := 80) (by decide +kernel))) rfl)
theorem lk_L_241p : Cond.methodLink RL 241 YL_checked.1 ∈ gW := gW_in (gIn4 (List.mem_of_getElem? (i := 80) (by decide +kernel))) rfl
theorem lk_L_243 : gLk RL 243 YX3_checked.1 := Or.inl (gW_in (gIn6 (List.mem_of_getElem? (i := 59) (by decide +kernel))) rfl)
theorem lk_L_243p : Cond.methodLink RL 243 YX3_checked.1 ∈ gW := gW_in (gIn6 (List.mem_of_getElem? (i := 59) (by decide +kernel))) rfl
theorem lk_L_244 : gLk RL 244 YL_nextToCheck.1 := Or.inl (gW_in (gIn4 (List.mem_of_getElem? (i := 87) (by decide +kernel))) rfl)
theorem lk_L_244p : Cond.methodLink RL 244 YL_nextToCheck.1 ∈ gW := gW_in (gIn4 (List.mem_of_getElem? (i := 87) (by decide +kernel))) rfl
theorem lk_L_246 : gLk RL 246 YX3_nextToCheck.1 := Or.inl (gW_in (gIn6 (List.mem_of_getElem? (i := 63) (by decide +kernel))) rfl)
theorem lk_L_246p : Cond.methodLink RL 246 YX3_nextToCheck.1 ∈ gW := gW_in (gIn6 (List.mem_of_getElem? (i := 63) (by decide +kernel))) rfl
theorem lk_L_247 : gLk RL 247 YX2_needed.1 := Or.inl (gW_in (gIn1 (List.mem_of_getElem? (i := 233) (by decide +kernel))) rfl)
theorem lk_L_247p : Cond.methodLink RL 247 YX2_needed.1 ∈ gW := gW_in (gIn1 (List.mem_of_getElem? (i := 233) (by decide +kernel))) rfl
theorem lk_L_250 : gLk RL 250 YX3_needed.1 := Or.inl (gW_in (gIn6 (List.mem_of_getElem? (i := 67) (by decide +kernel))) rfl)
theorem lk_L_250p : Cond.methodLink RL 250 YX3_needed.1 ∈ gW := gW_in (gIn6 (List.mem_of_getElem? (i := 67) (by decide +kernel))) rfl
theorem lk_L_251 : gLk RL 251 YL_account.1 := Or.inl (gW_in (gIn4 (List.mem_of_getElem? (i := 95) (by decide +kernel))) rfl)
theorem lk_L_251p : Cond.methodLink RL 251 YL_account.1 ∈ gW := gW_in (gIn4 (List.mem_of_getElem? (i := 95) (by decide +kernel))) rfl
theorem lk_L_253 : gLk RL 253 YX3_account.1 := Or.inl (gW_in (gIn6 (List.mem_of_getElem? (i := 71) (by decide +kernel))) rfl)
theorem lk_L_253p : Cond.methodLink RL 253 YX3_account.1 ∈ gW := gW_in (gIn6 (List.mem_of_getElem? (i := 71) (by decide +kernel))) rfl
theorem lk_L_254 : gLk RL 254 YX2_day.1 := Or.inl (gW_in (gIn2 (List.mem_of_getElem? (i := 75) (by decide +kernel))) rfl)
theorem lk_L_254p : Cond.methodLink RL 254 YX2_day.1 ∈ gW := gW_in (gIn2 (List.mem_of_getElem? (i := 75) (by decide +kernel))) rfl
theorem lk_L_257 : gLk RL 257 YX3_day.1 := Or.inl (gW_in (gIn6 (List.mem_of_getElem? (i := 75) (by decide +kernel))) rfl)
theorem lk_L_257p : Cond.methodLink RL 257 YX3_day.1 ∈ gW := gW_in (gIn6 (List.mem_of_getElem? (i := 75) (by decide +kernel))) rfl
theorem lk_L_258 : gLk RL 258 YL_health.1 := Or.inl (gW_in (gIn4 (List.mem_of_getElem? (i := 103) (by decide +kernel))) rfl)
theorem lk_L_258p : Cond.methodLink RL 258 YL_health.1 ∈ gW := gW_in (gIn4 (List.mem_of_getElem? (i := 103) (by decide +kernel))) rfl
theorem lk_L_26 : gLk RL 26 YX2_remove.1 := Or.inl (gW_in (gIn3 (List.mem_of_getElem? (i := 64) (by decide +kernel))) rfl)
theorem lk_L_26p : Cond.methodLink RL 26 YX2_remove.1 ∈ gW := gW_in (gIn3 (List.mem_of_getElem? (i := 64) (by decide +kernel))) rfl
theorem lk_L_261 : gLk RL 261 YX3_health.1 := Or.inl (gW_in (gIn6 (List.mem_of_getElem? (i := 79) (by decide +kernel))) rfl)
theorem lk_L_261p : Cond.methodLink RL 261 YX3_health.1 ∈ gW := gW_in (gIn6 (List.mem_of_getElem? (i := 79) (by decide +kernel))) rfl
theorem lk_L_262 : gLk RL 262 YL_describe.1 := Or.inl (gW_in (gIn4 (List.mem_of_getElem? (i := 127) (by decide +kernel))) rfl)
theorem lk_L_262p : Cond.methodLink RL 262 YL_describe.1 ∈ gW := gW_in (gIn4 (List.mem_of_getElem? (i := 127) (by decide +kernel))) rfl
theorem lk_L_264 : gLk RL 264 YX3_describe.1 := Or.inl (gW_in (gIn6 (List.mem_of_getElem? (i := 83) (by decide +kernel))) rfl)
theorem lk_L_264p : Cond.methodLink RL 264 YX3_describe.1 ∈ gW := gW_in (gIn6 (List.mem_of_getElem? (i := 83) (by decide +kernel))) rfl
theorem lk_L_265 : gLk RL 265 YL_undo.1 := Or.inl (gW_in (gIn4 (List.mem_of_getElem? (i := 144) (by decide +kernel))) rfl)
theorem lk_L_265p : Cond.methodLink RL 265 YL_undo.1 ∈ gW := gW_in (gIn4 (List.mem_of_getElem? (i := 144) (by decide +kernel))) rfl
theorem lk_L_267 : gLk RL 267 YX3_undo.1 := Or.inl (gW_in (gIn6 (List.mem_of_getElem? (i := 87) (by decide +kernel))) rfl)
theorem lk_L_267p : Cond.methodLink RL 267 YX3_undo.1 ∈ gW := gW_in (gIn6 (List.mem_of_getElem? (i := 87) (by decide +kernel))) rfl
theorem lk_L_268 : gLk RL 268 YX2_save.1 := Or.inl (gW_in (gIn2 (List.mem_of_getElem? (i := 79) (by decide +kernel))) rfl)
theorem lk_L_268p : Cond.methodLink RL 268 YX2_save.1 ∈ gW := gW_in (gIn2 (List.mem_of_getElem? (i := 79) (by decide +kernel))) rfl
theorem lk_L_271 : gLk RL 271 YX3_save.1 := Or.inl (gW_in (gIn6 (List.mem_of_getElem? (i := 91) (by decide +kernel))) rfl)
theorem lk_L_271p : Cond.methodLink RL 271 YX3_save.1 ∈ gW := gW_in (gIn6 (List.mem_of_getElem? (i := 91) (by decide +kernel))) rfl
theorem lk_L_272 : gLk RL 272 YL_restore.1 := Or.inl (gW_in (gIn4 (List.mem_of_getElem? (i := 152) (by decide +kernel))) rfl)
theorem lk_L_272p : Cond.methodLink RL 272 YL_restore.1 ∈ gW := gW_in (gIn4 (List.mem_of_getElem? (i := 152) (by decide +kernel))) rfl
theorem lk_L_274 : gLk RL 274 YX3_restore.1 := Or.inl (gW_in (gIn6 (List.mem_of_getElem? (i := 98) (by decide +kernel))) rfl)
theorem lk_L_274p : Cond.methodLink RL 274 YX3_restore.1 ∈ gW := gW_in (gIn6 (List.mem_of_getElem? (i := 98) (by decide +kernel))) rfl
theorem lk_L_32 : gLk RL 32 YX2_file.1 := Or.inl (gW_in (gIn3 (List.mem_of_getElem? (i := 85) (by decide +kernel))) rfl)
theorem lk_L_32p : Cond.methodLink RL 32 YX2_file.1 ∈ gW := gW_in (gIn3 (List.mem_of_getElem? (i := 85) (by decide +kernel))) rfl
theorem lk_L_36 : gLk RL 36 YX2_cellOf.1 := Or.inl (gW_in (gIn3 (List.mem_of_getElem? (i := 94) (by decide +kernel))) rfl)
theorem lk_L_36p : Cond.methodLink RL 36 YX2_cellOf.1 ∈ gW := gW_in (gIn3 (List.mem_of_getElem? (i := 94) (by decide +kernel))) rfl
theorem lk_L_40 : gLk RL 40 YX2_owner.1 := Or.inl (gW_in (gIn3 (List.mem_of_getElem? (i := 110) (by decide +kernel))) rfl)
theorem lk_L_40p : Cond.methodLink RL 40 YX2_owner.1 ∈ gW := gW_in (gIn3 (List.mem_of_getElem? (i := 110) (by decide +kernel))) rfl
theorem lk_L_43 : gLk RL 43 YX2_placeOf.1 := Or.inl (gW_in (gIn3 (List.mem_of_getElem? (i := 122) (by decide +kernel))) rfl)
theorem lk_L_43p : Cond.methodLink RL 43 YX2_placeOf.1 ∈ gW := gW_in (gIn3 (List.mem_of_getElem? (i := 122) (by decide +kernel))) rfl
theorem lk_L_46 : gLk RL 46 YX2_symbol.1 := Or.inl (gW_in (gIn3 (List.mem_of_getElem? (i := 134) (by decide +kernel))) rfl)
theorem lk_L_46p : Cond.methodLink RL 46 YX2_symbol.1 ∈ gW := gW_in (gIn3 (List.mem_of_getElem? (i := 134) (by decide +kernel))) rfl
theorem lk_L_49 : gLk RL 49 YX2_isErased.1 := Or.inl (gW_in (gIn3 (List.mem_of_getElem? (i := 141) (by decide +kernel))) rfl)
theorem lk_L_49p : Cond.methodLink RL 49 YX2_isErased.1 ∈ gW := gW_in (gIn3 (List.mem_of_getElem? (i := 141) (by decide +kernel))) rfl
theorem lk_L_53 : gLk RL 53 YX2_flip.1 := Or.inl (gW_in (gIn3 (List.mem_of_getElem? (i := 148) (by decide +kernel))) rfl)
theorem lk_L_53p : Cond.methodLink RL 53 YX2_flip.1 ∈ gW := gW_in (gIn3 (List.mem_of_getElem? (i := 148) (by decide +kernel))) rfl
theorem lk_L_56 : gLk RL 56 YX2_erase.1 := Or.inl (gW_in (gIn3 (List.mem_of_getElem? (i := 160) (by decide +kernel))) rfl)
theorem lk_L_56p : Cond.methodLink RL 56 YX2_erase.1 ∈ gW := gW_in (gIn3 (List.mem_of_getElem? (i := 160) (by decide +kernel))) rfl
theorem lk_L_59 : gLk RL 59 YX2_burst.1 := Or.inl (gW_in (gIn3 (List.mem_of_getElem? (i := 167) (by decide +kernel))) rfl)
theorem lk_L_59p : Cond.methodLink RL 59 YX2_burst.1 ∈ gW := gW_in (gIn3 (List.mem_of_getElem? (i := 167) (by decide +kernel))) rfl
theorem lk_L_62 : gLk RL 62 YX2_wrong.1 := Or.inl (gW_in (gIn3 (List.mem_of_getElem? (i := 175) (by decide +kernel))) rfl)
theorem lk_L_62p : Cond.methodLink RL 62 YX2_wrong.1 ∈ gW := gW_in (gIn3 (List.mem_of_getElem? (i := 175) (by decide +kernel))) rfl
theorem lk_L_65 : gLk RL 65 YX2_erased.1 := Or.inl (gW_in (gIn3 (List.mem_of_getElem? (i := 184) (by decide +kernel))) rfl)
theorem lk_L_65p : Cond.methodLink RL 65 YX2_erased.1 ∈ gW := gW_in (gIn3 (List.mem_of_getElem? (i := 184) (by decide +kernel))) rfl
theorem lk_L_68 : gLk RL 68 YX2_sum.1 := Or.inl (gW_in (gIn3 (List.mem_of_getElem? (i := 191) (by decide +kernel))) rfl)
theorem lk_L_68p : Cond.methodLink RL 68 YX2_sum.1 ∈ gW := gW_in (gIn3 (List.mem_of_getElem? (i := 191) (by decide +kernel))) rfl
theorem lk_L_7 : gLk RL 7 YX2_append.1 := Or.inl (gW_in (gIn2 (List.mem_of_getElem? (i := 93) (by decide +kernel))) rfl)
theorem lk_L_7p : Cond.methodLink RL 7 YX2_append.1 ∈ gW := gW_in (gIn2 (List.mem_of_getElem? (i := 93) (by decide +kernel))) rfl
theorem lk_L_71 : gLk RL 71 YX2_decoded.1 := Or.inl (gW_in (gIn3 (List.mem_of_getElem? (i := 201) (by decide +kernel))) rfl)
theorem lk_L_71p : Cond.methodLink RL 71 YX2_decoded.1 ∈ gW := gW_in (gIn3 (List.mem_of_getElem? (i := 201) (by decide +kernel))) rfl
theorem lk_L_74 : gLk RL 74 YX2_found.1 := Or.inl (gW_in (gIn3 (List.mem_of_getElem? (i := 211) (by decide +kernel))) rfl)
theorem lk_L_74p : Cond.methodLink RL 74 YX2_found.1 ∈ gW := gW_in (gIn3 (List.mem_of_getElem? (i := 211) (by decide +kernel))) rfl
theorem lk_L_77 : gLk RL 77 YX2_read.1 := Or.inl (gW_in (gIn3 (List.mem_of_getElem? (i := 218) (by decide +kernel))) rfl)
theorem lk_L_77p : Cond.methodLink RL 77 YX2_read.1 ∈ gW := gW_in (gIn3 (List.mem_of_getElem? (i := 218) (by decide +kernel))) rfl
theorem lk_L_80 : gLk RL 80 YX2_condition.1 := Or.inl (gW_in (gIn3 (List.mem_of_getElem? (i := 226) (by decide +kernel))) rfl)
theorem lk_L_80p : Cond.methodLink RL 80 YX2_condition.1 ∈ gW := gW_in (gIn3 (List.mem_of_getElem? (i := 226) (by decide +kernel))) rfl
theorem lk_L_83 : gLk RL 83 YX2_undecodable.1 := Or.inl (gW_in (gIn3 (List.mem_of_getElem? (i := 233) (by decide +kernel))) rfl)
theorem lk_L_83p : Cond.methodLink RL 83 YX2_undecodable.1 ∈ gW := gW_in (gIn3 (List.mem_of_getElem? (i := 233) (by decide +kernel))) rfl
theorem lk_L_86 : gLk RL 86 YX2_margin.1 := Or.inl (gW_in (gIn4 (List.mem_of_getElem? (i := 4) (by decide +kernel))) rfl)
theorem lk_L_86p : Cond.methodLink RL 86 YX2_margin.1 ∈ gW := gW_in (gIn4 (List.mem_of_getElem? (i := 4) (by decide +kernel))) rfl
theorem lk_L_89 : gLk RL 89 YX2_burstLimit.1 := Or.inl (gW_in (gIn4 (List.mem_of_getElem? (i := 11) (by decide +kernel))) rfl)
theorem lk_L_89p : Cond.methodLink RL 89 YX2_burstLimit.1 ∈ gW := gW_in (gIn4 (List.mem_of_getElem? (i := 11) (by decide +kernel))) rfl
theorem lk_L_92 : gLk RL 92 YX2_advance.1 := Or.inl (gW_in (gIn4 (List.mem_of_getElem? (i := 22) (by decide +kernel))) rfl)
theorem lk_L_92p : Cond.methodLink RL 92 YX2_advance.1 ∈ gW := gW_in (gIn4 (List.mem_of_getElem? (i := 22) (by decide +kernel))) rfl
theorem lk_L_95 : gLk RL 95 YX2_scrub.1 := Or.inl (gW_in (gIn4 (List.mem_of_getElem? (i := 31) (by decide +kernel))) rfl)
theorem lk_L_95p : Cond.methodLink RL 95 YX2_scrub.1 ∈ gW := gW_in (gIn4 (List.mem_of_getElem? (i := 31) (by decide +kernel))) rfl
theorem lk_L_98 : gLk RL 98 YX2_report.1 := Or.inl (gW_in (gIn4 (List.mem_of_getElem? (i := 51) (by decide +kernel))) rfl)
theorem lk_L_98p : Cond.methodLink RL 98 YX2_report.1 ∈ gW := gW_in (gIn4 (List.mem_of_getElem? (i := 51) (by decide +kernel))) rfl
theorem lk_X3_104 : gLk RX3 104 YX3_here.1 := Or.inl (gW_in (gIn5 (List.mem_of_getElem? (i := 58) (by decide +kernel))) rfl)
theorem lk_X3_111 : gLk RX3 111 YX3_ownerOf.1 := Or.inl (gW_in (gIn5 (List.mem_of_getElem? (i := 77) (by decide +kernel))) rfl)
theorem lk_X3_114 : gLk RX3 114 YX3_digit.1 := Or.inl (gW_in (gIn5 (List.mem_of_getElem? (i := 54) (by decide +kernel))) rfl)
theorem lk_X3_117 : gLk RX3 117 YX3_takes.1 := Or.inl (gW_in (gIn5 (List.mem_of_getElem? (i := 62) (by decide +kernel))) rfl)
theorem lk_X3_121 : gLk RX3 121 YX3_symbolOf.1 := Or.inl (gW_in (gIn5 (List.mem_of_getElem? (i := 66) (by decide +kernel))) rfl)
theorem lk_X3_124 : gLk RX3 124 YX3_no.1 := Or.inl (gW_in (gIn5 (List.mem_of_getElem? (i := 69) (by decide +kernel))) rfl)
theorem lk_X3_127 : gLk RX3 127 YX3_area.1 := Or.inl (gW_in (gIn5 (List.mem_of_getElem? (i := 73) (by decide +kernel))) rfl)
theorem lk_X3_130 : gLk RX3 130 YX3_keeps.1 := Or.inl (gW_in (gIn5 (List.mem_of_getElem? (i := 93) (by decide +kernel))) rfl)
theorem lk_X3_141 : gLk RX3 141 YX3_isDecoded.1 := Or.inl (gW_in (gIn5 (List.mem_of_getElem? (i := 97) (by decide +kernel))) rfl)
theorem lk_X3_145 : gLk RX3 145 YX3_cell.1 := Or.inl (gW_in (gIn5 (List.mem_of_getElem? (i := 123) (by decide +kernel))) rfl)
theorem lk_X3_149 : gLk RX3 149 YX3_writes.1 := Or.inl (gW_in (gIn5 (List.mem_of_getElem? (i := 127) (by decide +kernel))) rfl)
theorem lk_X3_153 : gLk RX3 153 YX3_isBlock.1 := Or.inl (gW_in (gIn5 (List.mem_of_getElem? (i := 155) (by decide +kernel))) rfl)
theorem lk_X3_157 : gLk RX3 157 YX3_isPlace.1 := Or.inl (gW_in (gIn5 (List.mem_of_getElem? (i := 151) (by decide +kernel))) rfl)
theorem lk_X3_160 : gLk RX3 160 YX3_isCell.1 := Or.inl (gW_in (gIn5 (List.mem_of_getElem? (i := 163) (by decide +kernel))) rfl)
theorem lk_X3_163 : gLk RX3 163 YX3_isFileOrAll.1 := Or.inl (gW_in (gIn5 (List.mem_of_getElem? (i := 199) (by decide +kernel))) rfl)
theorem lk_X3_166 : gLk RX3 166 YX3_isWrong.1 := Or.inl (gW_in (gIn5 (List.mem_of_getElem? (i := 203) (by decide +kernel))) rfl)
theorem lk_X3_169 : gLk RX3 169 YX3_power.1 := Or.inl (gW_in (gIn5 (List.mem_of_getElem? (i := 108) (by decide +kernel))) rfl)
theorem lk_X3_172 : gLk RX3 172 YX3_times.1 := Or.inl (gW_in (gIn5 (List.mem_of_getElem? (i := 112) (by decide +kernel))) rfl)
theorem lk_X3_175 : gLk RX3 175 YX3_bits.1 := Or.inl (gW_in (gIn5 (List.mem_of_getElem? (i := 101) (by decide +kernel))) rfl)
theorem lk_X3_181 : gLk RX3 181 YX3_sumOf.1 := Or.inl (gW_in (gIn5 (List.mem_of_getElem? (i := 104) (by decide +kernel))) rfl)
theorem lk_X3_190 : gLk RX3 190 YX3_isSolved.1 := Or.inl (gW_in (gIn5 (List.mem_of_getElem? (i := 116) (by decide +kernel))) rfl)
theorem lk_X3_193 : gLk RX3 193 YX3_behind.1 := Or.inl (gW_in (gIn5 (List.mem_of_getElem? (i := 120) (by decide +kernel))) rfl)
theorem lk_X3_196 : gLk RX3 196 YX3_looks.1 := Or.inl (gW_in (gIn5 (List.mem_of_getElem? (i := 215) (by decide +kernel))) rfl)
theorem lk_X3_199 : gLk RX3 199 YX3_isThere.1 := Or.inl (gW_in (gIn5 (List.mem_of_getElem? (i := 223) (by decide +kernel))) rfl)
theorem lk_X3_202 : gLk RX3 202 YX3_isDecoded_.1 := Or.inl (gW_in (gIn5 (List.mem_of_getElem? (i := 227) (by decide +kernel))) rfl)
theorem lk_X3_207 : gLk RX3 207 YX3_isClean.1 := Or.inl (gW_in (gIn6 (List.mem_of_getElem? (i := 7) (by decide +kernel))) rfl)
theorem lk_X3_210 : gLk RX3 210 YX3_isWhole.1 := Or.inl (gW_in (gIn6 (List.mem_of_getElem? (i := 3) (by decide +kernel))) rfl)
theorem lk_X3_213 : gLk RX3 213 YX3_isStood.1 := Or.inl (gW_in (gIn6 (List.mem_of_getElem? (i := 23) (by decide +kernel))) rfl)
theorem lk_X3_219 : gLk RX3 219 YX3_next.1 := Or.inl (gW_in (gIn6 (List.mem_of_getElem? (i := 35) (by decide +kernel))) rfl)
theorem lk_X3_222 : gLk RX3 222 YX3_tells.1 := Or.inl (gW_in (gIn6 (List.mem_of_getElem? (i := 39) (by decide +kernel))) rfl)
theorem lk_X3_226 : gLk RX3 226 YX3_mends.1 := Or.inl (gW_in (gIn6 (List.mem_of_getElem? (i := 43) (by decide +kernel))) rfl)
theorem lk_X3_229 : gLk RX3 229 YX3_copies.1 := Or.inl (gW_in (gIn6 (List.mem_of_getElem? (i := 95) (by decide +kernel))) rfl)
theorem lk_X3_63 : gLk RX3 63 YX3_multiplied.1 := Or.inl (gW_in (gIn4 (List.mem_of_getElem? (i := 166) (by decide +kernel))) rfl)
theorem lk_X3_73 : gLk RX3 73 YX3_isIn.1 := Or.inl (gW_in (gIn5 (List.mem_of_getElem? (i := 39) (by decide +kernel))) rfl)
theorem lk_X3_77 : gLk RX3 77 YX3_of.1 := Or.inl (gW_in (gIn5 (List.mem_of_getElem? (i := 42) (by decide +kernel))) rfl)
theorem lk_X3_80 : gLk RX3 80 YX3_blocks.1 := Or.inl (gW_in (gIn5 (List.mem_of_getElem? (i := 85) (by decide +kernel))) rfl)
theorem lk_X3_84 : gLk RX3 84 YX3_size.1 := Or.inl (gW_in (gIn5 (List.mem_of_getElem? (i := 89) (by decide +kernel))) rfl)
theorem lk_X3_87 : gLk RX3 87 YX3_isFile.1 := Or.inl (gW_in (gIn5 (List.mem_of_getElem? (i := 35) (by decide +kernel))) rfl)
theorem lk_X3_91 : gLk RX3 91 YX3_cells.1 := Or.inl (gW_in (gIn5 (List.mem_of_getElem? (i := 81) (by decide +kernel))) rfl)
theorem lk_X3_94 : gLk RX3 94 YX3_many.1 := Or.inl (gW_in (gIn5 (List.mem_of_getElem? (i := 31) (by decide +kernel))) rfl)
theorem lk_X0_116 : gLk RX0 116 YX2_quotient.1 := Or.inr ⟨"InterleavedArchive", gW_in (gIn2 (List.mem_of_getElem? (i := 68) (by decide +kernel))) rfl⟩
theorem lk_X0_60 : gLk RX0 60 YX1_cellAt.1 := Or.inr ⟨"InterleavedArchive", gW_in (gIn2 (List.mem_of_getElem? (i := 17) (by decide +kernel))) rfl⟩
theorem lk_X0_96 : gLk RX0 96 YX2_product.1 := Or.inr ⟨"InterleavedArchive", gW_in (gIn2 (List.mem_of_getElem? (i := 32) (by decide +kernel))) rfl⟩
theorem lk_X1_71 : gLk RX1 71 YX2_blocksFor.1 := Or.inr ⟨"InterleavedArchive", gW_in (gIn2 (List.mem_of_getElem? (i := 222) (by decide +kernel))) rfl⟩
theorem lk_X2_104 : gLk RX2 104 YX1_enter.1 := Or.inr ⟨"InterleavedArchive", gW_in (gIn2 (List.mem_of_getElem? (i := 218) (by decide +kernel))) rfl⟩
theorem lk_X2_11 : gLk RX2 11 YX1_init.1 := Or.inr ⟨"InterleavedArchive", gW_in (gIn1 (List.mem_of_getElem? (i := 29) (by decide +kernel))) rfl⟩
theorem lk_X2_117 : gLk RX2 117 YX1_hasFile.1 := Or.inr ⟨"InterleavedArchive", gW_in (gIn1 (List.mem_of_getElem? (i := 197) (by decide +kernel))) rfl⟩
theorem lk_X2_126 : gLk RX2 126 YX1_drop.1 := Or.inr ⟨"InterleavedArchive", gW_in (gIn3 (List.mem_of_getElem? (i := 81) (by decide +kernel))) rfl⟩
theorem lk_X2_147 : gLk RX2 147 YX1_areaSize.1 := Or.inr ⟨"InterleavedArchive", gW_in (gIn3 (List.mem_of_getElem? (i := 89) (by decide +kernel))) rfl⟩
theorem lk_X2_152 : gLk RX2 152 YX1_hasPosition.1 := Or.inr ⟨"InterleavedArchive", gW_in (gIn3 (List.mem_of_getElem? (i := 98) (by decide +kernel))) rfl⟩
theorem lk_X2_158 : gLk RX2 158 YX1_cellAt.1 := Or.inr ⟨"InterleavedArchive", gW_in (gIn3 (List.mem_of_getElem? (i := 7) (by decide +kernel))) rfl⟩
theorem lk_X2_167 : gLk RX2 167 YX1_fileAt.1 := Or.inr ⟨"InterleavedArchive", gW_in (gIn3 (List.mem_of_getElem? (i := 118) (by decide +kernel))) rfl⟩
theorem lk_X2_172 : gLk RX2 172 YX1_placeInFile.1 := Or.inr ⟨"InterleavedArchive", gW_in (gIn3 (List.mem_of_getElem? (i := 127) (by decide +kernel))) rfl⟩
theorem lk_X2_176 : gLk RX2 176 YX1_greatestFreeArea.1 := Or.inr ⟨"InterleavedArchive", gW_in (gIn1 (List.mem_of_getElem? (i := 202) (by decide +kernel))) rfl⟩
theorem lk_X2_187 : gLk RX2 187 YX1_damage.1 := Or.inr ⟨"InterleavedArchive", gW_in (gIn3 (List.mem_of_getElem? (i := 153) (by decide +kernel))) rfl⟩
theorem lk_X2_193 : gLk RX2 193 YX1_areaStart.1 := Or.inr ⟨"InterleavedArchive", gW_in (gIn3 (List.mem_of_getElem? (i := 179) (by decide +kernel))) rfl⟩
theorem lk_X2_196 : gLk RX2 196 YX1_areaEnd.1 := Or.inr ⟨"InterleavedArchive", gW_in (gIn3 (List.mem_of_getElem? (i := 180) (by decide +kernel))) rfl⟩
theorem lk_X2_202 : gLk RX2 202 YX1_hasBlock.1 := Or.inr ⟨"InterleavedArchive", gW_in (gIn3 (List.mem_of_getElem? (i := 195) (by decide +kernel))) rfl⟩
theorem lk_X2_208 : gLk RX2 208 YX0_load.1 := Or.inr ⟨"InterleavedArchive", gW_in (gIn3 (List.mem_of_getElem? (i := 197) (by decide +kernel))) rfl⟩
theorem lk_X2_219 : gLk RX2 219 YX0_decode.1 := Or.inr ⟨"InterleavedArchive", gW_in (gIn2 (List.mem_of_getElem? (i := 1) (by decide +kernel))) rfl⟩
theorem lk_X2_241 : gLk RX2 241 YX0_damageCount.1 := Or.inr ⟨"InterleavedArchive", gW_in (gIn2 (List.mem_of_getElem? (i := 71) (by decide +kernel))) rfl⟩
theorem lk_X2_25 : gLk RX2 25 YX0_init.1 := Or.inr ⟨"InterleavedArchive", gW_in (gIn1 (List.mem_of_getElem? (i := 89) (by decide +kernel))) rfl⟩
theorem lk_X2_262 : gLk RX2 262 YX1_blockToCheck.1 := Or.inr ⟨"InterleavedArchive", gW_in (gIn4 (List.mem_of_getElem? (i := 36) (by decide +kernel))) rfl⟩
theorem lk_X2_287 : gLk RX2 287 YX1_isDue.1 := Or.inr ⟨"InterleavedArchive", gW_in (gIn1 (List.mem_of_getElem? (i := 237) (by decide +kernel))) rfl⟩
theorem lk_X2_309 : gLk RX2 309 YX1_takeOver.1 := Or.inr ⟨"InterleavedArchive", gW_in (gIn2 (List.mem_of_getElem? (i := 83) (by decide +kernel))) rfl⟩
theorem lk_X2_323 : gLk RX2 323 YX1_blockSize.1 := Or.inr ⟨"InterleavedArchive", gW_in (gIn2 (List.mem_of_getElem? (i := 227) (by decide +kernel))) rfl⟩
theorem lk_X2_326 : gLk RX2 326 YX0_clearBlock.1 := Or.inr ⟨"InterleavedArchive", gW_in (gIn2 (List.mem_of_getElem? (i := 228) (by decide +kernel))) rfl⟩
theorem lk_X2_340 : gLk RX2 340 YX0_encode.1 := Or.inr ⟨"InterleavedArchive", gW_in (gIn2 (List.mem_of_getElem? (i := 235) (by decide +kernel))) rfl⟩
theorem lk_X2_343 : gLk RX2 343 YX1_write.1 := Or.inr ⟨"InterleavedArchive", gW_in (gIn3 (List.mem_of_getElem? (i := 8) (by decide +kernel))) rfl⟩
theorem lk_X2_61 : gLk RX2 61 YX1_fileCount.1 := Or.inr ⟨"InterleavedArchive", gW_in (gIn1 (List.mem_of_getElem? (i := 173) (by decide +kernel))) rfl⟩
theorem lk_X2_65 : gLk RX2 65 YX1_reset.1 := Or.inr ⟨"InterleavedArchive", gW_in (gIn1 (List.mem_of_getElem? (i := 181) (by decide +kernel))) rfl⟩
theorem lk_X2_89 : gLk RX2 89 YX1_freeFile.1 := Or.inr ⟨"InterleavedArchive", gW_in (gIn2 (List.mem_of_getElem? (i := 202) (by decide +kernel))) rfl⟩
theorem lk_X2_96 : gLk RX2 96 YX1_freeArea.1 := Or.inr ⟨"InterleavedArchive", gW_in (gIn2 (List.mem_of_getElem? (i := 209) (by decide +kernel))) rfl⟩
theorem fl_X0_15 : gFl RX0 15 0 1 := ⟨by decide +kernel, Or.inl (gW_in (gIn1 (List.mem_of_getElem? (i := 97) (by decide +kernel))) rfl)⟩
theorem fl_X0_18 : gFl RX0 18 0 2 := ⟨by decide +kernel, Or.inl (gW_in (gIn1 (List.mem_of_getElem? (i := 99) (by decide +kernel))) rfl)⟩
theorem fl_X0_21 : gFl RX0 21 0 3 := ⟨by decide +kernel, Or.inl (gW_in (gIn1 (List.mem_of_getElem? (i := 101) (by decide +kernel))) rfl)⟩
theorem fl_X0_26 : gFl RX0 26 0 4 := ⟨by decide +kernel, Or.inl (gW_in (gIn1 (List.mem_of_getElem? (i := 102) (by decide +kernel))) rfl)⟩
theorem fl_X0_29 : gFl RX0 29 0 5 := ⟨by decide +kernel, Or.inl (gW_in (gIn1 (List.mem_of_getElem? (i := 103) (by decide +kernel))) rfl)⟩
theorem fl_X0_33 : gFl RX0 33 0 6 := ⟨by decide +kernel, Or.inl (gW_in (gIn1 (List.mem_of_getElem? (i := 104) (by decide +kernel))) rfl)⟩
theorem fl_X0_36 : gFl RX0 36 0 7 := ⟨by decide +kernel, Or.inl (gW_in (gIn1 (List.mem_of_getElem? (i := 106) (by decide +kernel))) rfl)⟩
theorem fl_X0_39 : gFl RX0 39 0 8 := ⟨by decide +kernel, Or.inl (gW_in (gIn1 (List.mem_of_getElem? (i := 108) (by decide +kernel))) rfl)⟩
theorem fl_X0_9 : gFl RX0 9 0 0 := ⟨by decide +kernel, Or.inl (gW_in (gIn1 (List.mem_of_getElem? (i := 95) (by decide +kernel))) rfl)⟩
theorem fl_X1_15 : gFl RX1 15 1 1 := ⟨by decide +kernel, Or.inl (gW_in (gIn1 (List.mem_of_getElem? (i := 36) (by decide +kernel))) rfl)⟩
theorem fl_X1_18 : gFl RX1 18 1 2 := ⟨by decide +kernel, Or.inl (gW_in (gIn1 (List.mem_of_getElem? (i := 38) (by decide +kernel))) rfl)⟩
theorem fl_X1_21 : gFl RX1 21 1 3 := ⟨by decide +kernel, Or.inl (gW_in (gIn1 (List.mem_of_getElem? (i := 41) (by decide +kernel))) rfl)⟩
theorem fl_X1_24 : gFl RX1 24 1 4 := ⟨by decide +kernel, Or.inl (gW_in (gIn1 (List.mem_of_getElem? (i := 43) (by decide +kernel))) rfl)⟩
theorem fl_X1_27 : gFl RX1 27 1 5 := ⟨by decide +kernel, Or.inl (gW_in (gIn1 (List.mem_of_getElem? (i := 45) (by decide +kernel))) rfl)⟩
theorem fl_X1_30 : gFl RX1 30 1 6 := ⟨by decide +kernel, Or.inl (gW_in (gIn1 (List.mem_of_getElem? (i := 47) (by decide +kernel))) rfl)⟩
theorem fl_X1_33 : gFl RX1 33 1 7 := ⟨by decide +kernel, Or.inl (gW_in (gIn1 (List.mem_of_getElem? (i := 50) (by decide +kernel))) rfl)⟩
theorem fl_X1_36 : gFl RX1 36 1 8 := ⟨by decide +kernel, Or.inl (gW_in (gIn1 (List.mem_of_getElem? (i := 52) (by decide +kernel))) rfl)⟩
theorem fl_X1_39 : gFl RX1 39 1 9 := ⟨by decide +kernel, Or.inl (gW_in (gIn1 (List.mem_of_getElem? (i := 54) (by decide +kernel))) rfl)⟩
theorem fl_X1_42 : gFl RX1 42 1 10 := ⟨by decide +kernel, Or.inl (gW_in (gIn1 (List.mem_of_getElem? (i := 56) (by decide +kernel))) rfl)⟩
theorem fl_X1_45 : gFl RX1 45 1 11 := ⟨by decide +kernel, Or.inl (gW_in (gIn1 (List.mem_of_getElem? (i := 58) (by decide +kernel))) rfl)⟩
theorem fl_X1_9 : gFl RX1 9 1 0 := ⟨by decide +kernel, Or.inl (gW_in (gIn1 (List.mem_of_getElem? (i := 33) (by decide +kernel))) rfl)⟩
theorem fl_X2_12 : gFl RX2 12 2 0 := ⟨by decide +kernel, Or.inl (gW_in (gIn1 (List.mem_of_getElem? (i := 128) (by decide +kernel))) rfl)⟩
theorem fl_X2_16 : gFl RX2 16 2 1 := ⟨by decide +kernel, Or.inl (gW_in (gIn1 (List.mem_of_getElem? (i := 129) (by decide +kernel))) rfl)⟩
theorem fl_X2_19 : gFl RX2 19 2 2 := ⟨by decide +kernel, Or.inl (gW_in (gIn1 (List.mem_of_getElem? (i := 130) (by decide +kernel))) rfl)⟩
theorem fl_X2_26 : gFl RX2 26 2 3 := ⟨by decide +kernel, Or.inl (gW_in (gIn1 (List.mem_of_getElem? (i := 131) (by decide +kernel))) rfl)⟩
theorem fl_X2_30 : gFl RX2 30 2 4 := ⟨by decide +kernel, Or.inl (gW_in (gIn1 (List.mem_of_getElem? (i := 132) (by decide +kernel))) rfl)⟩
theorem fl_X2_34 : gFl RX2 34 2 5 := ⟨by decide +kernel, Or.inl (gW_in (gIn1 (List.mem_of_getElem? (i := 133) (by decide +kernel))) rfl)⟩
theorem fs_X2_353 : Cond.fieldLink RX2 353 RX2 "POWERS" "[I" ∈ gW := gW_in (gIn2 (List.mem_of_getElem? (i := 35) (by decide +kernel))) rfl
theorem fs_X2_356 : Cond.fieldLink RX2 356 RX2 "LOGARITHMS" "[I" ∈ gW := gW_in (gIn2 (List.mem_of_getElem? (i := 36) (by decide +kernel))) rfl
theorem fl_X2_38 : gFl RX2 38 2 6 := ⟨by decide +kernel, Or.inl (gW_in (gIn1 (List.mem_of_getElem? (i := 134) (by decide +kernel))) rfl)⟩
theorem fl_X2_41 : gFl RX2 41 2 7 := ⟨by decide +kernel, Or.inl (gW_in (gIn1 (List.mem_of_getElem? (i := 135) (by decide +kernel))) rfl)⟩
theorem fl_X2_45 : gFl RX2 45 2 8 := ⟨by decide +kernel, Or.inl (gW_in (gIn1 (List.mem_of_getElem? (i := 136) (by decide +kernel))) rfl)⟩
theorem fl_X2_48 : gFl RX2 48 2 9 := ⟨by decide +kernel, Or.inl (gW_in (gIn1 (List.mem_of_getElem? (i := 137) (by decide +kernel))) rfl)⟩
theorem fl_X2_51 : gFl RX2 51 2 10 := ⟨by decide +kernel, Or.inl (gW_in (gIn1 (List.mem_of_getElem? (i := 138) (by decide +kernel))) rfl)⟩
theorem fl_X2_55 : gFl RX2 55 2 11 := ⟨by decide +kernel, Or.inl (gW_in (gIn1 (List.mem_of_getElem? (i := 139) (by decide +kernel))) rfl)⟩
theorem fl_X2_58 : gFl RX2 58 2 12 := ⟨by decide +kernel, Or.inl (gW_in (gIn1 (List.mem_of_getElem? (i := 140) (by decide +kernel))) rfl)⟩
theorem fl_X3_101 : gFl RX3 101 3 14 := ⟨by decide +kernel, Or.inl (gW_in (gIn4 (List.mem_of_getElem? (i := 183) (by decide +kernel))) rfl)⟩
theorem fl_X3_107 : gFl RX3 107 3 15 := ⟨by decide +kernel, Or.inl (gW_in (gIn4 (List.mem_of_getElem? (i := 184) (by decide +kernel))) rfl)⟩
theorem fl_X3_13 : gFl RX3 13 3 2 := ⟨by decide +kernel, Or.inl (gW_in (gIn4 (List.mem_of_getElem? (i := 171) (by decide +kernel))) rfl)⟩
theorem fl_X3_133 : gFl RX3 133 3 23 := ⟨by decide +kernel, Or.inl (gW_in (gIn4 (List.mem_of_getElem? (i := 192) (by decide +kernel))) rfl)⟩
theorem fl_X3_135 : gFl RX3 135 3 24 := ⟨by decide +kernel, Or.inl (gW_in (gIn4 (List.mem_of_getElem? (i := 193) (by decide +kernel))) rfl)⟩
theorem fl_X3_138 : gFl RX3 138 3 25 := ⟨by decide +kernel, Or.inl (gW_in (gIn4 (List.mem_of_getElem? (i := 194) (by decide +kernel))) rfl)⟩
theorem fl_X3_16 : gFl RX3 16 3 3 := ⟨by decide +kernel, Or.inl (gW_in (gIn4 (List.mem_of_getElem? (i := 172) (by decide +kernel))) rfl)⟩
theorem fl_X3_178 : gFl RX3 178 3 28 := ⟨by decide +kernel, Or.inl (gW_in (gIn4 (List.mem_of_getElem? (i := 197) (by decide +kernel))) rfl)⟩
theorem fl_X3_184 : gFl RX3 184 3 27 := ⟨by decide +kernel, Or.inl (gW_in (gIn4 (List.mem_of_getElem? (i := 196) (by decide +kernel))) rfl)⟩
theorem fl_X3_187 : gFl RX3 187 3 26 := ⟨by decide +kernel, Or.inl (gW_in (gIn4 (List.mem_of_getElem? (i := 195) (by decide +kernel))) rfl)⟩
theorem fl_X3_19 : gFl RX3 19 3 5 := ⟨by decide +kernel, Or.inl (gW_in (gIn4 (List.mem_of_getElem? (i := 174) (by decide +kernel))) rfl)⟩
theorem fl_X3_204 : gFl RX3 204 3 30 := ⟨by decide +kernel, Or.inl (gW_in (gIn4 (List.mem_of_getElem? (i := 199) (by decide +kernel))) rfl)⟩
theorem fl_X3_216 : gFl RX3 216 3 10 := ⟨by decide +kernel, Or.inl (gW_in (gIn4 (List.mem_of_getElem? (i := 179) (by decide +kernel))) rfl)⟩
theorem fl_X3_23 : gFl RX3 23 3 7 := ⟨by decide +kernel, Or.inl (gW_in (gIn4 (List.mem_of_getElem? (i := 176) (by decide +kernel))) rfl)⟩
theorem fl_X3_233 : gFl RX3 233 3 6 := ⟨by decide +kernel, Or.inl (gW_in (gIn4 (List.mem_of_getElem? (i := 175) (by decide +kernel))) rfl)⟩
theorem fl_X3_27 : gFl RX3 27 3 9 := ⟨by decide +kernel, Or.inl (gW_in (gIn4 (List.mem_of_getElem? (i := 178) (by decide +kernel))) rfl)⟩
theorem fl_X3_30 : gFl RX3 30 3 11 := ⟨by decide +kernel, Or.inl (gW_in (gIn4 (List.mem_of_getElem? (i := 180) (by decide +kernel))) rfl)⟩
theorem fl_X3_33 : gFl RX3 33 3 12 := ⟨by decide +kernel, Or.inl (gW_in (gIn4 (List.mem_of_getElem? (i := 181) (by decide +kernel))) rfl)⟩
theorem fl_X3_36 : gFl RX3 36 3 13 := ⟨by decide +kernel, Or.inl (gW_in (gIn4 (List.mem_of_getElem? (i := 182) (by decide +kernel))) rfl)⟩
theorem fl_X3_39 : gFl RX3 39 3 16 := ⟨by decide +kernel, Or.inl (gW_in (gIn4 (List.mem_of_getElem? (i := 185) (by decide +kernel))) rfl)⟩
theorem fl_X3_42 : gFl RX3 42 3 17 := ⟨by decide +kernel, Or.inl (gW_in (gIn4 (List.mem_of_getElem? (i := 186) (by decide +kernel))) rfl)⟩
theorem fl_X3_45 : gFl RX3 45 3 18 := ⟨by decide +kernel, Or.inl (gW_in (gIn4 (List.mem_of_getElem? (i := 187) (by decide +kernel))) rfl)⟩
theorem fl_X3_48 : gFl RX3 48 3 19 := ⟨by decide +kernel, Or.inl (gW_in (gIn4 (List.mem_of_getElem? (i := 188) (by decide +kernel))) rfl)⟩
theorem fl_X3_51 : gFl RX3 51 3 20 := ⟨by decide +kernel, Or.inl (gW_in (gIn4 (List.mem_of_getElem? (i := 189) (by decide +kernel))) rfl)⟩
theorem fl_X3_54 : gFl RX3 54 3 21 := ⟨by decide +kernel, Or.inl (gW_in (gIn4 (List.mem_of_getElem? (i := 190) (by decide +kernel))) rfl)⟩
theorem fl_X3_57 : gFl RX3 57 3 22 := ⟨by decide +kernel, Or.inl (gW_in (gIn4 (List.mem_of_getElem? (i := 191) (by decide +kernel))) rfl)⟩
theorem fl_X3_60 : gFl RX3 60 3 29 := ⟨by decide +kernel, Or.inl (gW_in (gIn4 (List.mem_of_getElem? (i := 198) (by decide +kernel))) rfl)⟩
theorem fl_X3_67 : gFl RX3 67 3 0 := ⟨by decide +kernel, Or.inl (gW_in (gIn4 (List.mem_of_getElem? (i := 169) (by decide +kernel))) rfl)⟩
theorem fl_X3_70 : gFl RX3 70 3 4 := ⟨by decide +kernel, Or.inl (gW_in (gIn4 (List.mem_of_getElem? (i := 173) (by decide +kernel))) rfl)⟩
theorem fl_X3_9 : gFl RX3 9 3 1 := ⟨by decide +kernel, Or.inl (gW_in (gIn4 (List.mem_of_getElem? (i := 170) (by decide +kernel))) rfl)⟩
theorem fl_X3_98 : gFl RX3 98 3 8 := ⟨by decide +kernel, Or.inl (gW_in (gIn4 (List.mem_of_getElem? (i := 177) (by decide +kernel))) rfl)⟩
theorem fl_X0_52 : gFl RX0 52 1 6 := ⟨by decide +kernel, Or.inr ⟨"InterleavedArchive", gW_in (gIn1 (List.mem_of_getElem? (i := 48) (by decide +kernel))) rfl⟩⟩
theorem fl_X0_64 : gFl RX0 64 1 0 := ⟨by decide +kernel, Or.inr ⟨"InterleavedArchive", gW_in (gIn1 (List.mem_of_getElem? (i := 34) (by decide +kernel))) rfl⟩⟩
theorem fl_X0_67 : gFl RX0 67 1 2 := ⟨by decide +kernel, Or.inr ⟨"InterleavedArchive", gW_in (gIn1 (List.mem_of_getElem? (i := 39) (by decide +kernel))) rfl⟩⟩
theorem fs_X0_93 : Cond.fieldLinkNest RX0 93 RX2 "POWERS" "[I" "InterleavedArchive" ∈ gW := gW_in (gIn2 (List.mem_of_getElem? (i := 30) (by decide +kernel))) rfl
theorem fl_X2_129 : gFl RX2 129 1 4 := ⟨by decide +kernel, Or.inr ⟨"InterleavedArchive", gW_in (gIn1 (List.mem_of_getElem? (i := 44) (by decide +kernel))) rfl⟩⟩
theorem fl_X2_132 : gFl RX2 132 1 6 := ⟨by decide +kernel, Or.inr ⟨"InterleavedArchive", gW_in (gIn1 (List.mem_of_getElem? (i := 49) (by decide +kernel))) rfl⟩⟩
theorem fl_X2_135 : gFl RX2 135 1 7 := ⟨by decide +kernel, Or.inr ⟨"InterleavedArchive", gW_in (gIn1 (List.mem_of_getElem? (i := 51) (by decide +kernel))) rfl⟩⟩
theorem fl_X2_138 : gFl RX2 138 1 8 := ⟨by decide +kernel, Or.inr ⟨"InterleavedArchive", gW_in (gIn1 (List.mem_of_getElem? (i := 53) (by decide +kernel))) rfl⟩⟩
theorem fl_X2_141 : gFl RX2 141 1 5 := ⟨by decide +kernel, Or.inr ⟨"InterleavedArchive", gW_in (gIn1 (List.mem_of_getElem? (i := 46) (by decide +kernel))) rfl⟩⟩
theorem fl_X2_144 : gFl RX2 144 1 9 := ⟨by decide +kernel, Or.inr ⟨"InterleavedArchive", gW_in (gIn1 (List.mem_of_getElem? (i := 55) (by decide +kernel))) rfl⟩⟩
theorem fl_X2_179 : gFl RX2 179 1 0 := ⟨by decide +kernel, Or.inr ⟨"InterleavedArchive", gW_in (gIn1 (List.mem_of_getElem? (i := 35) (by decide +kernel))) rfl⟩⟩
theorem fl_X2_182 : gFl RX2 182 1 2 := ⟨by decide +kernel, Or.inr ⟨"InterleavedArchive", gW_in (gIn1 (List.mem_of_getElem? (i := 40) (by decide +kernel))) rfl⟩⟩
theorem fl_X2_199 : gFl RX2 199 1 1 := ⟨by decide +kernel, Or.inr ⟨"InterleavedArchive", gW_in (gIn1 (List.mem_of_getElem? (i := 37) (by decide +kernel))) rfl⟩⟩
theorem fl_X2_212 : gFl RX2 212 0 2 := ⟨by decide +kernel, Or.inr ⟨"InterleavedArchive", gW_in (gIn1 (List.mem_of_getElem? (i := 100) (by decide +kernel))) rfl⟩⟩
theorem fl_X2_223 : gFl RX2 223 0 6 := ⟨by decide +kernel, Or.inr ⟨"InterleavedArchive", gW_in (gIn1 (List.mem_of_getElem? (i := 105) (by decide +kernel))) rfl⟩⟩
theorem fl_X2_233 : gFl RX2 233 0 7 := ⟨by decide +kernel, Or.inr ⟨"InterleavedArchive", gW_in (gIn1 (List.mem_of_getElem? (i := 107) (by decide +kernel))) rfl⟩⟩
theorem fl_X2_236 : gFl RX2 236 0 1 := ⟨by decide +kernel, Or.inr ⟨"InterleavedArchive", gW_in (gIn1 (List.mem_of_getElem? (i := 98) (by decide +kernel))) rfl⟩⟩
theorem fl_X2_255 : gFl RX2 255 1 11 := ⟨by decide +kernel, Or.inr ⟨"InterleavedArchive", gW_in (gIn1 (List.mem_of_getElem? (i := 59) (by decide +kernel))) rfl⟩⟩
theorem fl_X2_268 : gFl RX2 268 1 3 := ⟨by decide +kernel, Or.inr ⟨"InterleavedArchive", gW_in (gIn1 (List.mem_of_getElem? (i := 42) (by decide +kernel))) rfl⟩⟩
theorem fl_X2_282 : gFl RX2 282 1 10 := ⟨by decide +kernel, Or.inr ⟨"InterleavedArchive", gW_in (gIn1 (List.mem_of_getElem? (i := 57) (by decide +kernel))) rfl⟩⟩
theorem fl_X2_332 : gFl RX2 332 0 0 := ⟨by decide +kernel, Or.inr ⟨"InterleavedArchive", gW_in (gIn1 (List.mem_of_getElem? (i := 96) (by decide +kernel))) rfl⟩⟩
