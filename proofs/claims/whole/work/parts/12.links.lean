theorem bz_mw {w : Cond} (i : Nat) (h : (lw_tbl[i]? = some w) ∧ goodWord w = true) : w ∈ bz_tbl := bz_in (List.mem_of_getElem? h.1) h.2
theorem bz_ins (ws : List Cond) (ps : List Nat) (hp : ws = ps.filterMap (fun i => lw_tbl[i]?)) (h : ws.all goodWord = true) : ∀ w ∈ ws, w ∈ bz_tbl := by
  intro w hw
  have h1 := List.all_eq_true.mp h w hw
  rw [hp] at hw
  obtain ⟨i, -, hi⟩ := List.mem_filterMap.mp hw
  exact bz_in (List.mem_of_getElem? hi) h1
abbrev mX8_init : bz_M := (yX8_init, cX8_init, 1, none)
abbrev mX0_init : bz_M := (yX0_init, cX0_init, 1, none)
abbrev mX3_init : bz_M := (yX3_init, cX3_init, 1, none)
abbrev mX6_init : bz_M := (yX6_init, cX6_init, 1, none)
abbrev mX5_init : bz_M := (yX5_init, cX5_init, 1, none)
abbrev mX4_init : bz_M := (yX4_init, cX4_init, 1, none)
abbrev mX2_init : bz_M := (yX2_init, cX2_init, 1, none)
abbrev mX7_init : bz_M := (yX7_init, cX7_init, 1, none)
abbrev mX1_init : bz_M := (yX1_init, cX1_init, 2, none)
abbrev mX3_setDefaults : bz_M := (yX3_setDefaults, cX3_setDefaults, 1, none)
abbrev mJ7_fill_53178 : bz_M := (yJ7_fill_53178, cJ7_fill_53178, 4, none)
abbrev mX3_letPass : bz_M := (yX3_letPass, cX3_letPass, 6, none)
abbrev mX6_setNumber : bz_M := (yX6_setNumber, cX6_setNumber, 2, none)
abbrev mX6_clear : bz_M := (yX6_clear, cX6_clear, 1, none)
abbrev mX6_add : bz_M := (yX6_add, cX6_add, 2, none)
abbrev mX5_start : bz_M := (yX5_start, cX5_start, 2, none)
abbrev mX4_start : bz_M := (yX4_start, cX4_start, 4, none)
abbrev mX2_clear : bz_M := (yX2_clear, cX2_clear, 1, none)
abbrev mX7_clear : bz_M := (yX7_clear, cX7_clear, 1, none)
abbrev mX8_cellOf : bz_M := (yX8_cellOf, cX8_cellOf, 2, some (.int))
abbrev mX8_append : bz_M := (yX8_append, cX8_append, 6, some (.int))
abbrev mX8_appendBytes : bz_M := (yX8_appendBytes, cX8_appendBytes, 3, none)
abbrev mX8_errorPosition : bz_M := (yX8_errorPosition, cX8_errorPosition, 1, some (.int))
abbrev mX8_tick : bz_M := (yX8_tick, cX8_tick, 1, some (.int))
abbrev mX8_isSafe : bz_M := (yX8_isSafe, cX8_isSafe, 5, some (.boolean))
abbrev mX3_blockingKinds : bz_M := (yX3_blockingKinds, cX3_blockingKinds, 6, some (.int))
abbrev mX3_creditsOf : bz_M := (yX3_creditsOf, cX3_creditsOf, 3, some (.int))
abbrev mX8_ratioBits : bz_M := (yX8_ratioBits, cX8_ratioBits, 2, some (.int))
abbrev mX5_portOf : bz_M := (yX5_portOf, cX5_portOf, 2, some ((.object "BusBridge$Port")))
abbrev mX8_waitOf : bz_M := (yX8_waitOf, cX8_waitOf, 1, some (.float))
abbrev mX8_bitsOf : bz_M := (yX8_bitsOf, cX8_bitsOf, 4, some (.int))
abbrev mX8_ticksToRest : bz_M := (yX8_ticksToRest, cX8_ticksToRest, 6, some (.int))
abbrev mX5_copyFrom : bz_M := (yX5_copyFrom, cX5_copyFrom, 2, none)
abbrev mX4_copyFrom : bz_M := (yX4_copyFrom, cX4_copyFrom, 2, none)
abbrev mX2_copyFrom : bz_M := (yX2_copyFrom, cX2_copyFrom, 2, none)
abbrev mX7_copyFrom : bz_M := (yX7_copyFrom, cX7_copyFrom, 2, none)
abbrev mX5_advance : bz_M := (yX5_advance, cX5_advance, 8, some (.int))
abbrev mX3_sizeOf : bz_M := (yX3_sizeOf, cX3_sizeOf, 3, some (.int))
abbrev mX4_workInTick : bz_M := (yX4_workInTick, cX4_workInTick, 8, some (.boolean))
abbrev mX2_get : bz_M := (yX2_get, cX2_get, 4, some (.int))
abbrev mX4_finishes : bz_M := (yX4_finishes, cX4_finishes, 5, some (.boolean))
abbrev mX4_writeMemory : bz_M := (yX4_writeMemory, cX4_writeMemory, 5, none)
abbrev mX4_answerRead : bz_M := (yX4_answerRead, cX4_answerRead, 9, some (.boolean))
abbrev mX2_countOf : bz_M := (yX2_countOf, cX2_countOf, 2, some (.int))
abbrev mJ9_min_7cf53 : bz_M := (yJ9_min_7cf53, cJ9_min_7cf53, 2, some (.int))
abbrev mX4_addCompletion : bz_M := (yX4_addCompletion, cX4_addCompletion, 10, none)
abbrev mX2_open : bz_M := (yX2_open, cX2_open, 8, some (.int))
abbrev mX2_put : bz_M := (yX2_put, cX2_put, 5, none)
abbrev mX4_answerConfiguration : bz_M := (yX4_answerConfiguration, cX4_answerConfiguration, 4, some (.boolean))
abbrev mX4_storeCompletion : bz_M := (yX4_storeCompletion, cX4_storeCompletion, 6, none)
abbrev mX7_store : bz_M := (yX7_store, cX7_store, 5, none)
abbrev mX7_completeIfAllCame : bz_M := (yX7_completeIfAllCame, cX7_completeIfAllCame, 2, none)
abbrev mJ6_bitCount_0f7a4 : bz_M := (yJ6_bitCount_0f7a4, cJ6_bitCount_0f7a4, 1, some (.int))
abbrev mX2_remove : bz_M := (yX2_remove, cX2_remove, 3, none)
abbrev mX2_count : bz_M := (yX2_count, cX2_count, 3, none)
abbrev mX5_forwardFrom : bz_M := (yX5_forwardFrom, cX5_forwardFrom, 5, some (.boolean))
abbrev mX5_firstReady : bz_M := (yX5_firstReady, cX5_firstReady, 10, some (.int))
abbrev mX2_isRelaxed : bz_M := (yX2_isRelaxed, cX2_isRelaxed, 2, some (.boolean))
abbrev mX3_latencyOf : bz_M := (yX3_latencyOf, cX3_latencyOf, 2, some ((.object "BusBridge$Sum")))
abbrev mX4_forwardTo : bz_M := (yX4_forwardTo, cX4_forwardTo, 10, none)
abbrev mX6_valueFor : bz_M := (yX6_valueFor, cX6_valueFor, 8, some (.int))
abbrev mX6_combine : bz_M := (yX6_combine, cX6_combine, 3, some (.int))
abbrev mX6_named : bz_M := (yX6_named, cX6_named, 5, some (.int))
abbrev mJ9_max_7cf53 : bz_M := (yJ9_max_7cf53, cJ9_max_7cf53, 2, some (.int))
abbrev mX2_takeFrom : bz_M := (yX2_takeFrom, cX2_takeFrom, 3, some (.int))
abbrev mX5_firstDue : bz_M := (yX5_firstDue, cX5_firstDue, 1, some (.int))
abbrev mX4_firstDueAfter : bz_M := (yX4_firstDueAfter, cX4_firstDueAfter, 5, some (.int))
abbrev mX8_isStuck : bz_M := (yX8_isStuck, cX8_isStuck, 1, some (.boolean))
abbrev mX5_isEmpty : bz_M := (yX5_isEmpty, cX5_isEmpty, 1, some (.boolean))
abbrev mX8_undo : bz_M := (yX8_undo, cX8_undo, 1, some (.int))
abbrev mX1_takeBack : bz_M := (yX1_takeBack, cX1_takeBack, 3, some (.int))
abbrev mX1_newestBefore : bz_M := (yX1_newestBefore, cX1_newestBefore, 1, some ((.object "BusBridge$Situation")))
abbrev mX8_parse : bz_M := (yX8_parse, cX8_parse, 3, some (.int))
abbrev mX0_describe : bz_M := (yX0_describe, cX0_describe, 5, some (.int))
abbrev mX0_step : bz_M := (yX0_step, cX0_step, 2, none)
abbrev mX0_byteAt : bz_M := (yX0_byteAt, cX0_byteAt, 2, some (.int))
abbrev mX0_isSpace : bz_M := (yX0_isSpace, cX0_isSpace, 1, some (.boolean))
abbrev mX0_isLetter : bz_M := (yX0_isLetter, cX0_isLetter, 1, some (.boolean))
abbrev mX0_stepOverWord : bz_M := (yX0_stepOverWord, cX0_stepOverWord, 1, none)
abbrev mX0_isDigit : bz_M := (yX0_isDigit, cX0_isDigit, 1, some (.boolean))
abbrev mX0_stepOverNumber : bz_M := (yX0_stepOverNumber, cX0_stepOverNumber, 1, none)
abbrev mX0_isSign : bz_M := (yX0_isSign, cX0_isSign, 1, some (.boolean))
abbrev mX0_rankOf : bz_M := (yX0_rankOf, cX0_rankOf, 1, some (.int))
abbrev mX0_statement : bz_M := (yX0_statement, cX0_statement, 2, none)
abbrev mX0_isWord : bz_M := (yX0_isWord, cX0_isWord, 3, some (.boolean))
abbrev mJ0_length_8abf5 : bz_M := (yJ0_length_8abf5, cJ0_length_8abf5, 1, some (.int))
abbrev mJ0_coder_7d493 : bz_M := (yJ0_coder_7d493, cJ0_coder_7d493, 1, some (.byte))
abbrev mJ0_charAt_5068e : bz_M := (yJ0_charAt_5068e, cJ0_charAt_5068e, 2, some (.char))
abbrev mJ0_isLatin1_aae02 : bz_M := (yJ0_isLatin1_aae02, cJ0_isLatin1_aae02, 1, some (.boolean))
abbrev mJ1_charAt_3b067 : bz_M := (yJ1_charAt_3b067, cJ1_charAt_3b067, 2, some (.char))
abbrev mJ0_checkIndex_df160 : bz_M := (yJ0_checkIndex_df160, cJ0_checkIndex_df160, 2, none)
abbrev mJ3_checkIndex_8e157 : bz_M := (yJ3_checkIndex_8e157, cJ3_checkIndex_8e157, 3, some (.int))
abbrev mJ2_charAt_3b067 : bz_M := (yJ2_charAt_3b067, cJ2_charAt_3b067, 2, some (.char))
abbrev mJ2_checkIndex_2214a : bz_M := (yJ2_checkIndex_2214a, cJ2_checkIndex_2214a, 2, none)
abbrev mJ2_length_9d52b : bz_M := (yJ2_length_9d52b, cJ2_length_9d52b, 1, some (.int))
abbrev mJ2_getChar_3b067 : bz_M := (yJ2_getChar_3b067, cJ2_getChar_3b067, 2, some (.char))
abbrev mX0_setting : bz_M := (yX0_setting, cX0_setting, 10, none)
abbrev mX0_numberIn : bz_M := (yX0_numberIn, cX0_numberIn, 4, some (.int))
abbrev mX0_fail : bz_M := (yX0_fail, cX0_fail, 2, none)
abbrev mX0_sum : bz_M := (yX0_sum, cX0_sum, 5, none)
abbrev mX0_beginFactor : bz_M := (yX0_beginFactor, cX0_beginFactor, 2, none)
abbrev mX0_openBracket : bz_M := (yX0_openBracket, cX0_openBracket, 1, none)
abbrev mX0_push : bz_M := (yX0_push, cX0_push, 2, none)
abbrev mX0_addPending : bz_M := (yX0_addPending, cX0_addPending, 4, none)
abbrev mX0_closeBracket : bz_M := (yX0_closeBracket, cX0_closeBracket, 2, none)
abbrev mX0_once : bz_M := (yX0_once, cX0_once, 2, none)
abbrev mX0_expectSemicolon : bz_M := (yX0_expectSemicolon, cX0_expectSemicolon, 1, none)
abbrev mX8_replacePlan : bz_M := (yX8_replacePlan, cX8_replacePlan, 2, none)
abbrev mX1_forget : bz_M := (yX1_forget, cX1_forget, 1, none)
abbrev mX8_mayPass : bz_M := (yX8_mayPass, cX8_mayPass, 4, some (.boolean))
abbrev mX8_checkKind : bz_M := (yX8_checkKind, cX8_checkKind, 1, none)
abbrev mX8_hasBit : bz_M := (yX8_hasBit, cX8_hasBit, 2, some (.boolean))
abbrev mX8_holds : bz_M := (yX8_holds, cX8_holds, 3, some (.boolean))
abbrev mX8_waiting : bz_M := (yX8_waiting, cX8_waiting, 2, some (.int))
abbrev mX8_checkSide : bz_M := (yX8_checkSide, cX8_checkSide, 1, none)
abbrev mX8_kindAt : bz_M := (yX8_kindAt, cX8_kindAt, 3, some (.int))
abbrev mX8_checkPosition : bz_M := (yX8_checkPosition, cX8_checkPosition, 3, none)
abbrev mX8_tagAt : bz_M := (yX8_tagAt, cX8_tagAt, 3, some (.int))
abbrev mX8_blockers : bz_M := (yX8_blockers, cX8_blockers, 7, some (.int))
abbrev mX8_next : bz_M := (yX8_next, cX8_next, 2, some (.int))
abbrev mX8_held : bz_M := (yX8_held, cX8_held, 3, some (.int))
abbrev mX8_word : bz_M := (yX8_word, cX8_word, 3, some (.int))
abbrev mX4_memoryAt : bz_M := (yX4_memoryAt, cX4_memoryAt, 2, some (.int))
abbrev mX8_tagState : bz_M := (yX8_tagState, cX8_tagState, 3, some (.int))
abbrev mX8_checkTag : bz_M := (yX8_checkTag, cX8_checkTag, 3, none)
abbrev mX7_stateOf : bz_M := (yX7_stateOf, cX7_stateOf, 2, some (.int))
abbrev mX8_stored : bz_M := (yX8_stored, cX8_stored, 3, some (.int))
abbrev mX7_storedWords : bz_M := (yX7_storedWords, cX7_storedWords, 2, some (.int))
abbrev mX8_data : bz_M := (yX8_data, cX8_data, 5, some (.int))
abbrev mX7_hasWord : bz_M := (yX7_hasWord, cX7_hasWord, 3, some (.boolean))
abbrev mX7_wordOf : bz_M := (yX7_wordOf, cX7_wordOf, 3, some (.int))
abbrev mX8_forwarded : bz_M := (yX8_forwarded, cX8_forwarded, 2, some (.int))
abbrev mX8_passings : bz_M := (yX8_passings, cX8_passings, 2, some (.int))
abbrev mX8_utilisation : bz_M := (yX8_utilisation, cX8_utilisation, 2, some (.double))
abbrev mX8_averageWait : bz_M := (yX8_averageWait, cX8_averageWait, 2, some (.float))
abbrev mX8_completeTick : bz_M := (yX8_completeTick, cX8_completeTick, 6, some (.int))
abbrev mX8_run : bz_M := (yX8_run, cX8_run, 5, some (.int))
abbrev mX1_remember : bz_M := (yX1_remember, cX1_remember, 3, none)
abbrev mX5_forwardedInAll : bz_M := (yX5_forwardedInAll, cX5_forwardedInAll, 1, some (.int))
abbrev mX8_post : bz_M := (yX8_post, cX8_post, 8, some (.int))
abbrev mX8_checkRange : bz_M := (yX8_checkRange, cX8_checkRange, 2, none)
abbrev mX8_checkRoom : bz_M := (yX8_checkRoom, cX8_checkRoom, 3, none)
abbrev mX2_putValues : bz_M := (yX2_putValues, cX2_putValues, 4, none)
abbrev mX8_read : bz_M := (yX8_read, cX8_read, 7, some (.int))
abbrev mX8_findFreeTag : bz_M := (yX8_findFreeTag, cX8_findFreeTag, 3, some (.int))
abbrev mX7_lowestFree : bz_M := (yX7_lowestFree, cX7_lowestFree, 3, some (.int))
abbrev mX7_begin : bz_M := (yX7_begin, cX7_begin, 3, none)
abbrev mX7_put : bz_M := (yX7_put, cX7_put, 4, none)
abbrev mX8_configure : bz_M := (yX8_configure, cX8_configure, 8, some (.int))
abbrev mX8_release : bz_M := (yX8_release, cX8_release, 5, some (.int))
abbrev mX7_free : bz_M := (yX7_free, cX7_free, 2, none)
abbrev mX8_saveSnapshot : bz_M := (yX8_saveSnapshot, cX8_saveSnapshot, 3, some (.boolean))
abbrev mX8_checkSlot : bz_M := (yX8_checkSlot, cX8_checkSlot, 1, none)
abbrev mX8_isSaved : bz_M := (yX8_isSaved, cX8_isSaved, 2, some (.boolean))
abbrev mX8_restoreSnapshot : bz_M := (yX8_restoreSnapshot, cX8_restoreSnapshot, 2, some (.int))
abbrev mX9_init : bz_M := (yX9_init, cX9_init, 1, none)
abbrev mX9_clearDraft : bz_M := (yX9_clearDraft, cX9_clearDraft, 2, none)
abbrev mX9_passesAlways : bz_M := (yX9_passesAlways, cX9_passesAlways, 3, some (.boolean))
abbrev mX9_emit : bz_M := (yX9_emit, cX9_emit, 2, some (.boolean))
abbrev mX9_liftsAll : bz_M := (yX9_liftsAll, cX9_liftsAll, 1, none)
abbrev mX9_lifts : bz_M := (yX9_lifts, cX9_lifts, 2, none)
abbrev mX9_begins : bz_M := (yX9_begins, cX9_begins, 2, none)
abbrev mX9_thrown : bz_M := (yX9_thrown, cX9_thrown, 1, some (.int))
abbrev mX9_append : bz_M := (yX9_append, cX9_append, 6, some (.int))
abbrev mX9_bytesOf : bz_M := (yX9_bytesOf, cX9_bytesOf, 3, none)
abbrev mX9_parse : bz_M := (yX9_parse, cX9_parse, 3, some (.int))
abbrev mX9_within : bz_M := (yX9_within, cX9_within, 3, some (.boolean))
abbrev mX9_throwsIf : bz_M := (yX9_throwsIf, cX9_throwsIf, 3, some (.boolean))
abbrev mX9_advance : bz_M := (yX9_advance, cX9_advance, 2, none)
abbrev mX9_byteAt : bz_M := (yX9_byteAt, cX9_byteAt, 2, some (.int))
abbrev mX9_isSign : bz_M := (yX9_isSign, cX9_isSign, 1, some (.boolean))
abbrev mX9_statement : bz_M := (yX9_statement, cX9_statement, 1, some (.boolean))
abbrev mX9_isWord : bz_M := (yX9_isWord, cX9_isWord, 4, some (.boolean))
abbrev mX9_lays : bz_M := (yX9_lays, cX9_lays, 7, some (.boolean))
abbrev mX9_takes : bz_M := (yX9_takes, cX9_takes, 3, some (.boolean))
abbrev mX9_fails : bz_M := (yX9_fails, cX9_fails, 2, some (.boolean))
abbrev mX9_setsOnce : bz_M := (yX9_setsOnce, cX9_setsOnce, 4, some (.boolean))
abbrev mX9_has : bz_M := (yX9_has, cX9_has, 2, some (.boolean))
abbrev mX9_starts : bz_M := (yX9_starts, cX9_starts, 3, some (.boolean))
abbrev mX9_sum : bz_M := (yX9_sum, cX9_sum, 2, some (.boolean))
abbrev mX9_term : bz_M := (yX9_term, cX9_term, 2, some (.boolean))
abbrev mX9_factor : bz_M := (yX9_factor, cX9_factor, 2, some (.boolean))
abbrev mX9_isSignHere : bz_M := (yX9_isSignHere, cX9_isSignHere, 2, some (.boolean))
abbrev mX9_closes : bz_M := (yX9_closes, cX9_closes, 2, some (.boolean))
abbrev mX9_errorPosition : bz_M := (yX9_errorPosition, cX9_errorPosition, 1, some (.int))
abbrev mX9_tick : bz_M := (yX9_tick, cX9_tick, 1, some (.int))
abbrev mX9_mayPass : bz_M := (yX9_mayPass, cX9_mayPass, 4, some (.boolean))
abbrev mX9_no : bz_M := (yX9_no, cX9_no, 3, some (.boolean))
abbrev mX9_passes : bz_M := (yX9_passes, cX9_passes, 4, some (.boolean))
abbrev mX9_isSafe : bz_M := (yX9_isSafe, cX9_isSafe, 3, some (.boolean))
abbrev mX9_holds : bz_M := (yX9_holds, cX9_holds, 3, some (.boolean))
abbrev mX9_waiting : bz_M := (yX9_waiting, cX9_waiting, 2, some (.int))
abbrev mX9_noSide : bz_M := (yX9_noSide, cX9_noSide, 2, some (.boolean))
abbrev mX9_kindAt : bz_M := (yX9_kindAt, cX9_kindAt, 3, some (.int))
abbrev mX9_noPosition : bz_M := (yX9_noPosition, cX9_noPosition, 3, some (.boolean))
abbrev mX9_waits : bz_M := (yX9_waits, cX9_waits, 2, some (.int))
abbrev mX9_tagAt : bz_M := (yX9_tagAt, cX9_tagAt, 3, some (.int))
abbrev mX9_blockers : bz_M := (yX9_blockers, cX9_blockers, 3, some (.int))
abbrev mX9_blocking : bz_M := (yX9_blocking, cX9_blocking, 6, some (.int))
abbrev mX9_next : bz_M := (yX9_next, cX9_next, 2, some (.int))
abbrev mX9_nextOf : bz_M := (yX9_nextOf, cX9_nextOf, 4, some (.int))
abbrev mX9_heldOf : bz_M := (yX9_heldOf, cX9_heldOf, 5, some (.int))
abbrev mX9_held0 : bz_M := (yX9_held0, cX9_held0, 2, some (.int))
abbrev mX9_held : bz_M := (yX9_held, cX9_held, 3, some (.int))
abbrev mX9_word : bz_M := (yX9_word, cX9_word, 3, some (.int))
abbrev mX9_tagState : bz_M := (yX9_tagState, cX9_tagState, 3, some (.int))
abbrev mX9_noTag : bz_M := (yX9_noTag, cX9_noTag, 3, some (.boolean))
abbrev mX9_tagged : bz_M := (yX9_tagged, cX9_tagged, 2, some (.int))
abbrev mX9_stored : bz_M := (yX9_stored, cX9_stored, 3, some (.int))
abbrev mX9_bits : bz_M := (yX9_bits, cX9_bits, 3, some (.int))
abbrev mX9_data : bz_M := (yX9_data, cX9_data, 4, some (.int))
abbrev mX9_forwarded : bz_M := (yX9_forwarded, cX9_forwarded, 2, some (.int))
abbrev mX9_passings : bz_M := (yX9_passings, cX9_passings, 2, some (.int))
abbrev mX9_utilisation : bz_M := (yX9_utilisation, cX9_utilisation, 2, some (.double))
abbrev mX9_averageWait : bz_M := (yX9_averageWait, cX9_averageWait, 2, some (.float))
abbrev mX9_waitOf : bz_M := (yX9_waitOf, cX9_waitOf, 2, some (.float))
abbrev mX9_ratioBits : bz_M := (yX9_ratioBits, cX9_ratioBits, 1, some (.int))
abbrev mJxf58ca_floatToIntBits_5c35a : bz_M := (yJxf58ca_floatToIntBits_5c35a, cJxf58ca_floatToIntBits_5c35a, 1, some (.int))
abbrev mJxf58ca_isNaN_12338 : bz_M := (yJxf58ca_isNaN_12338, cJxf58ca_isNaN_12338, 1, some (.boolean))
abbrev mX9_ticksToRest : bz_M := (yX9_ticksToRest, cX9_ticksToRest, 1, some (.int))
abbrev mX9_restsAfter : bz_M := (yX9_restsAfter, cX9_restsAfter, 3, some (.int))
abbrev mX9_copies : bz_M := (yX9_copies, cX9_copies, 6, none)
abbrev mX9_ticks : bz_M := (yX9_ticks, cX9_ticks, 1, none)
abbrev mX9_targets : bz_M := (yX9_targets, cX9_targets, 4, none)
abbrev mX9_works : bz_M := (yX9_works, cX9_works, 3, some (.boolean))
abbrev mX9_writes : bz_M := (yX9_writes, cX9_writes, 4, none)
abbrev mX9_answers : bz_M := (yX9_answers, cX9_answers, 8, some (.boolean))
abbrev mX9_room : bz_M := (yX9_room, cX9_room, 5, some (.int))
abbrev mX9_comes : bz_M := (yX9_comes, cX9_comes, 9, some (.int))
abbrev mX9_stores : bz_M := (yX9_stores, cX9_stores, 5, none)
abbrev mX9_leaves : bz_M := (yX9_leaves, cX9_leaves, 5, none)
abbrev mX9_forwards : bz_M := (yX9_forwards, cX9_forwards, 7, none)
abbrev mX9_latencyOf : bz_M := (yX9_latencyOf, cX9_latencyOf, 6, some (.int))
abbrev mX9_joined : bz_M := (yX9_joined, cX9_joined, 3, some (.int))
abbrev mX9_isStuck : bz_M := (yX9_isStuck, cX9_isStuck, 1, some (.boolean))
abbrev mX9_completeTick : bz_M := (yX9_completeTick, cX9_completeTick, 5, some (.int))
abbrev mX9_run : bz_M := (yX9_run, cX9_run, 4, some (.int))
abbrev mX9_keeps : bz_M := (yX9_keeps, cX9_keeps, 1, none)
abbrev mX9_post : bz_M := (yX9_post, cX9_post, 6, some (.int))
abbrev mX9_isRange : bz_M := (yX9_isRange, cX9_isRange, 2, some (.boolean))
abbrev mX9_read : bz_M := (yX9_read, cX9_read, 5, some (.int))
abbrev mX9_asks : bz_M := (yX9_asks, cX9_asks, 9, some (.int))
abbrev mX9_freeTag : bz_M := (yX9_freeTag, cX9_freeTag, 3, some (.int))
abbrev mX9_configure : bz_M := (yX9_configure, cX9_configure, 5, some (.int))
abbrev mX9_release : bz_M := (yX9_release, cX9_release, 5, some (.int))
abbrev mX9_undo : bz_M := (yX9_undo, cX9_undo, 1, some (.int))
abbrev mX9_saveSnapshot : bz_M := (yX9_saveSnapshot, cX9_saveSnapshot, 3, some (.boolean))
abbrev mX9_noSlot : bz_M := (yX9_noSlot, cX9_noSlot, 2, some (.boolean))
abbrev mX9_restoreSnapshot : bz_M := (yX9_restoreSnapshot, cX9_restoreSnapshot, 2, some (.int))
theorem inX0 : ∀ w ∈ u_ws RX0 TX0 13, w ∈ bz_tbl := bz_ins _ [137, 139, 141, 143, 145, 147, 149, 151, 153, 155, 157, 159, 161] (by decide +kernel) (by decide +kernel)
theorem inX1 : ∀ w ∈ u_ws RX1 TX1 3, w ∈ bz_tbl := bz_ins _ [330, 332, 334] (by decide +kernel) (by decide +kernel)
theorem inX2 : ∀ w ∈ u_ws RX2 TX2 3, w ∈ bz_tbl := bz_ins _ [246, 248, 250] (by decide +kernel) (by decide +kernel)
theorem inX3 : ∀ w ∈ u_ws RX3 TX3 8, w ∈ bz_tbl := bz_ins _ [205, 207, 209, 211, 213, 215, 217, 219] (by decide +kernel) (by decide +kernel)
theorem inX4 : ∀ w ∈ u_ws RX4 TX4 7, w ∈ bz_tbl := bz_ins _ [288, 290, 292, 294, 296, 298, 300] (by decide +kernel) (by decide +kernel)
theorem inX5 : ∀ w ∈ u_ws RX5 TX5 4, w ∈ bz_tbl := bz_ins _ [309, 311, 313, 315] (by decide +kernel) (by decide +kernel)
theorem inX6 : ∀ w ∈ u_ws RX6 TX6 3, w ∈ bz_tbl := bz_ins _ [181, 183, 185] (by decide +kernel) (by decide +kernel)
theorem inX7 : ∀ w ∈ u_ws RX7 TX7 4, w ∈ bz_tbl := bz_ins _ [263, 265, 267, 269] (by decide +kernel) (by decide +kernel)
theorem inX8 : ∀ w ∈ u_ws RX8 TX8 13, w ∈ bz_tbl := bz_ins _ [394, 396, 398, 400, 402, 404, 406, 408, 410, 412, 414, 416, 418] (by decide +kernel) (by decide +kernel)
theorem inX9 : ∀ w ∈ u_ws RX9 TX9 31, w ∈ bz_tbl := bz_ins _ [1246, 1248, 1250, 1252, 1254, 1256, 1258, 1260, 1262, 1264, 1266, 1268, 1270, 1272, 1274, 1276, 1278, 1280, 1282, 1284, 1286, 1288, 1290, 1292, 1294, 1296, 1298, 1300, 1302, 1304, 1306] (by decide +kernel) (by decide +kernel)
theorem fl_X0_9 : bz_fl RX0 9 0 0 := ⟨(RX0, TX0, 13), rfl, by decide, bz_mw 123 (by decide +kernel), inX0⟩
theorem fp_X0_9 : bz_fp RX0 9 0 0 false (.array .byte) := ⟨(RX0, TX0, 13), tyX0, rfl, by decide, bz_mw 123 (by decide +kernel), inX0, tyX0_ok, nmX0, rfl, rfl, fun h => by cases h⟩
theorem fl_X0_19 : bz_fl RX0 19 0 1 := ⟨(RX0, TX0, 13), rfl, by decide, bz_mw 124 (by decide +kernel), inX0⟩
theorem fp_X0_19 : bz_fp RX0 19 0 1 false .int := ⟨(RX0, TX0, 13), tyX0, rfl, by decide, bz_mw 124 (by decide +kernel), inX0, tyX0_ok, nmX0, rfl, rfl, fun h => by cases h⟩
theorem fl_X0_23 : bz_fl RX0 23 0 2 := ⟨(RX0, TX0, 13), rfl, by decide, bz_mw 125 (by decide +kernel), inX0⟩
theorem fp_X0_23 : bz_fp RX0 23 0 2 false .int := ⟨(RX0, TX0, 13), tyX0, rfl, by decide, bz_mw 125 (by decide +kernel), inX0, tyX0_ok, nmX0, rfl, rfl, fun h => by cases h⟩
theorem fl_X0_47 : bz_fl RX0 47 0 3 := ⟨(RX0, TX0, 13), rfl, by decide, bz_mw 126 (by decide +kernel), inX0⟩
theorem fp_X0_47 : bz_fp RX0 47 0 3 false .int := ⟨(RX0, TX0, 13), tyX0, rfl, by decide, bz_mw 126 (by decide +kernel), inX0, tyX0_ok, nmX0, rfl, rfl, fun h => by cases h⟩
theorem fl_X0_57 : bz_fl RX0 57 0 4 := ⟨(RX0, TX0, 13), rfl, by decide, bz_mw 127 (by decide +kernel), inX0⟩
theorem fp_X0_57 : bz_fp RX0 57 0 4 false .int := ⟨(RX0, TX0, 13), tyX0, rfl, by decide, bz_mw 127 (by decide +kernel), inX0, tyX0_ok, nmX0, rfl, rfl, fun h => by cases h⟩
theorem fl_X0_118 : bz_fl RX0 118 0 5 := ⟨(RX0, TX0, 13), rfl, by decide, bz_mw 128 (by decide +kernel), inX0⟩
theorem fp_X0_118 : bz_fp RX0 118 0 5 false .int := ⟨(RX0, TX0, 13), tyX0, rfl, by decide, bz_mw 128 (by decide +kernel), inX0, tyX0_ok, nmX0, rfl, rfl, fun h => by cases h⟩
theorem fl_X0_26 : bz_fl RX0 26 0 6 := ⟨(RX0, TX0, 13), rfl, by decide, bz_mw 129 (by decide +kernel), inX0⟩
theorem fp_X0_26 : bz_fp RX0 26 0 6 false .int := ⟨(RX0, TX0, 13), tyX0, rfl, by decide, bz_mw 129 (by decide +kernel), inX0, tyX0_ok, nmX0, rfl, rfl, fun h => by cases h⟩
theorem fl_X0_29 : bz_fl RX0 29 0 7 := ⟨(RX0, TX0, 13), rfl, by decide, bz_mw 130 (by decide +kernel), inX0⟩
theorem fp_X0_29 : bz_fp RX0 29 0 7 false .int := ⟨(RX0, TX0, 13), tyX0, rfl, by decide, bz_mw 130 (by decide +kernel), inX0, tyX0_ok, nmX0, rfl, rfl, fun h => by cases h⟩
theorem fl_X8_82 : bz_fl RX8 82 0 7 := ⟨(RX0, TX0, 13), rfl, by decide, bz_mw 131 (by decide +kernel), inX0⟩
theorem fp_X8_82 : bz_fp RX8 82 0 7 false .int := ⟨(RX0, TX0, 13), tyX0, rfl, by decide, bz_mw 131 (by decide +kernel), inX0, tyX0_ok, nmX0, rfl, rfl, fun h => by cases h⟩
theorem fl_X0_32 : bz_fl RX0 32 0 8 := ⟨(RX0, TX0, 13), rfl, by decide, bz_mw 132 (by decide +kernel), inX0⟩
theorem fp_X0_32 : bz_fp RX0 32 0 8 false .boolean := ⟨(RX0, TX0, 13), tyX0, rfl, by decide, bz_mw 132 (by decide +kernel), inX0, tyX0_ok, nmX0, rfl, rfl, fun h => by cases h⟩
theorem fl_X0_36 : bz_fl RX0 36 0 9 := ⟨(RX0, TX0, 13), rfl, by decide, bz_mw 133 (by decide +kernel), inX0⟩
theorem fp_X0_36 : bz_fp RX0 36 0 9 false .boolean := ⟨(RX0, TX0, 13), tyX0, rfl, by decide, bz_mw 133 (by decide +kernel), inX0, tyX0_ok, nmX0, rfl, rfl, fun h => by cases h⟩
theorem fl_X0_15 : bz_fl RX0 15 0 10 := ⟨(RX0, TX0, 13), rfl, by decide, bz_mw 134 (by decide +kernel), inX0⟩
theorem fp_X0_15 : bz_fp RX0 15 0 10 true (.array .int) := ⟨(RX0, TX0, 13), tyX0, rfl, by decide, bz_mw 134 (by decide +kernel), inX0, tyX0_ok, nmX0, rfl, rfl, fun _ => rfl⟩
theorem fl_X0_126 : bz_fl RX0 126 0 11 := ⟨(RX0, TX0, 13), rfl, by decide, bz_mw 135 (by decide +kernel), inX0⟩
theorem fp_X0_126 : bz_fp RX0 126 0 11 false .int := ⟨(RX0, TX0, 13), tyX0, rfl, by decide, bz_mw 135 (by decide +kernel), inX0, tyX0_ok, nmX0, rfl, rfl, fun h => by cases h⟩
theorem fl_X0_129 : bz_fl RX0 129 0 12 := ⟨(RX0, TX0, 13), rfl, by decide, bz_mw 136 (by decide +kernel), inX0⟩
theorem fp_X0_129 : bz_fp RX0 129 0 12 false .int := ⟨(RX0, TX0, 13), tyX0, rfl, by decide, bz_mw 136 (by decide +kernel), inX0, tyX0_ok, nmX0, rfl, rfl, fun h => by cases h⟩
theorem fl_X6_9 : bz_fl RX6 9 6 0 := ⟨(RX6, TX6, 3), rfl, by decide, bz_mw 178 (by decide +kernel), inX6⟩
theorem fp_X6_9 : bz_fp RX6 9 6 0 true (.array .int) := ⟨(RX6, TX6, 3), tyX6, rfl, by decide, bz_mw 178 (by decide +kernel), inX6, tyX6_ok, nmX6, rfl, rfl, fun _ => rfl⟩
theorem fl_X6_15 : bz_fl RX6 15 6 1 := ⟨(RX6, TX6, 3), rfl, by decide, bz_mw 179 (by decide +kernel), inX6⟩
theorem fp_X6_15 : bz_fp RX6 15 6 1 true (.array .int) := ⟨(RX6, TX6, 3), tyX6, rfl, by decide, bz_mw 179 (by decide +kernel), inX6, tyX6_ok, nmX6, rfl, rfl, fun _ => rfl⟩
theorem fl_X6_18 : bz_fl RX6 18 6 2 := ⟨(RX6, TX6, 3), rfl, by decide, bz_mw 180 (by decide +kernel), inX6⟩
theorem fp_X6_18 : bz_fp RX6 18 6 2 false .int := ⟨(RX6, TX6, 3), tyX6, rfl, by decide, bz_mw 180 (by decide +kernel), inX6, tyX6_ok, nmX6, rfl, rfl, fun h => by cases h⟩
theorem fl_X3_9 : bz_fl RX3 9 3 0 := ⟨(RX3, TX3, 8), rfl, by decide, bz_mw 188 (by decide +kernel), inX3⟩
theorem fp_X3_9 : bz_fp RX3 9 3 0 true (.array .int) := ⟨(RX3, TX3, 8), tyX3, rfl, by decide, bz_mw 188 (by decide +kernel), inX3, tyX3_ok, nmX3, rfl, rfl, fun _ => rfl⟩
theorem fl_X0_66 : bz_fl RX0 66 3 0 := ⟨(RX3, TX3, 8), rfl, by decide, bz_mw 189 (by decide +kernel), inX3⟩
theorem fl_X3_15 : bz_fl RX3 15 3 1 := ⟨(RX3, TX3, 8), rfl, by decide, bz_mw 190 (by decide +kernel), inX3⟩
theorem fp_X3_15 : bz_fp RX3 15 3 1 true (.array .int) := ⟨(RX3, TX3, 8), tyX3, rfl, by decide, bz_mw 190 (by decide +kernel), inX3, tyX3_ok, nmX3, rfl, rfl, fun _ => rfl⟩
theorem fl_X0_75 : bz_fl RX0 75 3 1 := ⟨(RX3, TX3, 8), rfl, by decide, bz_mw 191 (by decide +kernel), inX3⟩
theorem fl_X3_18 : bz_fl RX3 18 3 2 := ⟨(RX3, TX3, 8), rfl, by decide, bz_mw 192 (by decide +kernel), inX3⟩
theorem fp_X3_18 : bz_fp RX3 18 3 2 true (.array .int) := ⟨(RX3, TX3, 8), tyX3, rfl, by decide, bz_mw 192 (by decide +kernel), inX3, tyX3_ok, nmX3, rfl, rfl, fun _ => rfl⟩
theorem fl_X0_80 : bz_fl RX0 80 3 2 := ⟨(RX3, TX3, 8), rfl, by decide, bz_mw 193 (by decide +kernel), inX3⟩
theorem fl_X3_21 : bz_fl RX3 21 3 3 := ⟨(RX3, TX3, 8), rfl, by decide, bz_mw 194 (by decide +kernel), inX3⟩
theorem fp_X3_21 : bz_fp RX3 21 3 3 true (.array .int) := ⟨(RX3, TX3, 8), tyX3, rfl, by decide, bz_mw 194 (by decide +kernel), inX3, tyX3_ok, nmX3, rfl, rfl, fun _ => rfl⟩
theorem fl_X4_36 : bz_fl RX4 36 3 3 := ⟨(RX3, TX3, 8), rfl, by decide, bz_mw 195 (by decide +kernel), inX3⟩
theorem fl_X0_84 : bz_fl RX0 84 3 3 := ⟨(RX3, TX3, 8), rfl, by decide, bz_mw 196 (by decide +kernel), inX3⟩
theorem fl_X3_27 : bz_fl RX3 27 3 4 := ⟨(RX3, TX3, 8), rfl, by decide, bz_mw 197 (by decide +kernel), inX3⟩
theorem fp_X3_27 : bz_fp RX3 27 3 4 true (.object "BusBridge$Sum") := ⟨(RX3, TX3, 8), tyX3, rfl, by decide, bz_mw 197 (by decide +kernel), inX3, tyX3_ok, nmX3, rfl, rfl, fun _ => rfl⟩
theorem fl_X3_31 : bz_fl RX3 31 3 5 := ⟨(RX3, TX3, 8), rfl, by decide, bz_mw 198 (by decide +kernel), inX3⟩
theorem fp_X3_31 : bz_fp RX3 31 3 5 true (.object "BusBridge$Sum") := ⟨(RX3, TX3, 8), tyX3, rfl, by decide, bz_mw 198 (by decide +kernel), inX3, tyX3_ok, nmX3, rfl, rfl, fun _ => rfl⟩
theorem fl_X3_48 : bz_fl RX3 48 3 6 := ⟨(RX3, TX3, 8), rfl, by decide, bz_mw 199 (by decide +kernel), inX3⟩
theorem fp_X3_48 : bz_fp RX3 48 3 6 false .int := ⟨(RX3, TX3, 8), tyX3, rfl, by decide, bz_mw 199 (by decide +kernel), inX3, tyX3_ok, nmX3, rfl, rfl, fun h => by cases h⟩
theorem fl_X0_107 : bz_fl RX0 107 3 6 := ⟨(RX3, TX3, 8), rfl, by decide, bz_mw 200 (by decide +kernel), inX3⟩
theorem fp_X0_107 : bz_fp RX0 107 3 6 false .int := ⟨(RX3, TX3, 8), tyX3, rfl, by decide, bz_mw 200 (by decide +kernel), inX3, tyX3_ok, nmX3, rfl, rfl, fun h => by cases h⟩
theorem fl_X5_54 : bz_fl RX5 54 3 6 := ⟨(RX3, TX3, 8), rfl, by decide, bz_mw 201 (by decide +kernel), inX3⟩
theorem fp_X5_54 : bz_fp RX5 54 3 6 false .int := ⟨(RX3, TX3, 8), tyX3, rfl, by decide, bz_mw 201 (by decide +kernel), inX3, tyX3_ok, nmX3, rfl, rfl, fun h => by cases h⟩
theorem fl_X3_52 : bz_fl RX3 52 3 7 := ⟨(RX3, TX3, 8), rfl, by decide, bz_mw 202 (by decide +kernel), inX3⟩
theorem fp_X3_52 : bz_fp RX3 52 3 7 false .int := ⟨(RX3, TX3, 8), tyX3, rfl, by decide, bz_mw 202 (by decide +kernel), inX3, tyX3_ok, nmX3, rfl, rfl, fun h => by cases h⟩
theorem fl_X0_111 : bz_fl RX0 111 3 7 := ⟨(RX3, TX3, 8), rfl, by decide, bz_mw 203 (by decide +kernel), inX3⟩
theorem fp_X0_111 : bz_fp RX0 111 3 7 false .int := ⟨(RX3, TX3, 8), tyX3, rfl, by decide, bz_mw 203 (by decide +kernel), inX3, tyX3_ok, nmX3, rfl, rfl, fun h => by cases h⟩
theorem fl_X8_280 : bz_fl RX8 280 3 7 := ⟨(RX3, TX3, 8), rfl, by decide, bz_mw 204 (by decide +kernel), inX3⟩
theorem fp_X8_280 : bz_fp RX8 280 3 7 false .int := ⟨(RX3, TX3, 8), tyX3, rfl, by decide, bz_mw 204 (by decide +kernel), inX3, tyX3_ok, nmX3, rfl, rfl, fun h => by cases h⟩
theorem fl_X2_11 : bz_fl RX2 11 2 0 := ⟨(RX2, TX2, 3), rfl, by decide, bz_mw 240 (by decide +kernel), inX2⟩
theorem fp_X2_11 : bz_fp RX2 11 2 0 true (.array .int) := ⟨(RX2, TX2, 3), tyX2, rfl, by decide, bz_mw 240 (by decide +kernel), inX2, tyX2_ok, nmX2, rfl, rfl, fun _ => rfl⟩
theorem fl_X2_15 : bz_fl RX2 15 2 1 := ⟨(RX2, TX2, 3), rfl, by decide, bz_mw 241 (by decide +kernel), inX2⟩
theorem fp_X2_15 : bz_fp RX2 15 2 1 true (.array .int) := ⟨(RX2, TX2, 3), tyX2, rfl, by decide, bz_mw 241 (by decide +kernel), inX2, tyX2_ok, nmX2, rfl, rfl, fun _ => rfl⟩
theorem fl_X2_18 : bz_fl RX2 18 2 2 := ⟨(RX2, TX2, 3), rfl, by decide, bz_mw 242 (by decide +kernel), inX2⟩
theorem fp_X2_18 : bz_fp RX2 18 2 2 false .int := ⟨(RX2, TX2, 3), tyX2, rfl, by decide, bz_mw 242 (by decide +kernel), inX2, tyX2_ok, nmX2, rfl, rfl, fun h => by cases h⟩
theorem fl_X4_68 : bz_fl RX4 68 2 2 := ⟨(RX2, TX2, 3), rfl, by decide, bz_mw 243 (by decide +kernel), inX2⟩
theorem fp_X4_68 : bz_fp RX4 68 2 2 false .int := ⟨(RX2, TX2, 3), tyX2, rfl, by decide, bz_mw 243 (by decide +kernel), inX2, tyX2_ok, nmX2, rfl, rfl, fun h => by cases h⟩
theorem fl_X5_37 : bz_fl RX5 37 2 2 := ⟨(RX2, TX2, 3), rfl, by decide, bz_mw 244 (by decide +kernel), inX2⟩
theorem fp_X5_37 : bz_fp RX5 37 2 2 false .int := ⟨(RX2, TX2, 3), tyX2, rfl, by decide, bz_mw 244 (by decide +kernel), inX2, tyX2_ok, nmX2, rfl, rfl, fun h => by cases h⟩
theorem fl_X8_129 : bz_fl RX8 129 2 2 := ⟨(RX2, TX2, 3), rfl, by decide, bz_mw 245 (by decide +kernel), inX2⟩
theorem fp_X8_129 : bz_fp RX8 129 2 2 false .int := ⟨(RX2, TX2, 3), tyX2, rfl, by decide, bz_mw 245 (by decide +kernel), inX2, tyX2_ok, nmX2, rfl, rfl, fun h => by cases h⟩
theorem fl_X7_9 : bz_fl RX7 9 7 0 := ⟨(RX7, TX7, 4), rfl, by decide, bz_mw 259 (by decide +kernel), inX7⟩
theorem fp_X7_9 : bz_fp RX7 9 7 0 true (.array .int) := ⟨(RX7, TX7, 4), tyX7, rfl, by decide, bz_mw 259 (by decide +kernel), inX7, tyX7_ok, nmX7, rfl, rfl, fun _ => rfl⟩
theorem fl_X7_15 : bz_fl RX7 15 7 1 := ⟨(RX7, TX7, 4), rfl, by decide, bz_mw 260 (by decide +kernel), inX7⟩
theorem fp_X7_15 : bz_fp RX7 15 7 1 true (.array .int) := ⟨(RX7, TX7, 4), tyX7, rfl, by decide, bz_mw 260 (by decide +kernel), inX7, tyX7_ok, nmX7, rfl, rfl, fun _ => rfl⟩
theorem fl_X7_18 : bz_fl RX7 18 7 2 := ⟨(RX7, TX7, 4), rfl, by decide, bz_mw 261 (by decide +kernel), inX7⟩
theorem fp_X7_18 : bz_fp RX7 18 7 2 true (.array .int) := ⟨(RX7, TX7, 4), tyX7, rfl, by decide, bz_mw 261 (by decide +kernel), inX7, tyX7_ok, nmX7, rfl, rfl, fun _ => rfl⟩
theorem fl_X7_21 : bz_fl RX7 21 7 3 := ⟨(RX7, TX7, 4), rfl, by decide, bz_mw 262 (by decide +kernel), inX7⟩
theorem fp_X7_21 : bz_fp RX7 21 7 3 true (.array .int) := ⟨(RX7, TX7, 4), tyX7, rfl, by decide, bz_mw 262 (by decide +kernel), inX7, tyX7_ok, nmX7, rfl, rfl, fun _ => rfl⟩
theorem fl_X4_12 : bz_fl RX4 12 4 0 := ⟨(RX4, TX4, 7), rfl, by decide, bz_mw 272 (by decide +kernel), inX4⟩
theorem fp_X4_12 : bz_fp RX4 12 4 0 true (.object "BusBridge$Line") := ⟨(RX4, TX4, 7), tyX4, rfl, by decide, bz_mw 272 (by decide +kernel), inX4, tyX4_ok, nmX4, rfl, rfl, fun _ => rfl⟩
theorem fl_X5_33 : bz_fl RX5 33 4 0 := ⟨(RX4, TX4, 7), rfl, by decide, bz_mw 273 (by decide +kernel), inX4⟩
theorem fl_X8_123 : bz_fl RX8 123 4 0 := ⟨(RX4, TX4, 7), rfl, by decide, bz_mw 274 (by decide +kernel), inX4⟩
theorem fl_X4_18 : bz_fl RX4 18 4 1 := ⟨(RX4, TX4, 7), rfl, by decide, bz_mw 275 (by decide +kernel), inX4⟩
theorem fp_X4_18 : bz_fp RX4 18 4 1 true (.object "BusBridge$Line") := ⟨(RX4, TX4, 7), tyX4, rfl, by decide, bz_mw 275 (by decide +kernel), inX4, tyX4_ok, nmX4, rfl, rfl, fun _ => rfl⟩
theorem fl_X5_42 : bz_fl RX5 42 4 1 := ⟨(RX4, TX4, 7), rfl, by decide, bz_mw 276 (by decide +kernel), inX4⟩
theorem fl_X8_149 : bz_fl RX8 149 4 1 := ⟨(RX4, TX4, 7), rfl, by decide, bz_mw 277 (by decide +kernel), inX4⟩
theorem fl_X4_24 : bz_fl RX4 24 4 2 := ⟨(RX4, TX4, 7), rfl, by decide, bz_mw 278 (by decide +kernel), inX4⟩
theorem fp_X4_24 : bz_fp RX4 24 4 2 true (.object "BusBridge$Tags") := ⟨(RX4, TX4, 7), tyX4, rfl, by decide, bz_mw 278 (by decide +kernel), inX4, tyX4_ok, nmX4, rfl, rfl, fun _ => rfl⟩
theorem fl_X8_167 : bz_fl RX8 167 4 2 := ⟨(RX4, TX4, 7), rfl, by decide, bz_mw 279 (by decide +kernel), inX4⟩
theorem fl_X4_28 : bz_fl RX4 28 4 3 := ⟨(RX4, TX4, 7), rfl, by decide, bz_mw 280 (by decide +kernel), inX4⟩
theorem fp_X4_28 : bz_fp RX4 28 4 3 true (.array .int) := ⟨(RX4, TX4, 7), tyX4, rfl, by decide, bz_mw 280 (by decide +kernel), inX4, tyX4_ok, nmX4, rfl, rfl, fun _ => rfl⟩
theorem fl_X4_45 : bz_fl RX4 45 4 4 := ⟨(RX4, TX4, 7), rfl, by decide, bz_mw 281 (by decide +kernel), inX4⟩
theorem fp_X4_45 : bz_fp RX4 45 4 4 false .int := ⟨(RX4, TX4, 7), tyX4, rfl, by decide, bz_mw 281 (by decide +kernel), inX4, tyX4_ok, nmX4, rfl, rfl, fun h => by cases h⟩
theorem fl_X5_45 : bz_fl RX5 45 4 4 := ⟨(RX4, TX4, 7), rfl, by decide, bz_mw 282 (by decide +kernel), inX4⟩
theorem fp_X5_45 : bz_fp RX5 45 4 4 false .int := ⟨(RX4, TX4, 7), tyX4, rfl, by decide, bz_mw 282 (by decide +kernel), inX4, tyX4_ok, nmX4, rfl, rfl, fun h => by cases h⟩
theorem fl_X8_190 : bz_fl RX8 190 4 4 := ⟨(RX4, TX4, 7), rfl, by decide, bz_mw 283 (by decide +kernel), inX4⟩
theorem fp_X8_190 : bz_fp RX8 190 4 4 false .int := ⟨(RX4, TX4, 7), tyX4, rfl, by decide, bz_mw 283 (by decide +kernel), inX4, tyX4_ok, nmX4, rfl, rfl, fun h => by cases h⟩
theorem fl_X4_49 : bz_fl RX4 49 4 5 := ⟨(RX4, TX4, 7), rfl, by decide, bz_mw 284 (by decide +kernel), inX4⟩
theorem fp_X4_49 : bz_fp RX4 49 4 5 false .int := ⟨(RX4, TX4, 7), tyX4, rfl, by decide, bz_mw 284 (by decide +kernel), inX4, tyX4_ok, nmX4, rfl, rfl, fun h => by cases h⟩
theorem fl_X8_193 : bz_fl RX8 193 4 5 := ⟨(RX4, TX4, 7), rfl, by decide, bz_mw 285 (by decide +kernel), inX4⟩
theorem fp_X8_193 : bz_fp RX8 193 4 5 false .int := ⟨(RX4, TX4, 7), tyX4, rfl, by decide, bz_mw 285 (by decide +kernel), inX4, tyX4_ok, nmX4, rfl, rfl, fun h => by cases h⟩
theorem fl_X4_52 : bz_fl RX4 52 4 6 := ⟨(RX4, TX4, 7), rfl, by decide, bz_mw 286 (by decide +kernel), inX4⟩
theorem fp_X4_52 : bz_fp RX4 52 4 6 false .int := ⟨(RX4, TX4, 7), tyX4, rfl, by decide, bz_mw 286 (by decide +kernel), inX4, tyX4_ok, nmX4, rfl, rfl, fun h => by cases h⟩
theorem fl_X8_204 : bz_fl RX8 204 4 6 := ⟨(RX4, TX4, 7), rfl, by decide, bz_mw 287 (by decide +kernel), inX4⟩
theorem fp_X8_204 : bz_fp RX8 204 4 6 false .int := ⟨(RX4, TX4, 7), tyX4, rfl, by decide, bz_mw 287 (by decide +kernel), inX4, tyX4_ok, nmX4, rfl, rfl, fun h => by cases h⟩
theorem fl_X5_21 : bz_fl RX5 21 5 0 := ⟨(RX5, TX5, 4), rfl, by decide, bz_mw 303 (by decide +kernel), inX5⟩
theorem fp_X5_21 : bz_fp RX5 21 5 0 false .int := ⟨(RX5, TX5, 4), tyX5, rfl, by decide, bz_mw 303 (by decide +kernel), inX5, tyX5_ok, nmX5, rfl, rfl, fun h => by cases h⟩
theorem fl_X8_98 : bz_fl RX8 98 5 0 := ⟨(RX5, TX5, 4), rfl, by decide, bz_mw 304 (by decide +kernel), inX5⟩
theorem fp_X8_98 : bz_fp RX8 98 5 0 false .int := ⟨(RX5, TX5, 4), tyX5, rfl, by decide, bz_mw 304 (by decide +kernel), inX5, tyX5_ok, nmX5, rfl, rfl, fun h => by cases h⟩
theorem fl_X5_65 : bz_fl RX5 65 5 1 := ⟨(RX5, TX5, 4), rfl, by decide, bz_mw 305 (by decide +kernel), inX5⟩
theorem fp_X5_65 : bz_fp RX5 65 5 1 false .boolean := ⟨(RX5, TX5, 4), tyX5, rfl, by decide, bz_mw 305 (by decide +kernel), inX5, tyX5_ok, nmX5, rfl, rfl, fun h => by cases h⟩
theorem fl_X8_215 : bz_fl RX8 215 5 1 := ⟨(RX5, TX5, 4), rfl, by decide, bz_mw 306 (by decide +kernel), inX5⟩
theorem fp_X8_215 : bz_fp RX8 215 5 1 false .boolean := ⟨(RX5, TX5, 4), tyX5, rfl, by decide, bz_mw 306 (by decide +kernel), inX5, tyX5_ok, nmX5, rfl, rfl, fun h => by cases h⟩
theorem fl_X5_12 : bz_fl RX5 12 5 2 := ⟨(RX5, TX5, 4), rfl, by decide, bz_mw 307 (by decide +kernel), inX5⟩
theorem fp_X5_12 : bz_fp RX5 12 5 2 true (.object "BusBridge$Port") := ⟨(RX5, TX5, 4), tyX5, rfl, by decide, bz_mw 307 (by decide +kernel), inX5, tyX5_ok, nmX5, rfl, rfl, fun _ => rfl⟩
theorem fl_X5_18 : bz_fl RX5 18 5 3 := ⟨(RX5, TX5, 4), rfl, by decide, bz_mw 308 (by decide +kernel), inX5⟩
theorem fp_X5_18 : bz_fp RX5 18 5 3 true (.object "BusBridge$Port") := ⟨(RX5, TX5, 4), tyX5, rfl, by decide, bz_mw 308 (by decide +kernel), inX5, tyX5_ok, nmX5, rfl, rfl, fun _ => rfl⟩
theorem fl_X1_11 : bz_fl RX1 11 1 0 := ⟨(RX1, TX1, 3), rfl, by decide, bz_mw 327 (by decide +kernel), inX1⟩
theorem fp_X1_11 : bz_fp RX1 11 1 0 true (.array (.object "BusBridge$Situation")) := ⟨(RX1, TX1, 3), tyX1, rfl, by decide, bz_mw 327 (by decide +kernel), inX1, tyX1_ok, nmX1, rfl, rfl, fun _ => rfl⟩
theorem fl_X1_22 : bz_fl RX1 22 1 1 := ⟨(RX1, TX1, 3), rfl, by decide, bz_mw 328 (by decide +kernel), inX1⟩
theorem fp_X1_22 : bz_fp RX1 22 1 1 false .int := ⟨(RX1, TX1, 3), tyX1, rfl, by decide, bz_mw 328 (by decide +kernel), inX1, tyX1_ok, nmX1, rfl, rfl, fun h => by cases h⟩
theorem fl_X1_18 : bz_fl RX1 18 1 2 := ⟨(RX1, TX1, 3), rfl, by decide, bz_mw 329 (by decide +kernel), inX1⟩
theorem fp_X1_18 : bz_fp RX1 18 1 2 false .int := ⟨(RX1, TX1, 3), tyX1, rfl, by decide, bz_mw 329 (by decide +kernel), inX1, tyX1_ok, nmX1, rfl, rfl, fun h => by cases h⟩
theorem fl_X8_9 : bz_fl RX8 9 8 0 := ⟨(RX8, TX8, 13), rfl, by decide, bz_mw 381 (by decide +kernel), inX8⟩
theorem fp_X8_9 : bz_fp RX8 9 8 0 true (.array .byte) := ⟨(RX8, TX8, 13), tyX8, rfl, by decide, bz_mw 381 (by decide +kernel), inX8, tyX8_ok, nmX8, rfl, rfl, fun _ => rfl⟩
theorem fl_X8_64 : bz_fl RX8 64 8 1 := ⟨(RX8, TX8, 13), rfl, by decide, bz_mw 382 (by decide +kernel), inX8⟩
theorem fp_X8_64 : bz_fp RX8 64 8 1 false .int := ⟨(RX8, TX8, 13), tyX8, rfl, by decide, bz_mw 382 (by decide +kernel), inX8, tyX8_ok, nmX8, rfl, rfl, fun h => by cases h⟩
theorem fl_X8_53 : bz_fl RX8 53 8 2 := ⟨(RX8, TX8, 13), rfl, by decide, bz_mw 383 (by decide +kernel), inX8⟩
theorem fp_X8_53 : bz_fp RX8 53 8 2 false .int := ⟨(RX8, TX8, 13), tyX8, rfl, by decide, bz_mw 383 (by decide +kernel), inX8, tyX8_ok, nmX8, rfl, rfl, fun h => by cases h⟩
theorem fl_X8_16 : bz_fl RX8 16 8 3 := ⟨(RX8, TX8, 13), rfl, by decide, bz_mw 384 (by decide +kernel), inX8⟩
theorem fp_X8_16 : bz_fp RX8 16 8 3 true (.object "BusBridge$BridgeText") := ⟨(RX8, TX8, 13), tyX8, rfl, by decide, bz_mw 384 (by decide +kernel), inX8, tyX8_ok, nmX8, rfl, rfl, fun _ => rfl⟩
theorem fl_X8_23 : bz_fl RX8 23 8 4 := ⟨(RX8, TX8, 13), rfl, by decide, bz_mw 385 (by decide +kernel), inX8⟩
theorem fp_X8_23 : bz_fp RX8 23 8 4 false (.object "BusBridge$Plan") := ⟨(RX8, TX8, 13), tyX8, rfl, by decide, bz_mw 385 (by decide +kernel), inX8, tyX8_ok, nmX8, rfl, rfl, fun h => by cases h⟩
theorem fl_X8_27 : bz_fl RX8 27 8 5 := ⟨(RX8, TX8, 13), rfl, by decide, bz_mw 386 (by decide +kernel), inX8⟩
theorem fp_X8_27 : bz_fp RX8 27 8 5 false (.object "BusBridge$Plan") := ⟨(RX8, TX8, 13), tyX8, rfl, by decide, bz_mw 386 (by decide +kernel), inX8, tyX8_ok, nmX8, rfl, rfl, fun h => by cases h⟩
theorem fl_X8_33 : bz_fl RX8 33 8 6 := ⟨(RX8, TX8, 13), rfl, by decide, bz_mw 387 (by decide +kernel), inX8⟩
theorem fp_X8_33 : bz_fp RX8 33 8 6 true (.object "BusBridge$Situation") := ⟨(RX8, TX8, 13), tyX8, rfl, by decide, bz_mw 387 (by decide +kernel), inX8, tyX8_ok, nmX8, rfl, rfl, fun _ => rfl⟩
theorem fl_X8_37 : bz_fl RX8 37 8 7 := ⟨(RX8, TX8, 13), rfl, by decide, bz_mw 388 (by decide +kernel), inX8⟩
theorem fp_X8_37 : bz_fp RX8 37 8 7 true (.object "BusBridge$Situation") := ⟨(RX8, TX8, 13), tyX8, rfl, by decide, bz_mw 388 (by decide +kernel), inX8, tyX8_ok, nmX8, rfl, rfl, fun _ => rfl⟩
theorem fl_X8_43 : bz_fl RX8 43 8 8 := ⟨(RX8, TX8, 13), rfl, by decide, bz_mw 389 (by decide +kernel), inX8⟩
theorem fp_X8_43 : bz_fp RX8 43 8 8 true (.object "BusBridge$History") := ⟨(RX8, TX8, 13), tyX8, rfl, by decide, bz_mw 389 (by decide +kernel), inX8, tyX8_ok, nmX8, rfl, rfl, fun _ => rfl⟩
theorem fl_X8_47 : bz_fl RX8 47 8 9 := ⟨(RX8, TX8, 13), rfl, by decide, bz_mw 390 (by decide +kernel), inX8⟩
theorem fp_X8_47 : bz_fp RX8 47 8 9 true (.object "BusBridge$Situation") := ⟨(RX8, TX8, 13), tyX8, rfl, by decide, bz_mw 390 (by decide +kernel), inX8, tyX8_ok, nmX8, rfl, rfl, fun _ => rfl⟩
theorem fl_X8_50 : bz_fl RX8 50 8 10 := ⟨(RX8, TX8, 13), rfl, by decide, bz_mw 391 (by decide +kernel), inX8⟩
theorem fp_X8_50 : bz_fp RX8 50 8 10 true (.object "BusBridge$Situation") := ⟨(RX8, TX8, 13), tyX8, rfl, by decide, bz_mw 391 (by decide +kernel), inX8, tyX8_ok, nmX8, rfl, rfl, fun _ => rfl⟩
theorem fl_X8_91 : bz_fl RX8 91 8 11 := ⟨(RX8, TX8, 13), rfl, by decide, bz_mw 392 (by decide +kernel), inX8⟩
theorem fp_X8_91 : bz_fp RX8 91 8 11 false .boolean := ⟨(RX8, TX8, 13), tyX8, rfl, by decide, bz_mw 392 (by decide +kernel), inX8, tyX8_ok, nmX8, rfl, rfl, fun h => by cases h⟩
theorem fl_X8_95 : bz_fl RX8 95 8 12 := ⟨(RX8, TX8, 13), rfl, by decide, bz_mw 393 (by decide +kernel), inX8⟩
theorem fp_X8_95 : bz_fp RX8 95 8 12 false .boolean := ⟨(RX8, TX8, 13), tyX8, rfl, by decide, bz_mw 393 (by decide +kernel), inX8, tyX8_ok, nmX8, rfl, rfl, fun h => by cases h⟩
theorem fl_X9_70 : bz_fl RX9 70 9 0 := ⟨(RX9, TX9, 31), rfl, by decide, bz_mw 1215 (by decide +kernel), inX9⟩
theorem fp_X9_70 : bz_fp RX9 70 9 0 false .int := ⟨(RX9, TX9, 31), tyX9, rfl, by decide, bz_mw 1215 (by decide +kernel), inX9, tyX9_ok, nmX9, rfl, rfl, fun h => by cases h⟩
theorem fl_X9_7 : bz_fl RX9 7 9 1 := ⟨(RX9, TX9, 31), rfl, by decide, bz_mw 1216 (by decide +kernel), inX9⟩
theorem fp_X9_7 : bz_fp RX9 7 9 1 true (.array .int) := ⟨(RX9, TX9, 31), tyX9, rfl, by decide, bz_mw 1216 (by decide +kernel), inX9, tyX9_ok, nmX9, rfl, rfl, fun _ => rfl⟩
theorem fl_X9_13 : bz_fl RX9 13 9 2 := ⟨(RX9, TX9, 31), rfl, by decide, bz_mw 1217 (by decide +kernel), inX9⟩
theorem fp_X9_13 : bz_fp RX9 13 9 2 true (.array .int) := ⟨(RX9, TX9, 31), tyX9, rfl, by decide, bz_mw 1217 (by decide +kernel), inX9, tyX9_ok, nmX9, rfl, rfl, fun _ => rfl⟩
theorem fl_X9_16 : bz_fl RX9 16 9 3 := ⟨(RX9, TX9, 31), rfl, by decide, bz_mw 1218 (by decide +kernel), inX9⟩
theorem fp_X9_16 : bz_fp RX9 16 9 3 true (.array .int) := ⟨(RX9, TX9, 31), tyX9, rfl, by decide, bz_mw 1218 (by decide +kernel), inX9, tyX9_ok, nmX9, rfl, rfl, fun _ => rfl⟩
theorem fl_X9_19 : bz_fl RX9 19 9 4 := ⟨(RX9, TX9, 31), rfl, by decide, bz_mw 1219 (by decide +kernel), inX9⟩
theorem fp_X9_19 : bz_fp RX9 19 9 4 true (.array .int) := ⟨(RX9, TX9, 31), tyX9, rfl, by decide, bz_mw 1219 (by decide +kernel), inX9, tyX9_ok, nmX9, rfl, rfl, fun _ => rfl⟩
theorem fl_X9_22 : bz_fl RX9 22 9 5 := ⟨(RX9, TX9, 31), rfl, by decide, bz_mw 1220 (by decide +kernel), inX9⟩
theorem fp_X9_22 : bz_fp RX9 22 9 5 true (.array .int) := ⟨(RX9, TX9, 31), tyX9, rfl, by decide, bz_mw 1220 (by decide +kernel), inX9, tyX9_ok, nmX9, rfl, rfl, fun _ => rfl⟩
theorem fl_X9_25 : bz_fl RX9 25 9 6 := ⟨(RX9, TX9, 31), rfl, by decide, bz_mw 1221 (by decide +kernel), inX9⟩
theorem fp_X9_25 : bz_fp RX9 25 9 6 true (.array .int) := ⟨(RX9, TX9, 31), tyX9, rfl, by decide, bz_mw 1221 (by decide +kernel), inX9, tyX9_ok, nmX9, rfl, rfl, fun _ => rfl⟩
theorem fl_X9_28 : bz_fl RX9 28 9 7 := ⟨(RX9, TX9, 31), rfl, by decide, bz_mw 1222 (by decide +kernel), inX9⟩
theorem fp_X9_28 : bz_fp RX9 28 9 7 true (.array .int) := ⟨(RX9, TX9, 31), tyX9, rfl, by decide, bz_mw 1222 (by decide +kernel), inX9, tyX9_ok, nmX9, rfl, rfl, fun _ => rfl⟩
theorem fl_X9_31 : bz_fl RX9 31 9 8 := ⟨(RX9, TX9, 31), rfl, by decide, bz_mw 1223 (by decide +kernel), inX9⟩
theorem fp_X9_31 : bz_fp RX9 31 9 8 true (.array .int) := ⟨(RX9, TX9, 31), tyX9, rfl, by decide, bz_mw 1223 (by decide +kernel), inX9, tyX9_ok, nmX9, rfl, rfl, fun _ => rfl⟩
theorem fl_X9_34 : bz_fl RX9 34 9 9 := ⟨(RX9, TX9, 31), rfl, by decide, bz_mw 1224 (by decide +kernel), inX9⟩
theorem fp_X9_34 : bz_fp RX9 34 9 9 true (.array .byte) := ⟨(RX9, TX9, 31), tyX9, rfl, by decide, bz_mw 1224 (by decide +kernel), inX9, tyX9_ok, nmX9, rfl, rfl, fun _ => rfl⟩
theorem fl_X9_88 : bz_fl RX9 88 9 10 := ⟨(RX9, TX9, 31), rfl, by decide, bz_mw 1225 (by decide +kernel), inX9⟩
theorem fp_X9_88 : bz_fp RX9 88 9 10 false .int := ⟨(RX9, TX9, 31), tyX9, rfl, by decide, bz_mw 1225 (by decide +kernel), inX9, tyX9_ok, nmX9, rfl, rfl, fun h => by cases h⟩
theorem fl_X9_95 : bz_fl RX9 95 9 11 := ⟨(RX9, TX9, 31), rfl, by decide, bz_mw 1226 (by decide +kernel), inX9⟩
theorem fp_X9_95 : bz_fp RX9 95 9 11 false .int := ⟨(RX9, TX9, 31), tyX9, rfl, by decide, bz_mw 1226 (by decide +kernel), inX9, tyX9_ok, nmX9, rfl, rfl, fun h => by cases h⟩
theorem fl_X9_105 : bz_fl RX9 105 9 12 := ⟨(RX9, TX9, 31), rfl, by decide, bz_mw 1227 (by decide +kernel), inX9⟩
theorem fp_X9_105 : bz_fp RX9 105 9 12 false .int := ⟨(RX9, TX9, 31), tyX9, rfl, by decide, bz_mw 1227 (by decide +kernel), inX9, tyX9_ok, nmX9, rfl, rfl, fun h => by cases h⟩
theorem fl_X9_98 : bz_fl RX9 98 9 13 := ⟨(RX9, TX9, 31), rfl, by decide, bz_mw 1228 (by decide +kernel), inX9⟩
theorem fp_X9_98 : bz_fp RX9 98 9 13 false .int := ⟨(RX9, TX9, 31), tyX9, rfl, by decide, bz_mw 1228 (by decide +kernel), inX9, tyX9_ok, nmX9, rfl, rfl, fun h => by cases h⟩
theorem fl_X9_111 : bz_fl RX9 111 9 14 := ⟨(RX9, TX9, 31), rfl, by decide, bz_mw 1229 (by decide +kernel), inX9⟩
theorem fp_X9_111 : bz_fp RX9 111 9 14 false .int := ⟨(RX9, TX9, 31), tyX9, rfl, by decide, bz_mw 1229 (by decide +kernel), inX9, tyX9_ok, nmX9, rfl, rfl, fun h => by cases h⟩
theorem fl_X9_108 : bz_fl RX9 108 9 15 := ⟨(RX9, TX9, 31), rfl, by decide, bz_mw 1230 (by decide +kernel), inX9⟩
theorem fp_X9_108 : bz_fp RX9 108 9 15 false .int := ⟨(RX9, TX9, 31), tyX9, rfl, by decide, bz_mw 1230 (by decide +kernel), inX9, tyX9_ok, nmX9, rfl, rfl, fun h => by cases h⟩
theorem fl_X9_130 : bz_fl RX9 130 9 16 := ⟨(RX9, TX9, 31), rfl, by decide, bz_mw 1231 (by decide +kernel), inX9⟩
theorem fp_X9_130 : bz_fp RX9 130 9 16 false .int := ⟨(RX9, TX9, 31), tyX9, rfl, by decide, bz_mw 1231 (by decide +kernel), inX9, tyX9_ok, nmX9, rfl, rfl, fun h => by cases h⟩
theorem fl_X9_38 : bz_fl RX9 38 9 17 := ⟨(RX9, TX9, 31), rfl, by decide, bz_mw 1232 (by decide +kernel), inX9⟩
theorem fp_X9_38 : bz_fp RX9 38 9 17 false .int := ⟨(RX9, TX9, 31), tyX9, rfl, by decide, bz_mw 1232 (by decide +kernel), inX9, tyX9_ok, nmX9, rfl, rfl, fun h => by cases h⟩
theorem fl_X9_136 : bz_fl RX9 136 9 18 := ⟨(RX9, TX9, 31), rfl, by decide, bz_mw 1233 (by decide +kernel), inX9⟩
theorem fp_X9_136 : bz_fp RX9 136 9 18 false .int := ⟨(RX9, TX9, 31), tyX9, rfl, by decide, bz_mw 1233 (by decide +kernel), inX9, tyX9_ok, nmX9, rfl, rfl, fun h => by cases h⟩
theorem fl_X9_145 : bz_fl RX9 145 9 19 := ⟨(RX9, TX9, 31), rfl, by decide, bz_mw 1234 (by decide +kernel), inX9⟩
theorem fp_X9_145 : bz_fp RX9 145 9 19 false .int := ⟨(RX9, TX9, 31), tyX9, rfl, by decide, bz_mw 1234 (by decide +kernel), inX9, tyX9_ok, nmX9, rfl, rfl, fun h => by cases h⟩
theorem fl_X9_81 : bz_fl RX9 81 9 20 := ⟨(RX9, TX9, 31), rfl, by decide, bz_mw 1235 (by decide +kernel), inX9⟩
theorem fp_X9_81 : bz_fp RX9 81 9 20 false .int := ⟨(RX9, TX9, 31), tyX9, rfl, by decide, bz_mw 1235 (by decide +kernel), inX9, tyX9_ok, nmX9, rfl, rfl, fun h => by cases h⟩
theorem fl_X9_182 : bz_fl RX9 182 9 21 := ⟨(RX9, TX9, 31), rfl, by decide, bz_mw 1236 (by decide +kernel), inX9⟩
theorem fp_X9_182 : bz_fp RX9 182 9 21 false .int := ⟨(RX9, TX9, 31), tyX9, rfl, by decide, bz_mw 1236 (by decide +kernel), inX9, tyX9_ok, nmX9, rfl, rfl, fun h => by cases h⟩
theorem fl_X9_42 : bz_fl RX9 42 9 22 := ⟨(RX9, TX9, 31), rfl, by decide, bz_mw 1237 (by decide +kernel), inX9⟩
theorem fp_X9_42 : bz_fp RX9 42 9 22 true (.array .int) := ⟨(RX9, TX9, 31), tyX9, rfl, by decide, bz_mw 1237 (by decide +kernel), inX9, tyX9_ok, nmX9, rfl, rfl, fun _ => rfl⟩
theorem fl_X9_45 : bz_fl RX9 45 9 23 := ⟨(RX9, TX9, 31), rfl, by decide, bz_mw 1238 (by decide +kernel), inX9⟩
theorem fp_X9_45 : bz_fp RX9 45 9 23 true (.array .int) := ⟨(RX9, TX9, 31), tyX9, rfl, by decide, bz_mw 1238 (by decide +kernel), inX9, tyX9_ok, nmX9, rfl, rfl, fun _ => rfl⟩
theorem fl_X9_285 : bz_fl RX9 285 9 24 := ⟨(RX9, TX9, 31), rfl, by decide, bz_mw 1239 (by decide +kernel), inX9⟩
theorem fp_X9_285 : bz_fp RX9 285 9 24 false .boolean := ⟨(RX9, TX9, 31), tyX9, rfl, by decide, bz_mw 1239 (by decide +kernel), inX9, tyX9_ok, nmX9, rfl, rfl, fun h => by cases h⟩
theorem fl_X9_48 : bz_fl RX9 48 9 25 := ⟨(RX9, TX9, 31), rfl, by decide, bz_mw 1240 (by decide +kernel), inX9⟩
theorem fp_X9_48 : bz_fp RX9 48 9 25 true (.array .int) := ⟨(RX9, TX9, 31), tyX9, rfl, by decide, bz_mw 1240 (by decide +kernel), inX9, tyX9_ok, nmX9, rfl, rfl, fun _ => rfl⟩
theorem fl_X9_312 : bz_fl RX9 312 9 26 := ⟨(RX9, TX9, 31), rfl, by decide, bz_mw 1241 (by decide +kernel), inX9⟩
theorem fp_X9_312 : bz_fp RX9 312 9 26 false .boolean := ⟨(RX9, TX9, 31), tyX9, rfl, by decide, bz_mw 1241 (by decide +kernel), inX9, tyX9_ok, nmX9, rfl, rfl, fun h => by cases h⟩
theorem fl_X9_217 : bz_fl RX9 217 9 27 := ⟨(RX9, TX9, 31), rfl, by decide, bz_mw 1242 (by decide +kernel), inX9⟩
theorem fp_X9_217 : bz_fp RX9 217 9 27 false .int := ⟨(RX9, TX9, 31), tyX9, rfl, by decide, bz_mw 1242 (by decide +kernel), inX9, tyX9_ok, nmX9, rfl, rfl, fun h => by cases h⟩
theorem fl_X9_51 : bz_fl RX9 51 9 28 := ⟨(RX9, TX9, 31), rfl, by decide, bz_mw 1243 (by decide +kernel), inX9⟩
theorem fp_X9_51 : bz_fp RX9 51 9 28 true (.array .int) := ⟨(RX9, TX9, 31), tyX9, rfl, by decide, bz_mw 1243 (by decide +kernel), inX9, tyX9_ok, nmX9, rfl, rfl, fun _ => rfl⟩
theorem fl_X9_54 : bz_fl RX9 54 9 29 := ⟨(RX9, TX9, 31), rfl, by decide, bz_mw 1244 (by decide +kernel), inX9⟩
theorem fp_X9_54 : bz_fp RX9 54 9 29 true (.array .int) := ⟨(RX9, TX9, 31), tyX9, rfl, by decide, bz_mw 1244 (by decide +kernel), inX9, tyX9_ok, nmX9, rfl, rfl, fun _ => rfl⟩
theorem fl_X9_57 : bz_fl RX9 57 9 30 := ⟨(RX9, TX9, 31), rfl, by decide, bz_mw 1245 (by decide +kernel), inX9⟩
theorem fp_X9_57 : bz_fp RX9 57 9 30 true (.array .boolean) := ⟨(RX9, TX9, 31), tyX9, rfl, by decide, bz_mw 1245 (by decide +kernel), inX9, tyX9_ok, nmX9, rfl, rfl, fun _ => rfl⟩
theorem kd_X8_init : bz_kd mX8_init 0 := ⟨bz_mw 113 (by decide +kernel), bz_mw 83 (by decide +kernel), by decide +kernel, by decide⟩
theorem kd_X0_init : bz_kd mX0_init 0 := ⟨bz_mw 121 (by decide +kernel), bz_mw 84 (by decide +kernel), by decide +kernel, by decide⟩
theorem kd_X3_init : bz_kd mX3_init 0 := ⟨bz_mw 170 (by decide +kernel), bz_mw 85 (by decide +kernel), by decide +kernel, by decide⟩
theorem kd_X6_init : bz_kd mX6_init 0 := ⟨bz_mw 176 (by decide +kernel), bz_mw 86 (by decide +kernel), by decide +kernel, by decide⟩
theorem kd_X5_init : bz_kd mX5_init 0 := ⟨bz_mw 226 (by decide +kernel), bz_mw 87 (by decide +kernel), by decide +kernel, by decide⟩
theorem kd_X4_init : bz_kd mX4_init 0 := ⟨bz_mw 232 (by decide +kernel), bz_mw 88 (by decide +kernel), by decide +kernel, by decide⟩
theorem kd_X2_init : bz_kd mX2_init 0 := ⟨bz_mw 238 (by decide +kernel), bz_mw 89 (by decide +kernel), by decide +kernel, by decide⟩
theorem kd_X7_init : bz_kd mX7_init 0 := ⟨bz_mw 257 (by decide +kernel), bz_mw 90 (by decide +kernel), by decide +kernel, by decide⟩
theorem kd_X1_init : bz_kd mX1_init 0 := ⟨bz_mw 322 (by decide +kernel), bz_mw 91 (by decide +kernel), by decide +kernel, by decide⟩
theorem kd_X3_setDefaults : bz_kd mX3_setDefaults 0 := ⟨bz_mw 340 (by decide +kernel), bz_mw 85 (by decide +kernel), by decide +kernel, by decide⟩
theorem kv_X8_57 : bz_kv RX8 57 mX3_setDefaults 3 0 := ⟨kd_X3_setDefaults, bz_mw 337 (by decide +kernel), bz_mw 338 (by decide +kernel), bz_mw 339 (by decide +kernel), (_, _, _), rfl, rfl⟩
theorem kd_J7_fill_53178 : bz_kd mJ7_fill_53178 2 := ⟨bz_mw 343 (by decide +kernel), bz_mw 92 (by decide +kernel), by decide +kernel, by decide⟩
theorem ks_X3_34 : bz_ks RX3 34 mJ7_fill_53178 2 := ⟨kd_J7_fill_53178, bz_mw 341 (by decide +kernel), bz_mw 342 (by decide +kernel)⟩
theorem kd_X3_letPass : bz_kd mX3_letPass 3 := ⟨bz_mw 347 (by decide +kernel), bz_mw 85 (by decide +kernel), by decide +kernel, by decide⟩
theorem kv_X3_40 : bz_kv RX3 40 mX3_letPass 3 3 := ⟨kd_X3_letPass, bz_mw 344 (by decide +kernel), bz_mw 346 (by decide +kernel), bz_mw 0 (by decide +kernel), (_, _, _), rfl, rfl⟩
theorem kd_X6_setNumber : bz_kd mX6_setNumber 1 := ⟨bz_mw 351 (by decide +kernel), bz_mw 86 (by decide +kernel), by decide +kernel, by decide⟩
theorem kv_X3_44 : bz_kv RX3 44 mX6_setNumber 6 1 := ⟨kd_X6_setNumber, bz_mw 348 (by decide +kernel), bz_mw 349 (by decide +kernel), bz_mw 350 (by decide +kernel), (_, _, _), rfl, rfl⟩
theorem kd_X6_clear : bz_kd mX6_clear 0 := ⟨bz_mw 355 (by decide +kernel), bz_mw 86 (by decide +kernel), by decide +kernel, by decide⟩
theorem kv_X6_22 : bz_kv RX6 22 mX6_clear 6 0 := ⟨kd_X6_clear, bz_mw 352 (by decide +kernel), bz_mw 353 (by decide +kernel), bz_mw 354 (by decide +kernel), (_, _, _), rfl, rfl⟩
theorem kd_X6_add : bz_kd mX6_add 1 := ⟨bz_mw 359 (by decide +kernel), bz_mw 86 (by decide +kernel), by decide +kernel, by decide⟩
theorem kv_X6_25 : bz_kv RX6 25 mX6_add 6 1 := ⟨kd_X6_add, bz_mw 356 (by decide +kernel), bz_mw 357 (by decide +kernel), bz_mw 358 (by decide +kernel), (_, _, _), rfl, rfl⟩
theorem kd_X5_start : bz_kd mX5_start 1 := ⟨bz_mw 363 (by decide +kernel), bz_mw 87 (by decide +kernel), by decide +kernel, by decide⟩
theorem kv_X8_60 : bz_kv RX8 60 mX5_start 5 1 := ⟨kd_X5_start, bz_mw 360 (by decide +kernel), bz_mw 361 (by decide +kernel), bz_mw 362 (by decide +kernel), (_, _, _), rfl, rfl⟩
theorem kd_X4_start : bz_kd mX4_start 2 := ⟨bz_mw 367 (by decide +kernel), bz_mw 88 (by decide +kernel), by decide +kernel, by decide⟩
theorem kv_X5_25 : bz_kv RX5 25 mX4_start 4 2 := ⟨kd_X4_start, bz_mw 364 (by decide +kernel), bz_mw 365 (by decide +kernel), bz_mw 366 (by decide +kernel), (_, _, _), rfl, rfl⟩
theorem kd_X2_clear : bz_kd mX2_clear 0 := ⟨bz_mw 371 (by decide +kernel), bz_mw 89 (by decide +kernel), by decide +kernel, by decide⟩
theorem kv_X4_32 : bz_kv RX4 32 mX2_clear 2 0 := ⟨kd_X2_clear, bz_mw 368 (by decide +kernel), bz_mw 369 (by decide +kernel), bz_mw 370 (by decide +kernel), (_, _, _), rfl, rfl⟩
theorem ks_X2_22 : bz_ks RX2 22 mJ7_fill_53178 2 := ⟨kd_J7_fill_53178, bz_mw 372 (by decide +kernel), bz_mw 342 (by decide +kernel)⟩
theorem kd_X7_clear : bz_kd mX7_clear 0 := ⟨bz_mw 376 (by decide +kernel), bz_mw 90 (by decide +kernel), by decide +kernel, by decide⟩
theorem kv_X4_35 : bz_kv RX4 35 mX7_clear 7 0 := ⟨kd_X7_clear, bz_mw 373 (by decide +kernel), bz_mw 374 (by decide +kernel), bz_mw 375 (by decide +kernel), (_, _, _), rfl, rfl⟩
theorem ks_X7_24 : bz_ks RX7 24 mJ7_fill_53178 2 := ⟨kd_J7_fill_53178, bz_mw 377 (by decide +kernel), bz_mw 342 (by decide +kernel)⟩
theorem kd_X8_cellOf : bz_kd mX8_cellOf 2 := ⟨bz_mw 380 (by decide +kernel), bz_mw 83 (by decide +kernel), by decide +kernel, by decide⟩
theorem kn_X4_41 : bz_kn RX4 41 mX8_cellOf 2 := ⟨kd_X8_cellOf, by decide +kernel, bz_mw 379 (by decide +kernel)⟩
theorem kd_X8_append : bz_kd mX8_append 5 := ⟨bz_mw 424 (by decide +kernel), bz_mw 83 (by decide +kernel), by decide +kernel, by decide⟩
theorem kv_L_104 : bz_kv RL 104 mX8_append 8 5 := ⟨kd_X8_append, bz_mw 421 (by decide +kernel), bz_mw 422 (by decide +kernel), bz_mw 423 (by decide +kernel), (_, _, _), rfl, rfl⟩
theorem kd_X8_appendBytes : bz_kd mX8_appendBytes 1 := ⟨bz_mw 428 (by decide +kernel), bz_mw 83 (by decide +kernel), by decide +kernel, by decide⟩
theorem kv_X8_67 : bz_kv RX8 67 mX8_appendBytes 8 1 := ⟨kd_X8_appendBytes, bz_mw 425 (by decide +kernel), bz_mw 427 (by decide +kernel), bz_mw 1 (by decide +kernel), (_, _, _), rfl, rfl⟩
theorem kd_X8_errorPosition : bz_kd mX8_errorPosition 0 := ⟨bz_mw 432 (by decide +kernel), bz_mw 83 (by decide +kernel), by decide +kernel, by decide⟩
theorem kv_L_119 : bz_kv RL 119 mX8_errorPosition 8 0 := ⟨kd_X8_errorPosition, bz_mw 429 (by decide +kernel), bz_mw 430 (by decide +kernel), bz_mw 431 (by decide +kernel), (_, _, _), rfl, rfl⟩
theorem kd_X8_tick : bz_kd mX8_tick 0 := ⟨bz_mw 436 (by decide +kernel), bz_mw 83 (by decide +kernel), by decide +kernel, by decide⟩
theorem kv_L_123 : bz_kv RL 123 mX8_tick 8 0 := ⟨kd_X8_tick, bz_mw 433 (by decide +kernel), bz_mw 434 (by decide +kernel), bz_mw 435 (by decide +kernel), (_, _, _), rfl, rfl⟩
theorem kd_X8_isSafe : bz_kd mX8_isSafe 0 := ⟨bz_mw 440 (by decide +kernel), bz_mw 83 (by decide +kernel), by decide +kernel, by decide⟩
theorem kv_L_131 : bz_kv RL 131 mX8_isSafe 8 0 := ⟨kd_X8_isSafe, bz_mw 437 (by decide +kernel), bz_mw 438 (by decide +kernel), bz_mw 439 (by decide +kernel), (_, _, _), rfl, rfl⟩
theorem kd_X3_blockingKinds : bz_kd mX3_blockingKinds 2 := ⟨bz_mw 444 (by decide +kernel), bz_mw 85 (by decide +kernel), by decide +kernel, by decide⟩
theorem kv_X8_104 : bz_kv RX8 104 mX3_blockingKinds 3 2 := ⟨kd_X3_blockingKinds, bz_mw 441 (by decide +kernel), bz_mw 442 (by decide +kernel), bz_mw 443 (by decide +kernel), (_, _, _), rfl, rfl⟩
theorem kn_X3_55 : bz_kn RX3 55 mX8_cellOf 2 := ⟨kd_X8_cellOf, by decide +kernel, bz_mw 379 (by decide +kernel)⟩
theorem kd_X3_creditsOf : bz_kd mX3_creditsOf 2 := ⟨bz_mw 449 (by decide +kernel), bz_mw 85 (by decide +kernel), by decide +kernel, by decide⟩
theorem kv_X8_112 : bz_kv RX8 112 mX3_creditsOf 3 2 := ⟨kd_X3_creditsOf, bz_mw 446 (by decide +kernel), bz_mw 447 (by decide +kernel), bz_mw 448 (by decide +kernel), (_, _, _), rfl, rfl⟩
theorem kd_X8_ratioBits : bz_kd mX8_ratioBits 0 := ⟨bz_mw 453 (by decide +kernel), bz_mw 83 (by decide +kernel), by decide +kernel, by decide⟩
theorem kv_L_184 : bz_kv RL 184 mX8_ratioBits 8 0 := ⟨kd_X8_ratioBits, bz_mw 450 (by decide +kernel), bz_mw 451 (by decide +kernel), bz_mw 452 (by decide +kernel), (_, _, _), rfl, rfl⟩
theorem kd_X5_portOf : bz_kd mX5_portOf 1 := ⟨bz_mw 457 (by decide +kernel), bz_mw 87 (by decide +kernel), by decide +kernel, by decide⟩
theorem kv_X8_119 : bz_kv RX8 119 mX5_portOf 5 1 := ⟨kd_X5_portOf, bz_mw 454 (by decide +kernel), bz_mw 455 (by decide +kernel), bz_mw 456 (by decide +kernel), (_, _, _), rfl, rfl⟩
theorem kd_X8_waitOf : bz_kd mX8_waitOf 1 := ⟨bz_mw 460 (by decide +kernel), bz_mw 83 (by decide +kernel), by decide +kernel, by decide⟩
theorem ks_X8_196 : bz_ks RX8 196 mX8_waitOf 1 := ⟨kd_X8_waitOf, bz_mw 458 (by decide +kernel), bz_mw 459 (by decide +kernel)⟩
theorem kd_X8_bitsOf : bz_kd mX8_bitsOf 1 := ⟨bz_mw 463 (by decide +kernel), bz_mw 83 (by decide +kernel), by decide +kernel, by decide⟩
theorem ks_X8_200 : bz_ks RX8 200 mX8_bitsOf 1 := ⟨kd_X8_bitsOf, bz_mw 461 (by decide +kernel), bz_mw 462 (by decide +kernel)⟩
theorem kd_X8_ticksToRest : bz_kd mX8_ticksToRest 0 := ⟨bz_mw 468 (by decide +kernel), bz_mw 83 (by decide +kernel), by decide +kernel, by decide⟩
theorem kv_L_188 : bz_kv RL 188 mX8_ticksToRest 8 0 := ⟨kd_X8_ticksToRest, bz_mw 465 (by decide +kernel), bz_mw 466 (by decide +kernel), bz_mw 467 (by decide +kernel), (_, _, _), rfl, rfl⟩
theorem kd_X5_copyFrom : bz_kd mX5_copyFrom 1 := ⟨bz_mw 472 (by decide +kernel), bz_mw 87 (by decide +kernel), by decide +kernel, by decide⟩
theorem kv_X8_208 : bz_kv RX8 208 mX5_copyFrom 5 1 := ⟨kd_X5_copyFrom, bz_mw 469 (by decide +kernel), bz_mw 470 (by decide +kernel), bz_mw 471 (by decide +kernel), (_, _, _), rfl, rfl⟩
theorem kd_X4_copyFrom : bz_kd mX4_copyFrom 1 := ⟨bz_mw 476 (by decide +kernel), bz_mw 88 (by decide +kernel), by decide +kernel, by decide⟩
theorem kv_X5_29 : bz_kv RX5 29 mX4_copyFrom 4 1 := ⟨kd_X4_copyFrom, bz_mw 473 (by decide +kernel), bz_mw 474 (by decide +kernel), bz_mw 475 (by decide +kernel), (_, _, _), rfl, rfl⟩
theorem kd_X2_copyFrom : bz_kd mX2_copyFrom 1 := ⟨bz_mw 480 (by decide +kernel), bz_mw 89 (by decide +kernel), by decide +kernel, by decide⟩
theorem kv_X4_55 : bz_kv RX4 55 mX2_copyFrom 2 1 := ⟨kd_X2_copyFrom, bz_mw 477 (by decide +kernel), bz_mw 478 (by decide +kernel), bz_mw 479 (by decide +kernel), (_, _, _), rfl, rfl⟩
theorem kd_X7_copyFrom : bz_kd mX7_copyFrom 1 := ⟨bz_mw 487 (by decide +kernel), bz_mw 90 (by decide +kernel), by decide +kernel, by decide⟩
theorem kv_X4_59 : bz_kv RX4 59 mX7_copyFrom 7 1 := ⟨kd_X7_copyFrom, bz_mw 484 (by decide +kernel), bz_mw 485 (by decide +kernel), bz_mw 486 (by decide +kernel), (_, _, _), rfl, rfl⟩
theorem kd_X5_advance : bz_kd mX5_advance 2 := ⟨bz_mw 493 (by decide +kernel), bz_mw 87 (by decide +kernel), by decide +kernel, by decide⟩
theorem kv_X8_212 : bz_kv RX8 212 mX5_advance 5 2 := ⟨kd_X5_advance, bz_mw 490 (by decide +kernel), bz_mw 491 (by decide +kernel), bz_mw 492 (by decide +kernel), (_, _, _), rfl, rfl⟩
theorem kd_X3_sizeOf : bz_kd mX3_sizeOf 2 := ⟨bz_mw 497 (by decide +kernel), bz_mw 85 (by decide +kernel), by decide +kernel, by decide⟩
theorem kv_X5_48 : bz_kv RX5 48 mX3_sizeOf 3 2 := ⟨kd_X3_sizeOf, bz_mw 494 (by decide +kernel), bz_mw 495 (by decide +kernel), bz_mw 496 (by decide +kernel), (_, _, _), rfl, rfl⟩
theorem kd_X4_workInTick : bz_kd mX4_workInTick 3 := ⟨bz_mw 501 (by decide +kernel), bz_mw 88 (by decide +kernel), by decide +kernel, by decide⟩
theorem kv_X5_57 : bz_kv RX5 57 mX4_workInTick 4 3 := ⟨kd_X4_workInTick, bz_mw 498 (by decide +kernel), bz_mw 499 (by decide +kernel), bz_mw 500 (by decide +kernel), (_, _, _), rfl, rfl⟩
theorem kd_X2_get : bz_kd mX2_get 2 := ⟨bz_mw 505 (by decide +kernel), bz_mw 89 (by decide +kernel), by decide +kernel, by decide⟩
theorem kv_X4_71 : bz_kv RX4 71 mX2_get 2 2 := ⟨kd_X2_get, bz_mw 502 (by decide +kernel), bz_mw 503 (by decide +kernel), bz_mw 504 (by decide +kernel), (_, _, _), rfl, rfl⟩
theorem kd_X4_finishes : bz_kd mX4_finishes 4 := ⟨bz_mw 509 (by decide +kernel), bz_mw 88 (by decide +kernel), by decide +kernel, by decide⟩
theorem kv_X4_75 : bz_kv RX4 75 mX4_finishes 4 4 := ⟨kd_X4_finishes, bz_mw 506 (by decide +kernel), bz_mw 508 (by decide +kernel), bz_mw 2 (by decide +kernel), (_, _, _), rfl, rfl⟩
theorem kd_X4_writeMemory : bz_kd mX4_writeMemory 1 := ⟨bz_mw 513 (by decide +kernel), bz_mw 88 (by decide +kernel), by decide +kernel, by decide⟩
theorem kv_X4_89 : bz_kv RX4 89 mX4_writeMemory 4 1 := ⟨kd_X4_writeMemory, bz_mw 510 (by decide +kernel), bz_mw 512 (by decide +kernel), bz_mw 3 (by decide +kernel), (_, _, _), rfl, rfl⟩
theorem kd_X4_answerRead : bz_kd mX4_answerRead 4 := ⟨bz_mw 517 (by decide +kernel), bz_mw 88 (by decide +kernel), by decide +kernel, by decide⟩
theorem kv_X4_92 : bz_kv RX4 92 mX4_answerRead 4 4 := ⟨kd_X4_answerRead, bz_mw 514 (by decide +kernel), bz_mw 516 (by decide +kernel), bz_mw 4 (by decide +kernel), (_, _, _), rfl, rfl⟩
theorem kd_X2_countOf : bz_kd mX2_countOf 1 := ⟨bz_mw 521 (by decide +kernel), bz_mw 89 (by decide +kernel), by decide +kernel, by decide⟩
theorem kv_X4_102 : bz_kv RX4 102 mX2_countOf 2 1 := ⟨kd_X2_countOf, bz_mw 518 (by decide +kernel), bz_mw 519 (by decide +kernel), bz_mw 520 (by decide +kernel), (_, _, _), rfl, rfl⟩
theorem kn_X2_38 : bz_kn RX2 38 mX8_cellOf 2 := ⟨kd_X8_cellOf, by decide +kernel, bz_mw 379 (by decide +kernel)⟩
theorem kd_J9_min_7cf53 : bz_kd mJ9_min_7cf53 2 := ⟨bz_mw 525 (by decide +kernel), bz_mw 108 (by decide +kernel), by decide +kernel, by decide⟩
theorem ks_X4_84 : bz_ks RX4 84 mJ9_min_7cf53 2 := ⟨kd_J9_min_7cf53, bz_mw 523 (by decide +kernel), bz_mw 524 (by decide +kernel)⟩
theorem kd_X4_addCompletion : bz_kd mX4_addCompletion 4 := ⟨bz_mw 529 (by decide +kernel), bz_mw 88 (by decide +kernel), by decide +kernel, by decide⟩
theorem kv_X4_106 : bz_kv RX4 106 mX4_addCompletion 4 4 := ⟨kd_X4_addCompletion, bz_mw 526 (by decide +kernel), bz_mw 528 (by decide +kernel), bz_mw 5 (by decide +kernel), (_, _, _), rfl, rfl⟩
theorem kd_X2_open : bz_kd mX2_open 6 := ⟨bz_mw 533 (by decide +kernel), bz_mw 89 (by decide +kernel), by decide +kernel, by decide⟩
theorem kv_X4_114 : bz_kv RX4 114 mX2_open 2 6 := ⟨kd_X2_open, bz_mw 530 (by decide +kernel), bz_mw 531 (by decide +kernel), bz_mw 532 (by decide +kernel), (_, _, _), rfl, rfl⟩
theorem kd_X2_put : bz_kd mX2_put 3 := ⟨bz_mw 537 (by decide +kernel), bz_mw 89 (by decide +kernel), by decide +kernel, by decide⟩
theorem kv_X4_110 : bz_kv RX4 110 mX2_put 2 3 := ⟨kd_X2_put, bz_mw 534 (by decide +kernel), bz_mw 535 (by decide +kernel), bz_mw 536 (by decide +kernel), (_, _, _), rfl, rfl⟩
theorem kd_X4_answerConfiguration : bz_kd mX4_answerConfiguration 3 := ⟨bz_mw 541 (by decide +kernel), bz_mw 88 (by decide +kernel), by decide +kernel, by decide⟩
theorem kv_X4_95 : bz_kv RX4 95 mX4_answerConfiguration 4 3 := ⟨kd_X4_answerConfiguration, bz_mw 538 (by decide +kernel), bz_mw 540 (by decide +kernel), bz_mw 6 (by decide +kernel), (_, _, _), rfl, rfl⟩
theorem kd_X4_storeCompletion : bz_kd mX4_storeCompletion 1 := ⟨bz_mw 545 (by decide +kernel), bz_mw 88 (by decide +kernel), by decide +kernel, by decide⟩
theorem kv_X4_99 : bz_kv RX4 99 mX4_storeCompletion 4 1 := ⟨kd_X4_storeCompletion, bz_mw 542 (by decide +kernel), bz_mw 544 (by decide +kernel), bz_mw 7 (by decide +kernel), (_, _, _), rfl, rfl⟩
theorem kd_X7_store : bz_kd mX7_store 3 := ⟨bz_mw 549 (by decide +kernel), bz_mw 90 (by decide +kernel), by decide +kernel, by decide⟩
theorem kv_X4_118 : bz_kv RX4 118 mX7_store 7 3 := ⟨kd_X7_store, bz_mw 546 (by decide +kernel), bz_mw 547 (by decide +kernel), bz_mw 548 (by decide +kernel), (_, _, _), rfl, rfl⟩
theorem kd_X7_completeIfAllCame : bz_kd mX7_completeIfAllCame 1 := ⟨bz_mw 553 (by decide +kernel), bz_mw 90 (by decide +kernel), by decide +kernel, by decide⟩
theorem kv_X4_121 : bz_kv RX4 121 mX7_completeIfAllCame 7 1 := ⟨kd_X7_completeIfAllCame, bz_mw 550 (by decide +kernel), bz_mw 551 (by decide +kernel), bz_mw 552 (by decide +kernel), (_, _, _), rfl, rfl⟩
theorem kd_J6_bitCount_0f7a4 : bz_kd mJ6_bitCount_0f7a4 1 := ⟨bz_mw 556 (by decide +kernel), bz_mw 104 (by decide +kernel), by decide +kernel, by decide⟩
theorem ks_X7_40 : bz_ks RX7 40 mJ6_bitCount_0f7a4 1 := ⟨kd_J6_bitCount_0f7a4, bz_mw 554 (by decide +kernel), bz_mw 555 (by decide +kernel)⟩
theorem kd_X2_remove : bz_kd mX2_remove 1 := ⟨bz_mw 563 (by decide +kernel), bz_mw 89 (by decide +kernel), by decide +kernel, by decide⟩
theorem kv_X4_79 : bz_kv RX4 79 mX2_remove 2 1 := ⟨kd_X2_remove, bz_mw 560 (by decide +kernel), bz_mw 561 (by decide +kernel), bz_mw 562 (by decide +kernel), (_, _, _), rfl, rfl⟩
theorem kv_X2_34 : bz_kv RX2 34 mX2_get 2 2 := ⟨kd_X2_get, bz_mw 564 (by decide +kernel), bz_mw 503 (by decide +kernel), bz_mw 504 (by decide +kernel), (_, _, _), rfl, rfl⟩
theorem kd_X2_count : bz_kd mX2_count 2 := ⟨bz_mw 568 (by decide +kernel), bz_mw 89 (by decide +kernel), by decide +kernel, by decide⟩
theorem kv_X2_46 : bz_kv RX2 46 mX2_count 2 2 := ⟨kd_X2_count, bz_mw 565 (by decide +kernel), bz_mw 567 (by decide +kernel), bz_mw 8 (by decide +kernel), (_, _, _), rfl, rfl⟩
theorem kd_X5_forwardFrom : bz_kd mX5_forwardFrom 2 := ⟨bz_mw 572 (by decide +kernel), bz_mw 87 (by decide +kernel), by decide +kernel, by decide⟩
theorem kv_X5_61 : bz_kv RX5 61 mX5_forwardFrom 5 2 := ⟨kd_X5_forwardFrom, bz_mw 569 (by decide +kernel), bz_mw 571 (by decide +kernel), bz_mw 9 (by decide +kernel), (_, _, _), rfl, rfl⟩
theorem kd_X5_firstReady : bz_kd mX5_firstReady 2 := ⟨bz_mw 576 (by decide +kernel), bz_mw 87 (by decide +kernel), by decide +kernel, by decide⟩
theorem kv_X5_85 : bz_kv RX5 85 mX5_firstReady 5 2 := ⟨kd_X5_firstReady, bz_mw 573 (by decide +kernel), bz_mw 574 (by decide +kernel), bz_mw 575 (by decide +kernel), (_, _, _), rfl, rfl⟩
theorem kv_X5_89 : bz_kv RX5 89 mX5_portOf 5 1 := ⟨kd_X5_portOf, bz_mw 577 (by decide +kernel), bz_mw 455 (by decide +kernel), bz_mw 456 (by decide +kernel), (_, _, _), rfl, rfl⟩
theorem kv_X5_101 : bz_kv RX5 101 mX2_get 2 2 := ⟨kd_X2_get, bz_mw 578 (by decide +kernel), bz_mw 503 (by decide +kernel), bz_mw 504 (by decide +kernel), (_, _, _), rfl, rfl⟩
theorem kd_X2_isRelaxed : bz_kd mX2_isRelaxed 1 := ⟨bz_mw 582 (by decide +kernel), bz_mw 89 (by decide +kernel), by decide +kernel, by decide⟩
theorem kv_X5_104 : bz_kv RX5 104 mX2_isRelaxed 2 1 := ⟨kd_X2_isRelaxed, bz_mw 579 (by decide +kernel), bz_mw 580 (by decide +kernel), bz_mw 581 (by decide +kernel), (_, _, _), rfl, rfl⟩
theorem kv_X5_108 : bz_kv RX5 108 mX3_blockingKinds 3 2 := ⟨kd_X3_blockingKinds, bz_mw 583 (by decide +kernel), bz_mw 442 (by decide +kernel), bz_mw 443 (by decide +kernel), (_, _, _), rfl, rfl⟩
theorem kv_X5_112 : bz_kv RX5 112 mX2_countOf 2 1 := ⟨kd_X2_countOf, bz_mw 584 (by decide +kernel), bz_mw 519 (by decide +kernel), bz_mw 520 (by decide +kernel), (_, _, _), rfl, rfl⟩
theorem kv_X5_115 : bz_kv RX5 115 mX3_creditsOf 3 2 := ⟨kd_X3_creditsOf, bz_mw 585 (by decide +kernel), bz_mw 447 (by decide +kernel), bz_mw 448 (by decide +kernel), (_, _, _), rfl, rfl⟩
theorem kd_X3_latencyOf : bz_kd mX3_latencyOf 1 := ⟨bz_mw 589 (by decide +kernel), bz_mw 85 (by decide +kernel), by decide +kernel, by decide⟩
theorem kv_X5_93 : bz_kv RX5 93 mX3_latencyOf 3 1 := ⟨kd_X3_latencyOf, bz_mw 586 (by decide +kernel), bz_mw 587 (by decide +kernel), bz_mw 588 (by decide +kernel), (_, _, _), rfl, rfl⟩
theorem kd_X4_forwardTo : bz_kd mX4_forwardTo 4 := ⟨bz_mw 593 (by decide +kernel), bz_mw 88 (by decide +kernel), by decide +kernel, by decide⟩
theorem kv_X5_97 : bz_kv RX5 97 mX4_forwardTo 4 4 := ⟨kd_X4_forwardTo, bz_mw 590 (by decide +kernel), bz_mw 591 (by decide +kernel), bz_mw 592 (by decide +kernel), (_, _, _), rfl, rfl⟩
theorem kd_X6_valueFor : bz_kd mX6_valueFor 4 := ⟨bz_mw 597 (by decide +kernel), bz_mw 86 (by decide +kernel), by decide +kernel, by decide⟩
theorem kv_X4_124 : bz_kv RX4 124 mX6_valueFor 6 4 := ⟨kd_X6_valueFor, bz_mw 594 (by decide +kernel), bz_mw 595 (by decide +kernel), bz_mw 596 (by decide +kernel), (_, _, _), rfl, rfl⟩
theorem kd_X6_combine : bz_kd mX6_combine 3 := ⟨bz_mw 600 (by decide +kernel), bz_mw 86 (by decide +kernel), by decide +kernel, by decide⟩
theorem ks_X6_29 : bz_ks RX6 29 mX6_combine 3 := ⟨kd_X6_combine, bz_mw 598 (by decide +kernel), bz_mw 599 (by decide +kernel)⟩
theorem kd_X6_named : bz_kd mX6_named 5 := ⟨bz_mw 603 (by decide +kernel), bz_mw 86 (by decide +kernel), by decide +kernel, by decide⟩
theorem ks_X6_33 : bz_ks RX6 33 mX6_named 5 := ⟨kd_X6_named, bz_mw 601 (by decide +kernel), bz_mw 602 (by decide +kernel)⟩
theorem kd_J9_max_7cf53 : bz_kd mJ9_max_7cf53 2 := ⟨bz_mw 606 (by decide +kernel), bz_mw 108 (by decide +kernel), by decide +kernel, by decide⟩
theorem ks_X4_130 : bz_ks RX4 130 mJ9_max_7cf53 2 := ⟨kd_J9_max_7cf53, bz_mw 604 (by decide +kernel), bz_mw 605 (by decide +kernel)⟩
theorem kd_X2_takeFrom : bz_kd mX2_takeFrom 2 := ⟨bz_mw 610 (by decide +kernel), bz_mw 89 (by decide +kernel), by decide +kernel, by decide⟩
theorem kv_X4_133 : bz_kv RX4 133 mX2_takeFrom 2 2 := ⟨kd_X2_takeFrom, bz_mw 607 (by decide +kernel), bz_mw 608 (by decide +kernel), bz_mw 609 (by decide +kernel), (_, _, _), rfl, rfl⟩
theorem kv_X2_50 : bz_kv RX2 50 mX2_remove 2 1 := ⟨kd_X2_remove, bz_mw 611 (by decide +kernel), bz_mw 561 (by decide +kernel), bz_mw 562 (by decide +kernel), (_, _, _), rfl, rfl⟩
theorem kd_X5_firstDue : bz_kd mX5_firstDue 0 := ⟨bz_mw 615 (by decide +kernel), bz_mw 87 (by decide +kernel), by decide +kernel, by decide⟩
theorem kv_X5_69 : bz_kv RX5 69 mX5_firstDue 5 0 := ⟨kd_X5_firstDue, bz_mw 612 (by decide +kernel), bz_mw 614 (by decide +kernel), bz_mw 10 (by decide +kernel), (_, _, _), rfl, rfl⟩
theorem kd_X4_firstDueAfter : bz_kd mX4_firstDueAfter 1 := ⟨bz_mw 619 (by decide +kernel), bz_mw 88 (by decide +kernel), by decide +kernel, by decide⟩
theorem kv_X5_81 : bz_kv RX5 81 mX4_firstDueAfter 4 1 := ⟨kd_X4_firstDueAfter, bz_mw 616 (by decide +kernel), bz_mw 617 (by decide +kernel), bz_mw 618 (by decide +kernel), (_, _, _), rfl, rfl⟩
theorem ks_X5_73 : bz_ks RX5 73 mJ9_min_7cf53 2 := ⟨kd_J9_min_7cf53, bz_mw 621 (by decide +kernel), bz_mw 524 (by decide +kernel)⟩
theorem ks_X5_78 : bz_ks RX5 78 mJ9_max_7cf53 2 := ⟨kd_J9_max_7cf53, bz_mw 622 (by decide +kernel), bz_mw 605 (by decide +kernel)⟩
theorem kd_X8_isStuck : bz_kd mX8_isStuck 0 := ⟨bz_mw 626 (by decide +kernel), bz_mw 83 (by decide +kernel), by decide +kernel, by decide⟩
theorem kv_L_192 : bz_kv RL 192 mX8_isStuck 8 0 := ⟨kd_X8_isStuck, bz_mw 623 (by decide +kernel), bz_mw 624 (by decide +kernel), bz_mw 625 (by decide +kernel), (_, _, _), rfl, rfl⟩
theorem kv_X8_218 : bz_kv RX8 218 mX8_ticksToRest 8 0 := ⟨kd_X8_ticksToRest, bz_mw 627 (by decide +kernel), bz_mw 466 (by decide +kernel), bz_mw 467 (by decide +kernel), (_, _, _), rfl, rfl⟩
theorem kd_X5_isEmpty : bz_kd mX5_isEmpty 0 := ⟨bz_mw 631 (by decide +kernel), bz_mw 87 (by decide +kernel), by decide +kernel, by decide⟩
theorem kv_X8_222 : bz_kv RX8 222 mX5_isEmpty 5 0 := ⟨kd_X5_isEmpty, bz_mw 628 (by decide +kernel), bz_mw 629 (by decide +kernel), bz_mw 630 (by decide +kernel), (_, _, _), rfl, rfl⟩
theorem kd_X8_undo : bz_kd mX8_undo 0 := ⟨bz_mw 635 (by decide +kernel), bz_mw 83 (by decide +kernel), by decide +kernel, by decide⟩
theorem kv_L_216 : bz_kv RL 216 mX8_undo 8 0 := ⟨kd_X8_undo, bz_mw 632 (by decide +kernel), bz_mw 633 (by decide +kernel), bz_mw 634 (by decide +kernel), (_, _, _), rfl, rfl⟩
theorem kd_X1_takeBack : bz_kd mX1_takeBack 1 := ⟨bz_mw 639 (by decide +kernel), bz_mw 91 (by decide +kernel), by decide +kernel, by decide⟩
theorem kv_X8_260 : bz_kv RX8 260 mX1_takeBack 1 1 := ⟨kd_X1_takeBack, bz_mw 636 (by decide +kernel), bz_mw 637 (by decide +kernel), bz_mw 638 (by decide +kernel), (_, _, _), rfl, rfl⟩
theorem kd_X1_newestBefore : bz_kd mX1_newestBefore 0 := ⟨bz_mw 643 (by decide +kernel), bz_mw 91 (by decide +kernel), by decide +kernel, by decide⟩
theorem kv_X1_25 : bz_kv RX1 25 mX1_newestBefore 1 0 := ⟨kd_X1_newestBefore, bz_mw 640 (by decide +kernel), bz_mw 642 (by decide +kernel), bz_mw 11 (by decide +kernel), (_, _, _), rfl, rfl⟩
theorem kv_X1_29 : bz_kv RX1 29 mX5_copyFrom 5 1 := ⟨kd_X5_copyFrom, bz_mw 644 (by decide +kernel), bz_mw 470 (by decide +kernel), bz_mw 471 (by decide +kernel), (_, _, _), rfl, rfl⟩
theorem kd_X8_parse : bz_kd mX8_parse 1 := ⟨bz_mw 652 (by decide +kernel), bz_mw 83 (by decide +kernel), by decide +kernel, by decide⟩
theorem kv_L_7 : bz_kv RL 7 mX8_parse 8 1 := ⟨kd_X8_parse, bz_mw 649 (by decide +kernel), bz_mw 650 (by decide +kernel), bz_mw 651 (by decide +kernel), (_, _, _), rfl, rfl⟩
theorem kd_X0_describe : bz_kd mX0_describe 3 := ⟨bz_mw 723 (by decide +kernel), bz_mw 84 (by decide +kernel), by decide +kernel, by decide⟩
theorem kv_X8_78 : bz_kv RX8 78 mX0_describe 0 3 := ⟨kd_X0_describe, bz_mw 720 (by decide +kernel), bz_mw 721 (by decide +kernel), bz_mw 722 (by decide +kernel), (_, _, _), rfl, rfl⟩
theorem kv_X0_39 : bz_kv RX0 39 mX3_setDefaults 3 0 := ⟨kd_X3_setDefaults, bz_mw 724 (by decide +kernel), bz_mw 338 (by decide +kernel), bz_mw 339 (by decide +kernel), (_, _, _), rfl, rfl⟩
theorem kd_X0_step : bz_kd mX0_step 0 := ⟨bz_mw 728 (by decide +kernel), bz_mw 84 (by decide +kernel), by decide +kernel, by decide⟩
theorem kv_X0_44 : bz_kv RX0 44 mX0_step 0 0 := ⟨kd_X0_step, bz_mw 725 (by decide +kernel), bz_mw 727 (by decide +kernel), bz_mw 13 (by decide +kernel), (_, _, _), rfl, rfl⟩
theorem kd_X0_byteAt : bz_kd mX0_byteAt 1 := ⟨bz_mw 732 (by decide +kernel), bz_mw 84 (by decide +kernel), by decide +kernel, by decide⟩
theorem kv_X0_172 : bz_kv RX0 172 mX0_byteAt 0 1 := ⟨kd_X0_byteAt, bz_mw 729 (by decide +kernel), bz_mw 731 (by decide +kernel), bz_mw 14 (by decide +kernel), (_, _, _), rfl, rfl⟩
theorem kd_X0_isSpace : bz_kd mX0_isSpace 1 := ⟨bz_mw 735 (by decide +kernel), bz_mw 84 (by decide +kernel), by decide +kernel, by decide⟩
theorem ks_X0_179 : bz_ks RX0 179 mX0_isSpace 1 := ⟨kd_X0_isSpace, bz_mw 733 (by decide +kernel), bz_mw 734 (by decide +kernel)⟩
theorem kd_X0_isLetter : bz_kd mX0_isLetter 1 := ⟨bz_mw 738 (by decide +kernel), bz_mw 84 (by decide +kernel), by decide +kernel, by decide⟩
theorem ks_X0_183 : bz_ks RX0 183 mX0_isLetter 1 := ⟨kd_X0_isLetter, bz_mw 736 (by decide +kernel), bz_mw 737 (by decide +kernel)⟩
theorem kd_X0_stepOverWord : bz_kd mX0_stepOverWord 0 := ⟨bz_mw 742 (by decide +kernel), bz_mw 84 (by decide +kernel), by decide +kernel, by decide⟩
theorem kv_X0_186 : bz_kv RX0 186 mX0_stepOverWord 0 0 := ⟨kd_X0_stepOverWord, bz_mw 739 (by decide +kernel), bz_mw 741 (by decide +kernel), bz_mw 15 (by decide +kernel), (_, _, _), rfl, rfl⟩
theorem kd_X0_isDigit : bz_kd mX0_isDigit 1 := ⟨bz_mw 745 (by decide +kernel), bz_mw 84 (by decide +kernel), by decide +kernel, by decide⟩
theorem ks_X0_189 : bz_ks RX0 189 mX0_isDigit 1 := ⟨kd_X0_isDigit, bz_mw 743 (by decide +kernel), bz_mw 744 (by decide +kernel)⟩
theorem kd_X0_stepOverNumber : bz_kd mX0_stepOverNumber 0 := ⟨bz_mw 749 (by decide +kernel), bz_mw 84 (by decide +kernel), by decide +kernel, by decide⟩
theorem kv_X0_192 : bz_kv RX0 192 mX0_stepOverNumber 0 0 := ⟨kd_X0_stepOverNumber, bz_mw 746 (by decide +kernel), bz_mw 748 (by decide +kernel), bz_mw 16 (by decide +kernel), (_, _, _), rfl, rfl⟩
theorem kd_X0_isSign : bz_kd mX0_isSign 1 := ⟨bz_mw 752 (by decide +kernel), bz_mw 84 (by decide +kernel), by decide +kernel, by decide⟩
theorem ks_X0_195 : bz_ks RX0 195 mX0_isSign 1 := ⟨kd_X0_isSign, bz_mw 750 (by decide +kernel), bz_mw 751 (by decide +kernel)⟩
theorem kd_X0_rankOf : bz_kd mX0_rankOf 1 := ⟨bz_mw 755 (by decide +kernel), bz_mw 84 (by decide +kernel), by decide +kernel, by decide⟩
theorem ks_X0_135 : bz_ks RX0 135 mX0_rankOf 1 := ⟨kd_X0_rankOf, bz_mw 753 (by decide +kernel), bz_mw 754 (by decide +kernel)⟩
theorem kd_X0_statement : bz_kd mX0_statement 1 := ⟨bz_mw 759 (by decide +kernel), bz_mw 84 (by decide +kernel), by decide +kernel, by decide⟩
theorem kv_X0_50 : bz_kv RX0 50 mX0_statement 0 1 := ⟨kd_X0_statement, bz_mw 756 (by decide +kernel), bz_mw 758 (by decide +kernel), bz_mw 17 (by decide +kernel), (_, _, _), rfl, rfl⟩
theorem kd_X0_isWord : bz_kd mX0_isWord 1 := ⟨bz_mw 764 (by decide +kernel), bz_mw 84 (by decide +kernel), by decide +kernel, by decide⟩
theorem kv_X0_62 : bz_kv RX0 62 mX0_isWord 0 1 := ⟨kd_X0_isWord, bz_mw 761 (by decide +kernel), bz_mw 763 (by decide +kernel), bz_mw 18 (by decide +kernel), (_, _, _), rfl, rfl⟩
theorem kd_J0_length_8abf5 : bz_kd mJ0_length_8abf5 0 := ⟨bz_mw 768 (by decide +kernel), bz_mw 98 (by decide +kernel), by decide +kernel, by decide⟩
theorem kd_J0_coder_7d493 : bz_kd mJ0_coder_7d493 0 := ⟨bz_mw 772 (by decide +kernel), bz_mw 98 (by decide +kernel), by decide +kernel, by decide⟩
theorem kd_J0_charAt_5068e : bz_kd mJ0_charAt_5068e 1 := ⟨bz_mw 778 (by decide +kernel), bz_mw 98 (by decide +kernel), by decide +kernel, by decide⟩
theorem kd_J0_isLatin1_aae02 : bz_kd mJ0_isLatin1_aae02 0 := ⟨bz_mw 782 (by decide +kernel), bz_mw 98 (by decide +kernel), by decide +kernel, by decide⟩
theorem kd_J1_charAt_3b067 : bz_kd mJ1_charAt_3b067 2 := ⟨bz_mw 785 (by decide +kernel), bz_mw 99 (by decide +kernel), by decide +kernel, by decide⟩
theorem ks_J0_495 : bz_ks RJ0 495 mJ1_charAt_3b067 2 := ⟨kd_J1_charAt_3b067, bz_mw 783 (by decide +kernel), bz_mw 784 (by decide +kernel)⟩
theorem kd_J0_checkIndex_df160 : bz_kd mJ0_checkIndex_df160 2 := ⟨bz_mw 788 (by decide +kernel), bz_mw 98 (by decide +kernel), by decide +kernel, by decide⟩
theorem ks_J1_9 : bz_ks RJ1 9 mJ0_checkIndex_df160 2 := ⟨kd_J0_checkIndex_df160, bz_mw 786 (by decide +kernel), bz_mw 787 (by decide +kernel)⟩
theorem kd_J3_checkIndex_8e157 : bz_kd mJ3_checkIndex_8e157 3 := ⟨bz_mw 793 (by decide +kernel), bz_mw 100 (by decide +kernel), by decide +kernel, by decide⟩
theorem ks_J0_1059 : bz_ks RJ0 1059 mJ3_checkIndex_8e157 3 := ⟨kd_J3_checkIndex_8e157, bz_mw 791 (by decide +kernel), bz_mw 792 (by decide +kernel)⟩
theorem kd_J2_charAt_3b067 : bz_kd mJ2_charAt_3b067 2 := ⟨bz_mw 796 (by decide +kernel), bz_mw 101 (by decide +kernel), by decide +kernel, by decide⟩
theorem ks_J0_498 : bz_ks RJ0 498 mJ2_charAt_3b067 2 := ⟨kd_J2_charAt_3b067, bz_mw 794 (by decide +kernel), bz_mw 795 (by decide +kernel)⟩
theorem kd_J2_checkIndex_2214a : bz_kd mJ2_checkIndex_2214a 2 := ⟨bz_mw 799 (by decide +kernel), bz_mw 101 (by decide +kernel), by decide +kernel, by decide⟩
theorem ks_J2_67 : bz_ks RJ2 67 mJ2_checkIndex_2214a 2 := ⟨kd_J2_checkIndex_2214a, bz_mw 797 (by decide +kernel), bz_mw 798 (by decide +kernel)⟩
theorem kd_J2_length_9d52b : bz_kd mJ2_length_9d52b 1 := ⟨bz_mw 802 (by decide +kernel), bz_mw 101 (by decide +kernel), by decide +kernel, by decide⟩
theorem ks_J2_48 : bz_ks RJ2 48 mJ2_length_9d52b 1 := ⟨kd_J2_length_9d52b, bz_mw 800 (by decide +kernel), bz_mw 801 (by decide +kernel)⟩
theorem ks_J2_414 : bz_ks RJ2 414 mJ0_checkIndex_df160 2 := ⟨kd_J0_checkIndex_df160, bz_mw 803 (by decide +kernel), bz_mw 787 (by decide +kernel)⟩
theorem kd_J2_getChar_3b067 : bz_kd mJ2_getChar_3b067 2 := ⟨bz_mw 806 (by decide +kernel), bz_mw 101 (by decide +kernel), by decide +kernel, by decide⟩
theorem ks_J2_71 : bz_ks RJ2 71 mJ2_getChar_3b067 2 := ⟨kd_J2_getChar_3b067, bz_mw 804 (by decide +kernel), bz_mw 805 (by decide +kernel)⟩
theorem kd_X0_setting : bz_kd mX0_setting 5 := ⟨bz_mw 816 (by decide +kernel), bz_mw 84 (by decide +kernel), by decide +kernel, by decide⟩
theorem kv_X0_69 : bz_kv RX0 69 mX0_setting 0 5 := ⟨kd_X0_setting, bz_mw 813 (by decide +kernel), bz_mw 815 (by decide +kernel), bz_mw 19 (by decide +kernel), (_, _, _), rfl, rfl⟩
theorem kd_X0_numberIn : bz_kd mX0_numberIn 2 := ⟨bz_mw 820 (by decide +kernel), bz_mw 84 (by decide +kernel), by decide +kernel, by decide⟩
theorem kv_X0_89 : bz_kv RX0 89 mX0_numberIn 0 2 := ⟨kd_X0_numberIn, bz_mw 817 (by decide +kernel), bz_mw 819 (by decide +kernel), bz_mw 20 (by decide +kernel), (_, _, _), rfl, rfl⟩
theorem kd_X0_fail : bz_kd mX0_fail 1 := ⟨bz_mw 824 (by decide +kernel), bz_mw 84 (by decide +kernel), by decide +kernel, by decide⟩
theorem kv_X0_114 : bz_kv RX0 114 mX0_fail 0 1 := ⟨kd_X0_fail, bz_mw 821 (by decide +kernel), bz_mw 823 (by decide +kernel), bz_mw 21 (by decide +kernel), (_, _, _), rfl, rfl⟩
theorem kv_X0_93 : bz_kv RX0 93 mX3_latencyOf 3 1 := ⟨kd_X3_latencyOf, bz_mw 829 (by decide +kernel), bz_mw 587 (by decide +kernel), bz_mw 588 (by decide +kernel), (_, _, _), rfl, rfl⟩
theorem kd_X0_sum : bz_kd mX0_sum 1 := ⟨bz_mw 833 (by decide +kernel), bz_mw 84 (by decide +kernel), by decide +kernel, by decide⟩
theorem kv_X0_97 : bz_kv RX0 97 mX0_sum 0 1 := ⟨kd_X0_sum, bz_mw 830 (by decide +kernel), bz_mw 832 (by decide +kernel), bz_mw 22 (by decide +kernel), (_, _, _), rfl, rfl⟩
theorem kv_X0_121 : bz_kv RX0 121 mX6_clear 6 0 := ⟨kd_X6_clear, bz_mw 834 (by decide +kernel), bz_mw 353 (by decide +kernel), bz_mw 354 (by decide +kernel), (_, _, _), rfl, rfl⟩
theorem kd_X0_beginFactor : bz_kd mX0_beginFactor 1 := ⟨bz_mw 838 (by decide +kernel), bz_mw 84 (by decide +kernel), by decide +kernel, by decide⟩
theorem kv_X0_132 : bz_kv RX0 132 mX0_beginFactor 0 1 := ⟨kd_X0_beginFactor, bz_mw 835 (by decide +kernel), bz_mw 837 (by decide +kernel), bz_mw 23 (by decide +kernel), (_, _, _), rfl, rfl⟩
theorem kd_X0_openBracket : bz_kd mX0_openBracket 0 := ⟨bz_mw 842 (by decide +kernel), bz_mw 84 (by decide +kernel), by decide +kernel, by decide⟩
theorem kv_X0_149 : bz_kv RX0 149 mX0_openBracket 0 0 := ⟨kd_X0_openBracket, bz_mw 839 (by decide +kernel), bz_mw 841 (by decide +kernel), bz_mw 24 (by decide +kernel), (_, _, _), rfl, rfl⟩
theorem kd_X0_push : bz_kd mX0_push 1 := ⟨bz_mw 846 (by decide +kernel), bz_mw 84 (by decide +kernel), by decide +kernel, by decide⟩
theorem kv_X0_143 : bz_kv RX0 143 mX0_push 0 1 := ⟨kd_X0_push, bz_mw 843 (by decide +kernel), bz_mw 845 (by decide +kernel), bz_mw 25 (by decide +kernel), (_, _, _), rfl, rfl⟩
theorem kv_X0_152 : bz_kv RX0 152 mX6_add 6 1 := ⟨kd_X6_add, bz_mw 847 (by decide +kernel), bz_mw 357 (by decide +kernel), bz_mw 358 (by decide +kernel), (_, _, _), rfl, rfl⟩
theorem kd_X0_addPending : bz_kd mX0_addPending 2 := ⟨bz_mw 855 (by decide +kernel), bz_mw 84 (by decide +kernel), by decide +kernel, by decide⟩
theorem kv_X0_139 : bz_kv RX0 139 mX0_addPending 0 2 := ⟨kd_X0_addPending, bz_mw 852 (by decide +kernel), bz_mw 854 (by decide +kernel), bz_mw 26 (by decide +kernel), (_, _, _), rfl, rfl⟩
theorem kn_X0_163 : bz_kn RX0 163 mX8_cellOf 2 := ⟨kd_X8_cellOf, by decide +kernel, bz_mw 379 (by decide +kernel)⟩
theorem kd_X0_closeBracket : bz_kd mX0_closeBracket 1 := ⟨bz_mw 860 (by decide +kernel), bz_mw 84 (by decide +kernel), by decide +kernel, by decide⟩
theorem kv_X0_146 : bz_kv RX0 146 mX0_closeBracket 0 1 := ⟨kd_X0_closeBracket, bz_mw 857 (by decide +kernel), bz_mw 859 (by decide +kernel), bz_mw 27 (by decide +kernel), (_, _, _), rfl, rfl⟩
theorem kd_X0_once : bz_kd mX0_once 1 := ⟨bz_mw 865 (by decide +kernel), bz_mw 84 (by decide +kernel), by decide +kernel, by decide⟩
theorem kv_X0_103 : bz_kv RX0 103 mX0_once 0 1 := ⟨kd_X0_once, bz_mw 862 (by decide +kernel), bz_mw 864 (by decide +kernel), bz_mw 28 (by decide +kernel), (_, _, _), rfl, rfl⟩
theorem kd_X0_expectSemicolon : bz_kd mX0_expectSemicolon 0 := ⟨bz_mw 870 (by decide +kernel), bz_mw 84 (by decide +kernel), by decide +kernel, by decide⟩
theorem kv_X0_54 : bz_kv RX0 54 mX0_expectSemicolon 0 0 := ⟨kd_X0_expectSemicolon, bz_mw 867 (by decide +kernel), bz_mw 869 (by decide +kernel), bz_mw 29 (by decide +kernel), (_, _, _), rfl, rfl⟩
theorem kd_X8_replacePlan : bz_kd mX8_replacePlan 0 := ⟨bz_mw 874 (by decide +kernel), bz_mw 83 (by decide +kernel), by decide +kernel, by decide⟩
theorem kv_X8_85 : bz_kv RX8 85 mX8_replacePlan 8 0 := ⟨kd_X8_replacePlan, bz_mw 871 (by decide +kernel), bz_mw 873 (by decide +kernel), bz_mw 30 (by decide +kernel), (_, _, _), rfl, rfl⟩
theorem kd_X1_forget : bz_kd mX1_forget 0 := ⟨bz_mw 878 (by decide +kernel), bz_mw 91 (by decide +kernel), by decide +kernel, by decide⟩
theorem kv_X8_88 : bz_kv RX8 88 mX1_forget 1 0 := ⟨kd_X1_forget, bz_mw 875 (by decide +kernel), bz_mw 876 (by decide +kernel), bz_mw 877 (by decide +kernel), (_, _, _), rfl, rfl⟩
theorem kd_X8_mayPass : bz_kd mX8_mayPass 3 := ⟨bz_mw 886 (by decide +kernel), bz_mw 83 (by decide +kernel), by decide +kernel, by decide⟩
theorem kv_L_15 : bz_kv RL 15 mX8_mayPass 8 3 := ⟨kd_X8_mayPass, bz_mw 883 (by decide +kernel), bz_mw 884 (by decide +kernel), bz_mw 885 (by decide +kernel), (_, _, _), rfl, rfl⟩
theorem kd_X8_checkKind : bz_kd mX8_checkKind 1 := ⟨bz_mw 889 (by decide +kernel), bz_mw 83 (by decide +kernel), by decide +kernel, by decide⟩
theorem ks_X8_101 : bz_ks RX8 101 mX8_checkKind 1 := ⟨kd_X8_checkKind, bz_mw 887 (by decide +kernel), bz_mw 888 (by decide +kernel)⟩
theorem kd_X8_hasBit : bz_kd mX8_hasBit 2 := ⟨bz_mw 908 (by decide +kernel), bz_mw 83 (by decide +kernel), by decide +kernel, by decide⟩
theorem ks_X8_108 : bz_ks RX8 108 mX8_hasBit 2 := ⟨kd_X8_hasBit, bz_mw 906 (by decide +kernel), bz_mw 907 (by decide +kernel)⟩
theorem kd_X8_holds : bz_kd mX8_holds 2 := ⟨bz_mw 915 (by decide +kernel), bz_mw 83 (by decide +kernel), by decide +kernel, by decide⟩
theorem kv_L_21 : bz_kv RL 21 mX8_holds 8 2 := ⟨kd_X8_holds, bz_mw 912 (by decide +kernel), bz_mw 913 (by decide +kernel), bz_mw 914 (by decide +kernel), (_, _, _), rfl, rfl⟩
theorem kd_X8_waiting : bz_kd mX8_waiting 1 := ⟨bz_mw 922 (by decide +kernel), bz_mw 83 (by decide +kernel), by decide +kernel, by decide⟩
theorem kv_L_25 : bz_kv RL 25 mX8_waiting 8 1 := ⟨kd_X8_waiting, bz_mw 919 (by decide +kernel), bz_mw 920 (by decide +kernel), bz_mw 921 (by decide +kernel), (_, _, _), rfl, rfl⟩
theorem kd_X8_checkSide : bz_kd mX8_checkSide 1 := ⟨bz_mw 925 (by decide +kernel), bz_mw 83 (by decide +kernel), by decide +kernel, by decide⟩
theorem ks_X8_116 : bz_ks RX8 116 mX8_checkSide 1 := ⟨kd_X8_checkSide, bz_mw 923 (by decide +kernel), bz_mw 924 (by decide +kernel)⟩
theorem kd_X8_kindAt : bz_kd mX8_kindAt 2 := ⟨bz_mw 933 (by decide +kernel), bz_mw 83 (by decide +kernel), by decide +kernel, by decide⟩
theorem kv_L_28 : bz_kv RL 28 mX8_kindAt 8 2 := ⟨kd_X8_kindAt, bz_mw 930 (by decide +kernel), bz_mw 931 (by decide +kernel), bz_mw 932 (by decide +kernel), (_, _, _), rfl, rfl⟩
theorem kd_X8_checkPosition : bz_kd mX8_checkPosition 2 := ⟨bz_mw 937 (by decide +kernel), bz_mw 83 (by decide +kernel), by decide +kernel, by decide⟩
theorem kv_X8_134 : bz_kv RX8 134 mX8_checkPosition 8 2 := ⟨kd_X8_checkPosition, bz_mw 934 (by decide +kernel), bz_mw 936 (by decide +kernel), bz_mw 31 (by decide +kernel), (_, _, _), rfl, rfl⟩
theorem kv_X8_138 : bz_kv RX8 138 mX2_get 2 2 := ⟨kd_X2_get, bz_mw 939 (by decide +kernel), bz_mw 503 (by decide +kernel), bz_mw 504 (by decide +kernel), (_, _, _), rfl, rfl⟩
theorem kd_X8_tagAt : bz_kd mX8_tagAt 2 := ⟨bz_mw 946 (by decide +kernel), bz_mw 83 (by decide +kernel), by decide +kernel, by decide⟩
theorem kv_L_32 : bz_kv RL 32 mX8_tagAt 8 2 := ⟨kd_X8_tagAt, bz_mw 943 (by decide +kernel), bz_mw 944 (by decide +kernel), bz_mw 945 (by decide +kernel), (_, _, _), rfl, rfl⟩
theorem kd_X8_blockers : bz_kd mX8_blockers 2 := ⟨bz_mw 953 (by decide +kernel), bz_mw 83 (by decide +kernel), by decide +kernel, by decide⟩
theorem kv_L_35 : bz_kv RL 35 mX8_blockers 8 2 := ⟨kd_X8_blockers, bz_mw 950 (by decide +kernel), bz_mw 951 (by decide +kernel), bz_mw 952 (by decide +kernel), (_, _, _), rfl, rfl⟩
theorem kv_X8_141 : bz_kv RX8 141 mX2_isRelaxed 2 1 := ⟨kd_X2_isRelaxed, bz_mw 954 (by decide +kernel), bz_mw 580 (by decide +kernel), bz_mw 581 (by decide +kernel), (_, _, _), rfl, rfl⟩
theorem kd_X8_next : bz_kd mX8_next 1 := ⟨bz_mw 961 (by decide +kernel), bz_mw 83 (by decide +kernel), by decide +kernel, by decide⟩
theorem kv_L_38 : bz_kv RL 38 mX8_next 8 1 := ⟨kd_X8_next, bz_mw 958 (by decide +kernel), bz_mw 959 (by decide +kernel), bz_mw 960 (by decide +kernel), (_, _, _), rfl, rfl⟩
theorem kv_X8_145 : bz_kv RX8 145 mX5_firstReady 5 2 := ⟨kd_X5_firstReady, bz_mw 962 (by decide +kernel), bz_mw 574 (by decide +kernel), bz_mw 575 (by decide +kernel), (_, _, _), rfl, rfl⟩
theorem kd_X8_held : bz_kd mX8_held 2 := ⟨bz_mw 969 (by decide +kernel), bz_mw 83 (by decide +kernel), by decide +kernel, by decide⟩
theorem kv_L_41 : bz_kv RL 41 mX8_held 8 2 := ⟨kd_X8_held, bz_mw 966 (by decide +kernel), bz_mw 967 (by decide +kernel), bz_mw 968 (by decide +kernel), (_, _, _), rfl, rfl⟩
theorem kv_X8_152 : bz_kv RX8 152 mX2_countOf 2 1 := ⟨kd_X2_countOf, bz_mw 970 (by decide +kernel), bz_mw 519 (by decide +kernel), bz_mw 520 (by decide +kernel), (_, _, _), rfl, rfl⟩
theorem kd_X8_word : bz_kd mX8_word 2 := ⟨bz_mw 977 (by decide +kernel), bz_mw 83 (by decide +kernel), by decide +kernel, by decide⟩
theorem kv_L_44 : bz_kv RL 44 mX8_word 8 2 := ⟨kd_X8_word, bz_mw 974 (by decide +kernel), bz_mw 975 (by decide +kernel), bz_mw 976 (by decide +kernel), (_, _, _), rfl, rfl⟩
theorem kd_X4_memoryAt : bz_kd mX4_memoryAt 1 := ⟨bz_mw 982 (by decide +kernel), bz_mw 88 (by decide +kernel), by decide +kernel, by decide⟩
theorem kv_X8_161 : bz_kv RX8 161 mX4_memoryAt 4 1 := ⟨kd_X4_memoryAt, bz_mw 979 (by decide +kernel), bz_mw 980 (by decide +kernel), bz_mw 981 (by decide +kernel), (_, _, _), rfl, rfl⟩
theorem kd_X8_tagState : bz_kd mX8_tagState 2 := ⟨bz_mw 989 (by decide +kernel), bz_mw 83 (by decide +kernel), by decide +kernel, by decide⟩
theorem kv_L_47 : bz_kv RL 47 mX8_tagState 8 2 := ⟨kd_X8_tagState, bz_mw 986 (by decide +kernel), bz_mw 987 (by decide +kernel), bz_mw 988 (by decide +kernel), (_, _, _), rfl, rfl⟩
theorem kd_X8_checkTag : bz_kd mX8_checkTag 2 := ⟨bz_mw 993 (by decide +kernel), bz_mw 83 (by decide +kernel), by decide +kernel, by decide⟩
theorem kv_X8_164 : bz_kv RX8 164 mX8_checkTag 8 2 := ⟨kd_X8_checkTag, bz_mw 990 (by decide +kernel), bz_mw 992 (by decide +kernel), bz_mw 32 (by decide +kernel), (_, _, _), rfl, rfl⟩
theorem kd_X7_stateOf : bz_kd mX7_stateOf 1 := ⟨bz_mw 998 (by decide +kernel), bz_mw 90 (by decide +kernel), by decide +kernel, by decide⟩
theorem kv_X8_171 : bz_kv RX8 171 mX7_stateOf 7 1 := ⟨kd_X7_stateOf, bz_mw 995 (by decide +kernel), bz_mw 996 (by decide +kernel), bz_mw 997 (by decide +kernel), (_, _, _), rfl, rfl⟩
theorem kn_X7_36 : bz_kn RX7 36 mX8_cellOf 2 := ⟨kd_X8_cellOf, by decide +kernel, bz_mw 379 (by decide +kernel)⟩
theorem kd_X8_stored : bz_kd mX8_stored 2 := ⟨bz_mw 1006 (by decide +kernel), bz_mw 83 (by decide +kernel), by decide +kernel, by decide⟩
theorem kv_L_50 : bz_kv RL 50 mX8_stored 8 2 := ⟨kd_X8_stored, bz_mw 1003 (by decide +kernel), bz_mw 1004 (by decide +kernel), bz_mw 1005 (by decide +kernel), (_, _, _), rfl, rfl⟩
theorem kd_X7_storedWords : bz_kd mX7_storedWords 1 := ⟨bz_mw 1010 (by decide +kernel), bz_mw 90 (by decide +kernel), by decide +kernel, by decide⟩
theorem kv_X8_176 : bz_kv RX8 176 mX7_storedWords 7 1 := ⟨kd_X7_storedWords, bz_mw 1007 (by decide +kernel), bz_mw 1008 (by decide +kernel), bz_mw 1009 (by decide +kernel), (_, _, _), rfl, rfl⟩
theorem kd_X8_data : bz_kd mX8_data 3 := ⟨bz_mw 1018 (by decide +kernel), bz_mw 83 (by decide +kernel), by decide +kernel, by decide⟩
theorem kv_L_53 : bz_kv RL 53 mX8_data 8 3 := ⟨kd_X8_data, bz_mw 1015 (by decide +kernel), bz_mw 1016 (by decide +kernel), bz_mw 1017 (by decide +kernel), (_, _, _), rfl, rfl⟩
theorem kd_X7_hasWord : bz_kd mX7_hasWord 2 := ⟨bz_mw 1022 (by decide +kernel), bz_mw 90 (by decide +kernel), by decide +kernel, by decide⟩
theorem kv_X8_179 : bz_kv RX8 179 mX7_hasWord 7 2 := ⟨kd_X7_hasWord, bz_mw 1019 (by decide +kernel), bz_mw 1020 (by decide +kernel), bz_mw 1021 (by decide +kernel), (_, _, _), rfl, rfl⟩
theorem kn_X7_46 : bz_kn RX7 46 mX8_hasBit 2 := ⟨kd_X8_hasBit, by decide +kernel, bz_mw 907 (by decide +kernel)⟩
theorem kd_X7_wordOf : bz_kd mX7_wordOf 2 := ⟨bz_mw 1043 (by decide +kernel), bz_mw 90 (by decide +kernel), by decide +kernel, by decide⟩
theorem kv_X8_187 : bz_kv RX8 187 mX7_wordOf 7 2 := ⟨kd_X7_wordOf, bz_mw 1040 (by decide +kernel), bz_mw 1041 (by decide +kernel), bz_mw 1042 (by decide +kernel), (_, _, _), rfl, rfl⟩
theorem kd_X8_forwarded : bz_kd mX8_forwarded 1 := ⟨bz_mw 1050 (by decide +kernel), bz_mw 83 (by decide +kernel), by decide +kernel, by decide⟩
theorem kv_L_59 : bz_kv RL 59 mX8_forwarded 8 1 := ⟨kd_X8_forwarded, bz_mw 1047 (by decide +kernel), bz_mw 1048 (by decide +kernel), bz_mw 1049 (by decide +kernel), (_, _, _), rfl, rfl⟩
theorem kd_X8_passings : bz_kd mX8_passings 1 := ⟨bz_mw 1057 (by decide +kernel), bz_mw 83 (by decide +kernel), by decide +kernel, by decide⟩
theorem kv_L_62 : bz_kv RL 62 mX8_passings 8 1 := ⟨kd_X8_passings, bz_mw 1054 (by decide +kernel), bz_mw 1055 (by decide +kernel), bz_mw 1056 (by decide +kernel), (_, _, _), rfl, rfl⟩
theorem kd_X8_utilisation : bz_kd mX8_utilisation 1 := ⟨bz_mw 1064 (by decide +kernel), bz_mw 83 (by decide +kernel), by decide +kernel, by decide⟩
theorem kv_L_65 : bz_kv RL 65 mX8_utilisation 8 1 := ⟨kd_X8_utilisation, bz_mw 1061 (by decide +kernel), bz_mw 1062 (by decide +kernel), bz_mw 1063 (by decide +kernel), (_, _, _), rfl, rfl⟩
theorem kd_X8_averageWait : bz_kd mX8_averageWait 1 := ⟨bz_mw 1071 (by decide +kernel), bz_mw 83 (by decide +kernel), by decide +kernel, by decide⟩
theorem kv_L_69 : bz_kv RL 69 mX8_averageWait 8 1 := ⟨kd_X8_averageWait, bz_mw 1068 (by decide +kernel), bz_mw 1069 (by decide +kernel), bz_mw 1070 (by decide +kernel), (_, _, _), rfl, rfl⟩
theorem kd_X8_completeTick : bz_kd mX8_completeTick 2 := ⟨bz_mw 1078 (by decide +kernel), bz_mw 83 (by decide +kernel), by decide +kernel, by decide⟩
theorem kv_L_73 : bz_kv RL 73 mX8_completeTick 8 2 := ⟨kd_X8_completeTick, bz_mw 1075 (by decide +kernel), bz_mw 1076 (by decide +kernel), bz_mw 1077 (by decide +kernel), (_, _, _), rfl, rfl⟩
theorem kd_X8_run : bz_kd mX8_run 1 := ⟨bz_mw 1085 (by decide +kernel), bz_mw 83 (by decide +kernel), by decide +kernel, by decide⟩
theorem kv_L_76 : bz_kv RL 76 mX8_run 8 1 := ⟨kd_X8_run, bz_mw 1082 (by decide +kernel), bz_mw 1083 (by decide +kernel), bz_mw 1084 (by decide +kernel), (_, _, _), rfl, rfl⟩
theorem kd_X1_remember : bz_kd mX1_remember 1 := ⟨bz_mw 1091 (by decide +kernel), bz_mw 91 (by decide +kernel), by decide +kernel, by decide⟩
theorem kv_X8_230 : bz_kv RX8 230 mX1_remember 1 1 := ⟨kd_X1_remember, bz_mw 1088 (by decide +kernel), bz_mw 1089 (by decide +kernel), bz_mw 1090 (by decide +kernel), (_, _, _), rfl, rfl⟩
theorem ks_X1_33 : bz_ks RX1 33 mJ9_min_7cf53 2 := ⟨kd_J9_min_7cf53, bz_mw 1092 (by decide +kernel), bz_mw 524 (by decide +kernel)⟩
theorem kd_X5_forwardedInAll : bz_kd mX5_forwardedInAll 0 := ⟨bz_mw 1096 (by decide +kernel), bz_mw 87 (by decide +kernel), by decide +kernel, by decide⟩
theorem kv_X8_233 : bz_kv RX8 233 mX5_forwardedInAll 5 0 := ⟨kd_X5_forwardedInAll, bz_mw 1093 (by decide +kernel), bz_mw 1094 (by decide +kernel), bz_mw 1095 (by decide +kernel), (_, _, _), rfl, rfl⟩
theorem kd_X8_post : bz_kd mX8_post 5 := ⟨bz_mw 1103 (by decide +kernel), bz_mw 83 (by decide +kernel), by decide +kernel, by decide⟩
theorem kv_L_79 : bz_kv RL 79 mX8_post 8 5 := ⟨kd_X8_post, bz_mw 1100 (by decide +kernel), bz_mw 1101 (by decide +kernel), bz_mw 1102 (by decide +kernel), (_, _, _), rfl, rfl⟩
theorem kd_X8_checkRange : bz_kd mX8_checkRange 2 := ⟨bz_mw 1106 (by decide +kernel), bz_mw 83 (by decide +kernel), by decide +kernel, by decide⟩
theorem ks_X8_236 : bz_ks RX8 236 mX8_checkRange 2 := ⟨kd_X8_checkRange, bz_mw 1104 (by decide +kernel), bz_mw 1105 (by decide +kernel)⟩
theorem kd_X8_checkRoom : bz_kd mX8_checkRoom 2 := ⟨bz_mw 1111 (by decide +kernel), bz_mw 83 (by decide +kernel), by decide +kernel, by decide⟩
theorem kv_X8_239 : bz_kv RX8 239 mX8_checkRoom 8 2 := ⟨kd_X8_checkRoom, bz_mw 1108 (by decide +kernel), bz_mw 1110 (by decide +kernel), bz_mw 33 (by decide +kernel), (_, _, _), rfl, rfl⟩
theorem kv_X8_287 : bz_kv RX8 287 mX3_sizeOf 3 2 := ⟨kd_X3_sizeOf, bz_mw 1112 (by decide +kernel), bz_mw 495 (by decide +kernel), bz_mw 496 (by decide +kernel), (_, _, _), rfl, rfl⟩
theorem kv_X8_242 : bz_kv RX8 242 mX2_open 2 6 := ⟨kd_X2_open, bz_mw 1114 (by decide +kernel), bz_mw 531 (by decide +kernel), bz_mw 532 (by decide +kernel), (_, _, _), rfl, rfl⟩
theorem kd_X2_putValues : bz_kd mX2_putValues 2 := ⟨bz_mw 1118 (by decide +kernel), bz_mw 89 (by decide +kernel), by decide +kernel, by decide⟩
theorem kv_X8_246 : bz_kv RX8 246 mX2_putValues 2 2 := ⟨kd_X2_putValues, bz_mw 1115 (by decide +kernel), bz_mw 1116 (by decide +kernel), bz_mw 1117 (by decide +kernel), (_, _, _), rfl, rfl⟩
theorem kv_X2_42 : bz_kv RX2 42 mX2_put 2 3 := ⟨kd_X2_put, bz_mw 1119 (by decide +kernel), bz_mw 535 (by decide +kernel), bz_mw 536 (by decide +kernel), (_, _, _), rfl, rfl⟩
theorem kd_X8_read : bz_kd mX8_read 4 := ⟨bz_mw 1126 (by decide +kernel), bz_mw 83 (by decide +kernel), by decide +kernel, by decide⟩
theorem kv_L_83 : bz_kv RL 83 mX8_read 8 4 := ⟨kd_X8_read, bz_mw 1123 (by decide +kernel), bz_mw 1124 (by decide +kernel), bz_mw 1125 (by decide +kernel), (_, _, _), rfl, rfl⟩
theorem kd_X8_findFreeTag : bz_kd mX8_findFreeTag 1 := ⟨bz_mw 1130 (by decide +kernel), bz_mw 83 (by decide +kernel), by decide +kernel, by decide⟩
theorem kv_X8_249 : bz_kv RX8 249 mX8_findFreeTag 8 1 := ⟨kd_X8_findFreeTag, bz_mw 1127 (by decide +kernel), bz_mw 1129 (by decide +kernel), bz_mw 34 (by decide +kernel), (_, _, _), rfl, rfl⟩
theorem kd_X7_lowestFree : bz_kd mX7_lowestFree 1 := ⟨bz_mw 1134 (by decide +kernel), bz_mw 90 (by decide +kernel), by decide +kernel, by decide⟩
theorem kv_X8_292 : bz_kv RX8 292 mX7_lowestFree 7 1 := ⟨kd_X7_lowestFree, bz_mw 1131 (by decide +kernel), bz_mw 1132 (by decide +kernel), bz_mw 1133 (by decide +kernel), (_, _, _), rfl, rfl⟩
theorem kv_X7_50 : bz_kv RX7 50 mX7_stateOf 7 1 := ⟨kd_X7_stateOf, bz_mw 1135 (by decide +kernel), bz_mw 996 (by decide +kernel), bz_mw 997 (by decide +kernel), (_, _, _), rfl, rfl⟩
theorem kd_X7_begin : bz_kd mX7_begin 2 := ⟨bz_mw 1140 (by decide +kernel), bz_mw 90 (by decide +kernel), by decide +kernel, by decide⟩
theorem kv_X8_252 : bz_kv RX8 252 mX7_begin 7 2 := ⟨kd_X7_begin, bz_mw 1137 (by decide +kernel), bz_mw 1138 (by decide +kernel), bz_mw 1139 (by decide +kernel), (_, _, _), rfl, rfl⟩
theorem kd_X7_put : bz_kd mX7_put 3 := ⟨bz_mw 1144 (by decide +kernel), bz_mw 90 (by decide +kernel), by decide +kernel, by decide⟩
theorem kv_X7_53 : bz_kv RX7 53 mX7_put 7 3 := ⟨kd_X7_put, bz_mw 1141 (by decide +kernel), bz_mw 1143 (by decide +kernel), bz_mw 35 (by decide +kernel), (_, _, _), rfl, rfl⟩
theorem kd_X8_configure : bz_kd mX8_configure 4 := ⟨bz_mw 1151 (by decide +kernel), bz_mw 83 (by decide +kernel), by decide +kernel, by decide⟩
theorem kv_L_87 : bz_kv RL 87 mX8_configure 8 4 := ⟨kd_X8_configure, bz_mw 1148 (by decide +kernel), bz_mw 1149 (by decide +kernel), bz_mw 1150 (by decide +kernel), (_, _, _), rfl, rfl⟩
theorem kd_X8_release : bz_kd mX8_release 2 := ⟨bz_mw 1158 (by decide +kernel), bz_mw 83 (by decide +kernel), by decide +kernel, by decide⟩
theorem kv_L_90 : bz_kv RL 90 mX8_release 8 2 := ⟨kd_X8_release, bz_mw 1155 (by decide +kernel), bz_mw 1156 (by decide +kernel), bz_mw 1157 (by decide +kernel), (_, _, _), rfl, rfl⟩
theorem kd_X7_free : bz_kd mX7_free 1 := ⟨bz_mw 1163 (by decide +kernel), bz_mw 90 (by decide +kernel), by decide +kernel, by decide⟩
theorem kv_X8_257 : bz_kv RX8 257 mX7_free 7 1 := ⟨kd_X7_free, bz_mw 1160 (by decide +kernel), bz_mw 1161 (by decide +kernel), bz_mw 1162 (by decide +kernel), (_, _, _), rfl, rfl⟩
theorem kd_X8_saveSnapshot : bz_kd mX8_saveSnapshot 1 := ⟨bz_mw 1170 (by decide +kernel), bz_mw 83 (by decide +kernel), by decide +kernel, by decide⟩
theorem kv_L_93 : bz_kv RL 93 mX8_saveSnapshot 8 1 := ⟨kd_X8_saveSnapshot, bz_mw 1167 (by decide +kernel), bz_mw 1168 (by decide +kernel), bz_mw 1169 (by decide +kernel), (_, _, _), rfl, rfl⟩
theorem kd_X8_checkSlot : bz_kd mX8_checkSlot 1 := ⟨bz_mw 1173 (by decide +kernel), bz_mw 83 (by decide +kernel), by decide +kernel, by decide⟩
theorem ks_X8_264 : bz_ks RX8 264 mX8_checkSlot 1 := ⟨kd_X8_checkSlot, bz_mw 1171 (by decide +kernel), bz_mw 1172 (by decide +kernel)⟩
theorem kd_X8_isSaved : bz_kd mX8_isSaved 1 := ⟨bz_mw 1178 (by decide +kernel), bz_mw 83 (by decide +kernel), by decide +kernel, by decide⟩
theorem kv_X8_267 : bz_kv RX8 267 mX8_isSaved 8 1 := ⟨kd_X8_isSaved, bz_mw 1175 (by decide +kernel), bz_mw 1177 (by decide +kernel), bz_mw 36 (by decide +kernel), (_, _, _), rfl, rfl⟩
theorem kd_X8_restoreSnapshot : bz_kd mX8_restoreSnapshot 1 := ⟨bz_mw 1185 (by decide +kernel), bz_mw 83 (by decide +kernel), by decide +kernel, by decide⟩
theorem kv_L_97 : bz_kv RL 97 mX8_restoreSnapshot 8 1 := ⟨kd_X8_restoreSnapshot, bz_mw 1182 (by decide +kernel), bz_mw 1183 (by decide +kernel), bz_mw 1184 (by decide +kernel), (_, _, _), rfl, rfl⟩
theorem kd_X9_init : bz_kd mX9_init 0 := ⟨bz_mw 1191 (by decide +kernel), bz_mw 93 (by decide +kernel), by decide +kernel, by decide⟩
theorem kd_X9_clearDraft : bz_kd mX9_clearDraft 0 := ⟨bz_mw 1196 (by decide +kernel), bz_mw 93 (by decide +kernel), by decide +kernel, by decide⟩
theorem kv_X9_61 : bz_kv RX9 61 mX9_clearDraft 9 0 := ⟨kd_X9_clearDraft, bz_mw 1193 (by decide +kernel), bz_mw 1195 (by decide +kernel), bz_mw 37 (by decide +kernel), (_, _, _), rfl, rfl⟩
theorem kd_X9_passesAlways : bz_kd mX9_passesAlways 2 := ⟨bz_mw 1199 (by decide +kernel), bz_mw 93 (by decide +kernel), by decide +kernel, by decide⟩
theorem ks_X9_77 : bz_ks RX9 77 mX9_passesAlways 2 := ⟨kd_X9_passesAlways, bz_mw 1197 (by decide +kernel), bz_mw 1198 (by decide +kernel)⟩
theorem kd_X9_emit : bz_kd mX9_emit 1 := ⟨bz_mw 1203 (by decide +kernel), bz_mw 93 (by decide +kernel), by decide +kernel, by decide⟩
theorem kv_X9_84 : bz_kv RX9 84 mX9_emit 9 1 := ⟨kd_X9_emit, bz_mw 1200 (by decide +kernel), bz_mw 1202 (by decide +kernel), bz_mw 38 (by decide +kernel), (_, _, _), rfl, rfl⟩
theorem kd_X9_liftsAll : bz_kd mX9_liftsAll 0 := ⟨bz_mw 1207 (by decide +kernel), bz_mw 93 (by decide +kernel), by decide +kernel, by decide⟩
theorem kv_X9_64 : bz_kv RX9 64 mX9_liftsAll 9 0 := ⟨kd_X9_liftsAll, bz_mw 1204 (by decide +kernel), bz_mw 1206 (by decide +kernel), bz_mw 39 (by decide +kernel), (_, _, _), rfl, rfl⟩
theorem kd_X9_lifts : bz_kd mX9_lifts 1 := ⟨bz_mw 1210 (by decide +kernel), bz_mw 93 (by decide +kernel), by decide +kernel, by decide⟩
theorem ks_X9_73 : bz_ks RX9 73 mX9_lifts 1 := ⟨kd_X9_lifts, bz_mw 1208 (by decide +kernel), bz_mw 1209 (by decide +kernel)⟩
theorem kd_X9_begins : bz_kd mX9_begins 0 := ⟨bz_mw 1214 (by decide +kernel), bz_mw 93 (by decide +kernel), by decide +kernel, by decide⟩
theorem kv_X9_67 : bz_kv RX9 67 mX9_begins 9 0 := ⟨kd_X9_begins, bz_mw 1211 (by decide +kernel), bz_mw 1213 (by decide +kernel), bz_mw 40 (by decide +kernel), (_, _, _), rfl, rfl⟩
theorem kd_X9_thrown : bz_kd mX9_thrown 0 := ⟨bz_mw 1313 (by decide +kernel), bz_mw 93 (by decide +kernel), by decide +kernel, by decide⟩
theorem kv_L_115 : bz_kv RL 115 mX9_thrown 9 0 := ⟨kd_X9_thrown, bz_mw 1310 (by decide +kernel), bz_mw 1311 (by decide +kernel), bz_mw 1312 (by decide +kernel), (_, _, _), rfl, rfl⟩
theorem kd_X9_append : bz_kd mX9_append 5 := ⟨bz_mw 1317 (by decide +kernel), bz_mw 93 (by decide +kernel), by decide +kernel, by decide⟩
theorem kv_L_108 : bz_kv RL 108 mX9_append 9 5 := ⟨kd_X9_append, bz_mw 1314 (by decide +kernel), bz_mw 1315 (by decide +kernel), bz_mw 1316 (by decide +kernel), (_, _, _), rfl, rfl⟩
theorem kd_X9_bytesOf : bz_kd mX9_bytesOf 1 := ⟨bz_mw 1321 (by decide +kernel), bz_mw 93 (by decide +kernel), by decide +kernel, by decide⟩
theorem kv_X9_91 : bz_kv RX9 91 mX9_bytesOf 9 1 := ⟨kd_X9_bytesOf, bz_mw 1318 (by decide +kernel), bz_mw 1320 (by decide +kernel), bz_mw 41 (by decide +kernel), (_, _, _), rfl, rfl⟩
theorem kd_X9_parse : bz_kd mX9_parse 1 := ⟨bz_mw 1325 (by decide +kernel), bz_mw 93 (by decide +kernel), by decide +kernel, by decide⟩
theorem kv_L_114 : bz_kv RL 114 mX9_parse 9 1 := ⟨kd_X9_parse, bz_mw 1322 (by decide +kernel), bz_mw 1323 (by decide +kernel), bz_mw 1324 (by decide +kernel), (_, _, _), rfl, rfl⟩
theorem kd_X9_within : bz_kd mX9_within 3 := ⟨bz_mw 1328 (by decide +kernel), bz_mw 93 (by decide +kernel), by decide +kernel, by decide⟩
theorem ks_X9_114 : bz_ks RX9 114 mX9_within 3 := ⟨kd_X9_within, bz_mw 1326 (by decide +kernel), bz_mw 1327 (by decide +kernel)⟩
theorem kd_X9_throwsIf : bz_kd mX9_throwsIf 2 := ⟨bz_mw 1332 (by decide +kernel), bz_mw 93 (by decide +kernel), by decide +kernel, by decide⟩
theorem kv_X9_210 : bz_kv RX9 210 mX9_throwsIf 9 2 := ⟨kd_X9_throwsIf, bz_mw 1329 (by decide +kernel), bz_mw 1331 (by decide +kernel), bz_mw 42 (by decide +kernel), (_, _, _), rfl, rfl⟩
theorem kd_X9_advance : bz_kd mX9_advance 0 := ⟨bz_mw 1336 (by decide +kernel), bz_mw 93 (by decide +kernel), by decide +kernel, by decide⟩
theorem kv_X9_139 : bz_kv RX9 139 mX9_advance 9 0 := ⟨kd_X9_advance, bz_mw 1333 (by decide +kernel), bz_mw 1335 (by decide +kernel), bz_mw 43 (by decide +kernel), (_, _, _), rfl, rfl⟩
theorem kd_X9_byteAt : bz_kd mX9_byteAt 1 := ⟨bz_mw 1340 (by decide +kernel), bz_mw 93 (by decide +kernel), by decide +kernel, by decide⟩
theorem kv_X9_101 : bz_kv RX9 101 mX9_byteAt 9 1 := ⟨kd_X9_byteAt, bz_mw 1337 (by decide +kernel), bz_mw 1339 (by decide +kernel), bz_mw 44 (by decide +kernel), (_, _, _), rfl, rfl⟩
theorem kd_X9_isSign : bz_kd mX9_isSign 1 := ⟨bz_mw 1343 (by decide +kernel), bz_mw 93 (by decide +kernel), by decide +kernel, by decide⟩
theorem ks_X9_118 : bz_ks RX9 118 mX9_isSign 1 := ⟨kd_X9_isSign, bz_mw 1341 (by decide +kernel), bz_mw 1342 (by decide +kernel)⟩
theorem kd_X9_statement : bz_kd mX9_statement 0 := ⟨bz_mw 1347 (by decide +kernel), bz_mw 93 (by decide +kernel), by decide +kernel, by decide⟩
theorem kv_X9_214 : bz_kv RX9 214 mX9_statement 9 0 := ⟨kd_X9_statement, bz_mw 1344 (by decide +kernel), bz_mw 1346 (by decide +kernel), bz_mw 45 (by decide +kernel), (_, _, _), rfl, rfl⟩
theorem kd_X9_isWord : bz_kd mX9_isWord 1 := ⟨bz_mw 1352 (by decide +kernel), bz_mw 93 (by decide +kernel), by decide +kernel, by decide⟩
theorem kv_X9_160 : bz_kv RX9 160 mX9_isWord 9 1 := ⟨kd_X9_isWord, bz_mw 1349 (by decide +kernel), bz_mw 1351 (by decide +kernel), bz_mw 46 (by decide +kernel), (_, _, _), rfl, rfl⟩
theorem kd_X9_lays : bz_kd mX9_lays 5 := ⟨bz_mw 1358 (by decide +kernel), bz_mw 93 (by decide +kernel), by decide +kernel, by decide⟩
theorem kv_X9_164 : bz_kv RX9 164 mX9_lays 9 5 := ⟨kd_X9_lays, bz_mw 1355 (by decide +kernel), bz_mw 1357 (by decide +kernel), bz_mw 47 (by decide +kernel), (_, _, _), rfl, rfl⟩
theorem kd_X9_takes : bz_kd mX9_takes 2 := ⟨bz_mw 1362 (by decide +kernel), bz_mw 93 (by decide +kernel), by decide +kernel, by decide⟩
theorem kv_X9_155 : bz_kv RX9 155 mX9_takes 9 2 := ⟨kd_X9_takes, bz_mw 1359 (by decide +kernel), bz_mw 1361 (by decide +kernel), bz_mw 48 (by decide +kernel), (_, _, _), rfl, rfl⟩
theorem kd_X9_fails : bz_kd mX9_fails 1 := ⟨bz_mw 1366 (by decide +kernel), bz_mw 93 (by decide +kernel), by decide +kernel, by decide⟩
theorem kv_X9_133 : bz_kv RX9 133 mX9_fails 9 1 := ⟨kd_X9_fails, bz_mw 1363 (by decide +kernel), bz_mw 1365 (by decide +kernel), bz_mw 49 (by decide +kernel), (_, _, _), rfl, rfl⟩
theorem kd_X9_setsOnce : bz_kd mX9_setsOnce 3 := ⟨bz_mw 1374 (by decide +kernel), bz_mw 93 (by decide +kernel), by decide +kernel, by decide⟩
theorem kv_X9_175 : bz_kv RX9 175 mX9_setsOnce 9 3 := ⟨kd_X9_setsOnce, bz_mw 1371 (by decide +kernel), bz_mw 1373 (by decide +kernel), bz_mw 50 (by decide +kernel), (_, _, _), rfl, rfl⟩
theorem kd_X9_has : bz_kd mX9_has 2 := ⟨bz_mw 1377 (by decide +kernel), bz_mw 93 (by decide +kernel), by decide +kernel, by decide⟩
theorem ks_X9_148 : bz_ks RX9 148 mX9_has 2 := ⟨kd_X9_has, bz_mw 1375 (by decide +kernel), bz_mw 1376 (by decide +kernel)⟩
theorem kd_X9_starts : bz_kd mX9_starts 2 := ⟨bz_mw 1381 (by decide +kernel), bz_mw 93 (by decide +kernel), by decide +kernel, by decide⟩
theorem kv_X9_151 : bz_kv RX9 151 mX9_starts 9 2 := ⟨kd_X9_starts, bz_mw 1378 (by decide +kernel), bz_mw 1380 (by decide +kernel), bz_mw 51 (by decide +kernel), (_, _, _), rfl, rfl⟩
theorem kd_X9_sum : bz_kd mX9_sum 0 := ⟨bz_mw 1387 (by decide +kernel), bz_mw 93 (by decide +kernel), by decide +kernel, by decide⟩
theorem kv_X9_185 : bz_kv RX9 185 mX9_sum 9 0 := ⟨kd_X9_sum, bz_mw 1384 (by decide +kernel), bz_mw 1386 (by decide +kernel), bz_mw 52 (by decide +kernel), (_, _, _), rfl, rfl⟩
theorem kd_X9_term : bz_kd mX9_term 0 := ⟨bz_mw 1391 (by decide +kernel), bz_mw 93 (by decide +kernel), by decide +kernel, by decide⟩
theorem kv_X9_189 : bz_kv RX9 189 mX9_term 9 0 := ⟨kd_X9_term, bz_mw 1388 (by decide +kernel), bz_mw 1390 (by decide +kernel), bz_mw 53 (by decide +kernel), (_, _, _), rfl, rfl⟩
theorem kd_X9_factor : bz_kd mX9_factor 0 := ⟨bz_mw 1395 (by decide +kernel), bz_mw 93 (by decide +kernel), by decide +kernel, by decide⟩
theorem kv_X9_192 : bz_kv RX9 192 mX9_factor 9 0 := ⟨kd_X9_factor, bz_mw 1392 (by decide +kernel), bz_mw 1394 (by decide +kernel), bz_mw 54 (by decide +kernel), (_, _, _), rfl, rfl⟩
theorem kd_X9_isSignHere : bz_kd mX9_isSignHere 1 := ⟨bz_mw 1399 (by decide +kernel), bz_mw 93 (by decide +kernel), by decide +kernel, by decide⟩
theorem kv_X9_142 : bz_kv RX9 142 mX9_isSignHere 9 1 := ⟨kd_X9_isSignHere, bz_mw 1396 (by decide +kernel), bz_mw 1398 (by decide +kernel), bz_mw 55 (by decide +kernel), (_, _, _), rfl, rfl⟩
theorem kd_X9_closes : bz_kd mX9_closes 1 := ⟨bz_mw 1403 (by decide +kernel), bz_mw 93 (by decide +kernel), by decide +kernel, by decide⟩
theorem kv_X9_195 : bz_kv RX9 195 mX9_closes 9 1 := ⟨kd_X9_closes, bz_mw 1400 (by decide +kernel), bz_mw 1402 (by decide +kernel), bz_mw 56 (by decide +kernel), (_, _, _), rfl, rfl⟩
theorem kd_X9_errorPosition : bz_kd mX9_errorPosition 0 := ⟨bz_mw 1411 (by decide +kernel), bz_mw 93 (by decide +kernel), by decide +kernel, by decide⟩
theorem kv_L_122 : bz_kv RL 122 mX9_errorPosition 9 0 := ⟨kd_X9_errorPosition, bz_mw 1408 (by decide +kernel), bz_mw 1409 (by decide +kernel), bz_mw 1410 (by decide +kernel), (_, _, _), rfl, rfl⟩
theorem kd_X9_tick : bz_kd mX9_tick 0 := ⟨bz_mw 1415 (by decide +kernel), bz_mw 93 (by decide +kernel), by decide +kernel, by decide⟩
theorem kv_L_126 : bz_kv RL 126 mX9_tick 9 0 := ⟨kd_X9_tick, bz_mw 1412 (by decide +kernel), bz_mw 1413 (by decide +kernel), bz_mw 1414 (by decide +kernel), (_, _, _), rfl, rfl⟩
theorem kd_X9_mayPass : bz_kd mX9_mayPass 3 := ⟨bz_mw 1419 (by decide +kernel), bz_mw 93 (by decide +kernel), by decide +kernel, by decide⟩
theorem kv_L_130 : bz_kv RL 130 mX9_mayPass 9 3 := ⟨kd_X9_mayPass, bz_mw 1416 (by decide +kernel), bz_mw 1417 (by decide +kernel), bz_mw 1418 (by decide +kernel), (_, _, _), rfl, rfl⟩
theorem kd_X9_no : bz_kd mX9_no 2 := ⟨bz_mw 1423 (by decide +kernel), bz_mw 93 (by decide +kernel), by decide +kernel, by decide⟩
theorem kv_X9_220 : bz_kv RX9 220 mX9_no 9 2 := ⟨kd_X9_no, bz_mw 1420 (by decide +kernel), bz_mw 1422 (by decide +kernel), bz_mw 57 (by decide +kernel), (_, _, _), rfl, rfl⟩
theorem kd_X9_passes : bz_kd mX9_passes 3 := ⟨bz_mw 1427 (by decide +kernel), bz_mw 93 (by decide +kernel), by decide +kernel, by decide⟩
theorem kv_X9_223 : bz_kv RX9 223 mX9_passes 9 3 := ⟨kd_X9_passes, bz_mw 1424 (by decide +kernel), bz_mw 1426 (by decide +kernel), bz_mw 58 (by decide +kernel), (_, _, _), rfl, rfl⟩
theorem kd_X9_isSafe : bz_kd mX9_isSafe 0 := ⟨bz_mw 1431 (by decide +kernel), bz_mw 93 (by decide +kernel), by decide +kernel, by decide⟩
theorem kv_L_135 : bz_kv RL 135 mX9_isSafe 9 0 := ⟨kd_X9_isSafe, bz_mw 1428 (by decide +kernel), bz_mw 1429 (by decide +kernel), bz_mw 1430 (by decide +kernel), (_, _, _), rfl, rfl⟩
theorem kd_X9_holds : bz_kd mX9_holds 2 := ⟨bz_mw 1435 (by decide +kernel), bz_mw 93 (by decide +kernel), by decide +kernel, by decide⟩
theorem kv_L_139 : bz_kv RL 139 mX9_holds 9 2 := ⟨kd_X9_holds, bz_mw 1432 (by decide +kernel), bz_mw 1433 (by decide +kernel), bz_mw 1434 (by decide +kernel), (_, _, _), rfl, rfl⟩
theorem kd_X9_waiting : bz_kd mX9_waiting 1 := ⟨bz_mw 1439 (by decide +kernel), bz_mw 93 (by decide +kernel), by decide +kernel, by decide⟩
theorem kv_L_142 : bz_kv RL 142 mX9_waiting 9 1 := ⟨kd_X9_waiting, bz_mw 1436 (by decide +kernel), bz_mw 1437 (by decide +kernel), bz_mw 1438 (by decide +kernel), (_, _, _), rfl, rfl⟩
theorem kd_X9_noSide : bz_kd mX9_noSide 1 := ⟨bz_mw 1443 (by decide +kernel), bz_mw 93 (by decide +kernel), by decide +kernel, by decide⟩
theorem kv_X9_227 : bz_kv RX9 227 mX9_noSide 9 1 := ⟨kd_X9_noSide, bz_mw 1440 (by decide +kernel), bz_mw 1442 (by decide +kernel), bz_mw 59 (by decide +kernel), (_, _, _), rfl, rfl⟩
theorem kd_X9_kindAt : bz_kd mX9_kindAt 2 := ⟨bz_mw 1447 (by decide +kernel), bz_mw 93 (by decide +kernel), by decide +kernel, by decide⟩
theorem kv_L_145 : bz_kv RL 145 mX9_kindAt 9 2 := ⟨kd_X9_kindAt, bz_mw 1444 (by decide +kernel), bz_mw 1445 (by decide +kernel), bz_mw 1446 (by decide +kernel), (_, _, _), rfl, rfl⟩
theorem kd_X9_noPosition : bz_kd mX9_noPosition 2 := ⟨bz_mw 1451 (by decide +kernel), bz_mw 93 (by decide +kernel), by decide +kernel, by decide⟩
theorem kv_X9_230 : bz_kv RX9 230 mX9_noPosition 9 2 := ⟨kd_X9_noPosition, bz_mw 1448 (by decide +kernel), bz_mw 1450 (by decide +kernel), bz_mw 60 (by decide +kernel), (_, _, _), rfl, rfl⟩
theorem kd_X9_waits : bz_kd mX9_waits 2 := ⟨bz_mw 1454 (by decide +kernel), bz_mw 93 (by decide +kernel), by decide +kernel, by decide⟩
theorem ks_X9_233 : bz_ks RX9 233 mX9_waits 2 := ⟨kd_X9_waits, bz_mw 1452 (by decide +kernel), bz_mw 1453 (by decide +kernel)⟩
theorem kd_X9_tagAt : bz_kd mX9_tagAt 2 := ⟨bz_mw 1458 (by decide +kernel), bz_mw 93 (by decide +kernel), by decide +kernel, by decide⟩
theorem kv_L_148 : bz_kv RL 148 mX9_tagAt 9 2 := ⟨kd_X9_tagAt, bz_mw 1455 (by decide +kernel), bz_mw 1456 (by decide +kernel), bz_mw 1457 (by decide +kernel), (_, _, _), rfl, rfl⟩
theorem kd_X9_blockers : bz_kd mX9_blockers 2 := ⟨bz_mw 1462 (by decide +kernel), bz_mw 93 (by decide +kernel), by decide +kernel, by decide⟩
theorem kv_L_151 : bz_kv RL 151 mX9_blockers 9 2 := ⟨kd_X9_blockers, bz_mw 1459 (by decide +kernel), bz_mw 1460 (by decide +kernel), bz_mw 1461 (by decide +kernel), (_, _, _), rfl, rfl⟩
theorem kd_X9_blocking : bz_kd mX9_blocking 2 := ⟨bz_mw 1466 (by decide +kernel), bz_mw 93 (by decide +kernel), by decide +kernel, by decide⟩
theorem kv_X9_237 : bz_kv RX9 237 mX9_blocking 9 2 := ⟨kd_X9_blocking, bz_mw 1463 (by decide +kernel), bz_mw 1465 (by decide +kernel), bz_mw 61 (by decide +kernel), (_, _, _), rfl, rfl⟩
theorem kd_X9_next : bz_kd mX9_next 1 := ⟨bz_mw 1470 (by decide +kernel), bz_mw 93 (by decide +kernel), by decide +kernel, by decide⟩
theorem kv_L_154 : bz_kv RL 154 mX9_next 9 1 := ⟨kd_X9_next, bz_mw 1467 (by decide +kernel), bz_mw 1468 (by decide +kernel), bz_mw 1469 (by decide +kernel), (_, _, _), rfl, rfl⟩
theorem kd_X9_nextOf : bz_kd mX9_nextOf 1 := ⟨bz_mw 1474 (by decide +kernel), bz_mw 93 (by decide +kernel), by decide +kernel, by decide⟩
theorem kv_X9_246 : bz_kv RX9 246 mX9_nextOf 9 1 := ⟨kd_X9_nextOf, bz_mw 1471 (by decide +kernel), bz_mw 1473 (by decide +kernel), bz_mw 62 (by decide +kernel), (_, _, _), rfl, rfl⟩
theorem kd_X9_heldOf : bz_kd mX9_heldOf 2 := ⟨bz_mw 1478 (by decide +kernel), bz_mw 93 (by decide +kernel), by decide +kernel, by decide⟩
theorem kv_X9_243 : bz_kv RX9 243 mX9_heldOf 9 2 := ⟨kd_X9_heldOf, bz_mw 1475 (by decide +kernel), bz_mw 1477 (by decide +kernel), bz_mw 63 (by decide +kernel), (_, _, _), rfl, rfl⟩
theorem kd_X9_held0 : bz_kd mX9_held0 2 := ⟨bz_mw 1481 (by decide +kernel), bz_mw 93 (by decide +kernel), by decide +kernel, by decide⟩
theorem ks_X9_240 : bz_ks RX9 240 mX9_held0 2 := ⟨kd_X9_held0, bz_mw 1479 (by decide +kernel), bz_mw 1480 (by decide +kernel)⟩
theorem kd_X9_held : bz_kd mX9_held 2 := ⟨bz_mw 1485 (by decide +kernel), bz_mw 93 (by decide +kernel), by decide +kernel, by decide⟩
theorem kv_L_157 : bz_kv RL 157 mX9_held 9 2 := ⟨kd_X9_held, bz_mw 1482 (by decide +kernel), bz_mw 1483 (by decide +kernel), bz_mw 1484 (by decide +kernel), (_, _, _), rfl, rfl⟩
theorem kd_X9_word : bz_kd mX9_word 2 := ⟨bz_mw 1489 (by decide +kernel), bz_mw 93 (by decide +kernel), by decide +kernel, by decide⟩
theorem kv_L_160 : bz_kv RL 160 mX9_word 9 2 := ⟨kd_X9_word, bz_mw 1486 (by decide +kernel), bz_mw 1487 (by decide +kernel), bz_mw 1488 (by decide +kernel), (_, _, _), rfl, rfl⟩
theorem kd_X9_tagState : bz_kd mX9_tagState 2 := ⟨bz_mw 1493 (by decide +kernel), bz_mw 93 (by decide +kernel), by decide +kernel, by decide⟩
theorem kv_L_163 : bz_kv RL 163 mX9_tagState 9 2 := ⟨kd_X9_tagState, bz_mw 1490 (by decide +kernel), bz_mw 1491 (by decide +kernel), bz_mw 1492 (by decide +kernel), (_, _, _), rfl, rfl⟩
theorem kd_X9_noTag : bz_kd mX9_noTag 2 := ⟨bz_mw 1497 (by decide +kernel), bz_mw 93 (by decide +kernel), by decide +kernel, by decide⟩
theorem kv_X9_249 : bz_kv RX9 249 mX9_noTag 9 2 := ⟨kd_X9_noTag, bz_mw 1494 (by decide +kernel), bz_mw 1496 (by decide +kernel), bz_mw 64 (by decide +kernel), (_, _, _), rfl, rfl⟩
theorem kd_X9_tagged : bz_kd mX9_tagged 2 := ⟨bz_mw 1500 (by decide +kernel), bz_mw 93 (by decide +kernel), by decide +kernel, by decide⟩
theorem ks_X9_252 : bz_ks RX9 252 mX9_tagged 2 := ⟨kd_X9_tagged, bz_mw 1498 (by decide +kernel), bz_mw 1499 (by decide +kernel)⟩
theorem kd_X9_stored : bz_kd mX9_stored 2 := ⟨bz_mw 1504 (by decide +kernel), bz_mw 93 (by decide +kernel), by decide +kernel, by decide⟩
theorem kv_L_166 : bz_kv RL 166 mX9_stored 9 2 := ⟨kd_X9_stored, bz_mw 1501 (by decide +kernel), bz_mw 1502 (by decide +kernel), bz_mw 1503 (by decide +kernel), (_, _, _), rfl, rfl⟩
theorem kd_X9_bits : bz_kd mX9_bits 1 := ⟨bz_mw 1507 (by decide +kernel), bz_mw 93 (by decide +kernel), by decide +kernel, by decide⟩
theorem ks_X9_255 : bz_ks RX9 255 mX9_bits 1 := ⟨kd_X9_bits, bz_mw 1505 (by decide +kernel), bz_mw 1506 (by decide +kernel)⟩
theorem kd_X9_data : bz_kd mX9_data 3 := ⟨bz_mw 1511 (by decide +kernel), bz_mw 93 (by decide +kernel), by decide +kernel, by decide⟩
theorem kv_L_170 : bz_kv RL 170 mX9_data 9 3 := ⟨kd_X9_data, bz_mw 1508 (by decide +kernel), bz_mw 1509 (by decide +kernel), bz_mw 1510 (by decide +kernel), (_, _, _), rfl, rfl⟩
theorem kd_X9_forwarded : bz_kd mX9_forwarded 1 := ⟨bz_mw 1515 (by decide +kernel), bz_mw 93 (by decide +kernel), by decide +kernel, by decide⟩
theorem kv_L_173 : bz_kv RL 173 mX9_forwarded 9 1 := ⟨kd_X9_forwarded, bz_mw 1512 (by decide +kernel), bz_mw 1513 (by decide +kernel), bz_mw 1514 (by decide +kernel), (_, _, _), rfl, rfl⟩
theorem kd_X9_passings : bz_kd mX9_passings 1 := ⟨bz_mw 1519 (by decide +kernel), bz_mw 93 (by decide +kernel), by decide +kernel, by decide⟩
theorem kv_L_176 : bz_kv RL 176 mX9_passings 9 1 := ⟨kd_X9_passings, bz_mw 1516 (by decide +kernel), bz_mw 1517 (by decide +kernel), bz_mw 1518 (by decide +kernel), (_, _, _), rfl, rfl⟩
theorem kd_X9_utilisation : bz_kd mX9_utilisation 1 := ⟨bz_mw 1523 (by decide +kernel), bz_mw 93 (by decide +kernel), by decide +kernel, by decide⟩
theorem kv_L_180 : bz_kv RL 180 mX9_utilisation 9 1 := ⟨kd_X9_utilisation, bz_mw 1520 (by decide +kernel), bz_mw 1521 (by decide +kernel), bz_mw 1522 (by decide +kernel), (_, _, _), rfl, rfl⟩
theorem kd_X9_averageWait : bz_kd mX9_averageWait 1 := ⟨bz_mw 1527 (by decide +kernel), bz_mw 93 (by decide +kernel), by decide +kernel, by decide⟩
theorem kv_L_183 : bz_kv RL 183 mX9_averageWait 9 1 := ⟨kd_X9_averageWait, bz_mw 1524 (by decide +kernel), bz_mw 1525 (by decide +kernel), bz_mw 1526 (by decide +kernel), (_, _, _), rfl, rfl⟩
theorem kd_X9_waitOf : bz_kd mX9_waitOf 1 := ⟨bz_mw 1531 (by decide +kernel), bz_mw 93 (by decide +kernel), by decide +kernel, by decide⟩
theorem kv_X9_258 : bz_kv RX9 258 mX9_waitOf 9 1 := ⟨kd_X9_waitOf, bz_mw 1528 (by decide +kernel), bz_mw 1530 (by decide +kernel), bz_mw 65 (by decide +kernel), (_, _, _), rfl, rfl⟩
theorem kd_X9_ratioBits : bz_kd mX9_ratioBits 0 := ⟨bz_mw 1535 (by decide +kernel), bz_mw 93 (by decide +kernel), by decide +kernel, by decide⟩
theorem kv_L_187 : bz_kv RL 187 mX9_ratioBits 9 0 := ⟨kd_X9_ratioBits, bz_mw 1532 (by decide +kernel), bz_mw 1533 (by decide +kernel), bz_mw 1534 (by decide +kernel), (_, _, _), rfl, rfl⟩
theorem kd_Jxf58ca_floatToIntBits_5c35a : bz_kd mJxf58ca_floatToIntBits_5c35a 1 := ⟨bz_mw 1538 (by decide +kernel), bz_mw 106 (by decide +kernel), by decide +kernel, by decide⟩
theorem ks_X9_262 : bz_ks RX9 262 mJxf58ca_floatToIntBits_5c35a 1 := ⟨kd_Jxf58ca_floatToIntBits_5c35a, bz_mw 1536 (by decide +kernel), bz_mw 1537 (by decide +kernel)⟩
theorem kd_Jxf58ca_isNaN_12338 : bz_kd mJxf58ca_isNaN_12338 1 := ⟨bz_mw 1541 (by decide +kernel), bz_mw 106 (by decide +kernel), by decide +kernel, by decide⟩
theorem ks_Jxf58ca_59 : bz_ks RJxf58ca 59 mJxf58ca_isNaN_12338 1 := ⟨kd_Jxf58ca_isNaN_12338, bz_mw 1539 (by decide +kernel), bz_mw 1540 (by decide +kernel)⟩
theorem kd_X9_ticksToRest : bz_kd mX9_ticksToRest 0 := ⟨bz_mw 1549 (by decide +kernel), bz_mw 93 (by decide +kernel), by decide +kernel, by decide⟩
theorem kv_L_191 : bz_kv RL 191 mX9_ticksToRest 9 0 := ⟨kd_X9_ticksToRest, bz_mw 1546 (by decide +kernel), bz_mw 1547 (by decide +kernel), bz_mw 1548 (by decide +kernel), (_, _, _), rfl, rfl⟩
theorem kd_X9_restsAfter : bz_kd mX9_restsAfter 0 := ⟨bz_mw 1553 (by decide +kernel), bz_mw 93 (by decide +kernel), by decide +kernel, by decide⟩
theorem kv_X9_315 : bz_kv RX9 315 mX9_restsAfter 9 0 := ⟨kd_X9_restsAfter, bz_mw 1550 (by decide +kernel), bz_mw 1552 (by decide +kernel), bz_mw 66 (by decide +kernel), (_, _, _), rfl, rfl⟩
theorem kd_X9_copies : bz_kd mX9_copies 5 := ⟨bz_mw 1556 (by decide +kernel), bz_mw 93 (by decide +kernel), by decide +kernel, by decide⟩
theorem ks_X9_305 : bz_ks RX9 305 mX9_copies 5 := ⟨kd_X9_copies, bz_mw 1554 (by decide +kernel), bz_mw 1555 (by decide +kernel)⟩
theorem kd_X9_ticks : bz_kd mX9_ticks 0 := ⟨bz_mw 1560 (by decide +kernel), bz_mw 93 (by decide +kernel), by decide +kernel, by decide⟩
theorem kv_X9_309 : bz_kv RX9 309 mX9_ticks 9 0 := ⟨kd_X9_ticks, bz_mw 1557 (by decide +kernel), bz_mw 1559 (by decide +kernel), bz_mw 67 (by decide +kernel), (_, _, _), rfl, rfl⟩
theorem kd_X9_targets : bz_kd mX9_targets 1 := ⟨bz_mw 1564 (by decide +kernel), bz_mw 93 (by decide +kernel), by decide +kernel, by decide⟩
theorem kv_X9_299 : bz_kv RX9 299 mX9_targets 9 1 := ⟨kd_X9_targets, bz_mw 1561 (by decide +kernel), bz_mw 1563 (by decide +kernel), bz_mw 68 (by decide +kernel), (_, _, _), rfl, rfl⟩
theorem kd_X9_works : bz_kd mX9_works 2 := ⟨bz_mw 1568 (by decide +kernel), bz_mw 93 (by decide +kernel), by decide +kernel, by decide⟩
theorem kv_X9_289 : bz_kv RX9 289 mX9_works 9 2 := ⟨kd_X9_works, bz_mw 1565 (by decide +kernel), bz_mw 1567 (by decide +kernel), bz_mw 69 (by decide +kernel), (_, _, _), rfl, rfl⟩
theorem kd_X9_writes : bz_kd mX9_writes 2 := ⟨bz_mw 1572 (by decide +kernel), bz_mw 93 (by decide +kernel), by decide +kernel, by decide⟩
theorem kv_X9_268 : bz_kv RX9 268 mX9_writes 9 2 := ⟨kd_X9_writes, bz_mw 1569 (by decide +kernel), bz_mw 1571 (by decide +kernel), bz_mw 70 (by decide +kernel), (_, _, _), rfl, rfl⟩
theorem kd_X9_answers : bz_kd mX9_answers 2 := ⟨bz_mw 1576 (by decide +kernel), bz_mw 93 (by decide +kernel), by decide +kernel, by decide⟩
theorem kv_X9_272 : bz_kv RX9 272 mX9_answers 9 2 := ⟨kd_X9_answers, bz_mw 1573 (by decide +kernel), bz_mw 1575 (by decide +kernel), bz_mw 71 (by decide +kernel), (_, _, _), rfl, rfl⟩
theorem kd_X9_room : bz_kd mX9_room 2 := ⟨bz_mw 1580 (by decide +kernel), bz_mw 93 (by decide +kernel), by decide +kernel, by decide⟩
theorem kv_X9_275 : bz_kv RX9 275 mX9_room 9 2 := ⟨kd_X9_room, bz_mw 1577 (by decide +kernel), bz_mw 1579 (by decide +kernel), bz_mw 72 (by decide +kernel), (_, _, _), rfl, rfl⟩
theorem kd_X9_comes : bz_kd mX9_comes 6 := ⟨bz_mw 1584 (by decide +kernel), bz_mw 93 (by decide +kernel), by decide +kernel, by decide⟩
theorem kv_X9_278 : bz_kv RX9 278 mX9_comes 9 6 := ⟨kd_X9_comes, bz_mw 1581 (by decide +kernel), bz_mw 1583 (by decide +kernel), bz_mw 73 (by decide +kernel), (_, _, _), rfl, rfl⟩
theorem kd_X9_stores : bz_kd mX9_stores 2 := ⟨bz_mw 1588 (by decide +kernel), bz_mw 93 (by decide +kernel), by decide +kernel, by decide⟩
theorem kv_X9_282 : bz_kv RX9 282 mX9_stores 9 2 := ⟨kd_X9_stores, bz_mw 1585 (by decide +kernel), bz_mw 1587 (by decide +kernel), bz_mw 74 (by decide +kernel), (_, _, _), rfl, rfl⟩
theorem kd_X9_leaves : bz_kd mX9_leaves 3 := ⟨bz_mw 1592 (by decide +kernel), bz_mw 93 (by decide +kernel), by decide +kernel, by decide⟩
theorem kv_X9_292 : bz_kv RX9 292 mX9_leaves 9 3 := ⟨kd_X9_leaves, bz_mw 1589 (by decide +kernel), bz_mw 1591 (by decide +kernel), bz_mw 75 (by decide +kernel), (_, _, _), rfl, rfl⟩
theorem kd_X9_forwards : bz_kd mX9_forwards 1 := ⟨bz_mw 1596 (by decide +kernel), bz_mw 93 (by decide +kernel), by decide +kernel, by decide⟩
theorem kv_X9_302 : bz_kv RX9 302 mX9_forwards 9 1 := ⟨kd_X9_forwards, bz_mw 1593 (by decide +kernel), bz_mw 1595 (by decide +kernel), bz_mw 76 (by decide +kernel), (_, _, _), rfl, rfl⟩
theorem kd_X9_latencyOf : bz_kd mX9_latencyOf 2 := ⟨bz_mw 1600 (by decide +kernel), bz_mw 93 (by decide +kernel), by decide +kernel, by decide⟩
theorem kv_X9_296 : bz_kv RX9 296 mX9_latencyOf 9 2 := ⟨kd_X9_latencyOf, bz_mw 1597 (by decide +kernel), bz_mw 1599 (by decide +kernel), bz_mw 77 (by decide +kernel), (_, _, _), rfl, rfl⟩
theorem kd_X9_joined : bz_kd mX9_joined 3 := ⟨bz_mw 1603 (by decide +kernel), bz_mw 93 (by decide +kernel), by decide +kernel, by decide⟩
theorem ks_X9_206 : bz_ks RX9 206 mX9_joined 3 := ⟨kd_X9_joined, bz_mw 1601 (by decide +kernel), bz_mw 1602 (by decide +kernel)⟩
theorem kd_X9_isStuck : bz_kd mX9_isStuck 0 := ⟨bz_mw 1607 (by decide +kernel), bz_mw 93 (by decide +kernel), by decide +kernel, by decide⟩
theorem kv_L_195 : bz_kv RL 195 mX9_isStuck 9 0 := ⟨kd_X9_isStuck, bz_mw 1604 (by decide +kernel), bz_mw 1605 (by decide +kernel), bz_mw 1606 (by decide +kernel), (_, _, _), rfl, rfl⟩
theorem kd_X9_completeTick : bz_kd mX9_completeTick 2 := ⟨bz_mw 1611 (by decide +kernel), bz_mw 93 (by decide +kernel), by decide +kernel, by decide⟩
theorem kv_L_198 : bz_kv RL 198 mX9_completeTick 9 2 := ⟨kd_X9_completeTick, bz_mw 1608 (by decide +kernel), bz_mw 1609 (by decide +kernel), bz_mw 1610 (by decide +kernel), (_, _, _), rfl, rfl⟩
theorem kd_X9_run : bz_kd mX9_run 1 := ⟨bz_mw 1615 (by decide +kernel), bz_mw 93 (by decide +kernel), by decide +kernel, by decide⟩
theorem kv_L_201 : bz_kv RL 201 mX9_run 9 1 := ⟨kd_X9_run, bz_mw 1612 (by decide +kernel), bz_mw 1613 (by decide +kernel), bz_mw 1614 (by decide +kernel), (_, _, _), rfl, rfl⟩
theorem kd_X9_keeps : bz_kd mX9_keeps 0 := ⟨bz_mw 1619 (by decide +kernel), bz_mw 93 (by decide +kernel), by decide +kernel, by decide⟩
theorem kv_X9_318 : bz_kv RX9 318 mX9_keeps 9 0 := ⟨kd_X9_keeps, bz_mw 1616 (by decide +kernel), bz_mw 1618 (by decide +kernel), bz_mw 78 (by decide +kernel), (_, _, _), rfl, rfl⟩
theorem kd_X9_post : bz_kd mX9_post 5 := ⟨bz_mw 1623 (by decide +kernel), bz_mw 93 (by decide +kernel), by decide +kernel, by decide⟩
theorem kv_L_205 : bz_kv RL 205 mX9_post 9 5 := ⟨kd_X9_post, bz_mw 1620 (by decide +kernel), bz_mw 1621 (by decide +kernel), bz_mw 1622 (by decide +kernel), (_, _, _), rfl, rfl⟩
theorem kd_X9_isRange : bz_kd mX9_isRange 2 := ⟨bz_mw 1626 (by decide +kernel), bz_mw 93 (by decide +kernel), by decide +kernel, by decide⟩
theorem ks_X9_321 : bz_ks RX9 321 mX9_isRange 2 := ⟨kd_X9_isRange, bz_mw 1624 (by decide +kernel), bz_mw 1625 (by decide +kernel)⟩
theorem kd_X9_read : bz_kd mX9_read 4 := ⟨bz_mw 1630 (by decide +kernel), bz_mw 93 (by decide +kernel), by decide +kernel, by decide⟩
theorem kv_L_209 : bz_kv RL 209 mX9_read 9 4 := ⟨kd_X9_read, bz_mw 1627 (by decide +kernel), bz_mw 1628 (by decide +kernel), bz_mw 1629 (by decide +kernel), (_, _, _), rfl, rfl⟩
theorem kd_X9_asks : bz_kd mX9_asks 6 := ⟨bz_mw 1634 (by decide +kernel), bz_mw 93 (by decide +kernel), by decide +kernel, by decide⟩
theorem kv_X9_327 : bz_kv RX9 327 mX9_asks 9 6 := ⟨kd_X9_asks, bz_mw 1631 (by decide +kernel), bz_mw 1633 (by decide +kernel), bz_mw 79 (by decide +kernel), (_, _, _), rfl, rfl⟩
theorem kd_X9_freeTag : bz_kd mX9_freeTag 1 := ⟨bz_mw 1638 (by decide +kernel), bz_mw 93 (by decide +kernel), by decide +kernel, by decide⟩
theorem kv_X9_324 : bz_kv RX9 324 mX9_freeTag 9 1 := ⟨kd_X9_freeTag, bz_mw 1635 (by decide +kernel), bz_mw 1637 (by decide +kernel), bz_mw 80 (by decide +kernel), (_, _, _), rfl, rfl⟩
theorem kd_X9_configure : bz_kd mX9_configure 4 := ⟨bz_mw 1642 (by decide +kernel), bz_mw 93 (by decide +kernel), by decide +kernel, by decide⟩
theorem kv_L_212 : bz_kv RL 212 mX9_configure 9 4 := ⟨kd_X9_configure, bz_mw 1639 (by decide +kernel), bz_mw 1640 (by decide +kernel), bz_mw 1641 (by decide +kernel), (_, _, _), rfl, rfl⟩
theorem kd_X9_release : bz_kd mX9_release 2 := ⟨bz_mw 1646 (by decide +kernel), bz_mw 93 (by decide +kernel), by decide +kernel, by decide⟩
theorem kv_L_215 : bz_kv RL 215 mX9_release 9 2 := ⟨kd_X9_release, bz_mw 1643 (by decide +kernel), bz_mw 1644 (by decide +kernel), bz_mw 1645 (by decide +kernel), (_, _, _), rfl, rfl⟩
theorem kd_X9_undo : bz_kd mX9_undo 0 := ⟨bz_mw 1650 (by decide +kernel), bz_mw 93 (by decide +kernel), by decide +kernel, by decide⟩
theorem kv_L_219 : bz_kv RL 219 mX9_undo 9 0 := ⟨kd_X9_undo, bz_mw 1647 (by decide +kernel), bz_mw 1648 (by decide +kernel), bz_mw 1649 (by decide +kernel), (_, _, _), rfl, rfl⟩
theorem kd_X9_saveSnapshot : bz_kd mX9_saveSnapshot 1 := ⟨bz_mw 1654 (by decide +kernel), bz_mw 93 (by decide +kernel), by decide +kernel, by decide⟩
theorem kv_L_222 : bz_kv RL 222 mX9_saveSnapshot 9 1 := ⟨kd_X9_saveSnapshot, bz_mw 1651 (by decide +kernel), bz_mw 1652 (by decide +kernel), bz_mw 1653 (by decide +kernel), (_, _, _), rfl, rfl⟩
theorem kd_X9_noSlot : bz_kd mX9_noSlot 1 := ⟨bz_mw 1658 (by decide +kernel), bz_mw 93 (by decide +kernel), by decide +kernel, by decide⟩
theorem kv_X9_330 : bz_kv RX9 330 mX9_noSlot 9 1 := ⟨kd_X9_noSlot, bz_mw 1655 (by decide +kernel), bz_mw 1657 (by decide +kernel), bz_mw 81 (by decide +kernel), (_, _, _), rfl, rfl⟩
theorem kd_X9_restoreSnapshot : bz_kd mX9_restoreSnapshot 1 := ⟨bz_mw 1662 (by decide +kernel), bz_mw 93 (by decide +kernel), by decide +kernel, by decide⟩
theorem kv_L_225 : bz_kv RL 225 mX9_restoreSnapshot 9 1 := ⟨kd_X9_restoreSnapshot, bz_mw 1659 (by decide +kernel), bz_mw 1660 (by decide +kernel), bz_mw 1661 (by decide +kernel), (_, _, _), rfl, rfl⟩
