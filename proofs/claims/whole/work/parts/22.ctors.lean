/-! links of the pools, as the walks ask for them -/
theorem l_ClassPattern_15_PieceReader : lnk "StreamFilters$ClassPattern" 15 F_PieceReader 12 6 := ⟨by decide, "StreamFilters$PieceReader", Or.inl rfl, Or.inl (tb 113 (by decide +kernel) rfl)⟩
theorem l_ClassPattern_22_PieceReader : lnk "StreamFilters$ClassPattern" 22 F_PieceReader 12 7 := ⟨by decide, "StreamFilters$PieceReader", Or.inl rfl, Or.inl (tb 115 (by decide +kernel) rfl)⟩
theorem l_ClassPattern_27_PieceReader : lnk "StreamFilters$ClassPattern" 27 F_PieceReader 12 8 := ⟨by decide, "StreamFilters$PieceReader", Or.inl rfl, Or.inl (tb 117 (by decide +kernel) rfl)⟩
theorem l_ClassPattern_31_PieceReader : lnk "StreamFilters$ClassPattern" 31 F_PieceReader 12 9 := ⟨by decide, "StreamFilters$PieceReader", Or.inl rfl, Or.inl (tb 119 (by decide +kernel) rfl)⟩
theorem l_ClassPattern_35_PieceReader : lnk "StreamFilters$ClassPattern" 35 F_PieceReader 12 10 := ⟨by decide, "StreamFilters$PieceReader", Or.inl rfl, Or.inl (tb 121 (by decide +kernel) rfl)⟩
theorem l_ClassPattern_39_PieceReader : lnk "StreamFilters$ClassPattern" 39 F_PieceReader 12 11 := ⟨by decide, "StreamFilters$PieceReader", Or.inl rfl, Or.inl (tb 123 (by decide +kernel) rfl)⟩
theorem l_Question_23_Question : lnk "StreamFilters$Question" 23 F_Question 11 10 := ⟨by decide, "StreamFilters$Question", Or.inl rfl, Or.inl (tb 75 (by decide +kernel) rfl)⟩
theorem l_Question_27_Question : lnk "StreamFilters$Question" 27 F_Question 11 5 := ⟨by decide, "StreamFilters$Question", Or.inl rfl, Or.inl (tb 62 (by decide +kernel) rfl)⟩
theorem l_Question_30_Question : lnk "StreamFilters$Question" 30 F_Question 11 6 := ⟨by decide, "StreamFilters$Question", Or.inl rfl, Or.inl (tb 65 (by decide +kernel) rfl)⟩
theorem l_Question_33_Question : lnk "StreamFilters$Question" 33 F_Question 11 7 := ⟨by decide, "StreamFilters$Question", Or.inl rfl, Or.inl (tb 67 (by decide +kernel) rfl)⟩
theorem l_Question_36_Question : lnk "StreamFilters$Question" 36 F_Question 11 8 := ⟨by decide, "StreamFilters$Question", Or.inl rfl, Or.inl (tb 69 (by decide +kernel) rfl)⟩
theorem l_Question_39_Question : lnk "StreamFilters$Question" 39 F_Question 11 9 := ⟨by decide, "StreamFilters$Question", Or.inl rfl, Or.inl (tb 72 (by decide +kernel) rfl)⟩
theorem lf_ClassPattern_21_ClassPattern : 1 < 7 ∧ Cond.fieldLink "StreamFilters$ClassPattern" 21 "StreamFilters$ClassPattern" (F_ClassPattern 1).2.1 (F_ClassPattern 1).2.2.1 ∈ TB := ⟨by decide, (tb 333 (by decide +kernel) rfl)⟩
theorem lf_ClassPattern_26_ClassPattern : 2 < 7 ∧ Cond.fieldLink "StreamFilters$ClassPattern" 26 "StreamFilters$ClassPattern" (F_ClassPattern 2).2.1 (F_ClassPattern 2).2.2.1 ∈ TB := ⟨by decide, (tb 334 (by decide +kernel) rfl)⟩
theorem lf_ClassPattern_30_ClassPattern : 3 < 7 ∧ Cond.fieldLink "StreamFilters$ClassPattern" 30 "StreamFilters$ClassPattern" (F_ClassPattern 3).2.1 (F_ClassPattern 3).2.2.1 ∈ TB := ⟨by decide, (tb 335 (by decide +kernel) rfl)⟩
theorem lf_ClassPattern_34_ClassPattern : 4 < 7 ∧ Cond.fieldLink "StreamFilters$ClassPattern" 34 "StreamFilters$ClassPattern" (F_ClassPattern 4).2.1 (F_ClassPattern 4).2.2.1 ∈ TB := ⟨by decide, (tb 336 (by decide +kernel) rfl)⟩
theorem lf_ClassPattern_38_ClassPattern : 5 < 7 ∧ Cond.fieldLink "StreamFilters$ClassPattern" 38 "StreamFilters$ClassPattern" (F_ClassPattern 5).2.1 (F_ClassPattern 5).2.2.1 ∈ TB := ⟨by decide, (tb 337 (by decide +kernel) rfl)⟩
theorem lf_ClassPattern_42_ClassPattern : 6 < 7 ∧ Cond.fieldLink "StreamFilters$ClassPattern" 42 "StreamFilters$ClassPattern" (F_ClassPattern 6).2.1 (F_ClassPattern 6).2.2.1 ∈ TB := ⟨by decide, (tb 338 (by decide +kernel) rfl)⟩
theorem lf_ClassPattern_9_ClassPattern : 0 < 7 ∧ Cond.fieldLink "StreamFilters$ClassPattern" 9 "StreamFilters$ClassPattern" (F_ClassPattern 0).2.1 (F_ClassPattern 0).2.2.1 ∈ TB := ⟨by decide, (tb 332 (by decide +kernel) rfl)⟩
theorem lf_DefaultFilter_16_DefaultFilter : 3 < 5 ∧ Cond.fieldLink "StreamFilters$DefaultFilter" 16 "StreamFilters$DefaultFilter" (F_DefaultFilter 3).2.1 (F_DefaultFilter 3).2.2.1 ∈ TB := ⟨by decide, (tb 460 (by decide +kernel) rfl)⟩
theorem lf_DefaultFilter_22_DefaultFilter : 4 < 5 ∧ Cond.fieldLink "StreamFilters$DefaultFilter" 22 "StreamFilters$DefaultFilter" (F_DefaultFilter 4).2.1 (F_DefaultFilter 4).2.2.1 ∈ TB := ⟨by decide, (tb 461 (by decide +kernel) rfl)⟩
theorem lf_Filter_13_DefaultFilter : 1 < 5 ∧ Cond.fieldLink "StreamFilters$Filter" 13 "StreamFilters$Filter" (F_DefaultFilter 1).2.1 (F_DefaultFilter 1).2.2.1 ∈ TB := ⟨by decide, (tb 375 (by decide +kernel) rfl)⟩
theorem lf_Filter_13_JoinedFilter : 1 < 5 ∧ Cond.fieldLink "StreamFilters$Filter" 13 "StreamFilters$Filter" (F_JoinedFilter 1).2.1 (F_JoinedFilter 1).2.2.1 ∈ TB := ⟨by decide, (tb 375 (by decide +kernel) rfl)⟩
theorem lf_Filter_13_OnlyFilter : 1 < 5 ∧ Cond.fieldLink "StreamFilters$Filter" 13 "StreamFilters$Filter" (F_OnlyFilter 1).2.1 (F_OnlyFilter 1).2.2.1 ∈ TB := ⟨by decide, (tb 375 (by decide +kernel) rfl)⟩
theorem lf_Filter_13_StrictFilter : 1 < 5 ∧ Cond.fieldLink "StreamFilters$Filter" 13 "StreamFilters$Filter" (F_StrictFilter 1).2.1 (F_StrictFilter 1).2.2.1 ∈ TB := ⟨by decide, (tb 375 (by decide +kernel) rfl)⟩
theorem lf_Filter_13_TextFilter : 1 < 6 ∧ Cond.fieldLink "StreamFilters$Filter" 13 "StreamFilters$Filter" (F_TextFilter 1).2.1 (F_TextFilter 1).2.2.1 ∈ TB := ⟨by decide, (tb 375 (by decide +kernel) rfl)⟩
theorem lf_Filter_16_DefaultFilter : 2 < 5 ∧ Cond.fieldLink "StreamFilters$Filter" 16 "StreamFilters$Filter" (F_DefaultFilter 2).2.1 (F_DefaultFilter 2).2.2.1 ∈ TB := ⟨by decide, (tb 381 (by decide +kernel) rfl)⟩
theorem lf_Filter_16_JoinedFilter : 2 < 5 ∧ Cond.fieldLink "StreamFilters$Filter" 16 "StreamFilters$Filter" (F_JoinedFilter 2).2.1 (F_JoinedFilter 2).2.2.1 ∈ TB := ⟨by decide, (tb 381 (by decide +kernel) rfl)⟩
theorem lf_Filter_16_OnlyFilter : 2 < 5 ∧ Cond.fieldLink "StreamFilters$Filter" 16 "StreamFilters$Filter" (F_OnlyFilter 2).2.1 (F_OnlyFilter 2).2.2.1 ∈ TB := ⟨by decide, (tb 381 (by decide +kernel) rfl)⟩
theorem lf_Filter_16_StrictFilter : 2 < 5 ∧ Cond.fieldLink "StreamFilters$Filter" 16 "StreamFilters$Filter" (F_StrictFilter 2).2.1 (F_StrictFilter 2).2.2.1 ∈ TB := ⟨by decide, (tb 381 (by decide +kernel) rfl)⟩
theorem lf_Filter_16_TextFilter : 2 < 6 ∧ Cond.fieldLink "StreamFilters$Filter" 16 "StreamFilters$Filter" (F_TextFilter 2).2.1 (F_TextFilter 2).2.2.1 ∈ TB := ⟨by decide, (tb 381 (by decide +kernel) rfl)⟩
theorem lf_Filter_7_DefaultFilter : 0 < 5 ∧ Cond.fieldLink "StreamFilters$Filter" 7 "StreamFilters$Filter" (F_DefaultFilter 0).2.1 (F_DefaultFilter 0).2.2.1 ∈ TB := ⟨by decide, (tb 369 (by decide +kernel) rfl)⟩
theorem lf_Filter_7_JoinedFilter : 0 < 5 ∧ Cond.fieldLink "StreamFilters$Filter" 7 "StreamFilters$Filter" (F_JoinedFilter 0).2.1 (F_JoinedFilter 0).2.2.1 ∈ TB := ⟨by decide, (tb 369 (by decide +kernel) rfl)⟩
theorem lf_Filter_7_OnlyFilter : 0 < 5 ∧ Cond.fieldLink "StreamFilters$Filter" 7 "StreamFilters$Filter" (F_OnlyFilter 0).2.1 (F_OnlyFilter 0).2.2.1 ∈ TB := ⟨by decide, (tb 369 (by decide +kernel) rfl)⟩
theorem lf_Filter_7_StrictFilter : 0 < 5 ∧ Cond.fieldLink "StreamFilters$Filter" 7 "StreamFilters$Filter" (F_StrictFilter 0).2.1 (F_StrictFilter 0).2.2.1 ∈ TB := ⟨by decide, (tb 369 (by decide +kernel) rfl)⟩
theorem lf_Filter_7_TextFilter : 0 < 6 ∧ Cond.fieldLink "StreamFilters$Filter" 7 "StreamFilters$Filter" (F_TextFilter 0).2.1 (F_TextFilter 0).2.2.1 ∈ TB := ⟨by decide, (tb 369 (by decide +kernel) rfl)⟩
theorem lf_JoinedFilter_22_JoinedFilter : 3 < 5 ∧ Cond.fieldLink "StreamFilters$JoinedFilter" 22 "StreamFilters$JoinedFilter" (F_JoinedFilter 3).2.1 (F_JoinedFilter 3).2.2.1 ∈ TB := ⟨by decide, (tb 420 (by decide +kernel) rfl)⟩
theorem lf_JoinedFilter_28_JoinedFilter : 4 < 5 ∧ Cond.fieldLink "StreamFilters$JoinedFilter" 28 "StreamFilters$JoinedFilter" (F_JoinedFilter 4).2.1 (F_JoinedFilter 4).2.2.1 ∈ TB := ⟨by decide, (tb 421 (by decide +kernel) rfl)⟩
theorem lf_OnlyFilter_16_OnlyFilter : 3 < 5 ∧ Cond.fieldLink "StreamFilters$OnlyFilter" 16 "StreamFilters$OnlyFilter" (F_OnlyFilter 3).2.1 (F_OnlyFilter 3).2.2.1 ∈ TB := ⟨by decide, (tb 481 (by decide +kernel) rfl)⟩
theorem lf_OnlyFilter_22_OnlyFilter : 4 < 5 ∧ Cond.fieldLink "StreamFilters$OnlyFilter" 22 "StreamFilters$OnlyFilter" (F_OnlyFilter 4).2.1 (F_OnlyFilter 4).2.2.1 ∈ TB := ⟨by decide, (tb 482 (by decide +kernel) rfl)⟩
theorem lf_PieceReader_9_PieceReader : 0 < 12 ∧ Cond.fieldLink "StreamFilters$PieceReader" 9 "StreamFilters$PieceReader" (F_PieceReader 0).2.1 (F_PieceReader 0).2.2.1 ∈ TB := ⟨by decide, (tb 107 (by decide +kernel) rfl)⟩
theorem lf_StrictFilter_16_StrictFilter : 3 < 5 ∧ Cond.fieldLink "StreamFilters$StrictFilter" 16 "StreamFilters$StrictFilter" (F_StrictFilter 3).2.1 (F_StrictFilter 3).2.2.1 ∈ TB := ⟨by decide, (tb 440 (by decide +kernel) rfl)⟩
theorem lf_StrictFilter_22_StrictFilter : 4 < 5 ∧ Cond.fieldLink "StreamFilters$StrictFilter" 22 "StreamFilters$StrictFilter" (F_StrictFilter 4).2.1 (F_StrictFilter 4).2.2.1 ∈ TB := ⟨by decide, (tb 441 (by decide +kernel) rfl)⟩
theorem lf_TextFilter_15_TextFilter : 4 < 6 ∧ Cond.fieldLink "StreamFilters$TextFilter" 15 "StreamFilters$TextFilter" (F_TextFilter 4).2.1 (F_TextFilter 4).2.2.1 ∈ TB := ⟨by decide, (tb 367 (by decide +kernel) rfl)⟩
theorem lf_TextFilter_19_TextFilter : 5 < 6 ∧ Cond.fieldLink "StreamFilters$TextFilter" 19 "StreamFilters$TextFilter" (F_TextFilter 5).2.1 (F_TextFilter 5).2.2.1 ∈ TB := ⟨by decide, (tb 368 (by decide +kernel) rfl)⟩
theorem lf_TextFilter_9_TextFilter : 3 < 6 ∧ Cond.fieldLink "StreamFilters$TextFilter" 9 "StreamFilters$TextFilter" (F_TextFilter 3).2.1 (F_TextFilter 3).2.2.1 ∈ TB := ⟨by decide, (tb 365 (by decide +kernel) rfl)⟩
theorem cw_DefaultFilter_12 : cwk "StreamFilters$DefaultFilter" 12 y_Filter_init b_Filter_init 4 none 3 := ⟨Or.inl (tb 459 (by decide +kernel) rfl), (tb 363 (by decide +kernel) rfl), (tb 12 (by decide +kernel) rfl), by decide, by decide, by decide +kernel⟩
theorem cw_JoinedFilter_18 : cwk "StreamFilters$JoinedFilter" 18 y_Filter_init b_Filter_init 4 none 3 := ⟨Or.inl (tb 419 (by decide +kernel) rfl), (tb 363 (by decide +kernel) rfl), (tb 12 (by decide +kernel) rfl), by decide, by decide, by decide +kernel⟩
theorem cw_OnlyFilter_12 : cwk "StreamFilters$OnlyFilter" 12 y_Filter_init b_Filter_init 4 none 3 := ⟨Or.inl (tb 480 (by decide +kernel) rfl), (tb 363 (by decide +kernel) rfl), (tb 12 (by decide +kernel) rfl), by decide, by decide, by decide +kernel⟩
theorem cw_StrictFilter_12 : cwk "StreamFilters$StrictFilter" 12 y_Filter_init b_Filter_init 4 none 3 := ⟨Or.inl (tb 439 (by decide +kernel) rfl), (tb 363 (by decide +kernel) rfl), (tb 12 (by decide +kernel) rfl), by decide, by decide, by decide +kernel⟩
theorem cw_TextFilter_3 : cwk "StreamFilters$TextFilter" 3 y_Filter_init b_Filter_init 4 none 3 := ⟨Or.inl (tb 361 (by decide +kernel) rfl), (tb 363 (by decide +kernel) rfl), (tb 12 (by decide +kernel) rfl), by decide, by decide, by decide +kernel⟩
theorem si_Filter_init : Cond.instanceMethod y_Filter_init ∈ TB := (tb 362 (by decide +kernel) rfl)
theorem oi_ClassPattern_3 : Cond.methodLink "StreamFilters$ClassPattern" 3 Lib.objectInit ∈ TB := (tb 331 (by decide +kernel) rfl)
theorem oi_Filter_1 : Cond.methodLink "StreamFilters$Filter" 1 Lib.objectInit ∈ TB := (tb 364 (by decide +kernel) rfl)
theorem oi_PieceReader_3 : Cond.methodLink "StreamFilters$PieceReader" 3 Lib.objectInit ∈ TB := (tb 106 (by decide +kernel) rfl)
theorem l5_DefaultFilter_3 : lnk "StreamFilters$DefaultFilter" 3 F_TextFilter 6 1 ∧ lnk "StreamFilters$DefaultFilter" 3 F_JoinedFilter 5 1 ∧ lnk "StreamFilters$DefaultFilter" 3 F_StrictFilter 5 1 ∧ lnk "StreamFilters$DefaultFilter" 3 F_DefaultFilter 5 1 ∧ lnk "StreamFilters$DefaultFilter" 3 F_OnlyFilter 5 1 := ⟨⟨by decide, "StreamFilters$Filter", Or.inl rfl, Or.inl (tb 373 (by decide +kernel) rfl)⟩, ⟨by decide, "StreamFilters$Filter", Or.inl rfl, Or.inl (tb 373 (by decide +kernel) rfl)⟩, ⟨by decide, "StreamFilters$Filter", Or.inl rfl, Or.inl (tb 373 (by decide +kernel) rfl)⟩, ⟨by decide, "StreamFilters$Filter", Or.inl rfl, Or.inl (tb 373 (by decide +kernel) rfl)⟩, ⟨by decide, "StreamFilters$Filter", Or.inl rfl, Or.inl (tb 373 (by decide +kernel) rfl)⟩⟩
theorem l5_DefaultFilter_9 : lnk "StreamFilters$DefaultFilter" 9 F_TextFilter 6 2 ∧ lnk "StreamFilters$DefaultFilter" 9 F_JoinedFilter 5 2 ∧ lnk "StreamFilters$DefaultFilter" 9 F_StrictFilter 5 2 ∧ lnk "StreamFilters$DefaultFilter" 9 F_DefaultFilter 5 2 ∧ lnk "StreamFilters$DefaultFilter" 9 F_OnlyFilter 5 2 := ⟨⟨by decide, "StreamFilters$Filter", Or.inl rfl, Or.inl (tb 378 (by decide +kernel) rfl)⟩, ⟨by decide, "StreamFilters$Filter", Or.inl rfl, Or.inl (tb 378 (by decide +kernel) rfl)⟩, ⟨by decide, "StreamFilters$Filter", Or.inl rfl, Or.inl (tb 378 (by decide +kernel) rfl)⟩, ⟨by decide, "StreamFilters$Filter", Or.inl rfl, Or.inl (tb 378 (by decide +kernel) rfl)⟩, ⟨by decide, "StreamFilters$Filter", Or.inl rfl, Or.inl (tb 378 (by decide +kernel) rfl)⟩⟩
theorem l5_JoinedFilter_3 : lnk "StreamFilters$JoinedFilter" 3 F_TextFilter 6 1 ∧ lnk "StreamFilters$JoinedFilter" 3 F_JoinedFilter 5 1 ∧ lnk "StreamFilters$JoinedFilter" 3 F_StrictFilter 5 1 ∧ lnk "StreamFilters$JoinedFilter" 3 F_DefaultFilter 5 1 ∧ lnk "StreamFilters$JoinedFilter" 3 F_OnlyFilter 5 1 := ⟨⟨by decide, "StreamFilters$Filter", Or.inl rfl, Or.inl (tb 371 (by decide +kernel) rfl)⟩, ⟨by decide, "StreamFilters$Filter", Or.inl rfl, Or.inl (tb 371 (by decide +kernel) rfl)⟩, ⟨by decide, "StreamFilters$Filter", Or.inl rfl, Or.inl (tb 371 (by decide +kernel) rfl)⟩, ⟨by decide, "StreamFilters$Filter", Or.inl rfl, Or.inl (tb 371 (by decide +kernel) rfl)⟩, ⟨by decide, "StreamFilters$Filter", Or.inl rfl, Or.inl (tb 371 (by decide +kernel) rfl)⟩⟩
theorem l5_JoinedFilter_9 : lnk "StreamFilters$JoinedFilter" 9 F_TextFilter 6 2 ∧ lnk "StreamFilters$JoinedFilter" 9 F_JoinedFilter 5 2 ∧ lnk "StreamFilters$JoinedFilter" 9 F_StrictFilter 5 2 ∧ lnk "StreamFilters$JoinedFilter" 9 F_DefaultFilter 5 2 ∧ lnk "StreamFilters$JoinedFilter" 9 F_OnlyFilter 5 2 := ⟨⟨by decide, "StreamFilters$Filter", Or.inl rfl, Or.inl (tb 380 (by decide +kernel) rfl)⟩, ⟨by decide, "StreamFilters$Filter", Or.inl rfl, Or.inl (tb 380 (by decide +kernel) rfl)⟩, ⟨by decide, "StreamFilters$Filter", Or.inl rfl, Or.inl (tb 380 (by decide +kernel) rfl)⟩, ⟨by decide, "StreamFilters$Filter", Or.inl rfl, Or.inl (tb 380 (by decide +kernel) rfl)⟩, ⟨by decide, "StreamFilters$Filter", Or.inl rfl, Or.inl (tb 380 (by decide +kernel) rfl)⟩⟩
theorem l5_OnlyFilter_3 : lnk "StreamFilters$OnlyFilter" 3 F_TextFilter 6 1 ∧ lnk "StreamFilters$OnlyFilter" 3 F_JoinedFilter 5 1 ∧ lnk "StreamFilters$OnlyFilter" 3 F_StrictFilter 5 1 ∧ lnk "StreamFilters$OnlyFilter" 3 F_DefaultFilter 5 1 ∧ lnk "StreamFilters$OnlyFilter" 3 F_OnlyFilter 5 1 := ⟨⟨by decide, "StreamFilters$Filter", Or.inl rfl, Or.inl (tb 374 (by decide +kernel) rfl)⟩, ⟨by decide, "StreamFilters$Filter", Or.inl rfl, Or.inl (tb 374 (by decide +kernel) rfl)⟩, ⟨by decide, "StreamFilters$Filter", Or.inl rfl, Or.inl (tb 374 (by decide +kernel) rfl)⟩, ⟨by decide, "StreamFilters$Filter", Or.inl rfl, Or.inl (tb 374 (by decide +kernel) rfl)⟩, ⟨by decide, "StreamFilters$Filter", Or.inl rfl, Or.inl (tb 374 (by decide +kernel) rfl)⟩⟩
theorem l5_OnlyFilter_9 : lnk "StreamFilters$OnlyFilter" 9 F_TextFilter 6 2 ∧ lnk "StreamFilters$OnlyFilter" 9 F_JoinedFilter 5 2 ∧ lnk "StreamFilters$OnlyFilter" 9 F_StrictFilter 5 2 ∧ lnk "StreamFilters$OnlyFilter" 9 F_DefaultFilter 5 2 ∧ lnk "StreamFilters$OnlyFilter" 9 F_OnlyFilter 5 2 := ⟨⟨by decide, "StreamFilters$Filter", Or.inl rfl, Or.inl (tb 379 (by decide +kernel) rfl)⟩, ⟨by decide, "StreamFilters$Filter", Or.inl rfl, Or.inl (tb 379 (by decide +kernel) rfl)⟩, ⟨by decide, "StreamFilters$Filter", Or.inl rfl, Or.inl (tb 379 (by decide +kernel) rfl)⟩, ⟨by decide, "StreamFilters$Filter", Or.inl rfl, Or.inl (tb 379 (by decide +kernel) rfl)⟩, ⟨by decide, "StreamFilters$Filter", Or.inl rfl, Or.inl (tb 379 (by decide +kernel) rfl)⟩⟩
theorem l5_StrictFilter_3 : lnk "StreamFilters$StrictFilter" 3 F_TextFilter 6 1 ∧ lnk "StreamFilters$StrictFilter" 3 F_JoinedFilter 5 1 ∧ lnk "StreamFilters$StrictFilter" 3 F_StrictFilter 5 1 ∧ lnk "StreamFilters$StrictFilter" 3 F_DefaultFilter 5 1 ∧ lnk "StreamFilters$StrictFilter" 3 F_OnlyFilter 5 1 := ⟨⟨by decide, "StreamFilters$Filter", Or.inl rfl, Or.inl (tb 372 (by decide +kernel) rfl)⟩, ⟨by decide, "StreamFilters$Filter", Or.inl rfl, Or.inl (tb 372 (by decide +kernel) rfl)⟩, ⟨by decide, "StreamFilters$Filter", Or.inl rfl, Or.inl (tb 372 (by decide +kernel) rfl)⟩, ⟨by decide, "StreamFilters$Filter", Or.inl rfl, Or.inl (tb 372 (by decide +kernel) rfl)⟩, ⟨by decide, "StreamFilters$Filter", Or.inl rfl, Or.inl (tb 372 (by decide +kernel) rfl)⟩⟩
theorem l5_StrictFilter_9 : lnk "StreamFilters$StrictFilter" 9 F_TextFilter 6 2 ∧ lnk "StreamFilters$StrictFilter" 9 F_JoinedFilter 5 2 ∧ lnk "StreamFilters$StrictFilter" 9 F_StrictFilter 5 2 ∧ lnk "StreamFilters$StrictFilter" 9 F_DefaultFilter 5 2 ∧ lnk "StreamFilters$StrictFilter" 9 F_OnlyFilter 5 2 := ⟨⟨by decide, "StreamFilters$Filter", Or.inl rfl, Or.inl (tb 377 (by decide +kernel) rfl)⟩, ⟨by decide, "StreamFilters$Filter", Or.inl rfl, Or.inl (tb 377 (by decide +kernel) rfl)⟩, ⟨by decide, "StreamFilters$Filter", Or.inl rfl, Or.inl (tb 377 (by decide +kernel) rfl)⟩, ⟨by decide, "StreamFilters$Filter", Or.inl rfl, Or.inl (tb 377 (by decide +kernel) rfl)⟩, ⟨by decide, "StreamFilters$Filter", Or.inl rfl, Or.inl (tb 377 (by decide +kernel) rfl)⟩⟩
theorem mm_JoinedFilter_12 : Cond.methodLink "StreamFilters$JoinedFilter" 12 Lib.Math.max.name ∈ TB := (tb 418 (by decide +kernel) rfl)
/-! decode rows -/
theorem d_PieceReader_init_0 : decode b_PieceReader_init 0 = .ok (.aload_n 0, 1) := by decide +kernel
theorem d_PieceReader_init_1 : decode b_PieceReader_init 1 = .ok (.invokespecial 3, 3) := by decide +kernel
theorem d_PieceReader_init_4 : decode b_PieceReader_init 4 = .ok (.aload_n 0, 1) := by decide +kernel
theorem d_PieceReader_init_5 : decode b_PieceReader_init 5 = .ok (.aload_n 1, 1) := by decide +kernel
theorem d_PieceReader_init_6 : decode b_PieceReader_init 6 = .ok (.putfield 9, 3) := by decide +kernel
theorem d_PieceReader_init_9 : decode b_PieceReader_init 9 = .ok (.return_, 1) := by decide +kernel
theorem d_ClassPattern_init_0 : decode b_ClassPattern_init 0 = .ok (.aload_n 0, 1) := by decide +kernel
theorem d_ClassPattern_init_1 : decode b_ClassPattern_init 1 = .ok (.invokespecial 3, 3) := by decide +kernel
theorem d_ClassPattern_init_4 : decode b_ClassPattern_init 4 = .ok (.aload_n 0, 1) := by decide +kernel
theorem d_ClassPattern_init_5 : decode b_ClassPattern_init 5 = .ok (.aload_n 1, 1) := by decide +kernel
theorem d_ClassPattern_init_6 : decode b_ClassPattern_init 6 = .ok (.putfield 9, 3) := by decide +kernel
theorem d_ClassPattern_init_9 : decode b_ClassPattern_init 9 = .ok (.aload_n 0, 1) := by decide +kernel
theorem d_ClassPattern_init_10 : decode b_ClassPattern_init 10 = .ok (.aload_n 2, 1) := by decide +kernel
theorem d_ClassPattern_init_11 : decode b_ClassPattern_init 11 = .ok (.getfield 15, 3) := by decide +kernel
theorem d_ClassPattern_init_14 : decode b_ClassPattern_init 14 = .ok (.putfield 21, 3) := by decide +kernel
theorem d_ClassPattern_init_17 : decode b_ClassPattern_init 17 = .ok (.aload_n 0, 1) := by decide +kernel
theorem d_ClassPattern_init_18 : decode b_ClassPattern_init 18 = .ok (.aload_n 2, 1) := by decide +kernel
theorem d_ClassPattern_init_19 : decode b_ClassPattern_init 19 = .ok (.getfield 22, 3) := by decide +kernel
theorem d_ClassPattern_init_22 : decode b_ClassPattern_init 22 = .ok (.putfield 26, 3) := by decide +kernel
theorem d_ClassPattern_init_25 : decode b_ClassPattern_init 25 = .ok (.aload_n 0, 1) := by decide +kernel
theorem d_ClassPattern_init_26 : decode b_ClassPattern_init 26 = .ok (.aload_n 2, 1) := by decide +kernel
theorem d_ClassPattern_init_27 : decode b_ClassPattern_init 27 = .ok (.getfield 27, 3) := by decide +kernel
theorem d_ClassPattern_init_30 : decode b_ClassPattern_init 30 = .ok (.putfield 30, 3) := by decide +kernel
theorem d_ClassPattern_init_33 : decode b_ClassPattern_init 33 = .ok (.aload_n 0, 1) := by decide +kernel
theorem d_ClassPattern_init_34 : decode b_ClassPattern_init 34 = .ok (.aload_n 2, 1) := by decide +kernel
theorem d_ClassPattern_init_35 : decode b_ClassPattern_init 35 = .ok (.getfield 31, 3) := by decide +kernel
theorem d_ClassPattern_init_38 : decode b_ClassPattern_init 38 = .ok (.putfield 34, 3) := by decide +kernel
theorem d_ClassPattern_init_41 : decode b_ClassPattern_init 41 = .ok (.aload_n 0, 1) := by decide +kernel
theorem d_ClassPattern_init_42 : decode b_ClassPattern_init 42 = .ok (.aload_n 2, 1) := by decide +kernel
theorem d_ClassPattern_init_43 : decode b_ClassPattern_init 43 = .ok (.getfield 35, 3) := by decide +kernel
theorem d_ClassPattern_init_46 : decode b_ClassPattern_init 46 = .ok (.putfield 38, 3) := by decide +kernel
theorem d_ClassPattern_init_49 : decode b_ClassPattern_init 49 = .ok (.aload_n 0, 1) := by decide +kernel
theorem d_ClassPattern_init_50 : decode b_ClassPattern_init 50 = .ok (.aload_n 2, 1) := by decide +kernel
theorem d_ClassPattern_init_51 : decode b_ClassPattern_init 51 = .ok (.getfield 39, 3) := by decide +kernel
theorem d_ClassPattern_init_54 : decode b_ClassPattern_init 54 = .ok (.putfield 42, 3) := by decide +kernel
theorem d_ClassPattern_init_57 : decode b_ClassPattern_init 57 = .ok (.return_, 1) := by decide +kernel
theorem d_TextFilter_init_0 : decode b_TextFilter_init 0 = .ok (.aload_n 0, 1) := by decide +kernel
theorem d_TextFilter_init_1 : decode b_TextFilter_init 1 = .ok (.iconst 1, 1) := by decide +kernel
theorem d_TextFilter_init_2 : decode b_TextFilter_init 2 = .ok (.iconst 1, 1) := by decide +kernel
theorem d_TextFilter_init_3 : decode b_TextFilter_init 3 = .ok (.iconst 1, 1) := by decide +kernel
theorem d_TextFilter_init_4 : decode b_TextFilter_init 4 = .ok (.invokespecial 3, 3) := by decide +kernel
theorem d_TextFilter_init_7 : decode b_TextFilter_init 7 = .ok (.aload_n 0, 1) := by decide +kernel
theorem d_TextFilter_init_8 : decode b_TextFilter_init 8 = .ok (.iload_n 1, 1) := by decide +kernel
theorem d_TextFilter_init_9 : decode b_TextFilter_init 9 = .ok (.putfield 9, 3) := by decide +kernel
theorem d_TextFilter_init_12 : decode b_TextFilter_init 12 = .ok (.aload_n 0, 1) := by decide +kernel
theorem d_TextFilter_init_13 : decode b_TextFilter_init 13 = .ok (.aload_n 2, 1) := by decide +kernel
theorem d_TextFilter_init_14 : decode b_TextFilter_init 14 = .ok (.putfield 15, 3) := by decide +kernel
theorem d_TextFilter_init_17 : decode b_TextFilter_init 17 = .ok (.aload_n 0, 1) := by decide +kernel
theorem d_TextFilter_init_18 : decode b_TextFilter_init 18 = .ok (.aload_n 3, 1) := by decide +kernel
theorem d_TextFilter_init_19 : decode b_TextFilter_init 19 = .ok (.putfield 19, 3) := by decide +kernel
theorem d_TextFilter_init_22 : decode b_TextFilter_init 22 = .ok (.return_, 1) := by decide +kernel
theorem d_Filter_init_0 : decode b_Filter_init 0 = .ok (.aload_n 0, 1) := by decide +kernel
theorem d_Filter_init_1 : decode b_Filter_init 1 = .ok (.invokespecial 1, 3) := by decide +kernel
theorem d_Filter_init_4 : decode b_Filter_init 4 = .ok (.aload_n 0, 1) := by decide +kernel
theorem d_Filter_init_5 : decode b_Filter_init 5 = .ok (.iload_n 1, 1) := by decide +kernel
theorem d_Filter_init_6 : decode b_Filter_init 6 = .ok (.putfield 7, 3) := by decide +kernel
theorem d_Filter_init_9 : decode b_Filter_init 9 = .ok (.aload_n 0, 1) := by decide +kernel
theorem d_Filter_init_10 : decode b_Filter_init 10 = .ok (.iload_n 2, 1) := by decide +kernel
theorem d_Filter_init_11 : decode b_Filter_init 11 = .ok (.putfield 13, 3) := by decide +kernel
theorem d_Filter_init_14 : decode b_Filter_init 14 = .ok (.aload_n 0, 1) := by decide +kernel
theorem d_Filter_init_15 : decode b_Filter_init 15 = .ok (.iload_n 3, 1) := by decide +kernel
theorem d_Filter_init_16 : decode b_Filter_init 16 = .ok (.putfield 16, 3) := by decide +kernel
theorem d_Filter_init_19 : decode b_Filter_init 19 = .ok (.return_, 1) := by decide +kernel
theorem d_JoinedFilter_init_0 : decode b_JoinedFilter_init 0 = .ok (.aload_n 0, 1) := by decide +kernel
theorem d_JoinedFilter_init_1 : decode b_JoinedFilter_init 1 = .ok (.iconst 2, 1) := by decide +kernel
theorem d_JoinedFilter_init_2 : decode b_JoinedFilter_init 2 = .ok (.aload_n 1, 1) := by decide +kernel
theorem d_JoinedFilter_init_3 : decode b_JoinedFilter_init 3 = .ok (.getfield 3, 3) := by decide +kernel
theorem d_JoinedFilter_init_6 : decode b_JoinedFilter_init 6 = .ok (.aload_n 2, 1) := by decide +kernel
theorem d_JoinedFilter_init_7 : decode b_JoinedFilter_init 7 = .ok (.getfield 3, 3) := by decide +kernel
theorem d_JoinedFilter_init_10 : decode b_JoinedFilter_init 10 = .ok (.iadd, 1) := by decide +kernel
theorem d_JoinedFilter_init_11 : decode b_JoinedFilter_init 11 = .ok (.iconst 1, 1) := by decide +kernel
theorem d_JoinedFilter_init_12 : decode b_JoinedFilter_init 12 = .ok (.aload_n 1, 1) := by decide +kernel
theorem d_JoinedFilter_init_13 : decode b_JoinedFilter_init 13 = .ok (.getfield 9, 3) := by decide +kernel
theorem d_JoinedFilter_init_16 : decode b_JoinedFilter_init 16 = .ok (.aload_n 2, 1) := by decide +kernel
theorem d_JoinedFilter_init_17 : decode b_JoinedFilter_init 17 = .ok (.getfield 9, 3) := by decide +kernel
theorem d_JoinedFilter_init_20 : decode b_JoinedFilter_init 20 = .ok (.invokestatic 12, 3) := by decide +kernel
theorem d_JoinedFilter_init_23 : decode b_JoinedFilter_init 23 = .ok (.iadd, 1) := by decide +kernel
theorem d_JoinedFilter_init_24 : decode b_JoinedFilter_init 24 = .ok (.invokespecial 18, 3) := by decide +kernel
theorem d_JoinedFilter_init_27 : decode b_JoinedFilter_init 27 = .ok (.aload_n 0, 1) := by decide +kernel
theorem d_JoinedFilter_init_28 : decode b_JoinedFilter_init 28 = .ok (.aload_n 1, 1) := by decide +kernel
theorem d_JoinedFilter_init_29 : decode b_JoinedFilter_init 29 = .ok (.putfield 22, 3) := by decide +kernel
theorem d_JoinedFilter_init_32 : decode b_JoinedFilter_init 32 = .ok (.aload_n 0, 1) := by decide +kernel
theorem d_JoinedFilter_init_33 : decode b_JoinedFilter_init 33 = .ok (.aload_n 2, 1) := by decide +kernel
theorem d_JoinedFilter_init_34 : decode b_JoinedFilter_init 34 = .ok (.putfield 28, 3) := by decide +kernel
theorem d_JoinedFilter_init_37 : decode b_JoinedFilter_init 37 = .ok (.return_, 1) := by decide +kernel
theorem d_StrictFilter_init_0 : decode b_StrictFilter_init 0 = .ok (.aload_n 0, 1) := by decide +kernel
theorem d_StrictFilter_init_1 : decode b_StrictFilter_init 1 = .ok (.iconst 3, 1) := by decide +kernel
theorem d_StrictFilter_init_2 : decode b_StrictFilter_init 2 = .ok (.aload_n 1, 1) := by decide +kernel
theorem d_StrictFilter_init_3 : decode b_StrictFilter_init 3 = .ok (.getfield 3, 3) := by decide +kernel
theorem d_StrictFilter_init_6 : decode b_StrictFilter_init 6 = .ok (.iconst 1, 1) := by decide +kernel
theorem d_StrictFilter_init_7 : decode b_StrictFilter_init 7 = .ok (.aload_n 1, 1) := by decide +kernel
theorem d_StrictFilter_init_8 : decode b_StrictFilter_init 8 = .ok (.getfield 9, 3) := by decide +kernel
theorem d_StrictFilter_init_11 : decode b_StrictFilter_init 11 = .ok (.iadd, 1) := by decide +kernel
theorem d_StrictFilter_init_12 : decode b_StrictFilter_init 12 = .ok (.invokespecial 12, 3) := by decide +kernel
theorem d_StrictFilter_init_15 : decode b_StrictFilter_init 15 = .ok (.aload_n 0, 1) := by decide +kernel
theorem d_StrictFilter_init_16 : decode b_StrictFilter_init 16 = .ok (.aload_n 1, 1) := by decide +kernel
theorem d_StrictFilter_init_17 : decode b_StrictFilter_init 17 = .ok (.putfield 16, 3) := by decide +kernel
theorem d_StrictFilter_init_20 : decode b_StrictFilter_init 20 = .ok (.aload_n 0, 1) := by decide +kernel
theorem d_StrictFilter_init_21 : decode b_StrictFilter_init 21 = .ok (.iload_n 2, 1) := by decide +kernel
theorem d_StrictFilter_init_22 : decode b_StrictFilter_init 22 = .ok (.putfield 22, 3) := by decide +kernel
theorem d_StrictFilter_init_25 : decode b_StrictFilter_init 25 = .ok (.return_, 1) := by decide +kernel
theorem d_DefaultFilter_init_0 : decode b_DefaultFilter_init 0 = .ok (.aload_n 0, 1) := by decide +kernel
theorem d_DefaultFilter_init_1 : decode b_DefaultFilter_init 1 = .ok (.iconst 4, 1) := by decide +kernel
theorem d_DefaultFilter_init_2 : decode b_DefaultFilter_init 2 = .ok (.aload_n 1, 1) := by decide +kernel
theorem d_DefaultFilter_init_3 : decode b_DefaultFilter_init 3 = .ok (.getfield 3, 3) := by decide +kernel
theorem d_DefaultFilter_init_6 : decode b_DefaultFilter_init 6 = .ok (.iconst 1, 1) := by decide +kernel
theorem d_DefaultFilter_init_7 : decode b_DefaultFilter_init 7 = .ok (.aload_n 1, 1) := by decide +kernel
theorem d_DefaultFilter_init_8 : decode b_DefaultFilter_init 8 = .ok (.getfield 9, 3) := by decide +kernel
theorem d_DefaultFilter_init_11 : decode b_DefaultFilter_init 11 = .ok (.iadd, 1) := by decide +kernel
theorem d_DefaultFilter_init_12 : decode b_DefaultFilter_init 12 = .ok (.invokespecial 12, 3) := by decide +kernel
theorem d_DefaultFilter_init_15 : decode b_DefaultFilter_init 15 = .ok (.aload_n 0, 1) := by decide +kernel
theorem d_DefaultFilter_init_16 : decode b_DefaultFilter_init 16 = .ok (.aload_n 1, 1) := by decide +kernel
theorem d_DefaultFilter_init_17 : decode b_DefaultFilter_init 17 = .ok (.putfield 16, 3) := by decide +kernel
theorem d_DefaultFilter_init_20 : decode b_DefaultFilter_init 20 = .ok (.aload_n 0, 1) := by decide +kernel
theorem d_DefaultFilter_init_21 : decode b_DefaultFilter_init 21 = .ok (.iload_n 2, 1) := by decide +kernel
theorem d_DefaultFilter_init_22 : decode b_DefaultFilter_init 22 = .ok (.putfield 22, 3) := by decide +kernel
theorem d_DefaultFilter_init_25 : decode b_DefaultFilter_init 25 = .ok (.return_, 1) := by decide +kernel
theorem d_OnlyFilter_init_0 : decode b_OnlyFilter_init 0 = .ok (.aload_n 0, 1) := by decide +kernel
theorem d_OnlyFilter_init_1 : decode b_OnlyFilter_init 1 = .ok (.iconst 5, 1) := by decide +kernel
theorem d_OnlyFilter_init_2 : decode b_OnlyFilter_init 2 = .ok (.aload_n 1, 1) := by decide +kernel
theorem d_OnlyFilter_init_3 : decode b_OnlyFilter_init 3 = .ok (.getfield 3, 3) := by decide +kernel
theorem d_OnlyFilter_init_6 : decode b_OnlyFilter_init 6 = .ok (.iconst 1, 1) := by decide +kernel
theorem d_OnlyFilter_init_7 : decode b_OnlyFilter_init 7 = .ok (.aload_n 1, 1) := by decide +kernel
theorem d_OnlyFilter_init_8 : decode b_OnlyFilter_init 8 = .ok (.getfield 9, 3) := by decide +kernel
theorem d_OnlyFilter_init_11 : decode b_OnlyFilter_init 11 = .ok (.iadd, 1) := by decide +kernel
theorem d_OnlyFilter_init_12 : decode b_OnlyFilter_init 12 = .ok (.invokespecial 12, 3) := by decide +kernel
theorem d_OnlyFilter_init_15 : decode b_OnlyFilter_init 15 = .ok (.aload_n 0, 1) := by decide +kernel
theorem d_OnlyFilter_init_16 : decode b_OnlyFilter_init 16 = .ok (.aload_n 1, 1) := by decide +kernel
theorem d_OnlyFilter_init_17 : decode b_OnlyFilter_init 17 = .ok (.putfield 16, 3) := by decide +kernel
theorem d_OnlyFilter_init_20 : decode b_OnlyFilter_init 20 = .ok (.aload_n 0, 1) := by decide +kernel
theorem d_OnlyFilter_init_21 : decode b_OnlyFilter_init 21 = .ok (.aload_n 2, 1) := by decide +kernel
theorem d_OnlyFilter_init_22 : decode b_OnlyFilter_init 22 = .ok (.putfield 22, 3) := by decide +kernel
theorem d_OnlyFilter_init_25 : decode b_OnlyFilter_init 25 = .ok (.return_, 1) := by decide +kernel
theorem d_Question_begin_0 : decode b_Question_begin 0 = .ok (.aload_n 0, 1) := by decide +kernel
theorem d_Question_begin_1 : decode b_Question_begin 1 = .ok (.iload_n 1, 1) := by decide +kernel
theorem d_Question_begin_2 : decode b_Question_begin 2 = .ok (.putfield 27, 3) := by decide +kernel
theorem d_Question_begin_5 : decode b_Question_begin 5 = .ok (.aload_n 0, 1) := by decide +kernel
theorem d_Question_begin_6 : decode b_Question_begin 6 = .ok (.iload_n 2, 1) := by decide +kernel
theorem d_Question_begin_7 : decode b_Question_begin 7 = .ok (.putfield 30, 3) := by decide +kernel
theorem d_Question_begin_10 : decode b_Question_begin 10 = .ok (.aload_n 0, 1) := by decide +kernel
theorem d_Question_begin_11 : decode b_Question_begin 11 = .ok (.iload_n 3, 1) := by decide +kernel
theorem d_Question_begin_12 : decode b_Question_begin 12 = .ok (.putfield 33, 3) := by decide +kernel
theorem d_Question_begin_15 : decode b_Question_begin 15 = .ok (.aload_n 0, 1) := by decide +kernel
theorem d_Question_begin_16 : decode b_Question_begin 16 = .ok (.iconst 0, 1) := by decide +kernel
theorem d_Question_begin_17 : decode b_Question_begin 17 = .ok (.putfield 36, 3) := by decide +kernel
theorem d_Question_begin_20 : decode b_Question_begin 20 = .ok (.aload_n 0, 1) := by decide +kernel
theorem d_Question_begin_21 : decode b_Question_begin 21 = .ok (.iconst 0, 1) := by decide +kernel
theorem d_Question_begin_22 : decode b_Question_begin 22 = .ok (.putfield 39, 3) := by decide +kernel
theorem d_Question_begin_25 : decode b_Question_begin 25 = .ok (.aload_n 0, 1) := by decide +kernel
theorem d_Question_begin_26 : decode b_Question_begin 26 = .ok (.bipush (-2), 2) := by decide +kernel
theorem d_Question_begin_28 : decode b_Question_begin 28 = .ok (.putfield 23, 3) := by decide +kernel
theorem d_Question_begin_31 : decode b_Question_begin 31 = .ok (.return_, 1) := by decide +kernel
set_option maxHeartbeats 4000000 in
set_option maxRecDepth 100000 in
/-- Filter(k, l, h) on a TextFilter -/
theorem c_Filter_init_TextFilter (G : GG) (l : Launch) (sz : Nat) (f : Wd) {a : Nat} (ha : f a = some (.inr (5, [.int 0, .int 0, .int 0, .int 0, .null, .null]))) (kk ll hh : Int32) : Cv G l y_Filter_init b_Filter_init 4 none ({ frames := 1, cells := 0, slots := 0, locals := 12 }) sz f [.ref a, .int kk, .int ll, .int hh] (fun f' => f' = va_up f a (some (.inr (5, [.int kk, .int ll, .int hh, .int 0, .null, .null])))) := by
  refine ct_of (by decide) (Nat.le_of_ble_eq_true rfl) ?_
  intro p e s m below meth c ls H locs hEn
  obtain ⟨hc, hr, hlk, hin, hE, hw, hsz, hl⟩ := hEn
  have hx := hc.1
  have hb := hc.2.1
  have hl : lv_has ls 4 [(0, .ref a), (1, .int kk), (2, .int ll), (3, .int hh)] := hl
  refine lv_aload_n hx hb d_Filter_init_0 rfl (lv_at hl 0 rfl) ?_
  refine m_objInit hc oi_Filter_1 oi_w hl.1 d_Filter_init_1 (Nat.le_of_ble_eq_true rfl) (Nat.le_of_ble_eq_true rfl) ?_
  refine lv_aload_n hx hb d_Filter_init_4 rfl (lv_at hl 0 rfl) ?_
  refine lv_iload_n hx hb d_Filter_init_5 rfl (lv_at hl 1 rfl) ?_
  refine m_putF hc hE hw hin ha kc_TextFilter lf_Filter_7_TextFilter rfl rfl ds_TextFilter_0 rfl rfl (Nat.le_of_ble_eq_true rfl) d_Filter_init_6 (fun H locs hw => ?_)
  obtain ⟨f1, ef1⟩ : ∃ z : Wd, z = va_up f a (some (.inr (5, [.int kk, .int 0, .int 0, .int 0, .null, .null]))) := ⟨_, rfl⟩
  replace hw : ms G.1 (Af f sz) f1 s H locs := by rw [ef1]; exact hw
  have h2 : f1 a = some (.inr (5, [.int kk, .int 0, .int 0, .int 0, .null, .null])) := by rw [ef1, va_up_self]
  refine lv_aload_n hx hb d_Filter_init_9 rfl (lv_at hl 0 rfl) ?_
  refine lv_iload_n hx hb d_Filter_init_10 rfl (lv_at hl 2 rfl) ?_
  refine m_putF hc hE hw hin h2 kc_TextFilter lf_Filter_13_TextFilter rfl rfl ds_TextFilter_1 rfl rfl (Nat.le_of_ble_eq_true rfl) d_Filter_init_11 (fun H locs hw => ?_)
  obtain ⟨f3, ef3⟩ : ∃ z : Wd, z = va_up f1 a (some (.inr (5, [.int kk, .int ll, .int 0, .int 0, .null, .null]))) := ⟨_, rfl⟩
  replace hw : ms G.1 (Af f sz) f3 s H locs := by rw [ef3]; exact hw
  have h4 : f3 a = some (.inr (5, [.int kk, .int ll, .int 0, .int 0, .null, .null])) := by rw [ef3, va_up_self]
  refine lv_aload_n hx hb d_Filter_init_14 rfl (lv_at hl 0 rfl) ?_
  refine lv_iload_n hx hb d_Filter_init_15 rfl (lv_at hl 3 rfl) ?_
  refine m_putF hc hE hw hin h4 kc_TextFilter lf_Filter_16_TextFilter rfl rfl ds_TextFilter_2 rfl rfl (Nat.le_of_ble_eq_true rfl) d_Filter_init_16 (fun H locs hw => ?_)
  obtain ⟨f5, ef5⟩ : ∃ z : Wd, z = va_up f3 a (some (.inr (5, [.int kk, .int ll, .int hh, .int 0, .null, .null]))) := ⟨_, rfl⟩
  replace hw : ms G.1 (Af f sz) f5 s H locs := by rw [ef5]; exact hw
  have h6 : f5 a = some (.inr (5, [.int kk, .int ll, .int hh, .int 0, .null, .null])) := by rw [ef5, va_up_self]
  exact m_vret hc hr hlk hw ⟨by first | decide | (dsimp only; omega), by first | decide | (dsimp only; omega)⟩ d_Filter_init_19 (by rw [ef5, ef3, up_uu, ef1, up_uu])

set_option maxHeartbeats 4000000 in
set_option maxRecDepth 100000 in
/-- Filter(k, l, h) on a JoinedFilter -/
theorem c_Filter_init_JoinedFilter (G : GG) (l : Launch) (sz : Nat) (f : Wd) {a : Nat} (ha : f a = some (.inr (6, [.int 0, .int 0, .int 0, .null, .null]))) (kk ll hh : Int32) : Cv G l y_Filter_init b_Filter_init 4 none ({ frames := 1, cells := 0, slots := 0, locals := 12 }) sz f [.ref a, .int kk, .int ll, .int hh] (fun f' => f' = va_up f a (some (.inr (6, [.int kk, .int ll, .int hh, .null, .null])))) := by
  refine ct_of (by decide) (Nat.le_of_ble_eq_true rfl) ?_
  intro p e s m below meth c ls H locs hEn
  obtain ⟨hc, hr, hlk, hin, hE, hw, hsz, hl⟩ := hEn
  have hx := hc.1
  have hb := hc.2.1
  have hl : lv_has ls 4 [(0, .ref a), (1, .int kk), (2, .int ll), (3, .int hh)] := hl
  refine lv_aload_n hx hb d_Filter_init_0 rfl (lv_at hl 0 rfl) ?_
  refine m_objInit hc oi_Filter_1 oi_w hl.1 d_Filter_init_1 (Nat.le_of_ble_eq_true rfl) (Nat.le_of_ble_eq_true rfl) ?_
  refine lv_aload_n hx hb d_Filter_init_4 rfl (lv_at hl 0 rfl) ?_
  refine lv_iload_n hx hb d_Filter_init_5 rfl (lv_at hl 1 rfl) ?_
  refine m_putF hc hE hw hin ha kc_JoinedFilter lf_Filter_7_JoinedFilter rfl rfl ds_JoinedFilter_0 rfl rfl (Nat.le_of_ble_eq_true rfl) d_Filter_init_6 (fun H locs hw => ?_)
  obtain ⟨f1, ef1⟩ : ∃ z : Wd, z = va_up f a (some (.inr (6, [.int kk, .int 0, .int 0, .null, .null]))) := ⟨_, rfl⟩
  replace hw : ms G.1 (Af f sz) f1 s H locs := by rw [ef1]; exact hw
  have h2 : f1 a = some (.inr (6, [.int kk, .int 0, .int 0, .null, .null])) := by rw [ef1, va_up_self]
  refine lv_aload_n hx hb d_Filter_init_9 rfl (lv_at hl 0 rfl) ?_
  refine lv_iload_n hx hb d_Filter_init_10 rfl (lv_at hl 2 rfl) ?_
  refine m_putF hc hE hw hin h2 kc_JoinedFilter lf_Filter_13_JoinedFilter rfl rfl ds_JoinedFilter_1 rfl rfl (Nat.le_of_ble_eq_true rfl) d_Filter_init_11 (fun H locs hw => ?_)
  obtain ⟨f3, ef3⟩ : ∃ z : Wd, z = va_up f1 a (some (.inr (6, [.int kk, .int ll, .int 0, .null, .null]))) := ⟨_, rfl⟩
  replace hw : ms G.1 (Af f sz) f3 s H locs := by rw [ef3]; exact hw
  have h4 : f3 a = some (.inr (6, [.int kk, .int ll, .int 0, .null, .null])) := by rw [ef3, va_up_self]
  refine lv_aload_n hx hb d_Filter_init_14 rfl (lv_at hl 0 rfl) ?_
  refine lv_iload_n hx hb d_Filter_init_15 rfl (lv_at hl 3 rfl) ?_
  refine m_putF hc hE hw hin h4 kc_JoinedFilter lf_Filter_16_JoinedFilter rfl rfl ds_JoinedFilter_2 rfl rfl (Nat.le_of_ble_eq_true rfl) d_Filter_init_16 (fun H locs hw => ?_)
  obtain ⟨f5, ef5⟩ : ∃ z : Wd, z = va_up f3 a (some (.inr (6, [.int kk, .int ll, .int hh, .null, .null]))) := ⟨_, rfl⟩
  replace hw : ms G.1 (Af f sz) f5 s H locs := by rw [ef5]; exact hw
  have h6 : f5 a = some (.inr (6, [.int kk, .int ll, .int hh, .null, .null])) := by rw [ef5, va_up_self]
  exact m_vret hc hr hlk hw ⟨by first | decide | (dsimp only; omega), by first | decide | (dsimp only; omega)⟩ d_Filter_init_19 (by rw [ef5, ef3, up_uu, ef1, up_uu])

set_option maxHeartbeats 4000000 in
set_option maxRecDepth 100000 in
/-- Filter(k, l, h) on a StrictFilter -/
theorem c_Filter_init_StrictFilter (G : GG) (l : Launch) (sz : Nat) (f : Wd) {a : Nat} (ha : f a = some (.inr (7, [.int 0, .int 0, .int 0, .null, .int 0]))) (kk ll hh : Int32) : Cv G l y_Filter_init b_Filter_init 4 none ({ frames := 1, cells := 0, slots := 0, locals := 12 }) sz f [.ref a, .int kk, .int ll, .int hh] (fun f' => f' = va_up f a (some (.inr (7, [.int kk, .int ll, .int hh, .null, .int 0])))) := by
  refine ct_of (by decide) (Nat.le_of_ble_eq_true rfl) ?_
  intro p e s m below meth c ls H locs hEn
  obtain ⟨hc, hr, hlk, hin, hE, hw, hsz, hl⟩ := hEn
  have hx := hc.1
  have hb := hc.2.1
  have hl : lv_has ls 4 [(0, .ref a), (1, .int kk), (2, .int ll), (3, .int hh)] := hl
  refine lv_aload_n hx hb d_Filter_init_0 rfl (lv_at hl 0 rfl) ?_
  refine m_objInit hc oi_Filter_1 oi_w hl.1 d_Filter_init_1 (Nat.le_of_ble_eq_true rfl) (Nat.le_of_ble_eq_true rfl) ?_
  refine lv_aload_n hx hb d_Filter_init_4 rfl (lv_at hl 0 rfl) ?_
  refine lv_iload_n hx hb d_Filter_init_5 rfl (lv_at hl 1 rfl) ?_
  refine m_putF hc hE hw hin ha kc_StrictFilter lf_Filter_7_StrictFilter rfl rfl ds_StrictFilter_0 rfl rfl (Nat.le_of_ble_eq_true rfl) d_Filter_init_6 (fun H locs hw => ?_)
  obtain ⟨f1, ef1⟩ : ∃ z : Wd, z = va_up f a (some (.inr (7, [.int kk, .int 0, .int 0, .null, .int 0]))) := ⟨_, rfl⟩
  replace hw : ms G.1 (Af f sz) f1 s H locs := by rw [ef1]; exact hw
  have h2 : f1 a = some (.inr (7, [.int kk, .int 0, .int 0, .null, .int 0])) := by rw [ef1, va_up_self]
  refine lv_aload_n hx hb d_Filter_init_9 rfl (lv_at hl 0 rfl) ?_
  refine lv_iload_n hx hb d_Filter_init_10 rfl (lv_at hl 2 rfl) ?_
  refine m_putF hc hE hw hin h2 kc_StrictFilter lf_Filter_13_StrictFilter rfl rfl ds_StrictFilter_1 rfl rfl (Nat.le_of_ble_eq_true rfl) d_Filter_init_11 (fun H locs hw => ?_)
  obtain ⟨f3, ef3⟩ : ∃ z : Wd, z = va_up f1 a (some (.inr (7, [.int kk, .int ll, .int 0, .null, .int 0]))) := ⟨_, rfl⟩
  replace hw : ms G.1 (Af f sz) f3 s H locs := by rw [ef3]; exact hw
  have h4 : f3 a = some (.inr (7, [.int kk, .int ll, .int 0, .null, .int 0])) := by rw [ef3, va_up_self]
  refine lv_aload_n hx hb d_Filter_init_14 rfl (lv_at hl 0 rfl) ?_
  refine lv_iload_n hx hb d_Filter_init_15 rfl (lv_at hl 3 rfl) ?_
  refine m_putF hc hE hw hin h4 kc_StrictFilter lf_Filter_16_StrictFilter rfl rfl ds_StrictFilter_2 rfl rfl (Nat.le_of_ble_eq_true rfl) d_Filter_init_16 (fun H locs hw => ?_)
  obtain ⟨f5, ef5⟩ : ∃ z : Wd, z = va_up f3 a (some (.inr (7, [.int kk, .int ll, .int hh, .null, .int 0]))) := ⟨_, rfl⟩
  replace hw : ms G.1 (Af f sz) f5 s H locs := by rw [ef5]; exact hw
  have h6 : f5 a = some (.inr (7, [.int kk, .int ll, .int hh, .null, .int 0])) := by rw [ef5, va_up_self]
  exact m_vret hc hr hlk hw ⟨by first | decide | (dsimp only; omega), by first | decide | (dsimp only; omega)⟩ d_Filter_init_19 (by rw [ef5, ef3, up_uu, ef1, up_uu])

set_option maxHeartbeats 4000000 in
set_option maxRecDepth 100000 in
/-- Filter(k, l, h) on a DefaultFilter -/
theorem c_Filter_init_DefaultFilter (G : GG) (l : Launch) (sz : Nat) (f : Wd) {a : Nat} (ha : f a = some (.inr (8, [.int 0, .int 0, .int 0, .null, .int 0]))) (kk ll hh : Int32) : Cv G l y_Filter_init b_Filter_init 4 none ({ frames := 1, cells := 0, slots := 0, locals := 12 }) sz f [.ref a, .int kk, .int ll, .int hh] (fun f' => f' = va_up f a (some (.inr (8, [.int kk, .int ll, .int hh, .null, .int 0])))) := by
  refine ct_of (by decide) (Nat.le_of_ble_eq_true rfl) ?_
  intro p e s m below meth c ls H locs hEn
  obtain ⟨hc, hr, hlk, hin, hE, hw, hsz, hl⟩ := hEn
  have hx := hc.1
  have hb := hc.2.1
  have hl : lv_has ls 4 [(0, .ref a), (1, .int kk), (2, .int ll), (3, .int hh)] := hl
  refine lv_aload_n hx hb d_Filter_init_0 rfl (lv_at hl 0 rfl) ?_
  refine m_objInit hc oi_Filter_1 oi_w hl.1 d_Filter_init_1 (Nat.le_of_ble_eq_true rfl) (Nat.le_of_ble_eq_true rfl) ?_
  refine lv_aload_n hx hb d_Filter_init_4 rfl (lv_at hl 0 rfl) ?_
  refine lv_iload_n hx hb d_Filter_init_5 rfl (lv_at hl 1 rfl) ?_
  refine m_putF hc hE hw hin ha kc_DefaultFilter lf_Filter_7_DefaultFilter rfl rfl ds_DefaultFilter_0 rfl rfl (Nat.le_of_ble_eq_true rfl) d_Filter_init_6 (fun H locs hw => ?_)
  obtain ⟨f1, ef1⟩ : ∃ z : Wd, z = va_up f a (some (.inr (8, [.int kk, .int 0, .int 0, .null, .int 0]))) := ⟨_, rfl⟩
  replace hw : ms G.1 (Af f sz) f1 s H locs := by rw [ef1]; exact hw
  have h2 : f1 a = some (.inr (8, [.int kk, .int 0, .int 0, .null, .int 0])) := by rw [ef1, va_up_self]
  refine lv_aload_n hx hb d_Filter_init_9 rfl (lv_at hl 0 rfl) ?_
  refine lv_iload_n hx hb d_Filter_init_10 rfl (lv_at hl 2 rfl) ?_
  refine m_putF hc hE hw hin h2 kc_DefaultFilter lf_Filter_13_DefaultFilter rfl rfl ds_DefaultFilter_1 rfl rfl (Nat.le_of_ble_eq_true rfl) d_Filter_init_11 (fun H locs hw => ?_)
  obtain ⟨f3, ef3⟩ : ∃ z : Wd, z = va_up f1 a (some (.inr (8, [.int kk, .int ll, .int 0, .null, .int 0]))) := ⟨_, rfl⟩
  replace hw : ms G.1 (Af f sz) f3 s H locs := by rw [ef3]; exact hw
  have h4 : f3 a = some (.inr (8, [.int kk, .int ll, .int 0, .null, .int 0])) := by rw [ef3, va_up_self]
  refine lv_aload_n hx hb d_Filter_init_14 rfl (lv_at hl 0 rfl) ?_
  refine lv_iload_n hx hb d_Filter_init_15 rfl (lv_at hl 3 rfl) ?_
  refine m_putF hc hE hw hin h4 kc_DefaultFilter lf_Filter_16_DefaultFilter rfl rfl ds_DefaultFilter_2 rfl rfl (Nat.le_of_ble_eq_true rfl) d_Filter_init_16 (fun H locs hw => ?_)
  obtain ⟨f5, ef5⟩ : ∃ z : Wd, z = va_up f3 a (some (.inr (8, [.int kk, .int ll, .int hh, .null, .int 0]))) := ⟨_, rfl⟩
  replace hw : ms G.1 (Af f sz) f5 s H locs := by rw [ef5]; exact hw
  have h6 : f5 a = some (.inr (8, [.int kk, .int ll, .int hh, .null, .int 0])) := by rw [ef5, va_up_self]
  exact m_vret hc hr hlk hw ⟨by first | decide | (dsimp only; omega), by first | decide | (dsimp only; omega)⟩ d_Filter_init_19 (by rw [ef5, ef3, up_uu, ef1, up_uu])

set_option maxHeartbeats 4000000 in
set_option maxRecDepth 100000 in
/-- Filter(k, l, h) on a OnlyFilter -/
theorem c_Filter_init_OnlyFilter (G : GG) (l : Launch) (sz : Nat) (f : Wd) {a : Nat} (ha : f a = some (.inr (9, [.int 0, .int 0, .int 0, .null, .null]))) (kk ll hh : Int32) : Cv G l y_Filter_init b_Filter_init 4 none ({ frames := 1, cells := 0, slots := 0, locals := 12 }) sz f [.ref a, .int kk, .int ll, .int hh] (fun f' => f' = va_up f a (some (.inr (9, [.int kk, .int ll, .int hh, .null, .null])))) := by
  refine ct_of (by decide) (Nat.le_of_ble_eq_true rfl) ?_
  intro p e s m below meth c ls H locs hEn
  obtain ⟨hc, hr, hlk, hin, hE, hw, hsz, hl⟩ := hEn
  have hx := hc.1
  have hb := hc.2.1
  have hl : lv_has ls 4 [(0, .ref a), (1, .int kk), (2, .int ll), (3, .int hh)] := hl
  refine lv_aload_n hx hb d_Filter_init_0 rfl (lv_at hl 0 rfl) ?_
  refine m_objInit hc oi_Filter_1 oi_w hl.1 d_Filter_init_1 (Nat.le_of_ble_eq_true rfl) (Nat.le_of_ble_eq_true rfl) ?_
  refine lv_aload_n hx hb d_Filter_init_4 rfl (lv_at hl 0 rfl) ?_
  refine lv_iload_n hx hb d_Filter_init_5 rfl (lv_at hl 1 rfl) ?_
  refine m_putF hc hE hw hin ha kc_OnlyFilter lf_Filter_7_OnlyFilter rfl rfl ds_OnlyFilter_0 rfl rfl (Nat.le_of_ble_eq_true rfl) d_Filter_init_6 (fun H locs hw => ?_)
  obtain ⟨f1, ef1⟩ : ∃ z : Wd, z = va_up f a (some (.inr (9, [.int kk, .int 0, .int 0, .null, .null]))) := ⟨_, rfl⟩
  replace hw : ms G.1 (Af f sz) f1 s H locs := by rw [ef1]; exact hw
  have h2 : f1 a = some (.inr (9, [.int kk, .int 0, .int 0, .null, .null])) := by rw [ef1, va_up_self]
  refine lv_aload_n hx hb d_Filter_init_9 rfl (lv_at hl 0 rfl) ?_
  refine lv_iload_n hx hb d_Filter_init_10 rfl (lv_at hl 2 rfl) ?_
  refine m_putF hc hE hw hin h2 kc_OnlyFilter lf_Filter_13_OnlyFilter rfl rfl ds_OnlyFilter_1 rfl rfl (Nat.le_of_ble_eq_true rfl) d_Filter_init_11 (fun H locs hw => ?_)
  obtain ⟨f3, ef3⟩ : ∃ z : Wd, z = va_up f1 a (some (.inr (9, [.int kk, .int ll, .int 0, .null, .null]))) := ⟨_, rfl⟩
  replace hw : ms G.1 (Af f sz) f3 s H locs := by rw [ef3]; exact hw
  have h4 : f3 a = some (.inr (9, [.int kk, .int ll, .int 0, .null, .null])) := by rw [ef3, va_up_self]
  refine lv_aload_n hx hb d_Filter_init_14 rfl (lv_at hl 0 rfl) ?_
  refine lv_iload_n hx hb d_Filter_init_15 rfl (lv_at hl 3 rfl) ?_
  refine m_putF hc hE hw hin h4 kc_OnlyFilter lf_Filter_16_OnlyFilter rfl rfl ds_OnlyFilter_2 rfl rfl (Nat.le_of_ble_eq_true rfl) d_Filter_init_16 (fun H locs hw => ?_)
  obtain ⟨f5, ef5⟩ : ∃ z : Wd, z = va_up f3 a (some (.inr (9, [.int kk, .int ll, .int hh, .null, .null]))) := ⟨_, rfl⟩
  replace hw : ms G.1 (Af f sz) f5 s H locs := by rw [ef5]; exact hw
  have h6 : f5 a = some (.inr (9, [.int kk, .int ll, .int hh, .null, .null])) := by rw [ef5, va_up_self]
  exact m_vret hc hr hlk hw ⟨by first | decide | (dsimp only; omega), by first | decide | (dsimp only; omega)⟩ d_Filter_init_19 (by rw [ef5, ef3, up_uu, ef1, up_uu])

set_option maxHeartbeats 4000000 in
set_option maxRecDepth 100000 in
/-- TextFilter(bs, la, pa) -/
theorem c_TextFilter_init (G : GG) (l : Launch) (sz : Nat) (f : Wd) {a : Nat} (ha : f a = some (.inr (5, [.int 0, .int 0, .int 0, .int 0, .null, .null]))) {bs : Int32} (h_bs : bs = 0 ∨ bs = 1) (la pa : Nat) : Cv G l y_TextFilter_init b_TextFilter_init 4 none ({ frames := 2, cells := 0, slots := 0, locals := 35 }) sz f [.ref a, .int bs, .ref la, .ref pa] (fun f' => f' = va_up f a (some (.inr (5, [.int 1, .int 1, .int 1, .int bs, .ref la, .ref pa])))) := by
  refine ct_of (by decide) (Nat.le_of_ble_eq_true rfl) ?_
  intro p e s m below meth c ls H locs hEn
  obtain ⟨hc, hr, hlk, hin, hE, hw, hsz, hl⟩ := hEn
  have hx := hc.1
  have hb := hc.2.1
  have hl : lv_has ls 4 [(0, .ref a), (1, .int bs), (2, .ref la), (3, .ref pa)] := hl
  refine lv_aload_n hx hb d_TextFilter_init_0 rfl (lv_at hl 0 rfl) ?_
  refine lv_iconst (v := 1) hx hb d_TextFilter_init_1 (by decide) ?_
  refine lv_iconst (v := 1) hx hb d_TextFilter_init_2 (by decide) ?_
  refine lv_iconst (v := 1) hx hb d_TextFilter_init_3 (by decide) ?_
  refine m_callv hw (m_runI (As := [.int 1, .int 1, .int 1]) (rest := []) hc hE hw (c_Filter_init_TextFilter G l H.size f ha 1 1 1) cw_TextFilter_3 ⟨rfl, si_Filter_init⟩ rfl hl.1 rfl (Nat.le_of_ble_eq_true rfl) d_TextFilter_init_4 ⟨rfl, rfl, by decide, by decide⟩ ⟨by first | decide | (dsimp only; omega), by first | decide | (dsimp only; omega)⟩) (fun g2 H locs p1 hw => ?_)
  have g2_a : g2 a = some (.inr (5, [.int 1, .int 1, .int 1, .int 0, .null, .null])) := by rw [p1, va_up_self]
  refine lv_aload_n hx hb d_TextFilter_init_7 rfl (lv_at hl 0 rfl) ?_
  refine lv_iload_n hx hb d_TextFilter_init_8 rfl (lv_at hl 1 rfl) ?_
  refine m_putF hc hE hw hin g2_a kc_TextFilter lf_TextFilter_9_TextFilter rfl rfl ds_TextFilter_3 (bz_nar h_bs) (bz_fit h_bs) (Nat.le_of_ble_eq_true rfl) d_TextFilter_init_9 (fun H locs hw => ?_)
  obtain ⟨f3, ef3⟩ : ∃ z : Wd, z = va_up g2 a (some (.inr (5, [.int 1, .int 1, .int 1, .int bs, .null, .null]))) := ⟨_, rfl⟩
  replace hw : ms G.1 (Af f sz) f3 s H locs := by rw [ef3]; exact hw
  have h4 : f3 a = some (.inr (5, [.int 1, .int 1, .int 1, .int bs, .null, .null])) := by rw [ef3, va_up_self]
  refine lv_aload_n hx hb d_TextFilter_init_12 rfl (lv_at hl 0 rfl) ?_
  refine lv_aload_n hx hb d_TextFilter_init_13 rfl (lv_at hl 2 rfl) ?_
  refine m_putF hc hE hw hin h4 kc_TextFilter lf_TextFilter_15_TextFilter rfl rfl ds_TextFilter_4 rfl rfl (Nat.le_of_ble_eq_true rfl) d_TextFilter_init_14 (fun H locs hw => ?_)
  obtain ⟨f5, ef5⟩ : ∃ z : Wd, z = va_up f3 a (some (.inr (5, [.int 1, .int 1, .int 1, .int bs, .ref la, .null]))) := ⟨_, rfl⟩
  replace hw : ms G.1 (Af f sz) f5 s H locs := by rw [ef5]; exact hw
  have h6 : f5 a = some (.inr (5, [.int 1, .int 1, .int 1, .int bs, .ref la, .null])) := by rw [ef5, va_up_self]
  refine lv_aload_n hx hb d_TextFilter_init_17 rfl (lv_at hl 0 rfl) ?_
  refine lv_aload_n hx hb d_TextFilter_init_18 rfl (lv_at hl 3 rfl) ?_
  refine m_putF hc hE hw hin h6 kc_TextFilter lf_TextFilter_19_TextFilter rfl rfl ds_TextFilter_5 rfl rfl (Nat.le_of_ble_eq_true rfl) d_TextFilter_init_19 (fun H locs hw => ?_)
  obtain ⟨f7, ef7⟩ : ∃ z : Wd, z = va_up f5 a (some (.inr (5, [.int 1, .int 1, .int 1, .int bs, .ref la, .ref pa]))) := ⟨_, rfl⟩
  replace hw : ms G.1 (Af f sz) f7 s H locs := by rw [ef7]; exact hw
  have h8 : f7 a = some (.inr (5, [.int 1, .int 1, .int 1, .int bs, .ref la, .ref pa])) := by rw [ef7, va_up_self]
  exact m_vret hc hr hlk hw ⟨by first | decide | (dsimp only; omega), by first | decide | (dsimp only; omega)⟩ d_TextFilter_init_22 (by rw [ef7, ef5, up_uu, ef3, up_uu, p1, up_uu])

set_option maxHeartbeats 4000000 in
set_option maxRecDepth 100000 in
/-- StrictFilter(b, al) -/
theorem c_StrictFilter_init (G : GG) (l : Launch) (sz : Nat) (f : Wd) {a : Nat} (ha : f a = some (.inr (7, [.int 0, .int 0, .int 0, .null, .int 0]))) {b cb : Nat} {kb lb gb : Int32} {rb : List Value} (hb0 : f b = some (.inr (cb, .int kb :: .int lb :: .int gb :: rb))) (fb : FC cb) {al : Int32} (h_al : al = 0 ∨ al = 1) : Cv G l y_StrictFilter_init b_StrictFilter_init 3 none ({ frames := 2, cells := 0, slots := 0, locals := 35 }) sz f [.ref a, .ref b, .int al] (fun f' => f' = va_up f a (some (.inr (7, [.int 3, .int lb, .int (1 + gb), .ref b, .int al])))) := by
  refine ct_of (by decide) (Nat.le_of_ble_eq_true rfl) ?_
  intro p e s m below meth c ls H locs hEn
  obtain ⟨hc, hr, hlk, hin, hE, hw, hsz, hl⟩ := hEn
  have hx := hc.1
  have hb := hc.2.1
  have hl : lv_has ls 3 [(0, .ref a), (1, .ref b), (2, .int al)] := hl
  refine lv_aload_n hx hb d_StrictFilter_init_0 rfl (lv_at hl 0 rfl) ?_
  refine lv_iconst (v := 3) hx hb d_StrictFilter_init_1 (by decide) ?_
  refine lv_aload_n hx hb d_StrictFilter_init_2 rfl (lv_at hl 1 rfl) ?_
  refine m_getF hc hE hw hb0 fb l5_StrictFilter_3 rfl d_StrictFilter_init_3 ?_
  refine lv_iconst (v := 1) hx hb d_StrictFilter_init_6 (by decide) ?_
  refine lv_aload_n hx hb d_StrictFilter_init_7 rfl (lv_at hl 1 rfl) ?_
  refine m_getF hc hE hw hb0 fb l5_StrictFilter_9 rfl d_StrictFilter_init_8 ?_
  refine lv_iadd hx hb d_StrictFilter_init_11 ?_
  refine m_callv hw (m_runI (As := [.int 3, .int lb, .int (1 + gb)]) (rest := []) hc hE hw (c_Filter_init_StrictFilter G l H.size f ha 3 lb (1 + gb)) cw_StrictFilter_12 ⟨rfl, si_Filter_init⟩ rfl hl.1 rfl (Nat.le_of_ble_eq_true rfl) d_StrictFilter_init_12 ⟨rfl, rfl, by decide, by decide⟩ ⟨by first | decide | (dsimp only; omega), by first | decide | (dsimp only; omega)⟩) (fun g2 H locs p1 hw => ?_)
  have g2_a : g2 a = some (.inr (7, [.int 3, .int lb, .int (1 + gb), .null, .int 0])) := by rw [p1, va_up_self]
  refine lv_aload_n hx hb d_StrictFilter_init_15 rfl (lv_at hl 0 rfl) ?_
  refine lv_aload_n hx hb d_StrictFilter_init_16 rfl (lv_at hl 1 rfl) ?_
  refine m_putF hc hE hw hin g2_a kc_StrictFilter lf_StrictFilter_16_StrictFilter rfl rfl ds_StrictFilter_3 rfl rfl (Nat.le_of_ble_eq_true rfl) d_StrictFilter_init_17 (fun H locs hw => ?_)
  obtain ⟨f3, ef3⟩ : ∃ z : Wd, z = va_up g2 a (some (.inr (7, [.int 3, .int lb, .int (1 + gb), .ref b, .int 0]))) := ⟨_, rfl⟩
  replace hw : ms G.1 (Af f sz) f3 s H locs := by rw [ef3]; exact hw
  have h4 : f3 a = some (.inr (7, [.int 3, .int lb, .int (1 + gb), .ref b, .int 0])) := by rw [ef3, va_up_self]
  refine lv_aload_n hx hb d_StrictFilter_init_20 rfl (lv_at hl 0 rfl) ?_
  refine lv_iload_n hx hb d_StrictFilter_init_21 rfl (lv_at hl 2 rfl) ?_
  refine m_putF hc hE hw hin h4 kc_StrictFilter lf_StrictFilter_22_StrictFilter rfl rfl ds_StrictFilter_4 (bz_nar h_al) (bz_fit h_al) (Nat.le_of_ble_eq_true rfl) d_StrictFilter_init_22 (fun H locs hw => ?_)
  obtain ⟨f5, ef5⟩ : ∃ z : Wd, z = va_up f3 a (some (.inr (7, [.int 3, .int lb, .int (1 + gb), .ref b, .int al]))) := ⟨_, rfl⟩
  replace hw : ms G.1 (Af f sz) f5 s H locs := by rw [ef5]; exact hw
  have h6 : f5 a = some (.inr (7, [.int 3, .int lb, .int (1 + gb), .ref b, .int al])) := by rw [ef5, va_up_self]
  exact m_vret hc hr hlk hw ⟨by first | decide | (dsimp only; omega), by first | decide | (dsimp only; omega)⟩ d_StrictFilter_init_25 (by rw [ef5, ef3, up_uu, p1, up_uu])

set_option maxHeartbeats 4000000 in
set_option maxRecDepth 100000 in
/-- DefaultFilter(b, gv) -/
theorem c_DefaultFilter_init (G : GG) (l : Launch) (sz : Nat) (f : Wd) {a : Nat} (ha : f a = some (.inr (8, [.int 0, .int 0, .int 0, .null, .int 0]))) {b cb : Nat} {kb lb gb : Int32} {rb : List Value} (hb0 : f b = some (.inr (cb, .int kb :: .int lb :: .int gb :: rb))) (fb : FC cb) (gv : Int32) : Cv G l y_DefaultFilter_init b_DefaultFilter_init 3 none ({ frames := 2, cells := 0, slots := 0, locals := 35 }) sz f [.ref a, .ref b, .int gv] (fun f' => f' = va_up f a (some (.inr (8, [.int 4, .int lb, .int (1 + gb), .ref b, .int gv])))) := by
  refine ct_of (by decide) (Nat.le_of_ble_eq_true rfl) ?_
  intro p e s m below meth c ls H locs hEn
  obtain ⟨hc, hr, hlk, hin, hE, hw, hsz, hl⟩ := hEn
  have hx := hc.1
  have hb := hc.2.1
  have hl : lv_has ls 3 [(0, .ref a), (1, .ref b), (2, .int gv)] := hl
  refine lv_aload_n hx hb d_DefaultFilter_init_0 rfl (lv_at hl 0 rfl) ?_
  refine lv_iconst (v := 4) hx hb d_DefaultFilter_init_1 (by decide) ?_
  refine lv_aload_n hx hb d_DefaultFilter_init_2 rfl (lv_at hl 1 rfl) ?_
  refine m_getF hc hE hw hb0 fb l5_DefaultFilter_3 rfl d_DefaultFilter_init_3 ?_
  refine lv_iconst (v := 1) hx hb d_DefaultFilter_init_6 (by decide) ?_
  refine lv_aload_n hx hb d_DefaultFilter_init_7 rfl (lv_at hl 1 rfl) ?_
  refine m_getF hc hE hw hb0 fb l5_DefaultFilter_9 rfl d_DefaultFilter_init_8 ?_
  refine lv_iadd hx hb d_DefaultFilter_init_11 ?_
  refine m_callv hw (m_runI (As := [.int 4, .int lb, .int (1 + gb)]) (rest := []) hc hE hw (c_Filter_init_DefaultFilter G l H.size f ha 4 lb (1 + gb)) cw_DefaultFilter_12 ⟨rfl, si_Filter_init⟩ rfl hl.1 rfl (Nat.le_of_ble_eq_true rfl) d_DefaultFilter_init_12 ⟨rfl, rfl, by decide, by decide⟩ ⟨by first | decide | (dsimp only; omega), by first | decide | (dsimp only; omega)⟩) (fun g2 H locs p1 hw => ?_)
  have g2_a : g2 a = some (.inr (8, [.int 4, .int lb, .int (1 + gb), .null, .int 0])) := by rw [p1, va_up_self]
  refine lv_aload_n hx hb d_DefaultFilter_init_15 rfl (lv_at hl 0 rfl) ?_
  refine lv_aload_n hx hb d_DefaultFilter_init_16 rfl (lv_at hl 1 rfl) ?_
  refine m_putF hc hE hw hin g2_a kc_DefaultFilter lf_DefaultFilter_16_DefaultFilter rfl rfl ds_DefaultFilter_3 rfl rfl (Nat.le_of_ble_eq_true rfl) d_DefaultFilter_init_17 (fun H locs hw => ?_)
  obtain ⟨f3, ef3⟩ : ∃ z : Wd, z = va_up g2 a (some (.inr (8, [.int 4, .int lb, .int (1 + gb), .ref b, .int 0]))) := ⟨_, rfl⟩
  replace hw : ms G.1 (Af f sz) f3 s H locs := by rw [ef3]; exact hw
  have h4 : f3 a = some (.inr (8, [.int 4, .int lb, .int (1 + gb), .ref b, .int 0])) := by rw [ef3, va_up_self]
  refine lv_aload_n hx hb d_DefaultFilter_init_20 rfl (lv_at hl 0 rfl) ?_
  refine lv_iload_n hx hb d_DefaultFilter_init_21 rfl (lv_at hl 2 rfl) ?_
  refine m_putF hc hE hw hin h4 kc_DefaultFilter lf_DefaultFilter_22_DefaultFilter rfl rfl ds_DefaultFilter_4 rfl rfl (Nat.le_of_ble_eq_true rfl) d_DefaultFilter_init_22 (fun H locs hw => ?_)
  obtain ⟨f5, ef5⟩ : ∃ z : Wd, z = va_up f3 a (some (.inr (8, [.int 4, .int lb, .int (1 + gb), .ref b, .int gv]))) := ⟨_, rfl⟩
  replace hw : ms G.1 (Af f sz) f5 s H locs := by rw [ef5]; exact hw
  have h6 : f5 a = some (.inr (8, [.int 4, .int lb, .int (1 + gb), .ref b, .int gv])) := by rw [ef5, va_up_self]
  exact m_vret hc hr hlk hw ⟨by first | decide | (dsimp only; omega), by first | decide | (dsimp only; omega)⟩ d_DefaultFilter_init_25 (by rw [ef5, ef3, up_uu, p1, up_uu])

set_option maxHeartbeats 4000000 in
set_option maxRecDepth 100000 in
/-- OnlyFilter(b, sa) -/
theorem c_OnlyFilter_init (G : GG) (l : Launch) (sz : Nat) (f : Wd) {a : Nat} (ha : f a = some (.inr (9, [.int 0, .int 0, .int 0, .null, .null]))) {b cb : Nat} {kb lb gb : Int32} {rb : List Value} (hb0 : f b = some (.inr (cb, .int kb :: .int lb :: .int gb :: rb))) (fb : FC cb) (sa : Nat) : Cv G l y_OnlyFilter_init b_OnlyFilter_init 3 none ({ frames := 2, cells := 0, slots := 0, locals := 35 }) sz f [.ref a, .ref b, .ref sa] (fun f' => f' = va_up f a (some (.inr (9, [.int 5, .int lb, .int (1 + gb), .ref b, .ref sa])))) := by
  refine ct_of (by decide) (Nat.le_of_ble_eq_true rfl) ?_
  intro p e s m below meth c ls H locs hEn
  obtain ⟨hc, hr, hlk, hin, hE, hw, hsz, hl⟩ := hEn
  have hx := hc.1
  have hb := hc.2.1
  have hl : lv_has ls 3 [(0, .ref a), (1, .ref b), (2, .ref sa)] := hl
  refine lv_aload_n hx hb d_OnlyFilter_init_0 rfl (lv_at hl 0 rfl) ?_
  refine lv_iconst (v := 5) hx hb d_OnlyFilter_init_1 (by decide) ?_
  refine lv_aload_n hx hb d_OnlyFilter_init_2 rfl (lv_at hl 1 rfl) ?_
  refine m_getF hc hE hw hb0 fb l5_OnlyFilter_3 rfl d_OnlyFilter_init_3 ?_
  refine lv_iconst (v := 1) hx hb d_OnlyFilter_init_6 (by decide) ?_
  refine lv_aload_n hx hb d_OnlyFilter_init_7 rfl (lv_at hl 1 rfl) ?_
  refine m_getF hc hE hw hb0 fb l5_OnlyFilter_9 rfl d_OnlyFilter_init_8 ?_
  refine lv_iadd hx hb d_OnlyFilter_init_11 ?_
  refine m_callv hw (m_runI (As := [.int 5, .int lb, .int (1 + gb)]) (rest := []) hc hE hw (c_Filter_init_OnlyFilter G l H.size f ha 5 lb (1 + gb)) cw_OnlyFilter_12 ⟨rfl, si_Filter_init⟩ rfl hl.1 rfl (Nat.le_of_ble_eq_true rfl) d_OnlyFilter_init_12 ⟨rfl, rfl, by decide, by decide⟩ ⟨by first | decide | (dsimp only; omega), by first | decide | (dsimp only; omega)⟩) (fun g2 H locs p1 hw => ?_)
  have g2_a : g2 a = some (.inr (9, [.int 5, .int lb, .int (1 + gb), .null, .null])) := by rw [p1, va_up_self]
  refine lv_aload_n hx hb d_OnlyFilter_init_15 rfl (lv_at hl 0 rfl) ?_
  refine lv_aload_n hx hb d_OnlyFilter_init_16 rfl (lv_at hl 1 rfl) ?_
  refine m_putF hc hE hw hin g2_a kc_OnlyFilter lf_OnlyFilter_16_OnlyFilter rfl rfl ds_OnlyFilter_3 rfl rfl (Nat.le_of_ble_eq_true rfl) d_OnlyFilter_init_17 (fun H locs hw => ?_)
  obtain ⟨f3, ef3⟩ : ∃ z : Wd, z = va_up g2 a (some (.inr (9, [.int 5, .int lb, .int (1 + gb), .ref b, .null]))) := ⟨_, rfl⟩
  replace hw : ms G.1 (Af f sz) f3 s H locs := by rw [ef3]; exact hw
  have h4 : f3 a = some (.inr (9, [.int 5, .int lb, .int (1 + gb), .ref b, .null])) := by rw [ef3, va_up_self]
  refine lv_aload_n hx hb d_OnlyFilter_init_20 rfl (lv_at hl 0 rfl) ?_
  refine lv_aload_n hx hb d_OnlyFilter_init_21 rfl (lv_at hl 2 rfl) ?_
  refine m_putF hc hE hw hin h4 kc_OnlyFilter lf_OnlyFilter_22_OnlyFilter rfl rfl ds_OnlyFilter_4 rfl rfl (Nat.le_of_ble_eq_true rfl) d_OnlyFilter_init_22 (fun H locs hw => ?_)
  obtain ⟨f5, ef5⟩ : ∃ z : Wd, z = va_up f3 a (some (.inr (9, [.int 5, .int lb, .int (1 + gb), .ref b, .ref sa]))) := ⟨_, rfl⟩
  replace hw : ms G.1 (Af f sz) f5 s H locs := by rw [ef5]; exact hw
  have h6 : f5 a = some (.inr (9, [.int 5, .int lb, .int (1 + gb), .ref b, .ref sa])) := by rw [ef5, va_up_self]
  exact m_vret hc hr hlk hw ⟨by first | decide | (dsimp only; omega), by first | decide | (dsimp only; omega)⟩ d_OnlyFilter_init_25 (by rw [ef5, ef3, up_uu, p1, up_uu])

set_option maxHeartbeats 4000000 in
set_option maxRecDepth 100000 in
/-- JoinedFilter(b, d) -/
theorem c_JoinedFilter_init (G : GG) (l : Launch) (sz : Nat) (f : Wd) {a : Nat} (ha : f a = some (.inr (6, [.int 0, .int 0, .int 0, .null, .null]))) {b cb : Nat} {kb lb gb : Int32} {rb : List Value} (hb0 : f b = some (.inr (cb, .int kb :: .int lb :: .int gb :: rb))) (fb : FC cb) {d cd : Nat} {kd ld gd : Int32} {rd : List Value} (hd0 : f d = some (.inr (cd, .int kd :: .int ld :: .int gd :: rd))) (fd : FC cd) : Cv G l y_JoinedFilter_init b_JoinedFilter_init 3 none ({ frames := 2, cells := 0, slots := 0, locals := 35 }) sz f [.ref a, .ref b, .ref d] (fun f' => f' = va_up f a (some (.inr (6, [.int 2, .int (lb + ld), .int (1 + (if gb < gd then gd else gb)), .ref b, .ref d])))) := by
  refine ct_of (by decide) (Nat.le_of_ble_eq_true rfl) ?_
  intro p e s m below meth c ls H locs hEn
  obtain ⟨hc, hr, hlk, hin, hE, hw, hsz, hl⟩ := hEn
  have hx := hc.1
  have hb := hc.2.1
  have hl : lv_has ls 3 [(0, .ref a), (1, .ref b), (2, .ref d)] := hl
  refine lv_aload_n hx hb d_JoinedFilter_init_0 rfl (lv_at hl 0 rfl) ?_
  refine lv_iconst (v := 2) hx hb d_JoinedFilter_init_1 (by decide) ?_
  refine lv_aload_n hx hb d_JoinedFilter_init_2 rfl (lv_at hl 1 rfl) ?_
  refine m_getF hc hE hw hb0 fb l5_JoinedFilter_3 rfl d_JoinedFilter_init_3 ?_
  refine lv_aload_n hx hb d_JoinedFilter_init_6 rfl (lv_at hl 2 rfl) ?_
  refine m_getF hc hE hw hd0 fd l5_JoinedFilter_3 rfl d_JoinedFilter_init_7 ?_
  refine lv_iadd hx hb d_JoinedFilter_init_10 ?_
  refine lv_iconst (v := 1) hx hb d_JoinedFilter_init_11 (by decide) ?_
  refine lv_aload_n hx hb d_JoinedFilter_init_12 rfl (lv_at hl 1 rfl) ?_
  refine m_getF hc hE hw hb0 fb l5_JoinedFilter_9 rfl d_JoinedFilter_init_13 ?_
  refine lv_aload_n hx hb d_JoinedFilter_init_16 rfl (lv_at hl 2 rfl) ?_
  refine m_getF hc hE hw hd0 fd l5_JoinedFilter_9 rfl d_JoinedFilter_init_17 ?_
  refine m_mmax hc mm_JoinedFilter_12 mm_w hl.1 (Nat.le_of_ble_eq_true rfl) (Nat.le_of_ble_eq_true rfl) ⟨by first | decide | (dsimp only; omega), by first | decide | (dsimp only; omega)⟩ d_JoinedFilter_init_20 ?_
  refine lv_iadd hx hb d_JoinedFilter_init_23 ?_
  refine m_callv hw (m_runI (As := [.int 2, .int (lb + ld), .int (1 + (if gb < gd then gd else gb))]) (rest := []) hc hE hw (c_Filter_init_JoinedFilter G l H.size f ha 2 (lb + ld) (1 + (if gb < gd then gd else gb))) cw_JoinedFilter_18 ⟨rfl, si_Filter_init⟩ rfl hl.1 rfl (Nat.le_of_ble_eq_true rfl) d_JoinedFilter_init_24 ⟨rfl, rfl, by decide, by decide⟩ ⟨by first | decide | (dsimp only; omega), by first | decide | (dsimp only; omega)⟩) (fun g2 H locs p1 hw => ?_)
  have g2_a : g2 a = some (.inr (6, [.int 2, .int (lb + ld), .int (1 + (if gb < gd then gd else gb)), .null, .null])) := by rw [p1, va_up_self]
  refine lv_aload_n hx hb d_JoinedFilter_init_27 rfl (lv_at hl 0 rfl) ?_
  refine lv_aload_n hx hb d_JoinedFilter_init_28 rfl (lv_at hl 1 rfl) ?_
  refine m_putF hc hE hw hin g2_a kc_JoinedFilter lf_JoinedFilter_22_JoinedFilter rfl rfl ds_JoinedFilter_3 rfl rfl (Nat.le_of_ble_eq_true rfl) d_JoinedFilter_init_29 (fun H locs hw => ?_)
  obtain ⟨f3, ef3⟩ : ∃ z : Wd, z = va_up g2 a (some (.inr (6, [.int 2, .int (lb + ld), .int (1 + (if gb < gd then gd else gb)), .ref b, .null]))) := ⟨_, rfl⟩
  replace hw : ms G.1 (Af f sz) f3 s H locs := by rw [ef3]; exact hw
  have h4 : f3 a = some (.inr (6, [.int 2, .int (lb + ld), .int (1 + (if gb < gd then gd else gb)), .ref b, .null])) := by rw [ef3, va_up_self]
  refine lv_aload_n hx hb d_JoinedFilter_init_32 rfl (lv_at hl 0 rfl) ?_
  refine lv_aload_n hx hb d_JoinedFilter_init_33 rfl (lv_at hl 2 rfl) ?_
  refine m_putF hc hE hw hin h4 kc_JoinedFilter lf_JoinedFilter_28_JoinedFilter rfl rfl ds_JoinedFilter_4 rfl rfl (Nat.le_of_ble_eq_true rfl) d_JoinedFilter_init_34 (fun H locs hw => ?_)
  obtain ⟨f5, ef5⟩ : ∃ z : Wd, z = va_up f3 a (some (.inr (6, [.int 2, .int (lb + ld), .int (1 + (if gb < gd then gd else gb)), .ref b, .ref d]))) := ⟨_, rfl⟩
  replace hw : ms G.1 (Af f sz) f5 s H locs := by rw [ef5]; exact hw
  have h6 : f5 a = some (.inr (6, [.int 2, .int (lb + ld), .int (1 + (if gb < gd then gd else gb)), .ref b, .ref d])) := by rw [ef5, va_up_self]
  exact m_vret hc hr hlk hw ⟨by first | decide | (dsimp only; omega), by first | decide | (dsimp only; omega)⟩ d_JoinedFilter_init_37 (by rw [ef5, ef3, up_uu, p1, up_uu])

set_option maxHeartbeats 4000000 in
set_option maxRecDepth 100000 in
/-- ClassPattern(ka, reader) -/
theorem c_ClassPattern_init (G : GG) (l : Launch) (sz : Nat) (f : Wd) {a ra ta : Nat} {P : Prop} {vfr ven vpi vli vnu vsh vmf vme vnf vne : Int32} (ha : f a = some (.inr (4, [.null, .int 0, .int 0, .int 0, .int 0, .int 0, .int 0]))) (hR : f ra = some (.inr (3, [.ref ta, .int vfr, .int ven, .int vpi, .int vli, .int vnu, .int (bI P), .int vsh, .int vmf, .int vme, .int vnf, .int vne]))) (ka : Nat) : Cv G l y_ClassPattern_init b_ClassPattern_init 3 none ({ frames := 1, cells := 0, slots := 0, locals := 12 }) sz f [.ref a, .ref ka, .ref ra] (fun f' => f' = va_up f a (some (.inr (4, [.ref ka, .int (bI P), .int vsh, .int vmf, .int vme, .int vnf, .int vne])))) := by
  refine ct_of (by decide) (Nat.le_of_ble_eq_true rfl) ?_
  intro p e s m below meth c ls H locs hEn
  obtain ⟨hc, hr, hlk, hin, hE, hw, hsz, hl⟩ := hEn
  have hx := hc.1
  have hb := hc.2.1
  have hl : lv_has ls 3 [(0, .ref a), (1, .ref ka), (2, .ref ra)] := hl
  refine lv_aload_n hx hb d_ClassPattern_init_0 rfl (lv_at hl 0 rfl) ?_
  refine m_objInit hc oi_ClassPattern_3 oi_w hl.1 d_ClassPattern_init_1 (Nat.le_of_ble_eq_true rfl) (Nat.le_of_ble_eq_true rfl) ?_
  refine lv_aload_n hx hb d_ClassPattern_init_4 rfl (lv_at hl 0 rfl) ?_
  refine lv_aload_n hx hb d_ClassPattern_init_5 rfl (lv_at hl 1 rfl) ?_
  refine m_putF hc hE hw hin ha kc_ClassPattern lf_ClassPattern_9_ClassPattern rfl rfl ds_ClassPattern_0 rfl rfl (Nat.le_of_ble_eq_true rfl) d_ClassPattern_init_6 (fun H locs hw => ?_)
  obtain ⟨f1, ef1⟩ : ∃ z : Wd, z = va_up f a (some (.inr (4, [.ref ka, .int 0, .int 0, .int 0, .int 0, .int 0, .int 0]))) := ⟨_, rfl⟩
  replace hw : ms G.1 (Af f sz) f1 s H locs := by rw [ef1]; exact hw
  have h2 : f1 ra = some (.inr (3, [.ref ta, .int vfr, .int ven, .int vpi, .int vli, .int vnu, .int (bI P), .int vsh, .int vmf, .int vme, .int vnf, .int vne])) := by rw [ef1, va_up_ne _ _ (wne hR ha (wd_oo (by decide)))]; exact hR
  have h3 : f1 a = some (.inr (4, [.ref ka, .int 0, .int 0, .int 0, .int 0, .int 0, .int 0])) := by rw [ef1, va_up_self]
  refine lv_aload_n hx hb d_ClassPattern_init_9 rfl (lv_at hl 0 rfl) ?_
  refine lv_aload_n hx hb d_ClassPattern_init_10 rfl (lv_at hl 2 rfl) ?_
  refine m_get hc hE hw h2 kc_PieceReader l_ClassPattern_15_PieceReader rfl d_ClassPattern_init_11 ?_
  refine m_putF hc hE hw hin h3 kc_ClassPattern lf_ClassPattern_21_ClassPattern rfl rfl ds_ClassPattern_1 (bI_nar _) (bI_fit _) (Nat.le_of_ble_eq_true rfl) d_ClassPattern_init_14 (fun H locs hw => ?_)
  obtain ⟨f4, ef4⟩ : ∃ z : Wd, z = va_up f1 a (some (.inr (4, [.ref ka, .int (bI P), .int 0, .int 0, .int 0, .int 0, .int 0]))) := ⟨_, rfl⟩
  replace hw : ms G.1 (Af f sz) f4 s H locs := by rw [ef4]; exact hw
  have h5 : f4 ra = some (.inr (3, [.ref ta, .int vfr, .int ven, .int vpi, .int vli, .int vnu, .int (bI P), .int vsh, .int vmf, .int vme, .int vnf, .int vne])) := by rw [ef4, va_up_ne _ _ (wne h2 h3 (wd_oo (by decide)))]; exact h2
  have h6 : f4 a = some (.inr (4, [.ref ka, .int (bI P), .int 0, .int 0, .int 0, .int 0, .int 0])) := by rw [ef4, va_up_self]
  refine lv_aload_n hx hb d_ClassPattern_init_17 rfl (lv_at hl 0 rfl) ?_
  refine lv_aload_n hx hb d_ClassPattern_init_18 rfl (lv_at hl 2 rfl) ?_
  refine m_get hc hE hw h5 kc_PieceReader l_ClassPattern_22_PieceReader rfl d_ClassPattern_init_19 ?_
  refine m_putF hc hE hw hin h6 kc_ClassPattern lf_ClassPattern_26_ClassPattern rfl rfl ds_ClassPattern_2 rfl rfl (Nat.le_of_ble_eq_true rfl) d_ClassPattern_init_22 (fun H locs hw => ?_)
  obtain ⟨f7, ef7⟩ : ∃ z : Wd, z = va_up f4 a (some (.inr (4, [.ref ka, .int (bI P), .int vsh, .int 0, .int 0, .int 0, .int 0]))) := ⟨_, rfl⟩
  replace hw : ms G.1 (Af f sz) f7 s H locs := by rw [ef7]; exact hw
  have h8 : f7 ra = some (.inr (3, [.ref ta, .int vfr, .int ven, .int vpi, .int vli, .int vnu, .int (bI P), .int vsh, .int vmf, .int vme, .int vnf, .int vne])) := by rw [ef7, va_up_ne _ _ (wne h5 h6 (wd_oo (by decide)))]; exact h5
  have h9 : f7 a = some (.inr (4, [.ref ka, .int (bI P), .int vsh, .int 0, .int 0, .int 0, .int 0])) := by rw [ef7, va_up_self]
  refine lv_aload_n hx hb d_ClassPattern_init_25 rfl (lv_at hl 0 rfl) ?_
  refine lv_aload_n hx hb d_ClassPattern_init_26 rfl (lv_at hl 2 rfl) ?_
  refine m_get hc hE hw h8 kc_PieceReader l_ClassPattern_27_PieceReader rfl d_ClassPattern_init_27 ?_
  refine m_putF hc hE hw hin h9 kc_ClassPattern lf_ClassPattern_30_ClassPattern rfl rfl ds_ClassPattern_3 rfl rfl (Nat.le_of_ble_eq_true rfl) d_ClassPattern_init_30 (fun H locs hw => ?_)
  obtain ⟨f10, ef10⟩ : ∃ z : Wd, z = va_up f7 a (some (.inr (4, [.ref ka, .int (bI P), .int vsh, .int vmf, .int 0, .int 0, .int 0]))) := ⟨_, rfl⟩
  replace hw : ms G.1 (Af f sz) f10 s H locs := by rw [ef10]; exact hw
  have h11 : f10 ra = some (.inr (3, [.ref ta, .int vfr, .int ven, .int vpi, .int vli, .int vnu, .int (bI P), .int vsh, .int vmf, .int vme, .int vnf, .int vne])) := by rw [ef10, va_up_ne _ _ (wne h8 h9 (wd_oo (by decide)))]; exact h8
  have h12 : f10 a = some (.inr (4, [.ref ka, .int (bI P), .int vsh, .int vmf, .int 0, .int 0, .int 0])) := by rw [ef10, va_up_self]
  refine lv_aload_n hx hb d_ClassPattern_init_33 rfl (lv_at hl 0 rfl) ?_
  refine lv_aload_n hx hb d_ClassPattern_init_34 rfl (lv_at hl 2 rfl) ?_
  refine m_get hc hE hw h11 kc_PieceReader l_ClassPattern_31_PieceReader rfl d_ClassPattern_init_35 ?_
  refine m_putF hc hE hw hin h12 kc_ClassPattern lf_ClassPattern_34_ClassPattern rfl rfl ds_ClassPattern_4 rfl rfl (Nat.le_of_ble_eq_true rfl) d_ClassPattern_init_38 (fun H locs hw => ?_)
  obtain ⟨f13, ef13⟩ : ∃ z : Wd, z = va_up f10 a (some (.inr (4, [.ref ka, .int (bI P), .int vsh, .int vmf, .int vme, .int 0, .int 0]))) := ⟨_, rfl⟩
  replace hw : ms G.1 (Af f sz) f13 s H locs := by rw [ef13]; exact hw
  have h14 : f13 ra = some (.inr (3, [.ref ta, .int vfr, .int ven, .int vpi, .int vli, .int vnu, .int (bI P), .int vsh, .int vmf, .int vme, .int vnf, .int vne])) := by rw [ef13, va_up_ne _ _ (wne h11 h12 (wd_oo (by decide)))]; exact h11
  have h15 : f13 a = some (.inr (4, [.ref ka, .int (bI P), .int vsh, .int vmf, .int vme, .int 0, .int 0])) := by rw [ef13, va_up_self]
  refine lv_aload_n hx hb d_ClassPattern_init_41 rfl (lv_at hl 0 rfl) ?_
  refine lv_aload_n hx hb d_ClassPattern_init_42 rfl (lv_at hl 2 rfl) ?_
  refine m_get hc hE hw h14 kc_PieceReader l_ClassPattern_35_PieceReader rfl d_ClassPattern_init_43 ?_
  refine m_putF hc hE hw hin h15 kc_ClassPattern lf_ClassPattern_38_ClassPattern rfl rfl ds_ClassPattern_5 rfl rfl (Nat.le_of_ble_eq_true rfl) d_ClassPattern_init_46 (fun H locs hw => ?_)
  obtain ⟨f16, ef16⟩ : ∃ z : Wd, z = va_up f13 a (some (.inr (4, [.ref ka, .int (bI P), .int vsh, .int vmf, .int vme, .int vnf, .int 0]))) := ⟨_, rfl⟩
  replace hw : ms G.1 (Af f sz) f16 s H locs := by rw [ef16]; exact hw
  have h17 : f16 ra = some (.inr (3, [.ref ta, .int vfr, .int ven, .int vpi, .int vli, .int vnu, .int (bI P), .int vsh, .int vmf, .int vme, .int vnf, .int vne])) := by rw [ef16, va_up_ne _ _ (wne h14 h15 (wd_oo (by decide)))]; exact h14
  have h18 : f16 a = some (.inr (4, [.ref ka, .int (bI P), .int vsh, .int vmf, .int vme, .int vnf, .int 0])) := by rw [ef16, va_up_self]
  refine lv_aload_n hx hb d_ClassPattern_init_49 rfl (lv_at hl 0 rfl) ?_
  refine lv_aload_n hx hb d_ClassPattern_init_50 rfl (lv_at hl 2 rfl) ?_
  refine m_get hc hE hw h17 kc_PieceReader l_ClassPattern_39_PieceReader rfl d_ClassPattern_init_51 ?_
  refine m_putF hc hE hw hin h18 kc_ClassPattern lf_ClassPattern_42_ClassPattern rfl rfl ds_ClassPattern_6 rfl rfl (Nat.le_of_ble_eq_true rfl) d_ClassPattern_init_54 (fun H locs hw => ?_)
  obtain ⟨f19, ef19⟩ : ∃ z : Wd, z = va_up f16 a (some (.inr (4, [.ref ka, .int (bI P), .int vsh, .int vmf, .int vme, .int vnf, .int vne]))) := ⟨_, rfl⟩
  replace hw : ms G.1 (Af f sz) f19 s H locs := by rw [ef19]; exact hw
  have h20 : f19 ra = some (.inr (3, [.ref ta, .int vfr, .int ven, .int vpi, .int vli, .int vnu, .int (bI P), .int vsh, .int vmf, .int vme, .int vnf, .int vne])) := by rw [ef19, va_up_ne _ _ (wne h17 h18 (wd_oo (by decide)))]; exact h17
  have h21 : f19 a = some (.inr (4, [.ref ka, .int (bI P), .int vsh, .int vmf, .int vme, .int vnf, .int vne])) := by rw [ef19, va_up_self]
  exact m_vret hc hr hlk hw ⟨by first | decide | (dsimp only; omega), by first | decide | (dsimp only; omega)⟩ d_ClassPattern_init_57 (by rw [ef19, ef16, up_uu, ef13, up_uu, ef10, up_uu, ef7, up_uu, ef4, up_uu, ef1, up_uu])

set_option maxHeartbeats 4000000 in
set_option maxRecDepth 100000 in
/-- PieceReader(ta) -/
theorem c_PieceReader_init (G : GG) (l : Launch) (sz : Nat) (f : Wd) {a : Nat} (ha : f a = some (.inr (3, [.null, .int 0, .int 0, .int 0, .int 0, .int 0, .int 0, .int 0, .int 0, .int 0, .int 0, .int 0]))) (ta : Nat) : Cv G l y_PieceReader_init b_PieceReader_init 2 none ({ frames := 1, cells := 0, slots := 0, locals := 12 }) sz f [.ref a, .ref ta] (fun f' => f' = va_up f a (some (.inr (3, [.ref ta, .int 0, .int 0, .int 0, .int 0, .int 0, .int 0, .int 0, .int 0, .int 0, .int 0, .int 0])))) := by
  refine ct_of (by decide) (Nat.le_of_ble_eq_true rfl) ?_
  intro p e s m below meth c ls H locs hEn
  obtain ⟨hc, hr, hlk, hin, hE, hw, hsz, hl⟩ := hEn
  have hx := hc.1
  have hb := hc.2.1
  have hl : lv_has ls 2 [(0, .ref a), (1, .ref ta)] := hl
  refine lv_aload_n hx hb d_PieceReader_init_0 rfl (lv_at hl 0 rfl) ?_
  refine m_objInit hc oi_PieceReader_3 oi_w hl.1 d_PieceReader_init_1 (Nat.le_of_ble_eq_true rfl) (Nat.le_of_ble_eq_true rfl) ?_
  refine lv_aload_n hx hb d_PieceReader_init_4 rfl (lv_at hl 0 rfl) ?_
  refine lv_aload_n hx hb d_PieceReader_init_5 rfl (lv_at hl 1 rfl) ?_
  refine m_putF hc hE hw hin ha kc_PieceReader lf_PieceReader_9_PieceReader rfl rfl ds_PieceReader_0 rfl rfl (Nat.le_of_ble_eq_true rfl) d_PieceReader_init_6 (fun H locs hw => ?_)
  obtain ⟨f1, ef1⟩ : ∃ z : Wd, z = va_up f a (some (.inr (3, [.ref ta, .int 0, .int 0, .int 0, .int 0, .int 0, .int 0, .int 0, .int 0, .int 0, .int 0, .int 0]))) := ⟨_, rfl⟩
  replace hw : ms G.1 (Af f sz) f1 s H locs := by rw [ef1]; exact hw
  have h2 : f1 a = some (.inr (3, [.ref ta, .int 0, .int 0, .int 0, .int 0, .int 0, .int 0, .int 0, .int 0, .int 0, .int 0, .int 0])) := by rw [ef1, va_up_self]
  exact m_vret hc hr hlk hw ⟨by first | decide | (dsimp only; omega), by first | decide | (dsimp only; omega)⟩ d_PieceReader_init_9 (by rw [ef1])

set_option maxHeartbeats 4000000 in
set_option maxRecDepth 100000 in
/-- begin(i1, i2, i3) -/
theorem c_Question_begin (G : GG) (l : Launch) (sz : Nat) (f : Wd) {a na ma : Nat} {dp rf by_ so di le co tx la : Int32} (ha : f a = some (.inr (2, [.ref na, .ref ma, .int dp, .int rf, .int by_, .int so, .int di, .int le, .int co, .int tx, .int la]))) (i1 i2 i3 : Int32) : Cv G l y_Question_begin b_Question_begin 4 none ({ frames := 0, cells := 0, slots := 0, locals := 0 }) sz f [.ref a, .int i1, .int i2, .int i3] (fun f' => f' = va_up f a (some (.inr (2, [.ref na, .ref ma, .int dp, .int rf, .int by_, .int i1, .int i2, .int i3, .int 0, .int 0, .int (-2)])))) := by
  refine ct_of (by decide) (Nat.le_of_ble_eq_true rfl) ?_
  intro p e s m below meth c ls H locs hEn
  obtain ⟨hc, hr, hlk, hin, hE, hw, hsz, hl⟩ := hEn
  have hx := hc.1
  have hb := hc.2.1
  have hl : lv_has ls 4 [(0, .ref a), (1, .int i1), (2, .int i2), (3, .int i3)] := hl
  refine lv_aload_n hx hb d_Question_begin_0 rfl (lv_at hl 0 rfl) ?_
  refine lv_iload_n hx hb d_Question_begin_1 rfl (lv_at hl 1 rfl) ?_
  refine m_put hc hE hw ha kc_Question l_Question_27_Question rfl ds_Question_5 rfl rfl (Nat.le_of_ble_eq_true rfl) d_Question_begin_2 (fun H locs hw => ?_)
  obtain ⟨f1, ef1⟩ : ∃ z : Wd, z = va_up f a (some (.inr (2, [.ref na, .ref ma, .int dp, .int rf, .int by_, .int i1, .int di, .int le, .int co, .int tx, .int la]))) := ⟨_, rfl⟩
  replace hw : ms G.1 (Af f sz) f1 s H locs := by rw [ef1]; exact hw
  have h2 : f1 a = some (.inr (2, [.ref na, .ref ma, .int dp, .int rf, .int by_, .int i1, .int di, .int le, .int co, .int tx, .int la])) := by rw [ef1, va_up_self]
  refine lv_aload_n hx hb d_Question_begin_5 rfl (lv_at hl 0 rfl) ?_
  refine lv_iload_n hx hb d_Question_begin_6 rfl (lv_at hl 2 rfl) ?_
  refine m_put hc hE hw h2 kc_Question l_Question_30_Question rfl ds_Question_6 rfl rfl (Nat.le_of_ble_eq_true rfl) d_Question_begin_7 (fun H locs hw => ?_)
  obtain ⟨f3, ef3⟩ : ∃ z : Wd, z = va_up f1 a (some (.inr (2, [.ref na, .ref ma, .int dp, .int rf, .int by_, .int i1, .int i2, .int le, .int co, .int tx, .int la]))) := ⟨_, rfl⟩
  replace hw : ms G.1 (Af f sz) f3 s H locs := by rw [ef3]; exact hw
  have h4 : f3 a = some (.inr (2, [.ref na, .ref ma, .int dp, .int rf, .int by_, .int i1, .int i2, .int le, .int co, .int tx, .int la])) := by rw [ef3, va_up_self]
  refine lv_aload_n hx hb d_Question_begin_10 rfl (lv_at hl 0 rfl) ?_
  refine lv_iload_n hx hb d_Question_begin_11 rfl (lv_at hl 3 rfl) ?_
  refine m_put hc hE hw h4 kc_Question l_Question_33_Question rfl ds_Question_7 rfl rfl (Nat.le_of_ble_eq_true rfl) d_Question_begin_12 (fun H locs hw => ?_)
  obtain ⟨f5, ef5⟩ : ∃ z : Wd, z = va_up f3 a (some (.inr (2, [.ref na, .ref ma, .int dp, .int rf, .int by_, .int i1, .int i2, .int i3, .int co, .int tx, .int la]))) := ⟨_, rfl⟩
  replace hw : ms G.1 (Af f sz) f5 s H locs := by rw [ef5]; exact hw
  have h6 : f5 a = some (.inr (2, [.ref na, .ref ma, .int dp, .int rf, .int by_, .int i1, .int i2, .int i3, .int co, .int tx, .int la])) := by rw [ef5, va_up_self]
  refine lv_aload_n hx hb d_Question_begin_15 rfl (lv_at hl 0 rfl) ?_
  refine lv_iconst (v := 0) hx hb d_Question_begin_16 (by decide) ?_
  refine m_put hc hE hw h6 kc_Question l_Question_36_Question rfl ds_Question_8 rfl rfl (Nat.le_of_ble_eq_true rfl) d_Question_begin_17 (fun H locs hw => ?_)
  obtain ⟨f7, ef7⟩ : ∃ z : Wd, z = va_up f5 a (some (.inr (2, [.ref na, .ref ma, .int dp, .int rf, .int by_, .int i1, .int i2, .int i3, .int 0, .int tx, .int la]))) := ⟨_, rfl⟩
  replace hw : ms G.1 (Af f sz) f7 s H locs := by rw [ef7]; exact hw
  have h8 : f7 a = some (.inr (2, [.ref na, .ref ma, .int dp, .int rf, .int by_, .int i1, .int i2, .int i3, .int 0, .int tx, .int la])) := by rw [ef7, va_up_self]
  refine lv_aload_n hx hb d_Question_begin_20 rfl (lv_at hl 0 rfl) ?_
  refine lv_iconst (v := 0) hx hb d_Question_begin_21 (by decide) ?_
  refine m_put hc hE hw h8 kc_Question l_Question_39_Question rfl ds_Question_9 rfl rfl (Nat.le_of_ble_eq_true rfl) d_Question_begin_22 (fun H locs hw => ?_)
  obtain ⟨f9, ef9⟩ : ∃ z : Wd, z = va_up f7 a (some (.inr (2, [.ref na, .ref ma, .int dp, .int rf, .int by_, .int i1, .int i2, .int i3, .int 0, .int 0, .int la]))) := ⟨_, rfl⟩
  replace hw : ms G.1 (Af f sz) f9 s H locs := by rw [ef9]; exact hw
  have h10 : f9 a = some (.inr (2, [.ref na, .ref ma, .int dp, .int rf, .int by_, .int i1, .int i2, .int i3, .int 0, .int 0, .int la])) := by rw [ef9, va_up_self]
  refine lv_aload_n hx hb d_Question_begin_25 rfl (lv_at hl 0 rfl) ?_
  refine lv_bipush (v := (-2)) hx hb d_Question_begin_26 (by decide) ?_
  refine m_put hc hE hw h10 kc_Question l_Question_23_Question rfl ds_Question_10 rfl rfl (Nat.le_of_ble_eq_true rfl) d_Question_begin_28 (fun H locs hw => ?_)
  obtain ⟨f11, ef11⟩ : ∃ z : Wd, z = va_up f9 a (some (.inr (2, [.ref na, .ref ma, .int dp, .int rf, .int by_, .int i1, .int i2, .int i3, .int 0, .int 0, .int (-2)]))) := ⟨_, rfl⟩
  replace hw : ms G.1 (Af f sz) f11 s H locs := by rw [ef11]; exact hw
  have h12 : f11 a = some (.inr (2, [.ref na, .ref ma, .int dp, .int rf, .int by_, .int i1, .int i2, .int i3, .int 0, .int 0, .int (-2)])) := by rw [ef11, va_up_self]
  exact m_vret hc hr hlk hw ⟨by first | decide | (dsimp only; omega), by first | decide | (dsimp only; omega)⟩ d_Question_begin_31 (by rw [ef11, ef9, up_uu, ef7, up_uu, ef5, up_uu, ef3, up_uu, ef1, up_uu])
