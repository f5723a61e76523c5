theorem kw_0 : Cond.fieldLink RX9 15 "AlreadyJudged$Tape" "size" "I" ∈ zW := zwI (i := 237) (by decide +kernel) (by decide +kernel)
theorem kw_1 : Cond.fieldLink RX9 9 "AlreadyJudged$Tape" "bytes" "[I" ∈ zW := zwI (i := 235) (by decide +kernel) (by decide +kernel)
theorem kw_2 : Cond.fieldLink RX5 26 "AlreadyJudged$LawReader" "fault" "I" ∈ zW := zwI (i := 278) (by decide +kernel) (by decide +kernel)
theorem kw_3 : Cond.fieldLink RX5 15 "AlreadyJudged$LawReader" "tape" "LAlreadyJudged$Tape;" ∈ zW := zwI (i := 274) (by decide +kernel) (by decide +kernel)
theorem kw_4 : Cond.fieldLink RX5 19 "AlreadyJudged$LawReader" "at" "I" ∈ zW := zwI (i := 277) (by decide +kernel) (by decide +kernel)
theorem kw_5 : Cond.fieldLink RX5 23 "AlreadyJudged$LawReader" "size" "I" ∈ zW := zwI (i := 276) (by decide +kernel) (by decide +kernel)
theorem kw_6 : Cond.fieldLink RX5 9 "AlreadyJudged$LawReader" "code" "[I" ∈ zW := zwI (i := 275) (by decide +kernel) (by decide +kernel)
theorem kw_7 : Cond.methodLink RX5 39 yX5_fail ∈ zW := zwI (i := 574) (by decide +kernel) (by decide +kernel)
theorem kw_8 : Cond.instanceMethod yX5_fail ∈ zW := zwI (i := 575) (by decide +kernel) (by decide +kernel)
theorem kw_9 : Cond.selects RX5 yX5_fail yX5_fail ∈ zW := zwI (i := 576) (by decide +kernel) (by decide +kernel)
theorem kw_10 : Cond.initialized RX5 ∈ zW := zwI (i := 80) (by decide +kernel) (by decide +kernel)
theorem kw_11 : Cond.code yX5_fail cX5_fail 1 none ∈ zW := zwI (i := 577) (by decide +kernel) (by decide +kernel)
theorem kw_12 : Cond.methodLink RX5 57 yX5_emit ∈ zW := zwI (i := 566) (by decide +kernel) (by decide +kernel)
theorem kw_13 : Cond.instanceMethod yX5_emit ∈ zW := zwI (i := 567) (by decide +kernel) (by decide +kernel)
theorem kw_14 : Cond.selects RX5 yX5_emit yX5_emit ∈ zW := zwI (i := 568) (by decide +kernel) (by decide +kernel)
theorem kw_15 : Cond.code yX5_emit cX5_emit 2 none ∈ zW := zwI (i := 569) (by decide +kernel) (by decide +kernel)
theorem kw_16 : Cond.methodLink RX5 68 yX9_byteAt ∈ zW := zwI (i := 553) (by decide +kernel) (by decide +kernel)
theorem kw_17 : Cond.instanceMethod yX9_byteAt ∈ zW := zwI (i := 554) (by decide +kernel) (by decide +kernel)
theorem kw_18 : Cond.selects RX9 yX9_byteAt yX9_byteAt ∈ zW := zwI (i := 555) (by decide +kernel) (by decide +kernel)
theorem kw_19 : Cond.initialized RX9 ∈ zW := zwI (i := 78) (by decide +kernel) (by decide +kernel)
theorem kw_20 : Cond.code yX9_byteAt cX9_byteAt 2 (some .int) ∈ zW := zwI (i := 556) (by decide +kernel) (by decide +kernel)
theorem kw_21 : Cond.methodLink RX5 71 yX9_isDigitAt ∈ zW := zwI (i := 557) (by decide +kernel) (by decide +kernel)
theorem kw_22 : Cond.instanceMethod yX9_isDigitAt ∈ zW := zwI (i := 558) (by decide +kernel) (by decide +kernel)
theorem kw_23 : Cond.selects RX9 yX9_isDigitAt yX9_isDigitAt ∈ zW := zwI (i := 559) (by decide +kernel) (by decide +kernel)
theorem kw_24 : Cond.code yX9_isDigitAt cX9_isDigitAt 3 (some .boolean) ∈ zW := zwI (i := 560) (by decide +kernel) (by decide +kernel)
theorem kw_25 : Cond.methodLink RX9 33 yX9_byteAt ∈ zW := zwI (i := 561) (by decide +kernel) (by decide +kernel)
theorem iX0 : ∀ w ∈ u_ws RX0 TX0 5, w ∈ zW := fun w hw => List.mem_filter.mpr ⟨(by decide +kernel : ∀ w ∈ u_ws RX0 TX0 5, w ∈ lw_tbl) w hw, (by decide +kernel : ∀ w ∈ u_ws RX0 TX0 5, goodWord w = true) w hw⟩
theorem iX1 : ∀ w ∈ u_ws RX1 TX1 7, w ∈ zW := fun w hw => List.mem_filter.mpr ⟨(by decide +kernel : ∀ w ∈ u_ws RX1 TX1 7, w ∈ lw_tbl) w hw, (by decide +kernel : ∀ w ∈ u_ws RX1 TX1 7, goodWord w = true) w hw⟩
theorem iX2 : ∀ w ∈ u_ws RX2 TX2 13, w ∈ zW := fun w hw => List.mem_filter.mpr ⟨(by decide +kernel : ∀ w ∈ u_ws RX2 TX2 13, w ∈ lw_tbl) w hw, (by decide +kernel : ∀ w ∈ u_ws RX2 TX2 13, goodWord w = true) w hw⟩
theorem iX3 : ∀ w ∈ u_ws RX3 TX3 11, w ∈ zW := fun w hw => List.mem_filter.mpr ⟨(by decide +kernel : ∀ w ∈ u_ws RX3 TX3 11, w ∈ lw_tbl) w hw, (by decide +kernel : ∀ w ∈ u_ws RX3 TX3 11, goodWord w = true) w hw⟩
theorem iX4 : ∀ w ∈ u_ws RX4 TX4 1, w ∈ zW := fun w hw => List.mem_filter.mpr ⟨(by decide +kernel : ∀ w ∈ u_ws RX4 TX4 1, w ∈ lw_tbl) w hw, (by decide +kernel : ∀ w ∈ u_ws RX4 TX4 1, goodWord w = true) w hw⟩
theorem iX5 : ∀ w ∈ u_ws RX5 TX5 5, w ∈ zW := fun w hw => List.mem_filter.mpr ⟨(by decide +kernel : ∀ w ∈ u_ws RX5 TX5 5, w ∈ lw_tbl) w hw, (by decide +kernel : ∀ w ∈ u_ws RX5 TX5 5, goodWord w = true) w hw⟩
theorem iX6 : ∀ w ∈ u_ws RX6 TX6 4, w ∈ zW := fun w hw => List.mem_filter.mpr ⟨(by decide +kernel : ∀ w ∈ u_ws RX6 TX6 4, w ∈ lw_tbl) w hw, (by decide +kernel : ∀ w ∈ u_ws RX6 TX6 4, goodWord w = true) w hw⟩
theorem iX7 : ∀ w ∈ u_ws RX7 TX7 15, w ∈ zW := fun w hw => List.mem_filter.mpr ⟨(by decide +kernel : ∀ w ∈ u_ws RX7 TX7 15, w ∈ lw_tbl) w hw, (by decide +kernel : ∀ w ∈ u_ws RX7 TX7 15, goodWord w = true) w hw⟩
theorem iX8 : ∀ w ∈ u_ws RX8 TX8 5, w ∈ zW := fun w hw => List.mem_filter.mpr ⟨(by decide +kernel : ∀ w ∈ u_ws RX8 TX8 5, w ∈ lw_tbl) w hw, (by decide +kernel : ∀ w ∈ u_ws RX8 TX8 5, goodWord w = true) w hw⟩
theorem iX9 : ∀ w ∈ u_ws RX9 TX9 2, w ∈ zW := fun w hw => List.mem_filter.mpr ⟨(by decide +kernel : ∀ w ∈ u_ws RX9 TX9 2, w ∈ lw_tbl) w hw, (by decide +kernel : ∀ w ∈ u_ws RX9 TX9 2, goodWord w = true) w hw⟩
theorem iX10 : ∀ w ∈ u_ws RX10 TX10 9, w ∈ zW := fun w hw => List.mem_filter.mpr ⟨(by decide +kernel : ∀ w ∈ u_ws RX10 TX10 9, w ∈ lw_tbl) w hw, (by decide +kernel : ∀ w ∈ u_ws RX10 TX10 9, goodWord w = true) w hw⟩
theorem iX11 : ∀ w ∈ u_ws RX11 TX11 11, w ∈ zW := fun w hw => List.mem_filter.mpr ⟨(by decide +kernel : ∀ w ∈ u_ws RX11 TX11 11, w ∈ lw_tbl) w hw, (by decide +kernel : ∀ w ∈ u_ws RX11 TX11 11, goodWord w = true) w hw⟩
theorem iX12 : ∀ w ∈ u_ws RX12 TX12 60, w ∈ zW := fun w hw => List.mem_filter.mpr ⟨(by decide +kernel : ∀ w ∈ u_ws RX12 TX12 60, w ∈ lw_tbl) w hw, (by decide +kernel : ∀ w ∈ u_ws RX12 TX12 60, goodWord w = true) w hw⟩
