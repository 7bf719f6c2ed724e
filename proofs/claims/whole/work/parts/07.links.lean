abbrev rm_Tru_init : Room := { frames := 2, cells := 12, slots := 3447, locals := 41 }
abbrev rm_Tru_set : Room := { frames := 7, cells := 0, slots := 0, locals := 103 }
abbrev rm_Tru_digit : Room := { frames := 7, cells := 0, slots := 0, locals := 103 }
abbrev rm_Tru_clear : Room := { frames := 7, cells := 0, slots := 0, locals := 103 }
abbrev rm_Tru_round : Room := { frames := 7, cells := 0, slots := 0, locals := 103 }
abbrev rm_Tru_places : Room := { frames := 7, cells := 0, slots := 0, locals := 103 }
abbrev rm_Tru_nearest : Room := { frames := 7, cells := 0, slots := 0, locals := 103 }
abbrev rm_Tru_enough : Room := { frames := 7, cells := 0, slots := 0, locals := 145 }
abbrev rm_Tru_look : Room := { frames := 7, cells := 0, slots := 0, locals := 103 }
abbrev rm_Tru_count : Room := { frames := 7, cells := 0, slots := 0, locals := 103 }
abbrev rm_Tru_hasNoRoomFor : Room := { frames := 0, cells := 0, slots := 0, locals := 0 }
abbrev rm_Tru_bringDigit : Room := { frames := 1, cells := 0, slots := 0, locals := 21 }
abbrev rm_Tru_forgetWhatCame : Room := { frames := 0, cells := 0, slots := 0, locals := 0 }
abbrev rm_Tru_roundToDigits : Room := { frames := 3, cells := 0, slots := 0, locals := 63 }
abbrev rm_Tru_nearestSize : Room := { frames := 3, cells := 0, slots := 0, locals := 81 }
abbrev rm_Tru_leastDigitsFor : Room := { frames := 5, cells := 0, slots := 0, locals := 121 }
abbrev rm_Tru_holdsWith : Room := { frames := 2, cells := 0, slots := 0, locals := 62 }
abbrev rm_Tru_spellMiddleAbove : Room := { frames := 4, cells := 0, slots := 0, locals := 98 }
abbrev rm_Tru_spell : Room := { frames := 3, cells := 0, slots := 0, locals := 74 }
abbrev rm_Tru_factorOf : Room := { frames := 0, cells := 0, slots := 0, locals := 0 }
abbrev rm_Tru_powerOf : Room := { frames := 1, cells := 0, slots := 0, locals := 21 }
abbrev rm_Mod_init : Room := { frames := 1, cells := 6, slots := 6300, locals := 21 }
abbrev rm_Mod_thrown : Room := { frames := 0, cells := 0, slots := 0, locals := 0 }
abbrev rm_Mod_in : Room := { frames := 0, cells := 0, slots := 0, locals := 0 }
abbrev rm_Mod_fails : Room := { frames := 0, cells := 0, slots := 0, locals := 0 }
abbrev rm_Mod_set : Room := { frames := 1, cells := 0, slots := 0, locals := 23 }
abbrev rm_Mod_twice : Room := { frames := 0, cells := 0, slots := 0, locals := 0 }
abbrev rm_Mod_half : Room := { frames := 0, cells := 0, slots := 0, locals := 0 }
abbrev rm_Mod_keep : Room := { frames := 0, cells := 0, slots := 0, locals := 0 }
abbrev rm_Mod_digit : Room := { frames := 1, cells := 0, slots := 0, locals := 25 }
abbrev rm_Mod_clear : Room := { frames := 1, cells := 0, slots := 0, locals := 25 }
abbrev rm_Mod_cut : Room := { frames := 1, cells := 0, slots := 0, locals := 20 }
abbrev rm_Mod_nothing : Room := { frames := 0, cells := 0, slots := 0, locals := 0 }
abbrev rm_Mod_round : Room := { frames := 2, cells := 0, slots := 0, locals := 44 }
abbrev rm_Mod_places : Room := { frames := 2, cells := 0, slots := 0, locals := 44 }
abbrev rm_Mod_finds : Room := { frames := 1, cells := 0, slots := 0, locals := 31 }
abbrev rm_Mod_isNothing : Room := { frames := 0, cells := 0, slots := 0, locals := 0 }
abbrev rm_Mod_put : Room := { frames := 0, cells := 0, slots := 0, locals := 0 }
abbrev rm_Mod_nearest : Room := { frames := 2, cells := 0, slots := 0, locals := 63 }
abbrev rm_Mod_exactly : Room := { frames := 1, cells := 0, slots := 0, locals := 23 }
abbrev rm_Mod_compare : Room := { frames := 0, cells := 0, slots := 0, locals := 0 }
abbrev rm_Mod_enough : Room := { frames := 2, cells := 0, slots := 0, locals := 63 }
abbrev rm_Mod_look : Room := { frames := 1, cells := 0, slots := 0, locals := 25 }
abbrev rm_Mod_count : Room := { frames := 1, cells := 0, slots := 0, locals := 25 }
abbrev rm_Dec_init : Room := { frames := 1, cells := 1, slots := 800, locals := 21 }
abbrev rm_Dec_beZero : Room := { frames := 0, cells := 0, slots := 0, locals := 0 }
abbrev rm_Dec_beStartOf : Room := { frames := 1, cells := 0, slots := 0, locals := 40 }
abbrev rm_Dec_append : Room := { frames := 0, cells := 0, slots := 0, locals := 0 }
abbrev rm_Dec_cutBehind : Room := { frames := 2, cells := 0, slots := 0, locals := 41 }
abbrev rm_Dec_goesUpBehind : Room := { frames := 0, cells := 0, slots := 0, locals := 0 }
abbrev rm_Dec_settle : Room := { frames := 1, cells := 0, slots := 0, locals := 20 }
abbrev rm_Dec_goUp : Room := { frames := 0, cells := 0, slots := 0, locals := 0 }
abbrev rm_Dec_dropZerosAtEnd : Room := { frames := 0, cells := 0, slots := 0, locals := 0 }
abbrev rm_Dec_against : Room := { frames := 1, cells := 0, slots := 0, locals := 21 }
abbrev rm_Dec_read : Room := { frames := 2, cells := 0, slots := 0, locals := 46 }
abbrev rm_Dec_readGroup : Room := { frames := 1, cells := 0, slots := 0, locals := 21 }
abbrev rm_Grp_init : Room := { frames := 1, cells := 1, slots := 160, locals := 21 }
abbrev rm_Grp_placeOfFirst : Room := { frames := 0, cells := 0, slots := 0, locals := 0 }
abbrev rm_Grp_hasSomethingBehindPoint : Room := { frames := 0, cells := 0, slots := 0, locals := 0 }
abbrev rm_Grp_beProduct : Room := { frames := 2, cells := 0, slots := 0, locals := 50 }
abbrev rm_Grp_load : Room := { frames := 1, cells := 0, slots := 0, locals := 24 }
abbrev rm_Grp_multiply : Room := { frames := 1, cells := 0, slots := 0, locals := 21 }
abbrev rm_Grp_divide : Room := { frames := 1, cells := 0, slots := 0, locals := 21 }
abbrev rm_Wrd_init : Room := { frames := 1, cells := 1, slots := 70, locals := 21 }
abbrev rm_Wrd_load : Room := { frames := 2, cells := 0, slots := 0, locals := 50 }
abbrev rm_Wrd_roundedSize : Room := { frames := 2, cells := 0, slots := 0, locals := 53 }
abbrev rm_Wrd_roundHead : Room := { frames := 1, cells := 0, slots := 0, locals := 21 }
abbrev rm_Wrd_firstThatIsNotZero : Room := { frames := 0, cells := 0, slots := 0, locals := 0 }
abbrev rm_Wrd_isMoreFrom : Room := { frames := 0, cells := 0, slots := 0, locals := 0 }
abbrev rm_Law_set : Room := { frames := 8, cells := 0, slots := 0, locals := 127 }
abbrev rm_Law_digit : Room := { frames := 8, cells := 0, slots := 0, locals := 124 }
abbrev rm_Law_clear : Room := { frames := 8, cells := 0, slots := 0, locals := 125 }
abbrev rm_Law_round : Room := { frames := 8, cells := 0, slots := 0, locals := 124 }
abbrev rm_Law_places : Room := { frames := 8, cells := 0, slots := 0, locals := 124 }
abbrev rm_Law_nearest : Room := { frames := 8, cells := 0, slots := 0, locals := 125 }
abbrev rm_Law_enough : Room := { frames := 8, cells := 0, slots := 0, locals := 168 }
abbrev rm_Law_look : Room := { frames := 8, cells := 0, slots := 0, locals := 124 }
abbrev rm_Law_count : Room := { frames := 8, cells := 0, slots := 0, locals := 124 }
abbrev rm_JInt_compare : Room := { frames := 0, cells := 0, slots := 0, locals := 0 }
abbrev rm_JInt_numberOfLeadingZeros : Room := { frames := 0, cells := 0, slots := 0, locals := 0 }
abbrev rm_JLon_numberOfLeadingZeros : Room := { frames := 1, cells := 0, slots := 0, locals := 21 }
abbrev rm_JArr_fill : Room := { frames := 0, cells := 0, slots := 0, locals := 0 }
/-! rows that link: fields, calls, numbers -/
theorem fs_0_0 : Fs 0 0 (.array .int) true := ⟨_, _, _, ty0_, rfl, tt_0, tn_0, rfl, by decide +kernel⟩
theorem fs_0_1 : Fs 0 1 (.int) false := ⟨_, _, _, ty0_, rfl, tt_0, tn_0, rfl, by decide +kernel⟩
theorem fs_0_2 : Fs 0 2 (.int) false := ⟨_, _, _, ty0_, rfl, tt_0, tn_0, rfl, by decide +kernel⟩
theorem fs_1_0 : Fs 1 0 (.array .long) true := ⟨_, _, _, ty1_, rfl, tt_1, tn_1, rfl, by decide +kernel⟩
theorem fs_1_1 : Fs 1 1 (.int) false := ⟨_, _, _, ty1_, rfl, tt_1, tn_1, rfl, by decide +kernel⟩
theorem fs_1_2 : Fs 1 2 (.int) false := ⟨_, _, _, ty1_, rfl, tt_1, tn_1, rfl, by decide +kernel⟩
theorem fs_2_0 : Fs 2 0 (.array .long) true := ⟨_, _, _, ty2_, rfl, tt_2, tn_2, rfl, by decide +kernel⟩
theorem fs_2_1 : Fs 2 1 (.boolean) false := ⟨_, _, _, ty2_, rfl, tt_2, tn_2, rfl, by decide +kernel⟩
theorem fs_3_0 : Fs 3 0 (.object "DecimalTruth$Decimal") true := ⟨_, _, _, ty3_, rfl, tt_3, tn_3, rfl, by decide +kernel⟩
theorem fs_3_1 : Fs 3 1 (.boolean) false := ⟨_, _, _, ty3_, rfl, tt_3, tn_3, rfl, by decide +kernel⟩
theorem fs_3_2 : Fs 3 2 (.int) false := ⟨_, _, _, ty3_, rfl, tt_3, tn_3, rfl, by decide +kernel⟩
theorem fs_3_3 : Fs 3 3 (.int) false := ⟨_, _, _, ty3_, rfl, tt_3, tn_3, rfl, by decide +kernel⟩
theorem fs_3_4 : Fs 3 4 (.object "DecimalTruth$Groups") true := ⟨_, _, _, ty3_, rfl, tt_3, tn_3, rfl, by decide +kernel⟩
theorem fs_3_5 : Fs 3 5 (.object "DecimalTruth$Words") true := ⟨_, _, _, ty3_, rfl, tt_3, tn_3, rfl, by decide +kernel⟩
theorem fs_3_6 : Fs 3 6 (.object "DecimalTruth$Decimal") true := ⟨_, _, _, ty3_, rfl, tt_3, tn_3, rfl, by decide +kernel⟩
theorem fs_3_7 : Fs 3 7 (.object "DecimalTruth$Decimal") true := ⟨_, _, _, ty3_, rfl, tt_3, tn_3, rfl, by decide +kernel⟩
theorem fs_3_8 : Fs 3 8 (.object "DecimalTruth$Decimal") true := ⟨_, _, _, ty3_, rfl, tt_3, tn_3, rfl, by decide +kernel⟩
theorem fs_4_0 : Fs 4 0 (.int) false := ⟨_, _, _, ty4_, rfl, tt_4, tn_4, rfl, by decide +kernel⟩
theorem fs_4_1 : Fs 4 1 (.boolean) false := ⟨_, _, _, ty4_, rfl, tt_4, tn_4, rfl, by decide +kernel⟩
theorem fs_4_2 : Fs 4 2 (.array .int) true := ⟨_, _, _, ty4_, rfl, tt_4, tn_4, rfl, by decide +kernel⟩
theorem fs_4_3 : Fs 4 3 (.int) false := ⟨_, _, _, ty4_, rfl, tt_4, tn_4, rfl, by decide +kernel⟩
theorem fs_4_4 : Fs 4 4 (.int) false := ⟨_, _, _, ty4_, rfl, tt_4, tn_4, rfl, by decide +kernel⟩
theorem fs_4_5 : Fs 4 5 (.int) false := ⟨_, _, _, ty4_, rfl, tt_4, tn_4, rfl, by decide +kernel⟩
theorem fs_4_6 : Fs 4 6 (.int) false := ⟨_, _, _, ty4_, rfl, tt_4, tn_4, rfl, by decide +kernel⟩
theorem fs_4_7 : Fs 4 7 (.array .int) true := ⟨_, _, _, ty4_, rfl, tt_4, tn_4, rfl, by decide +kernel⟩
theorem fs_4_8 : Fs 4 8 (.int) false := ⟨_, _, _, ty4_, rfl, tt_4, tn_4, rfl, by decide +kernel⟩
theorem fs_4_9 : Fs 4 9 (.int) false := ⟨_, _, _, ty4_, rfl, tt_4, tn_4, rfl, by decide +kernel⟩
theorem fs_4_10 : Fs 4 10 (.long) false := ⟨_, _, _, ty4_, rfl, tt_4, tn_4, rfl, by decide +kernel⟩
theorem fs_4_11 : Fs 4 11 (.array .int) true := ⟨_, _, _, ty4_, rfl, tt_4, tn_4, rfl, by decide +kernel⟩
theorem fs_4_12 : Fs 4 12 (.array .int) true := ⟨_, _, _, ty4_, rfl, tt_4, tn_4, rfl, by decide +kernel⟩
theorem fs_4_13 : Fs 4 13 (.array .int) true := ⟨_, _, _, ty4_, rfl, tt_4, tn_4, rfl, by decide +kernel⟩
theorem fs_4_14 : Fs 4 14 (.array .int) true := ⟨_, _, _, ty4_, rfl, tt_4, tn_4, rfl, by decide +kernel⟩
theorem fs_4_15 : Fs 4 15 (.int) false := ⟨_, _, _, ty4_, rfl, tt_4, tn_4, rfl, by decide +kernel⟩
theorem fs_4_16 : Fs 4 16 (.int) false := ⟨_, _, _, ty4_, rfl, tt_4, tn_4, rfl, by decide +kernel⟩
theorem fs_4_17 : Fs 4 17 (.int) false := ⟨_, _, _, ty4_, rfl, tt_4, tn_4, rfl, by decide +kernel⟩
theorem fs_4_18 : Fs 4 18 (.int) false := ⟨_, _, _, ty4_, rfl, tt_4, tn_4, rfl, by decide +kernel⟩
theorem cl_Tru_11 : ClI RT 11 ky_Dec_init 0 := ⟨⟨Or.inr ⟨"DecimalTruth", (wn (i := 27) rfl rfl)⟩, (wl (i := 2) rfl rfl), by decide, by decide, by decide +kernel⟩, (wl (i := 28) rfl rfl), rfl⟩
theorem fl_Tru_12 : Fl RT 12 3 0 := ⟨"DecimalTruth", TF3, 9, rfl, by decide, rfl, tu_3, Or.inl (wl (i := 81) rfl rfl)⟩
theorem cl_Tru_18 : ClI RT 18 ky_Grp_init 0 := ⟨⟨Or.inr ⟨"DecimalTruth", (wn (i := 50) rfl rfl)⟩, (wl (i := 3) rfl rfl), by decide, by decide, by decide +kernel⟩, (wl (i := 51) rfl rfl), rfl⟩
theorem fl_Tru_19 : Fl RT 19 3 4 := ⟨"DecimalTruth", TF3, 9, rfl, by decide, rfl, tu_3, Or.inl (wl (i := 85) rfl rfl)⟩
theorem cl_Tru_25 : ClI RT 25 ky_Wrd_init 0 := ⟨⟨Or.inr ⟨"DecimalTruth", (wn (i := 70) rfl rfl)⟩, (wl (i := 4) rfl rfl), by decide, by decide, by decide +kernel⟩, (wl (i := 71) rfl rfl), rfl⟩
theorem fl_Tru_26 : Fl RT 26 3 5 := ⟨"DecimalTruth", TF3, 9, rfl, by decide, rfl, tu_3, Or.inl (wl (i := 86) rfl rfl)⟩
theorem fl_Tru_30 : Fl RT 30 3 6 := ⟨"DecimalTruth", TF3, 9, rfl, by decide, rfl, tu_3, Or.inl (wl (i := 87) rfl rfl)⟩
theorem fl_Tru_33 : Fl RT 33 3 7 := ⟨"DecimalTruth", TF3, 9, rfl, by decide, rfl, tu_3, Or.inl (wl (i := 88) rfl rfl)⟩
theorem fl_Tru_36 : Fl RT 36 3 8 := ⟨"DecimalTruth", TF3, 9, rfl, by decide, rfl, tu_3, Or.inl (wl (i := 89) rfl rfl)⟩
theorem wk_Tru_39 : Cond.constantLong RT 39 (zj 9223372036854775807) ∈ al := wl (i := 117) rfl rfl
theorem wk_Tru_41 : Cond.constantLong RT 41 (zj 9218868437227405312) ∈ al := wl (i := 118) rfl rfl
theorem fl_Tru_50 : Fl RT 50 3 1 := ⟨"DecimalTruth", TF3, 9, rfl, by decide, rfl, tu_3, Or.inl (wl (i := 82) rfl rfl)⟩
theorem cl_Tru_54 : ClS RT 54 ky_Tru_factorOf 1 := ⟨⟨Or.inl (wl (i := 187) rfl rfl), (wl (i := 1) rfl rfl), by decide, by decide, by decide +kernel⟩, (wl (i := 188) rfl rfl)⟩
theorem cl_Tru_58 : ClS RT 58 ky_Tru_powerOf 1 := ⟨⟨Or.inl (wl (i := 191) rfl rfl), (wl (i := 1) rfl rfl), by decide, by decide, by decide +kernel⟩, (wl (i := 192) rfl rfl)⟩
theorem cl_Tru_62 : ClV RT 62 ky_Tru_spell 3 := ⟨⟨Or.inl (wl (i := 197) rfl rfl), (wl (i := 1) rfl rfl), by decide, by decide, by decide +kernel⟩, (wl (i := 199) rfl rfl), (wp (i := 1) rfl)⟩
theorem cl_Tru_66 : ClV RT 66 ky_Tru_forgetWhatCame 0 := ⟨⟨Or.inl (wl (i := 243) rfl rfl), (wl (i := 1) rfl rfl), by decide, by decide, by decide +kernel⟩, (wl (i := 245) rfl rfl), (wp (i := 4) rfl)⟩
theorem fl_Tru_69 : Fl RT 69 0 1 := ⟨"DecimalTruth$Decimal", TF0, 3, rfl, by decide, rfl, tu_0, Or.inr ⟨"DecimalTruth", (wn (i := 35) rfl rfl)⟩⟩
theorem cl_Tru_75 : ClV RT 75 ky_Tru_hasNoRoomFor 1 := ⟨⟨Or.inl (wl (i := 256) rfl rfl), (wl (i := 1) rfl rfl), by decide, by decide, by decide +kernel⟩, (wl (i := 258) rfl rfl), (wp (i := 5) rfl)⟩
theorem cl_Tru_84 : ClV RT 84 ky_Tru_bringDigit 1 := ⟨⟨Or.inl (wl (i := 276) rfl rfl), (wl (i := 1) rfl rfl), by decide, by decide, by decide +kernel⟩, (wl (i := 278) rfl rfl), (wp (i := 6) rfl)⟩
theorem fl_Tru_88 : Fl RT 88 3 3 := ⟨"DecimalTruth", TF3, 9, rfl, by decide, rfl, tu_3, Or.inl (wl (i := 84) rfl rfl)⟩
theorem fl_Tru_91 : Fl RT 91 3 2 := ⟨"DecimalTruth", TF3, 9, rfl, by decide, rfl, tu_3, Or.inl (wl (i := 83) rfl rfl)⟩
theorem cl_Tru_96 : ClV RT 96 ky_Dec_beZero 0 := ⟨⟨Or.inl (wl (i := 289) rfl rfl), (wl (i := 2) rfl rfl), by decide, by decide, by decide +kernel⟩, (wl (i := 290) rfl rfl), (wl (i := 291) rfl rfl)⟩
theorem cl_Tru_101 : ClV RT 101 ky_Tru_roundToDigits 1 := ⟨⟨Or.inl (wl (i := 301) rfl rfl), (wl (i := 1) rfl rfl), by decide, by decide, by decide +kernel⟩, (wl (i := 303) rfl rfl), (wp (i := 7) rfl)⟩
theorem fl_Tru_106 : Fl RT 106 0 2 := ⟨"DecimalTruth$Decimal", TF0, 3, rfl, by decide, rfl, tu_0, Or.inr ⟨"DecimalTruth", (wn (i := 39) rfl rfl)⟩⟩
theorem cl_Tru_109 : ClV RT 109 ky_Dec_cutBehind 1 := ⟨⟨Or.inl (wl (i := 305) rfl rfl), (wl (i := 2) rfl rfl), by decide, by decide, by decide +kernel⟩, (wl (i := 306) rfl rfl), (wl (i := 307) rfl rfl)⟩
theorem cl_Tru_112 : ClV RT 112 ky_Tru_nearestSize 0 := ⟨⟨Or.inl (wl (i := 338) rfl rfl), (wl (i := 1) rfl rfl), by decide, by decide, by decide +kernel⟩, (wl (i := 340) rfl rfl), (wp (i := 9) rfl)⟩
set_option maxRecDepth 10000 in
theorem wk_Tru_121 : Cond.constantLong RT 121 (zj (-9223372036854775808)) ∈ al := wl (i := 399) rfl rfl
set_option maxRecDepth 10000 in
theorem cl_Tru_123 : ClV RT 123 ky_Tru_leastDigitsFor 1 := ⟨⟨Or.inl (wl (i := 407) rfl rfl), (wl (i := 1) rfl rfl), by decide, by decide, by decide +kernel⟩, (wl (i := 409) rfl rfl), (wp (i := 12) rfl)⟩
theorem fl_Tru_128 : Fl RT 128 0 0 := ⟨"DecimalTruth$Decimal", TF0, 3, rfl, by decide, rfl, tu_0, Or.inr ⟨"DecimalTruth", (wn (i := 33) rfl rfl)⟩⟩
theorem cl_Tru_134 : ClV RT 134 ky_Dec_append 1 := ⟨⟨Or.inl (wl (i := 280) rfl rfl), (wl (i := 2) rfl rfl), by decide, by decide, by decide +kernel⟩, (wl (i := 236) rfl rfl), (wl (i := 237) rfl rfl)⟩
theorem cl_Tru_137 : ClV RT 137 ky_Grp_load 1 := ⟨⟨Or.inl (wl (i := 342) rfl rfl), (wl (i := 3) rfl rfl), by decide, by decide, by decide +kernel⟩, (wl (i := 343) rfl rfl), (wl (i := 344) rfl rfl)⟩
theorem cl_Tru_141 : ClV RT 141 ky_Wrd_load 1 := ⟨⟨Or.inl (wl (i := 348) rfl rfl), (wl (i := 4) rfl rfl), by decide, by decide, by decide +kernel⟩, (wl (i := 349) rfl rfl), (wl (i := 350) rfl rfl)⟩
set_option maxRecDepth 10000 in
theorem cl_Tru_144 : ClV RT 144 ky_Wrd_roundedSize 0 := ⟨⟨Or.inl (wl (i := 363) rfl rfl), (wl (i := 4) rfl rfl), by decide, by decide, by decide +kernel⟩, (wl (i := 364) rfl rfl), (wl (i := 365) rfl rfl)⟩
set_option maxRecDepth 10000 in
theorem cl_Tru_147 : ClV RT 147 ky_Tru_spellMiddleAbove 2 := ⟨⟨Or.inl (wl (i := 411) rfl rfl), (wl (i := 1) rfl rfl), by decide, by decide, by decide +kernel⟩, (wl (i := 413) rfl rfl), (wp (i := 13) rfl)⟩
set_option maxRecDepth 10000 in
theorem cl_Tru_151 : ClV RT 151 ky_Tru_holdsWith 2 := ⟨⟨Or.inl (wl (i := 416) rfl rfl), (wl (i := 1) rfl rfl), by decide, by decide, by decide +kernel⟩, (wl (i := 418) rfl rfl), (wp (i := 14) rfl)⟩
set_option maxRecDepth 10000 in
theorem cl_Tru_155 : ClV RT 155 ky_Dec_goesUpBehind 1 := ⟨⟨Or.inl (wl (i := 420) rfl rfl), (wl (i := 2) rfl rfl), by decide, by decide, by decide +kernel⟩, (wl (i := 311) rfl rfl), (wl (i := 312) rfl rfl)⟩
set_option maxRecDepth 10000 in
theorem cl_Tru_158 : ClV RT 158 ky_Dec_beStartOf 2 := ⟨⟨Or.inl (wl (i := 421) rfl rfl), (wl (i := 2) rfl rfl), by decide, by decide, by decide +kernel⟩, (wl (i := 422) rfl rfl), (wl (i := 423) rfl rfl)⟩
set_option maxRecDepth 10000 in
theorem cl_Tru_162 : ClV RT 162 ky_Dec_settle 1 := ⟨⟨Or.inl (wl (i := 428) rfl rfl), (wl (i := 2) rfl rfl), by decide, by decide, by decide +kernel⟩, (wl (i := 315) rfl rfl), (wl (i := 316) rfl rfl)⟩
set_option maxRecDepth 10000 in
theorem cl_Tru_166 : ClV RT 166 ky_Dec_against 1 := ⟨⟨Or.inl (wl (i := 429) rfl rfl), (wl (i := 2) rfl rfl), by decide, by decide, by decide +kernel⟩, (wl (i := 430) rfl rfl), (wl (i := 431) rfl rfl)⟩
set_option maxRecDepth 10000 in
theorem wk_Tru_170 : Cond.constantLong RT 170 (zj 2) ∈ al := wl (i := 415) rfl rfl
theorem cl_Tru_172 : ClV RT 172 ky_Grp_beProduct 2 := ⟨⟨Or.inl (wl (i := 201) rfl rfl), (wl (i := 3) rfl rfl), by decide, by decide, by decide +kernel⟩, (wl (i := 202) rfl rfl), (wl (i := 203) rfl rfl)⟩
theorem cl_Tru_176 : ClV RT 176 ky_Dec_read 1 := ⟨⟨Or.inl (wl (i := 221) rfl rfl), (wl (i := 2) rfl rfl), by decide, by decide, by decide +kernel⟩, (wl (i := 222) rfl rfl), (wl (i := 223) rfl rfl)⟩
theorem wk_Tru_179 : Cond.constantLong RT 179 (zj 4503599627370495) ∈ al := wl (i := 190) rfl rfl
theorem cl_Tru_181 : Cond.methodLink RT 181 Lib.Math.max.name ∈ al := (wl (i := 194) rfl rfl)
set_option maxRecDepth 10000 in
theorem fl_Mod_9 : Fl RM 9 4 2 := ⟨"DecimalTruthModel", TF4, 19, rfl, by decide, rfl, tu_4, Or.inl (wl (i := 461) rfl rfl)⟩
set_option maxRecDepth 10000 in
theorem fl_Mod_13 : Fl RM 13 4 7 := ⟨"DecimalTruthModel", TF4, 19, rfl, by decide, rfl, tu_4, Or.inl (wl (i := 466) rfl rfl)⟩
set_option maxRecDepth 10000 in
theorem fl_Mod_16 : Fl RM 16 4 11 := ⟨"DecimalTruthModel", TF4, 19, rfl, by decide, rfl, tu_4, Or.inl (wl (i := 470) rfl rfl)⟩
set_option maxRecDepth 10000 in
theorem fl_Mod_19 : Fl RM 19 4 12 := ⟨"DecimalTruthModel", TF4, 19, rfl, by decide, rfl, tu_4, Or.inl (wl (i := 471) rfl rfl)⟩
set_option maxRecDepth 10000 in
theorem fl_Mod_22 : Fl RM 22 4 13 := ⟨"DecimalTruthModel", TF4, 19, rfl, by decide, rfl, tu_4, Or.inl (wl (i := 472) rfl rfl)⟩
set_option maxRecDepth 10000 in
theorem fl_Mod_25 : Fl RM 25 4 14 := ⟨"DecimalTruthModel", TF4, 19, rfl, by decide, rfl, tu_4, Or.inl (wl (i := 473) rfl rfl)⟩
set_option maxRecDepth 10000 in
theorem fl_Mod_28 : Fl RM 28 4 0 := ⟨"DecimalTruthModel", TF4, 19, rfl, by decide, rfl, tu_4, Or.inl (wl (i := 459) rfl rfl)⟩
set_option maxRecDepth 10000 in
theorem cl_Mod_32 : ClV RM 32 ky_Mod_fails 2 := ⟨⟨Or.inl (wl (i := 525) rfl rfl), (wl (i := 5) rfl rfl), by decide, by decide, by decide +kernel⟩, (wl (i := 527) rfl rfl), (wp (i := 15) rfl)⟩
set_option maxRecDepth 10000 in
theorem wk_Mod_36 : Cond.constantLong RM 36 (zj 4503599627370495) ∈ al := wl (i := 529) rfl rfl
set_option maxRecDepth 10000 in
theorem wk_Mod_38 : Cond.constantLong RM 38 (zj 4503599627370496) ∈ al := wl (i := 530) rfl rfl
set_option maxRecDepth 10000 in
theorem fl_Mod_40 : Fl RM 40 4 8 := ⟨"DecimalTruthModel", TF4, 19, rfl, by decide, rfl, tu_4, Or.inl (wl (i := 467) rfl rfl)⟩
set_option maxRecDepth 10000 in
theorem fl_Mod_43 : Fl RM 43 4 9 := ⟨"DecimalTruthModel", TF4, 19, rfl, by decide, rfl, tu_4, Or.inl (wl (i := 468) rfl rfl)⟩
set_option maxRecDepth 10000 in
theorem wk_Mod_46 : Cond.constantLong RM 46 (zj 10) ∈ al := wl (i := 531) rfl rfl
set_option maxRecDepth 10000 in
theorem cl_Mod_48 : ClV RM 48 ky_Mod_twice 0 := ⟨⟨Or.inl (wl (i := 532) rfl rfl), (wl (i := 5) rfl rfl), by decide, by decide, by decide +kernel⟩, (wl (i := 534) rfl rfl), (wp (i := 16) rfl)⟩
set_option maxRecDepth 10000 in
theorem cl_Mod_51 : ClV RM 51 ky_Mod_half 0 := ⟨⟨Or.inl (wl (i := 536) rfl rfl), (wl (i := 5) rfl rfl), by decide, by decide, by decide +kernel⟩, (wl (i := 538) rfl rfl), (wp (i := 17) rfl)⟩
set_option maxRecDepth 10000 in
theorem fl_Mod_54 : Fl RM 54 4 1 := ⟨"DecimalTruthModel", TF4, 19, rfl, by decide, rfl, tu_4, Or.inl (wl (i := 460) rfl rfl)⟩
set_option maxRecDepth 10000 in
theorem cl_Mod_58 : ClV RM 58 ky_Mod_keep 0 := ⟨⟨Or.inl (wl (i := 540) rfl rfl), (wl (i := 5) rfl rfl), by decide, by decide, by decide +kernel⟩, (wl (i := 542) rfl rfl), (wp (i := 18) rfl)⟩
set_option maxRecDepth 10000 in
theorem fl_Mod_61 : Fl RM 61 4 3 := ⟨"DecimalTruthModel", TF4, 19, rfl, by decide, rfl, tu_4, Or.inl (wl (i := 462) rfl rfl)⟩
set_option maxRecDepth 10000 in
theorem fl_Mod_64 : Fl RM 64 4 4 := ⟨"DecimalTruthModel", TF4, 19, rfl, by decide, rfl, tu_4, Or.inl (wl (i := 463) rfl rfl)⟩
set_option maxRecDepth 10000 in
theorem fl_Mod_67 : Fl RM 67 4 5 := ⟨"DecimalTruthModel", TF4, 19, rfl, by decide, rfl, tu_4, Or.inl (wl (i := 464) rfl rfl)⟩
set_option maxRecDepth 10000 in
theorem fl_Mod_70 : Fl RM 70 4 6 := ⟨"DecimalTruthModel", TF4, 19, rfl, by decide, rfl, tu_4, Or.inl (wl (i := 465) rfl rfl)⟩
set_option maxRecDepth 10000 in
theorem wk_Mod_73 : Cond.constantLong RM 73 (zj 9) ∈ al := wl (i := 548) rfl rfl
set_option maxRecDepth 10000 in
theorem cl_Mod_75 : ClS RM 75 ky_Mod_in 3 := ⟨⟨Or.inl (wl (i := 549) rfl rfl), (wl (i := 5) rfl rfl), by decide, by decide, by decide +kernel⟩, (wl (i := 550) rfl rfl)⟩
set_option maxRecDepth 10000 in
theorem wk_Mod_79 : Cond.constantLong RM 79 (zj (-1000)) ∈ al := wl (i := 556) rfl rfl
set_option maxRecDepth 10000 in
theorem wk_Mod_81 : Cond.constantLong RM 81 (zj 1000) ∈ al := wl (i := 557) rfl rfl
set_option maxRecDepth 10000 in
theorem cl_Mod_83 : ClV RM 83 ky_Mod_nothing 0 := ⟨⟨Or.inl (wl (i := 568) rfl rfl), (wl (i := 5) rfl rfl), by decide, by decide, by decide +kernel⟩, (wl (i := 570) rfl rfl), (wp (i := 20) rfl)⟩
set_option maxRecDepth 10000 in
theorem wk_Mod_86 : Cond.constantLong RM 86 (zj 800) ∈ al := wl (i := 562) rfl rfl
set_option maxRecDepth 10000 in
theorem wk_Mod_88 : Cond.constantLong RM 88 (zj (-1)) ∈ al := wl (i := 563) rfl rfl
set_option maxRecDepth 10000 in
theorem cl_Mod_90 : ClV RM 90 ky_Mod_cut 1 := ⟨⟨Or.inl (wl (i := 564) rfl rfl), (wl (i := 5) rfl rfl), by decide, by decide, by decide +kernel⟩, (wl (i := 566) rfl rfl), (wp (i := 19) rfl)⟩
set_option maxRecDepth 10000 in
theorem wk_Mod_94 : Cond.constantLong RM 94 (zj 2000) ∈ al := wl (i := 576) rfl rfl
set_option maxRecDepth 10000 in
theorem fl_Mod_96 : Fl RM 96 4 10 := ⟨"DecimalTruthModel", TF4, 19, rfl, by decide, rfl, tu_4, Or.inl (wl (i := 469) rfl rfl)⟩
set_option maxRecDepth 10000 in
theorem cl_Mod_100 : ClV RM 100 ky_Mod_isNothing 2 := ⟨⟨Or.inl (wl (i := 585) rfl rfl), (wl (i := 5) rfl rfl), by decide, by decide, by decide +kernel⟩, (wl (i := 587) rfl rfl), (wp (i := 22) rfl)⟩
set_option maxRecDepth 10000 in
theorem cl_Mod_104 : ClV RM 104 ky_Mod_put 4 := ⟨⟨Or.inl (wl (i := 589) rfl rfl), (wl (i := 5) rfl rfl), by decide, by decide, by decide +kernel⟩, (wl (i := 591) rfl rfl), (wp (i := 23) rfl)⟩
set_option maxRecDepth 10000 in
theorem wk_Mod_108 : Cond.constantLong RM 108 (zj 9007199254740992) ∈ al := wl (i := 593) rfl rfl
set_option maxRecDepth 10000 in
theorem cl_Mod_110 : ClV RM 110 ky_Mod_finds 1 := ⟨⟨Or.inl (wl (i := 581) rfl rfl), (wl (i := 5) rfl rfl), by decide, by decide, by decide +kernel⟩, (wl (i := 583) rfl rfl), (wp (i := 21) rfl)⟩
set_option maxRecDepth 10000 in
theorem wk_Mod_114 : Cond.constantLong RM 114 (zj (-9223372036854775808)) ∈ al := wl (i := 594) rfl rfl
set_option maxRecDepth 10000 in
theorem wk_Mod_116 : Cond.constantLong RM 116 (zj 2) ∈ al := wl (i := 599) rfl rfl
set_option maxRecDepth 10000 in
theorem cl_Mod_118 : ClV RM 118 ky_Mod_exactly 2 := ⟨⟨Or.inl (wl (i := 600) rfl rfl), (wl (i := 5) rfl rfl), by decide, by decide, by decide +kernel⟩, (wl (i := 602) rfl rfl), (wp (i := 24) rfl)⟩
set_option maxRecDepth 10000 in
theorem fl_Mod_122 : Fl RM 122 4 17 := ⟨"DecimalTruthModel", TF4, 19, rfl, by decide, rfl, tu_4, Or.inl (wl (i := 476) rfl rfl)⟩
set_option maxRecDepth 10000 in
theorem fl_Mod_125 : Fl RM 125 4 18 := ⟨"DecimalTruthModel", TF4, 19, rfl, by decide, rfl, tu_4, Or.inl (wl (i := 477) rfl rfl)⟩
set_option maxRecDepth 10000 in
theorem wk_Mod_128 : Cond.constantLong RM 128 (zj 4) ∈ al := wl (i := 604) rfl rfl
set_option maxRecDepth 10000 in
theorem fl_Mod_130 : Fl RM 130 4 15 := ⟨"DecimalTruthModel", TF4, 19, rfl, by decide, rfl, tu_4, Or.inl (wl (i := 474) rfl rfl)⟩
set_option maxRecDepth 10000 in
theorem fl_Mod_133 : Fl RM 133 4 16 := ⟨"DecimalTruthModel", TF4, 19, rfl, by decide, rfl, tu_4, Or.inl (wl (i := 475) rfl rfl)⟩
set_option maxRecDepth 10000 in
theorem cl_Mod_136 : ClV RM 136 ky_Mod_compare 3 := ⟨⟨Or.inl (wl (i := 605) rfl rfl), (wl (i := 5) rfl rfl), by decide, by decide, by decide +kernel⟩, (wl (i := 607) rfl rfl), (wp (i := 25) rfl)⟩
theorem fl_Dec_9 : Fl RD 9 0 0 := ⟨"DecimalTruth$Decimal", TF0, 3, rfl, by decide, rfl, tu_0, Or.inl (wl (i := 31) rfl rfl)⟩
theorem fl_Dec_15 : Fl RD 15 0 1 := ⟨"DecimalTruth$Decimal", TF0, 3, rfl, by decide, rfl, tu_0, Or.inl (wl (i := 34) rfl rfl)⟩
theorem fl_Dec_19 : Fl RD 19 0 2 := ⟨"DecimalTruth$Decimal", TF0, 3, rfl, by decide, rfl, tu_0, Or.inl (wl (i := 37) rfl rfl)⟩
set_option maxRecDepth 10000 in
theorem cl_Dec_22 : Cond.methodLink RD 22 arraycopyName ∈ al := (wl (i := 425) rfl rfl)
theorem cl_Dec_28 : ClV RD 28 ky_Dec_beZero 0 := ⟨⟨Or.inl (wl (i := 309) rfl rfl), (wl (i := 2) rfl rfl), by decide, by decide, by decide +kernel⟩, (wl (i := 290) rfl rfl), (wl (i := 291) rfl rfl)⟩
theorem cl_Dec_31 : ClV RD 31 ky_Dec_goesUpBehind 1 := ⟨⟨Or.inl (wl (i := 310) rfl rfl), (wl (i := 2) rfl rfl), by decide, by decide, by decide +kernel⟩, (wl (i := 311) rfl rfl), (wl (i := 312) rfl rfl)⟩
theorem cl_Dec_35 : ClV RD 35 ky_Dec_settle 1 := ⟨⟨Or.inl (wl (i := 314) rfl rfl), (wl (i := 2) rfl rfl), by decide, by decide, by decide +kernel⟩, (wl (i := 315) rfl rfl), (wl (i := 316) rfl rfl)⟩
theorem cl_Dec_39 : ClV RD 39 ky_Dec_goUp 0 := ⟨⟨Or.inl (wl (i := 318) rfl rfl), (wl (i := 2) rfl rfl), by decide, by decide, by decide +kernel⟩, (wl (i := 320) rfl rfl), (wp (i := 8) rfl)⟩
theorem cl_Dec_42 : ClV RD 42 ky_Dec_dropZerosAtEnd 0 := ⟨⟨Or.inl (wl (i := 239) rfl rfl), (wl (i := 2) rfl rfl), by decide, by decide, by decide +kernel⟩, (wl (i := 241) rfl rfl), (wp (i := 3) rfl)⟩
set_option maxRecDepth 10000 in
theorem cl_Dec_45 : ClS RD 45 ky_JInt_compare 2 := ⟨⟨Or.inl (wl (i := 433) rfl rfl), (wl (i := 14) rfl rfl), by decide, by decide, by decide +kernel⟩, (wl (i := 434) rfl rfl)⟩
set_option maxRecDepth 10000 in
theorem cl_Dec_51 : Cond.methodLink RD 51 Lib.Math.min.name ∈ al := (wl (i := 436) rfl rfl)
theorem cl_Dec_56 : ClV RD 56 ky_Grp_placeOfFirst 0 := ⟨⟨Or.inl (wl (i := 225) rfl rfl), (wl (i := 3) rfl rfl), by decide, by decide, by decide +kernel⟩, (wl (i := 226) rfl rfl), (wl (i := 227) rfl rfl)⟩
theorem fl_Dec_62 : Fl RD 62 1 1 := ⟨"DecimalTruth$Groups", TF1, 3, rfl, by decide, rfl, tu_1, Or.inr ⟨"DecimalTruth", (wn (i := 57) rfl rfl)⟩⟩
theorem fl_Dec_65 : Fl RD 65 1 2 := ⟨"DecimalTruth$Groups", TF1, 3, rfl, by decide, rfl, tu_1, Or.inr ⟨"DecimalTruth", (wn (i := 59) rfl rfl)⟩⟩
theorem fl_Dec_68 : Fl RD 68 1 0 := ⟨"DecimalTruth$Groups", TF1, 3, rfl, by decide, rfl, tu_1, Or.inr ⟨"DecimalTruth", (wn (i := 55) rfl rfl)⟩⟩
theorem cl_Dec_72 : ClV RD 72 ky_Dec_readGroup 1 := ⟨⟨Or.inl (wl (i := 229) rfl rfl), (wl (i := 2) rfl rfl), by decide, by decide, by decide +kernel⟩, (wl (i := 231) rfl rfl), (wp (i := 2) rfl)⟩
theorem wk_Dec_76 : Cond.constantLong RD 76 (zj 100000000) ∈ al := wl (i := 233) rfl rfl
theorem wk_Dec_78 : Cond.constantLong RD 78 (zj 10) ∈ al := wl (i := 234) rfl rfl
theorem cl_Dec_80 : ClV RD 80 ky_Dec_append 1 := ⟨⟨Or.inl (wl (i := 235) rfl rfl), (wl (i := 2) rfl rfl), by decide, by decide, by decide +kernel⟩, (wl (i := 236) rfl rfl), (wl (i := 237) rfl rfl)⟩
theorem fl_Grp_11 : Fl RG 11 1 0 := ⟨"DecimalTruth$Groups", TF1, 3, rfl, by decide, rfl, tu_1, Or.inl (wl (i := 54) rfl rfl)⟩
theorem fl_Grp_15 : Fl RG 15 1 1 := ⟨"DecimalTruth$Groups", TF1, 3, rfl, by decide, rfl, tu_1, Or.inl (wl (i := 56) rfl rfl)⟩
theorem fl_Grp_19 : Fl RG 19 1 2 := ⟨"DecimalTruth$Groups", TF1, 3, rfl, by decide, rfl, tu_1, Or.inl (wl (i := 58) rfl rfl)⟩
theorem cl_Grp_22 : ClS RG 22 ky_JArr_fill 2 := ⟨⟨Or.inl (wl (i := 205) rfl rfl), (wl (i := 11) rfl rfl), by decide, by decide, by decide +kernel⟩, (wl (i := 206) rfl rfl)⟩
theorem wk_Grp_28 : Cond.constantLong RG 28 (zj 1000000000) ∈ al := wl (i := 208) rfl rfl
theorem cl_Grp_30 : Cond.methodLink RG 30 Lib.Math.min.name ∈ al := (wl (i := 209) rfl rfl)
theorem cl_Grp_36 : ClV RG 36 ky_Grp_multiply 2 := ⟨⟨Or.inl (wl (i := 212) rfl rfl), (wl (i := 3) rfl rfl), by decide, by decide, by decide +kernel⟩, (wl (i := 213) rfl rfl), (wl (i := 214) rfl rfl)⟩
theorem cl_Grp_40 : ClV RG 40 ky_Grp_divide 2 := ⟨⟨Or.inl (wl (i := 216) rfl rfl), (wl (i := 3) rfl rfl), by decide, by decide, by decide +kernel⟩, (wl (i := 217) rfl rfl), (wl (i := 218) rfl rfl)⟩
theorem fl_Grp_43 : Fl RG 43 0 2 := ⟨"DecimalTruth$Decimal", TF0, 3, rfl, by decide, rfl, tu_0, Or.inr ⟨"DecimalTruth", (wn (i := 38) rfl rfl)⟩⟩
theorem fl_Grp_48 : Fl RG 48 0 1 := ⟨"DecimalTruth$Decimal", TF0, 3, rfl, by decide, rfl, tu_0, Or.inr ⟨"DecimalTruth", (wn (i := 36) rfl rfl)⟩⟩
theorem fl_Grp_51 : Fl RG 51 0 0 := ⟨"DecimalTruth$Decimal", TF0, 3, rfl, by decide, rfl, tu_0, Or.inr ⟨"DecimalTruth", (wn (i := 32) rfl rfl)⟩⟩
theorem cl_Grp_58 : Cond.methodLink RG 58 Lib.Math.max.name ∈ al := (wl (i := 220) rfl rfl)
theorem fl_Wrd_11 : Fl RW 11 2 0 := ⟨"DecimalTruth$Words", TF2, 2, rfl, by decide, rfl, tu_2, Or.inl (wl (i := 74) rfl rfl)⟩
set_option maxRecDepth 10000 in
theorem cl_Wrd_15 : ClS RW 15 ky_JArr_fill 2 := ⟨⟨Or.inl (wl (i := 352) rfl rfl), (wl (i := 11) rfl rfl), by decide, by decide, by decide +kernel⟩, (wl (i := 206) rfl rfl)⟩
set_option maxRecDepth 10000 in
theorem cl_Wrd_23 : ClV RW 23 ky_Grp_divide 2 := ⟨⟨Or.inl (wl (i := 353) rfl rfl), (wl (i := 3) rfl rfl), by decide, by decide, by decide +kernel⟩, (wl (i := 217) rfl rfl), (wl (i := 218) rfl rfl)⟩
set_option maxRecDepth 10000 in
theorem cl_Wrd_27 : ClV RW 27 ky_Wrd_firstThatIsNotZero 1 := ⟨⟨Or.inl (wl (i := 354) rfl rfl), (wl (i := 4) rfl rfl), by decide, by decide, by decide +kernel⟩, (wl (i := 356) rfl rfl), (wp (i := 10) rfl)⟩
set_option maxRecDepth 10000 in
theorem cl_Wrd_31 : ClV RW 31 ky_Grp_multiply 2 := ⟨⟨Or.inl (wl (i := 358) rfl rfl), (wl (i := 3) rfl rfl), by decide, by decide, by decide +kernel⟩, (wl (i := 213) rfl rfl), (wl (i := 214) rfl rfl)⟩
set_option maxRecDepth 10000 in
theorem cl_Wrd_34 : ClV RW 34 ky_Grp_hasSomethingBehindPoint 0 := ⟨⟨Or.inl (wl (i := 359) rfl rfl), (wl (i := 3) rfl rfl), by decide, by decide, by decide +kernel⟩, (wl (i := 360) rfl rfl), (wl (i := 361) rfl rfl)⟩
theorem fl_Wrd_38 : Fl RW 38 2 1 := ⟨"DecimalTruth$Words", TF2, 2, rfl, by decide, rfl, tu_2, Or.inl (wl (i := 75) rfl rfl)⟩
set_option maxRecDepth 10000 in
theorem cl_Wrd_42 : ClS RW 42 ky_JLon_numberOfLeadingZeros 1 := ⟨⟨Or.inl (wl (i := 367) rfl rfl), (wl (i := 13) rfl rfl), by decide, by decide, by decide +kernel⟩, (wl (i := 368) rfl rfl)⟩
set_option maxRecDepth 10000 in
theorem wk_Wrd_48 : Cond.constantLong RW 48 (zj 9218868437227405312) ∈ al := wl (i := 374) rfl rfl
set_option maxRecDepth 10000 in
theorem cl_Wrd_50 : ClV RW 50 ky_Wrd_isMoreFrom 1 := ⟨⟨Or.inl (wl (i := 375) rfl rfl), (wl (i := 4) rfl rfl), by decide, by decide, by decide +kernel⟩, (wl (i := 377) rfl rfl), (wp (i := 11) rfl)⟩
set_option maxRecDepth 10000 in
theorem cl_Wrd_54 : ClS RW 54 ky_Wrd_roundHead 3 := ⟨⟨Or.inl (wl (i := 379) rfl rfl), (wl (i := 4) rfl rfl), by decide, by decide, by decide +kernel⟩, (wl (i := 380) rfl rfl)⟩
set_option maxRecDepth 10000 in
theorem cl_Wrd_58 : Cond.methodLink RW 58 Lib.Math.max.name ∈ al := (wl (i := 382) rfl rfl)
theorem cl_Law_7 : ClV RL 7 ky_Tru_set 1 := ⟨⟨Or.inl (wl (i := 113) rfl rfl), (wl (i := 1) rfl rfl), by decide, by decide, by decide +kernel⟩, (wl (i := 114) rfl rfl), (wl (i := 115) rfl rfl)⟩
theorem cl_Law_15 : ClV RL 15 ky_Tru_digit 1 := ⟨⟨Or.inl (wl (i := 251) rfl rfl), (wl (i := 1) rfl rfl), by decide, by decide, by decide +kernel⟩, (wl (i := 252) rfl rfl), (wl (i := 253) rfl rfl)⟩
theorem cl_Law_21 : ClV RL 21 ky_Tru_clear 2 := ⟨⟨Or.inl (wl (i := 284) rfl rfl), (wl (i := 1) rfl rfl), by decide, by decide, by decide +kernel⟩, (wl (i := 285) rfl rfl), (wl (i := 286) rfl rfl)⟩
theorem cl_Law_25 : ClV RL 25 ky_Tru_round 1 := ⟨⟨Or.inl (wl (i := 296) rfl rfl), (wl (i := 1) rfl rfl), by decide, by decide, by decide +kernel⟩, (wl (i := 297) rfl rfl), (wl (i := 298) rfl rfl)⟩
theorem cl_Law_28 : ClV RL 28 ky_Tru_places 1 := ⟨⟨Or.inl (wl (i := 325) rfl rfl), (wl (i := 1) rfl rfl), by decide, by decide, by decide +kernel⟩, (wl (i := 326) rfl rfl), (wl (i := 327) rfl rfl)⟩
theorem cl_Law_31 : ClV RL 31 ky_Tru_nearest 0 := ⟨⟨Or.inl (wl (i := 334) rfl rfl), (wl (i := 1) rfl rfl), by decide, by decide, by decide +kernel⟩, (wl (i := 335) rfl rfl), (wl (i := 336) rfl rfl)⟩
set_option maxRecDepth 10000 in
theorem cl_Law_37 : ClV RL 37 ky_Tru_enough 0 := ⟨⟨Or.inl (wl (i := 403) rfl rfl), (wl (i := 1) rfl rfl), by decide, by decide, by decide +kernel⟩, (wl (i := 404) rfl rfl), (wl (i := 405) rfl rfl)⟩
set_option maxRecDepth 10000 in
theorem cl_Law_41 : ClV RL 41 ky_Tru_look 1 := ⟨⟨Or.inl (wl (i := 440) rfl rfl), (wl (i := 1) rfl rfl), by decide, by decide, by decide +kernel⟩, (wl (i := 441) rfl rfl), (wl (i := 442) rfl rfl)⟩
set_option maxRecDepth 10000 in
theorem cl_Law_44 : ClV RL 44 ky_Tru_count 1 := ⟨⟨Or.inl (wl (i := 448) rfl rfl), (wl (i := 1) rfl rfl), by decide, by decide, by decide +kernel⟩, (wl (i := 449) rfl rfl), (wl (i := 450) rfl rfl)⟩
set_option maxRecDepth 10000 in
theorem wk_JInt_264 : Cond.constant "java/lang/Integer" 264 (zi 65536) ∈ al := wl (i := 373) rfl rfl
set_option maxRecDepth 10000 in
theorem cl_JLon_308 : ClS "java/lang/Long" 308 ky_JInt_numberOfLeadingZeros 1 := ⟨⟨Or.inl (wl (i := 370) rfl rfl), (wl (i := 14) rfl rfl), by decide, by decide, by decide +kernel⟩, (wl (i := 371) rfl rfl)⟩
theorem wm_min_c : Cond.code Lib.Math.min.name Lib.Math.min.code 2 (some .int) ∈ al := wl (i := 211) rfl rfl
theorem wm_min_s : Cond.static Lib.Math.min.name ∈ al := (wl (i := 210) rfl rfl)
theorem wm_max_c : Cond.code Lib.Math.max.name Lib.Math.max.code 2 (some .int) ∈ al := wl (i := 196) rfl rfl
theorem wm_max_s : Cond.static Lib.Math.max.name ∈ al := (wl (i := 195) rfl rfl)
theorem wm_init : Cond.initialized "java/lang/Math" ∈ al := (wl (i := 10) rfl rfl)
theorem wa_init : Cond.initialized "java/lang/System" ∈ al := (wl (i := 16) rfl rfl)
set_option maxRecDepth 10000 in
theorem wa_nat : Cond.native arraycopyName ∈ al := (wl (i := 427) rfl rfl)
set_option maxRecDepth 10000 in
theorem wa_sta : Cond.static arraycopyName ∈ al := (wl (i := 426) rfl rfl)
