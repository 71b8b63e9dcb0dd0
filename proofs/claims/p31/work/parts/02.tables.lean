/-! tables: methods (name, code, locals, answer, class, height, parameters, place of its code word) -/
abbrev zMe : Type := MethodName × ByteArray × Nat × Option FieldType × Nat × Nat × Nat × Nat
def zM0 : List zMe := [(yX0_init, cX0_init, 2, none, 0, 4, 0, 134),
  (yX0_keep, cX0_keep, 3, none, 0, 4, 1, 268),
  (yX0_restore, cX0_restore, 3, none, 0, 4, 1, 665),
  (yX0_stateAt, cX0_stateAt, 3, some (.object "SubtitleStyles$Screen"), 0, 0, 1, 272),
  (yX1_init, cX1_init, 6, none, 1, 1, 5, 498),
  (yX1_withStyle, cX1_withStyle, 2, some (.object "SubtitleStyles$Line"), 1, 2, 1, 555),
  (yX1_withMargin, cX1_withMargin, 2, some (.object "SubtitleStyles$Line"), 1, 2, 1, 561),
  (yX1_withText, cX1_withText, 2, some (.object "SubtitleStyles$Line"), 1, 2, 1, 608),
  (yX1_movedBy, cX1_movedBy, 2, some (.object "SubtitleStyles$Line"), 1, 2, 1, 571),
  (yX2_init, cX2_init, 1, none, 2, 2, 0, 161),
  (yX2_read, cX2_read, 7, none, 2, 4, 2, 317),
  (yX2_holdStyle, cX2_holdStyle, 4, none, 2, 3, 2, 339),
  (yX2_addSign, cX2_addSign, 5, none, 2, 1, 1, 345),
  (yX2_addSyllable, cX2_addSyllable, 3, none, 2, 1, 1, 352),
  (yX2_hasSign, cX2_hasSign, 2, some .boolean, 2, 0, 1, 695),
  (yX2_signNumber, cX2_signNumber, 3, some .int, 2, 1, 2, 642),
  (yX2_hasSyllable, cX2_hasSyllable, 2, some .boolean, 2, 0, 1, 588),
  (yX2_syllableNumber, cX2_syllableNumber, 3, some .int, 2, 1, 2, 592),
  (yX2_isShownAt, cX2_isShownAt, 2, some .boolean, 2, 0, 1, 625),
  (yX2_isSungAt, cX2_isSungAt, 4, some .boolean, 2, 2, 2, 638),
  (yX2_countSungAt, cX2_countSungAt, 4, some .int, 2, 3, 1, 634),
  (yX2_countUnlike, cX2_countUnlike, 4, some .int, 2, 3, 1, 653),
  (yX2_isUnlike, cX2_isUnlike, 5, some .boolean, 2, 2, 2, 657),
  (yX2_blocks, cX2_blocks, 3, some .boolean, 2, 0, 2, 373),
  (yX2_isAheadOf, cX2_isAheadOf, 2, some .boolean, 2, 0, 1, 747)]
def zM1 : List zMe := [(yX3_init, cX3_init, 2, none, 3, 3, 0, 154),
  (yX3_draw, cX3_draw, 5, none, 3, 5, 1, 308),
  (yX3_lookAt, cX3_lookAt, 2, some (.object "SubtitleStyles$Look"), 3, 0, 1, 313),
  (yX3_beginOf, cX3_beginOf, 3, some .int, 3, 1, 1, 364),
  (yX3_sortByBeginnings, cX3_sortByBeginnings, 3, none, 3, 2, 0, 359),
  (yX3_freeOffset, cX3_freeOffset, 7, some .int, 3, 1, 2, 369),
  (yX3_isShownAt, cX3_isShownAt, 4, some .boolean, 3, 1, 2, 621),
  (yX3_countShownAt, cX3_countShownAt, 4, some .int, 3, 2, 1, 617),
  (yX3_countAhead, cX3_countAhead, 5, some .int, 3, 2, 2, 739),
  (yX3_comesBefore, cX3_comesBefore, 5, some .boolean, 3, 1, 2, 743),
  (yX4_init, cX4_init, 1, none, 4, 2, 0, 52),
  (yX4_read, cX4_read, 4, some .int, 4, 4, 2, 443),
  (yX4_take, cX4_take, 3, none, 4, 3, 2, 448),
  (yX4_takeOutside, cX4_takeOutside, 2, none, 4, 2, 1, 452),
  (yX4_takeLetter, cX4_takeLetter, 3, none, 4, 1, 2, 461),
  (yX4_closeTag, cX4_closeTag, 2, none, 4, 2, 1, 466),
  (yX4_isInRange, cX4_isInRange, 1, some .boolean, 4, 1, 0, 470),
  (yX4_addItem, cX4_addItem, 3, none, 4, 1, 2, 456),
  (yX5_init, cX5_init, 2, none, 5, 1, 1, 41),
  (yX5_get, cX5_get, 2, some .int, 5, 0, 1, 288),
  (yX5_set, cX5_set, 3, none, 5, 0, 2, 300),
  (yX5_copy, cX5_copy, 3, none, 5, 1, 1, 284),
  (yX6_init, cX6_init, 1, none, 6, 3, 0, 88),
  (yX6_copy, cX6_copy, 3, none, 6, 3, 1, 276),
  (yX6_lineAt, cX6_lineAt, 2, some (.object "SubtitleStyles$Line"), 6, 0, 1, 292)]
def zM2 : List zMe := [(yX6_putLine, cX6_putLine, 3, none, 6, 0, 2, 534),
  (yX6_addLine, cX6_addLine, 2, none, 6, 1, 1, 530),
  (yX6_dropLine, cX6_dropLine, 3, none, 6, 1, 1, 543),
  (yX6_hasLineOfStyle, cX6_hasLineOfStyle, 4, some .boolean, 6, 1, 1, 756),
  (yX7_init, cX7_init, 1, none, 7, 2, 0, 94),
  (yX7_copy, cX7_copy, 2, none, 7, 2, 1, 280),
  (yX7_has, cX7_has, 2, some .boolean, 7, 0, 1, 264),
  (yX7_hasOrNothing, cX7_hasOrNothing, 2, some .boolean, 7, 1, 1, 260),
  (yX7_add, cX7_add, 3, none, 7, 2, 1, 296),
  (yX7_dropLast, cX7_dropLast, 1, none, 7, 0, 0, 760),
  (yX7_ownValue, cX7_ownValue, 3, some .int, 7, 1, 2, 335),
  (yX7_setOwnValue, cX7_setOwnValue, 4, none, 7, 1, 3, 304),
  (yX7_sourceOf, cX7_sourceOf, 5, some .int, 7, 1, 2, 325),
  (yX7_valueIn, cX7_valueIn, 4, some .int, 7, 2, 2, 321),
  (yX7_leadsTo, cX7_leadsTo, 5, some .boolean, 7, 1, 2, 382),
  (yX7_ancestorsOf, cX7_ancestorsOf, 5, some .int, 7, 1, 1, 417),
  (yX7_childrenOf, cX7_childrenOf, 4, some .int, 7, 1, 1, 421),
  (yX7_makeFlat, cX7_makeFlat, 4, some .int, 7, 3, 0, 408),
  (yX8_init, cX8_init, 4, none, 8, 2, 3, 476),
  (yX8_withLastSyllable, cX8_withLastSyllable, 4, some (.object "SubtitleStyles$Text"), 8, 3, 1, 600),
  (yX9_init, cX9_init, 1, none, 9, 5, 0, 33),
  (yX9_style, cX9_style, 3, some .int, 9, 6, 1, 256),
  (yX9_setParent, cX9_setParent, 5, some .int, 9, 6, 2, 377),
  (yX9_setStyle, cX9_setStyle, 6, some .int, 9, 6, 3, 388),
  (yX9_unstyle, cX9_unstyle, 3, some .int, 9, 6, 0, 752)]
def zM3 : List zMe := [(yX9_flatten, cX9_flatten, 2, some .int, 9, 6, 0, 404),
  (yX9_styleAt, cX9_styleAt, 4, some .int, 9, 2, 2, 413),
  (yX9_valueOf, cX9_valueOf, 3, some .int, 9, 3, 2, 425),
  (yX9_from, cX9_from, 3, some .int, 9, 2, 2, 714),
  (yX9_styles, cX9_styles, 1, some .int, 9, 0, 0, 430),
  (yX9_type, cX9_type, 2, some .int, 9, 1, 1, 719),
  (yX9_clear, cX9_clear, 2, some .int, 9, 0, 0, 434),
  (yX9_line, cX9_line, 6, some .int, 9, 6, 3, 438),
  (yX9_remove, cX9_remove, 2, some .int, 9, 6, 1, 538),
  (yX9_change, cX9_change, 5, some .int, 9, 6, 3, 547),
  (yX9_isChange, cX9_isChange, 3, some .boolean, 9, 2, 2, 551),
  (yX9_shift, cX9_shift, 4, some .int, 9, 6, 2, 566),
  (yX9_setHeight, cX9_setHeight, 3, some .int, 9, 5, 1, 724),
  (yX9_about, cX9_about, 5, some .int, 9, 1, 2, 575),
  (yX9_lines, cX9_lines, 1, some .int, 9, 0, 0, 580),
  (yX9_sign, cX9_sign, 5, some .int, 9, 2, 3, 691),
  (yX9_syllable, cX9_syllable, 5, some .int, 9, 2, 3, 584),
  (yX9_fit, cX9_fit, 7, some .int, 9, 6, 1, 596),
  (yX9_shows, cX9_shows, 6, some .int, 9, 3, 3, 729),
  (yX9_shown, cX9_shown, 4, some .int, 9, 3, 2, 734),
  (yX9_crowd, cX9_crowd, 6, some .int, 9, 3, 0, 612),
  (yX9_sung, cX9_sung, 6, some .float, 9, 4, 1, 629),
  (yX9_unlike, cX9_unlike, 5, some .int, 9, 5, 0, 647),
  (yX9_undo, cX9_undo, 1, some .int, 9, 6, 0, 661),
  (yX9_fingerprint, cX9_fingerprint, 4, some .long, 9, 6, 0, 669)]
def zM4 : List zMe := [(yX9_mix, cX9_mix, 3, some .long, 9, 0, 2, 674),
  (yX9_mixStyle, cX9_mixStyle, 7, some .long, 9, 4, 2, 679),
  (yX9_mixLine, cX9_mixLine, 10, some .long, 9, 3, 2, 686),
  (yX9_isProperty, cX9_isProperty, 1, some .boolean, 9, 0, 1, 391),
  (yX9_allows, cX9_allows, 2, some .boolean, 9, 0, 2, 394),
  (yX9_basicValue, cX9_basicValue, 1, some .int, 9, 0, 1, 329),
  (yX9_propertyOfTag, cX9_propertyOfTag, 1, some .int, 9, 0, 1, 355),
  (yL_cell, cL_cell, 2, some .int, 11, 0, 2, 702),
  (yL_up, cL_up, 2, some .int, 11, 0, 2, 706),
  (yL_fails, cL_fails, 6, some .boolean, 11, 7, 1, 710),
  (yL_basic, cL_basic, 1, some .int, 11, 0, 1, 766),
  (yL_styles, cL_styles, 8, some .boolean, 11, 7, 1, 763),
  (yL_line, cL_line, 21, some .boolean, 11, 7, 2, 769),
  (yL_shown, cL_shown, 9, some .boolean, 11, 7, 2, 772),
  (yL_flattens, cL_flattens, 7, some .boolean, 11, 7, 1, 775),
  (yL_types, cL_types, 9, some .int, 11, 7, 3, 778),
  (yL_law, cL_law, 17, some .boolean, 11, 9, 1, 0)]
def zM : List zMe := zM0 ++ (zM1 ++ (zM2 ++ (zM3 ++ (zM4))))
def zm (j : Nat) : zMe := (zM[j]?).getD (yX0_init, cX0_init, 0, none, 0, 0, 0, 0)
def mY (j : Nat) : MethodName := (zm j).1
def mC (j : Nat) : ByteArray := (zm j).2.1
def mL (j : Nat) : Nat := (zm j).2.2.1
def mT (j : Nat) : Option FieldType := (zm j).2.2.2.1
def mK (j : Nat) : Nat := (zm j).2.2.2.2.1
def mH (j : Nat) : Nat := (zm j).2.2.2.2.2.1
def mN (j : Nat) : Nat := (zm j).2.2.2.2.2.2.1
def mP (j : Nat) : Nat := (zm j).2.2.2.2.2.2.2
abbrev jX0_init : Nat := 0
abbrev jX0_keep : Nat := 1
abbrev jX0_restore : Nat := 2
abbrev jX0_stateAt : Nat := 3
abbrev jX1_init : Nat := 4
abbrev jX1_withStyle : Nat := 5
abbrev jX1_withMargin : Nat := 6
abbrev jX1_withText : Nat := 7
abbrev jX1_movedBy : Nat := 8
abbrev jX2_init : Nat := 9
abbrev jX2_read : Nat := 10
abbrev jX2_holdStyle : Nat := 11
abbrev jX2_addSign : Nat := 12
abbrev jX2_addSyllable : Nat := 13
abbrev jX2_hasSign : Nat := 14
abbrev jX2_signNumber : Nat := 15
abbrev jX2_hasSyllable : Nat := 16
abbrev jX2_syllableNumber : Nat := 17
abbrev jX2_isShownAt : Nat := 18
abbrev jX2_isSungAt : Nat := 19
abbrev jX2_countSungAt : Nat := 20
abbrev jX2_countUnlike : Nat := 21
abbrev jX2_isUnlike : Nat := 22
abbrev jX2_blocks : Nat := 23
abbrev jX2_isAheadOf : Nat := 24
abbrev jX3_init : Nat := 25
abbrev jX3_draw : Nat := 26
abbrev jX3_lookAt : Nat := 27
abbrev jX3_beginOf : Nat := 28
abbrev jX3_sortByBeginnings : Nat := 29
abbrev jX3_freeOffset : Nat := 30
abbrev jX3_isShownAt : Nat := 31
abbrev jX3_countShownAt : Nat := 32
abbrev jX3_countAhead : Nat := 33
abbrev jX3_comesBefore : Nat := 34
abbrev jX4_init : Nat := 35
abbrev jX4_read : Nat := 36
abbrev jX4_take : Nat := 37
abbrev jX4_takeOutside : Nat := 38
abbrev jX4_takeLetter : Nat := 39
abbrev jX4_closeTag : Nat := 40
abbrev jX4_isInRange : Nat := 41
abbrev jX4_addItem : Nat := 42
abbrev jX5_init : Nat := 43
abbrev jX5_get : Nat := 44
abbrev jX5_set : Nat := 45
abbrev jX5_copy : Nat := 46
abbrev jX6_init : Nat := 47
abbrev jX6_copy : Nat := 48
abbrev jX6_lineAt : Nat := 49
abbrev jX6_putLine : Nat := 50
abbrev jX6_addLine : Nat := 51
abbrev jX6_dropLine : Nat := 52
abbrev jX6_hasLineOfStyle : Nat := 53
abbrev jX7_init : Nat := 54
abbrev jX7_copy : Nat := 55
abbrev jX7_has : Nat := 56
abbrev jX7_hasOrNothing : Nat := 57
abbrev jX7_add : Nat := 58
abbrev jX7_dropLast : Nat := 59
abbrev jX7_ownValue : Nat := 60
abbrev jX7_setOwnValue : Nat := 61
abbrev jX7_sourceOf : Nat := 62
abbrev jX7_valueIn : Nat := 63
abbrev jX7_leadsTo : Nat := 64
abbrev jX7_ancestorsOf : Nat := 65
abbrev jX7_childrenOf : Nat := 66
abbrev jX7_makeFlat : Nat := 67
abbrev jX8_init : Nat := 68
abbrev jX8_withLastSyllable : Nat := 69
abbrev jX9_init : Nat := 70
abbrev jX9_style : Nat := 71
abbrev jX9_setParent : Nat := 72
abbrev jX9_setStyle : Nat := 73
abbrev jX9_unstyle : Nat := 74
abbrev jX9_flatten : Nat := 75
abbrev jX9_styleAt : Nat := 76
abbrev jX9_valueOf : Nat := 77
abbrev jX9_from : Nat := 78
abbrev jX9_styles : Nat := 79
abbrev jX9_type : Nat := 80
abbrev jX9_clear : Nat := 81
abbrev jX9_line : Nat := 82
abbrev jX9_remove : Nat := 83
abbrev jX9_change : Nat := 84
abbrev jX9_isChange : Nat := 85
abbrev jX9_shift : Nat := 86
abbrev jX9_setHeight : Nat := 87
abbrev jX9_about : Nat := 88
abbrev jX9_lines : Nat := 89
abbrev jX9_sign : Nat := 90
abbrev jX9_syllable : Nat := 91
abbrev jX9_fit : Nat := 92
abbrev jX9_shows : Nat := 93
abbrev jX9_shown : Nat := 94
abbrev jX9_crowd : Nat := 95
abbrev jX9_sung : Nat := 96
abbrev jX9_unlike : Nat := 97
abbrev jX9_undo : Nat := 98
abbrev jX9_fingerprint : Nat := 99
abbrev jX9_mix : Nat := 100
abbrev jX9_mixStyle : Nat := 101
abbrev jX9_mixLine : Nat := 102
abbrev jX9_isProperty : Nat := 103
abbrev jX9_allows : Nat := 104
abbrev jX9_basicValue : Nat := 105
abbrev jX9_propertyOfTag : Nat := 106
abbrev jL_cell : Nat := 107
abbrev jL_up : Nat := 108
abbrev jL_fails : Nat := 109
abbrev jL_basic : Nat := 110
abbrev jL_styles : Nat := 111
abbrev jL_line : Nat := 112
abbrev jL_shown : Nat := 113
abbrev jL_flattens : Nat := 114
abbrev jL_types : Nat := 115
abbrev jL_law : Nat := 116
theorem mCX0_init : mC 0 = cX0_init := rfl
theorem mCX0_keep : mC 1 = cX0_keep := rfl
theorem mCX0_restore : mC 2 = cX0_restore := rfl
theorem mCX0_stateAt : mC 3 = cX0_stateAt := rfl
theorem mCX1_init : mC 4 = cX1_init := rfl
theorem mCX1_withStyle : mC 5 = cX1_withStyle := rfl
theorem mCX1_withMargin : mC 6 = cX1_withMargin := rfl
theorem mCX1_withText : mC 7 = cX1_withText := rfl
theorem mCX1_movedBy : mC 8 = cX1_movedBy := rfl
theorem mCX2_init : mC 9 = cX2_init := rfl
theorem mCX2_read : mC 10 = cX2_read := rfl
theorem mCX2_holdStyle : mC 11 = cX2_holdStyle := rfl
theorem mCX2_addSign : mC 12 = cX2_addSign := rfl
theorem mCX2_addSyllable : mC 13 = cX2_addSyllable := rfl
theorem mCX2_hasSign : mC 14 = cX2_hasSign := rfl
theorem mCX2_signNumber : mC 15 = cX2_signNumber := rfl
theorem mCX2_hasSyllable : mC 16 = cX2_hasSyllable := rfl
theorem mCX2_syllableNumber : mC 17 = cX2_syllableNumber := rfl
theorem mCX2_isShownAt : mC 18 = cX2_isShownAt := rfl
theorem mCX2_isSungAt : mC 19 = cX2_isSungAt := rfl
theorem mCX2_countSungAt : mC 20 = cX2_countSungAt := rfl
theorem mCX2_countUnlike : mC 21 = cX2_countUnlike := rfl
theorem mCX2_isUnlike : mC 22 = cX2_isUnlike := rfl
theorem mCX2_blocks : mC 23 = cX2_blocks := rfl
theorem mCX2_isAheadOf : mC 24 = cX2_isAheadOf := rfl
theorem mCX3_init : mC 25 = cX3_init := rfl
theorem mCX3_draw : mC 26 = cX3_draw := rfl
theorem mCX3_lookAt : mC 27 = cX3_lookAt := rfl
theorem mCX3_beginOf : mC 28 = cX3_beginOf := rfl
theorem mCX3_sortByBeginnings : mC 29 = cX3_sortByBeginnings := rfl
theorem mCX3_freeOffset : mC 30 = cX3_freeOffset := rfl
theorem mCX3_isShownAt : mC 31 = cX3_isShownAt := rfl
theorem mCX3_countShownAt : mC 32 = cX3_countShownAt := rfl
theorem mCX3_countAhead : mC 33 = cX3_countAhead := rfl
theorem mCX3_comesBefore : mC 34 = cX3_comesBefore := rfl
theorem mCX4_init : mC 35 = cX4_init := rfl
theorem mCX4_read : mC 36 = cX4_read := rfl
theorem mCX4_take : mC 37 = cX4_take := rfl
theorem mCX4_takeOutside : mC 38 = cX4_takeOutside := rfl
theorem mCX4_takeLetter : mC 39 = cX4_takeLetter := rfl
theorem mCX4_closeTag : mC 40 = cX4_closeTag := rfl
theorem mCX4_isInRange : mC 41 = cX4_isInRange := rfl
theorem mCX4_addItem : mC 42 = cX4_addItem := rfl
theorem mCX5_init : mC 43 = cX5_init := rfl
theorem mCX5_get : mC 44 = cX5_get := rfl
theorem mCX5_set : mC 45 = cX5_set := rfl
theorem mCX5_copy : mC 46 = cX5_copy := rfl
theorem mCX6_init : mC 47 = cX6_init := rfl
theorem mCX6_copy : mC 48 = cX6_copy := rfl
theorem mCX6_lineAt : mC 49 = cX6_lineAt := rfl
theorem mCX6_putLine : mC 50 = cX6_putLine := rfl
theorem mCX6_addLine : mC 51 = cX6_addLine := rfl
theorem mCX6_dropLine : mC 52 = cX6_dropLine := rfl
theorem mCX6_hasLineOfStyle : mC 53 = cX6_hasLineOfStyle := rfl
theorem mCX7_init : mC 54 = cX7_init := rfl
theorem mCX7_copy : mC 55 = cX7_copy := rfl
theorem mCX7_has : mC 56 = cX7_has := rfl
theorem mCX7_hasOrNothing : mC 57 = cX7_hasOrNothing := rfl
theorem mCX7_add : mC 58 = cX7_add := rfl
theorem mCX7_dropLast : mC 59 = cX7_dropLast := rfl
theorem mCX7_ownValue : mC 60 = cX7_ownValue := rfl
theorem mCX7_setOwnValue : mC 61 = cX7_setOwnValue := rfl
theorem mCX7_sourceOf : mC 62 = cX7_sourceOf := rfl
theorem mCX7_valueIn : mC 63 = cX7_valueIn := rfl
theorem mCX7_leadsTo : mC 64 = cX7_leadsTo := rfl
theorem mCX7_ancestorsOf : mC 65 = cX7_ancestorsOf := rfl
theorem mCX7_childrenOf : mC 66 = cX7_childrenOf := rfl
theorem mCX7_makeFlat : mC 67 = cX7_makeFlat := rfl
theorem mCX8_init : mC 68 = cX8_init := rfl
theorem mCX8_withLastSyllable : mC 69 = cX8_withLastSyllable := rfl
theorem mCX9_init : mC 70 = cX9_init := rfl
theorem mCX9_style : mC 71 = cX9_style := rfl
theorem mCX9_setParent : mC 72 = cX9_setParent := rfl
theorem mCX9_setStyle : mC 73 = cX9_setStyle := rfl
theorem mCX9_unstyle : mC 74 = cX9_unstyle := rfl
theorem mCX9_flatten : mC 75 = cX9_flatten := rfl
theorem mCX9_styleAt : mC 76 = cX9_styleAt := rfl
theorem mCX9_valueOf : mC 77 = cX9_valueOf := rfl
theorem mCX9_from : mC 78 = cX9_from := rfl
theorem mCX9_styles : mC 79 = cX9_styles := rfl
theorem mCX9_type : mC 80 = cX9_type := rfl
theorem mCX9_clear : mC 81 = cX9_clear := rfl
theorem mCX9_line : mC 82 = cX9_line := rfl
theorem mCX9_remove : mC 83 = cX9_remove := rfl
theorem mCX9_change : mC 84 = cX9_change := rfl
theorem mCX9_isChange : mC 85 = cX9_isChange := rfl
theorem mCX9_shift : mC 86 = cX9_shift := rfl
theorem mCX9_setHeight : mC 87 = cX9_setHeight := rfl
theorem mCX9_about : mC 88 = cX9_about := rfl
theorem mCX9_lines : mC 89 = cX9_lines := rfl
theorem mCX9_sign : mC 90 = cX9_sign := rfl
theorem mCX9_syllable : mC 91 = cX9_syllable := rfl
theorem mCX9_fit : mC 92 = cX9_fit := rfl
theorem mCX9_shows : mC 93 = cX9_shows := rfl
theorem mCX9_shown : mC 94 = cX9_shown := rfl
theorem mCX9_crowd : mC 95 = cX9_crowd := rfl
theorem mCX9_sung : mC 96 = cX9_sung := rfl
theorem mCX9_unlike : mC 97 = cX9_unlike := rfl
theorem mCX9_undo : mC 98 = cX9_undo := rfl
theorem mCX9_fingerprint : mC 99 = cX9_fingerprint := rfl
theorem mCX9_mix : mC 100 = cX9_mix := rfl
theorem mCX9_mixStyle : mC 101 = cX9_mixStyle := rfl
theorem mCX9_mixLine : mC 102 = cX9_mixLine := rfl
theorem mCX9_isProperty : mC 103 = cX9_isProperty := rfl
theorem mCX9_allows : mC 104 = cX9_allows := rfl
theorem mCX9_basicValue : mC 105 = cX9_basicValue := rfl
theorem mCX9_propertyOfTag : mC 106 = cX9_propertyOfTag := rfl
theorem mCL_cell : mC 107 = cL_cell := rfl
theorem mCL_up : mC 108 = cL_up := rfl
theorem mCL_fails : mC 109 = cL_fails := rfl
theorem mCL_basic : mC 110 = cL_basic := rfl
theorem mCL_styles : mC 111 = cL_styles := rfl
theorem mCL_line : mC 112 = cL_line := rfl
theorem mCL_shown : mC 113 = cL_shown := rfl
theorem mCL_flattens : mC 114 = cL_flattens := rfl
theorem mCL_types : mC 115 = cL_types := rfl
theorem mCL_law : mC 116 = cL_law := rfl
def zR (ci : Nat) : String := if Nat.beq ci 11 then RL else ((vwCl[ci]?).getD (RX0, TX0, 3)).1
def zT (ci : Nat) : u_T := ((vwCl[ci]?).getD (RX0, TX0, 3)).2.1
def zN (ci : Nat) : Nat := ((vwCl[ci]?).getD (RX0, TX0, 3)).2.2
def zty (ci : Nat) : Nat → FieldType := match ci with
  | 0 => tyX0
  | 1 => tyX1
  | 2 => tyX2
  | 3 => tyX3
  | 4 => tyX4
  | 5 => tyX5
  | 6 => tyX6
  | 7 => tyX7
  | 8 => tyX8
  | 9 => tyX9
  | _ => tyX9
def zgood (w : Cond) : Bool := goodWord w
def zW : List Cond := lw_tbl.filter goodWord
def zisN : Cond → Bool
  | .fieldLinkNest .. => true
  | .methodLinkNest .. => true
  | _ => false
def zNest : List Cond := lw_tbl.filter zisN
/-! fields: own class, pool place, class, field, nest mate, place of its word -/
def zF : List (Nat × Nat × Nat × Nat × Bool × Nat) := [(9, 14, 9, 0, false, 228), (9, 18, 9, 1, false, 229), (9, 25, 9, 2, false, 230), (9, 32, 9, 3, false, 231), (9, 39, 9, 4, false, 232), (9, 46, 9, 5, false, 233), (9, 53, 9, 6, false, 234), (9, 60, 9, 7, false, 235), (9, 64, 6, 0, true, 113), (9, 71, 7, 0, true, 99), (9, 91, 7, 1, true, 101), (9, 139, 6, 2, true, 118), (9, 146, 4, 0, true, 57), (9, 149, 4, 1, true, 59), (9, 152, 4, 2, true, 61), (9, 187, 1, 2, true, 509), (9, 190, 1, 3, true, 512), (9, 194, 1, 0, true, 502), (9, 197, 1, 1, true, 505), (9, 203, 6, 3, true, 120), (9, 210, 2, 6, true, 179), (9, 213, 2, 8, true, 182), (9, 216, 2, 10, true, 185), (9, 219, 2, 4, true, 174), (9, 220, 2, 5, true, 177), (9, 223, 2, 2, true, 169), (9, 238, 1, 4, true, 515), (9, 281, 0, 2, true, 142), (0, 11, 0, 0, false, 139), (0, 18, 0, 1, false, 140), (0, 22, 0, 2, false, 141), (1, 7, 1, 0, false, 500), (1, 13, 1, 1, false, 503), (1, 16, 1, 2, false, 506), (1, 19, 1, 3, false, 510), (1, 22, 1, 4, false, 513), (2, 14, 2, 7, false, 180), (2, 20, 2, 9, false, 183), (2, 23, 2, 11, false, 186), (2, 26, 1, 0, true, 501), (2, 32, 2, 0, false, 165), (2, 33, 1, 1, true, 504), (2, 36, 2, 1, false, 167), (2, 37, 1, 2, true, 507), (2, 46, 2, 2, false, 168), (2, 49, 1, 3, true, 511), (2, 52, 2, 3, false, 170), (2, 53, 2, 6, false, 178), (2, 56, 2, 8, false, 181), (2, 59, 2, 10, false, 184), (2, 62, 2, 4, false, 172), (2, 69, 1, 4, true, 514), (2, 73, 8, 0, true, 482), (2, 78, 8, 1, true, 484), (2, 85, 8, 2, true, 486), (2, 120, 2, 5, false, 176), (3, 11, 3, 0, false, 214), (3, 18, 3, 1, false, 215), (3, 27, 3, 2, false, 216), (3, 31, 6, 2, true, 117), (3, 42, 6, 0, true, 114), (3, 61, 2, 5, true, 175), (3, 64, 2, 0, true, 166), (3, 74, 2, 3, true, 171), (3, 81, 2, 4, true, 173), (4, 14, 4, 0, false, 56), (4, 20, 4, 1, false, 58), (4, 23, 4, 2, false, 60), (4, 27, 4, 3, false, 62), (4, 30, 4, 4, false, 63), (4, 33, 4, 5, false, 64), (4, 50, 4, 6, false, 65), (4, 53, 4, 7, false, 66), (5, 7, 5, 0, false, 43), (6, 12, 6, 0, false, 112), (6, 20, 6, 1, false, 115), (6, 24, 6, 2, false, 116), (6, 28, 6, 3, false, 119), (6, 43, 1, 2, true, 508), (7, 9, 7, 0, false, 98), (7, 20, 7, 1, false, 100), (7, 24, 7, 2, false, 102), (8, 9, 8, 0, false, 481), (8, 20, 8, 1, false, 483), (8, 24, 8, 2, false, 485)]
def zfld (own idx : Nat) : Option (Nat × Nat) := (zF.find? (fun q => Nat.beq q.1 own && Nat.beq q.2.1 idx)).map (fun q => (q.2.2.1, q.2.2.2.1))
def zFw (q : Nat × Nat × Nat × Nat × Bool × Nat) : Cond := if q.2.2.2.2.1 then .fieldLinkNest (zR q.1) q.2.1 (zR q.2.2.1) (zT q.2.2.1 q.2.2.2.1).2.1 (zT q.2.2.1 q.2.2.2.1).2.2.1 "SubtitleStyles" else .fieldLink (zR q.1) q.2.1 (zR q.2.2.1) (zT q.2.2.1 q.2.2.2.1).2.1 (zT q.2.2.1 q.2.2.2.1).2.2.1
theorem zF_ok : zF.all (fun q => decide (lw_tbl[q.2.2.2.2.2]? = some (zFw q)) && Nat.blt q.2.2.2.1 (zN q.2.2.1) && Nat.blt q.2.2.1 11 && decide ((zT q.2.2.1 q.2.2.2.1).1 = zR q.2.2.1) && (!(Nat.beq q.1 q.2.2.1) || !q.2.2.2.2.1)) = true := by decide +kernel
/-! calls: own class, pool place, method, kind (0 virtual, 1 constructor, 2 static, 3 static of a nest mate), places of its words -/
def zCl : List (Nat × Nat × Nat × Nat × List Nat) := [(9, 11, 43, 1, [39, 19, 40]), (9, 24, 35, 1, [50, 20, 51]), (9, 31, 47, 1, [86, 21, 87]), (9, 38, 0, 1, [132, 23, 133]), (9, 45, 25, 1, [152, 24, 153]), (9, 52, 54, 1, [225, 22, 93]), (9, 59, 9, 1, [227, 25, 160]), (9, 67, 57, 0, [257, 22, 258, 259]), (9, 74, 1, 0, [265, 23, 266, 267]), (9, 78, 58, 0, [293, 22, 294, 295]), (9, 81, 26, 0, [305, 24, 306, 307]), (9, 84, 56, 0, [378, 22, 262, 263]), (9, 87, 64, 0, [379, 22, 380, 381]), (9, 94, 44, 0, [383, 19, 286, 287]), (9, 98, 45, 0, [384, 19, 298, 299]), (9, 102, 103, 2, [389, 18, 390]), (9, 105, 104, 2, [392, 18, 393]), (9, 108, 60, 0, [399, 22, 333, 334]), (9, 112, 61, 0, [400, 22, 302, 303]), (9, 116, 66, 0, [418, 22, 419, 420]), (9, 119, 53, 0, [753, 21, 754, 755]), (9, 122, 59, 0, [757, 22, 758, 759]), (9, 125, 67, 0, [405, 22, 406, 407]), (9, 129, 65, 0, [414, 22, 415, 416]), (9, 132, 63, 0, [426, 22, 319, 320]), (9, 135, 62, 0, [715, 22, 323, 324]), (9, 140, 36, 0, [440, 20, 441, 442]), (9, 155, 68, 1, [474, 27, 475]), (9, 160, 4, 1, [496, 28, 497]), (9, 163, 51, 0, [527, 21, 528, 529]), (9, 167, 49, 0, [539, 21, 290, 291]), (9, 171, 52, 0, [540, 21, 541, 542]), (9, 174, 85, 0, [548, 18, 550, 12]), (9, 177, 5, 0, [552, 28, 553, 554]), (9, 180, 6, 0, [558, 28, 559, 560]), (9, 183, 50, 0, [562, 21, 532, 533]), (9, 200, 8, 0, [568, 28, 569, 570]), (9, 206, 27, 0, [576, 24, 311, 312]), (9, 226, 14, 0, [692, 25, 693, 694]), (9, 229, 15, 0, [696, 25, 640, 641]), (9, 232, 16, 0, [585, 25, 586, 587]), (9, 235, 17, 0, [589, 25, 590, 591]), (9, 242, 69, 0, [597, 27, 598, 599]), (9, 246, 7, 0, [605, 28, 606, 607]), (9, 250, 18, 0, [630, 25, 623, 624]), (9, 253, 19, 0, [730, 25, 636, 637]), (9, 256, 31, 0, [735, 24, 619, 620]), (9, 258, 33, 0, [736, 24, 737, 738]), (9, 261, 28, 0, [613, 24, 362, 363]), (9, 264, 32, 0, [614, 24, 615, 616]), (9, 267, 20, 0, [631, 25, 632, 633]), (9, 270, 55, 0, [648, 22, 278, 279]), (9, 274, 10, 0, [649, 25, 315, 316]), (9, 277, 21, 0, [650, 25, 651, 652]), (9, 282, 2, 0, [662, 23, 663, 664]), (9, 287, 79, 0, [671, 18, 428, 429]), (9, 290, 100, 2, [672, 18, 673]), (9, 294, 101, 0, [676, 18, 678, 14]), (9, 297, 89, 0, [682, 18, 578, 579]), (9, 300, 102, 0, [683, 18, 685, 15]), (9, 303, 95, 0, [698, 18, 610, 611]), (9, 306, 97, 0, [699, 18, 645, 646]), (9, 311, 76, 0, [680, 18, 411, 412]), (9, 314, 77, 0, [681, 18, 423, 424]), (9, 317, 88, 0, [687, 18, 573, 574]), (9, 320, 90, 0, [688, 18, 689, 690]), (9, 324, 91, 0, [697, 18, 582, 583]), (0, 17, 47, 1, [138, 21, 87]), (0, 25, 3, 0, [269, 23, 271, 0]), (0, 29, 48, 0, [273, 21, 274, 275]), (1, 26, 4, 1, [557, 28, 497]), (2, 11, 43, 1, [164, 19, 40]), (2, 40, 63, 0, [318, 22, 319, 320]), (2, 65, 11, 0, [336, 25, 338, 1]), (2, 81, 44, 0, [341, 19, 286, 287]), (2, 88, 12, 0, [342, 25, 344, 2]), (2, 91, 13, 0, [349, 25, 351, 3]), (2, 94, 106, 3, [353, 18, 354]), (2, 97, 45, 0, [340, 19, 298, 299]), (2, 106, 15, 0, [639, 25, 640, 641]), (2, 109, 17, 0, [643, 25, 590, 591]), (2, 112, 19, 0, [635, 25, 636, 637]), (2, 116, 22, 0, [654, 25, 656, 13]), (3, 17, 9, 1, [159, 25, 160]), (3, 24, 43, 1, [213, 19, 40]), (3, 34, 49, 0, [309, 21, 290, 291]), (3, 38, 27, 0, [310, 24, 311, 312]), (3, 46, 10, 0, [314, 25, 315, 316]), (3, 50, 29, 0, [356, 24, 358, 4]), (3, 53, 44, 0, [360, 19, 286, 287]), (3, 57, 30, 0, [366, 24, 368, 5]), (3, 67, 28, 0, [361, 24, 362, 363]), (3, 70, 45, 0, [365, 19, 298, 299]), (3, 77, 23, 0, [370, 25, 371, 372]), (3, 84, 18, 0, [622, 25, 623, 624]), (3, 88, 31, 0, [618, 24, 619, 620]), (3, 91, 34, 0, [740, 24, 742, 16]), (3, 94, 24, 0, [744, 25, 745, 746]), (4, 11, 43, 1, [55, 19, 40]), (4, 36, 44, 0, [444, 19, 286, 287]), (4, 40, 37, 0, [445, 20, 447, 6]), (4, 44, 38, 0, [449, 20, 451, 7]), (4, 47, 39, 0, [458, 20, 460, 9]), (4, 56, 40, 0, [463, 20, 465, 10]), (4, 59, 42, 0, [453, 20, 455, 8]), (4, 62, 106, 3, [462, 18, 354]), (4, 65, 41, 0, [467, 20, 469, 11]), (4, 69, 104, 3, [471, 18, 393]), (4, 73, 45, 0, [457, 19, 298, 299]), (5, 13, 44, 0, [285, 19, 286, 287]), (6, 11, 54, 1, [92, 22, 93]), (6, 31, 55, 0, [277, 22, 278, 279]), (6, 35, 49, 0, [289, 21, 290, 291]), (6, 39, 50, 0, [531, 21, 532, 533]), (7, 17, 43, 1, [97, 19, 40]), (7, 27, 46, 0, [281, 19, 282, 283]), (7, 31, 56, 0, [261, 22, 262, 263]), (7, 35, 45, 0, [297, 19, 298, 299]), (7, 39, 61, 0, [301, 22, 302, 303]), (7, 43, 44, 0, [326, 19, 286, 287]), (7, 47, 62, 0, [322, 22, 323, 324]), (7, 51, 105, 3, [327, 18, 328]), (7, 54, 60, 0, [332, 22, 333, 334]), (7, 57, 63, 0, [409, 22, 319, 320]), (8, 17, 43, 1, [479, 19, 40]), (8, 27, 46, 0, [480, 19, 282, 283]), (8, 31, 68, 1, [602, 27, 475]), (8, 34, 44, 0, [603, 19, 286, 287]), (8, 38, 45, 0, [604, 19, 298, 299]), (11, 9, 99, 0, [666, 18, 667, 668]), (11, 15, 79, 0, [427, 18, 428, 429]), (11, 19, 89, 0, [577, 18, 578, 579]), (11, 22, 71, 0, [253, 18, 254, 255]), (11, 26, 72, 0, [374, 18, 375, 376]), (11, 30, 73, 0, [385, 18, 386, 387]), (11, 34, 76, 0, [410, 18, 411, 412]), (11, 37, 77, 0, [422, 18, 423, 424]), (11, 40, 78, 0, [711, 18, 712, 713]), (11, 43, 80, 0, [716, 18, 717, 718]), (11, 46, 82, 0, [435, 18, 436, 437]), (11, 50, 83, 0, [535, 18, 536, 537]), (11, 53, 84, 0, [544, 18, 545, 546]), (11, 56, 86, 0, [563, 18, 564, 565]), (11, 59, 87, 0, [721, 18, 722, 723]), (11, 62, 88, 0, [572, 18, 573, 574]), (11, 65, 90, 0, [725, 18, 689, 690]), (11, 68, 91, 0, [581, 18, 582, 583]), (11, 71, 92, 0, [593, 18, 594, 595]), (11, 74, 93, 0, [726, 18, 727, 728]), (11, 77, 94, 0, [731, 18, 732, 733]), (11, 81, 74, 0, [749, 18, 750, 751]), (11, 84, 95, 0, [609, 18, 610, 611]), (11, 87, 110, 2, [764, 17, 765]), (11, 92, 96, 0, [626, 18, 627, 628]), (11, 96, 97, 0, [644, 18, 645, 646]), (11, 99, 75, 0, [401, 18, 402, 403]), (11, 102, 98, 0, [658, 18, 659, 660]), (11, 105, 108, 2, [704, 17, 705]), (11, 108, 70, 1, [31, 18, 32]), (11, 109, 109, 2, [708, 17, 709]), (11, 113, 107, 2, [700, 17, 701]), (11, 117, 115, 2, [776, 17, 777]), (11, 121, 81, 0, [431, 18, 432, 433]), (11, 124, 114, 2, [773, 17, 774]), (11, 127, 112, 2, [767, 17, 768]), (11, 130, 111, 2, [761, 17, 762]), (11, 132, 113, 2, [770, 17, 771])]
def zmth (own idx : Nat) : Option (Nat × Nat) := (zCl.find? (fun q => Nat.beq q.1 own && Nat.beq q.2.1 idx)).map (fun q => (q.2.2.1, q.2.2.2.1))
def zCw (own idx j : Nat) : Nat → List Cond
  | 0 => [.methodLink (zR own) idx (mY j), .initialized (mY j).cls, .instanceMethod (mY j), .selects (zR (mK j)) (mY j) (mY j)]
  | 1 => [.methodLink (zR own) idx (mY j), .initialized (mY j).cls, .instanceMethod (mY j)]
  | 2 => [.methodLink (zR own) idx (mY j), .initialized (mY j).cls, .static (mY j)]
  | _ => [.methodLinkNest (zR own) idx (mY j) "SubtitleStyles", .initialized (mY j).cls, .static (mY j)]
theorem zCl_ok : zCl.all (fun q => decide (q.2.2.2.2.map (fun i => lw_tbl[i]?) = (zCw q.1 q.2.1 q.2.2.1 q.2.2.2.1).map some) && Nat.blt q.2.2.1 116 && (Nat.beq q.2.2.2.1 1 == decide ((mY q.2.2.1).name = "<init>"))) = true := by decide +kernel
/-! Object.<init> -/
def zO : List (Nat × Nat × Nat) := [(9, 3, 34), (0, 3, 135), (1, 1, 499), (2, 3, 162), (3, 3, 155), (4, 3, 53), (5, 1, 42), (6, 3, 89), (7, 3, 95), (8, 3, 477)]
def zobj (own idx : Nat) : Bool := zO.any (fun q => Nat.beq q.1 own && Nat.beq q.2.1 idx)
theorem zO_ok : zO.all (fun q => decide (lw_tbl[q.2.2]? = some (.methodLink (zR q.1) q.2.1 objectInit))) = true := by decide +kernel
theorem zO_in : (Cond.instanceMethod objectInit) ∈ lw_tbl ∧ (Cond.code objectInit ⟨#[0xb1]⟩ 1 none) ∈ lw_tbl := ⟨List.mem_of_getElem? (i := 35) (by decide +kernel), List.mem_of_getElem? (i := 36) (by decide +kernel)⟩
theorem zmax_in : (Cond.methodLink RX2 101 Lib.Math.max.name) ∈ lw_tbl ∧ (Cond.static Lib.Math.max.name) ∈ lw_tbl ∧ (Cond.initialized "java/lang/Math") ∈ lw_tbl ∧ (Cond.code Lib.Math.max.name Lib.Math.max.code 2 (some .int)) ∈ lw_tbl := ⟨List.mem_of_getElem? (i := 346) (by decide +kernel), List.mem_of_getElem? (i := 347) (by decide +kernel), List.mem_of_getElem? (i := 26) (by decide +kernel), List.mem_of_getElem? (i := 348) (by decide +kernel)⟩
def zKi : List (Nat × Nat × Int32 × Nat) := [(9, 138, 100000, 439), (9, 193, -100000, 567), (11, 7, 763049417, 703), (11, 8, 2147483647, 707), (11, 49, 100001, 720), (11, 80, -100000, 748)]
def zKl : List (Nat × Nat × Int64 × Nat) := [(9, 285, 233, 670), (9, 309, 31, 675)]
def zcst (own idx : Nat) : Option Int32 := (zKi.find? (fun q => Nat.beq q.1 own && Nat.beq q.2.1 idx)).map (fun q => q.2.2.1)
def zcsl (own idx : Nat) : Option Int64 := (zKl.find? (fun q => Nat.beq q.1 own && Nat.beq q.2.1 idx)).map (fun q => q.2.2.1)
theorem zKi_ok : zKi.all (fun q => decide (lw_tbl[q.2.2.2]? = some (.constant (zR q.1) q.2.1 q.2.2.1))) = true := by decide +kernel
theorem zKl_ok : zKl.all (fun q => decide (lw_tbl[q.2.2.2]? = some (.constantLong (zR q.1) q.2.1 q.2.2.1))) = true := by decide +kernel
def zNw : List (Nat × Nat × Nat × List Nat) := [(9, 9, 5, [37, 38, 19]), (9, 22, 4, [48, 49, 20]), (9, 29, 6, [84, 85, 21]), (9, 36, 0, [130, 131, 23]), (9, 43, 3, [150, 151, 24]), (9, 50, 7, [224, 91, 22]), (9, 57, 2, [226, 158, 25]), (9, 144, 8, [472, 473, 27]), (9, 158, 1, [494, 495, 28]), (0, 9, 6, [136, 85, 21]), (1, 8, 1, [556, 495, 28]), (2, 9, 5, [163, 38, 19]), (3, 9, 2, [156, 158, 25]), (3, 22, 5, [212, 38, 19]), (4, 9, 5, [54, 38, 19]), (6, 9, 7, [90, 91, 22]), (7, 15, 5, [96, 38, 19]), (8, 10, 8, [601, 473, 27]), (8, 15, 5, [478, 38, 19]), (11, 10, 9, [29, 30, 18])]
def znew (own idx : Nat) : Option Nat := (zNw.find? (fun q => Nat.beq q.1 own && Nat.beq q.2.1 idx)).map (fun q => q.2.2.1)
theorem zNw_ok : zNw.all (fun q => decide (q.2.2.2.map (fun i => lw_tbl[i]?) = ([.classLink (zR q.1) q.2.1 (zR q.2.2.1), .instantiable (zR q.2.2.1) (zN q.2.2.1), .initialized (zR q.2.2.1)] : List Cond).map some) && Nat.blt q.2.2.1 11) = true := by decide +kernel
def ztc : Nat → Nat
  | 2 => 1
  | 3 => 6
  | _ => 2
def zAn : List (Nat × Nat × Nat × Nat) := [(0, 9, 3, 136), (3, 9, 4, 156), (6, 18, 2, 110)]
def zanw (own idx : Nat) : Option Nat := (zAn.find? (fun q => Nat.beq q.1 own && Nat.beq q.2.1 idx)).map (fun q => q.2.2.1)
theorem zAn_ok : zAn.all (fun q => decide (lw_tbl[q.2.2.2]? = some (.classLink (zR q.1) q.2.1 (zR (ztc q.2.2.1)))) && (Nat.beq q.2.2.1 2 || Nat.beq q.2.2.1 3 || Nat.beq q.2.2.1 4)) = true := by decide +kernel
theorem zAO_in : (Cond.arrayOver (.object "SubtitleStyles$Line")) ∈ lw_tbl ∧ (Cond.arrayOver (.object "SubtitleStyles$Screen")) ∈ lw_tbl ∧ (Cond.arrayOver (.object "SubtitleStyles$Look")) ∈ lw_tbl ∧ (Cond.arrayClass .int) ∈ lw_tbl := ⟨List.mem_of_getElem? (i := 111) (by decide +kernel), List.mem_of_getElem? (i := 137) (by decide +kernel), List.mem_of_getElem? (i := 157) (by decide +kernel), List.mem_of_getElem? (i := 47) (by decide +kernel)⟩
theorem zM_ok : (List.range 117).all (fun j => decide ((mY j).cls = zR (mK j)) && decide ((parseMethodDescriptor (mY j).desc).map (fun d => d.parameters.length) = some (mN j)) && plainName (mY j).cls && Nat.ble (mL j) 21 && Nat.blt (mK j) 12 && decide ((mY j).cls ≠ "java/lang/invoke/MethodHandle" ∧ (mY j).cls ≠ "java/lang/invoke/VarHandle")) = true := by decide +kernel
set_option maxRecDepth 20000 in
theorem zM_pair : (List.range 117).all (fun y => (List.range 117).all (fun j => !(Nat.blt (mH y) (mH j)) || Nat.ble (mL y + 19 + 29 * mH y) (29 * mH j))) = true := by decide +kernel
def zMc : List Cond := (zM.take 116).map (fun q => .code q.1 q.2.1 q.2.2.1 q.2.2.2.1)
set_option maxRecDepth 20000 in
theorem zMc_in : ∀ w ∈ zMc, w ∈ lw_tbl := fun w h => (goodIn_p zMc [134, 268, 665, 272, 498, 555, 561, 608, 571, 161, 317, 339, 345, 352, 695, 642, 588, 592, 625, 638, 634, 653, 657, 373, 747, 154, 308, 313, 364, 359, 369, 621, 617, 739, 743, 52, 443, 448, 452, 461, 466, 470, 456, 41, 288, 300, 284, 88, 276, 292, 534, 530, 543, 756, 94, 280, 264, 260, 296, 760, 335, 304, 325, 321, 382, 417, 421, 408, 476, 600, 33, 256, 377, 388, 752, 404, 413, 425, 714, 430, 719, 434, 438, 538, 547, 551, 566, 724, 575, 580, 691, 584, 596, 729, 734, 612, 629, 647, 661, 669, 674, 679, 686, 391, 394, 329, 355, 702, 706, 710, 766, 763, 769, 772, 775, 778] rfl (by decide +kernel) w h).1
theorem zin0 : ∀ w ∈ u_ws RX0 TX0 3, w ∈ lw_tbl := by
  have h : (u_ws RX0 TX0 3).map some = ([143, 145, 147] : List Nat).map (fun i => lw_tbl[i]?) := by decide +kernel
  intro w hw
  have h1 : some w ∈ ([143, 145, 147] : List Nat).map (fun i => lw_tbl[i]?) := by rw [← h]; exact List.mem_map_of_mem hw
  obtain ⟨i, -, hi⟩ := List.mem_map.mp h1
  exact List.mem_of_getElem? hi
theorem zin1 : ∀ w ∈ u_ws RX1 TX1 5, w ∈ lw_tbl := by
  have h : (u_ws RX1 TX1 5).map some = ([516, 518, 520, 522, 524] : List Nat).map (fun i => lw_tbl[i]?) := by decide +kernel
  intro w hw
  have h1 : some w ∈ ([516, 518, 520, 522, 524] : List Nat).map (fun i => lw_tbl[i]?) := by rw [← h]; exact List.mem_map_of_mem hw
  obtain ⟨i, -, hi⟩ := List.mem_map.mp h1
  exact List.mem_of_getElem? hi
theorem zin2 : ∀ w ∈ u_ws RX2 TX2 12, w ∈ lw_tbl := by
  have h : (u_ws RX2 TX2 12).map some = ([187, 189, 191, 193, 195, 197, 199, 201, 203, 205, 207, 209] : List Nat).map (fun i => lw_tbl[i]?) := by decide +kernel
  intro w hw
  have h1 : some w ∈ ([187, 189, 191, 193, 195, 197, 199, 201, 203, 205, 207, 209] : List Nat).map (fun i => lw_tbl[i]?) := by rw [← h]; exact List.mem_map_of_mem hw
  obtain ⟨i, -, hi⟩ := List.mem_map.mp h1
  exact List.mem_of_getElem? hi
theorem zin3 : ∀ w ∈ u_ws RX3 TX3 3, w ∈ lw_tbl := by
  have h : (u_ws RX3 TX3 3).map some = ([217, 219, 221] : List Nat).map (fun i => lw_tbl[i]?) := by decide +kernel
  intro w hw
  have h1 : some w ∈ ([217, 219, 221] : List Nat).map (fun i => lw_tbl[i]?) := by rw [← h]; exact List.mem_map_of_mem hw
  obtain ⟨i, -, hi⟩ := List.mem_map.mp h1
  exact List.mem_of_getElem? hi
theorem zin4 : ∀ w ∈ u_ws RX4 TX4 8, w ∈ lw_tbl := by
  have h : (u_ws RX4 TX4 8).map some = ([67, 69, 71, 73, 75, 77, 79, 81] : List Nat).map (fun i => lw_tbl[i]?) := by decide +kernel
  intro w hw
  have h1 : some w ∈ ([67, 69, 71, 73, 75, 77, 79, 81] : List Nat).map (fun i => lw_tbl[i]?) := by rw [← h]; exact List.mem_map_of_mem hw
  obtain ⟨i, -, hi⟩ := List.mem_map.mp h1
  exact List.mem_of_getElem? hi
theorem zin5 : ∀ w ∈ u_ws RX5 TX5 1, w ∈ lw_tbl := by
  have h : (u_ws RX5 TX5 1).map some = ([44] : List Nat).map (fun i => lw_tbl[i]?) := by decide +kernel
  intro w hw
  have h1 : some w ∈ ([44] : List Nat).map (fun i => lw_tbl[i]?) := by rw [← h]; exact List.mem_map_of_mem hw
  obtain ⟨i, -, hi⟩ := List.mem_map.mp h1
  exact List.mem_of_getElem? hi
theorem zin6 : ∀ w ∈ u_ws RX6 TX6 4, w ∈ lw_tbl := by
  have h : (u_ws RX6 TX6 4).map some = ([121, 123, 125, 127] : List Nat).map (fun i => lw_tbl[i]?) := by decide +kernel
  intro w hw
  have h1 : some w ∈ ([121, 123, 125, 127] : List Nat).map (fun i => lw_tbl[i]?) := by rw [← h]; exact List.mem_map_of_mem hw
  obtain ⟨i, -, hi⟩ := List.mem_map.mp h1
  exact List.mem_of_getElem? hi
theorem zin7 : ∀ w ∈ u_ws RX7 TX7 3, w ∈ lw_tbl := by
  have h : (u_ws RX7 TX7 3).map some = ([103, 105, 107] : List Nat).map (fun i => lw_tbl[i]?) := by decide +kernel
  intro w hw
  have h1 : some w ∈ ([103, 105, 107] : List Nat).map (fun i => lw_tbl[i]?) := by rw [← h]; exact List.mem_map_of_mem hw
  obtain ⟨i, -, hi⟩ := List.mem_map.mp h1
  exact List.mem_of_getElem? hi
theorem zin8 : ∀ w ∈ u_ws RX8 TX8 3, w ∈ lw_tbl := by
  have h : (u_ws RX8 TX8 3).map some = ([487, 489, 491] : List Nat).map (fun i => lw_tbl[i]?) := by decide +kernel
  intro w hw
  have h1 : some w ∈ ([487, 489, 491] : List Nat).map (fun i => lw_tbl[i]?) := by rw [← h]; exact List.mem_map_of_mem hw
  obtain ⟨i, -, hi⟩ := List.mem_map.mp h1
  exact List.mem_of_getElem? hi
theorem zin9 : ∀ w ∈ u_ws RX9 TX9 8, w ∈ lw_tbl := by
  have h : (u_ws RX9 TX9 8).map some = ([236, 238, 240, 242, 244, 246, 248, 250] : List Nat).map (fun i => lw_tbl[i]?) := by decide +kernel
  intro w hw
  have h1 : some w ∈ ([236, 238, 240, 242, 244, 246, 248, 250] : List Nat).map (fun i => lw_tbl[i]?) := by rw [← h]; exact List.mem_map_of_mem hw
  obtain ⟨i, -, hi⟩ := List.mem_map.mp h1
  exact List.mem_of_getElem? hi
