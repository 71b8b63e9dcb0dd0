/-! tables: methods (name, code, locals, answer, class, height, parameters, place of its code word) -/
abbrev zMe : Type := MethodName × ByteArray × Nat × Option FieldType × Nat × Nat × Nat × Nat
def zM0 : List zMe := [(yX0_init, cX0_init, 2, none, 0, 4, 0, 165),
  (yX0_keep, cX0_keep, 3, none, 0, 4, 1, 299),
  (yX0_restore, cX0_restore, 3, none, 0, 4, 1, 752),
  (yX0_stateAt, cX0_stateAt, 3, some (.object "SubtitleStyles$Screen"), 0, 0, 1, 303),
  (yX1_init, cX1_init, 6, none, 1, 1, 5, 550),
  (yX1_withStyle, cX1_withStyle, 2, some (.object "SubtitleStyles$Line"), 1, 2, 1, 607),
  (yX1_withMargin, cX1_withMargin, 2, some (.object "SubtitleStyles$Line"), 1, 2, 1, 613),
  (yX1_withText, cX1_withText, 2, some (.object "SubtitleStyles$Line"), 1, 2, 1, 676),
  (yX1_movedBy, cX1_movedBy, 2, some (.object "SubtitleStyles$Line"), 1, 2, 1, 623),
  (yX2_init, cX2_init, 1, none, 2, 2, 0, 192),
  (yX2_read, cX2_read, 7, none, 2, 4, 2, 348),
  (yX2_holdStyle, cX2_holdStyle, 4, none, 2, 3, 2, 370),
  (yX2_addSign, cX2_addSign, 5, none, 2, 1, 1, 376),
  (yX2_addSyllable, cX2_addSyllable, 3, none, 2, 1, 1, 383),
  (yX2_hasSign, cX2_hasSign, 2, some .boolean, 2, 0, 1, 644),
  (yX2_signNumber, cX2_signNumber, 3, some .int, 2, 1, 2, 648),
  (yX2_hasSyllable, cX2_hasSyllable, 2, some .boolean, 2, 0, 1, 656),
  (yX2_syllableNumber, cX2_syllableNumber, 3, some .int, 2, 1, 2, 660),
  (yX2_isShownAt, cX2_isShownAt, 2, some .boolean, 2, 0, 1, 684),
  (yX2_isSungAt, cX2_isSungAt, 4, some .boolean, 2, 2, 2, 688),
  (yX2_countSungAt, cX2_countSungAt, 4, some .int, 2, 3, 1, 729),
  (yX2_countUnlike, cX2_countUnlike, 4, some .int, 2, 3, 1, 740),
  (yX2_isUnlike, cX2_isUnlike, 5, some .boolean, 2, 2, 2, 744),
  (yX2_blocks, cX2_blocks, 3, some .boolean, 2, 0, 2, 404),
  (yX2_isAheadOf, cX2_isAheadOf, 2, some .boolean, 2, 0, 1, 712)]
def zM1 : List zMe := [(yX3_init, cX3_init, 2, none, 3, 3, 0, 185),
  (yX3_draw, cX3_draw, 5, none, 3, 5, 1, 339),
  (yX3_lookAt, cX3_lookAt, 2, some (.object "SubtitleStyles$Look"), 3, 0, 1, 344),
  (yX3_beginOf, cX3_beginOf, 3, some .int, 3, 1, 1, 395),
  (yX3_sortByBeginnings, cX3_sortByBeginnings, 3, none, 3, 2, 0, 390),
  (yX3_freeOffset, cX3_freeOffset, 7, some .int, 3, 1, 2, 400),
  (yX3_isShownAt, cX3_isShownAt, 4, some .boolean, 3, 1, 2, 698),
  (yX3_countShownAt, cX3_countShownAt, 4, some .int, 3, 2, 1, 721),
  (yX3_countAhead, cX3_countAhead, 5, some .int, 3, 2, 2, 703),
  (yX3_comesBefore, cX3_comesBefore, 5, some .boolean, 3, 1, 2, 708),
  (yX4_init, cX4_init, 1, none, 4, 2, 0, 83),
  (yX4_read, cX4_read, 4, some .int, 4, 4, 2, 495),
  (yX4_take, cX4_take, 3, none, 4, 3, 2, 500),
  (yX4_takeOutside, cX4_takeOutside, 2, none, 4, 2, 1, 504),
  (yX4_takeLetter, cX4_takeLetter, 3, none, 4, 1, 2, 513),
  (yX4_closeTag, cX4_closeTag, 2, none, 4, 2, 1, 518),
  (yX4_isInRange, cX4_isInRange, 1, some .boolean, 4, 1, 0, 522),
  (yX4_addItem, cX4_addItem, 3, none, 4, 1, 2, 508),
  (yX5_init, cX5_init, 2, none, 5, 1, 1, 72),
  (yX5_get, cX5_get, 2, some .int, 5, 0, 1, 319),
  (yX5_set, cX5_set, 3, none, 5, 0, 2, 331),
  (yX5_copy, cX5_copy, 3, none, 5, 1, 1, 315),
  (yX6_init, cX6_init, 1, none, 6, 3, 0, 119),
  (yX6_copy, cX6_copy, 3, none, 6, 3, 1, 307),
  (yX6_lineAt, cX6_lineAt, 2, some (.object "SubtitleStyles$Line"), 6, 0, 1, 323)]
def zM2 : List zMe := [(yX6_putLine, cX6_putLine, 3, none, 6, 0, 2, 586),
  (yX6_addLine, cX6_addLine, 2, none, 6, 1, 1, 582),
  (yX6_dropLine, cX6_dropLine, 3, none, 6, 1, 1, 595),
  (yX6_hasLineOfStyle, cX6_hasLineOfStyle, 4, some .boolean, 6, 1, 1, 443),
  (yX7_init, cX7_init, 1, none, 7, 2, 0, 125),
  (yX7_copy, cX7_copy, 2, none, 7, 2, 1, 311),
  (yX7_has, cX7_has, 2, some .boolean, 7, 0, 1, 295),
  (yX7_hasOrNothing, cX7_hasOrNothing, 2, some .boolean, 7, 1, 1, 291),
  (yX7_add, cX7_add, 3, none, 7, 2, 1, 327),
  (yX7_dropLast, cX7_dropLast, 1, none, 7, 0, 0, 447),
  (yX7_ownValue, cX7_ownValue, 3, some .int, 7, 1, 2, 366),
  (yX7_setOwnValue, cX7_setOwnValue, 4, none, 7, 1, 3, 335),
  (yX7_sourceOf, cX7_sourceOf, 5, some .int, 7, 1, 2, 356),
  (yX7_valueIn, cX7_valueIn, 4, some .int, 7, 2, 2, 352),
  (yX7_leadsTo, cX7_leadsTo, 5, some .boolean, 7, 1, 2, 413),
  (yX7_ancestorsOf, cX7_ancestorsOf, 5, some .int, 7, 1, 1, 464),
  (yX7_childrenOf, cX7_childrenOf, 4, some .int, 7, 1, 1, 439),
  (yX7_makeFlat, cX7_makeFlat, 4, some .int, 7, 3, 0, 455),
  (yX8_init, cX8_init, 4, none, 8, 2, 3, 528),
  (yX8_withLastSyllable, cX8_withLastSyllable, 4, some (.object "SubtitleStyles$Text"), 8, 3, 1, 668),
  (yX9_init, cX9_init, 1, none, 9, 5, 0, 64),
  (yX9_style, cX9_style, 3, some .int, 9, 6, 1, 287),
  (yX9_setParent, cX9_setParent, 5, some .int, 9, 6, 2, 408),
  (yX9_setStyle, cX9_setStyle, 6, some .int, 9, 6, 3, 419),
  (yX9_unstyle, cX9_unstyle, 3, some .int, 9, 6, 0, 435)]
def zM3 : List zMe := [(yX9_flatten, cX9_flatten, 2, some .int, 9, 6, 0, 451),
  (yX9_styleAt, cX9_styleAt, 4, some .int, 9, 2, 2, 460),
  (yX9_valueOf, cX9_valueOf, 3, some .int, 9, 3, 2, 468),
  (yX9_from, cX9_from, 3, some .int, 9, 2, 2, 473),
  (yX9_styles, cX9_styles, 1, some .int, 9, 0, 0, 478),
  (yX9_type, cX9_type, 2, some .int, 9, 1, 1, 482),
  (yX9_clear, cX9_clear, 2, some .int, 9, 0, 0, 486),
  (yX9_line, cX9_line, 6, some .int, 9, 6, 3, 490),
  (yX9_remove, cX9_remove, 2, some .int, 9, 6, 1, 590),
  (yX9_change, cX9_change, 5, some .int, 9, 6, 3, 599),
  (yX9_isChange, cX9_isChange, 3, some .boolean, 9, 2, 2, 603),
  (yX9_shift, cX9_shift, 4, some .int, 9, 6, 2, 618),
  (yX9_setHeight, cX9_setHeight, 3, some .int, 9, 5, 1, 627),
  (yX9_about, cX9_about, 5, some .int, 9, 1, 2, 631),
  (yX9_lines, cX9_lines, 1, some .int, 9, 0, 0, 636),
  (yX9_sign, cX9_sign, 5, some .int, 9, 2, 3, 640),
  (yX9_syllable, cX9_syllable, 5, some .int, 9, 2, 3, 652),
  (yX9_fit, cX9_fit, 7, some .int, 9, 6, 1, 664),
  (yX9_shows, cX9_shows, 6, some .int, 9, 3, 3, 680),
  (yX9_shown, cX9_shown, 4, some .int, 9, 3, 2, 694),
  (yX9_crowd, cX9_crowd, 6, some .int, 9, 3, 0, 716),
  (yX9_sung, cX9_sung, 6, some .float, 9, 4, 1, 725),
  (yX9_unlike, cX9_unlike, 5, some .int, 9, 5, 0, 734),
  (yX9_undo, cX9_undo, 1, some .int, 9, 6, 0, 748),
  (yX9_fingerprint, cX9_fingerprint, 4, some .long, 9, 6, 0, 756)]
def zM4 : List zMe := [(yX9_mix, cX9_mix, 3, some .long, 9, 0, 2, 761),
  (yX9_mixStyle, cX9_mixStyle, 7, some .long, 9, 4, 2, 766),
  (yX9_mixLine, cX9_mixLine, 10, some .long, 9, 3, 2, 773),
  (yX9_isProperty, cX9_isProperty, 1, some .boolean, 9, 0, 1, 422),
  (yX9_allows, cX9_allows, 2, some .boolean, 9, 0, 2, 425),
  (yX9_basicValue, cX9_basicValue, 1, some .int, 9, 0, 1, 360),
  (yX9_propertyOfTag, cX9_propertyOfTag, 1, some .int, 9, 0, 1, 386),
  (yX10_init, cX10_init, 1, none, 10, 1, 0, 783),
  (yX10_in, cX10_in, 3, some .boolean, 10, 0, 3, 864),
  (yX10_act, cX10_act, 2, none, 10, 0, 0, 868),
  (yX10_sets, cX10_sets, 4, some .int, 10, 1, 2, 879),
  (yX10_placeOf, cX10_placeOf, 1, some .int, 10, 0, 1, 871),
  (yX10_isStyle, cX10_isStyle, 2, some .boolean, 10, 1, 1, 861),
  (yX10_isStyleOrNone, cX10_isStyleOrNone, 2, some .boolean, 10, 2, 1, 857),
  (yX10_basic, cX10_basic, 1, some .int, 10, 0, 1, 912),
  (yX10_isValue, cX10_isValue, 2, some .boolean, 10, 1, 2, 886),
  (yX10_style, cX10_style, 4, some .int, 10, 3, 1, 853),
  (yX10_setParent, cX10_setParent, 4, some .int, 10, 3, 2, 875),
  (yX10_setStyle, cX10_setStyle, 5, some .int, 10, 2, 3, 883),
  (yX10_unstyle, cX10_unstyle, 4, some .int, 10, 1, 0, 890),
  (yX10_owner, cX10_owner, 4, some .int, 10, 1, 2, 909),
  (yX10_valued, cX10_valued, 4, some .int, 10, 2, 2, 905),
  (yX10_flattens, cX10_flattens, 3, some .int, 10, 3, 0, 901),
  (yX10_flatten, cX10_flatten, 1, some .int, 10, 4, 0, 897),
  (yX10_styleTold, cX10_styleTold, 5, some .int, 10, 1, 2, 920)]
def zM5 : List zMe := [(yX10_styleAt, cX10_styleAt, 3, some .int, 10, 2, 2, 916),
  (yX10_valueOf, cX10_valueOf, 3, some .int, 10, 3, 2, 924),
  (yX10_from, cX10_from, 4, some .int, 10, 2, 2, 928),
  (yX10_styles, cX10_styles, 1, some .int, 10, 0, 0, 932),
  (yX10_type, cX10_type, 2, some .int, 10, 1, 1, 936),
  (yX10_clear, cX10_clear, 2, some .int, 10, 0, 0, 940),
  (yX10_next, cX10_next, 1, some .int, 10, 0, 0, 954),
  (yX10_reads, cX10_reads, 3, none, 10, 0, 2, 958),
  (yX10_isRange, cX10_isRange, 2, some .boolean, 10, 1, 2, 965),
  (yX10_readsTag, cX10_readsTag, 5, some .boolean, 10, 2, 0, 962),
  (yX10_wrongAt, cX10_wrongAt, 2, some .int, 10, 3, 0, 950),
  (yX10_lineAt, cX10_lineAt, 1, some .int, 10, 0, 1, 893),
  (yX10_isLine, cX10_isLine, 2, some .boolean, 10, 1, 1, 973),
  (yX10_line, cX10_line, 7, some .int, 10, 4, 3, 944),
  (yX10_remove, cX10_remove, 3, some .int, 10, 2, 1, 969),
  (yX10_change, cX10_change, 5, some .int, 10, 3, 3, 977),
  (yX10_shift, cX10_shift, 4, some .int, 10, 2, 2, 981),
  (yX10_setHeight, cX10_setHeight, 2, some .int, 10, 2, 1, 986),
  (yX10_restyles, cX10_restyles, 3, none, 10, 3, 1, 1006),
  (yX10_tags, cX10_tags, 4, none, 10, 4, 3, 1010),
  (yX10_goes, cX10_goes, 8, none, 10, 5, 1, 1002),
  (yX10_lasting, cX10_lasting, 3, some .int, 10, 0, 0, 1034),
  (yX10_tall, cX10_tall, 4, some .int, 10, 3, 1, 1014),
  (yX10_group, cX10_group, 2, some .int, 10, 3, 1, 1026),
  (yX10_margin, cX10_margin, 3, some .int, 10, 3, 1, 1018)]
def zM6 : List zMe := [(yX10_isShown, cX10_isShown, 3, some .boolean, 10, 1, 2, 1030),
  (yX10_inTheWay, cX10_inTheWay, 6, some .int, 10, 4, 2, 1022),
  (yX10_places, cX10_places, 4, none, 10, 6, 0, 998),
  (yX10_told, cX10_told, 4, some .int, 10, 7, 2, 994),
  (yX10_about, cX10_about, 3, some .int, 10, 8, 2, 990),
  (yX10_lines, cX10_lines, 1, some .int, 10, 0, 0, 1038),
  (yX10_sign, cX10_sign, 4, some .int, 10, 6, 3, 1042),
  (yX10_beginsAt, cX10_beginsAt, 5, some .int, 10, 1, 2, 1054),
  (yX10_syllableTold, cX10_syllableTold, 4, some .int, 10, 2, 3, 1050),
  (yX10_syllable, cX10_syllable, 4, some .int, 10, 6, 3, 1046),
  (yX10_fit, cX10_fit, 5, some .int, 10, 6, 1, 1058),
  (yX10_isSung, cX10_isSung, 5, some .boolean, 10, 2, 3, 1066),
  (yX10_shows, cX10_shows, 4, some .int, 10, 6, 3, 1062),
  (yX10_isAhead, cX10_isAhead, 4, some .boolean, 10, 4, 2, 1074),
  (yX10_shown, cX10_shown, 6, some .int, 10, 7, 2, 1070),
  (yX10_crowded, cX10_crowded, 7, some .int, 10, 2, 0, 1082),
  (yX10_crowd, cX10_crowd, 1, some .int, 10, 3, 0, 1078),
  (yX10_sung, cX10_sung, 6, some .float, 10, 6, 1, 1086),
  (yX10_unlikeMany, cX10_unlikeMany, 7, some .int, 10, 6, 0, 1094),
  (yX10_unlike, cX10_unlike, 1, some .int, 10, 7, 0, 1090),
  (yX10_undo, cX10_undo, 2, some .int, 10, 0, 0, 1098),
  (yX10_fingerprint, cX10_fingerprint, 6, some .long, 10, 8, 0, 1102)]
def zM : List zMe := zM0 ++ (zM1 ++ (zM2 ++ (zM3 ++ (zM4 ++ (zM5 ++ (zM6))))))
def zm (j : Nat) : zMe := (zM[j]?).getD (yX0_init, cX0_init, 0, none, 0, 0, 0, 0)
def mY (j : Nat) : MethodName := (zm j).1
def mC (j : Nat) : ByteArray := (zm j).2.1
def mL (j : Nat) : Nat := (zm j).2.2.1
def mT (j : Nat) : Option FieldType := (zm j).2.2.2.1
def mK (j : Nat) : Nat := (zm j).2.2.2.2.1
def mH (j : Nat) : Nat := (zm j).2.2.2.2.2.1
def mN (j : Nat) : Nat := (zm j).2.2.2.2.2.2.1
def mP (j : Nat) : Nat := (zm j).2.2.2.2.2.2.2
abbrev jX0_init : Nat := 0
abbrev jX0_keep : Nat := 1
abbrev jX0_restore : Nat := 2
abbrev jX0_stateAt : Nat := 3
abbrev jX1_init : Nat := 4
abbrev jX1_withStyle : Nat := 5
abbrev jX1_withMargin : Nat := 6
abbrev jX1_withText : Nat := 7
abbrev jX1_movedBy : Nat := 8
abbrev jX2_init : Nat := 9
abbrev jX2_read : Nat := 10
abbrev jX2_holdStyle : Nat := 11
abbrev jX2_addSign : Nat := 12
abbrev jX2_addSyllable : Nat := 13
abbrev jX2_hasSign : Nat := 14
abbrev jX2_signNumber : Nat := 15
abbrev jX2_hasSyllable : Nat := 16
abbrev jX2_syllableNumber : Nat := 17
abbrev jX2_isShownAt : Nat := 18
abbrev jX2_isSungAt : Nat := 19
abbrev jX2_countSungAt : Nat := 20
abbrev jX2_countUnlike : Nat := 21
abbrev jX2_isUnlike : Nat := 22
abbrev jX2_blocks : Nat := 23
abbrev jX2_isAheadOf : Nat := 24
abbrev jX3_init : Nat := 25
abbrev jX3_draw : Nat := 26
abbrev jX3_lookAt : Nat := 27
abbrev jX3_beginOf : Nat := 28
abbrev jX3_sortByBeginnings : Nat := 29
abbrev jX3_freeOffset : Nat := 30
abbrev jX3_isShownAt : Nat := 31
abbrev jX3_countShownAt : Nat := 32
abbrev jX3_countAhead : Nat := 33
abbrev jX3_comesBefore : Nat := 34
abbrev jX4_init : Nat := 35
abbrev jX4_read : Nat := 36
abbrev jX4_take : Nat := 37
abbrev jX4_takeOutside : Nat := 38
abbrev jX4_takeLetter : Nat := 39
abbrev jX4_closeTag : Nat := 40
abbrev jX4_isInRange : Nat := 41
abbrev jX4_addItem : Nat := 42
abbrev jX5_init : Nat := 43
abbrev jX5_get : Nat := 44
abbrev jX5_set : Nat := 45
abbrev jX5_copy : Nat := 46
abbrev jX6_init : Nat := 47
abbrev jX6_copy : Nat := 48
abbrev jX6_lineAt : Nat := 49
abbrev jX6_putLine : Nat := 50
abbrev jX6_addLine : Nat := 51
abbrev jX6_dropLine : Nat := 52
abbrev jX6_hasLineOfStyle : Nat := 53
abbrev jX7_init : Nat := 54
abbrev jX7_copy : Nat := 55
abbrev jX7_has : Nat := 56
abbrev jX7_hasOrNothing : Nat := 57
abbrev jX7_add : Nat := 58
abbrev jX7_dropLast : Nat := 59
abbrev jX7_ownValue : Nat := 60
abbrev jX7_setOwnValue : Nat := 61
abbrev jX7_sourceOf : Nat := 62
abbrev jX7_valueIn : Nat := 63
abbrev jX7_leadsTo : Nat := 64
abbrev jX7_ancestorsOf : Nat := 65
abbrev jX7_childrenOf : Nat := 66
abbrev jX7_makeFlat : Nat := 67
abbrev jX8_init : Nat := 68
abbrev jX8_withLastSyllable : Nat := 69
abbrev jX9_init : Nat := 70
abbrev jX9_style : Nat := 71
abbrev jX9_setParent : Nat := 72
abbrev jX9_setStyle : Nat := 73
abbrev jX9_unstyle : Nat := 74
abbrev jX9_flatten : Nat := 75
abbrev jX9_styleAt : Nat := 76
abbrev jX9_valueOf : Nat := 77
abbrev jX9_from : Nat := 78
abbrev jX9_styles : Nat := 79
abbrev jX9_type : Nat := 80
abbrev jX9_clear : Nat := 81
abbrev jX9_line : Nat := 82
abbrev jX9_remove : Nat := 83
abbrev jX9_change : Nat := 84
abbrev jX9_isChange : Nat := 85
abbrev jX9_shift : Nat := 86
abbrev jX9_setHeight : Nat := 87
abbrev jX9_about : Nat := 88
abbrev jX9_lines : Nat := 89
abbrev jX9_sign : Nat := 90
abbrev jX9_syllable : Nat := 91
abbrev jX9_fit : Nat := 92
abbrev jX9_shows : Nat := 93
abbrev jX9_shown : Nat := 94
abbrev jX9_crowd : Nat := 95
abbrev jX9_sung : Nat := 96
abbrev jX9_unlike : Nat := 97
abbrev jX9_undo : Nat := 98
abbrev jX9_fingerprint : Nat := 99
abbrev jX9_mix : Nat := 100
abbrev jX9_mixStyle : Nat := 101
abbrev jX9_mixLine : Nat := 102
abbrev jX9_isProperty : Nat := 103
abbrev jX9_allows : Nat := 104
abbrev jX9_basicValue : Nat := 105
abbrev jX9_propertyOfTag : Nat := 106
abbrev jX10_init : Nat := 107
abbrev jX10_in : Nat := 108
abbrev jX10_act : Nat := 109
abbrev jX10_sets : Nat := 110
abbrev jX10_placeOf : Nat := 111
abbrev jX10_isStyle : Nat := 112
abbrev jX10_isStyleOrNone : Nat := 113
abbrev jX10_basic : Nat := 114
abbrev jX10_isValue : Nat := 115
abbrev jX10_style : Nat := 116
abbrev jX10_setParent : Nat := 117
abbrev jX10_setStyle : Nat := 118
abbrev jX10_unstyle : Nat := 119
abbrev jX10_owner : Nat := 120
abbrev jX10_valued : Nat := 121
abbrev jX10_flattens : Nat := 122
abbrev jX10_flatten : Nat := 123
abbrev jX10_styleTold : Nat := 124
abbrev jX10_styleAt : Nat := 125
abbrev jX10_valueOf : Nat := 126
abbrev jX10_from : Nat := 127
abbrev jX10_styles : Nat := 128
abbrev jX10_type : Nat := 129
abbrev jX10_clear : Nat := 130
abbrev jX10_next : Nat := 131
abbrev jX10_reads : Nat := 132
abbrev jX10_isRange : Nat := 133
abbrev jX10_readsTag : Nat := 134
abbrev jX10_wrongAt : Nat := 135
abbrev jX10_lineAt : Nat := 136
abbrev jX10_isLine : Nat := 137
abbrev jX10_line : Nat := 138
abbrev jX10_remove : Nat := 139
abbrev jX10_change : Nat := 140
abbrev jX10_shift : Nat := 141
abbrev jX10_setHeight : Nat := 142
abbrev jX10_restyles : Nat := 143
abbrev jX10_tags : Nat := 144
abbrev jX10_goes : Nat := 145
abbrev jX10_lasting : Nat := 146
abbrev jX10_tall : Nat := 147
abbrev jX10_group : Nat := 148
abbrev jX10_margin : Nat := 149
abbrev jX10_isShown : Nat := 150
abbrev jX10_inTheWay : Nat := 151
abbrev jX10_places : Nat := 152
abbrev jX10_told : Nat := 153
abbrev jX10_about : Nat := 154
abbrev jX10_lines : Nat := 155
abbrev jX10_sign : Nat := 156
abbrev jX10_beginsAt : Nat := 157
abbrev jX10_syllableTold : Nat := 158
abbrev jX10_syllable : Nat := 159
abbrev jX10_fit : Nat := 160
abbrev jX10_isSung : Nat := 161
abbrev jX10_shows : Nat := 162
abbrev jX10_isAhead : Nat := 163
abbrev jX10_shown : Nat := 164
abbrev jX10_crowded : Nat := 165
abbrev jX10_crowd : Nat := 166
abbrev jX10_sung : Nat := 167
abbrev jX10_unlikeMany : Nat := 168
abbrev jX10_unlike : Nat := 169
abbrev jX10_undo : Nat := 170
abbrev jX10_fingerprint : Nat := 171
theorem mCX0_init : mC 0 = cX0_init := rfl
theorem mCX0_keep : mC 1 = cX0_keep := rfl
theorem mCX0_restore : mC 2 = cX0_restore := rfl
theorem mCX0_stateAt : mC 3 = cX0_stateAt := rfl
theorem mCX1_init : mC 4 = cX1_init := rfl
theorem mCX1_withStyle : mC 5 = cX1_withStyle := rfl
theorem mCX1_withMargin : mC 6 = cX1_withMargin := rfl
theorem mCX1_withText : mC 7 = cX1_withText := rfl
theorem mCX1_movedBy : mC 8 = cX1_movedBy := rfl
theorem mCX2_init : mC 9 = cX2_init := rfl
theorem mCX2_read : mC 10 = cX2_read := rfl
theorem mCX2_holdStyle : mC 11 = cX2_holdStyle := rfl
theorem mCX2_addSign : mC 12 = cX2_addSign := rfl
theorem mCX2_addSyllable : mC 13 = cX2_addSyllable := rfl
theorem mCX2_hasSign : mC 14 = cX2_hasSign := rfl
theorem mCX2_signNumber : mC 15 = cX2_signNumber := rfl
theorem mCX2_hasSyllable : mC 16 = cX2_hasSyllable := rfl
theorem mCX2_syllableNumber : mC 17 = cX2_syllableNumber := rfl
theorem mCX2_isShownAt : mC 18 = cX2_isShownAt := rfl
theorem mCX2_isSungAt : mC 19 = cX2_isSungAt := rfl
theorem mCX2_countSungAt : mC 20 = cX2_countSungAt := rfl
theorem mCX2_countUnlike : mC 21 = cX2_countUnlike := rfl
theorem mCX2_isUnlike : mC 22 = cX2_isUnlike := rfl
theorem mCX2_blocks : mC 23 = cX2_blocks := rfl
theorem mCX2_isAheadOf : mC 24 = cX2_isAheadOf := rfl
theorem mCX3_init : mC 25 = cX3_init := rfl
theorem mCX3_draw : mC 26 = cX3_draw := rfl
theorem mCX3_lookAt : mC 27 = cX3_lookAt := rfl
theorem mCX3_beginOf : mC 28 = cX3_beginOf := rfl
theorem mCX3_sortByBeginnings : mC 29 = cX3_sortByBeginnings := rfl
theorem mCX3_freeOffset : mC 30 = cX3_freeOffset := rfl
theorem mCX3_isShownAt : mC 31 = cX3_isShownAt := rfl
theorem mCX3_countShownAt : mC 32 = cX3_countShownAt := rfl
theorem mCX3_countAhead : mC 33 = cX3_countAhead := rfl
theorem mCX3_comesBefore : mC 34 = cX3_comesBefore := rfl
theorem mCX4_init : mC 35 = cX4_init := rfl
theorem mCX4_read : mC 36 = cX4_read := rfl
theorem mCX4_take : mC 37 = cX4_take := rfl
theorem mCX4_takeOutside : mC 38 = cX4_takeOutside := rfl
theorem mCX4_takeLetter : mC 39 = cX4_takeLetter := rfl
theorem mCX4_closeTag : mC 40 = cX4_closeTag := rfl
theorem mCX4_isInRange : mC 41 = cX4_isInRange := rfl
theorem mCX4_addItem : mC 42 = cX4_addItem := rfl
theorem mCX5_init : mC 43 = cX5_init := rfl
theorem mCX5_get : mC 44 = cX5_get := rfl
theorem mCX5_set : mC 45 = cX5_set := rfl
theorem mCX5_copy : mC 46 = cX5_copy := rfl
theorem mCX6_init : mC 47 = cX6_init := rfl
theorem mCX6_copy : mC 48 = cX6_copy := rfl
theorem mCX6_lineAt : mC 49 = cX6_lineAt := rfl
theorem mCX6_putLine : mC 50 = cX6_putLine := rfl
theorem mCX6_addLine : mC 51 = cX6_addLine := rfl
theorem mCX6_dropLine : mC 52 = cX6_dropLine := rfl
theorem mCX6_hasLineOfStyle : mC 53 = cX6_hasLineOfStyle := rfl
theorem mCX7_init : mC 54 = cX7_init := rfl
theorem mCX7_copy : mC 55 = cX7_copy := rfl
theorem mCX7_has : mC 56 = cX7_has := rfl
theorem mCX7_hasOrNothing : mC 57 = cX7_hasOrNothing := rfl
theorem mCX7_add : mC 58 = cX7_add := rfl
theorem mCX7_dropLast : mC 59 = cX7_dropLast := rfl
theorem mCX7_ownValue : mC 60 = cX7_ownValue := rfl
theorem mCX7_setOwnValue : mC 61 = cX7_setOwnValue := rfl
theorem mCX7_sourceOf : mC 62 = cX7_sourceOf := rfl
theorem mCX7_valueIn : mC 63 = cX7_valueIn := rfl
theorem mCX7_leadsTo : mC 64 = cX7_leadsTo := rfl
theorem mCX7_ancestorsOf : mC 65 = cX7_ancestorsOf := rfl
theorem mCX7_childrenOf : mC 66 = cX7_childrenOf := rfl
theorem mCX7_makeFlat : mC 67 = cX7_makeFlat := rfl
theorem mCX8_init : mC 68 = cX8_init := rfl
theorem mCX8_withLastSyllable : mC 69 = cX8_withLastSyllable := rfl
theorem mCX9_init : mC 70 = cX9_init := rfl
theorem mCX9_style : mC 71 = cX9_style := rfl
theorem mCX9_setParent : mC 72 = cX9_setParent := rfl
theorem mCX9_setStyle : mC 73 = cX9_setStyle := rfl
theorem mCX9_unstyle : mC 74 = cX9_unstyle := rfl
theorem mCX9_flatten : mC 75 = cX9_flatten := rfl
theorem mCX9_styleAt : mC 76 = cX9_styleAt := rfl
theorem mCX9_valueOf : mC 77 = cX9_valueOf := rfl
theorem mCX9_from : mC 78 = cX9_from := rfl
theorem mCX9_styles : mC 79 = cX9_styles := rfl
theorem mCX9_type : mC 80 = cX9_type := rfl
theorem mCX9_clear : mC 81 = cX9_clear := rfl
theorem mCX9_line : mC 82 = cX9_line := rfl
theorem mCX9_remove : mC 83 = cX9_remove := rfl
theorem mCX9_change : mC 84 = cX9_change := rfl
theorem mCX9_isChange : mC 85 = cX9_isChange := rfl
theorem mCX9_shift : mC 86 = cX9_shift := rfl
theorem mCX9_setHeight : mC 87 = cX9_setHeight := rfl
theorem mCX9_about : mC 88 = cX9_about := rfl
theorem mCX9_lines : mC 89 = cX9_lines := rfl
theorem mCX9_sign : mC 90 = cX9_sign := rfl
theorem mCX9_syllable : mC 91 = cX9_syllable := rfl
theorem mCX9_fit : mC 92 = cX9_fit := rfl
theorem mCX9_shows : mC 93 = cX9_shows := rfl
theorem mCX9_shown : mC 94 = cX9_shown := rfl
theorem mCX9_crowd : mC 95 = cX9_crowd := rfl
theorem mCX9_sung : mC 96 = cX9_sung := rfl
theorem mCX9_unlike : mC 97 = cX9_unlike := rfl
theorem mCX9_undo : mC 98 = cX9_undo := rfl
theorem mCX9_fingerprint : mC 99 = cX9_fingerprint := rfl
theorem mCX9_mix : mC 100 = cX9_mix := rfl
theorem mCX9_mixStyle : mC 101 = cX9_mixStyle := rfl
theorem mCX9_mixLine : mC 102 = cX9_mixLine := rfl
theorem mCX9_isProperty : mC 103 = cX9_isProperty := rfl
theorem mCX9_allows : mC 104 = cX9_allows := rfl
theorem mCX9_basicValue : mC 105 = cX9_basicValue := rfl
theorem mCX9_propertyOfTag : mC 106 = cX9_propertyOfTag := rfl
theorem mCX10_init : mC 107 = cX10_init := rfl
theorem mCX10_in : mC 108 = cX10_in := rfl
theorem mCX10_act : mC 109 = cX10_act := rfl
theorem mCX10_sets : mC 110 = cX10_sets := rfl
theorem mCX10_placeOf : mC 111 = cX10_placeOf := rfl
theorem mCX10_isStyle : mC 112 = cX10_isStyle := rfl
theorem mCX10_isStyleOrNone : mC 113 = cX10_isStyleOrNone := rfl
theorem mCX10_basic : mC 114 = cX10_basic := rfl
theorem mCX10_isValue : mC 115 = cX10_isValue := rfl
theorem mCX10_style : mC 116 = cX10_style := rfl
theorem mCX10_setParent : mC 117 = cX10_setParent := rfl
theorem mCX10_setStyle : mC 118 = cX10_setStyle := rfl
theorem mCX10_unstyle : mC 119 = cX10_unstyle := rfl
theorem mCX10_owner : mC 120 = cX10_owner := rfl
theorem mCX10_valued : mC 121 = cX10_valued := rfl
theorem mCX10_flattens : mC 122 = cX10_flattens := rfl
theorem mCX10_flatten : mC 123 = cX10_flatten := rfl
theorem mCX10_styleTold : mC 124 = cX10_styleTold := rfl
theorem mCX10_styleAt : mC 125 = cX10_styleAt := rfl
theorem mCX10_valueOf : mC 126 = cX10_valueOf := rfl
theorem mCX10_from : mC 127 = cX10_from := rfl
theorem mCX10_styles : mC 128 = cX10_styles := rfl
theorem mCX10_type : mC 129 = cX10_type := rfl
theorem mCX10_clear : mC 130 = cX10_clear := rfl
theorem mCX10_next : mC 131 = cX10_next := rfl
theorem mCX10_reads : mC 132 = cX10_reads := rfl
theorem mCX10_isRange : mC 133 = cX10_isRange := rfl
theorem mCX10_readsTag : mC 134 = cX10_readsTag := rfl
theorem mCX10_wrongAt : mC 135 = cX10_wrongAt := rfl
theorem mCX10_lineAt : mC 136 = cX10_lineAt := rfl
theorem mCX10_isLine : mC 137 = cX10_isLine := rfl
theorem mCX10_line : mC 138 = cX10_line := rfl
theorem mCX10_remove : mC 139 = cX10_remove := rfl
theorem mCX10_change : mC 140 = cX10_change := rfl
theorem mCX10_shift : mC 141 = cX10_shift := rfl
theorem mCX10_setHeight : mC 142 = cX10_setHeight := rfl
theorem mCX10_restyles : mC 143 = cX10_restyles := rfl
theorem mCX10_tags : mC 144 = cX10_tags := rfl
theorem mCX10_goes : mC 145 = cX10_goes := rfl
theorem mCX10_lasting : mC 146 = cX10_lasting := rfl
theorem mCX10_tall : mC 147 = cX10_tall := rfl
theorem mCX10_group : mC 148 = cX10_group := rfl
theorem mCX10_margin : mC 149 = cX10_margin := rfl
theorem mCX10_isShown : mC 150 = cX10_isShown := rfl
theorem mCX10_inTheWay : mC 151 = cX10_inTheWay := rfl
theorem mCX10_places : mC 152 = cX10_places := rfl
theorem mCX10_told : mC 153 = cX10_told := rfl
theorem mCX10_about : mC 154 = cX10_about := rfl
theorem mCX10_lines : mC 155 = cX10_lines := rfl
theorem mCX10_sign : mC 156 = cX10_sign := rfl
theorem mCX10_beginsAt : mC 157 = cX10_beginsAt := rfl
theorem mCX10_syllableTold : mC 158 = cX10_syllableTold := rfl
theorem mCX10_syllable : mC 159 = cX10_syllable := rfl
theorem mCX10_fit : mC 160 = cX10_fit := rfl
theorem mCX10_isSung : mC 161 = cX10_isSung := rfl
theorem mCX10_shows : mC 162 = cX10_shows := rfl
theorem mCX10_isAhead : mC 163 = cX10_isAhead := rfl
theorem mCX10_shown : mC 164 = cX10_shown := rfl
theorem mCX10_crowded : mC 165 = cX10_crowded := rfl
theorem mCX10_crowd : mC 166 = cX10_crowd := rfl
theorem mCX10_sung : mC 167 = cX10_sung := rfl
theorem mCX10_unlikeMany : mC 168 = cX10_unlikeMany := rfl
theorem mCX10_unlike : mC 169 = cX10_unlike := rfl
theorem mCX10_undo : mC 170 = cX10_undo := rfl
theorem mCX10_fingerprint : mC 171 = cX10_fingerprint := rfl
def zR (ci : Nat) : String := ((vwCl[ci]?).getD (RX0, TX0, 3)).1
def zT (ci : Nat) : u_T := ((vwCl[ci]?).getD (RX0, TX0, 3)).2.1
def zN (ci : Nat) : Nat := ((vwCl[ci]?).getD (RX0, TX0, 3)).2.2
def zty (ci : Nat) : Nat → FieldType := match ci with
  | 0 => tyX0
  | 1 => tyX1
  | 2 => tyX2
  | 3 => tyX3
  | 4 => tyX4
  | 5 => tyX5
  | 6 => tyX6
  | 7 => tyX7
  | 8 => tyX8
  | 9 => tyX9
  | _ => tyX10
def zgood (w : Cond) : Bool := goodWord w
def zW : List Cond := lw_tbl.filter goodWord
def zisN : Cond → Bool
  | .fieldLinkNest .. => true
  | .methodLinkNest .. => true
  | _ => false
def zNest : List Cond := lw_tbl.filter zisN
/-! fields: own class, pool place, class, field, nest mate, place of its word -/
def zF : List (Nat × Nat × Nat × Nat × Bool × Nat) := [(9, 14, 9, 0, false, 259), (9, 18, 9, 1, false, 260), (9, 25, 9, 2, false, 261), (9, 32, 9, 3, false, 262), (9, 39, 9, 4, false, 263), (9, 46, 9, 5, false, 264), (9, 53, 9, 6, false, 265), (9, 60, 9, 7, false, 266), (9, 64, 6, 0, true, 144), (9, 71, 7, 0, true, 130), (9, 91, 7, 1, true, 132), (9, 139, 6, 2, true, 149), (9, 146, 4, 0, true, 88), (9, 149, 4, 1, true, 90), (9, 152, 4, 2, true, 92), (9, 187, 1, 2, true, 561), (9, 190, 1, 3, true, 564), (9, 194, 1, 0, true, 554), (9, 197, 1, 1, true, 557), (9, 203, 6, 3, true, 151), (9, 210, 2, 6, true, 210), (9, 213, 2, 8, true, 213), (9, 216, 2, 10, true, 216), (9, 219, 2, 4, true, 205), (9, 220, 2, 5, true, 208), (9, 223, 2, 2, true, 200), (9, 238, 1, 4, true, 567), (9, 281, 0, 2, true, 173), (0, 11, 0, 0, false, 170), (0, 18, 0, 1, false, 171), (0, 22, 0, 2, false, 172), (1, 7, 1, 0, false, 552), (1, 13, 1, 1, false, 555), (1, 16, 1, 2, false, 558), (1, 19, 1, 3, false, 562), (1, 22, 1, 4, false, 565), (2, 14, 2, 7, false, 211), (2, 20, 2, 9, false, 214), (2, 23, 2, 11, false, 217), (2, 26, 1, 0, true, 553), (2, 32, 2, 0, false, 196), (2, 33, 1, 1, true, 556), (2, 36, 2, 1, false, 198), (2, 37, 1, 2, true, 559), (2, 46, 2, 2, false, 199), (2, 49, 1, 3, true, 563), (2, 52, 2, 3, false, 201), (2, 53, 2, 6, false, 209), (2, 56, 2, 8, false, 212), (2, 59, 2, 10, false, 215), (2, 62, 2, 4, false, 203), (2, 69, 1, 4, true, 566), (2, 73, 8, 0, true, 534), (2, 78, 8, 1, true, 536), (2, 85, 8, 2, true, 538), (2, 120, 2, 5, false, 207), (3, 11, 3, 0, false, 245), (3, 18, 3, 1, false, 246), (3, 27, 3, 2, false, 247), (3, 31, 6, 2, true, 148), (3, 42, 6, 0, true, 145), (3, 61, 2, 5, true, 206), (3, 64, 2, 0, true, 197), (3, 74, 2, 3, true, 202), (3, 81, 2, 4, true, 204), (4, 14, 4, 0, false, 87), (4, 20, 4, 1, false, 89), (4, 23, 4, 2, false, 91), (4, 27, 4, 3, false, 93), (4, 30, 4, 4, false, 94), (4, 33, 4, 5, false, 95), (4, 50, 4, 6, false, 96), (4, 53, 4, 7, false, 97), (5, 7, 5, 0, false, 74), (6, 12, 6, 0, false, 143), (6, 20, 6, 1, false, 146), (6, 24, 6, 2, false, 147), (6, 28, 6, 3, false, 150), (6, 43, 1, 2, true, 560), (7, 9, 7, 0, false, 129), (7, 20, 7, 1, false, 131), (7, 24, 7, 2, false, 133), (8, 9, 8, 0, false, 533), (8, 20, 8, 1, false, 535), (8, 24, 8, 2, false, 537), (10, 7, 10, 0, false, 785), (10, 13, 10, 1, false, 786), (10, 16, 10, 3, false, 788), (10, 19, 10, 4, false, 789), (10, 22, 10, 8, false, 793), (10, 25, 10, 10, false, 795), (10, 28, 10, 12, false, 797), (10, 31, 10, 13, false, 798), (10, 34, 10, 15, false, 800), (10, 37, 10, 16, false, 801), (10, 40, 10, 17, false, 802), (10, 43, 10, 18, false, 803), (10, 47, 10, 19, false, 804), (10, 50, 10, 20, false, 805), (10, 53, 10, 2, false, 787), (10, 102, 10, 5, false, 790), (10, 105, 10, 6, false, 791), (10, 108, 10, 9, false, 794), (10, 114, 10, 7, false, 792), (10, 141, 10, 14, false, 799), (10, 144, 10, 11, false, 796)]
def zfld (own idx : Nat) : Option (Nat × Nat) := (zF.find? (fun q => Nat.beq q.1 own && Nat.beq q.2.1 idx)).map (fun q => (q.2.2.1, q.2.2.2.1))
def zFw (q : Nat × Nat × Nat × Nat × Bool × Nat) : Cond := if q.2.2.2.2.1 then .fieldLinkNest (zR q.1) q.2.1 (zR q.2.2.1) (zT q.2.2.1 q.2.2.2.1).2.1 (zT q.2.2.1 q.2.2.2.1).2.2.1 "SubtitleStyles" else .fieldLink (zR q.1) q.2.1 (zR q.2.2.1) (zT q.2.2.1 q.2.2.2.1).2.1 (zT q.2.2.1 q.2.2.2.1).2.2.1
theorem zF_ok : zF.all (fun q => decide (lw_tbl[q.2.2.2.2.2]? = some (zFw q)) && Nat.blt q.2.2.2.1 (zN q.2.2.1) && Nat.blt q.2.2.1 11 && decide ((zT q.2.2.1 q.2.2.2.1).1 = zR q.2.2.1) && (!(Nat.beq q.1 q.2.2.1) || !q.2.2.2.2.1)) = true := by decide +kernel
/-! calls: own class, pool place, method, kind (0 virtual, 1 constructor, 2 static, 3 static of a nest mate), places of its words -/
def zCl : List (Nat × Nat × Nat × Nat × List Nat) := [(9, 11, 43, 1, [70, 49, 71]), (9, 24, 35, 1, [81, 50, 82]), (9, 31, 47, 1, [117, 51, 118]), (9, 38, 0, 1, [163, 53, 164]), (9, 45, 25, 1, [183, 54, 184]), (9, 52, 54, 1, [256, 52, 124]), (9, 59, 9, 1, [258, 55, 191]), (9, 67, 57, 0, [288, 52, 289, 290]), (9, 74, 1, 0, [296, 53, 297, 298]), (9, 78, 58, 0, [324, 52, 325, 326]), (9, 81, 26, 0, [336, 54, 337, 338]), (9, 84, 56, 0, [409, 52, 293, 294]), (9, 87, 64, 0, [410, 52, 411, 412]), (9, 94, 44, 0, [414, 49, 317, 318]), (9, 98, 45, 0, [415, 49, 329, 330]), (9, 102, 103, 2, [420, 48, 421]), (9, 105, 104, 2, [423, 48, 424]), (9, 108, 60, 0, [430, 52, 364, 365]), (9, 112, 61, 0, [431, 52, 333, 334]), (9, 116, 66, 0, [436, 52, 437, 438]), (9, 119, 53, 0, [440, 51, 441, 442]), (9, 122, 59, 0, [444, 52, 445, 446]), (9, 125, 67, 0, [452, 52, 453, 454]), (9, 129, 65, 0, [461, 52, 462, 463]), (9, 132, 63, 0, [469, 52, 350, 351]), (9, 135, 62, 0, [474, 52, 354, 355]), (9, 140, 36, 0, [492, 50, 493, 494]), (9, 155, 68, 1, [526, 58, 527]), (9, 160, 4, 1, [548, 59, 549]), (9, 163, 51, 0, [579, 51, 580, 581]), (9, 167, 49, 0, [591, 51, 321, 322]), (9, 171, 52, 0, [592, 51, 593, 594]), (9, 174, 85, 0, [600, 48, 602, 12]), (9, 177, 5, 0, [604, 59, 605, 606]), (9, 180, 6, 0, [610, 59, 611, 612]), (9, 183, 50, 0, [614, 51, 584, 585]), (9, 200, 8, 0, [620, 59, 621, 622]), (9, 206, 27, 0, [632, 54, 342, 343]), (9, 226, 14, 0, [641, 55, 642, 643]), (9, 229, 15, 0, [645, 55, 646, 647]), (9, 232, 16, 0, [653, 55, 654, 655]), (9, 235, 17, 0, [657, 55, 658, 659]), (9, 242, 69, 0, [665, 58, 666, 667]), (9, 246, 7, 0, [673, 59, 674, 675]), (9, 250, 18, 0, [681, 55, 682, 683]), (9, 253, 19, 0, [685, 55, 686, 687]), (9, 256, 31, 0, [695, 54, 696, 697]), (9, 258, 33, 0, [700, 54, 701, 702]), (9, 261, 28, 0, [717, 54, 393, 394]), (9, 264, 32, 0, [718, 54, 719, 720]), (9, 267, 20, 0, [726, 55, 727, 728]), (9, 270, 55, 0, [735, 52, 309, 310]), (9, 274, 10, 0, [736, 55, 346, 347]), (9, 277, 21, 0, [737, 55, 738, 739]), (9, 282, 2, 0, [749, 53, 750, 751]), (9, 287, 79, 0, [758, 48, 476, 477]), (9, 290, 100, 2, [759, 48, 760]), (9, 294, 101, 0, [763, 48, 765, 15]), (9, 297, 89, 0, [769, 48, 634, 635]), (9, 300, 102, 0, [770, 48, 772, 16]), (9, 303, 95, 0, [777, 48, 714, 715]), (9, 306, 97, 0, [778, 48, 732, 733]), (9, 311, 76, 0, [767, 48, 458, 459]), (9, 314, 77, 0, [768, 48, 466, 467]), (9, 317, 88, 0, [774, 48, 629, 630]), (9, 320, 90, 0, [775, 48, 638, 639]), (9, 324, 91, 0, [776, 48, 650, 651]), (0, 17, 47, 1, [169, 51, 118]), (0, 25, 3, 0, [300, 53, 302, 0]), (0, 29, 48, 0, [304, 51, 305, 306]), (1, 26, 4, 1, [609, 59, 549]), (2, 11, 43, 1, [195, 49, 71]), (2, 40, 63, 0, [349, 52, 350, 351]), (2, 65, 11, 0, [367, 55, 369, 1]), (2, 81, 44, 0, [372, 49, 317, 318]), (2, 88, 12, 0, [373, 55, 375, 2]), (2, 91, 13, 0, [380, 55, 382, 3]), (2, 94, 106, 3, [384, 48, 385]), (2, 97, 45, 0, [371, 49, 329, 330]), (2, 106, 15, 0, [689, 55, 646, 647]), (2, 109, 17, 0, [690, 55, 658, 659]), (2, 112, 19, 0, [730, 55, 686, 687]), (2, 116, 22, 0, [741, 55, 743, 14]), (3, 17, 9, 1, [190, 55, 191]), (3, 24, 43, 1, [244, 49, 71]), (3, 34, 49, 0, [340, 51, 321, 322]), (3, 38, 27, 0, [341, 54, 342, 343]), (3, 46, 10, 0, [345, 55, 346, 347]), (3, 50, 29, 0, [387, 54, 389, 4]), (3, 53, 44, 0, [391, 49, 317, 318]), (3, 57, 30, 0, [397, 54, 399, 5]), (3, 67, 28, 0, [392, 54, 393, 394]), (3, 70, 45, 0, [396, 49, 329, 330]), (3, 77, 23, 0, [401, 55, 402, 403]), (3, 84, 18, 0, [699, 55, 682, 683]), (3, 88, 31, 0, [704, 54, 696, 697]), (3, 91, 34, 0, [705, 54, 707, 13]), (3, 94, 24, 0, [709, 55, 710, 711]), (4, 11, 43, 1, [86, 49, 71]), (4, 36, 44, 0, [496, 49, 317, 318]), (4, 40, 37, 0, [497, 50, 499, 6]), (4, 44, 38, 0, [501, 50, 503, 7]), (4, 47, 39, 0, [510, 50, 512, 9]), (4, 56, 40, 0, [515, 50, 517, 10]), (4, 59, 42, 0, [505, 50, 507, 8]), (4, 62, 106, 3, [514, 48, 385]), (4, 65, 41, 0, [519, 50, 521, 11]), (4, 69, 104, 3, [523, 48, 424]), (4, 73, 45, 0, [509, 49, 329, 330]), (5, 13, 44, 0, [316, 49, 317, 318]), (6, 11, 54, 1, [123, 52, 124]), (6, 31, 55, 0, [308, 52, 309, 310]), (6, 35, 49, 0, [320, 51, 321, 322]), (6, 39, 50, 0, [583, 51, 584, 585]), (7, 17, 43, 1, [128, 49, 71]), (7, 27, 46, 0, [312, 49, 313, 314]), (7, 31, 56, 0, [292, 52, 293, 294]), (7, 35, 45, 0, [328, 49, 329, 330]), (7, 39, 61, 0, [332, 52, 333, 334]), (7, 43, 44, 0, [357, 49, 317, 318]), (7, 47, 62, 0, [353, 52, 354, 355]), (7, 51, 105, 3, [358, 48, 359]), (7, 54, 60, 0, [363, 52, 364, 365]), (7, 57, 63, 0, [456, 52, 350, 351]), (8, 17, 43, 1, [531, 49, 71]), (8, 27, 46, 0, [532, 49, 313, 314]), (8, 31, 68, 1, [670, 58, 527]), (8, 34, 44, 0, [671, 49, 317, 318]), (8, 38, 45, 0, [672, 49, 329, 330]), (10, 57, 109, 0, [865, 56, 867, 19]), (10, 60, 108, 2, [862, 56, 863]), (10, 64, 112, 0, [858, 56, 860, 18]), (10, 68, 113, 0, [854, 56, 856, 17]), (10, 71, 111, 2, [869, 56, 870]), (10, 75, 110, 0, [876, 56, 878, 20]), (10, 79, 115, 2, [884, 56, 885]), (10, 83, 136, 2, [891, 56, 892]), (10, 86, 120, 0, [906, 56, 908, 23]), (10, 89, 114, 2, [910, 56, 911]), (10, 92, 121, 0, [902, 56, 904, 22]), (10, 95, 122, 0, [898, 56, 900, 21]), (10, 99, 124, 0, [917, 56, 919, 24]), (10, 111, 131, 0, [951, 56, 953, 26]), (10, 117, 133, 2, [963, 56, 964]), (10, 120, 132, 0, [955, 56, 957, 27]), (10, 124, 134, 0, [959, 56, 961, 28]), (10, 130, 135, 0, [947, 56, 949, 25]), (10, 133, 137, 0, [970, 56, 972, 29]), (10, 137, 143, 0, [1003, 56, 1005, 33]), (10, 147, 144, 0, [1007, 56, 1009, 34]), (10, 151, 148, 0, [1023, 56, 1025, 38]), (10, 154, 150, 0, [1027, 56, 1029, 39]), (10, 157, 145, 0, [999, 56, 1001, 32]), (10, 160, 147, 0, [1011, 56, 1013, 35]), (10, 163, 149, 0, [1015, 56, 1017, 36]), (10, 166, 151, 0, [1019, 56, 1021, 37]), (10, 169, 152, 0, [995, 56, 997, 31]), (10, 172, 146, 0, [1031, 56, 1033, 40]), (10, 175, 153, 0, [991, 56, 993, 30]), (10, 178, 157, 0, [1051, 56, 1053, 42]), (10, 181, 158, 0, [1047, 56, 1049, 41]), (10, 185, 161, 0, [1063, 56, 1065, 43]), (10, 188, 163, 0, [1071, 56, 1073, 44]), (10, 191, 165, 0, [1079, 56, 1081, 45]), (10, 194, 168, 0, [1091, 56, 1093, 46])]
def zmth (own idx : Nat) : Option (Nat × Nat) := (zCl.find? (fun q => Nat.beq q.1 own && Nat.beq q.2.1 idx)).map (fun q => (q.2.2.1, q.2.2.2.1))
def zCw (own idx j : Nat) : Nat → List Cond
  | 0 => [.methodLink (zR own) idx (mY j), .initialized (mY j).cls, .instanceMethod (mY j), .selects (zR (mK j)) (mY j) (mY j)]
  | 1 => [.methodLink (zR own) idx (mY j), .initialized (mY j).cls, .instanceMethod (mY j)]
  | 2 => [.methodLink (zR own) idx (mY j), .initialized (mY j).cls, .static (mY j)]
  | _ => [.methodLinkNest (zR own) idx (mY j) "SubtitleStyles", .initialized (mY j).cls, .static (mY j)]
theorem zCl_ok : zCl.all (fun q => decide (q.2.2.2.2.map (fun i => lw_tbl[i]?) = (zCw q.1 q.2.1 q.2.2.1 q.2.2.2.1).map some) && Nat.blt q.2.2.1 172 && (Nat.beq q.2.2.2.1 1 == decide ((mY q.2.2.1).name = "<init>"))) = true := by decide +kernel
/-! Object.<init> -/
def zO : List (Nat × Nat × Nat) := [(9, 3, 65), (0, 3, 166), (1, 1, 551), (2, 3, 193), (3, 3, 186), (4, 3, 84), (5, 1, 73), (6, 3, 120), (7, 3, 126), (8, 3, 529), (10, 1, 784)]
def zobj (own idx : Nat) : Bool := zO.any (fun q => Nat.beq q.1 own && Nat.beq q.2.1 idx)
theorem zO_ok : zO.all (fun q => decide (lw_tbl[q.2.2]? = some (.methodLink (zR q.1) q.2.1 objectInit))) = true := by decide +kernel
theorem zO_in : (Cond.instanceMethod objectInit) ∈ lw_tbl ∧ (Cond.code objectInit ⟨#[0xb1]⟩ 1 none) ∈ lw_tbl := ⟨List.mem_of_getElem? (i := 66) (by decide +kernel), List.mem_of_getElem? (i := 67) (by decide +kernel)⟩
theorem zmax_in : (Cond.methodLink RX2 101 Lib.Math.max.name) ∈ lw_tbl ∧ (Cond.static Lib.Math.max.name) ∈ lw_tbl ∧ (Cond.initialized "java/lang/Math") ∈ lw_tbl ∧ (Cond.code Lib.Math.max.name Lib.Math.max.code 2 (some .int)) ∈ lw_tbl := ⟨List.mem_of_getElem? (i := 377) (by decide +kernel), List.mem_of_getElem? (i := 378) (by decide +kernel), List.mem_of_getElem? (i := 57) (by decide +kernel), List.mem_of_getElem? (i := 379) (by decide +kernel)⟩
def zKi : List (Nat × Nat × Int32 × Nat) := [(9, 138, 100000, 491), (9, 193, -100000, 619), (10, 128, 99999, 945), (10, 129, 100000, 946), (10, 136, -100000, 982)]
def zKl : List (Nat × Nat × Int64 × Nat) := [(9, 285, 233, 757), (9, 309, 31, 762), (10, 197, 7223, 1103), (10, 199, 31, 1104)]
def zcst (own idx : Nat) : Option Int32 := (zKi.find? (fun q => Nat.beq q.1 own && Nat.beq q.2.1 idx)).map (fun q => q.2.2.1)
def zcsl (own idx : Nat) : Option Int64 := (zKl.find? (fun q => Nat.beq q.1 own && Nat.beq q.2.1 idx)).map (fun q => q.2.2.1)
theorem zKi_ok : zKi.all (fun q => decide (lw_tbl[q.2.2.2]? = some (.constant (zR q.1) q.2.1 q.2.2.1))) = true := by decide +kernel
theorem zKl_ok : zKl.all (fun q => decide (lw_tbl[q.2.2.2]? = some (.constantLong (zR q.1) q.2.1 q.2.2.1))) = true := by decide +kernel
def zNw : List (Nat × Nat × Nat × List Nat) := [(9, 9, 5, [68, 69, 49]), (9, 22, 4, [79, 80, 50]), (9, 29, 6, [115, 116, 51]), (9, 36, 0, [161, 162, 53]), (9, 43, 3, [181, 182, 54]), (9, 50, 7, [255, 122, 52]), (9, 57, 2, [257, 189, 55]), (9, 144, 8, [524, 525, 58]), (9, 158, 1, [546, 547, 59]), (0, 9, 6, [167, 116, 51]), (1, 8, 1, [608, 547, 59]), (2, 9, 5, [194, 69, 49]), (3, 9, 2, [187, 189, 55]), (3, 22, 5, [243, 69, 49]), (4, 9, 5, [85, 69, 49]), (6, 9, 7, [121, 122, 52]), (7, 15, 5, [127, 69, 49]), (8, 10, 8, [669, 525, 58]), (8, 15, 5, [530, 69, 49])]
def znew (own idx : Nat) : Option Nat := (zNw.find? (fun q => Nat.beq q.1 own && Nat.beq q.2.1 idx)).map (fun q => q.2.2.1)
theorem zNw_ok : zNw.all (fun q => decide (q.2.2.2.map (fun i => lw_tbl[i]?) = ([.classLink (zR q.1) q.2.1 (zR q.2.2.1), .instantiable (zR q.2.2.1) (zN q.2.2.1), .initialized (zR q.2.2.1)] : List Cond).map some) && Nat.blt q.2.2.1 11) = true := by decide +kernel
def ztc : Nat → Nat
  | 2 => 1
  | 3 => 6
  | _ => 2
def zAn : List (Nat × Nat × Nat × Nat) := [(0, 9, 3, 167), (3, 9, 4, 187), (6, 18, 2, 141)]
def zanw (own idx : Nat) : Option Nat := (zAn.find? (fun q => Nat.beq q.1 own && Nat.beq q.2.1 idx)).map (fun q => q.2.2.1)
theorem zAn_ok : zAn.all (fun q => decide (lw_tbl[q.2.2.2]? = some (.classLink (zR q.1) q.2.1 (zR (ztc q.2.2.1)))) && (Nat.beq q.2.2.1 2 || Nat.beq q.2.2.1 3 || Nat.beq q.2.2.1 4)) = true := by decide +kernel
theorem zAO_in : (Cond.arrayOver (.object "SubtitleStyles$Line")) ∈ lw_tbl ∧ (Cond.arrayOver (.object "SubtitleStyles$Screen")) ∈ lw_tbl ∧ (Cond.arrayOver (.object "SubtitleStyles$Look")) ∈ lw_tbl ∧ (Cond.arrayClass .int) ∈ lw_tbl ∧ (Cond.arrayClass .boolean) ∈ lw_tbl := ⟨List.mem_of_getElem? (i := 142) (by decide +kernel), List.mem_of_getElem? (i := 168) (by decide +kernel), List.mem_of_getElem? (i := 188) (by decide +kernel), List.mem_of_getElem? (i := 78) (by decide +kernel), List.mem_of_getElem? (i := 849) (by decide +kernel)⟩
theorem zM_ok : (List.range 172).all (fun j => decide ((mY j).cls = zR (mK j)) && decide ((parseMethodDescriptor (mY j).desc).map (fun d => d.parameters.length) = some (mN j)) && plainName (mY j).cls && Nat.ble (mL j) 10 && Nat.blt (mK j) 11 && decide ((mY j).cls ≠ "java/lang/invoke/MethodHandle" ∧ (mY j).cls ≠ "java/lang/invoke/VarHandle")) = true := by decide +kernel
def zMc : List Cond := zM.map (fun q => .code q.1 q.2.1 q.2.2.1 q.2.2.2.1)
set_option maxRecDepth 20000 in
theorem zMc_in : ∀ w ∈ zMc, w ∈ lw_tbl := fun w h => (goodIn_p zMc [165, 299, 752, 303, 550, 607, 613, 676, 623, 192, 348, 370, 376, 383, 644, 648, 656, 660, 684, 688, 729, 740, 744, 404, 712, 185, 339, 344, 395, 390, 400, 698, 721, 703, 708, 83, 495, 500, 504, 513, 518, 522, 508, 72, 319, 331, 315, 119, 307, 323, 586, 582, 595, 443, 125, 311, 295, 291, 327, 447, 366, 335, 356, 352, 413, 464, 439, 455, 528, 668, 64, 287, 408, 419, 435, 451, 460, 468, 473, 478, 482, 486, 490, 590, 599, 603, 618, 627, 631, 636, 640, 652, 664, 680, 694, 716, 725, 734, 748, 756, 761, 766, 773, 422, 425, 360, 386, 783, 864, 868, 879, 871, 861, 857, 912, 886, 853, 875, 883, 890, 909, 905, 901, 897, 920, 916, 924, 928, 932, 936, 940, 954, 958, 965, 962, 950, 893, 973, 944, 969, 977, 981, 986, 1006, 1010, 1002, 1034, 1014, 1026, 1018, 1030, 1022, 998, 994, 990, 1038, 1042, 1054, 1050, 1046, 1058, 1066, 1062, 1074, 1070, 1082, 1078, 1086, 1094, 1090, 1098, 1102] rfl (by decide +kernel) w h).1
theorem zin0 : ∀ w ∈ u_ws RX0 TX0 3, w ∈ lw_tbl := by
  have h : (u_ws RX0 TX0 3).map some = ([174, 176, 178] : List Nat).map (fun i => lw_tbl[i]?) := by decide +kernel
  intro w hw
  have h1 : some w ∈ ([174, 176, 178] : List Nat).map (fun i => lw_tbl[i]?) := by rw [← h]; exact List.mem_map_of_mem hw
  obtain ⟨i, -, hi⟩ := List.mem_map.mp h1
  exact List.mem_of_getElem? hi
theorem zin1 : ∀ w ∈ u_ws RX1 TX1 5, w ∈ lw_tbl := by
  have h : (u_ws RX1 TX1 5).map some = ([568, 570, 572, 574, 576] : List Nat).map (fun i => lw_tbl[i]?) := by decide +kernel
  intro w hw
  have h1 : some w ∈ ([568, 570, 572, 574, 576] : List Nat).map (fun i => lw_tbl[i]?) := by rw [← h]; exact List.mem_map_of_mem hw
  obtain ⟨i, -, hi⟩ := List.mem_map.mp h1
  exact List.mem_of_getElem? hi
theorem zin2 : ∀ w ∈ u_ws RX2 TX2 12, w ∈ lw_tbl := by
  have h : (u_ws RX2 TX2 12).map some = ([218, 220, 222, 224, 226, 228, 230, 232, 234, 236, 238, 240] : List Nat).map (fun i => lw_tbl[i]?) := by decide +kernel
  intro w hw
  have h1 : some w ∈ ([218, 220, 222, 224, 226, 228, 230, 232, 234, 236, 238, 240] : List Nat).map (fun i => lw_tbl[i]?) := by rw [← h]; exact List.mem_map_of_mem hw
  obtain ⟨i, -, hi⟩ := List.mem_map.mp h1
  exact List.mem_of_getElem? hi
theorem zin3 : ∀ w ∈ u_ws RX3 TX3 3, w ∈ lw_tbl := by
  have h : (u_ws RX3 TX3 3).map some = ([248, 250, 252] : List Nat).map (fun i => lw_tbl[i]?) := by decide +kernel
  intro w hw
  have h1 : some w ∈ ([248, 250, 252] : List Nat).map (fun i => lw_tbl[i]?) := by rw [← h]; exact List.mem_map_of_mem hw
  obtain ⟨i, -, hi⟩ := List.mem_map.mp h1
  exact List.mem_of_getElem? hi
theorem zin4 : ∀ w ∈ u_ws RX4 TX4 8, w ∈ lw_tbl := by
  have h : (u_ws RX4 TX4 8).map some = ([98, 100, 102, 104, 106, 108, 110, 112] : List Nat).map (fun i => lw_tbl[i]?) := by decide +kernel
  intro w hw
  have h1 : some w ∈ ([98, 100, 102, 104, 106, 108, 110, 112] : List Nat).map (fun i => lw_tbl[i]?) := by rw [← h]; exact List.mem_map_of_mem hw
  obtain ⟨i, -, hi⟩ := List.mem_map.mp h1
  exact List.mem_of_getElem? hi
theorem zin5 : ∀ w ∈ u_ws RX5 TX5 1, w ∈ lw_tbl := by
  have h : (u_ws RX5 TX5 1).map some = ([75] : List Nat).map (fun i => lw_tbl[i]?) := by decide +kernel
  intro w hw
  have h1 : some w ∈ ([75] : List Nat).map (fun i => lw_tbl[i]?) := by rw [← h]; exact List.mem_map_of_mem hw
  obtain ⟨i, -, hi⟩ := List.mem_map.mp h1
  exact List.mem_of_getElem? hi
theorem zin6 : ∀ w ∈ u_ws RX6 TX6 4, w ∈ lw_tbl := by
  have h : (u_ws RX6 TX6 4).map some = ([152, 154, 156, 158] : List Nat).map (fun i => lw_tbl[i]?) := by decide +kernel
  intro w hw
  have h1 : some w ∈ ([152, 154, 156, 158] : List Nat).map (fun i => lw_tbl[i]?) := by rw [← h]; exact List.mem_map_of_mem hw
  obtain ⟨i, -, hi⟩ := List.mem_map.mp h1
  exact List.mem_of_getElem? hi
theorem zin7 : ∀ w ∈ u_ws RX7 TX7 3, w ∈ lw_tbl := by
  have h : (u_ws RX7 TX7 3).map some = ([134, 136, 138] : List Nat).map (fun i => lw_tbl[i]?) := by decide +kernel
  intro w hw
  have h1 : some w ∈ ([134, 136, 138] : List Nat).map (fun i => lw_tbl[i]?) := by rw [← h]; exact List.mem_map_of_mem hw
  obtain ⟨i, -, hi⟩ := List.mem_map.mp h1
  exact List.mem_of_getElem? hi
theorem zin8 : ∀ w ∈ u_ws RX8 TX8 3, w ∈ lw_tbl := by
  have h : (u_ws RX8 TX8 3).map some = ([539, 541, 543] : List Nat).map (fun i => lw_tbl[i]?) := by decide +kernel
  intro w hw
  have h1 : some w ∈ ([539, 541, 543] : List Nat).map (fun i => lw_tbl[i]?) := by rw [← h]; exact List.mem_map_of_mem hw
  obtain ⟨i, -, hi⟩ := List.mem_map.mp h1
  exact List.mem_of_getElem? hi
theorem zin9 : ∀ w ∈ u_ws RX9 TX9 8, w ∈ lw_tbl := by
  have h : (u_ws RX9 TX9 8).map some = ([267, 269, 271, 273, 275, 277, 279, 281] : List Nat).map (fun i => lw_tbl[i]?) := by decide +kernel
  intro w hw
  have h1 : some w ∈ ([267, 269, 271, 273, 275, 277, 279, 281] : List Nat).map (fun i => lw_tbl[i]?) := by rw [← h]; exact List.mem_map_of_mem hw
  obtain ⟨i, -, hi⟩ := List.mem_map.mp h1
  exact List.mem_of_getElem? hi
theorem zin10 : ∀ w ∈ u_ws RX10 TX10 21, w ∈ lw_tbl := by
  have h : (u_ws RX10 TX10 21).map some = ([806, 808, 810, 812, 814, 816, 818, 820, 822, 824, 826, 828, 830, 832, 834, 836, 838, 840, 842, 844, 846] : List Nat).map (fun i => lw_tbl[i]?) := by decide +kernel
  intro w hw
  have h1 : some w ∈ ([806, 808, 810, 812, 814, 816, 818, 820, 822, 824, 826, 828, 830, 832, 834, 836, 838, 840, 842, 844, 846] : List Nat).map (fun i => lw_tbl[i]?) := by rw [← h]; exact List.mem_map_of_mem hw
  obtain ⟨i, -, hi⟩ := List.mem_map.mp h1
  exact List.mem_of_getElem? hi
