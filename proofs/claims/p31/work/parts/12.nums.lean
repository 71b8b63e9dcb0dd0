/-! numbers of each method, and places of the pools, as rows -/
theorem mKX0_init : mK 0 = 0 := by decide +kernel
theorem mHX0_init : mH 0 = 4 := by decide +kernel
theorem mNX0_init : mN 0 = 0 := by decide +kernel
theorem mLX0_init : mL 0 = 2 := by decide +kernel
theorem mTX0_init : mT 0 = none := by decide +kernel
theorem mKX0_keep : mK 1 = 0 := by decide +kernel
theorem mHX0_keep : mH 1 = 4 := by decide +kernel
theorem mNX0_keep : mN 1 = 1 := by decide +kernel
theorem mLX0_keep : mL 1 = 3 := by decide +kernel
theorem mTX0_keep : mT 1 = none := by decide +kernel
theorem mKX0_restore : mK 2 = 0 := by decide +kernel
theorem mHX0_restore : mH 2 = 4 := by decide +kernel
theorem mNX0_restore : mN 2 = 1 := by decide +kernel
theorem mLX0_restore : mL 2 = 3 := by decide +kernel
theorem mTX0_restore : mT 2 = none := by decide +kernel
theorem mKX0_stateAt : mK 3 = 0 := by decide +kernel
theorem mHX0_stateAt : mH 3 = 0 := by decide +kernel
theorem mNX0_stateAt : mN 3 = 1 := by decide +kernel
theorem mLX0_stateAt : mL 3 = 3 := by decide +kernel
theorem mTX0_stateAt : mT 3 = some (.object "SubtitleStyles$Screen") := by decide +kernel
theorem mKX1_init : mK 4 = 1 := by decide +kernel
theorem mHX1_init : mH 4 = 1 := by decide +kernel
theorem mNX1_init : mN 4 = 5 := by decide +kernel
theorem mLX1_init : mL 4 = 6 := by decide +kernel
theorem mTX1_init : mT 4 = none := by decide +kernel
theorem mKX1_withStyle : mK 5 = 1 := by decide +kernel
theorem mHX1_withStyle : mH 5 = 2 := by decide +kernel
theorem mNX1_withStyle : mN 5 = 1 := by decide +kernel
theorem mLX1_withStyle : mL 5 = 2 := by decide +kernel
theorem mTX1_withStyle : mT 5 = some (.object "SubtitleStyles$Line") := by decide +kernel
theorem mKX1_withMargin : mK 6 = 1 := by decide +kernel
theorem mHX1_withMargin : mH 6 = 2 := by decide +kernel
theorem mNX1_withMargin : mN 6 = 1 := by decide +kernel
theorem mLX1_withMargin : mL 6 = 2 := by decide +kernel
theorem mTX1_withMargin : mT 6 = some (.object "SubtitleStyles$Line") := by decide +kernel
theorem mKX1_withText : mK 7 = 1 := by decide +kernel
theorem mHX1_withText : mH 7 = 2 := by decide +kernel
theorem mNX1_withText : mN 7 = 1 := by decide +kernel
theorem mLX1_withText : mL 7 = 2 := by decide +kernel
theorem mTX1_withText : mT 7 = some (.object "SubtitleStyles$Line") := by decide +kernel
theorem mKX1_movedBy : mK 8 = 1 := by decide +kernel
theorem mHX1_movedBy : mH 8 = 2 := by decide +kernel
theorem mNX1_movedBy : mN 8 = 1 := by decide +kernel
theorem mLX1_movedBy : mL 8 = 2 := by decide +kernel
theorem mTX1_movedBy : mT 8 = some (.object "SubtitleStyles$Line") := by decide +kernel
theorem mKX2_init : mK 9 = 2 := by decide +kernel
theorem mHX2_init : mH 9 = 2 := by decide +kernel
theorem mNX2_init : mN 9 = 0 := by decide +kernel
theorem mLX2_init : mL 9 = 1 := by decide +kernel
theorem mTX2_init : mT 9 = none := by decide +kernel
theorem mKX2_read : mK 10 = 2 := by decide +kernel
theorem mHX2_read : mH 10 = 4 := by decide +kernel
theorem mNX2_read : mN 10 = 2 := by decide +kernel
theorem mLX2_read : mL 10 = 7 := by decide +kernel
theorem mTX2_read : mT 10 = none := by decide +kernel
theorem mKX2_holdStyle : mK 11 = 2 := by decide +kernel
theorem mHX2_holdStyle : mH 11 = 3 := by decide +kernel
theorem mNX2_holdStyle : mN 11 = 2 := by decide +kernel
theorem mLX2_holdStyle : mL 11 = 4 := by decide +kernel
theorem mTX2_holdStyle : mT 11 = none := by decide +kernel
theorem mKX2_addSign : mK 12 = 2 := by decide +kernel
theorem mHX2_addSign : mH 12 = 1 := by decide +kernel
theorem mNX2_addSign : mN 12 = 1 := by decide +kernel
theorem mLX2_addSign : mL 12 = 5 := by decide +kernel
theorem mTX2_addSign : mT 12 = none := by decide +kernel
theorem mKX2_addSyllable : mK 13 = 2 := by decide +kernel
theorem mHX2_addSyllable : mH 13 = 1 := by decide +kernel
theorem mNX2_addSyllable : mN 13 = 1 := by decide +kernel
theorem mLX2_addSyllable : mL 13 = 3 := by decide +kernel
theorem mTX2_addSyllable : mT 13 = none := by decide +kernel
theorem mKX2_hasSign : mK 14 = 2 := by decide +kernel
theorem mHX2_hasSign : mH 14 = 0 := by decide +kernel
theorem mNX2_hasSign : mN 14 = 1 := by decide +kernel
theorem mLX2_hasSign : mL 14 = 2 := by decide +kernel
theorem mTX2_hasSign : mT 14 = some .boolean := by decide +kernel
theorem mKX2_signNumber : mK 15 = 2 := by decide +kernel
theorem mHX2_signNumber : mH 15 = 1 := by decide +kernel
theorem mNX2_signNumber : mN 15 = 2 := by decide +kernel
theorem mLX2_signNumber : mL 15 = 3 := by decide +kernel
theorem mTX2_signNumber : mT 15 = some .int := by decide +kernel
theorem mKX2_hasSyllable : mK 16 = 2 := by decide +kernel
theorem mHX2_hasSyllable : mH 16 = 0 := by decide +kernel
theorem mNX2_hasSyllable : mN 16 = 1 := by decide +kernel
theorem mLX2_hasSyllable : mL 16 = 2 := by decide +kernel
theorem mTX2_hasSyllable : mT 16 = some .boolean := by decide +kernel
theorem mKX2_syllableNumber : mK 17 = 2 := by decide +kernel
theorem mHX2_syllableNumber : mH 17 = 1 := by decide +kernel
theorem mNX2_syllableNumber : mN 17 = 2 := by decide +kernel
theorem mLX2_syllableNumber : mL 17 = 3 := by decide +kernel
theorem mTX2_syllableNumber : mT 17 = some .int := by decide +kernel
theorem mKX2_isShownAt : mK 18 = 2 := by decide +kernel
theorem mHX2_isShownAt : mH 18 = 0 := by decide +kernel
theorem mNX2_isShownAt : mN 18 = 1 := by decide +kernel
theorem mLX2_isShownAt : mL 18 = 2 := by decide +kernel
theorem mTX2_isShownAt : mT 18 = some .boolean := by decide +kernel
theorem mKX2_isSungAt : mK 19 = 2 := by decide +kernel
theorem mHX2_isSungAt : mH 19 = 2 := by decide +kernel
theorem mNX2_isSungAt : mN 19 = 2 := by decide +kernel
theorem mLX2_isSungAt : mL 19 = 4 := by decide +kernel
theorem mTX2_isSungAt : mT 19 = some .boolean := by decide +kernel
theorem mKX2_countSungAt : mK 20 = 2 := by decide +kernel
theorem mHX2_countSungAt : mH 20 = 3 := by decide +kernel
theorem mNX2_countSungAt : mN 20 = 1 := by decide +kernel
theorem mLX2_countSungAt : mL 20 = 4 := by decide +kernel
theorem mTX2_countSungAt : mT 20 = some .int := by decide +kernel
theorem mKX2_countUnlike : mK 21 = 2 := by decide +kernel
theorem mHX2_countUnlike : mH 21 = 3 := by decide +kernel
theorem mNX2_countUnlike : mN 21 = 1 := by decide +kernel
theorem mLX2_countUnlike : mL 21 = 4 := by decide +kernel
theorem mTX2_countUnlike : mT 21 = some .int := by decide +kernel
theorem mKX2_isUnlike : mK 22 = 2 := by decide +kernel
theorem mHX2_isUnlike : mH 22 = 2 := by decide +kernel
theorem mNX2_isUnlike : mN 22 = 2 := by decide +kernel
theorem mLX2_isUnlike : mL 22 = 5 := by decide +kernel
theorem mTX2_isUnlike : mT 22 = some .boolean := by decide +kernel
theorem mKX2_blocks : mK 23 = 2 := by decide +kernel
theorem mHX2_blocks : mH 23 = 0 := by decide +kernel
theorem mNX2_blocks : mN 23 = 2 := by decide +kernel
theorem mLX2_blocks : mL 23 = 3 := by decide +kernel
theorem mTX2_blocks : mT 23 = some .boolean := by decide +kernel
theorem mKX2_isAheadOf : mK 24 = 2 := by decide +kernel
theorem mHX2_isAheadOf : mH 24 = 0 := by decide +kernel
theorem mNX2_isAheadOf : mN 24 = 1 := by decide +kernel
theorem mLX2_isAheadOf : mL 24 = 2 := by decide +kernel
theorem mTX2_isAheadOf : mT 24 = some .boolean := by decide +kernel
theorem mKX3_init : mK 25 = 3 := by decide +kernel
theorem mHX3_init : mH 25 = 3 := by decide +kernel
theorem mNX3_init : mN 25 = 0 := by decide +kernel
theorem mLX3_init : mL 25 = 2 := by decide +kernel
theorem mTX3_init : mT 25 = none := by decide +kernel
theorem mKX3_draw : mK 26 = 3 := by decide +kernel
theorem mHX3_draw : mH 26 = 5 := by decide +kernel
theorem mNX3_draw : mN 26 = 1 := by decide +kernel
theorem mLX3_draw : mL 26 = 5 := by decide +kernel
theorem mTX3_draw : mT 26 = none := by decide +kernel
theorem mKX3_lookAt : mK 27 = 3 := by decide +kernel
theorem mHX3_lookAt : mH 27 = 0 := by decide +kernel
theorem mNX3_lookAt : mN 27 = 1 := by decide +kernel
theorem mLX3_lookAt : mL 27 = 2 := by decide +kernel
theorem mTX3_lookAt : mT 27 = some (.object "SubtitleStyles$Look") := by decide +kernel
theorem mKX3_beginOf : mK 28 = 3 := by decide +kernel
theorem mHX3_beginOf : mH 28 = 1 := by decide +kernel
theorem mNX3_beginOf : mN 28 = 1 := by decide +kernel
theorem mLX3_beginOf : mL 28 = 3 := by decide +kernel
theorem mTX3_beginOf : mT 28 = some .int := by decide +kernel
theorem mKX3_sortByBeginnings : mK 29 = 3 := by decide +kernel
theorem mHX3_sortByBeginnings : mH 29 = 2 := by decide +kernel
theorem mNX3_sortByBeginnings : mN 29 = 0 := by decide +kernel
theorem mLX3_sortByBeginnings : mL 29 = 3 := by decide +kernel
theorem mTX3_sortByBeginnings : mT 29 = none := by decide +kernel
theorem mKX3_freeOffset : mK 30 = 3 := by decide +kernel
theorem mHX3_freeOffset : mH 30 = 1 := by decide +kernel
theorem mNX3_freeOffset : mN 30 = 2 := by decide +kernel
theorem mLX3_freeOffset : mL 30 = 7 := by decide +kernel
theorem mTX3_freeOffset : mT 30 = some .int := by decide +kernel
theorem mKX3_isShownAt : mK 31 = 3 := by decide +kernel
theorem mHX3_isShownAt : mH 31 = 1 := by decide +kernel
theorem mNX3_isShownAt : mN 31 = 2 := by decide +kernel
theorem mLX3_isShownAt : mL 31 = 4 := by decide +kernel
theorem mTX3_isShownAt : mT 31 = some .boolean := by decide +kernel
theorem mKX3_countShownAt : mK 32 = 3 := by decide +kernel
theorem mHX3_countShownAt : mH 32 = 2 := by decide +kernel
theorem mNX3_countShownAt : mN 32 = 1 := by decide +kernel
theorem mLX3_countShownAt : mL 32 = 4 := by decide +kernel
theorem mTX3_countShownAt : mT 32 = some .int := by decide +kernel
theorem mKX3_countAhead : mK 33 = 3 := by decide +kernel
theorem mHX3_countAhead : mH 33 = 2 := by decide +kernel
theorem mNX3_countAhead : mN 33 = 2 := by decide +kernel
theorem mLX3_countAhead : mL 33 = 5 := by decide +kernel
theorem mTX3_countAhead : mT 33 = some .int := by decide +kernel
theorem mKX3_comesBefore : mK 34 = 3 := by decide +kernel
theorem mHX3_comesBefore : mH 34 = 1 := by decide +kernel
theorem mNX3_comesBefore : mN 34 = 2 := by decide +kernel
theorem mLX3_comesBefore : mL 34 = 5 := by decide +kernel
theorem mTX3_comesBefore : mT 34 = some .boolean := by decide +kernel
theorem mKX4_init : mK 35 = 4 := by decide +kernel
theorem mHX4_init : mH 35 = 2 := by decide +kernel
theorem mNX4_init : mN 35 = 0 := by decide +kernel
theorem mLX4_init : mL 35 = 1 := by decide +kernel
theorem mTX4_init : mT 35 = none := by decide +kernel
theorem mKX4_read : mK 36 = 4 := by decide +kernel
theorem mHX4_read : mH 36 = 4 := by decide +kernel
theorem mNX4_read : mN 36 = 2 := by decide +kernel
theorem mLX4_read : mL 36 = 4 := by decide +kernel
theorem mTX4_read : mT 36 = some .int := by decide +kernel
theorem mKX4_take : mK 37 = 4 := by decide +kernel
theorem mHX4_take : mH 37 = 3 := by decide +kernel
theorem mNX4_take : mN 37 = 2 := by decide +kernel
theorem mLX4_take : mL 37 = 3 := by decide +kernel
theorem mTX4_take : mT 37 = none := by decide +kernel
theorem mKX4_takeOutside : mK 38 = 4 := by decide +kernel
theorem mHX4_takeOutside : mH 38 = 2 := by decide +kernel
theorem mNX4_takeOutside : mN 38 = 1 := by decide +kernel
theorem mLX4_takeOutside : mL 38 = 2 := by decide +kernel
theorem mTX4_takeOutside : mT 38 = none := by decide +kernel
theorem mKX4_takeLetter : mK 39 = 4 := by decide +kernel
theorem mHX4_takeLetter : mH 39 = 1 := by decide +kernel
theorem mNX4_takeLetter : mN 39 = 2 := by decide +kernel
theorem mLX4_takeLetter : mL 39 = 3 := by decide +kernel
theorem mTX4_takeLetter : mT 39 = none := by decide +kernel
theorem mKX4_closeTag : mK 40 = 4 := by decide +kernel
theorem mHX4_closeTag : mH 40 = 2 := by decide +kernel
theorem mNX4_closeTag : mN 40 = 1 := by decide +kernel
theorem mLX4_closeTag : mL 40 = 2 := by decide +kernel
theorem mTX4_closeTag : mT 40 = none := by decide +kernel
theorem mKX4_isInRange : mK 41 = 4 := by decide +kernel
theorem mHX4_isInRange : mH 41 = 1 := by decide +kernel
theorem mNX4_isInRange : mN 41 = 0 := by decide +kernel
theorem mLX4_isInRange : mL 41 = 1 := by decide +kernel
theorem mTX4_isInRange : mT 41 = some .boolean := by decide +kernel
theorem mKX4_addItem : mK 42 = 4 := by decide +kernel
theorem mHX4_addItem : mH 42 = 1 := by decide +kernel
theorem mNX4_addItem : mN 42 = 2 := by decide +kernel
theorem mLX4_addItem : mL 42 = 3 := by decide +kernel
theorem mTX4_addItem : mT 42 = none := by decide +kernel
theorem mKX5_init : mK 43 = 5 := by decide +kernel
theorem mHX5_init : mH 43 = 1 := by decide +kernel
theorem mNX5_init : mN 43 = 1 := by decide +kernel
theorem mLX5_init : mL 43 = 2 := by decide +kernel
theorem mTX5_init : mT 43 = none := by decide +kernel
theorem mKX5_get : mK 44 = 5 := by decide +kernel
theorem mHX5_get : mH 44 = 0 := by decide +kernel
theorem mNX5_get : mN 44 = 1 := by decide +kernel
theorem mLX5_get : mL 44 = 2 := by decide +kernel
theorem mTX5_get : mT 44 = some .int := by decide +kernel
theorem mKX5_set : mK 45 = 5 := by decide +kernel
theorem mHX5_set : mH 45 = 0 := by decide +kernel
theorem mNX5_set : mN 45 = 2 := by decide +kernel
theorem mLX5_set : mL 45 = 3 := by decide +kernel
theorem mTX5_set : mT 45 = none := by decide +kernel
theorem mKX5_copy : mK 46 = 5 := by decide +kernel
theorem mHX5_copy : mH 46 = 1 := by decide +kernel
theorem mNX5_copy : mN 46 = 1 := by decide +kernel
theorem mLX5_copy : mL 46 = 3 := by decide +kernel
theorem mTX5_copy : mT 46 = none := by decide +kernel
theorem mKX6_init : mK 47 = 6 := by decide +kernel
theorem mHX6_init : mH 47 = 3 := by decide +kernel
theorem mNX6_init : mN 47 = 0 := by decide +kernel
theorem mLX6_init : mL 47 = 1 := by decide +kernel
theorem mTX6_init : mT 47 = none := by decide +kernel
theorem mKX6_copy : mK 48 = 6 := by decide +kernel
theorem mHX6_copy : mH 48 = 3 := by decide +kernel
theorem mNX6_copy : mN 48 = 1 := by decide +kernel
theorem mLX6_copy : mL 48 = 3 := by decide +kernel
theorem mTX6_copy : mT 48 = none := by decide +kernel
theorem mKX6_lineAt : mK 49 = 6 := by decide +kernel
theorem mHX6_lineAt : mH 49 = 0 := by decide +kernel
theorem mNX6_lineAt : mN 49 = 1 := by decide +kernel
theorem mLX6_lineAt : mL 49 = 2 := by decide +kernel
theorem mTX6_lineAt : mT 49 = some (.object "SubtitleStyles$Line") := by decide +kernel
theorem mKX6_putLine : mK 50 = 6 := by decide +kernel
theorem mHX6_putLine : mH 50 = 0 := by decide +kernel
theorem mNX6_putLine : mN 50 = 2 := by decide +kernel
theorem mLX6_putLine : mL 50 = 3 := by decide +kernel
theorem mTX6_putLine : mT 50 = none := by decide +kernel
theorem mKX6_addLine : mK 51 = 6 := by decide +kernel
theorem mHX6_addLine : mH 51 = 1 := by decide +kernel
theorem mNX6_addLine : mN 51 = 1 := by decide +kernel
theorem mLX6_addLine : mL 51 = 2 := by decide +kernel
theorem mTX6_addLine : mT 51 = none := by decide +kernel
theorem mKX6_dropLine : mK 52 = 6 := by decide +kernel
theorem mHX6_dropLine : mH 52 = 1 := by decide +kernel
theorem mNX6_dropLine : mN 52 = 1 := by decide +kernel
theorem mLX6_dropLine : mL 52 = 3 := by decide +kernel
theorem mTX6_dropLine : mT 52 = none := by decide +kernel
theorem mKX6_hasLineOfStyle : mK 53 = 6 := by decide +kernel
theorem mHX6_hasLineOfStyle : mH 53 = 1 := by decide +kernel
theorem mNX6_hasLineOfStyle : mN 53 = 1 := by decide +kernel
theorem mLX6_hasLineOfStyle : mL 53 = 4 := by decide +kernel
theorem mTX6_hasLineOfStyle : mT 53 = some .boolean := by decide +kernel
theorem mKX7_init : mK 54 = 7 := by decide +kernel
theorem mHX7_init : mH 54 = 2 := by decide +kernel
theorem mNX7_init : mN 54 = 0 := by decide +kernel
theorem mLX7_init : mL 54 = 1 := by decide +kernel
theorem mTX7_init : mT 54 = none := by decide +kernel
theorem mKX7_copy : mK 55 = 7 := by decide +kernel
theorem mHX7_copy : mH 55 = 2 := by decide +kernel
theorem mNX7_copy : mN 55 = 1 := by decide +kernel
theorem mLX7_copy : mL 55 = 2 := by decide +kernel
theorem mTX7_copy : mT 55 = none := by decide +kernel
theorem mKX7_has : mK 56 = 7 := by decide +kernel
theorem mHX7_has : mH 56 = 0 := by decide +kernel
theorem mNX7_has : mN 56 = 1 := by decide +kernel
theorem mLX7_has : mL 56 = 2 := by decide +kernel
theorem mTX7_has : mT 56 = some .boolean := by decide +kernel
theorem mKX7_hasOrNothing : mK 57 = 7 := by decide +kernel
theorem mHX7_hasOrNothing : mH 57 = 1 := by decide +kernel
theorem mNX7_hasOrNothing : mN 57 = 1 := by decide +kernel
theorem mLX7_hasOrNothing : mL 57 = 2 := by decide +kernel
theorem mTX7_hasOrNothing : mT 57 = some .boolean := by decide +kernel
theorem mKX7_add : mK 58 = 7 := by decide +kernel
theorem mHX7_add : mH 58 = 2 := by decide +kernel
theorem mNX7_add : mN 58 = 1 := by decide +kernel
theorem mLX7_add : mL 58 = 3 := by decide +kernel
theorem mTX7_add : mT 58 = none := by decide +kernel
theorem mKX7_dropLast : mK 59 = 7 := by decide +kernel
theorem mHX7_dropLast : mH 59 = 0 := by decide +kernel
theorem mNX7_dropLast : mN 59 = 0 := by decide +kernel
theorem mLX7_dropLast : mL 59 = 1 := by decide +kernel
theorem mTX7_dropLast : mT 59 = none := by decide +kernel
theorem mKX7_ownValue : mK 60 = 7 := by decide +kernel
theorem mHX7_ownValue : mH 60 = 1 := by decide +kernel
theorem mNX7_ownValue : mN 60 = 2 := by decide +kernel
theorem mLX7_ownValue : mL 60 = 3 := by decide +kernel
theorem mTX7_ownValue : mT 60 = some .int := by decide +kernel
theorem mKX7_setOwnValue : mK 61 = 7 := by decide +kernel
theorem mHX7_setOwnValue : mH 61 = 1 := by decide +kernel
theorem mNX7_setOwnValue : mN 61 = 3 := by decide +kernel
theorem mLX7_setOwnValue : mL 61 = 4 := by decide +kernel
theorem mTX7_setOwnValue : mT 61 = none := by decide +kernel
theorem mKX7_sourceOf : mK 62 = 7 := by decide +kernel
theorem mHX7_sourceOf : mH 62 = 1 := by decide +kernel
theorem mNX7_sourceOf : mN 62 = 2 := by decide +kernel
theorem mLX7_sourceOf : mL 62 = 5 := by decide +kernel
theorem mTX7_sourceOf : mT 62 = some .int := by decide +kernel
theorem mKX7_valueIn : mK 63 = 7 := by decide +kernel
theorem mHX7_valueIn : mH 63 = 2 := by decide +kernel
theorem mNX7_valueIn : mN 63 = 2 := by decide +kernel
theorem mLX7_valueIn : mL 63 = 4 := by decide +kernel
theorem mTX7_valueIn : mT 63 = some .int := by decide +kernel
theorem mKX7_leadsTo : mK 64 = 7 := by decide +kernel
theorem mHX7_leadsTo : mH 64 = 1 := by decide +kernel
theorem mNX7_leadsTo : mN 64 = 2 := by decide +kernel
theorem mLX7_leadsTo : mL 64 = 5 := by decide +kernel
theorem mTX7_leadsTo : mT 64 = some .boolean := by decide +kernel
theorem mKX7_ancestorsOf : mK 65 = 7 := by decide +kernel
theorem mHX7_ancestorsOf : mH 65 = 1 := by decide +kernel
theorem mNX7_ancestorsOf : mN 65 = 1 := by decide +kernel
theorem mLX7_ancestorsOf : mL 65 = 5 := by decide +kernel
theorem mTX7_ancestorsOf : mT 65 = some .int := by decide +kernel
theorem mKX7_childrenOf : mK 66 = 7 := by decide +kernel
theorem mHX7_childrenOf : mH 66 = 1 := by decide +kernel
theorem mNX7_childrenOf : mN 66 = 1 := by decide +kernel
theorem mLX7_childrenOf : mL 66 = 4 := by decide +kernel
theorem mTX7_childrenOf : mT 66 = some .int := by decide +kernel
theorem mKX7_makeFlat : mK 67 = 7 := by decide +kernel
theorem mHX7_makeFlat : mH 67 = 3 := by decide +kernel
theorem mNX7_makeFlat : mN 67 = 0 := by decide +kernel
theorem mLX7_makeFlat : mL 67 = 4 := by decide +kernel
theorem mTX7_makeFlat : mT 67 = some .int := by decide +kernel
theorem mKX8_init : mK 68 = 8 := by decide +kernel
theorem mHX8_init : mH 68 = 2 := by decide +kernel
theorem mNX8_init : mN 68 = 3 := by decide +kernel
theorem mLX8_init : mL 68 = 4 := by decide +kernel
theorem mTX8_init : mT 68 = none := by decide +kernel
theorem mKX8_withLastSyllable : mK 69 = 8 := by decide +kernel
theorem mHX8_withLastSyllable : mH 69 = 3 := by decide +kernel
theorem mNX8_withLastSyllable : mN 69 = 1 := by decide +kernel
theorem mLX8_withLastSyllable : mL 69 = 4 := by decide +kernel
theorem mTX8_withLastSyllable : mT 69 = some (.object "SubtitleStyles$Text") := by decide +kernel
theorem mKX9_init : mK 70 = 9 := by decide +kernel
theorem mHX9_init : mH 70 = 5 := by decide +kernel
theorem mNX9_init : mN 70 = 0 := by decide +kernel
theorem mLX9_init : mL 70 = 1 := by decide +kernel
theorem mTX9_init : mT 70 = none := by decide +kernel
theorem mKX9_style : mK 71 = 9 := by decide +kernel
theorem mHX9_style : mH 71 = 6 := by decide +kernel
theorem mNX9_style : mN 71 = 1 := by decide +kernel
theorem mLX9_style : mL 71 = 3 := by decide +kernel
theorem mTX9_style : mT 71 = some .int := by decide +kernel
theorem mKX9_setParent : mK 72 = 9 := by decide +kernel
theorem mHX9_setParent : mH 72 = 6 := by decide +kernel
theorem mNX9_setParent : mN 72 = 2 := by decide +kernel
theorem mLX9_setParent : mL 72 = 5 := by decide +kernel
theorem mTX9_setParent : mT 72 = some .int := by decide +kernel
theorem mKX9_setStyle : mK 73 = 9 := by decide +kernel
theorem mHX9_setStyle : mH 73 = 6 := by decide +kernel
theorem mNX9_setStyle : mN 73 = 3 := by decide +kernel
theorem mLX9_setStyle : mL 73 = 6 := by decide +kernel
theorem mTX9_setStyle : mT 73 = some .int := by decide +kernel
theorem mKX9_unstyle : mK 74 = 9 := by decide +kernel
theorem mHX9_unstyle : mH 74 = 6 := by decide +kernel
theorem mNX9_unstyle : mN 74 = 0 := by decide +kernel
theorem mLX9_unstyle : mL 74 = 3 := by decide +kernel
theorem mTX9_unstyle : mT 74 = some .int := by decide +kernel
theorem mKX9_flatten : mK 75 = 9 := by decide +kernel
theorem mHX9_flatten : mH 75 = 6 := by decide +kernel
theorem mNX9_flatten : mN 75 = 0 := by decide +kernel
theorem mLX9_flatten : mL 75 = 2 := by decide +kernel
theorem mTX9_flatten : mT 75 = some .int := by decide +kernel
theorem mKX9_styleAt : mK 76 = 9 := by decide +kernel
theorem mHX9_styleAt : mH 76 = 2 := by decide +kernel
theorem mNX9_styleAt : mN 76 = 2 := by decide +kernel
theorem mLX9_styleAt : mL 76 = 4 := by decide +kernel
theorem mTX9_styleAt : mT 76 = some .int := by decide +kernel
theorem mKX9_valueOf : mK 77 = 9 := by decide +kernel
theorem mHX9_valueOf : mH 77 = 3 := by decide +kernel
theorem mNX9_valueOf : mN 77 = 2 := by decide +kernel
theorem mLX9_valueOf : mL 77 = 3 := by decide +kernel
theorem mTX9_valueOf : mT 77 = some .int := by decide +kernel
theorem mKX9_from : mK 78 = 9 := by decide +kernel
theorem mHX9_from : mH 78 = 2 := by decide +kernel
theorem mNX9_from : mN 78 = 2 := by decide +kernel
theorem mLX9_from : mL 78 = 3 := by decide +kernel
theorem mTX9_from : mT 78 = some .int := by decide +kernel
theorem mKX9_styles : mK 79 = 9 := by decide +kernel
theorem mHX9_styles : mH 79 = 0 := by decide +kernel
theorem mNX9_styles : mN 79 = 0 := by decide +kernel
theorem mLX9_styles : mL 79 = 1 := by decide +kernel
theorem mTX9_styles : mT 79 = some .int := by decide +kernel
theorem mKX9_type : mK 80 = 9 := by decide +kernel
theorem mHX9_type : mH 80 = 1 := by decide +kernel
theorem mNX9_type : mN 80 = 1 := by decide +kernel
theorem mLX9_type : mL 80 = 2 := by decide +kernel
theorem mTX9_type : mT 80 = some .int := by decide +kernel
theorem mKX9_clear : mK 81 = 9 := by decide +kernel
theorem mHX9_clear : mH 81 = 0 := by decide +kernel
theorem mNX9_clear : mN 81 = 0 := by decide +kernel
theorem mLX9_clear : mL 81 = 2 := by decide +kernel
theorem mTX9_clear : mT 81 = some .int := by decide +kernel
theorem mKX9_line : mK 82 = 9 := by decide +kernel
theorem mHX9_line : mH 82 = 6 := by decide +kernel
theorem mNX9_line : mN 82 = 3 := by decide +kernel
theorem mLX9_line : mL 82 = 6 := by decide +kernel
theorem mTX9_line : mT 82 = some .int := by decide +kernel
theorem mKX9_remove : mK 83 = 9 := by decide +kernel
theorem mHX9_remove : mH 83 = 6 := by decide +kernel
theorem mNX9_remove : mN 83 = 1 := by decide +kernel
theorem mLX9_remove : mL 83 = 2 := by decide +kernel
theorem mTX9_remove : mT 83 = some .int := by decide +kernel
theorem mKX9_change : mK 84 = 9 := by decide +kernel
theorem mHX9_change : mH 84 = 6 := by decide +kernel
theorem mNX9_change : mN 84 = 3 := by decide +kernel
theorem mLX9_change : mL 84 = 5 := by decide +kernel
theorem mTX9_change : mT 84 = some .int := by decide +kernel
theorem mKX9_isChange : mK 85 = 9 := by decide +kernel
theorem mHX9_isChange : mH 85 = 2 := by decide +kernel
theorem mNX9_isChange : mN 85 = 2 := by decide +kernel
theorem mLX9_isChange : mL 85 = 3 := by decide +kernel
theorem mTX9_isChange : mT 85 = some .boolean := by decide +kernel
theorem mKX9_shift : mK 86 = 9 := by decide +kernel
theorem mHX9_shift : mH 86 = 6 := by decide +kernel
theorem mNX9_shift : mN 86 = 2 := by decide +kernel
theorem mLX9_shift : mL 86 = 4 := by decide +kernel
theorem mTX9_shift : mT 86 = some .int := by decide +kernel
theorem mKX9_setHeight : mK 87 = 9 := by decide +kernel
theorem mHX9_setHeight : mH 87 = 5 := by decide +kernel
theorem mNX9_setHeight : mN 87 = 1 := by decide +kernel
theorem mLX9_setHeight : mL 87 = 3 := by decide +kernel
theorem mTX9_setHeight : mT 87 = some .int := by decide +kernel
theorem mKX9_about : mK 88 = 9 := by decide +kernel
theorem mHX9_about : mH 88 = 1 := by decide +kernel
theorem mNX9_about : mN 88 = 2 := by decide +kernel
theorem mLX9_about : mL 88 = 5 := by decide +kernel
theorem mTX9_about : mT 88 = some .int := by decide +kernel
theorem mKX9_lines : mK 89 = 9 := by decide +kernel
theorem mHX9_lines : mH 89 = 0 := by decide +kernel
theorem mNX9_lines : mN 89 = 0 := by decide +kernel
theorem mLX9_lines : mL 89 = 1 := by decide +kernel
theorem mTX9_lines : mT 89 = some .int := by decide +kernel
theorem mKX9_sign : mK 90 = 9 := by decide +kernel
theorem mHX9_sign : mH 90 = 2 := by decide +kernel
theorem mNX9_sign : mN 90 = 3 := by decide +kernel
theorem mLX9_sign : mL 90 = 5 := by decide +kernel
theorem mTX9_sign : mT 90 = some .int := by decide +kernel
theorem mKX9_syllable : mK 91 = 9 := by decide +kernel
theorem mHX9_syllable : mH 91 = 2 := by decide +kernel
theorem mNX9_syllable : mN 91 = 3 := by decide +kernel
theorem mLX9_syllable : mL 91 = 5 := by decide +kernel
theorem mTX9_syllable : mT 91 = some .int := by decide +kernel
theorem mKX9_fit : mK 92 = 9 := by decide +kernel
theorem mHX9_fit : mH 92 = 6 := by decide +kernel
theorem mNX9_fit : mN 92 = 1 := by decide +kernel
theorem mLX9_fit : mL 92 = 7 := by decide +kernel
theorem mTX9_fit : mT 92 = some .int := by decide +kernel
theorem mKX9_shows : mK 93 = 9 := by decide +kernel
theorem mHX9_shows : mH 93 = 3 := by decide +kernel
theorem mNX9_shows : mN 93 = 3 := by decide +kernel
theorem mLX9_shows : mL 93 = 6 := by decide +kernel
theorem mTX9_shows : mT 93 = some .int := by decide +kernel
theorem mKX9_shown : mK 94 = 9 := by decide +kernel
theorem mHX9_shown : mH 94 = 3 := by decide +kernel
theorem mNX9_shown : mN 94 = 2 := by decide +kernel
theorem mLX9_shown : mL 94 = 4 := by decide +kernel
theorem mTX9_shown : mT 94 = some .int := by decide +kernel
theorem mKX9_crowd : mK 95 = 9 := by decide +kernel
theorem mHX9_crowd : mH 95 = 3 := by decide +kernel
theorem mNX9_crowd : mN 95 = 0 := by decide +kernel
theorem mLX9_crowd : mL 95 = 6 := by decide +kernel
theorem mTX9_crowd : mT 95 = some .int := by decide +kernel
theorem mKX9_sung : mK 96 = 9 := by decide +kernel
theorem mHX9_sung : mH 96 = 4 := by decide +kernel
theorem mNX9_sung : mN 96 = 1 := by decide +kernel
theorem mLX9_sung : mL 96 = 6 := by decide +kernel
theorem mTX9_sung : mT 96 = some .float := by decide +kernel
theorem mKX9_unlike : mK 97 = 9 := by decide +kernel
theorem mHX9_unlike : mH 97 = 5 := by decide +kernel
theorem mNX9_unlike : mN 97 = 0 := by decide +kernel
theorem mLX9_unlike : mL 97 = 5 := by decide +kernel
theorem mTX9_unlike : mT 97 = some .int := by decide +kernel
theorem mKX9_undo : mK 98 = 9 := by decide +kernel
theorem mHX9_undo : mH 98 = 6 := by decide +kernel
theorem mNX9_undo : mN 98 = 0 := by decide +kernel
theorem mLX9_undo : mL 98 = 1 := by decide +kernel
theorem mTX9_undo : mT 98 = some .int := by decide +kernel
theorem mKX9_fingerprint : mK 99 = 9 := by decide +kernel
theorem mHX9_fingerprint : mH 99 = 6 := by decide +kernel
theorem mNX9_fingerprint : mN 99 = 0 := by decide +kernel
theorem mLX9_fingerprint : mL 99 = 4 := by decide +kernel
theorem mTX9_fingerprint : mT 99 = some .long := by decide +kernel
theorem mKX9_mix : mK 100 = 9 := by decide +kernel
theorem mHX9_mix : mH 100 = 0 := by decide +kernel
theorem mNX9_mix : mN 100 = 2 := by decide +kernel
theorem mLX9_mix : mL 100 = 3 := by decide +kernel
theorem mTX9_mix : mT 100 = some .long := by decide +kernel
theorem mKX9_mixStyle : mK 101 = 9 := by decide +kernel
theorem mHX9_mixStyle : mH 101 = 4 := by decide +kernel
theorem mNX9_mixStyle : mN 101 = 2 := by decide +kernel
theorem mLX9_mixStyle : mL 101 = 7 := by decide +kernel
theorem mTX9_mixStyle : mT 101 = some .long := by decide +kernel
theorem mKX9_mixLine : mK 102 = 9 := by decide +kernel
theorem mHX9_mixLine : mH 102 = 3 := by decide +kernel
theorem mNX9_mixLine : mN 102 = 2 := by decide +kernel
theorem mLX9_mixLine : mL 102 = 10 := by decide +kernel
theorem mTX9_mixLine : mT 102 = some .long := by decide +kernel
theorem mKX9_isProperty : mK 103 = 9 := by decide +kernel
theorem mHX9_isProperty : mH 103 = 0 := by decide +kernel
theorem mNX9_isProperty : mN 103 = 1 := by decide +kernel
theorem mLX9_isProperty : mL 103 = 1 := by decide +kernel
theorem mTX9_isProperty : mT 103 = some .boolean := by decide +kernel
theorem mKX9_allows : mK 104 = 9 := by decide +kernel
theorem mHX9_allows : mH 104 = 0 := by decide +kernel
theorem mNX9_allows : mN 104 = 2 := by decide +kernel
theorem mLX9_allows : mL 104 = 2 := by decide +kernel
theorem mTX9_allows : mT 104 = some .boolean := by decide +kernel
theorem mKX9_basicValue : mK 105 = 9 := by decide +kernel
theorem mHX9_basicValue : mH 105 = 0 := by decide +kernel
theorem mNX9_basicValue : mN 105 = 1 := by decide +kernel
theorem mLX9_basicValue : mL 105 = 1 := by decide +kernel
theorem mTX9_basicValue : mT 105 = some .int := by decide +kernel
theorem mKX9_propertyOfTag : mK 106 = 9 := by decide +kernel
theorem mHX9_propertyOfTag : mH 106 = 0 := by decide +kernel
theorem mNX9_propertyOfTag : mN 106 = 1 := by decide +kernel
theorem mLX9_propertyOfTag : mL 106 = 1 := by decide +kernel
theorem mTX9_propertyOfTag : mT 106 = some .int := by decide +kernel
theorem mKL_cell : mK 107 = 11 := by decide +kernel
theorem mHL_cell : mH 107 = 0 := by decide +kernel
theorem mNL_cell : mN 107 = 2 := by decide +kernel
theorem mLL_cell : mL 107 = 2 := by decide +kernel
theorem mTL_cell : mT 107 = some .int := by decide +kernel
theorem mKL_up : mK 108 = 11 := by decide +kernel
theorem mHL_up : mH 108 = 0 := by decide +kernel
theorem mNL_up : mN 108 = 2 := by decide +kernel
theorem mLL_up : mL 108 = 2 := by decide +kernel
theorem mTL_up : mT 108 = some .int := by decide +kernel
theorem mKL_fails : mK 109 = 11 := by decide +kernel
theorem mHL_fails : mH 109 = 7 := by decide +kernel
theorem mNL_fails : mN 109 = 1 := by decide +kernel
theorem mLL_fails : mL 109 = 6 := by decide +kernel
theorem mTL_fails : mT 109 = some .boolean := by decide +kernel
theorem mKL_basic : mK 110 = 11 := by decide +kernel
theorem mHL_basic : mH 110 = 0 := by decide +kernel
theorem mNL_basic : mN 110 = 1 := by decide +kernel
theorem mLL_basic : mL 110 = 1 := by decide +kernel
theorem mTL_basic : mT 110 = some .int := by decide +kernel
theorem mKL_styles : mK 111 = 11 := by decide +kernel
theorem mHL_styles : mH 111 = 7 := by decide +kernel
theorem mNL_styles : mN 111 = 1 := by decide +kernel
theorem mLL_styles : mL 111 = 8 := by decide +kernel
theorem mTL_styles : mT 111 = some .boolean := by decide +kernel
theorem mKL_line : mK 112 = 11 := by decide +kernel
theorem mHL_line : mH 112 = 7 := by decide +kernel
theorem mNL_line : mN 112 = 2 := by decide +kernel
theorem mLL_line : mL 112 = 21 := by decide +kernel
theorem mTL_line : mT 112 = some .boolean := by decide +kernel
theorem mKL_shown : mK 113 = 11 := by decide +kernel
theorem mHL_shown : mH 113 = 7 := by decide +kernel
theorem mNL_shown : mN 113 = 2 := by decide +kernel
theorem mLL_shown : mL 113 = 9 := by decide +kernel
theorem mTL_shown : mT 113 = some .boolean := by decide +kernel
theorem mKL_flattens : mK 114 = 11 := by decide +kernel
theorem mHL_flattens : mH 114 = 7 := by decide +kernel
theorem mNL_flattens : mN 114 = 1 := by decide +kernel
theorem mLL_flattens : mL 114 = 7 := by decide +kernel
theorem mTL_flattens : mT 114 = some .boolean := by decide +kernel
theorem mKL_types : mK 115 = 11 := by decide +kernel
theorem mHL_types : mH 115 = 7 := by decide +kernel
theorem mNL_types : mN 115 = 3 := by decide +kernel
theorem mLL_types : mL 115 = 9 := by decide +kernel
theorem mTL_types : mT 115 = some .int := by decide +kernel
theorem mKL_law : mK 116 = 11 := by decide +kernel
theorem mHL_law : mH 116 = 9 := by decide +kernel
theorem mNL_law : mN 116 = 1 := by decide +kernel
theorem mLL_law : mL 116 = 17 := by decide +kernel
theorem mTL_law : mT 116 = some .boolean := by decide +kernel
theorem zf_9_14 : zfld 9 14 = some (9, 0) := by decide +kernel
theorem zf_9_18 : zfld 9 18 = some (9, 1) := by decide +kernel
theorem zf_9_25 : zfld 9 25 = some (9, 2) := by decide +kernel
theorem zf_9_32 : zfld 9 32 = some (9, 3) := by decide +kernel
theorem zf_9_39 : zfld 9 39 = some (9, 4) := by decide +kernel
theorem zf_9_46 : zfld 9 46 = some (9, 5) := by decide +kernel
theorem zf_9_53 : zfld 9 53 = some (9, 6) := by decide +kernel
theorem zf_9_60 : zfld 9 60 = some (9, 7) := by decide +kernel
theorem zf_9_64 : zfld 9 64 = some (6, 0) := by decide +kernel
theorem zf_9_71 : zfld 9 71 = some (7, 0) := by decide +kernel
theorem zf_9_91 : zfld 9 91 = some (7, 1) := by decide +kernel
theorem zf_9_139 : zfld 9 139 = some (6, 2) := by decide +kernel
theorem zf_9_146 : zfld 9 146 = some (4, 0) := by decide +kernel
theorem zf_9_149 : zfld 9 149 = some (4, 1) := by decide +kernel
theorem zf_9_152 : zfld 9 152 = some (4, 2) := by decide +kernel
theorem zf_9_187 : zfld 9 187 = some (1, 2) := by decide +kernel
theorem zf_9_190 : zfld 9 190 = some (1, 3) := by decide +kernel
theorem zf_9_194 : zfld 9 194 = some (1, 0) := by decide +kernel
theorem zf_9_197 : zfld 9 197 = some (1, 1) := by decide +kernel
theorem zf_9_203 : zfld 9 203 = some (6, 3) := by decide +kernel
theorem zf_9_210 : zfld 9 210 = some (2, 6) := by decide +kernel
theorem zf_9_213 : zfld 9 213 = some (2, 8) := by decide +kernel
theorem zf_9_216 : zfld 9 216 = some (2, 10) := by decide +kernel
theorem zf_9_219 : zfld 9 219 = some (2, 4) := by decide +kernel
theorem zf_9_220 : zfld 9 220 = some (2, 5) := by decide +kernel
theorem zf_9_223 : zfld 9 223 = some (2, 2) := by decide +kernel
theorem zf_9_238 : zfld 9 238 = some (1, 4) := by decide +kernel
theorem zf_9_281 : zfld 9 281 = some (0, 2) := by decide +kernel
theorem zf_0_11 : zfld 0 11 = some (0, 0) := by decide +kernel
theorem zf_0_18 : zfld 0 18 = some (0, 1) := by decide +kernel
theorem zf_0_22 : zfld 0 22 = some (0, 2) := by decide +kernel
theorem zf_1_7 : zfld 1 7 = some (1, 0) := by decide +kernel
theorem zf_1_13 : zfld 1 13 = some (1, 1) := by decide +kernel
theorem zf_1_16 : zfld 1 16 = some (1, 2) := by decide +kernel
theorem zf_1_19 : zfld 1 19 = some (1, 3) := by decide +kernel
theorem zf_1_22 : zfld 1 22 = some (1, 4) := by decide +kernel
theorem zf_2_14 : zfld 2 14 = some (2, 7) := by decide +kernel
theorem zf_2_20 : zfld 2 20 = some (2, 9) := by decide +kernel
theorem zf_2_23 : zfld 2 23 = some (2, 11) := by decide +kernel
theorem zf_2_26 : zfld 2 26 = some (1, 0) := by decide +kernel
theorem zf_2_32 : zfld 2 32 = some (2, 0) := by decide +kernel
theorem zf_2_33 : zfld 2 33 = some (1, 1) := by decide +kernel
theorem zf_2_36 : zfld 2 36 = some (2, 1) := by decide +kernel
theorem zf_2_37 : zfld 2 37 = some (1, 2) := by decide +kernel
theorem zf_2_46 : zfld 2 46 = some (2, 2) := by decide +kernel
theorem zf_2_49 : zfld 2 49 = some (1, 3) := by decide +kernel
theorem zf_2_52 : zfld 2 52 = some (2, 3) := by decide +kernel
theorem zf_2_53 : zfld 2 53 = some (2, 6) := by decide +kernel
theorem zf_2_56 : zfld 2 56 = some (2, 8) := by decide +kernel
theorem zf_2_59 : zfld 2 59 = some (2, 10) := by decide +kernel
theorem zf_2_62 : zfld 2 62 = some (2, 4) := by decide +kernel
theorem zf_2_69 : zfld 2 69 = some (1, 4) := by decide +kernel
theorem zf_2_73 : zfld 2 73 = some (8, 0) := by decide +kernel
theorem zf_2_78 : zfld 2 78 = some (8, 1) := by decide +kernel
theorem zf_2_85 : zfld 2 85 = some (8, 2) := by decide +kernel
theorem zf_2_120 : zfld 2 120 = some (2, 5) := by decide +kernel
theorem zf_3_11 : zfld 3 11 = some (3, 0) := by decide +kernel
theorem zf_3_18 : zfld 3 18 = some (3, 1) := by decide +kernel
theorem zf_3_27 : zfld 3 27 = some (3, 2) := by decide +kernel
theorem zf_3_31 : zfld 3 31 = some (6, 2) := by decide +kernel
theorem zf_3_42 : zfld 3 42 = some (6, 0) := by decide +kernel
theorem zf_3_61 : zfld 3 61 = some (2, 5) := by decide +kernel
theorem zf_3_64 : zfld 3 64 = some (2, 0) := by decide +kernel
theorem zf_3_74 : zfld 3 74 = some (2, 3) := by decide +kernel
theorem zf_3_81 : zfld 3 81 = some (2, 4) := by decide +kernel
theorem zf_4_14 : zfld 4 14 = some (4, 0) := by decide +kernel
theorem zf_4_20 : zfld 4 20 = some (4, 1) := by decide +kernel
theorem zf_4_23 : zfld 4 23 = some (4, 2) := by decide +kernel
theorem zf_4_27 : zfld 4 27 = some (4, 3) := by decide +kernel
theorem zf_4_30 : zfld 4 30 = some (4, 4) := by decide +kernel
theorem zf_4_33 : zfld 4 33 = some (4, 5) := by decide +kernel
theorem zf_4_50 : zfld 4 50 = some (4, 6) := by decide +kernel
theorem zf_4_53 : zfld 4 53 = some (4, 7) := by decide +kernel
theorem zf_5_7 : zfld 5 7 = some (5, 0) := by decide +kernel
theorem zf_6_12 : zfld 6 12 = some (6, 0) := by decide +kernel
theorem zf_6_20 : zfld 6 20 = some (6, 1) := by decide +kernel
theorem zf_6_24 : zfld 6 24 = some (6, 2) := by decide +kernel
theorem zf_6_28 : zfld 6 28 = some (6, 3) := by decide +kernel
theorem zf_6_43 : zfld 6 43 = some (1, 2) := by decide +kernel
theorem zf_7_9 : zfld 7 9 = some (7, 0) := by decide +kernel
theorem zf_7_20 : zfld 7 20 = some (7, 1) := by decide +kernel
theorem zf_7_24 : zfld 7 24 = some (7, 2) := by decide +kernel
theorem zf_8_9 : zfld 8 9 = some (8, 0) := by decide +kernel
theorem zf_8_20 : zfld 8 20 = some (8, 1) := by decide +kernel
theorem zf_8_24 : zfld 8 24 = some (8, 2) := by decide +kernel
theorem zm_9_11 : zmth 9 11 = some (43, 1) := by decide +kernel
theorem zm_9_24 : zmth 9 24 = some (35, 1) := by decide +kernel
theorem zm_9_31 : zmth 9 31 = some (47, 1) := by decide +kernel
theorem zm_9_38 : zmth 9 38 = some (0, 1) := by decide +kernel
theorem zm_9_45 : zmth 9 45 = some (25, 1) := by decide +kernel
theorem zm_9_52 : zmth 9 52 = some (54, 1) := by decide +kernel
theorem zm_9_59 : zmth 9 59 = some (9, 1) := by decide +kernel
theorem zm_9_67 : zmth 9 67 = some (57, 0) := by decide +kernel
theorem zm_9_74 : zmth 9 74 = some (1, 0) := by decide +kernel
theorem zm_9_78 : zmth 9 78 = some (58, 0) := by decide +kernel
theorem zm_9_81 : zmth 9 81 = some (26, 0) := by decide +kernel
theorem zm_9_84 : zmth 9 84 = some (56, 0) := by decide +kernel
theorem zm_9_87 : zmth 9 87 = some (64, 0) := by decide +kernel
theorem zm_9_94 : zmth 9 94 = some (44, 0) := by decide +kernel
theorem zm_9_98 : zmth 9 98 = some (45, 0) := by decide +kernel
theorem zm_9_102 : zmth 9 102 = some (103, 2) := by decide +kernel
theorem zm_9_105 : zmth 9 105 = some (104, 2) := by decide +kernel
theorem zm_9_108 : zmth 9 108 = some (60, 0) := by decide +kernel
theorem zm_9_112 : zmth 9 112 = some (61, 0) := by decide +kernel
theorem zm_9_116 : zmth 9 116 = some (66, 0) := by decide +kernel
theorem zm_9_119 : zmth 9 119 = some (53, 0) := by decide +kernel
theorem zm_9_122 : zmth 9 122 = some (59, 0) := by decide +kernel
theorem zm_9_125 : zmth 9 125 = some (67, 0) := by decide +kernel
theorem zm_9_129 : zmth 9 129 = some (65, 0) := by decide +kernel
theorem zm_9_132 : zmth 9 132 = some (63, 0) := by decide +kernel
theorem zm_9_135 : zmth 9 135 = some (62, 0) := by decide +kernel
theorem zm_9_140 : zmth 9 140 = some (36, 0) := by decide +kernel
theorem zm_9_155 : zmth 9 155 = some (68, 1) := by decide +kernel
theorem zm_9_160 : zmth 9 160 = some (4, 1) := by decide +kernel
theorem zm_9_163 : zmth 9 163 = some (51, 0) := by decide +kernel
theorem zm_9_167 : zmth 9 167 = some (49, 0) := by decide +kernel
theorem zm_9_171 : zmth 9 171 = some (52, 0) := by decide +kernel
theorem zm_9_174 : zmth 9 174 = some (85, 0) := by decide +kernel
theorem zm_9_177 : zmth 9 177 = some (5, 0) := by decide +kernel
theorem zm_9_180 : zmth 9 180 = some (6, 0) := by decide +kernel
theorem zm_9_183 : zmth 9 183 = some (50, 0) := by decide +kernel
theorem zm_9_200 : zmth 9 200 = some (8, 0) := by decide +kernel
theorem zm_9_206 : zmth 9 206 = some (27, 0) := by decide +kernel
theorem zm_9_226 : zmth 9 226 = some (14, 0) := by decide +kernel
theorem zm_9_229 : zmth 9 229 = some (15, 0) := by decide +kernel
theorem zm_9_232 : zmth 9 232 = some (16, 0) := by decide +kernel
theorem zm_9_235 : zmth 9 235 = some (17, 0) := by decide +kernel
theorem zm_9_242 : zmth 9 242 = some (69, 0) := by decide +kernel
theorem zm_9_246 : zmth 9 246 = some (7, 0) := by decide +kernel
theorem zm_9_250 : zmth 9 250 = some (18, 0) := by decide +kernel
theorem zm_9_253 : zmth 9 253 = some (19, 0) := by decide +kernel
theorem zm_9_256 : zmth 9 256 = some (31, 0) := by decide +kernel
theorem zm_9_258 : zmth 9 258 = some (33, 0) := by decide +kernel
theorem zm_9_261 : zmth 9 261 = some (28, 0) := by decide +kernel
theorem zm_9_264 : zmth 9 264 = some (32, 0) := by decide +kernel
theorem zm_9_267 : zmth 9 267 = some (20, 0) := by decide +kernel
theorem zm_9_270 : zmth 9 270 = some (55, 0) := by decide +kernel
theorem zm_9_274 : zmth 9 274 = some (10, 0) := by decide +kernel
theorem zm_9_277 : zmth 9 277 = some (21, 0) := by decide +kernel
theorem zm_9_282 : zmth 9 282 = some (2, 0) := by decide +kernel
theorem zm_9_287 : zmth 9 287 = some (79, 0) := by decide +kernel
theorem zm_9_290 : zmth 9 290 = some (100, 2) := by decide +kernel
theorem zm_9_294 : zmth 9 294 = some (101, 0) := by decide +kernel
theorem zm_9_297 : zmth 9 297 = some (89, 0) := by decide +kernel
theorem zm_9_300 : zmth 9 300 = some (102, 0) := by decide +kernel
theorem zm_9_303 : zmth 9 303 = some (95, 0) := by decide +kernel
theorem zm_9_306 : zmth 9 306 = some (97, 0) := by decide +kernel
theorem zm_9_311 : zmth 9 311 = some (76, 0) := by decide +kernel
theorem zm_9_314 : zmth 9 314 = some (77, 0) := by decide +kernel
theorem zm_9_317 : zmth 9 317 = some (88, 0) := by decide +kernel
theorem zm_9_320 : zmth 9 320 = some (90, 0) := by decide +kernel
theorem zm_9_324 : zmth 9 324 = some (91, 0) := by decide +kernel
theorem zm_0_17 : zmth 0 17 = some (47, 1) := by decide +kernel
theorem zm_0_25 : zmth 0 25 = some (3, 0) := by decide +kernel
theorem zm_0_29 : zmth 0 29 = some (48, 0) := by decide +kernel
theorem zm_1_26 : zmth 1 26 = some (4, 1) := by decide +kernel
theorem zm_2_11 : zmth 2 11 = some (43, 1) := by decide +kernel
theorem zm_2_40 : zmth 2 40 = some (63, 0) := by decide +kernel
theorem zm_2_65 : zmth 2 65 = some (11, 0) := by decide +kernel
theorem zm_2_81 : zmth 2 81 = some (44, 0) := by decide +kernel
theorem zm_2_88 : zmth 2 88 = some (12, 0) := by decide +kernel
theorem zm_2_91 : zmth 2 91 = some (13, 0) := by decide +kernel
theorem zm_2_94 : zmth 2 94 = some (106, 3) := by decide +kernel
theorem zm_2_97 : zmth 2 97 = some (45, 0) := by decide +kernel
theorem zm_2_106 : zmth 2 106 = some (15, 0) := by decide +kernel
theorem zm_2_109 : zmth 2 109 = some (17, 0) := by decide +kernel
theorem zm_2_112 : zmth 2 112 = some (19, 0) := by decide +kernel
theorem zm_2_116 : zmth 2 116 = some (22, 0) := by decide +kernel
theorem zm_3_17 : zmth 3 17 = some (9, 1) := by decide +kernel
theorem zm_3_24 : zmth 3 24 = some (43, 1) := by decide +kernel
theorem zm_3_34 : zmth 3 34 = some (49, 0) := by decide +kernel
theorem zm_3_38 : zmth 3 38 = some (27, 0) := by decide +kernel
theorem zm_3_46 : zmth 3 46 = some (10, 0) := by decide +kernel
theorem zm_3_50 : zmth 3 50 = some (29, 0) := by decide +kernel
theorem zm_3_53 : zmth 3 53 = some (44, 0) := by decide +kernel
theorem zm_3_57 : zmth 3 57 = some (30, 0) := by decide +kernel
theorem zm_3_67 : zmth 3 67 = some (28, 0) := by decide +kernel
theorem zm_3_70 : zmth 3 70 = some (45, 0) := by decide +kernel
theorem zm_3_77 : zmth 3 77 = some (23, 0) := by decide +kernel
theorem zm_3_84 : zmth 3 84 = some (18, 0) := by decide +kernel
theorem zm_3_88 : zmth 3 88 = some (31, 0) := by decide +kernel
theorem zm_3_91 : zmth 3 91 = some (34, 0) := by decide +kernel
theorem zm_3_94 : zmth 3 94 = some (24, 0) := by decide +kernel
theorem zm_4_11 : zmth 4 11 = some (43, 1) := by decide +kernel
theorem zm_4_36 : zmth 4 36 = some (44, 0) := by decide +kernel
theorem zm_4_40 : zmth 4 40 = some (37, 0) := by decide +kernel
theorem zm_4_44 : zmth 4 44 = some (38, 0) := by decide +kernel
theorem zm_4_47 : zmth 4 47 = some (39, 0) := by decide +kernel
theorem zm_4_56 : zmth 4 56 = some (40, 0) := by decide +kernel
theorem zm_4_59 : zmth 4 59 = some (42, 0) := by decide +kernel
theorem zm_4_62 : zmth 4 62 = some (106, 3) := by decide +kernel
theorem zm_4_65 : zmth 4 65 = some (41, 0) := by decide +kernel
theorem zm_4_69 : zmth 4 69 = some (104, 3) := by decide +kernel
theorem zm_4_73 : zmth 4 73 = some (45, 0) := by decide +kernel
theorem zm_5_13 : zmth 5 13 = some (44, 0) := by decide +kernel
theorem zm_6_11 : zmth 6 11 = some (54, 1) := by decide +kernel
theorem zm_6_31 : zmth 6 31 = some (55, 0) := by decide +kernel
theorem zm_6_35 : zmth 6 35 = some (49, 0) := by decide +kernel
theorem zm_6_39 : zmth 6 39 = some (50, 0) := by decide +kernel
theorem zm_7_17 : zmth 7 17 = some (43, 1) := by decide +kernel
theorem zm_7_27 : zmth 7 27 = some (46, 0) := by decide +kernel
theorem zm_7_31 : zmth 7 31 = some (56, 0) := by decide +kernel
theorem zm_7_35 : zmth 7 35 = some (45, 0) := by decide +kernel
theorem zm_7_39 : zmth 7 39 = some (61, 0) := by decide +kernel
theorem zm_7_43 : zmth 7 43 = some (44, 0) := by decide +kernel
theorem zm_7_47 : zmth 7 47 = some (62, 0) := by decide +kernel
theorem zm_7_51 : zmth 7 51 = some (105, 3) := by decide +kernel
theorem zm_7_54 : zmth 7 54 = some (60, 0) := by decide +kernel
theorem zm_7_57 : zmth 7 57 = some (63, 0) := by decide +kernel
theorem zm_8_17 : zmth 8 17 = some (43, 1) := by decide +kernel
theorem zm_8_27 : zmth 8 27 = some (46, 0) := by decide +kernel
theorem zm_8_31 : zmth 8 31 = some (68, 1) := by decide +kernel
theorem zm_8_34 : zmth 8 34 = some (44, 0) := by decide +kernel
theorem zm_8_38 : zmth 8 38 = some (45, 0) := by decide +kernel
theorem zm_11_9 : zmth 11 9 = some (99, 0) := by decide +kernel
theorem zm_11_15 : zmth 11 15 = some (79, 0) := by decide +kernel
theorem zm_11_19 : zmth 11 19 = some (89, 0) := by decide +kernel
theorem zm_11_22 : zmth 11 22 = some (71, 0) := by decide +kernel
theorem zm_11_26 : zmth 11 26 = some (72, 0) := by decide +kernel
theorem zm_11_30 : zmth 11 30 = some (73, 0) := by decide +kernel
theorem zm_11_34 : zmth 11 34 = some (76, 0) := by decide +kernel
theorem zm_11_37 : zmth 11 37 = some (77, 0) := by decide +kernel
theorem zm_11_40 : zmth 11 40 = some (78, 0) := by decide +kernel
theorem zm_11_43 : zmth 11 43 = some (80, 0) := by decide +kernel
theorem zm_11_46 : zmth 11 46 = some (82, 0) := by decide +kernel
theorem zm_11_50 : zmth 11 50 = some (83, 0) := by decide +kernel
theorem zm_11_53 : zmth 11 53 = some (84, 0) := by decide +kernel
theorem zm_11_56 : zmth 11 56 = some (86, 0) := by decide +kernel
theorem zm_11_59 : zmth 11 59 = some (87, 0) := by decide +kernel
theorem zm_11_62 : zmth 11 62 = some (88, 0) := by decide +kernel
theorem zm_11_65 : zmth 11 65 = some (90, 0) := by decide +kernel
theorem zm_11_68 : zmth 11 68 = some (91, 0) := by decide +kernel
theorem zm_11_71 : zmth 11 71 = some (92, 0) := by decide +kernel
theorem zm_11_74 : zmth 11 74 = some (93, 0) := by decide +kernel
theorem zm_11_77 : zmth 11 77 = some (94, 0) := by decide +kernel
theorem zm_11_81 : zmth 11 81 = some (74, 0) := by decide +kernel
theorem zm_11_84 : zmth 11 84 = some (95, 0) := by decide +kernel
theorem zm_11_87 : zmth 11 87 = some (110, 2) := by decide +kernel
theorem zm_11_92 : zmth 11 92 = some (96, 0) := by decide +kernel
theorem zm_11_96 : zmth 11 96 = some (97, 0) := by decide +kernel
theorem zm_11_99 : zmth 11 99 = some (75, 0) := by decide +kernel
theorem zm_11_102 : zmth 11 102 = some (98, 0) := by decide +kernel
theorem zm_11_105 : zmth 11 105 = some (108, 2) := by decide +kernel
theorem zm_11_108 : zmth 11 108 = some (70, 1) := by decide +kernel
theorem zm_11_109 : zmth 11 109 = some (109, 2) := by decide +kernel
theorem zm_11_113 : zmth 11 113 = some (107, 2) := by decide +kernel
theorem zm_11_117 : zmth 11 117 = some (115, 2) := by decide +kernel
theorem zm_11_121 : zmth 11 121 = some (81, 0) := by decide +kernel
theorem zm_11_124 : zmth 11 124 = some (114, 2) := by decide +kernel
theorem zm_11_127 : zmth 11 127 = some (112, 2) := by decide +kernel
theorem zm_11_130 : zmth 11 130 = some (111, 2) := by decide +kernel
theorem zm_11_132 : zmth 11 132 = some (113, 2) := by decide +kernel
theorem gG0_0 {v0 v1 v2 : Value} {K : Value → Prop} : zG (some (.inr (0, [v0, v1, v2]))) 0 0 K = K v0 := rfl
theorem gP0_0 {v0 v1 v2 w : Value} {h : Hp} {a : Nat} {K : Hp → Prop} : zPf (some (.inr (0, [v0, v1, v2]))) h a 0 0 w K = K (hset h a (.inr (0, [w, v1, v2]))) := rfl
theorem zfin_0_0 : (zT 0 0).2.2.2 = true := by decide +kernel
theorem gG0_1 {v0 v1 v2 : Value} {K : Value → Prop} : zG (some (.inr (0, [v0, v1, v2]))) 0 1 K = K v1 := rfl
theorem gP0_1 {v0 v1 v2 w : Value} {h : Hp} {a : Nat} {K : Hp → Prop} : zPf (some (.inr (0, [v0, v1, v2]))) h a 0 1 w K = K (hset h a (.inr (0, [v0, w, v2]))) := rfl
theorem zfin_0_1 : (zT 0 1).2.2.2 = false := by decide +kernel
theorem gG0_2 {v0 v1 v2 : Value} {K : Value → Prop} : zG (some (.inr (0, [v0, v1, v2]))) 0 2 K = K v2 := rfl
theorem gP0_2 {v0 v1 v2 w : Value} {h : Hp} {a : Nat} {K : Hp → Prop} : zPf (some (.inr (0, [v0, v1, v2]))) h a 0 2 w K = K (hset h a (.inr (0, [v0, v1, w]))) := rfl
theorem zfin_0_2 : (zT 0 2).2.2.2 = false := by decide +kernel
theorem gG1_0 {v0 v1 v2 v3 v4 : Value} {K : Value → Prop} : zG (some (.inr (1, [v0, v1, v2, v3, v4]))) 1 0 K = K v0 := rfl
theorem gP1_0 {v0 v1 v2 v3 v4 w : Value} {h : Hp} {a : Nat} {K : Hp → Prop} : zPf (some (.inr (1, [v0, v1, v2, v3, v4]))) h a 1 0 w K = K (hset h a (.inr (1, [w, v1, v2, v3, v4]))) := rfl
theorem zfin_1_0 : (zT 1 0).2.2.2 = true := by decide +kernel
theorem gG1_1 {v0 v1 v2 v3 v4 : Value} {K : Value → Prop} : zG (some (.inr (1, [v0, v1, v2, v3, v4]))) 1 1 K = K v1 := rfl
theorem gP1_1 {v0 v1 v2 v3 v4 w : Value} {h : Hp} {a : Nat} {K : Hp → Prop} : zPf (some (.inr (1, [v0, v1, v2, v3, v4]))) h a 1 1 w K = K (hset h a (.inr (1, [v0, w, v2, v3, v4]))) := rfl
theorem zfin_1_1 : (zT 1 1).2.2.2 = true := by decide +kernel
theorem gG1_2 {v0 v1 v2 v3 v4 : Value} {K : Value → Prop} : zG (some (.inr (1, [v0, v1, v2, v3, v4]))) 1 2 K = K v2 := rfl
theorem gP1_2 {v0 v1 v2 v3 v4 w : Value} {h : Hp} {a : Nat} {K : Hp → Prop} : zPf (some (.inr (1, [v0, v1, v2, v3, v4]))) h a 1 2 w K = K (hset h a (.inr (1, [v0, v1, w, v3, v4]))) := rfl
theorem zfin_1_2 : (zT 1 2).2.2.2 = true := by decide +kernel
theorem gG1_3 {v0 v1 v2 v3 v4 : Value} {K : Value → Prop} : zG (some (.inr (1, [v0, v1, v2, v3, v4]))) 1 3 K = K v3 := rfl
theorem gP1_3 {v0 v1 v2 v3 v4 w : Value} {h : Hp} {a : Nat} {K : Hp → Prop} : zPf (some (.inr (1, [v0, v1, v2, v3, v4]))) h a 1 3 w K = K (hset h a (.inr (1, [v0, v1, v2, w, v4]))) := rfl
theorem zfin_1_3 : (zT 1 3).2.2.2 = true := by decide +kernel
theorem gG1_4 {v0 v1 v2 v3 v4 : Value} {K : Value → Prop} : zG (some (.inr (1, [v0, v1, v2, v3, v4]))) 1 4 K = K v4 := rfl
theorem gP1_4 {v0 v1 v2 v3 v4 w : Value} {h : Hp} {a : Nat} {K : Hp → Prop} : zPf (some (.inr (1, [v0, v1, v2, v3, v4]))) h a 1 4 w K = K (hset h a (.inr (1, [v0, v1, v2, v3, w]))) := rfl
theorem zfin_1_4 : (zT 1 4).2.2.2 = true := by decide +kernel
theorem gG2_0 {v0 v1 v2 v3 v4 v5 v6 v7 v8 v9 v10 v11 : Value} {K : Value → Prop} : zG (some (.inr (2, [v0, v1, v2, v3, v4, v5, v6, v7, v8, v9, v10, v11]))) 2 0 K = K v0 := rfl
theorem gP2_0 {v0 v1 v2 v3 v4 v5 v6 v7 v8 v9 v10 v11 w : Value} {h : Hp} {a : Nat} {K : Hp → Prop} : zPf (some (.inr (2, [v0, v1, v2, v3, v4, v5, v6, v7, v8, v9, v10, v11]))) h a 2 0 w K = K (hset h a (.inr (2, [w, v1, v2, v3, v4, v5, v6, v7, v8, v9, v10, v11]))) := rfl
theorem zfin_2_0 : (zT 2 0).2.2.2 = false := by decide +kernel
theorem gG2_1 {v0 v1 v2 v3 v4 v5 v6 v7 v8 v9 v10 v11 : Value} {K : Value → Prop} : zG (some (.inr (2, [v0, v1, v2, v3, v4, v5, v6, v7, v8, v9, v10, v11]))) 2 1 K = K v1 := rfl
theorem gP2_1 {v0 v1 v2 v3 v4 v5 v6 v7 v8 v9 v10 v11 w : Value} {h : Hp} {a : Nat} {K : Hp → Prop} : zPf (some (.inr (2, [v0, v1, v2, v3, v4, v5, v6, v7, v8, v9, v10, v11]))) h a 2 1 w K = K (hset h a (.inr (2, [v0, w, v2, v3, v4, v5, v6, v7, v8, v9, v10, v11]))) := rfl
theorem zfin_2_1 : (zT 2 1).2.2.2 = false := by decide +kernel
theorem gG2_2 {v0 v1 v2 v3 v4 v5 v6 v7 v8 v9 v10 v11 : Value} {K : Value → Prop} : zG (some (.inr (2, [v0, v1, v2, v3, v4, v5, v6, v7, v8, v9, v10, v11]))) 2 2 K = K v2 := rfl
theorem gP2_2 {v0 v1 v2 v3 v4 v5 v6 v7 v8 v9 v10 v11 w : Value} {h : Hp} {a : Nat} {K : Hp → Prop} : zPf (some (.inr (2, [v0, v1, v2, v3, v4, v5, v6, v7, v8, v9, v10, v11]))) h a 2 2 w K = K (hset h a (.inr (2, [v0, v1, w, v3, v4, v5, v6, v7, v8, v9, v10, v11]))) := rfl
theorem zfin_2_2 : (zT 2 2).2.2.2 = false := by decide +kernel
theorem gG2_3 {v0 v1 v2 v3 v4 v5 v6 v7 v8 v9 v10 v11 : Value} {K : Value → Prop} : zG (some (.inr (2, [v0, v1, v2, v3, v4, v5, v6, v7, v8, v9, v10, v11]))) 2 3 K = K v3 := rfl
theorem gP2_3 {v0 v1 v2 v3 v4 v5 v6 v7 v8 v9 v10 v11 w : Value} {h : Hp} {a : Nat} {K : Hp → Prop} : zPf (some (.inr (2, [v0, v1, v2, v3, v4, v5, v6, v7, v8, v9, v10, v11]))) h a 2 3 w K = K (hset h a (.inr (2, [v0, v1, v2, w, v4, v5, v6, v7, v8, v9, v10, v11]))) := rfl
theorem zfin_2_3 : (zT 2 3).2.2.2 = false := by decide +kernel
theorem gG2_4 {v0 v1 v2 v3 v4 v5 v6 v7 v8 v9 v10 v11 : Value} {K : Value → Prop} : zG (some (.inr (2, [v0, v1, v2, v3, v4, v5, v6, v7, v8, v9, v10, v11]))) 2 4 K = K v4 := rfl
theorem gP2_4 {v0 v1 v2 v3 v4 v5 v6 v7 v8 v9 v10 v11 w : Value} {h : Hp} {a : Nat} {K : Hp → Prop} : zPf (some (.inr (2, [v0, v1, v2, v3, v4, v5, v6, v7, v8, v9, v10, v11]))) h a 2 4 w K = K (hset h a (.inr (2, [v0, v1, v2, v3, w, v5, v6, v7, v8, v9, v10, v11]))) := rfl
theorem zfin_2_4 : (zT 2 4).2.2.2 = false := by decide +kernel
theorem gG2_5 {v0 v1 v2 v3 v4 v5 v6 v7 v8 v9 v10 v11 : Value} {K : Value → Prop} : zG (some (.inr (2, [v0, v1, v2, v3, v4, v5, v6, v7, v8, v9, v10, v11]))) 2 5 K = K v5 := rfl
theorem gP2_5 {v0 v1 v2 v3 v4 v5 v6 v7 v8 v9 v10 v11 w : Value} {h : Hp} {a : Nat} {K : Hp → Prop} : zPf (some (.inr (2, [v0, v1, v2, v3, v4, v5, v6, v7, v8, v9, v10, v11]))) h a 2 5 w K = K (hset h a (.inr (2, [v0, v1, v2, v3, v4, w, v6, v7, v8, v9, v10, v11]))) := rfl
theorem zfin_2_5 : (zT 2 5).2.2.2 = false := by decide +kernel
theorem gG2_6 {v0 v1 v2 v3 v4 v5 v6 v7 v8 v9 v10 v11 : Value} {K : Value → Prop} : zG (some (.inr (2, [v0, v1, v2, v3, v4, v5, v6, v7, v8, v9, v10, v11]))) 2 6 K = K v6 := rfl
theorem gP2_6 {v0 v1 v2 v3 v4 v5 v6 v7 v8 v9 v10 v11 w : Value} {h : Hp} {a : Nat} {K : Hp → Prop} : zPf (some (.inr (2, [v0, v1, v2, v3, v4, v5, v6, v7, v8, v9, v10, v11]))) h a 2 6 w K = K (hset h a (.inr (2, [v0, v1, v2, v3, v4, v5, w, v7, v8, v9, v10, v11]))) := rfl
theorem zfin_2_6 : (zT 2 6).2.2.2 = false := by decide +kernel
theorem gG2_7 {v0 v1 v2 v3 v4 v5 v6 v7 v8 v9 v10 v11 : Value} {K : Value → Prop} : zG (some (.inr (2, [v0, v1, v2, v3, v4, v5, v6, v7, v8, v9, v10, v11]))) 2 7 K = K v7 := rfl
theorem gP2_7 {v0 v1 v2 v3 v4 v5 v6 v7 v8 v9 v10 v11 w : Value} {h : Hp} {a : Nat} {K : Hp → Prop} : zPf (some (.inr (2, [v0, v1, v2, v3, v4, v5, v6, v7, v8, v9, v10, v11]))) h a 2 7 w K = K (hset h a (.inr (2, [v0, v1, v2, v3, v4, v5, v6, w, v8, v9, v10, v11]))) := rfl
theorem zfin_2_7 : (zT 2 7).2.2.2 = true := by decide +kernel
theorem gG2_8 {v0 v1 v2 v3 v4 v5 v6 v7 v8 v9 v10 v11 : Value} {K : Value → Prop} : zG (some (.inr (2, [v0, v1, v2, v3, v4, v5, v6, v7, v8, v9, v10, v11]))) 2 8 K = K v8 := rfl
theorem gP2_8 {v0 v1 v2 v3 v4 v5 v6 v7 v8 v9 v10 v11 w : Value} {h : Hp} {a : Nat} {K : Hp → Prop} : zPf (some (.inr (2, [v0, v1, v2, v3, v4, v5, v6, v7, v8, v9, v10, v11]))) h a 2 8 w K = K (hset h a (.inr (2, [v0, v1, v2, v3, v4, v5, v6, v7, w, v9, v10, v11]))) := rfl
theorem zfin_2_8 : (zT 2 8).2.2.2 = false := by decide +kernel
theorem gG2_9 {v0 v1 v2 v3 v4 v5 v6 v7 v8 v9 v10 v11 : Value} {K : Value → Prop} : zG (some (.inr (2, [v0, v1, v2, v3, v4, v5, v6, v7, v8, v9, v10, v11]))) 2 9 K = K v9 := rfl
theorem gP2_9 {v0 v1 v2 v3 v4 v5 v6 v7 v8 v9 v10 v11 w : Value} {h : Hp} {a : Nat} {K : Hp → Prop} : zPf (some (.inr (2, [v0, v1, v2, v3, v4, v5, v6, v7, v8, v9, v10, v11]))) h a 2 9 w K = K (hset h a (.inr (2, [v0, v1, v2, v3, v4, v5, v6, v7, v8, w, v10, v11]))) := rfl
theorem zfin_2_9 : (zT 2 9).2.2.2 = true := by decide +kernel
theorem gG2_10 {v0 v1 v2 v3 v4 v5 v6 v7 v8 v9 v10 v11 : Value} {K : Value → Prop} : zG (some (.inr (2, [v0, v1, v2, v3, v4, v5, v6, v7, v8, v9, v10, v11]))) 2 10 K = K v10 := rfl
theorem gP2_10 {v0 v1 v2 v3 v4 v5 v6 v7 v8 v9 v10 v11 w : Value} {h : Hp} {a : Nat} {K : Hp → Prop} : zPf (some (.inr (2, [v0, v1, v2, v3, v4, v5, v6, v7, v8, v9, v10, v11]))) h a 2 10 w K = K (hset h a (.inr (2, [v0, v1, v2, v3, v4, v5, v6, v7, v8, v9, w, v11]))) := rfl
theorem zfin_2_10 : (zT 2 10).2.2.2 = false := by decide +kernel
theorem gG2_11 {v0 v1 v2 v3 v4 v5 v6 v7 v8 v9 v10 v11 : Value} {K : Value → Prop} : zG (some (.inr (2, [v0, v1, v2, v3, v4, v5, v6, v7, v8, v9, v10, v11]))) 2 11 K = K v11 := rfl
theorem gP2_11 {v0 v1 v2 v3 v4 v5 v6 v7 v8 v9 v10 v11 w : Value} {h : Hp} {a : Nat} {K : Hp → Prop} : zPf (some (.inr (2, [v0, v1, v2, v3, v4, v5, v6, v7, v8, v9, v10, v11]))) h a 2 11 w K = K (hset h a (.inr (2, [v0, v1, v2, v3, v4, v5, v6, v7, v8, v9, v10, w]))) := rfl
theorem zfin_2_11 : (zT 2 11).2.2.2 = true := by decide +kernel
theorem gG3_0 {v0 v1 v2 : Value} {K : Value → Prop} : zG (some (.inr (3, [v0, v1, v2]))) 3 0 K = K v0 := rfl
theorem gP3_0 {v0 v1 v2 w : Value} {h : Hp} {a : Nat} {K : Hp → Prop} : zPf (some (.inr (3, [v0, v1, v2]))) h a 3 0 w K = K (hset h a (.inr (3, [w, v1, v2]))) := rfl
theorem zfin_3_0 : (zT 3 0).2.2.2 = true := by decide +kernel
theorem gG3_1 {v0 v1 v2 : Value} {K : Value → Prop} : zG (some (.inr (3, [v0, v1, v2]))) 3 1 K = K v1 := rfl
theorem gP3_1 {v0 v1 v2 w : Value} {h : Hp} {a : Nat} {K : Hp → Prop} : zPf (some (.inr (3, [v0, v1, v2]))) h a 3 1 w K = K (hset h a (.inr (3, [v0, w, v2]))) := rfl
theorem zfin_3_1 : (zT 3 1).2.2.2 = false := by decide +kernel
theorem gG3_2 {v0 v1 v2 : Value} {K : Value → Prop} : zG (some (.inr (3, [v0, v1, v2]))) 3 2 K = K v2 := rfl
theorem gP3_2 {v0 v1 v2 w : Value} {h : Hp} {a : Nat} {K : Hp → Prop} : zPf (some (.inr (3, [v0, v1, v2]))) h a 3 2 w K = K (hset h a (.inr (3, [v0, v1, w]))) := rfl
theorem zfin_3_2 : (zT 3 2).2.2.2 = true := by decide +kernel
theorem gG4_0 {v0 v1 v2 v3 v4 v5 v6 v7 : Value} {K : Value → Prop} : zG (some (.inr (4, [v0, v1, v2, v3, v4, v5, v6, v7]))) 4 0 K = K v0 := rfl
theorem gP4_0 {v0 v1 v2 v3 v4 v5 v6 v7 w : Value} {h : Hp} {a : Nat} {K : Hp → Prop} : zPf (some (.inr (4, [v0, v1, v2, v3, v4, v5, v6, v7]))) h a 4 0 w K = K (hset h a (.inr (4, [w, v1, v2, v3, v4, v5, v6, v7]))) := rfl
theorem zfin_4_0 : (zT 4 0).2.2.2 = true := by decide +kernel
theorem gG4_1 {v0 v1 v2 v3 v4 v5 v6 v7 : Value} {K : Value → Prop} : zG (some (.inr (4, [v0, v1, v2, v3, v4, v5, v6, v7]))) 4 1 K = K v1 := rfl
theorem gP4_1 {v0 v1 v2 v3 v4 v5 v6 v7 w : Value} {h : Hp} {a : Nat} {K : Hp → Prop} : zPf (some (.inr (4, [v0, v1, v2, v3, v4, v5, v6, v7]))) h a 4 1 w K = K (hset h a (.inr (4, [v0, w, v2, v3, v4, v5, v6, v7]))) := rfl
theorem zfin_4_1 : (zT 4 1).2.2.2 = true := by decide +kernel
theorem gG4_2 {v0 v1 v2 v3 v4 v5 v6 v7 : Value} {K : Value → Prop} : zG (some (.inr (4, [v0, v1, v2, v3, v4, v5, v6, v7]))) 4 2 K = K v2 := rfl
theorem gP4_2 {v0 v1 v2 v3 v4 v5 v6 v7 w : Value} {h : Hp} {a : Nat} {K : Hp → Prop} : zPf (some (.inr (4, [v0, v1, v2, v3, v4, v5, v6, v7]))) h a 4 2 w K = K (hset h a (.inr (4, [v0, v1, w, v3, v4, v5, v6, v7]))) := rfl
theorem zfin_4_2 : (zT 4 2).2.2.2 = false := by decide +kernel
theorem gG4_3 {v0 v1 v2 v3 v4 v5 v6 v7 : Value} {K : Value → Prop} : zG (some (.inr (4, [v0, v1, v2, v3, v4, v5, v6, v7]))) 4 3 K = K v3 := rfl
theorem gP4_3 {v0 v1 v2 v3 v4 v5 v6 v7 w : Value} {h : Hp} {a : Nat} {K : Hp → Prop} : zPf (some (.inr (4, [v0, v1, v2, v3, v4, v5, v6, v7]))) h a 4 3 w K = K (hset h a (.inr (4, [v0, v1, v2, w, v4, v5, v6, v7]))) := rfl
theorem zfin_4_3 : (zT 4 3).2.2.2 = false := by decide +kernel
theorem gG4_4 {v0 v1 v2 v3 v4 v5 v6 v7 : Value} {K : Value → Prop} : zG (some (.inr (4, [v0, v1, v2, v3, v4, v5, v6, v7]))) 4 4 K = K v4 := rfl
theorem gP4_4 {v0 v1 v2 v3 v4 v5 v6 v7 w : Value} {h : Hp} {a : Nat} {K : Hp → Prop} : zPf (some (.inr (4, [v0, v1, v2, v3, v4, v5, v6, v7]))) h a 4 4 w K = K (hset h a (.inr (4, [v0, v1, v2, v3, w, v5, v6, v7]))) := rfl
theorem zfin_4_4 : (zT 4 4).2.2.2 = false := by decide +kernel
theorem gG4_5 {v0 v1 v2 v3 v4 v5 v6 v7 : Value} {K : Value → Prop} : zG (some (.inr (4, [v0, v1, v2, v3, v4, v5, v6, v7]))) 4 5 K = K v5 := rfl
theorem gP4_5 {v0 v1 v2 v3 v4 v5 v6 v7 w : Value} {h : Hp} {a : Nat} {K : Hp → Prop} : zPf (some (.inr (4, [v0, v1, v2, v3, v4, v5, v6, v7]))) h a 4 5 w K = K (hset h a (.inr (4, [v0, v1, v2, v3, v4, w, v6, v7]))) := rfl
theorem zfin_4_5 : (zT 4 5).2.2.2 = false := by decide +kernel
theorem gG4_6 {v0 v1 v2 v3 v4 v5 v6 v7 : Value} {K : Value → Prop} : zG (some (.inr (4, [v0, v1, v2, v3, v4, v5, v6, v7]))) 4 6 K = K v6 := rfl
theorem gP4_6 {v0 v1 v2 v3 v4 v5 v6 v7 w : Value} {h : Hp} {a : Nat} {K : Hp → Prop} : zPf (some (.inr (4, [v0, v1, v2, v3, v4, v5, v6, v7]))) h a 4 6 w K = K (hset h a (.inr (4, [v0, v1, v2, v3, v4, v5, w, v7]))) := rfl
theorem zfin_4_6 : (zT 4 6).2.2.2 = false := by decide +kernel
theorem gG4_7 {v0 v1 v2 v3 v4 v5 v6 v7 : Value} {K : Value → Prop} : zG (some (.inr (4, [v0, v1, v2, v3, v4, v5, v6, v7]))) 4 7 K = K v7 := rfl
theorem gP4_7 {v0 v1 v2 v3 v4 v5 v6 v7 w : Value} {h : Hp} {a : Nat} {K : Hp → Prop} : zPf (some (.inr (4, [v0, v1, v2, v3, v4, v5, v6, v7]))) h a 4 7 w K = K (hset h a (.inr (4, [v0, v1, v2, v3, v4, v5, v6, w]))) := rfl
theorem zfin_4_7 : (zT 4 7).2.2.2 = false := by decide +kernel
theorem gG5_0 {v0 : Value} {K : Value → Prop} : zG (some (.inr (5, [v0]))) 5 0 K = K v0 := rfl
theorem gP5_0 {v0 w : Value} {h : Hp} {a : Nat} {K : Hp → Prop} : zPf (some (.inr (5, [v0]))) h a 5 0 w K = K (hset h a (.inr (5, [w]))) := rfl
theorem zfin_5_0 : (zT 5 0).2.2.2 = true := by decide +kernel
theorem gG6_0 {v0 v1 v2 v3 : Value} {K : Value → Prop} : zG (some (.inr (6, [v0, v1, v2, v3]))) 6 0 K = K v0 := rfl
theorem gP6_0 {v0 v1 v2 v3 w : Value} {h : Hp} {a : Nat} {K : Hp → Prop} : zPf (some (.inr (6, [v0, v1, v2, v3]))) h a 6 0 w K = K (hset h a (.inr (6, [w, v1, v2, v3]))) := rfl
theorem zfin_6_0 : (zT 6 0).2.2.2 = true := by decide +kernel
theorem gG6_1 {v0 v1 v2 v3 : Value} {K : Value → Prop} : zG (some (.inr (6, [v0, v1, v2, v3]))) 6 1 K = K v1 := rfl
theorem gP6_1 {v0 v1 v2 v3 w : Value} {h : Hp} {a : Nat} {K : Hp → Prop} : zPf (some (.inr (6, [v0, v1, v2, v3]))) h a 6 1 w K = K (hset h a (.inr (6, [v0, w, v2, v3]))) := rfl
theorem zfin_6_1 : (zT 6 1).2.2.2 = true := by decide +kernel
theorem gG6_2 {v0 v1 v2 v3 : Value} {K : Value → Prop} : zG (some (.inr (6, [v0, v1, v2, v3]))) 6 2 K = K v2 := rfl
theorem gP6_2 {v0 v1 v2 v3 w : Value} {h : Hp} {a : Nat} {K : Hp → Prop} : zPf (some (.inr (6, [v0, v1, v2, v3]))) h a 6 2 w K = K (hset h a (.inr (6, [v0, v1, w, v3]))) := rfl
theorem zfin_6_2 : (zT 6 2).2.2.2 = false := by decide +kernel
theorem gG6_3 {v0 v1 v2 v3 : Value} {K : Value → Prop} : zG (some (.inr (6, [v0, v1, v2, v3]))) 6 3 K = K v3 := rfl
theorem gP6_3 {v0 v1 v2 v3 w : Value} {h : Hp} {a : Nat} {K : Hp → Prop} : zPf (some (.inr (6, [v0, v1, v2, v3]))) h a 6 3 w K = K (hset h a (.inr (6, [v0, v1, v2, w]))) := rfl
theorem zfin_6_3 : (zT 6 3).2.2.2 = false := by decide +kernel
theorem gG7_0 {v0 v1 v2 : Value} {K : Value → Prop} : zG (some (.inr (7, [v0, v1, v2]))) 7 0 K = K v0 := rfl
theorem gP7_0 {v0 v1 v2 w : Value} {h : Hp} {a : Nat} {K : Hp → Prop} : zPf (some (.inr (7, [v0, v1, v2]))) h a 7 0 w K = K (hset h a (.inr (7, [w, v1, v2]))) := rfl
theorem zfin_7_0 : (zT 7 0).2.2.2 = false := by decide +kernel
theorem gG7_1 {v0 v1 v2 : Value} {K : Value → Prop} : zG (some (.inr (7, [v0, v1, v2]))) 7 1 K = K v1 := rfl
theorem gP7_1 {v0 v1 v2 w : Value} {h : Hp} {a : Nat} {K : Hp → Prop} : zPf (some (.inr (7, [v0, v1, v2]))) h a 7 1 w K = K (hset h a (.inr (7, [v0, w, v2]))) := rfl
theorem zfin_7_1 : (zT 7 1).2.2.2 = true := by decide +kernel
theorem gG7_2 {v0 v1 v2 : Value} {K : Value → Prop} : zG (some (.inr (7, [v0, v1, v2]))) 7 2 K = K v2 := rfl
theorem gP7_2 {v0 v1 v2 w : Value} {h : Hp} {a : Nat} {K : Hp → Prop} : zPf (some (.inr (7, [v0, v1, v2]))) h a 7 2 w K = K (hset h a (.inr (7, [v0, v1, w]))) := rfl
theorem zfin_7_2 : (zT 7 2).2.2.2 = true := by decide +kernel
theorem gG8_0 {v0 v1 v2 : Value} {K : Value → Prop} : zG (some (.inr (8, [v0, v1, v2]))) 8 0 K = K v0 := rfl
theorem gP8_0 {v0 v1 v2 w : Value} {h : Hp} {a : Nat} {K : Hp → Prop} : zPf (some (.inr (8, [v0, v1, v2]))) h a 8 0 w K = K (hset h a (.inr (8, [w, v1, v2]))) := rfl
theorem zfin_8_0 : (zT 8 0).2.2.2 = true := by decide +kernel
theorem gG8_1 {v0 v1 v2 : Value} {K : Value → Prop} : zG (some (.inr (8, [v0, v1, v2]))) 8 1 K = K v1 := rfl
theorem gP8_1 {v0 v1 v2 w : Value} {h : Hp} {a : Nat} {K : Hp → Prop} : zPf (some (.inr (8, [v0, v1, v2]))) h a 8 1 w K = K (hset h a (.inr (8, [v0, w, v2]))) := rfl
theorem zfin_8_1 : (zT 8 1).2.2.2 = true := by decide +kernel
theorem gG8_2 {v0 v1 v2 : Value} {K : Value → Prop} : zG (some (.inr (8, [v0, v1, v2]))) 8 2 K = K v2 := rfl
theorem gP8_2 {v0 v1 v2 w : Value} {h : Hp} {a : Nat} {K : Hp → Prop} : zPf (some (.inr (8, [v0, v1, v2]))) h a 8 2 w K = K (hset h a (.inr (8, [v0, v1, w]))) := rfl
theorem zfin_8_2 : (zT 8 2).2.2.2 = true := by decide +kernel
theorem gG9_0 {v0 v1 v2 v3 v4 v5 v6 v7 : Value} {K : Value → Prop} : zG (some (.inr (9, [v0, v1, v2, v3, v4, v5, v6, v7]))) 9 0 K = K v0 := rfl
theorem gP9_0 {v0 v1 v2 v3 v4 v5 v6 v7 w : Value} {h : Hp} {a : Nat} {K : Hp → Prop} : zPf (some (.inr (9, [v0, v1, v2, v3, v4, v5, v6, v7]))) h a 9 0 w K = K (hset h a (.inr (9, [w, v1, v2, v3, v4, v5, v6, v7]))) := rfl
theorem zfin_9_0 : (zT 9 0).2.2.2 = true := by decide +kernel
theorem gG9_1 {v0 v1 v2 v3 v4 v5 v6 v7 : Value} {K : Value → Prop} : zG (some (.inr (9, [v0, v1, v2, v3, v4, v5, v6, v7]))) 9 1 K = K v1 := rfl
theorem gP9_1 {v0 v1 v2 v3 v4 v5 v6 v7 w : Value} {h : Hp} {a : Nat} {K : Hp → Prop} : zPf (some (.inr (9, [v0, v1, v2, v3, v4, v5, v6, v7]))) h a 9 1 w K = K (hset h a (.inr (9, [v0, w, v2, v3, v4, v5, v6, v7]))) := rfl
theorem zfin_9_1 : (zT 9 1).2.2.2 = false := by decide +kernel
theorem gG9_2 {v0 v1 v2 v3 v4 v5 v6 v7 : Value} {K : Value → Prop} : zG (some (.inr (9, [v0, v1, v2, v3, v4, v5, v6, v7]))) 9 2 K = K v2 := rfl
theorem gP9_2 {v0 v1 v2 v3 v4 v5 v6 v7 w : Value} {h : Hp} {a : Nat} {K : Hp → Prop} : zPf (some (.inr (9, [v0, v1, v2, v3, v4, v5, v6, v7]))) h a 9 2 w K = K (hset h a (.inr (9, [v0, v1, w, v3, v4, v5, v6, v7]))) := rfl
theorem zfin_9_2 : (zT 9 2).2.2.2 = true := by decide +kernel
theorem gG9_3 {v0 v1 v2 v3 v4 v5 v6 v7 : Value} {K : Value → Prop} : zG (some (.inr (9, [v0, v1, v2, v3, v4, v5, v6, v7]))) 9 3 K = K v3 := rfl
theorem gP9_3 {v0 v1 v2 v3 v4 v5 v6 v7 w : Value} {h : Hp} {a : Nat} {K : Hp → Prop} : zPf (some (.inr (9, [v0, v1, v2, v3, v4, v5, v6, v7]))) h a 9 3 w K = K (hset h a (.inr (9, [v0, v1, v2, w, v4, v5, v6, v7]))) := rfl
theorem zfin_9_3 : (zT 9 3).2.2.2 = true := by decide +kernel
theorem gG9_4 {v0 v1 v2 v3 v4 v5 v6 v7 : Value} {K : Value → Prop} : zG (some (.inr (9, [v0, v1, v2, v3, v4, v5, v6, v7]))) 9 4 K = K v4 := rfl
theorem gP9_4 {v0 v1 v2 v3 v4 v5 v6 v7 w : Value} {h : Hp} {a : Nat} {K : Hp → Prop} : zPf (some (.inr (9, [v0, v1, v2, v3, v4, v5, v6, v7]))) h a 9 4 w K = K (hset h a (.inr (9, [v0, v1, v2, v3, w, v5, v6, v7]))) := rfl
theorem zfin_9_4 : (zT 9 4).2.2.2 = true := by decide +kernel
theorem gG9_5 {v0 v1 v2 v3 v4 v5 v6 v7 : Value} {K : Value → Prop} : zG (some (.inr (9, [v0, v1, v2, v3, v4, v5, v6, v7]))) 9 5 K = K v5 := rfl
theorem gP9_5 {v0 v1 v2 v3 v4 v5 v6 v7 w : Value} {h : Hp} {a : Nat} {K : Hp → Prop} : zPf (some (.inr (9, [v0, v1, v2, v3, v4, v5, v6, v7]))) h a 9 5 w K = K (hset h a (.inr (9, [v0, v1, v2, v3, v4, w, v6, v7]))) := rfl
theorem zfin_9_5 : (zT 9 5).2.2.2 = true := by decide +kernel
theorem gG9_6 {v0 v1 v2 v3 v4 v5 v6 v7 : Value} {K : Value → Prop} : zG (some (.inr (9, [v0, v1, v2, v3, v4, v5, v6, v7]))) 9 6 K = K v6 := rfl
theorem gP9_6 {v0 v1 v2 v3 v4 v5 v6 v7 w : Value} {h : Hp} {a : Nat} {K : Hp → Prop} : zPf (some (.inr (9, [v0, v1, v2, v3, v4, v5, v6, v7]))) h a 9 6 w K = K (hset h a (.inr (9, [v0, v1, v2, v3, v4, v5, w, v7]))) := rfl
theorem zfin_9_6 : (zT 9 6).2.2.2 = true := by decide +kernel
theorem gG9_7 {v0 v1 v2 v3 v4 v5 v6 v7 : Value} {K : Value → Prop} : zG (some (.inr (9, [v0, v1, v2, v3, v4, v5, v6, v7]))) 9 7 K = K v7 := rfl
theorem gP9_7 {v0 v1 v2 v3 v4 v5 v6 v7 w : Value} {h : Hp} {a : Nat} {K : Hp → Prop} : zPf (some (.inr (9, [v0, v1, v2, v3, v4, v5, v6, v7]))) h a 9 7 w K = K (hset h a (.inr (9, [v0, v1, v2, v3, v4, v5, v6, w]))) := rfl
theorem zfin_9_7 : (zT 9 7).2.2.2 = true := by decide +kernel
theorem gG10_0 {v0 v1 v2 v3 v4 v5 v6 v7 : Value} {K : Value → Prop} : zG (some (.inr (10, [v0, v1, v2, v3, v4, v5, v6, v7]))) 10 0 K = K v0 := rfl
theorem gP10_0 {v0 v1 v2 v3 v4 v5 v6 v7 w : Value} {h : Hp} {a : Nat} {K : Hp → Prop} : zPf (some (.inr (10, [v0, v1, v2, v3, v4, v5, v6, v7]))) h a 10 0 w K = K (hset h a (.inr (10, [w, v1, v2, v3, v4, v5, v6, v7]))) := rfl
theorem zfin_10_0 : (zT 10 0).2.2.2 = true := by decide +kernel
theorem gG10_1 {v0 v1 v2 v3 v4 v5 v6 v7 : Value} {K : Value → Prop} : zG (some (.inr (10, [v0, v1, v2, v3, v4, v5, v6, v7]))) 10 1 K = K v1 := rfl
theorem gP10_1 {v0 v1 v2 v3 v4 v5 v6 v7 w : Value} {h : Hp} {a : Nat} {K : Hp → Prop} : zPf (some (.inr (10, [v0, v1, v2, v3, v4, v5, v6, v7]))) h a 10 1 w K = K (hset h a (.inr (10, [v0, w, v2, v3, v4, v5, v6, v7]))) := rfl
theorem zfin_10_1 : (zT 10 1).2.2.2 = false := by decide +kernel
theorem gG10_2 {v0 v1 v2 v3 v4 v5 v6 v7 : Value} {K : Value → Prop} : zG (some (.inr (10, [v0, v1, v2, v3, v4, v5, v6, v7]))) 10 2 K = K v2 := rfl
theorem gP10_2 {v0 v1 v2 v3 v4 v5 v6 v7 w : Value} {h : Hp} {a : Nat} {K : Hp → Prop} : zPf (some (.inr (10, [v0, v1, v2, v3, v4, v5, v6, v7]))) h a 10 2 w K = K (hset h a (.inr (10, [v0, v1, w, v3, v4, v5, v6, v7]))) := rfl
theorem zfin_10_2 : (zT 10 2).2.2.2 = true := by decide +kernel
theorem gG10_3 {v0 v1 v2 v3 v4 v5 v6 v7 : Value} {K : Value → Prop} : zG (some (.inr (10, [v0, v1, v2, v3, v4, v5, v6, v7]))) 10 3 K = K v3 := rfl
theorem gP10_3 {v0 v1 v2 v3 v4 v5 v6 v7 w : Value} {h : Hp} {a : Nat} {K : Hp → Prop} : zPf (some (.inr (10, [v0, v1, v2, v3, v4, v5, v6, v7]))) h a 10 3 w K = K (hset h a (.inr (10, [v0, v1, v2, w, v4, v5, v6, v7]))) := rfl
theorem zfin_10_3 : (zT 10 3).2.2.2 = true := by decide +kernel
theorem gG10_4 {v0 v1 v2 v3 v4 v5 v6 v7 : Value} {K : Value → Prop} : zG (some (.inr (10, [v0, v1, v2, v3, v4, v5, v6, v7]))) 10 4 K = K v4 := rfl
theorem gP10_4 {v0 v1 v2 v3 v4 v5 v6 v7 w : Value} {h : Hp} {a : Nat} {K : Hp → Prop} : zPf (some (.inr (10, [v0, v1, v2, v3, v4, v5, v6, v7]))) h a 10 4 w K = K (hset h a (.inr (10, [v0, v1, v2, v3, w, v5, v6, v7]))) := rfl
theorem zfin_10_4 : (zT 10 4).2.2.2 = true := by decide +kernel
theorem gG10_5 {v0 v1 v2 v3 v4 v5 v6 v7 : Value} {K : Value → Prop} : zG (some (.inr (10, [v0, v1, v2, v3, v4, v5, v6, v7]))) 10 5 K = K v5 := rfl
theorem gP10_5 {v0 v1 v2 v3 v4 v5 v6 v7 w : Value} {h : Hp} {a : Nat} {K : Hp → Prop} : zPf (some (.inr (10, [v0, v1, v2, v3, v4, v5, v6, v7]))) h a 10 5 w K = K (hset h a (.inr (10, [v0, v1, v2, v3, v4, w, v6, v7]))) := rfl
theorem zfin_10_5 : (zT 10 5).2.2.2 = true := by decide +kernel
theorem gG10_6 {v0 v1 v2 v3 v4 v5 v6 v7 : Value} {K : Value → Prop} : zG (some (.inr (10, [v0, v1, v2, v3, v4, v5, v6, v7]))) 10 6 K = K v6 := rfl
theorem gP10_6 {v0 v1 v2 v3 v4 v5 v6 v7 w : Value} {h : Hp} {a : Nat} {K : Hp → Prop} : zPf (some (.inr (10, [v0, v1, v2, v3, v4, v5, v6, v7]))) h a 10 6 w K = K (hset h a (.inr (10, [v0, v1, v2, v3, v4, v5, w, v7]))) := rfl
theorem zfin_10_6 : (zT 10 6).2.2.2 = true := by decide +kernel
theorem gG10_7 {v0 v1 v2 v3 v4 v5 v6 v7 : Value} {K : Value → Prop} : zG (some (.inr (10, [v0, v1, v2, v3, v4, v5, v6, v7]))) 10 7 K = K v7 := rfl
theorem gP10_7 {v0 v1 v2 v3 v4 v5 v6 v7 w : Value} {h : Hp} {a : Nat} {K : Hp → Prop} : zPf (some (.inr (10, [v0, v1, v2, v3, v4, v5, v6, v7]))) h a 10 7 w K = K (hset h a (.inr (10, [v0, v1, v2, v3, v4, v5, v6, w]))) := rfl
theorem zfin_10_7 : (zT 10 7).2.2.2 = true := by decide +kernel
theorem gCk {c : Nat} {fs : List Value} {P : Prop} : zCk (some (.inr (c, fs))) c P = P := by simp [zCk]
theorem gAi {t n k : Nat} {f : Nat → Int32} {K : Int32 → Prop} (hk : k < n) (hn : n < 2147483648) : zAi (some (.inl (t, n, .inl f))) t (nI k) K = K (f k) := by
  have h1 : zin (nI k) n := nI_in hk (by omega)
  simp only [zAi]
  rw [if_pos ⟨Or.inl trivial, h1⟩, nI_clamp (by omega)]
theorem gAj {n k : Nat} {f : Nat → Int32} {K : Int32 → Prop} (hk : k < n) (hn : n < 2147483648) : zAi (some (.inl (1, n, .inl f))) 0 (nI k) K = K (f k) := by
  have h1 : zin (nI k) n := nI_in hk (by omega)
  simp only [zAi]
  rw [if_pos ⟨Or.inr trivial, h1⟩, nI_clamp (by omega)]
theorem gSi {n k : Nat} {x : Int32} {f : Nat → Int32} {h : Hp} {a : Nat} {K : Hp → Prop} (hk : k < n) (hn : n < 2147483648) : zSi (some (.inl (0, n, .inl f))) h a 0 (nI k) x K = K (hset h a (.inl (0, n, .inl (upd f k x)))) := by
  have h1 : zin (nI k) n := nI_in hk (by omega)
  simp only [zSi]
  rw [if_pos ⟨trivial, h1⟩, nI_clamp (by omega)]
  rfl
theorem gAq {t n k : Nat} {f : Nat → Option Nat} {K : Value → Prop} (ht : 2 ≤ t ∧ t ≤ 4) (hk : k < n) (hn : n < 2147483648) : zAq (some (.inl (t, n, .inr (.inr (.inr (.inr f)))))) (nI k) K = K (va_rf (f k)) := by
  have h1 : zin (nI k) n := nI_in hk (by omega)
  simp only [zAq]
  rw [if_pos ⟨ht, h1⟩, nI_clamp (by omega)]
theorem gSq {t n k : Nat} {v : Option Nat} {f : Nat → Option Nat} {h : Hp} {a : Nat} {K : Hp → Prop} (ht : 2 ≤ t ∧ t ≤ 4) (hk : k < n) (hn : n < 2147483648) (hv : ∀ q, v = some q → zcls h q = some (ztc t)) : zSq (some (.inl (t, n, .inr (.inr (.inr (.inr f)))))) h a (nI k) v K = K (hset h a (.inl (t, n, .inr (.inr (.inr (.inr (va_up f k v))))))) := by
  have h1 : zin (nI k) n := nI_in hk (by omega)
  simp only [zSq]
  rw [if_pos ⟨⟨ht, h1⟩, hv⟩, nI_clamp (by omega)]
theorem gLi {t n : Nat} {f : Nat → Int32} {K : Int32 → Prop} (ht : t ≤ 1) : zLn (some (.inl (t, n, .inl f))) K = K (nI n) := by simp [zLn, zlen, ht]
theorem gLq {t n : Nat} {f : Nat → Option Nat} {K : Int32 → Prop} (ht : 2 ≤ t ∧ t ≤ 4) : zLn (some (.inl (t, n, .inr (.inr (.inr (.inr f)))))) K = K (nI n) := by simp [zLn, zlen, ht]
theorem zpush_v {v : Value} {s : List Value} : zpush (some v) s = v :: s := rfl
theorem zpush_n {s : List Value} : zpush none s = s := rfl
section WQ
variable {j pc n own nN nc nj nL : Nat} {cc : ByteArray} {ls : Ls} {st rest : List Value} {h : Hp} {Q : Option Value → Hp → Prop}
theorem wq_callV {idx c ci a : Nat} {as : List Value} (hc : mC j = cc) (hd : decode cc pc = .ok (.invokevirtual idx, 3)) (hKj : mK j = own) (hm : zmth own idx = some (c, 0)) (hk : mK c = ci) (hN : mN c = nN) (hHc : mH c = nc) (hHj : mH j = nj) (hL : mL c = nL) (hst : st = as.reverse ++ .ref a :: rest)
    (hok : (Nat.beq as.length nN && Nat.blt nc nj && Nat.ble rest.length 4 && Nat.ble (zlay (.ref a :: as)).length nL) = true) :
    WP j pc ls st h Q = zCk (h.1 a) ci (WPm c (.ref a :: as) h (fun v h' => WP j (pc + 3) ls (zpush v rest) h' Q)) := by
  subst hKj; subst hN; subst hHc; subst hHj; subst hL
  refine wr_callV hc hd hm hst hk ?_
  simp only [Bool.and_eq_true] at hok ⊢
  exact ⟨⟨⟨decide_eq_true (Nat.eq_of_beq_eq_true hok.1.1.1), hok.1.1.2⟩, hok.1.2⟩, hok.2⟩
theorem wq_callI {idx c a : Nat} {as : List Value} (hc : mC j = cc) (hd : decode cc pc = .ok (.invokespecial idx, 3)) (hKj : mK j = own) (hm : zmth own idx = some (c, 1)) (ho : zobj own idx = false) (hT : mT c = none) (hN : mN c = nN) (hHc : mH c = nc) (hHj : mH j = nj) (hL : mL c = nL) (hst : st = as.reverse ++ .ref a :: rest)
    (hok : (Nat.beq as.length nN && Nat.blt nc nj && Nat.ble rest.length 4 && Nat.ble (zlay (.ref a :: as)).length nL) = true) :
    WP j pc ls st h Q = WPm c (.ref a :: as) h (fun v h' => WP j (pc + 3) ls (zpush v rest) h' Q) := by
  subst hKj; subst hN; subst hHc; subst hHj; subst hL
  refine wr_callI hc hd hm ho hst ?_
  simp only [Bool.and_eq_true] at hok ⊢
  exact ⟨⟨⟨⟨decide_eq_true (Nat.eq_of_beq_eq_true hok.1.1.1), hok.1.1.2⟩, hok.1.2⟩, hok.2⟩, by rw [hT]; rfl⟩
theorem wq_callS {idx c k : Nat} {as : List Value} (hc : mC j = cc) (hd : decode cc pc = .ok (.invokestatic idx, 3)) (hKj : mK j = own) (hm : zmth own idx = some (c, k)) (hk : k = 2 ∨ k = 3) (hmax : (Nat.beq own 2 && Nat.beq idx 101) = false) (hni : (Nat.beq c 104 || Nat.beq c 105) = false) (hN : mN c = nN) (hHc : mH c = nc) (hHj : mH j = nj) (hL : mL c = nL) (hst : st = as.reverse ++ rest)
    (hok : (Nat.beq as.length nN && Nat.blt nc nj && Nat.ble rest.length 4 && Nat.ble (zlay as).length nL) = true) :
    WP j pc ls st h Q = WPm c as h (fun v h' => WP j (pc + 3) ls (zpush v rest) h' Q) := by
  subst hKj; subst hN; subst hHc; subst hHj; subst hL
  simp only [Bool.or_eq_false_iff] at hni
  refine wr_callS hc hd hm hk hmax hni hst ?_
  simp only [Bool.and_eq_true] at hok ⊢
  exact ⟨⟨⟨decide_eq_true (Nat.eq_of_beq_eq_true hok.1.1.1), hok.1.1.2⟩, hok.1.2⟩, hok.2⟩
theorem wq_get {idx ci k a : Nat} (hc : mC j = cc) (hd : decode cc pc = .ok (.getfield idx, 3)) (hKj : mK j = own) (hf : zfld own idx = some (ci, k)) : WP j pc ls (.ref a :: st) h Q = zG (h.1 a) ci k (fun v => WP j (pc + 3) ls (v :: st) h Q) := by
  subst hKj
  exact wr_get hc hd hf
theorem wq_put {idx ci k a : Nat} {v : Value} (hc : mC j = cc) (hd : decode cc pc = .ok (.putfield idx, 3)) (hKj : mK j = own) (hf : zfld own idx = some (ci, k)) (hv : zokf (zty ci k) v = true) (hfin : (zT ci k).2.2.2 = false ∨ ((mY j).name = "<init>" ∧ own = ci)) : WP j pc ls (v :: .ref a :: st) h Q = zPf (h.1 a) h a ci k v (fun h' => WP j (pc + 3) ls st h' Q) := by
  subst hKj
  refine wr_put hc hd hf hv (fun q => ?_)
  rcases hfin with f | f
  · rw [q] at f; cases f
  · exact f
theorem wr_lsw {dflt : Int} {ps : Array (Int × Int)} {len tgt : Nat} {x : Int32} {off : Int} (hc : mC j = cc) (hd : decode cc pc = .ok (.lookupswitch dflt ps, len)) (hp : (ps.toList.zip (ps.toList.drop 1)).all (fun (a, next) => a.1 < next.1) = true) (ho : Op.lookupswitch.offset ps.toList dflt x.toInt = off) (ht : (pc : Int) + off = (tgt : Int)) : WP j pc ls (.int x :: st) h Q = WP j tgt ls st h Q := by
  refine wp_next hc hd ?_
  unfold zst
  refine (if_pos (Nat.beq_refl len)).trans ?_
  show zlsw pc ls (.int x :: st) h dflt ps = _
  simp only [zlsw]
  rw [if_pos hp, ho]
  exact zto_at ht
theorem wr_tout {dflt lo hi : Int} {offs : Array Int} {len tgt : Nat} {x : Int32} (hc : mC j = cc) (hd : decode cc pc = .ok (.tableswitch dflt lo hi offs, len)) (hx : x.toInt < lo ∨ hi < x.toInt) (ht : (pc : Int) + dflt = (tgt : Int)) : WP j pc ls (.int x :: st) h Q = WP j tgt ls st h Q := by
  refine wp_next hc hd ?_
  unfold zst
  refine (if_pos (Nat.beq_refl len)).trans ?_
  show ztsw pc ls (.int x :: st) h dflt lo hi offs = _
  simp only [ztsw]
  rw [if_pos hx]
  exact zto_at ht
end WQ
