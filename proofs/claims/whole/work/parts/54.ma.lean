/-! the model: small methods, act -/
theorem nI_div {a b : Nat} (ha : a < 2147483648) (hb : 0 < b) (hb2 : b < 2147483648) : nI a / nI b = nI (a / b) := by
  rw [← Int32.toInt_inj, Int32.toInt_div_of_ne_left _ _ (by
    intro q
    have q := congrArg Int32.toInt q
    rw [nI_toInt ha] at q
    have : (Int32.minValue).toInt = -2147483648 := by decide
    omega), nI_toInt ha, nI_toInt hb2, nI_toInt (Nat.lt_of_le_of_lt (Nat.div_le_self a b) ha)]
  exact (Int.ofNat_tdiv a b).symm
theorem nI_rem {a b : Nat} (ha : a < 2147483648) (hb : 0 < b) (hb2 : b < 2147483648) : nI a - nI a / nI b * nI b = nI (a % b) := by
  have h := Nat.div_add_mod a b
  have h2 : a / b * b = b * (a / b) := Nat.mul_comm _ _
  rw [nI_div ha hb hb2, nI_mul, nI_sub (by omega) ha]
  congr 1
  omega
theorem nI_rem2 {a b : Nat} (ha : a < 2147483648) : nI a - nI (a / b * b) = nI (a % b) := by
  have h := Nat.div_add_mod a b
  have h2 : a / b * b = b * (a / b) := Nat.mul_comm _ _
  rw [nI_sub (by omega) ha]
  congr 1
  omega
theorem le_pred {x : Int32} {n : Nat} (hn : n ≤ 1000000) : x ≤ nI n - nI 1 ↔ x < nI n := by
  rw [Int32.le_iff_toInt_le, Int32.lt_iff_toInt_lt, nI_subT hn (by omega), nI_toInt (by omega)]
  omega
section MA
variable {h0 : Hp} {M : Nat} {v pa fl tx it sg lat hat nw os hgh pl asd lks : Nat → Int32} {pm ty ct wr im sm sy : Int32}
theorem in_t {h : Hp} {x lo hi : Int32} (h1 : lo ≤ x ∧ x ≤ hi) (Q : Option Value → Hp → Prop) : WPm 108 [.int x, .int lo, .int hi] h Q = Q (some (.int (nI 1))) h := by
  obtain ⟨a, b⟩ := h1
  have a2 := Int32.not_lt.mpr a
  have b2 := Int32.not_lt.mpr b
  rw [eX10_in]
  simp (disch := (first | omega | assumption | (simp (disch := omega) only [Int32.lt_iff_toInt_lt, Int32.le_iff_toInt_le, ← Int32.toInt_inj, nI_toInt, zi_m1, zi_m2, zi_m3, zi_m9]; omega) | decide)) only [sX10_in_0, sX10_in_1, sX10_in_2, sX10_in_5, sX10_in_6, sX10_in_7, sX10_in_10, sX10_in_11, sX10_in_14, sX10_in_15, zpush_v, zpush_n, gCk, gAi, gSi, gSz, gLi, gLq, ↓if_pos, ↓if_neg]
theorem in_f {h : Hp} {x lo hi : Int32} (h1 : x < lo ∨ hi < x) (Q : Option Value → Hp → Prop) : WPm 108 [.int x, .int lo, .int hi] h Q = Q (some (.int (nI 0))) h := by
  rw [eX10_in]
  by_cases a : x < lo
  · simp (disch := (first | omega | assumption | (simp (disch := omega) only [Int32.lt_iff_toInt_lt, Int32.le_iff_toInt_le, ← Int32.toInt_inj, nI_toInt, zi_m1, zi_m2, zi_m3, zi_m9]; omega) | decide)) only [sX10_in_0, sX10_in_1, sX10_in_2, sX10_in_5, sX10_in_6, sX10_in_7, sX10_in_10, sX10_in_11, sX10_in_14, sX10_in_15, zpush_v, zpush_n, gCk, gAi, gSi, gSz, gLi, gLq, ↓if_pos, ↓if_neg]
  · have b := h1.resolve_left a
    simp (disch := (first | omega | assumption | (simp (disch := omega) only [Int32.lt_iff_toInt_lt, Int32.le_iff_toInt_le, ← Int32.toInt_inj, nI_toInt, zi_m1, zi_m2, zi_m3, zi_m9]; omega) | decide)) only [sX10_in_0, sX10_in_1, sX10_in_2, sX10_in_5, sX10_in_6, sX10_in_7, sX10_in_10, sX10_in_11, sX10_in_14, sX10_in_15, zpush_v, zpush_n, gCk, gAi, gSi, gSz, gLi, gLq, ↓if_pos, ↓if_neg]
theorem in_n {h : Hp} {k a b : Nat} (hk : k < 2147483648) (ha : a < 2147483648) (hb : b < 2147483648) (Q : Option Value → Hp → Prop) : WPm 108 [.int (nI k), .int (nI a), .int (nI b)] h Q = Q (some (.int (bI (a ≤ k ∧ k ≤ b)))) h := by
  by_cases c : a ≤ k ∧ k ≤ b
  · rw [bI_t c, in_t]
    simp (disch := omega) only [Int32.le_iff_toInt_le, nI_toInt]
    omega
  · rw [bI_f c, in_f]
    simp (disch := omega) only [Int32.lt_iff_toInt_lt, nI_toInt]
    omega
theorem m_placeOf {h : Hp} (s : Nat) (Q : Option Value → Hp → Prop) : WPm 111 [.int (nI s)] h Q = Q (some (.int (nI (10 + 7 * s)))) h := by
  rw [eX10_placeOf]
  simp (disch := (first | omega | assumption | (simp (disch := omega) only [Int32.lt_iff_toInt_lt, Int32.le_iff_toInt_le, ← Int32.toInt_inj, nI_toInt, zi_m1, zi_m2, zi_m3, zi_m9]; omega) | decide)) only [sX10_placeOf_0, sX10_placeOf_2, sX10_placeOf_4, sX10_placeOf_5, sX10_placeOf_6, sX10_placeOf_7, zpush_v, zpush_n, gCk, gAi, gSi, gSz, gLi, gLq, ↓if_pos, ↓if_neg, nI_mul, nI_add]
theorem m_lineAt {h : Hp} (s : Nat) (Q : Option Value → Hp → Prop) : WPm 136 [.int (nI s)] h Q = Q (some (.int (nI (100 + 166 * s)))) h := by
  rw [eX10_lineAt]
  simp (disch := (first | omega | assumption | (simp (disch := omega) only [Int32.lt_iff_toInt_lt, Int32.le_iff_toInt_le, ← Int32.toInt_inj, nI_toInt, zi_m1, zi_m2, zi_m3, zi_m9]; omega) | decide)) only [sX10_lineAt_0, sX10_lineAt_2, sX10_lineAt_5, sX10_lineAt_6, sX10_lineAt_7, sX10_lineAt_8, zpush_v, zpush_n, gCk, gAi, gSi, gSz, gLi, gLq, ↓if_pos, ↓if_neg, nI_mul, nI_add]
theorem isSt_t {n k : Nat} (hv : v 0 = nI n) (hn : n ≤ 10) (hk : k < n) (Q : Option Value → Hp → Prop) : WPm 112 [.ref M, .int (nI k)] (mkM h0 M v pa pm fl tx ty ct wr it im sg sm lat hat sy nw os hgh pl asd lks) Q = Q (some (.int (nI 1))) (mkM h0 M v pa pm fl tx ty ct wr it im sg sm lat hat sy nw os hgh pl asd lks) := by
  have i := in_t (h := (mkM h0 M v pa pm fl tx ty ct wr it im sg sm lat hat sy nw os hgh pl asd lks)) (x := nI k) (lo := nI 0) (hi := nI n - nI 1) ⟨nI_le (by omega) (by omega), (le_pred (by omega)).mpr ((nI_ltI (by omega) (by omega)).mpr hk)⟩
  rw [eX10_isStyle]
  simp (disch := (first | omega | assumption | (simp (disch := omega) only [Int32.lt_iff_toInt_lt, Int32.le_iff_toInt_le, ← Int32.toInt_inj, nI_toInt, zi_m1, zi_m2, zi_m3, zi_m9]; omega) | decide)) only [sX10_isStyle_0, sX10_isStyle_1, sX10_isStyle_2, sX10_isStyle_3, sX10_isStyle_6, sX10_isStyle_7, sX10_isStyle_8, sX10_isStyle_9, sX10_isStyle_10, sX10_isStyle_13, mCk, mG0, mG1, mG2, mG3, mG4, mG5, mG6, mG7, mG8, mG9, mG10, mG11, mG12, mG13, mG14, mG15, mG16, mG17, mG18, mG19, mG20, mP2, mP5, mP6, mP7, mP9, mP11, mP14, mA1, mS1, mA2, mS2, mA3, mS3, mA4, mS4, mA5, mS5, mA6, mS6, mA7, mS7, mA8, mS8, mA9, mS9, mA10, mS10, mA11, mS11, mA12, mS12, mA13, mS13, mA14, mS14, zpush_v, zpush_n, gCk, gAi, gSi, gSz, gLi, gLq, ↓if_pos, ↓if_neg, hv, i]
theorem isSt_f {n : Nat} {x : Int32} (hv : v 0 = nI n) (hn : n ≤ 10) (hx : x < nI 0 ∨ nI n ≤ x) (Q : Option Value → Hp → Prop) : WPm 112 [.ref M, .int x] (mkM h0 M v pa pm fl tx ty ct wr it im sg sm lat hat sy nw os hgh pl asd lks) Q = Q (some (.int (nI 0))) (mkM h0 M v pa pm fl tx ty ct wr it im sg sm lat hat sy nw os hgh pl asd lks) := by
  have i := in_f (h := (mkM h0 M v pa pm fl tx ty ct wr it im sg sm lat hat sy nw os hgh pl asd lks)) (x := x) (lo := nI 0) (hi := nI n - nI 1) (hx.imp id (fun q => Int32.not_le.mp (fun z => Int32.not_lt.mpr q ((le_pred (by omega)).mp z))))
  rw [eX10_isStyle]
  simp (disch := (first | omega | assumption | (simp (disch := omega) only [Int32.lt_iff_toInt_lt, Int32.le_iff_toInt_le, ← Int32.toInt_inj, nI_toInt, zi_m1, zi_m2, zi_m3, zi_m9]; omega) | decide)) only [sX10_isStyle_0, sX10_isStyle_1, sX10_isStyle_2, sX10_isStyle_3, sX10_isStyle_6, sX10_isStyle_7, sX10_isStyle_8, sX10_isStyle_9, sX10_isStyle_10, sX10_isStyle_13, mCk, mG0, mG1, mG2, mG3, mG4, mG5, mG6, mG7, mG8, mG9, mG10, mG11, mG12, mG13, mG14, mG15, mG16, mG17, mG18, mG19, mG20, mP2, mP5, mP6, mP7, mP9, mP11, mP14, mA1, mS1, mA2, mS2, mA3, mS3, mA4, mS4, mA5, mS5, mA6, mS6, mA7, mS7, mA8, mS8, mA9, mS9, mA10, mS10, mA11, mS11, mA12, mS12, mA13, mS13, mA14, mS14, zpush_v, zpush_n, gCk, gAi, gSi, gSz, gLi, gLq, ↓if_pos, ↓if_neg, hv, i]
theorem isLn_t {n k : Nat} (hv : v 1 = nI n) (hn : n ≤ 16) (hk : k < n) (Q : Option Value → Hp → Prop) : WPm 137 [.ref M, .int (nI k)] (mkM h0 M v pa pm fl tx ty ct wr it im sg sm lat hat sy nw os hgh pl asd lks) Q = Q (some (.int (nI 1))) (mkM h0 M v pa pm fl tx ty ct wr it im sg sm lat hat sy nw os hgh pl asd lks) := by
  have i := in_t (h := (mkM h0 M v pa pm fl tx ty ct wr it im sg sm lat hat sy nw os hgh pl asd lks)) (x := nI k) (lo := nI 0) (hi := nI n - nI 1) ⟨nI_le (by omega) (by omega), (le_pred (by omega)).mpr ((nI_ltI (by omega) (by omega)).mpr hk)⟩
  rw [eX10_isLine]
  simp (disch := (first | omega | assumption | (simp (disch := omega) only [Int32.lt_iff_toInt_lt, Int32.le_iff_toInt_le, ← Int32.toInt_inj, nI_toInt, zi_m1, zi_m2, zi_m3, zi_m9]; omega) | decide)) only [sX10_isLine_0, sX10_isLine_1, sX10_isLine_2, sX10_isLine_3, sX10_isLine_6, sX10_isLine_7, sX10_isLine_8, sX10_isLine_9, sX10_isLine_10, sX10_isLine_13, mCk, mG0, mG1, mG2, mG3, mG4, mG5, mG6, mG7, mG8, mG9, mG10, mG11, mG12, mG13, mG14, mG15, mG16, mG17, mG18, mG19, mG20, mP2, mP5, mP6, mP7, mP9, mP11, mP14, mA1, mS1, mA2, mS2, mA3, mS3, mA4, mS4, mA5, mS5, mA6, mS6, mA7, mS7, mA8, mS8, mA9, mS9, mA10, mS10, mA11, mS11, mA12, mS12, mA13, mS13, mA14, mS14, zpush_v, zpush_n, gCk, gAi, gSi, gSz, gLi, gLq, ↓if_pos, ↓if_neg, hv, i]
theorem isLn_f {n : Nat} {x : Int32} (hv : v 1 = nI n) (hn : n ≤ 16) (hx : x < nI 0 ∨ nI n ≤ x) (Q : Option Value → Hp → Prop) : WPm 137 [.ref M, .int x] (mkM h0 M v pa pm fl tx ty ct wr it im sg sm lat hat sy nw os hgh pl asd lks) Q = Q (some (.int (nI 0))) (mkM h0 M v pa pm fl tx ty ct wr it im sg sm lat hat sy nw os hgh pl asd lks) := by
  have i := in_f (h := (mkM h0 M v pa pm fl tx ty ct wr it im sg sm lat hat sy nw os hgh pl asd lks)) (x := x) (lo := nI 0) (hi := nI n - nI 1) (hx.imp id (fun q => Int32.not_le.mp (fun z => Int32.not_lt.mpr q ((le_pred (by omega)).mp z))))
  rw [eX10_isLine]
  simp (disch := (first | omega | assumption | (simp (disch := omega) only [Int32.lt_iff_toInt_lt, Int32.le_iff_toInt_le, ← Int32.toInt_inj, nI_toInt, zi_m1, zi_m2, zi_m3, zi_m9]; omega) | decide)) only [sX10_isLine_0, sX10_isLine_1, sX10_isLine_2, sX10_isLine_3, sX10_isLine_6, sX10_isLine_7, sX10_isLine_8, sX10_isLine_9, sX10_isLine_10, sX10_isLine_13, mCk, mG0, mG1, mG2, mG3, mG4, mG5, mG6, mG7, mG8, mG9, mG10, mG11, mG12, mG13, mG14, mG15, mG16, mG17, mG18, mG19, mG20, mP2, mP5, mP6, mP7, mP9, mP11, mP14, mA1, mS1, mA2, mS2, mA3, mS3, mA4, mS4, mA5, mS5, mA6, mS6, mA7, mS7, mA8, mS8, mA9, mS9, mA10, mS10, mA11, mS11, mA12, mS12, mA13, mS13, mA14, mS14, zpush_v, zpush_n, gCk, gAi, gSi, gSz, gLi, gLq, ↓if_pos, ↓if_neg, hv, i]
theorem isSN_t {n k : Nat} (hv : v 0 = nI n) (hn : n ≤ 10) (hk : k < n) (Q : Option Value → Hp → Prop) : WPm 113 [.ref M, .int (nI k)] (mkM h0 M v pa pm fl tx ty ct wr it im sg sm lat hat sy nw os hgh pl asd lks) Q = Q (some (.int (nI 1))) (mkM h0 M v pa pm fl tx ty ct wr it im sg sm lat hat sy nw os hgh pl asd lks) := by
  rw [eX10_isStyleOrNone]
  simp (disch := (first | omega | assumption | (simp (disch := omega) only [Int32.lt_iff_toInt_lt, Int32.le_iff_toInt_le, ← Int32.toInt_inj, nI_toInt, zi_m1, zi_m2, zi_m3, zi_m9]; omega) | decide)) only [sX10_isStyleOrNone_0, sX10_isStyleOrNone_1, sX10_isStyleOrNone_2, sX10_isStyleOrNone_5, sX10_isStyleOrNone_6, sX10_isStyleOrNone_7, sX10_isStyleOrNone_10, sX10_isStyleOrNone_13, sX10_isStyleOrNone_14, sX10_isStyleOrNone_17, sX10_isStyleOrNone_18, mCk, mG0, mG1, mG2, mG3, mG4, mG5, mG6, mG7, mG8, mG9, mG10, mG11, mG12, mG13, mG14, mG15, mG16, mG17, mG18, mG19, mG20, mP2, mP5, mP6, mP7, mP9, mP11, mP14, mA1, mS1, mA2, mS2, mA3, mS3, mA4, mS4, mA5, mS5, mA6, mS6, mA7, mS7, mA8, mS8, mA9, mS9, mA10, mS10, mA11, mS11, mA12, mS12, mA13, mS13, mA14, mS14, zpush_v, zpush_n, gCk, gAi, gSi, gSz, gLi, gLq, ↓if_pos, ↓if_neg, isSt_t hv hn hk, nI_nm1]
theorem isSN_n (Q : Option Value → Hp → Prop) : WPm 113 [.ref M, .int (-1)] (mkM h0 M v pa pm fl tx ty ct wr it im sg sm lat hat sy nw os hgh pl asd lks) Q = Q (some (.int (nI 1))) (mkM h0 M v pa pm fl tx ty ct wr it im sg sm lat hat sy nw os hgh pl asd lks) := by
  rw [eX10_isStyleOrNone]
  simp (disch := (first | omega | assumption | (simp (disch := omega) only [Int32.lt_iff_toInt_lt, Int32.le_iff_toInt_le, ← Int32.toInt_inj, nI_toInt, zi_m1, zi_m2, zi_m3, zi_m9]; omega) | decide)) only [sX10_isStyleOrNone_0, sX10_isStyleOrNone_1, sX10_isStyleOrNone_2, sX10_isStyleOrNone_5, sX10_isStyleOrNone_6, sX10_isStyleOrNone_7, sX10_isStyleOrNone_10, sX10_isStyleOrNone_13, sX10_isStyleOrNone_14, sX10_isStyleOrNone_17, sX10_isStyleOrNone_18, mCk, mG0, mG1, mG2, mG3, mG4, mG5, mG6, mG7, mG8, mG9, mG10, mG11, mG12, mG13, mG14, mG15, mG16, mG17, mG18, mG19, mG20, mP2, mP5, mP6, mP7, mP9, mP11, mP14, mA1, mS1, mA2, mS2, mA3, mS3, mA4, mS4, mA5, mS5, mA6, mS6, mA7, mS7, mA8, mS8, mA9, mS9, mA10, mS10, mA11, mS11, mA12, mS12, mA13, mS13, mA14, mS14, zpush_v, zpush_n, gCk, gAi, gSi, gSz, gLi, gLq, ↓if_pos, ↓if_neg]
theorem isSN_f {n : Nat} {x : Int32} (hv : v 0 = nI n) (hn : n ≤ 10) (hx : x < nI 0 ∨ nI n ≤ x) (hm : ¬ x = -1) (Q : Option Value → Hp → Prop) : WPm 113 [.ref M, .int x] (mkM h0 M v pa pm fl tx ty ct wr it im sg sm lat hat sy nw os hgh pl asd lks) Q = Q (some (.int (nI 0))) (mkM h0 M v pa pm fl tx ty ct wr it im sg sm lat hat sy nw os hgh pl asd lks) := by
  rw [eX10_isStyleOrNone]
  simp (disch := (first | omega | assumption | (simp (disch := omega) only [Int32.lt_iff_toInt_lt, Int32.le_iff_toInt_le, ← Int32.toInt_inj, nI_toInt, zi_m1, zi_m2, zi_m3, zi_m9]; omega) | decide)) only [sX10_isStyleOrNone_0, sX10_isStyleOrNone_1, sX10_isStyleOrNone_2, sX10_isStyleOrNone_5, sX10_isStyleOrNone_6, sX10_isStyleOrNone_7, sX10_isStyleOrNone_10, sX10_isStyleOrNone_13, sX10_isStyleOrNone_14, sX10_isStyleOrNone_17, sX10_isStyleOrNone_18, mCk, mG0, mG1, mG2, mG3, mG4, mG5, mG6, mG7, mG8, mG9, mG10, mG11, mG12, mG13, mG14, mG15, mG16, mG17, mG18, mG19, mG20, mP2, mP5, mP6, mP7, mP9, mP11, mP14, mA1, mS1, mA2, mS2, mA3, mS3, mA4, mS4, mA5, mS5, mA6, mS6, mA7, mS7, mA8, mS8, mA9, mS9, mA10, mS10, mA11, mS11, mA12, mS12, mA13, mS13, mA14, mS14, zpush_v, zpush_n, gCk, gAi, gSi, gSz, gLi, gLq, ↓if_pos, ↓if_neg, isSt_f hv hn hx]
theorem m_basic {h : Hp} {p : Nat} (hp : p < 6) (Q : Option Value → Hp → Prop) : WPm 114 [.int (nI p)] h Q = Q (some (.int (nI (basicN p)))) h := by
  rw [eX10_basic]
  have : p = 0 ∨ p = 1 ∨ p = 2 ∨ p = 3 ∨ p = 4 ∨ p = 5 := by omega
  rcases this with rfl | rfl | rfl | rfl | rfl | rfl
  all_goals
    simp (disch := (first | omega | assumption | (simp (disch := omega) only [Int32.lt_iff_toInt_lt, Int32.le_iff_toInt_le, ← Int32.toInt_inj, nI_toInt, zi_m1, zi_m2, zi_m3, zi_m9]; omega) | decide)) only [sX10_basic_0, sX10_basic_1, sX10_basic_4, sX10_basic_6, sX10_basic_9, sX10_basic_10, sX10_basic_11, sX10_basic_14, sX10_basic_16, sX10_basic_19, sX10_basic_20, sX10_basic_21, sX10_basic_24, sX10_basic_25, sX10_basic_28, sX10_basic_29, sX10_basic_30, sX10_basic_33, sX10_basic_35, sX10_basic_38, sX10_basic_39, zpush_v, zpush_n, gCk, gAi, gSi, gSz, gLi, gLq, ↓if_pos, ↓if_neg]
    rfl
theorem isV_t {h : Hp} {p k : Nat} (hp : p < 6) (hk : loP p ≤ k ∧ k ≤ hiP p) (Q : Option Value → Hp → Prop) : WPm 115 [.int (nI p), .int (nI k)] h Q = Q (some (.int (nI 1))) h := by
  have h2 := hiP_le p
  rw [eX10_isValue]
  have : p = 0 ∨ p = 1 ∨ p = 2 ∨ p = 3 ∨ p = 4 ∨ p = 5 := by omega
  rcases this with rfl | rfl | rfl | rfl | rfl | rfl
  · have i := in_n (h := h) (k := k) (a := 1) (b := 99) (by omega) (by omega) (by omega)
    rw [bI_t (by exact hk)] at i
    simp (disch := (first | omega | assumption | (simp (disch := omega) only [Int32.lt_iff_toInt_lt, Int32.le_iff_toInt_le, ← Int32.toInt_inj, nI_toInt, zi_m1, zi_m2, zi_m3, zi_m9]; omega) | decide)) only [sX10_isValue_0, sX10_isValue_1, sX10_isValue_36, sX10_isValue_37, sX10_isValue_38, sX10_isValue_40, sX10_isValue_43, sX10_isValue_44, sX10_isValue_45, sX10_isValue_46, sX10_isValue_48, sX10_isValue_51, sX10_isValue_52, sX10_isValue_53, sX10_isValue_54, sX10_isValue_56, sX10_isValue_59, sX10_isValue_60, sX10_isValue_61, sX10_isValue_62, sX10_isValue_63, sX10_isValue_66, sX10_isValue_67, sX10_isValue_68, sX10_isValue_69, sX10_isValue_70, sX10_isValue_73, sX10_isValue_74, sX10_isValue_75, sX10_isValue_76, sX10_isValue_79, sX10_isValue_80, sX10_isValue_81, sX10_isValue_84, sX10_isValue_87, sX10_isValue_90, sX10_isValue_91, sX10_isValue_94, sX10_isValue_95, zpush_v, zpush_n, gCk, gAi, gSi, gSz, gLi, gLq, ↓if_pos, ↓if_neg, i]
  · have i := in_n (h := h) (k := k) (a := 0) (b := 7) (by omega) (by omega) (by omega)
    rw [bI_t (by exact hk)] at i
    simp (disch := (first | omega | assumption | (simp (disch := omega) only [Int32.lt_iff_toInt_lt, Int32.le_iff_toInt_le, ← Int32.toInt_inj, nI_toInt, zi_m1, zi_m2, zi_m3, zi_m9]; omega) | decide)) only [sX10_isValue_0, sX10_isValue_1, sX10_isValue_36, sX10_isValue_37, sX10_isValue_38, sX10_isValue_40, sX10_isValue_43, sX10_isValue_44, sX10_isValue_45, sX10_isValue_46, sX10_isValue_48, sX10_isValue_51, sX10_isValue_52, sX10_isValue_53, sX10_isValue_54, sX10_isValue_56, sX10_isValue_59, sX10_isValue_60, sX10_isValue_61, sX10_isValue_62, sX10_isValue_63, sX10_isValue_66, sX10_isValue_67, sX10_isValue_68, sX10_isValue_69, sX10_isValue_70, sX10_isValue_73, sX10_isValue_74, sX10_isValue_75, sX10_isValue_76, sX10_isValue_79, sX10_isValue_80, sX10_isValue_81, sX10_isValue_84, sX10_isValue_87, sX10_isValue_90, sX10_isValue_91, sX10_isValue_94, sX10_isValue_95, zpush_v, zpush_n, gCk, gAi, gSi, gSz, gLi, gLq, ↓if_pos, ↓if_neg, i]
  · have i := in_n (h := h) (k := k) (a := 0) (b := 7) (by omega) (by omega) (by omega)
    rw [bI_t (by exact hk)] at i
    simp (disch := (first | omega | assumption | (simp (disch := omega) only [Int32.lt_iff_toInt_lt, Int32.le_iff_toInt_le, ← Int32.toInt_inj, nI_toInt, zi_m1, zi_m2, zi_m3, zi_m9]; omega) | decide)) only [sX10_isValue_0, sX10_isValue_1, sX10_isValue_36, sX10_isValue_37, sX10_isValue_38, sX10_isValue_40, sX10_isValue_43, sX10_isValue_44, sX10_isValue_45, sX10_isValue_46, sX10_isValue_48, sX10_isValue_51, sX10_isValue_52, sX10_isValue_53, sX10_isValue_54, sX10_isValue_56, sX10_isValue_59, sX10_isValue_60, sX10_isValue_61, sX10_isValue_62, sX10_isValue_63, sX10_isValue_66, sX10_isValue_67, sX10_isValue_68, sX10_isValue_69, sX10_isValue_70, sX10_isValue_73, sX10_isValue_74, sX10_isValue_75, sX10_isValue_76, sX10_isValue_79, sX10_isValue_80, sX10_isValue_81, sX10_isValue_84, sX10_isValue_87, sX10_isValue_90, sX10_isValue_91, sX10_isValue_94, sX10_isValue_95, zpush_v, zpush_n, gCk, gAi, gSi, gSz, gLi, gLq, ↓if_pos, ↓if_neg, i]
  · have i := in_n (h := h) (k := k) (a := 0) (b := 1) (by omega) (by omega) (by omega)
    rw [bI_t (by exact hk)] at i
    simp (disch := (first | omega | assumption | (simp (disch := omega) only [Int32.lt_iff_toInt_lt, Int32.le_iff_toInt_le, ← Int32.toInt_inj, nI_toInt, zi_m1, zi_m2, zi_m3, zi_m9]; omega) | decide)) only [sX10_isValue_0, sX10_isValue_1, sX10_isValue_36, sX10_isValue_37, sX10_isValue_38, sX10_isValue_40, sX10_isValue_43, sX10_isValue_44, sX10_isValue_45, sX10_isValue_46, sX10_isValue_48, sX10_isValue_51, sX10_isValue_52, sX10_isValue_53, sX10_isValue_54, sX10_isValue_56, sX10_isValue_59, sX10_isValue_60, sX10_isValue_61, sX10_isValue_62, sX10_isValue_63, sX10_isValue_66, sX10_isValue_67, sX10_isValue_68, sX10_isValue_69, sX10_isValue_70, sX10_isValue_73, sX10_isValue_74, sX10_isValue_75, sX10_isValue_76, sX10_isValue_79, sX10_isValue_80, sX10_isValue_81, sX10_isValue_84, sX10_isValue_87, sX10_isValue_90, sX10_isValue_91, sX10_isValue_94, sX10_isValue_95, zpush_v, zpush_n, gCk, gAi, gSi, gSz, gLi, gLq, ↓if_pos, ↓if_neg, i]
  · have i := in_n (h := h) (k := k) (a := 0) (b := 2) (by omega) (by omega) (by omega)
    rw [bI_t (by exact hk)] at i
    simp (disch := (first | omega | assumption | (simp (disch := omega) only [Int32.lt_iff_toInt_lt, Int32.le_iff_toInt_le, ← Int32.toInt_inj, nI_toInt, zi_m1, zi_m2, zi_m3, zi_m9]; omega) | decide)) only [sX10_isValue_0, sX10_isValue_1, sX10_isValue_36, sX10_isValue_37, sX10_isValue_38, sX10_isValue_40, sX10_isValue_43, sX10_isValue_44, sX10_isValue_45, sX10_isValue_46, sX10_isValue_48, sX10_isValue_51, sX10_isValue_52, sX10_isValue_53, sX10_isValue_54, sX10_isValue_56, sX10_isValue_59, sX10_isValue_60, sX10_isValue_61, sX10_isValue_62, sX10_isValue_63, sX10_isValue_66, sX10_isValue_67, sX10_isValue_68, sX10_isValue_69, sX10_isValue_70, sX10_isValue_73, sX10_isValue_74, sX10_isValue_75, sX10_isValue_76, sX10_isValue_79, sX10_isValue_80, sX10_isValue_81, sX10_isValue_84, sX10_isValue_87, sX10_isValue_90, sX10_isValue_91, sX10_isValue_94, sX10_isValue_95, zpush_v, zpush_n, gCk, gAi, gSi, gSz, gLi, gLq, ↓if_pos, ↓if_neg, i]
  · have i := in_n (h := h) (k := k) (a := 0) (b := 200) (by omega) (by omega) (by omega)
    rw [bI_t (by exact hk)] at i
    simp (disch := (first | omega | assumption | (simp (disch := omega) only [Int32.lt_iff_toInt_lt, Int32.le_iff_toInt_le, ← Int32.toInt_inj, nI_toInt, zi_m1, zi_m2, zi_m3, zi_m9]; omega) | decide)) only [sX10_isValue_0, sX10_isValue_1, sX10_isValue_36, sX10_isValue_37, sX10_isValue_38, sX10_isValue_40, sX10_isValue_43, sX10_isValue_44, sX10_isValue_45, sX10_isValue_46, sX10_isValue_48, sX10_isValue_51, sX10_isValue_52, sX10_isValue_53, sX10_isValue_54, sX10_isValue_56, sX10_isValue_59, sX10_isValue_60, sX10_isValue_61, sX10_isValue_62, sX10_isValue_63, sX10_isValue_66, sX10_isValue_67, sX10_isValue_68, sX10_isValue_69, sX10_isValue_70, sX10_isValue_73, sX10_isValue_74, sX10_isValue_75, sX10_isValue_76, sX10_isValue_79, sX10_isValue_80, sX10_isValue_81, sX10_isValue_84, sX10_isValue_87, sX10_isValue_90, sX10_isValue_91, sX10_isValue_94, sX10_isValue_95, zpush_v, zpush_n, gCk, gAi, gSi, gSz, gLi, gLq, ↓if_pos, ↓if_neg, i]
theorem isV_f {h : Hp} {p : Nat} {x : Int32} (hp : p < 6) (hx : x < nI (loP p) ∨ nI (hiP p) < x) (Q : Option Value → Hp → Prop) : WPm 115 [.int (nI p), .int x] h Q = Q (some (.int (nI 0))) h := by
  rw [eX10_isValue]
  have : p = 0 ∨ p = 1 ∨ p = 2 ∨ p = 3 ∨ p = 4 ∨ p = 5 := by omega
  rcases this with rfl | rfl | rfl | rfl | rfl | rfl
  · have i := in_f (h := h) (x := x) (lo := nI 1) (hi := nI 99) hx
    simp (disch := (first | omega | assumption | (simp (disch := omega) only [Int32.lt_iff_toInt_lt, Int32.le_iff_toInt_le, ← Int32.toInt_inj, nI_toInt, zi_m1, zi_m2, zi_m3, zi_m9]; omega) | decide)) only [sX10_isValue_0, sX10_isValue_1, sX10_isValue_36, sX10_isValue_37, sX10_isValue_38, sX10_isValue_40, sX10_isValue_43, sX10_isValue_44, sX10_isValue_45, sX10_isValue_46, sX10_isValue_48, sX10_isValue_51, sX10_isValue_52, sX10_isValue_53, sX10_isValue_54, sX10_isValue_56, sX10_isValue_59, sX10_isValue_60, sX10_isValue_61, sX10_isValue_62, sX10_isValue_63, sX10_isValue_66, sX10_isValue_67, sX10_isValue_68, sX10_isValue_69, sX10_isValue_70, sX10_isValue_73, sX10_isValue_74, sX10_isValue_75, sX10_isValue_76, sX10_isValue_79, sX10_isValue_80, sX10_isValue_81, sX10_isValue_84, sX10_isValue_87, sX10_isValue_90, sX10_isValue_91, sX10_isValue_94, sX10_isValue_95, zpush_v, zpush_n, gCk, gAi, gSi, gSz, gLi, gLq, ↓if_pos, ↓if_neg, i]
  · have i := in_f (h := h) (x := x) (lo := nI 0) (hi := nI 7) hx
    simp (disch := (first | omega | assumption | (simp (disch := omega) only [Int32.lt_iff_toInt_lt, Int32.le_iff_toInt_le, ← Int32.toInt_inj, nI_toInt, zi_m1, zi_m2, zi_m3, zi_m9]; omega) | decide)) only [sX10_isValue_0, sX10_isValue_1, sX10_isValue_36, sX10_isValue_37, sX10_isValue_38, sX10_isValue_40, sX10_isValue_43, sX10_isValue_44, sX10_isValue_45, sX10_isValue_46, sX10_isValue_48, sX10_isValue_51, sX10_isValue_52, sX10_isValue_53, sX10_isValue_54, sX10_isValue_56, sX10_isValue_59, sX10_isValue_60, sX10_isValue_61, sX10_isValue_62, sX10_isValue_63, sX10_isValue_66, sX10_isValue_67, sX10_isValue_68, sX10_isValue_69, sX10_isValue_70, sX10_isValue_73, sX10_isValue_74, sX10_isValue_75, sX10_isValue_76, sX10_isValue_79, sX10_isValue_80, sX10_isValue_81, sX10_isValue_84, sX10_isValue_87, sX10_isValue_90, sX10_isValue_91, sX10_isValue_94, sX10_isValue_95, zpush_v, zpush_n, gCk, gAi, gSi, gSz, gLi, gLq, ↓if_pos, ↓if_neg, i]
  · have i := in_f (h := h) (x := x) (lo := nI 0) (hi := nI 7) hx
    simp (disch := (first | omega | assumption | (simp (disch := omega) only [Int32.lt_iff_toInt_lt, Int32.le_iff_toInt_le, ← Int32.toInt_inj, nI_toInt, zi_m1, zi_m2, zi_m3, zi_m9]; omega) | decide)) only [sX10_isValue_0, sX10_isValue_1, sX10_isValue_36, sX10_isValue_37, sX10_isValue_38, sX10_isValue_40, sX10_isValue_43, sX10_isValue_44, sX10_isValue_45, sX10_isValue_46, sX10_isValue_48, sX10_isValue_51, sX10_isValue_52, sX10_isValue_53, sX10_isValue_54, sX10_isValue_56, sX10_isValue_59, sX10_isValue_60, sX10_isValue_61, sX10_isValue_62, sX10_isValue_63, sX10_isValue_66, sX10_isValue_67, sX10_isValue_68, sX10_isValue_69, sX10_isValue_70, sX10_isValue_73, sX10_isValue_74, sX10_isValue_75, sX10_isValue_76, sX10_isValue_79, sX10_isValue_80, sX10_isValue_81, sX10_isValue_84, sX10_isValue_87, sX10_isValue_90, sX10_isValue_91, sX10_isValue_94, sX10_isValue_95, zpush_v, zpush_n, gCk, gAi, gSi, gSz, gLi, gLq, ↓if_pos, ↓if_neg, i]
  · have i := in_f (h := h) (x := x) (lo := nI 0) (hi := nI 1) hx
    simp (disch := (first | omega | assumption | (simp (disch := omega) only [Int32.lt_iff_toInt_lt, Int32.le_iff_toInt_le, ← Int32.toInt_inj, nI_toInt, zi_m1, zi_m2, zi_m3, zi_m9]; omega) | decide)) only [sX10_isValue_0, sX10_isValue_1, sX10_isValue_36, sX10_isValue_37, sX10_isValue_38, sX10_isValue_40, sX10_isValue_43, sX10_isValue_44, sX10_isValue_45, sX10_isValue_46, sX10_isValue_48, sX10_isValue_51, sX10_isValue_52, sX10_isValue_53, sX10_isValue_54, sX10_isValue_56, sX10_isValue_59, sX10_isValue_60, sX10_isValue_61, sX10_isValue_62, sX10_isValue_63, sX10_isValue_66, sX10_isValue_67, sX10_isValue_68, sX10_isValue_69, sX10_isValue_70, sX10_isValue_73, sX10_isValue_74, sX10_isValue_75, sX10_isValue_76, sX10_isValue_79, sX10_isValue_80, sX10_isValue_81, sX10_isValue_84, sX10_isValue_87, sX10_isValue_90, sX10_isValue_91, sX10_isValue_94, sX10_isValue_95, zpush_v, zpush_n, gCk, gAi, gSi, gSz, gLi, gLq, ↓if_pos, ↓if_neg, i]
  · have i := in_f (h := h) (x := x) (lo := nI 0) (hi := nI 2) hx
    simp (disch := (first | omega | assumption | (simp (disch := omega) only [Int32.lt_iff_toInt_lt, Int32.le_iff_toInt_le, ← Int32.toInt_inj, nI_toInt, zi_m1, zi_m2, zi_m3, zi_m9]; omega) | decide)) only [sX10_isValue_0, sX10_isValue_1, sX10_isValue_36, sX10_isValue_37, sX10_isValue_38, sX10_isValue_40, sX10_isValue_43, sX10_isValue_44, sX10_isValue_45, sX10_isValue_46, sX10_isValue_48, sX10_isValue_51, sX10_isValue_52, sX10_isValue_53, sX10_isValue_54, sX10_isValue_56, sX10_isValue_59, sX10_isValue_60, sX10_isValue_61, sX10_isValue_62, sX10_isValue_63, sX10_isValue_66, sX10_isValue_67, sX10_isValue_68, sX10_isValue_69, sX10_isValue_70, sX10_isValue_73, sX10_isValue_74, sX10_isValue_75, sX10_isValue_76, sX10_isValue_79, sX10_isValue_80, sX10_isValue_81, sX10_isValue_84, sX10_isValue_87, sX10_isValue_90, sX10_isValue_91, sX10_isValue_94, sX10_isValue_95, zpush_v, zpush_n, gCk, gAi, gSi, gSz, gLi, gLq, ↓if_pos, ↓if_neg, i]
  · have i := in_f (h := h) (x := x) (lo := nI 0) (hi := nI 200) hx
    simp (disch := (first | omega | assumption | (simp (disch := omega) only [Int32.lt_iff_toInt_lt, Int32.le_iff_toInt_le, ← Int32.toInt_inj, nI_toInt, zi_m1, zi_m2, zi_m3, zi_m9]; omega) | decide)) only [sX10_isValue_0, sX10_isValue_1, sX10_isValue_36, sX10_isValue_37, sX10_isValue_38, sX10_isValue_40, sX10_isValue_43, sX10_isValue_44, sX10_isValue_45, sX10_isValue_46, sX10_isValue_48, sX10_isValue_51, sX10_isValue_52, sX10_isValue_53, sX10_isValue_54, sX10_isValue_56, sX10_isValue_59, sX10_isValue_60, sX10_isValue_61, sX10_isValue_62, sX10_isValue_63, sX10_isValue_66, sX10_isValue_67, sX10_isValue_68, sX10_isValue_69, sX10_isValue_70, sX10_isValue_73, sX10_isValue_74, sX10_isValue_75, sX10_isValue_76, sX10_isValue_79, sX10_isValue_80, sX10_isValue_81, sX10_isValue_84, sX10_isValue_87, sX10_isValue_90, sX10_isValue_91, sX10_isValue_94, sX10_isValue_95, zpush_v, zpush_n, gCk, gAi, gSi, gSz, gLi, gLq, ↓if_pos, ↓if_neg, i]
/-- the states kept move down -/
def shm (pa : Nat → Int32) (i : Nat) : Nat → Int32 := fun q => if q < i then pa (q + 2760) else pa q
theorem shm_step (pa : Nat → Int32) (i : Nat) : upd (shm pa i) i (shm pa i (i + 2760)) = shm pa (i + 1) := by
  funext q
  simp only [shm, upd]
  rw [if_neg (show ¬ i + 2760 < i by omega)]
  by_cases c : q = i
  · subst c
    rw [if_pos rfl, if_pos (by omega)]
  · rw [if_neg c]
    by_cases d : q < i
    · rw [if_pos d, if_pos (by omega)]
    · rw [if_neg d, if_neg (by omega)]
/-- a row put in at b -/
def pst (pa v : Nat → Int32) (b i : Nat) : Nat → Int32 := fun q => if b ≤ q ∧ q < b + i then v (q - b) else pa q
theorem pst_step (pa v : Nat → Int32) (b i : Nat) : upd (pst pa v b i) (b + i) (v i) = pst pa v b (i + 1) := by
  funext q
  simp only [pst, upd]
  by_cases c : q = b + i
  · subst c
    rw [if_pos rfl, if_pos (by omega), Nat.add_sub_cancel_left]
  · rw [if_neg c]
    by_cases d : b ≤ q ∧ q < b + i
    · rw [if_pos d, if_pos (by omega)]
    · rw [if_neg d, if_neg (by omega)]
theorem shm_0 (pa : Nat → Int32) : shm pa 0 = pa := by funext q; exact if_neg (by omega)
theorem pst_0 (pa v : Nat → Int32) (b : Nat) : pst pa v b 0 = pa := by funext q; exact if_neg (by omega)
theorem l_act1 (Q : Option Value → Hp → Prop) : ∀ (m i : Nat), m + i = 11040 → WP 109 10 [some (.ref M), some (.int (nI i))] [] (mkM h0 M v (shm pa i) pm fl tx ty ct wr it im sg sm lat hat sy nw os hgh pl asd lks) Q = WP 109 39 [some (.ref M), some (.int (nI 11040))] [] (mkM h0 M v (shm pa 11040) pm fl tx ty ct wr it im sg sm lat hat sy nw os hgh pl asd lks) Q := by
  intro m
  induction m with
  | zero =>
    intro i hi
    have hi : i = 11040 := by omega
    subst hi
    rw [sX10_act_10]
    simp (disch := (first | omega | assumption | (simp (disch := omega) only [Int32.lt_iff_toInt_lt, Int32.le_iff_toInt_le, ← Int32.toInt_inj, nI_toInt, zi_m1, zi_m2, zi_m3, zi_m9]; omega) | decide)) only [sX10_act_11, sX10_act_14, zpush_v, zpush_n, gCk, gAi, gSi, gSz, gLi, gLq, ↓if_pos, ↓if_neg]
  | succ m ih =>
    intro i hi
    rw [← ih (i + 1) (by omega), sX10_act_10]
    simp (disch := (first | omega | assumption | (simp (disch := omega) only [Int32.lt_iff_toInt_lt, Int32.le_iff_toInt_le, ← Int32.toInt_inj, nI_toInt, zi_m1, zi_m2, zi_m3, zi_m9]; omega) | decide)) only [sX10_act_11, sX10_act_14, sX10_act_17, sX10_act_18, sX10_act_21, sX10_act_22, sX10_act_23, sX10_act_26, sX10_act_27, sX10_act_30, sX10_act_31, sX10_act_32, sX10_act_33i, sX10_act_33r, sX10_act_33z, sX10_act_33o, sX10_act_36, mCk, mG0, mG1, mG2, mG3, mG4, mG5, mG6, mG7, mG8, mG9, mG10, mG11, mG12, mG13, mG14, mG15, mG16, mG17, mG18, mG19, mG20, mP2, mP5, mP6, mP7, mP9, mP11, mP14, mA1, mS1, mA2, mS2, mA3, mS3, mA4, mS4, mA5, mS5, mA6, mS6, mA7, mS7, mA8, mS8, mA9, mS9, mA10, mS10, mA11, mS11, mA12, mS12, mA13, mS13, mA14, mS14, zpush_v, zpush_n, gCk, gAi, gSi, gSz, gLi, gLq, ↓if_pos, ↓if_neg, nI_add, shm_step]
theorem l_act2 {n : Nat} (hn : n ≤ 4) (Q : Option Value → Hp → Prop) : ∀ (m i : Nat), m + i = 2760 → WP 109 51 [some (.ref M), some (.int (nI i))] [] (mkM h0 M v (pst pa v (2760 * n) i) (nI n) fl tx ty ct wr it im sg sm lat hat sy nw os hgh pl asd lks) Q = WP 109 85 [some (.ref M), some (.int (nI 2760))] [] (mkM h0 M v (pst pa v (2760 * n) 2760) (nI n) fl tx ty ct wr it im sg sm lat hat sy nw os hgh pl asd lks) Q := by
  intro m
  induction m with
  | zero =>
    intro i hi
    have hi : i = 2760 := by omega
    subst hi
    rw [sX10_act_51]
    simp (disch := (first | omega | assumption | (simp (disch := omega) only [Int32.lt_iff_toInt_lt, Int32.le_iff_toInt_le, ← Int32.toInt_inj, nI_toInt, zi_m1, zi_m2, zi_m3, zi_m9]; omega) | decide)) only [sX10_act_52, sX10_act_55, zpush_v, zpush_n, gCk, gAi, gSi, gSz, gLi, gLq, ↓if_pos, ↓if_neg]
  | succ m ih =>
    intro i hi
    rw [← ih (i + 1) (by omega), sX10_act_51]
    simp (disch := (first | omega | assumption | (simp (disch := omega) only [Int32.lt_iff_toInt_lt, Int32.le_iff_toInt_le, ← Int32.toInt_inj, nI_toInt, zi_m1, zi_m2, zi_m3, zi_m9]; omega) | decide)) only [sX10_act_52, sX10_act_55, sX10_act_58, sX10_act_59, sX10_act_62, sX10_act_65, sX10_act_66, sX10_act_69, sX10_act_70, sX10_act_71, sX10_act_72, sX10_act_73, sX10_act_76, sX10_act_77, sX10_act_78, sX10_act_79i, sX10_act_79r, sX10_act_79z, sX10_act_79o, sX10_act_82, mCk, mG0, mG1, mG2, mG3, mG4, mG5, mG6, mG7, mG8, mG9, mG10, mG11, mG12, mG13, mG14, mG15, mG16, mG17, mG18, mG19, mG20, mP2, mP5, mP6, mP7, mP9, mP11, mP14, mA1, mS1, mA2, mS2, mA3, mS3, mA4, mS4, mA5, mS5, mA6, mS6, mA7, mS7, mA8, mS8, mA9, mS9, mA10, mS10, mA11, mS11, mA12, mS12, mA13, mS13, mA14, mS14, zpush_v, zpush_n, gCk, gAi, gSi, gSz, gLi, gLq, ↓if_pos, ↓if_neg, nI_add, nI_mul, pst_step]
theorem l_act10 (Q : Option Value → Hp → Prop) : WP 109 10 [some (.ref M), some (.int (nI 0))] [] (mkM h0 M v pa pm fl tx ty ct wr it im sg sm lat hat sy nw os hgh pl asd lks) Q = WP 109 39 [some (.ref M), some (.int (nI 11040))] [] (mkM h0 M v (shm pa 11040) pm fl tx ty ct wr it im sg sm lat hat sy nw os hgh pl asd lks) Q := by
  have a := l_act1 (h0 := h0) (M := M) (v := v) (pa := pa) (pm := pm) (fl := fl) (tx := tx) (ty := ty) (ct := ct) (wr := wr) (it := it) (im := im) (sg := sg) (sm := sm) (lat := lat) (hat := hat) (sy := sy) (nw := nw) (os := os) (hgh := hgh) (pl := pl) (asd := asd) (lks := lks) Q 11040 0 rfl
  rw [shm_0] at a
  exact a
theorem l_act20 {n : Nat} (hn : n ≤ 4) (Q : Option Value → Hp → Prop) : WP 109 51 [some (.ref M), some (.int (nI 0))] [] (mkM h0 M v pa (nI n) fl tx ty ct wr it im sg sm lat hat sy nw os hgh pl asd lks) Q = WP 109 85 [some (.ref M), some (.int (nI 2760))] [] (mkM h0 M v (pst pa v (2760 * n) 2760) (nI n) fl tx ty ct wr it im sg sm lat hat sy nw os hgh pl asd lks) Q := by
  have a := l_act2 (h0 := h0) (M := M) (v := v) (pa := pa) (fl := fl) (tx := tx) (ty := ty) (ct := ct) (wr := wr) (it := it) (im := im) (sg := sg) (sm := sm) (lat := lat) (hat := hat) (sy := sy) (nw := nw) (os := os) (hgh := hgh) (pl := pl) (asd := asd) (lks := lks) hn Q 2760 0 rfl
  rw [pst_0] at a
  exact a
def actP (pa v : Nat → Int32) (n : Nat) : Nat → Int32 := if n = 5 then pst (shm pa 11040) v (2760 * 4) 2760 else pst pa v (2760 * n) 2760
def actN (n : Nat) : Nat := if n = 5 then 5 else n + 1
theorem m_act {n : Nat} (hn : n ≤ 5) (Q : Option Value → Hp → Prop) : WPm 109 [.ref M] (mkM h0 M v pa (nI n) fl tx ty ct wr it im sg sm lat hat sy nw os hgh pl asd lks) Q = Q none (mkM h0 M v (actP pa v n) (nI (actN n)) fl tx ty ct wr it im sg sm lat hat sy nw os hgh pl asd lks) := by
  unfold actP actN
  rw [eX10_act]
  by_cases c : n = 5
  · subst c
    rw [if_pos rfl, if_pos rfl]
    simp (disch := (first | omega | assumption | (simp (disch := omega) only [Int32.lt_iff_toInt_lt, Int32.le_iff_toInt_le, ← Int32.toInt_inj, nI_toInt, zi_m1, zi_m2, zi_m3, zi_m9]; omega) | decide)) only [sX10_act_0, sX10_act_1, sX10_act_4, sX10_act_5, sX10_act_8, sX10_act_9i, sX10_act_9r, sX10_act_9z, sX10_act_9o, sX10_act_39, sX10_act_40, sX10_act_40i, sX10_act_41, sX10_act_44, sX10_act_45, sX10_act_46, sX10_act_49, sX10_act_50i, sX10_act_50r, sX10_act_50z, sX10_act_50o, sX10_act_85, sX10_act_86, sX10_act_86i, sX10_act_87, sX10_act_90, sX10_act_91, sX10_act_92, sX10_act_95, mCk, mG0, mG1, mG2, mG3, mG4, mG5, mG6, mG7, mG8, mG9, mG10, mG11, mG12, mG13, mG14, mG15, mG16, mG17, mG18, mG19, mG20, mP2, mP5, mP6, mP7, mP9, mP11, mP14, mA1, mS1, mA2, mS2, mA3, mS3, mA4, mS4, mA5, mS5, mA6, mS6, mA7, mS7, mA8, mS8, mA9, mS9, mA10, mS10, mA11, mS11, mA12, mS12, mA13, mS13, mA14, mS14, zpush_v, zpush_n, gCk, gAi, gSi, gSz, gLi, gLq, ↓if_pos, ↓if_neg, l_act10, nI_sub, Nat.reduceSub, l_act20 (n := 4) (by omega), nI_add]
  · rw [if_neg c, if_neg c]
    simp (disch := (first | omega | assumption | (simp (disch := omega) only [Int32.lt_iff_toInt_lt, Int32.le_iff_toInt_le, ← Int32.toInt_inj, nI_toInt, zi_m1, zi_m2, zi_m3, zi_m9]; omega) | decide)) only [sX10_act_0, sX10_act_1, sX10_act_4, sX10_act_5, sX10_act_8, sX10_act_9i, sX10_act_9r, sX10_act_9z, sX10_act_9o, sX10_act_39, sX10_act_40, sX10_act_40i, sX10_act_41, sX10_act_44, sX10_act_45, sX10_act_46, sX10_act_49, sX10_act_50i, sX10_act_50r, sX10_act_50z, sX10_act_50o, sX10_act_85, sX10_act_86, sX10_act_86i, sX10_act_87, sX10_act_90, sX10_act_91, sX10_act_92, sX10_act_95, mCk, mG0, mG1, mG2, mG3, mG4, mG5, mG6, mG7, mG8, mG9, mG10, mG11, mG12, mG13, mG14, mG15, mG16, mG17, mG18, mG19, mG20, mP2, mP5, mP6, mP7, mP9, mP11, mP14, mA1, mS1, mA2, mS2, mA3, mS3, mA4, mS4, mA5, mS5, mA6, mS6, mA7, mS7, mA8, mS8, mA9, mS9, mA10, mS10, mA11, mS11, mA12, mS12, mA13, mS13, mA14, mS14, zpush_v, zpush_n, gCk, gAi, gSi, gSz, gLi, gLq, ↓if_pos, ↓if_neg, l_act20 (n := n) (by omega), nI_add]
end MA
