/-! the model: shown, crowd, sung -/
theorem sub_z {x y : Nat} (hx : x ≤ 1000000) (hy : y ≤ 1000000) : nI x - nI y = nI 0 ↔ x = y := by
  rw [← Int32.toInt_inj, nI_subT hx hy, nI_toInt (by omega)]
  omega
theorem sub_ge {x y : Nat} (hx : x ≤ 1000000) (hy : y ≤ 1000000) : nI 0 ≤ nI x - nI y ↔ y ≤ x := by
  rw [Int32.le_iff_toInt_le, nI_subT hx hy, nI_toInt (by omega)]
  omega
section MM2
variable {h0 : Hp} {M : Nat} {v pa fl tx it sg lat hat nw os hgh pl asd lks : Nat → Int32} {pm ty ct wr im sm sy : Int32}
variable {p : PS} {h : Hp}
theorem m_isAhead {st : Stt} (hv : encV v st) (hw : WfSt st) (hos : ∀ n, n < st.2.1.length → os n = nI (offC st.1 st.2.1 n)) {i j : Nat} (hi : i < st.2.1.length) (hj : j < st.2.1.length) (Q : Option Value → Hp → Prop) : WPm 163 [.ref M, .int (nI i), .int (nI j)] (mkM h0 M v pa pm fl tx ty ct wr it im sg sm lat hat sy nw os hgh pl asd lks) Q = Q (some (.int (bI (pBf st.1 st.2.1 (offC st.1 st.2.1) i j)))) (mkM h0 M v pa pm fl tx ty ct wr it im sg sm lat hat sy nw os hgh pl asd lks) := by
  have h16 := hw.2.1.1
  have g1 := fun Q => m_group (h0 := h0) (M := M) (v := v) (pa := pa) (pm := pm) (fl := fl) (tx := tx) (ty := ty) (ct := ct) (wr := wr) (it := it) (im := im) (sg := sg) (sm := sm) (lat := lat) (hat := hat) (sy := sy) (nw := nw) (os := os) (hgh := hgh) (pl := pl) (asd := asd) (lks := lks) hv hw hi Q
  have g2 := fun Q => m_group (h0 := h0) (M := M) (v := v) (pa := pa) (pm := pm) (fl := fl) (tx := tx) (ty := ty) (ct := ct) (wr := wr) (it := it) (im := im) (sg := sg) (sm := sm) (lat := lat) (hat := hat) (sy := sy) (nw := nw) (os := os) (hgh := hgh) (pl := pl) (asd := asd) (lks := lks) hv hw hj Q
  have o1 := hos i hi
  have o2 := hos j hj
  have v1 := valS_le hw.1 (show 4 < 6 by omega) (lnA st.2.1 i).2.2.1
  have v2 := valS_le hw.1 (show 4 < 6 by omega) (lnA st.2.1 j).2.2.1
  have w1 := offC_le hw.1 hw.2.1 hi
  have w2 := offC_le hw.1 hw.2.1 hj
  have A1 := sub_z (x := valS st.1 4 (lnA st.2.1 i).2.2.1) (y := valS st.1 4 (lnA st.2.1 j).2.2.1) (by omega) (by omega)
  have A2 := sub_ge (x := valS st.1 4 (lnA st.2.1 i).2.2.1) (y := valS st.1 4 (lnA st.2.1 j).2.2.1) (by omega) (by omega)
  have B1 := sub_z (x := offC st.1 st.2.1 i) (y := offC st.1 st.2.1 j) (by omega) (by omega)
  have B2 := sub_ge (x := offC st.1 st.2.1 i) (y := offC st.1 st.2.1 j) (by omega) (by omega)
  unfold pBf
  generalize valS st.1 4 (lnA st.2.1 i).2.2.1 = ga at *
  generalize valS st.1 4 (lnA st.2.1 j).2.2.1 = gb at *
  generalize offC st.1 st.2.1 i = oa at *
  generalize offC st.1 st.2.1 j = ob at *
  rw [eX10_isAhead]
  by_cases c1 : ga = gb
  · have d1 := A1.mpr c1
    by_cases c2 : oa = ob
    · have d2 := B1.mpr c2
      by_cases c3 : i < j
      · rw [bI_t (by omega)]
        simp (disch := (first | omega | assumption | (simp (disch := omega) only [Int32.lt_iff_toInt_lt, Int32.le_iff_toInt_le, ← Int32.toInt_inj, nI_toInt, zi_m1, zi_m2, zi_m3, zi_m9]; omega) | decide)) only [sX10_isAhead_0, sX10_isAhead_1, sX10_isAhead_2, sX10_isAhead_5, sX10_isAhead_6, sX10_isAhead_7, sX10_isAhead_10, sX10_isAhead_11i, sX10_isAhead_11r, sX10_isAhead_11z, sX10_isAhead_11o, sX10_isAhead_12, sX10_isAhead_13, sX10_isAhead_16, sX10_isAhead_17, sX10_isAhead_20, sX10_isAhead_21, sX10_isAhead_22, sX10_isAhead_23, sX10_isAhead_26, sX10_isAhead_27, sX10_isAhead_28, sX10_isAhead_29, sX10_isAhead_32, sX10_isAhead_33i, sX10_isAhead_33r, sX10_isAhead_33z, sX10_isAhead_33o, sX10_isAhead_34, sX10_isAhead_35, sX10_isAhead_38, sX10_isAhead_39, sX10_isAhead_40, sX10_isAhead_43, sX10_isAhead_44, sX10_isAhead_47, sX10_isAhead_48, sX10_isAhead_51, sX10_isAhead_52, sX10_isAhead_55, sX10_isAhead_56, sX10_isAhead_59, sX10_isAhead_60, mCk, mG0, mG1, mG2, mG3, mG4, mG5, mG6, mG7, mG8, mG9, mG10, mG11, mG12, mG13, mG14, mG15, mG16, mG17, mG18, mG19, mG20, mP2, mP5, mP6, mP7, mP9, mP11, mP14, mA1, mS1, mA2, mS2, mA3, mS3, mA4, mS4, mA5, mS5, mA6, mS6, mA7, mS7, mA8, mS8, mA9, mS9, mA10, mS10, mA11, mS11, mA12, mS12, mA13, mS13, mA14, mS14, zpush_v, zpush_n, gCk, gAi, gSi, gSz, gLi, gLq, ↓if_pos, ↓if_neg, g1, g2, o1, o2, d1, d2]
      · rw [bI_f (by omega)]
        simp (disch := (first | omega | assumption | (simp (disch := omega) only [Int32.lt_iff_toInt_lt, Int32.le_iff_toInt_le, ← Int32.toInt_inj, nI_toInt, zi_m1, zi_m2, zi_m3, zi_m9]; omega) | decide)) only [sX10_isAhead_0, sX10_isAhead_1, sX10_isAhead_2, sX10_isAhead_5, sX10_isAhead_6, sX10_isAhead_7, sX10_isAhead_10, sX10_isAhead_11i, sX10_isAhead_11r, sX10_isAhead_11z, sX10_isAhead_11o, sX10_isAhead_12, sX10_isAhead_13, sX10_isAhead_16, sX10_isAhead_17, sX10_isAhead_20, sX10_isAhead_21, sX10_isAhead_22, sX10_isAhead_23, sX10_isAhead_26, sX10_isAhead_27, sX10_isAhead_28, sX10_isAhead_29, sX10_isAhead_32, sX10_isAhead_33i, sX10_isAhead_33r, sX10_isAhead_33z, sX10_isAhead_33o, sX10_isAhead_34, sX10_isAhead_35, sX10_isAhead_38, sX10_isAhead_39, sX10_isAhead_40, sX10_isAhead_43, sX10_isAhead_44, sX10_isAhead_47, sX10_isAhead_48, sX10_isAhead_51, sX10_isAhead_52, sX10_isAhead_55, sX10_isAhead_56, sX10_isAhead_59, sX10_isAhead_60, mCk, mG0, mG1, mG2, mG3, mG4, mG5, mG6, mG7, mG8, mG9, mG10, mG11, mG12, mG13, mG14, mG15, mG16, mG17, mG18, mG19, mG20, mP2, mP5, mP6, mP7, mP9, mP11, mP14, mA1, mS1, mA2, mS2, mA3, mS3, mA4, mS4, mA5, mS5, mA6, mS6, mA7, mS7, mA8, mS8, mA9, mS9, mA10, mS10, mA11, mS11, mA12, mS12, mA13, mS13, mA14, mS14, zpush_v, zpush_n, gCk, gAi, gSi, gSz, gLi, gLq, ↓if_pos, ↓if_neg, g1, g2, o1, o2, d1, d2]
    · have d2 : ¬ nI oa - nI ob = nI 0 := fun q => c2 (B1.mp q)
      by_cases c3 : ob ≤ oa
      · have d3 := B2.mpr c3
        rw [bI_f (by omega)]
        simp (disch := (first | omega | assumption | (simp (disch := omega) only [Int32.lt_iff_toInt_lt, Int32.le_iff_toInt_le, ← Int32.toInt_inj, nI_toInt, zi_m1, zi_m2, zi_m3, zi_m9]; omega) | decide)) only [sX10_isAhead_0, sX10_isAhead_1, sX10_isAhead_2, sX10_isAhead_5, sX10_isAhead_6, sX10_isAhead_7, sX10_isAhead_10, sX10_isAhead_11i, sX10_isAhead_11r, sX10_isAhead_11z, sX10_isAhead_11o, sX10_isAhead_12, sX10_isAhead_13, sX10_isAhead_16, sX10_isAhead_17, sX10_isAhead_20, sX10_isAhead_21, sX10_isAhead_22, sX10_isAhead_23, sX10_isAhead_26, sX10_isAhead_27, sX10_isAhead_28, sX10_isAhead_29, sX10_isAhead_32, sX10_isAhead_33i, sX10_isAhead_33r, sX10_isAhead_33z, sX10_isAhead_33o, sX10_isAhead_34, sX10_isAhead_35, sX10_isAhead_38, sX10_isAhead_39, sX10_isAhead_40, sX10_isAhead_43, sX10_isAhead_44, sX10_isAhead_47, sX10_isAhead_48, sX10_isAhead_51, sX10_isAhead_52, sX10_isAhead_55, sX10_isAhead_56, sX10_isAhead_59, sX10_isAhead_60, mCk, mG0, mG1, mG2, mG3, mG4, mG5, mG6, mG7, mG8, mG9, mG10, mG11, mG12, mG13, mG14, mG15, mG16, mG17, mG18, mG19, mG20, mP2, mP5, mP6, mP7, mP9, mP11, mP14, mA1, mS1, mA2, mS2, mA3, mS3, mA4, mS4, mA5, mS5, mA6, mS6, mA7, mS7, mA8, mS8, mA9, mS9, mA10, mS10, mA11, mS11, mA12, mS12, mA13, mS13, mA14, mS14, zpush_v, zpush_n, gCk, gAi, gSi, gSz, gLi, gLq, ↓if_pos, ↓if_neg, g1, g2, o1, o2, d1, d2]
      · have d3 : ¬ nI 0 ≤ nI oa - nI ob := fun q => c3 (B2.mp q)
        rw [bI_t (by omega)]
        simp (disch := (first | omega | assumption | (simp (disch := omega) only [Int32.lt_iff_toInt_lt, Int32.le_iff_toInt_le, ← Int32.toInt_inj, nI_toInt, zi_m1, zi_m2, zi_m3, zi_m9]; omega) | decide)) only [sX10_isAhead_0, sX10_isAhead_1, sX10_isAhead_2, sX10_isAhead_5, sX10_isAhead_6, sX10_isAhead_7, sX10_isAhead_10, sX10_isAhead_11i, sX10_isAhead_11r, sX10_isAhead_11z, sX10_isAhead_11o, sX10_isAhead_12, sX10_isAhead_13, sX10_isAhead_16, sX10_isAhead_17, sX10_isAhead_20, sX10_isAhead_21, sX10_isAhead_22, sX10_isAhead_23, sX10_isAhead_26, sX10_isAhead_27, sX10_isAhead_28, sX10_isAhead_29, sX10_isAhead_32, sX10_isAhead_33i, sX10_isAhead_33r, sX10_isAhead_33z, sX10_isAhead_33o, sX10_isAhead_34, sX10_isAhead_35, sX10_isAhead_38, sX10_isAhead_39, sX10_isAhead_40, sX10_isAhead_43, sX10_isAhead_44, sX10_isAhead_47, sX10_isAhead_48, sX10_isAhead_51, sX10_isAhead_52, sX10_isAhead_55, sX10_isAhead_56, sX10_isAhead_59, sX10_isAhead_60, mCk, mG0, mG1, mG2, mG3, mG4, mG5, mG6, mG7, mG8, mG9, mG10, mG11, mG12, mG13, mG14, mG15, mG16, mG17, mG18, mG19, mG20, mP2, mP5, mP6, mP7, mP9, mP11, mP14, mA1, mS1, mA2, mS2, mA3, mS3, mA4, mS4, mA5, mS5, mA6, mS6, mA7, mS7, mA8, mS8, mA9, mS9, mA10, mS10, mA11, mS11, mA12, mS12, mA13, mS13, mA14, mS14, zpush_v, zpush_n, gCk, gAi, gSi, gSz, gLi, gLq, ↓if_pos, ↓if_neg, g1, g2, o1, o2, d1, d2]
  · have d1 : ¬ nI ga - nI gb = nI 0 := fun q => c1 (A1.mp q)
    by_cases c3 : gb ≤ ga
    · have d3 := A2.mpr c3
      rw [bI_f (by omega)]
      simp (disch := (first | omega | assumption | (simp (disch := omega) only [Int32.lt_iff_toInt_lt, Int32.le_iff_toInt_le, ← Int32.toInt_inj, nI_toInt, zi_m1, zi_m2, zi_m3, zi_m9]; omega) | decide)) only [sX10_isAhead_0, sX10_isAhead_1, sX10_isAhead_2, sX10_isAhead_5, sX10_isAhead_6, sX10_isAhead_7, sX10_isAhead_10, sX10_isAhead_11i, sX10_isAhead_11r, sX10_isAhead_11z, sX10_isAhead_11o, sX10_isAhead_12, sX10_isAhead_13, sX10_isAhead_16, sX10_isAhead_17, sX10_isAhead_20, sX10_isAhead_21, sX10_isAhead_22, sX10_isAhead_23, sX10_isAhead_26, sX10_isAhead_27, sX10_isAhead_28, sX10_isAhead_29, sX10_isAhead_32, sX10_isAhead_33i, sX10_isAhead_33r, sX10_isAhead_33z, sX10_isAhead_33o, sX10_isAhead_34, sX10_isAhead_35, sX10_isAhead_38, sX10_isAhead_39, sX10_isAhead_40, sX10_isAhead_43, sX10_isAhead_44, sX10_isAhead_47, sX10_isAhead_48, sX10_isAhead_51, sX10_isAhead_52, sX10_isAhead_55, sX10_isAhead_56, sX10_isAhead_59, sX10_isAhead_60, mCk, mG0, mG1, mG2, mG3, mG4, mG5, mG6, mG7, mG8, mG9, mG10, mG11, mG12, mG13, mG14, mG15, mG16, mG17, mG18, mG19, mG20, mP2, mP5, mP6, mP7, mP9, mP11, mP14, mA1, mS1, mA2, mS2, mA3, mS3, mA4, mS4, mA5, mS5, mA6, mS6, mA7, mS7, mA8, mS8, mA9, mS9, mA10, mS10, mA11, mS11, mA12, mS12, mA13, mS13, mA14, mS14, zpush_v, zpush_n, gCk, gAi, gSi, gSz, gLi, gLq, ↓if_pos, ↓if_neg, g1, g2, d1]
    · have d3 : ¬ nI 0 ≤ nI ga - nI gb := fun q => c3 (A2.mp q)
      rw [bI_t (by omega)]
      simp (disch := (first | omega | assumption | (simp (disch := omega) only [Int32.lt_iff_toInt_lt, Int32.le_iff_toInt_le, ← Int32.toInt_inj, nI_toInt, zi_m1, zi_m2, zi_m3, zi_m9]; omega) | decide)) only [sX10_isAhead_0, sX10_isAhead_1, sX10_isAhead_2, sX10_isAhead_5, sX10_isAhead_6, sX10_isAhead_7, sX10_isAhead_10, sX10_isAhead_11i, sX10_isAhead_11r, sX10_isAhead_11z, sX10_isAhead_11o, sX10_isAhead_12, sX10_isAhead_13, sX10_isAhead_16, sX10_isAhead_17, sX10_isAhead_20, sX10_isAhead_21, sX10_isAhead_22, sX10_isAhead_23, sX10_isAhead_26, sX10_isAhead_27, sX10_isAhead_28, sX10_isAhead_29, sX10_isAhead_32, sX10_isAhead_33i, sX10_isAhead_33r, sX10_isAhead_33z, sX10_isAhead_33o, sX10_isAhead_34, sX10_isAhead_35, sX10_isAhead_38, sX10_isAhead_39, sX10_isAhead_40, sX10_isAhead_43, sX10_isAhead_44, sX10_isAhead_47, sX10_isAhead_48, sX10_isAhead_51, sX10_isAhead_52, sX10_isAhead_55, sX10_isAhead_56, sX10_isAhead_59, sX10_isAhead_60, mCk, mG0, mG1, mG2, mG3, mG4, mG5, mG6, mG7, mG8, mG9, mG10, mG11, mG12, mG13, mG14, mG15, mG16, mG17, mG18, mG19, mG20, mP2, mP5, mP6, mP7, mP9, mP11, mP14, mA1, mS1, mA2, mS2, mA3, mS3, mA4, mS4, mA5, mS5, mA6, mS6, mA7, mS7, mA8, mS8, mA9, mS9, mA10, mS10, mA11, mS11, mA12, mS12, mA13, mS13, mA14, mS14, zpush_v, zpush_n, gCk, gAi, gSi, gSz, gLi, gLq, ↓if_pos, ↓if_neg, g1, g2, d1]
theorem l_shown2 {st : Stt} (hv : encV v st) (hw : WfSt st) (hos : ∀ n, n < st.2.1.length → os n = nI (offC st.1 st.2.1 n)) {n : Nat} (hn : n < st.2.1.length) (t k : Int32) (Q : Option Value → Hp → Prop) : ∀ (m i : Nat), m + i = st.2.1.length →
    WP 164 28 [some (.ref M), some (.int t), some (.int k), some (.int (nI n)), some (.int (nI (cAh st.1 st.2.1 (offC st.1 st.2.1) n t i))), some (.int (nI i))] [] (mkM h0 M v pa pm fl tx ty ct wr it im sg sm lat hat sy nw os hgh pl asd lks) Q = WP 164 81 [some (.ref M), some (.int t), some (.int k), some (.int (nI n)), some (.int (nI (cAh st.1 st.2.1 (offC st.1 st.2.1) n t st.2.1.length))), some (.int (nI st.2.1.length))] [] (mkM h0 M v pa pm fl tx ty ct wr it im sg sm lat hat sy nw os hgh pl asd lks) Q := by
  have h16 := hw.2.1.1
  have hv1 := hv.2.1
  intro m
  induction m with
  | zero =>
    intro i hi
    have hi : i = st.2.1.length := by omega
    subst hi
    rw [sX10_shown_28]
    simp (disch := (first | omega | assumption | (simp (disch := omega) only [Int32.lt_iff_toInt_lt, Int32.le_iff_toInt_le, ← Int32.toInt_inj, nI_toInt, zi_m1, zi_m2, zi_m3, zi_m9]; omega) | decide)) only [sX10_shown_30, sX10_shown_31, sX10_shown_34, sX10_shown_35, sX10_shown_36, mCk, mG0, mG1, mG2, mG3, mG4, mG5, mG6, mG7, mG8, mG9, mG10, mG11, mG12, mG13, mG14, mG15, mG16, mG17, mG18, mG19, mG20, mP2, mP5, mP6, mP7, mP9, mP11, mP14, mA1, mS1, mA2, mS2, mA3, mS3, mA4, mS4, mA5, mS5, mA6, mS6, mA7, mS7, mA8, mS8, mA9, mS9, mA10, mS10, mA11, mS11, mA12, mS12, mA13, mS13, mA14, mS14, zpush_v, zpush_n, gCk, gAi, gSi, gSz, gLi, gLq, ↓if_pos, ↓if_neg, hv1]
  | succ m ih =>
    intro i hi
    have hi2 : i < st.2.1.length := by omega
    have e := ih (i + 1) (by omega)
    have sh := fun Q => m_isShown (h0 := h0) (M := M) (v := v) (pa := pa) (pm := pm) (fl := fl) (tx := tx) (ty := ty) (ct := ct) (wr := wr) (it := it) (im := im) (sg := sg) (sm := sm) (lat := lat) (hat := hat) (sy := sy) (nw := nw) (os := os) (hgh := hgh) (pl := pl) (asd := asd) (lks := lks) hv hw hi2 t Q
    have ah := fun Q => m_isAhead (h0 := h0) (M := M) (v := v) (pa := pa) (pm := pm) (fl := fl) (tx := tx) (ty := ty) (ct := ct) (wr := wr) (it := it) (im := im) (sg := sg) (sm := sm) (lat := lat) (hat := hat) (sy := sy) (nw := nw) (os := os) (hgh := hgh) (pl := pl) (asd := asd) (lks := lks) hv hw hos hi2 hn Q
    rw [← e, sX10_shown_28]
    by_cases d0 : i = n
    · rw [show cAh st.1 st.2.1 (offC st.1 st.2.1) n t (i + 1) = 0 + cAh st.1 st.2.1 (offC st.1 st.2.1) n t i from by simp only [cAh]; rw [if_neg (fun z => z.1.1 d0)]; omega]
      simp (disch := (first | omega | assumption | (simp (disch := omega) only [Int32.lt_iff_toInt_lt, Int32.le_iff_toInt_le, ← Int32.toInt_inj, nI_toInt, zi_m1, zi_m2, zi_m3, zi_m9]; omega) | decide)) only [sX10_shown_30, sX10_shown_31, sX10_shown_34, sX10_shown_35, sX10_shown_36, sX10_shown_39, sX10_shown_41, sX10_shown_43, sX10_shown_44, sX10_shown_47, sX10_shown_48, sX10_shown_50, sX10_shown_51, sX10_shown_54, sX10_shown_57, sX10_shown_58, sX10_shown_60, sX10_shown_61, sX10_shown_64, sX10_shown_67, sX10_shown_68, sX10_shown_71, sX10_shown_72, sX10_shown_73i, sX10_shown_73r, sX10_shown_73z, sX10_shown_73o, sX10_shown_75i, sX10_shown_75r, sX10_shown_75z, sX10_shown_75o, sX10_shown_78, mCk, mG0, mG1, mG2, mG3, mG4, mG5, mG6, mG7, mG8, mG9, mG10, mG11, mG12, mG13, mG14, mG15, mG16, mG17, mG18, mG19, mG20, mP2, mP5, mP6, mP7, mP9, mP11, mP14, mA1, mS1, mA2, mS2, mA3, mS3, mA4, mS4, mA5, mS5, mA6, mS6, mA7, mS7, mA8, mS8, mA9, mS9, mA10, mS10, mA11, mS11, mA12, mS12, mA13, mS13, mA14, mS14, zpush_v, zpush_n, gCk, gAi, gSi, gSz, gLi, gLq, ↓if_pos, ↓if_neg, hv1, nI_add, Nat.zero_add, Nat.add_zero]
    · by_cases hb : shownP (lnA st.2.1 i) t = true
      · rw [bI_t hb] at sh
        by_cases d2 : pBf st.1 st.2.1 (offC st.1 st.2.1) i n
        · rw [show cAh st.1 st.2.1 (offC st.1 st.2.1) n t (i + 1) = cAh st.1 st.2.1 (offC st.1 st.2.1) n t i + 1 from by simp only [cAh]; rw [if_pos ⟨⟨d0, hb⟩, d2⟩]]
          rw [bI_t d2] at ah
          simp (disch := (first | omega | assumption | (simp (disch := omega) only [Int32.lt_iff_toInt_lt, Int32.le_iff_toInt_le, ← Int32.toInt_inj, nI_toInt, zi_m1, zi_m2, zi_m3, zi_m9]; omega) | decide)) only [sX10_shown_30, sX10_shown_31, sX10_shown_34, sX10_shown_35, sX10_shown_36, sX10_shown_39, sX10_shown_41, sX10_shown_43, sX10_shown_44, sX10_shown_47, sX10_shown_48, sX10_shown_50, sX10_shown_51, sX10_shown_54, sX10_shown_57, sX10_shown_58, sX10_shown_60, sX10_shown_61, sX10_shown_64, sX10_shown_67, sX10_shown_68, sX10_shown_71, sX10_shown_72, sX10_shown_73i, sX10_shown_73r, sX10_shown_73z, sX10_shown_73o, sX10_shown_75i, sX10_shown_75r, sX10_shown_75z, sX10_shown_75o, sX10_shown_78, mCk, mG0, mG1, mG2, mG3, mG4, mG5, mG6, mG7, mG8, mG9, mG10, mG11, mG12, mG13, mG14, mG15, mG16, mG17, mG18, mG19, mG20, mP2, mP5, mP6, mP7, mP9, mP11, mP14, mA1, mS1, mA2, mS2, mA3, mS3, mA4, mS4, mA5, mS5, mA6, mS6, mA7, mS7, mA8, mS8, mA9, mS9, mA10, mS10, mA11, mS11, mA12, mS12, mA13, mS13, mA14, mS14, zpush_v, zpush_n, gCk, gAi, gSi, gSz, gLi, gLq, ↓if_pos, ↓if_neg, hv1, nI_add, sh, ah]
        · rw [show cAh st.1 st.2.1 (offC st.1 st.2.1) n t (i + 1) = 0 + cAh st.1 st.2.1 (offC st.1 st.2.1) n t i from by simp only [cAh]; rw [if_neg (fun z => d2 z.2)]; omega]
          rw [bI_f d2] at ah
          simp (disch := (first | omega | assumption | (simp (disch := omega) only [Int32.lt_iff_toInt_lt, Int32.le_iff_toInt_le, ← Int32.toInt_inj, nI_toInt, zi_m1, zi_m2, zi_m3, zi_m9]; omega) | decide)) only [sX10_shown_30, sX10_shown_31, sX10_shown_34, sX10_shown_35, sX10_shown_36, sX10_shown_39, sX10_shown_41, sX10_shown_43, sX10_shown_44, sX10_shown_47, sX10_shown_48, sX10_shown_50, sX10_shown_51, sX10_shown_54, sX10_shown_57, sX10_shown_58, sX10_shown_60, sX10_shown_61, sX10_shown_64, sX10_shown_67, sX10_shown_68, sX10_shown_71, sX10_shown_72, sX10_shown_73i, sX10_shown_73r, sX10_shown_73z, sX10_shown_73o, sX10_shown_75i, sX10_shown_75r, sX10_shown_75z, sX10_shown_75o, sX10_shown_78, mCk, mG0, mG1, mG2, mG3, mG4, mG5, mG6, mG7, mG8, mG9, mG10, mG11, mG12, mG13, mG14, mG15, mG16, mG17, mG18, mG19, mG20, mP2, mP5, mP6, mP7, mP9, mP11, mP14, mA1, mS1, mA2, mS2, mA3, mS3, mA4, mS4, mA5, mS5, mA6, mS6, mA7, mS7, mA8, mS8, mA9, mS9, mA10, mS10, mA11, mS11, mA12, mS12, mA13, mS13, mA14, mS14, zpush_v, zpush_n, gCk, gAi, gSi, gSz, gLi, gLq, ↓if_pos, ↓if_neg, hv1, nI_add, sh, ah, Nat.zero_add, Nat.add_zero]
      · rw [bI_f hb] at sh
        rw [show cAh st.1 st.2.1 (offC st.1 st.2.1) n t (i + 1) = 0 + cAh st.1 st.2.1 (offC st.1 st.2.1) n t i from by simp only [cAh]; rw [if_neg (fun z => hb z.1.2)]; omega]
        simp (disch := (first | omega | assumption | (simp (disch := omega) only [Int32.lt_iff_toInt_lt, Int32.le_iff_toInt_le, ← Int32.toInt_inj, nI_toInt, zi_m1, zi_m2, zi_m3, zi_m9]; omega) | decide)) only [sX10_shown_30, sX10_shown_31, sX10_shown_34, sX10_shown_35, sX10_shown_36, sX10_shown_39, sX10_shown_41, sX10_shown_43, sX10_shown_44, sX10_shown_47, sX10_shown_48, sX10_shown_50, sX10_shown_51, sX10_shown_54, sX10_shown_57, sX10_shown_58, sX10_shown_60, sX10_shown_61, sX10_shown_64, sX10_shown_67, sX10_shown_68, sX10_shown_71, sX10_shown_72, sX10_shown_73i, sX10_shown_73r, sX10_shown_73z, sX10_shown_73o, sX10_shown_75i, sX10_shown_75r, sX10_shown_75z, sX10_shown_75o, sX10_shown_78, mCk, mG0, mG1, mG2, mG3, mG4, mG5, mG6, mG7, mG8, mG9, mG10, mG11, mG12, mG13, mG14, mG15, mG16, mG17, mG18, mG19, mG20, mP2, mP5, mP6, mP7, mP9, mP11, mP14, mA1, mS1, mA2, mS2, mA3, mS3, mA4, mS4, mA5, mS5, mA6, mS6, mA7, mS7, mA8, mS8, mA9, mS9, mA10, mS10, mA11, mS11, mA12, mS12, mA13, mS13, mA14, mS14, zpush_v, zpush_n, gCk, gAi, gSi, gSz, gLi, gLq, ↓if_pos, ↓if_neg, hv1, nI_add, sh, Nat.zero_add, Nat.add_zero]
theorem l_shown20 {st : Stt} (hv : encV v st) (hw : WfSt st) (hos : ∀ n, n < st.2.1.length → os n = nI (offC st.1 st.2.1 n)) {n : Nat} (hn : n < st.2.1.length) (t k : Int32) (Q : Option Value → Hp → Prop) : WP 164 28 [some (.ref M), some (.int t), some (.int k), some (.int (nI n)), some (.int (nI 0)), some (.int (nI 0))] [] (mkM h0 M v pa pm fl tx ty ct wr it im sg sm lat hat sy nw os hgh pl asd lks) Q = WP 164 81 [some (.ref M), some (.int t), some (.int k), some (.int (nI n)), some (.int (nI (cAh st.1 st.2.1 (offC st.1 st.2.1) n t st.2.1.length))), some (.int (nI st.2.1.length))] [] (mkM h0 M v pa pm fl tx ty ct wr it im sg sm lat hat sy nw os hgh pl asd lks) Q := l_shown2 hv hw hos hn t k Q _ 0 rfl
theorem l_shownY {st : Stt} (hv : encV v st) (hw : WfSt st) (hos : ∀ n, n < st.2.1.length → os n = nI (offC st.1 st.2.1 n)) (t k : Int32) (Q : Option Value → Hp → Prop) : ∀ (m i : Nat) (l4 l5 : Option Value), m + i = st.2.1.length →
    WP 164 12 [some (.ref M), some (.int t), some (.int k), some (.int (nI i)), l4, l5] [] (mkM h0 M v pa pm fl tx ty ct wr it im sg sm lat hat sy nw os hgh pl asd lks) Q = Q (some (.int (fShown st t k m i))) (mkM h0 M v pa pm fl tx ty ct wr it im sg sm lat hat sy nw os hgh pl asd lks) := by
  have h16 := hw.2.1.1
  have hv1 := hv.2.1
  intro m
  induction m with
  | zero =>
    intro i l4 l5 hi
    have hi : i = st.2.1.length := by omega
    subst hi
    rw [sX10_shown_12]
    simp (disch := (first | omega | assumption | (simp (disch := omega) only [Int32.lt_iff_toInt_lt, Int32.le_iff_toInt_le, ← Int32.toInt_inj, nI_toInt, zi_m1, zi_m2, zi_m3, zi_m9]; omega) | decide)) only [sX10_shown_13, sX10_shown_14, sX10_shown_17, sX10_shown_18, sX10_shown_19, sX10_shown_104, sX10_shown_106, mCk, mG0, mG1, mG2, mG3, mG4, mG5, mG6, mG7, mG8, mG9, mG10, mG11, mG12, mG13, mG14, mG15, mG16, mG17, mG18, mG19, mG20, mP2, mP5, mP6, mP7, mP9, mP11, mP14, mA1, mS1, mA2, mS2, mA3, mS3, mA4, mS4, mA5, mS5, mA6, mS6, mA7, mS7, mA8, mS8, mA9, mS9, mA10, mS10, mA11, mS11, mA12, mS12, mA13, mS13, mA14, mS14, zpush_v, zpush_n, gCk, gAi, gSi, gSz, gLi, gLq, ↓if_pos, ↓if_neg, hv1]
    rfl
  | succ m ih =>
    intro i l4 l5 hi
    have hi2 : i < st.2.1.length := by omega
    have e := ih (i + 1) (some (.int (nI (cAh st.1 st.2.1 (offC st.1 st.2.1) i t st.2.1.length)))) (some (.int (nI st.2.1.length))) (by omega)
    have sh := fun Q => m_isShown (h0 := h0) (M := M) (v := v) (pa := pa) (pm := pm) (fl := fl) (tx := tx) (ty := ty) (ct := ct) (wr := wr) (it := it) (im := im) (sg := sg) (sm := sm) (lat := lat) (hat := hat) (sy := sy) (nw := nw) (os := os) (hgh := hgh) (pl := pl) (asd := asd) (lks := lks) hv hw hi2 t Q
    rw [sX10_shown_12]
    unfold fShown
    by_cases c1 : shownP (lnA st.2.1 i) t = true
    · rw [bI_t c1] at sh
      by_cases c2 : nI (cAh st.1 st.2.1 (offC st.1 st.2.1) i t st.2.1.length) = k
      · rw [if_pos ⟨c1, c2⟩]
        subst c2
        simp (disch := (first | omega | assumption | (simp (disch := omega) only [Int32.lt_iff_toInt_lt, Int32.le_iff_toInt_le, ← Int32.toInt_inj, nI_toInt, zi_m1, zi_m2, zi_m3, zi_m9]; omega) | decide)) only [sX10_shown_13, sX10_shown_14, sX10_shown_17, sX10_shown_18, sX10_shown_19, sX10_shown_22, sX10_shown_23i, sX10_shown_23r, sX10_shown_23z, sX10_shown_23o, sX10_shown_25, sX10_shown_26i, sX10_shown_26r, sX10_shown_26z, sX10_shown_26o, sX10_shown_81, sX10_shown_82, sX10_shown_83, sX10_shown_84, sX10_shown_87, sX10_shown_90, sX10_shown_92, sX10_shown_93, sX10_shown_96, sX10_shown_97, sX10_shown_98i, sX10_shown_98r, sX10_shown_98z, sX10_shown_98o, sX10_shown_101, mCk, mG0, mG1, mG2, mG3, mG4, mG5, mG6, mG7, mG8, mG9, mG10, mG11, mG12, mG13, mG14, mG15, mG16, mG17, mG18, mG19, mG20, mP2, mP5, mP6, mP7, mP9, mP11, mP14, mA1, mS1, mA2, mS2, mA3, mS3, mA4, mS4, mA5, mS5, mA6, mS6, mA7, mS7, mA8, mS8, mA9, mS9, mA10, mS10, mA11, mS11, mA12, mS12, mA13, mS13, mA14, mS14, zpush_v, zpush_n, gCk, gAi, gSi, gSz, gLi, gLq, ↓if_pos, ↓if_neg, hv1, l_shown20 hv hw hos hi2, sh]
      · rw [if_neg (fun q => c2 q.2), ← e]
        simp (disch := (first | omega | assumption | (simp (disch := omega) only [Int32.lt_iff_toInt_lt, Int32.le_iff_toInt_le, ← Int32.toInt_inj, nI_toInt, zi_m1, zi_m2, zi_m3, zi_m9]; omega) | decide)) only [sX10_shown_13, sX10_shown_14, sX10_shown_17, sX10_shown_18, sX10_shown_19, sX10_shown_22, sX10_shown_23i, sX10_shown_23r, sX10_shown_23z, sX10_shown_23o, sX10_shown_25, sX10_shown_26i, sX10_shown_26r, sX10_shown_26z, sX10_shown_26o, sX10_shown_81, sX10_shown_82, sX10_shown_83, sX10_shown_84, sX10_shown_87, sX10_shown_90, sX10_shown_92, sX10_shown_93, sX10_shown_96, sX10_shown_97, sX10_shown_98i, sX10_shown_98r, sX10_shown_98z, sX10_shown_98o, sX10_shown_101, mCk, mG0, mG1, mG2, mG3, mG4, mG5, mG6, mG7, mG8, mG9, mG10, mG11, mG12, mG13, mG14, mG15, mG16, mG17, mG18, mG19, mG20, mP2, mP5, mP6, mP7, mP9, mP11, mP14, mA1, mS1, mA2, mS2, mA3, mS3, mA4, mS4, mA5, mS5, mA6, mS6, mA7, mS7, mA8, mS8, mA9, mS9, mA10, mS10, mA11, mS11, mA12, mS12, mA13, mS13, mA14, mS14, zpush_v, zpush_n, gCk, gAi, gSi, gSz, gLi, gLq, ↓if_pos, ↓if_neg, hv1, l_shown20 hv hw hos hi2, sh, nI_add]
    · rw [bI_f c1] at sh
      rw [if_neg (fun q => c1 q.1), ← e]
      simp (disch := (first | omega | assumption | (simp (disch := omega) only [Int32.lt_iff_toInt_lt, Int32.le_iff_toInt_le, ← Int32.toInt_inj, nI_toInt, zi_m1, zi_m2, zi_m3, zi_m9]; omega) | decide)) only [sX10_shown_13, sX10_shown_14, sX10_shown_17, sX10_shown_18, sX10_shown_19, sX10_shown_22, sX10_shown_23i, sX10_shown_23r, sX10_shown_23z, sX10_shown_23o, sX10_shown_25, sX10_shown_26i, sX10_shown_26r, sX10_shown_26z, sX10_shown_26o, sX10_shown_81, sX10_shown_82, sX10_shown_83, sX10_shown_84, sX10_shown_87, sX10_shown_90, sX10_shown_92, sX10_shown_93, sX10_shown_96, sX10_shown_97, sX10_shown_98i, sX10_shown_98r, sX10_shown_98z, sX10_shown_98o, sX10_shown_101, mCk, mG0, mG1, mG2, mG3, mG4, mG5, mG6, mG7, mG8, mG9, mG10, mG11, mG12, mG13, mG14, mG15, mG16, mG17, mG18, mG19, mG20, mP2, mP5, mP6, mP7, mP9, mP11, mP14, mA1, mS1, mA2, mS2, mA3, mS3, mA4, mS4, mA5, mS5, mA6, mS6, mA7, mS7, mA8, mS8, mA9, mS9, mA10, mS10, mA11, mS11, mA12, mS12, mA13, mS13, mA14, mS14, zpush_v, zpush_n, gCk, gAi, gSi, gSz, gLi, gLq, ↓if_pos, ↓if_neg, hv1, l_shown20 hv hw hos hi2, sh, nI_add]
theorem y_shown (hr : rM h M p) (hw : WfP p) (t k : Int32) : ∃ h', Same h h' M 15 ∧ rM h' M p ∧ ∀ Q : Option Value → Hp → Prop, WPm 164 [.ref M, .int t, .int k] h Q = Q (some (.int (qShown p t k))) h' := by
  obtain ⟨h0, v, pa, fl, tx, it, sg, lat, hat, nw, os, hgh, pl, asd, lks, ct, wr, im, sm, sy, rfl, hv, hp, ht⟩ := id hr
  unfold qShown
  by_cases c : k < nI 0
  · rw [if_pos c]
    have c2 := Int32.not_le.mpr c
    refine ⟨_, Same.rf, hr, fun Q => ?_⟩
    rw [eX10_shown]
    simp (disch := (first | omega | assumption | (simp (disch := omega) only [Int32.lt_iff_toInt_lt, Int32.le_iff_toInt_le, ← Int32.toInt_inj, nI_toInt, zi_m1, zi_m2, zi_m3, zi_m9]; omega) | decide)) only [sX10_shown_0, sX10_shown_1, sX10_shown_4, sX10_shown_5, zpush_v, zpush_n, gCk, gAi, gSi, gSz, gLi, gLq, ↓if_pos, ↓if_neg]
  · rw [if_neg c]
    have c2 := Int32.not_lt.mp c
    obtain ⟨sg', lat', hat', nw', sm', sy', hgh', pl', os', q1, q2⟩ := m_places (h0 := h0) (M := M) (v := v) (pa := pa) (pm := nI p.2.1.length) (fl := fl) (tx := tx) (ty := nI p.2.2.length) (ct := ct) (wr := wr) (it := it) (im := im) (sg := sg) (sm := sm) (lat := lat) (hat := hat) (sy := sy) (nw := nw) (os := os) (hgh := hgh) (pl := pl) (asd := asd) (lks := lks) hv hw.1
    refine ⟨(mkM h0 M v pa (nI p.2.1.length) fl tx (nI p.2.2.length) ct wr it im sg' sm' lat' hat' sy' nw' os' hgh' pl' asd lks), mkM_same, rM.mk hv hp ht, fun Q => ?_⟩
    rw [eX10_shown]
    simp (disch := (first | omega | assumption | (simp (disch := omega) only [Int32.lt_iff_toInt_lt, Int32.le_iff_toInt_le, ← Int32.toInt_inj, nI_toInt, zi_m1, zi_m2, zi_m3, zi_m9]; omega) | decide)) only [sX10_shown_0, sX10_shown_1, sX10_shown_4, sX10_shown_5, sX10_shown_6, sX10_shown_7, sX10_shown_10, sX10_shown_11i, sX10_shown_11r, sX10_shown_11z, sX10_shown_11o, mCk, mG0, mG1, mG2, mG3, mG4, mG5, mG6, mG7, mG8, mG9, mG10, mG11, mG12, mG13, mG14, mG15, mG16, mG17, mG18, mG19, mG20, mP2, mP5, mP6, mP7, mP9, mP11, mP14, mA1, mS1, mA2, mS2, mA3, mS3, mA4, mS4, mA5, mS5, mA6, mS6, mA7, mS7, mA8, mS8, mA9, mS9, mA10, mS10, mA11, mS11, mA12, mS12, mA13, mS13, mA14, mS14, zpush_v, zpush_n, gCk, gAi, gSi, gSz, gLi, gLq, ↓if_pos, ↓if_neg, q2]
    exact l_shownY hv hw.1 (fun n hn => (q1 n hn).1) t k Q _ 0 none none rfl
theorem l_crowd2 {st : Stt} (hv : encV v st) (hw : WfSt st) (x1 x2 x3 t : Int32) (Q : Option Value → Hp → Prop) : ∀ (m i : Nat), m + i = st.2.1.length →
    WP 165 36 [some (.ref M), some (.int x1), some (.int x2), some (.int x3), some (.int t), some (.int (nI (cSh st.2.1 t i))), some (.int (nI i))] [] (mkM h0 M v pa pm fl tx ty ct wr it im sg sm lat hat sy nw os hgh pl asd lks) Q = WP 165 74 [some (.ref M), some (.int x1), some (.int x2), some (.int x3), some (.int t), some (.int (nI (cSh st.2.1 t st.2.1.length))), some (.int (nI st.2.1.length))] [] (mkM h0 M v pa pm fl tx ty ct wr it im sg sm lat hat sy nw os hgh pl asd lks) Q := by
  have h16 := hw.2.1.1
  have hv1 := hv.2.1
  intro m
  induction m with
  | zero =>
    intro i hi
    have hi : i = st.2.1.length := by omega
    subst hi
    rw [sX10_crowded_36]
    simp (disch := (first | omega | assumption | (simp (disch := omega) only [Int32.lt_iff_toInt_lt, Int32.le_iff_toInt_le, ← Int32.toInt_inj, nI_toInt, zi_m1, zi_m2, zi_m3, zi_m9]; omega) | decide)) only [sX10_crowded_38, sX10_crowded_39, sX10_crowded_42, sX10_crowded_43, sX10_crowded_44, mCk, mG0, mG1, mG2, mG3, mG4, mG5, mG6, mG7, mG8, mG9, mG10, mG11, mG12, mG13, mG14, mG15, mG16, mG17, mG18, mG19, mG20, mP2, mP5, mP6, mP7, mP9, mP11, mP14, mA1, mS1, mA2, mS2, mA3, mS3, mA4, mS4, mA5, mS5, mA6, mS6, mA7, mS7, mA8, mS8, mA9, mS9, mA10, mS10, mA11, mS11, mA12, mS12, mA13, mS13, mA14, mS14, zpush_v, zpush_n, gCk, gAi, gSi, gSz, gLi, gLq, ↓if_pos, ↓if_neg, hv1]
  | succ m ih =>
    intro i hi
    have hi2 : i < st.2.1.length := by omega
    have sh := fun Q => m_isShown (h0 := h0) (M := M) (v := v) (pa := pa) (pm := pm) (fl := fl) (tx := tx) (ty := ty) (ct := ct) (wr := wr) (it := it) (im := im) (sg := sg) (sm := sm) (lat := lat) (hat := hat) (sy := sy) (nw := nw) (os := os) (hgh := hgh) (pl := pl) (asd := asd) (lks := lks) hv hw hi2 t Q
    rw [← ih (i + 1) (by omega), sX10_crowded_36]
    by_cases hb : shownP (lnA st.2.1 i) t = true
    · rw [bI_t hb] at sh
      rw [show cSh st.2.1 t (i + 1) = cSh st.2.1 t i + 1 from by simp only [cSh]; rw [if_pos hb]]
      simp (disch := (first | omega | assumption | (simp (disch := omega) only [Int32.lt_iff_toInt_lt, Int32.le_iff_toInt_le, ← Int32.toInt_inj, nI_toInt, zi_m1, zi_m2, zi_m3, zi_m9]; omega) | decide)) only [sX10_crowded_38, sX10_crowded_39, sX10_crowded_42, sX10_crowded_43, sX10_crowded_44, sX10_crowded_47, sX10_crowded_49, sX10_crowded_50, sX10_crowded_52, sX10_crowded_54, sX10_crowded_57, sX10_crowded_60, sX10_crowded_61, sX10_crowded_64, sX10_crowded_65, sX10_crowded_66i, sX10_crowded_66r, sX10_crowded_66z, sX10_crowded_66o, sX10_crowded_68i, sX10_crowded_68r, sX10_crowded_68z, sX10_crowded_68o, sX10_crowded_71, mCk, mG0, mG1, mG2, mG3, mG4, mG5, mG6, mG7, mG8, mG9, mG10, mG11, mG12, mG13, mG14, mG15, mG16, mG17, mG18, mG19, mG20, mP2, mP5, mP6, mP7, mP9, mP11, mP14, mA1, mS1, mA2, mS2, mA3, mS3, mA4, mS4, mA5, mS5, mA6, mS6, mA7, mS7, mA8, mS8, mA9, mS9, mA10, mS10, mA11, mS11, mA12, mS12, mA13, mS13, mA14, mS14, zpush_v, zpush_n, gCk, gAi, gSi, gSz, gLi, gLq, ↓if_pos, ↓if_neg, hv1, sh, nI_add]
    · rw [bI_f hb] at sh
      rw [show cSh st.2.1 t (i + 1) = cSh st.2.1 t i from by simp only [cSh]; rw [if_neg hb]; rfl]
      simp (disch := (first | omega | assumption | (simp (disch := omega) only [Int32.lt_iff_toInt_lt, Int32.le_iff_toInt_le, ← Int32.toInt_inj, nI_toInt, zi_m1, zi_m2, zi_m3, zi_m9]; omega) | decide)) only [sX10_crowded_38, sX10_crowded_39, sX10_crowded_42, sX10_crowded_43, sX10_crowded_44, sX10_crowded_47, sX10_crowded_49, sX10_crowded_50, sX10_crowded_52, sX10_crowded_54, sX10_crowded_57, sX10_crowded_60, sX10_crowded_61, sX10_crowded_64, sX10_crowded_65, sX10_crowded_66i, sX10_crowded_66r, sX10_crowded_66z, sX10_crowded_66o, sX10_crowded_68i, sX10_crowded_68r, sX10_crowded_68z, sX10_crowded_68o, sX10_crowded_71, mCk, mG0, mG1, mG2, mG3, mG4, mG5, mG6, mG7, mG8, mG9, mG10, mG11, mG12, mG13, mG14, mG15, mG16, mG17, mG18, mG19, mG20, mP2, mP5, mP6, mP7, mP9, mP11, mP14, mA1, mS1, mA2, mS2, mA3, mS3, mA4, mS4, mA5, mS5, mA6, mS6, mA7, mS7, mA8, mS8, mA9, mS9, mA10, mS10, mA11, mS11, mA12, mS12, mA13, mS13, mA14, mS14, zpush_v, zpush_n, gCk, gAi, gSi, gSz, gLi, gLq, ↓if_pos, ↓if_neg, hv1, sh, nI_add, Nat.add_zero, Nat.zero_add]
theorem l_crowd20 {st : Stt} (hv : encV v st) (hw : WfSt st) (x1 x2 x3 t : Int32) (Q : Option Value → Hp → Prop) : WP 165 36 [some (.ref M), some (.int x1), some (.int x2), some (.int x3), some (.int t), some (.int (nI 0)), some (.int (nI 0))] [] (mkM h0 M v pa pm fl tx ty ct wr it im sg sm lat hat sy nw os hgh pl asd lks) Q = WP 165 74 [some (.ref M), some (.int x1), some (.int x2), some (.int x3), some (.int t), some (.int (nI (cSh st.2.1 t st.2.1.length))), some (.int (nI st.2.1.length))] [] (mkM h0 M v pa pm fl tx ty ct wr it im sg sm lat hat sy nw os hgh pl asd lks) Q := l_crowd2 hv hw x1 x2 x3 t Q _ 0 rfl
theorem l_crowdY {st : Stt} (hv : encV v st) (hw : WfSt st) (Q : Option Value → Hp → Prop) : ∀ (m i : Nat) (l4 l5 l6 : Option Value), m + i = st.2.1.length →
    WP 165 7 [some (.ref M), some (.int (crw st.2.1 i).1), some (.int (nI (crw st.2.1 i).2)), some (.int (nI i)), l4, l5, l6] [] (mkM h0 M v pa pm fl tx ty ct wr it im sg sm lat hat sy nw os hgh pl asd lks) Q = Q (some (.int (crw st.2.1 st.2.1.length).1)) (mkM h0 M v pa pm fl tx ty ct wr it im sg sm lat hat sy nw os hgh pl asd lks) := by
  have h16 := hw.2.1.1
  have hv1 := hv.2.1
  intro m
  induction m with
  | zero =>
    intro i l4 l5 l6 hi
    have hi : i = st.2.1.length := by omega
    subst hi
    rw [sX10_crowded_7]
    simp (disch := (first | omega | assumption | (simp (disch := omega) only [Int32.lt_iff_toInt_lt, Int32.le_iff_toInt_le, ← Int32.toInt_inj, nI_toInt, zi_m1, zi_m2, zi_m3, zi_m9]; omega) | decide)) only [sX10_crowded_8, sX10_crowded_9, sX10_crowded_12, sX10_crowded_13, sX10_crowded_14, sX10_crowded_130, sX10_crowded_131, mCk, mG0, mG1, mG2, mG3, mG4, mG5, mG6, mG7, mG8, mG9, mG10, mG11, mG12, mG13, mG14, mG15, mG16, mG17, mG18, mG19, mG20, mP2, mP5, mP6, mP7, mP9, mP11, mP14, mA1, mS1, mA2, mS2, mA3, mS3, mA4, mS4, mA5, mS5, mA6, mS6, mA7, mS7, mA8, mS8, mA9, mS9, mA10, mS10, mA11, mS11, mA12, mS12, mA13, mS13, mA14, mS14, zpush_v, zpush_n, gCk, gAi, gSi, gSz, gLi, gLq, ↓if_pos, ↓if_neg, hv1]
  | succ m ih =>
    intro i l4 l5 l6 hi
    have hi2 : i < st.2.1.length := by omega
    have eb := (encL.at hv.2.2.2 hi2).1
    have le := crw_le (L := st.2.1) i
    have cl := cSh_le (L := st.2.1) (nI (lnA st.2.1 i).1) st.2.1.length
    have E := fun l6 => ih (i + 1) (some (.int (nI (lnA st.2.1 i).1))) (some (.int (nI (cSh st.2.1 (nI (lnA st.2.1 i).1) st.2.1.length)))) l6 (by omega)
    simp only [crw] at E
    rw [sX10_crowded_7]
    by_cases z : (crw st.2.1 i).2 < cSh st.2.1 (nI (lnA st.2.1 i).1) st.2.1.length
    · rw [if_pos (Or.inl z)] at E
      rw [← E (some (.int (nI 1)))]
      simp (disch := (first | omega | assumption | (simp (disch := omega) only [Int32.lt_iff_toInt_lt, Int32.le_iff_toInt_le, ← Int32.toInt_inj, nI_toInt, zi_m1, zi_m2, zi_m3, zi_m9]; omega) | decide)) only [sX10_crowded_8, sX10_crowded_9, sX10_crowded_12, sX10_crowded_13, sX10_crowded_14, sX10_crowded_17, sX10_crowded_18, sX10_crowded_21, sX10_crowded_22, sX10_crowded_25, sX10_crowded_26, sX10_crowded_27, sX10_crowded_28i, sX10_crowded_28r, sX10_crowded_28z, sX10_crowded_28o, sX10_crowded_30, sX10_crowded_31i, sX10_crowded_31r, sX10_crowded_31z, sX10_crowded_31o, sX10_crowded_33, sX10_crowded_34i, sX10_crowded_34r, sX10_crowded_34z, sX10_crowded_34o, sX10_crowded_74, sX10_crowded_76, sX10_crowded_77, sX10_crowded_80, sX10_crowded_82, sX10_crowded_83, sX10_crowded_86, sX10_crowded_88, sX10_crowded_89, sX10_crowded_92, sX10_crowded_93, sX10_crowded_96, sX10_crowded_97i, sX10_crowded_97r, sX10_crowded_97z, sX10_crowded_97o, sX10_crowded_99, sX10_crowded_101, sX10_crowded_104, sX10_crowded_106, sX10_crowded_109, sX10_crowded_110i, sX10_crowded_110r, sX10_crowded_110z, sX10_crowded_110o, sX10_crowded_111, sX10_crowded_113, sX10_crowded_114, sX10_crowded_117, sX10_crowded_119, sX10_crowded_122, sX10_crowded_123i, sX10_crowded_123r, sX10_crowded_123z, sX10_crowded_123o, sX10_crowded_124i, sX10_crowded_124r, sX10_crowded_124z, sX10_crowded_124o, sX10_crowded_127, mCk, mG0, mG1, mG2, mG3, mG4, mG5, mG6, mG7, mG8, mG9, mG10, mG11, mG12, mG13, mG14, mG15, mG16, mG17, mG18, mG19, mG20, mP2, mP5, mP6, mP7, mP9, mP11, mP14, mA1, mS1, mA2, mS2, mA3, mS3, mA4, mS4, mA5, mS5, mA6, mS6, mA7, mS7, mA8, mS8, mA9, mS9, mA10, mS10, mA11, mS11, mA12, mS12, mA13, mS13, mA14, mS14, zpush_v, zpush_n, gCk, gAi, gSi, gSz, gLi, gLq, ↓if_pos, ↓if_neg, hv1, m_lineAt, nI_add, eb, l_crowd20 hv hw]
    · by_cases y : cSh st.2.1 (nI (lnA st.2.1 i).1) st.2.1.length = (crw st.2.1 i).2
      · by_cases x : nI (lnA st.2.1 i).1 < (crw st.2.1 i).1
        · rw [if_pos (Or.inr ⟨y, x⟩)] at E
          have x2 := Int32.not_le.mpr x
          rw [← E (some (.int (nI 1)))]
          simp (disch := (first | omega | assumption | (simp (disch := omega) only [Int32.lt_iff_toInt_lt, Int32.le_iff_toInt_le, ← Int32.toInt_inj, nI_toInt, zi_m1, zi_m2, zi_m3, zi_m9]; omega) | decide)) only [sX10_crowded_8, sX10_crowded_9, sX10_crowded_12, sX10_crowded_13, sX10_crowded_14, sX10_crowded_17, sX10_crowded_18, sX10_crowded_21, sX10_crowded_22, sX10_crowded_25, sX10_crowded_26, sX10_crowded_27, sX10_crowded_28i, sX10_crowded_28r, sX10_crowded_28z, sX10_crowded_28o, sX10_crowded_30, sX10_crowded_31i, sX10_crowded_31r, sX10_crowded_31z, sX10_crowded_31o, sX10_crowded_33, sX10_crowded_34i, sX10_crowded_34r, sX10_crowded_34z, sX10_crowded_34o, sX10_crowded_74, sX10_crowded_76, sX10_crowded_77, sX10_crowded_80, sX10_crowded_82, sX10_crowded_83, sX10_crowded_86, sX10_crowded_88, sX10_crowded_89, sX10_crowded_92, sX10_crowded_93, sX10_crowded_96, sX10_crowded_97i, sX10_crowded_97r, sX10_crowded_97z, sX10_crowded_97o, sX10_crowded_99, sX10_crowded_101, sX10_crowded_104, sX10_crowded_106, sX10_crowded_109, sX10_crowded_110i, sX10_crowded_110r, sX10_crowded_110z, sX10_crowded_110o, sX10_crowded_111, sX10_crowded_113, sX10_crowded_114, sX10_crowded_117, sX10_crowded_119, sX10_crowded_122, sX10_crowded_123i, sX10_crowded_123r, sX10_crowded_123z, sX10_crowded_123o, sX10_crowded_124i, sX10_crowded_124r, sX10_crowded_124z, sX10_crowded_124o, sX10_crowded_127, mCk, mG0, mG1, mG2, mG3, mG4, mG5, mG6, mG7, mG8, mG9, mG10, mG11, mG12, mG13, mG14, mG15, mG16, mG17, mG18, mG19, mG20, mP2, mP5, mP6, mP7, mP9, mP11, mP14, mA1, mS1, mA2, mS2, mA3, mS3, mA4, mS4, mA5, mS5, mA6, mS6, mA7, mS7, mA8, mS8, mA9, mS9, mA10, mS10, mA11, mS11, mA12, mS12, mA13, mS13, mA14, mS14, zpush_v, zpush_n, gCk, gAi, gSi, gSz, gLi, gLq, ↓if_pos, ↓if_neg, hv1, m_lineAt, nI_add, eb, l_crowd20 hv hw]
          rw [y]
        · rw [if_neg (fun q => q.elim z (fun q => x q.2))] at E
          have x2 := Int32.not_lt.mp x
          rw [← E (some (.int (nI 0)))]
          simp (disch := (first | omega | assumption | (simp (disch := omega) only [Int32.lt_iff_toInt_lt, Int32.le_iff_toInt_le, ← Int32.toInt_inj, nI_toInt, zi_m1, zi_m2, zi_m3, zi_m9]; omega) | decide)) only [sX10_crowded_8, sX10_crowded_9, sX10_crowded_12, sX10_crowded_13, sX10_crowded_14, sX10_crowded_17, sX10_crowded_18, sX10_crowded_21, sX10_crowded_22, sX10_crowded_25, sX10_crowded_26, sX10_crowded_27, sX10_crowded_28i, sX10_crowded_28r, sX10_crowded_28z, sX10_crowded_28o, sX10_crowded_30, sX10_crowded_31i, sX10_crowded_31r, sX10_crowded_31z, sX10_crowded_31o, sX10_crowded_33, sX10_crowded_34i, sX10_crowded_34r, sX10_crowded_34z, sX10_crowded_34o, sX10_crowded_74, sX10_crowded_76, sX10_crowded_77, sX10_crowded_80, sX10_crowded_82, sX10_crowded_83, sX10_crowded_86, sX10_crowded_88, sX10_crowded_89, sX10_crowded_92, sX10_crowded_93, sX10_crowded_96, sX10_crowded_97i, sX10_crowded_97r, sX10_crowded_97z, sX10_crowded_97o, sX10_crowded_99, sX10_crowded_101, sX10_crowded_104, sX10_crowded_106, sX10_crowded_109, sX10_crowded_110i, sX10_crowded_110r, sX10_crowded_110z, sX10_crowded_110o, sX10_crowded_111, sX10_crowded_113, sX10_crowded_114, sX10_crowded_117, sX10_crowded_119, sX10_crowded_122, sX10_crowded_123i, sX10_crowded_123r, sX10_crowded_123z, sX10_crowded_123o, sX10_crowded_124i, sX10_crowded_124r, sX10_crowded_124z, sX10_crowded_124o, sX10_crowded_127, mCk, mG0, mG1, mG2, mG3, mG4, mG5, mG6, mG7, mG8, mG9, mG10, mG11, mG12, mG13, mG14, mG15, mG16, mG17, mG18, mG19, mG20, mP2, mP5, mP6, mP7, mP9, mP11, mP14, mA1, mS1, mA2, mS2, mA3, mS3, mA4, mS4, mA5, mS5, mA6, mS6, mA7, mS7, mA8, mS8, mA9, mS9, mA10, mS10, mA11, mS11, mA12, mS12, mA13, mS13, mA14, mS14, zpush_v, zpush_n, gCk, gAi, gSi, gSz, gLi, gLq, ↓if_pos, ↓if_neg, hv1, m_lineAt, nI_add, eb, l_crowd20 hv hw]
      · rw [if_neg (fun q => q.elim z (fun q => y q.1))] at E
        rw [← E (some (.int (nI 0)))]
        simp (disch := (first | omega | assumption | (simp (disch := omega) only [Int32.lt_iff_toInt_lt, Int32.le_iff_toInt_le, ← Int32.toInt_inj, nI_toInt, zi_m1, zi_m2, zi_m3, zi_m9]; omega) | decide)) only [sX10_crowded_8, sX10_crowded_9, sX10_crowded_12, sX10_crowded_13, sX10_crowded_14, sX10_crowded_17, sX10_crowded_18, sX10_crowded_21, sX10_crowded_22, sX10_crowded_25, sX10_crowded_26, sX10_crowded_27, sX10_crowded_28i, sX10_crowded_28r, sX10_crowded_28z, sX10_crowded_28o, sX10_crowded_30, sX10_crowded_31i, sX10_crowded_31r, sX10_crowded_31z, sX10_crowded_31o, sX10_crowded_33, sX10_crowded_34i, sX10_crowded_34r, sX10_crowded_34z, sX10_crowded_34o, sX10_crowded_74, sX10_crowded_76, sX10_crowded_77, sX10_crowded_80, sX10_crowded_82, sX10_crowded_83, sX10_crowded_86, sX10_crowded_88, sX10_crowded_89, sX10_crowded_92, sX10_crowded_93, sX10_crowded_96, sX10_crowded_97i, sX10_crowded_97r, sX10_crowded_97z, sX10_crowded_97o, sX10_crowded_99, sX10_crowded_101, sX10_crowded_104, sX10_crowded_106, sX10_crowded_109, sX10_crowded_110i, sX10_crowded_110r, sX10_crowded_110z, sX10_crowded_110o, sX10_crowded_111, sX10_crowded_113, sX10_crowded_114, sX10_crowded_117, sX10_crowded_119, sX10_crowded_122, sX10_crowded_123i, sX10_crowded_123r, sX10_crowded_123z, sX10_crowded_123o, sX10_crowded_124i, sX10_crowded_124r, sX10_crowded_124z, sX10_crowded_124o, sX10_crowded_127, mCk, mG0, mG1, mG2, mG3, mG4, mG5, mG6, mG7, mG8, mG9, mG10, mG11, mG12, mG13, mG14, mG15, mG16, mG17, mG18, mG19, mG20, mP2, mP5, mP6, mP7, mP9, mP11, mP14, mA1, mS1, mA2, mS2, mA3, mS3, mA4, mS4, mA5, mS5, mA6, mS6, mA7, mS7, mA8, mS8, mA9, mS9, mA10, mS10, mA11, mS11, mA12, mS12, mA13, mS13, mA14, mS14, zpush_v, zpush_n, gCk, gAi, gSi, gSz, gLi, gLq, ↓if_pos, ↓if_neg, hv1, m_lineAt, nI_add, eb, l_crowd20 hv hw]
theorem m_crowded {st : Stt} (hv : encV v st) (hw : WfSt st) (Q : Option Value → Hp → Prop) : WPm 165 [.ref M] (mkM h0 M v pa pm fl tx ty ct wr it im sg sm lat hat sy nw os hgh pl asd lks) Q = Q (some (.int (crw st.2.1 st.2.1.length).1)) (mkM h0 M v pa pm fl tx ty ct wr it im sg sm lat hat sy nw os hgh pl asd lks) := by
  rw [eX10_crowded, ← l_crowdY hv hw Q _ 0 none none none rfl]
  simp (disch := (first | omega | assumption | (simp (disch := omega) only [Int32.lt_iff_toInt_lt, Int32.le_iff_toInt_le, ← Int32.toInt_inj, nI_toInt, zi_m1, zi_m2, zi_m3, zi_m9]; omega) | decide)) only [sX10_crowded_0, sX10_crowded_2i, sX10_crowded_2r, sX10_crowded_2z, sX10_crowded_2o, sX10_crowded_3, sX10_crowded_4i, sX10_crowded_4r, sX10_crowded_4z, sX10_crowded_4o, sX10_crowded_5, sX10_crowded_6i, sX10_crowded_6r, sX10_crowded_6z, sX10_crowded_6o, zpush_v, zpush_n, gCk, gAi, gSi, gSz, gLi, gLq, ↓if_pos, ↓if_neg]
  rfl
theorem q_crowd (hv : encV v p.1) (hw : WfSt p.1) (Q : Option Value → Hp → Prop) : WPm 166 [.ref M] (mkM h0 M v pa pm fl tx ty ct wr it im sg sm lat hat sy nw os hgh pl asd lks) Q = Q (some (.int (qCrowd p))) (mkM h0 M v pa pm fl tx ty ct wr it im sg sm lat hat sy nw os hgh pl asd lks) := by
  rw [eX10_crowd]
  simp (disch := (first | omega | assumption | (simp (disch := omega) only [Int32.lt_iff_toInt_lt, Int32.le_iff_toInt_le, ← Int32.toInt_inj, nI_toInt, zi_m1, zi_m2, zi_m3, zi_m9]; omega) | decide)) only [sX10_crowd_0, sX10_crowd_1, sX10_crowd_4, mCk, mG0, mG1, mG2, mG3, mG4, mG5, mG6, mG7, mG8, mG9, mG10, mG11, mG12, mG13, mG14, mG15, mG16, mG17, mG18, mG19, mG20, mP2, mP5, mP6, mP7, mP9, mP11, mP14, mA1, mS1, mA2, mS2, mA3, mS3, mA4, mS4, mA5, mS5, mA6, mS6, mA7, mS7, mA8, mS8, mA9, mS9, mA10, mS10, mA11, mS11, mA12, mS12, mA13, mS13, mA14, mS14, zpush_v, zpush_n, gCk, gAi, gSi, gSz, gLi, gLq, ↓if_pos, ↓if_neg, m_crowded hv hw]
  rfl
theorem l_sung2 {st : Stt} (hv : encV v st) (hw : WfSt st) {i : Nat} (hi : i < st.2.1.length) (hr : gR sg lat hat nw (rdL st.1 (lnA st.2.1 i))) (t x : Int32) (b : Nat) (Q : Option Value → Hp → Prop) : ∀ (m s : Nat), m + s = (rdL st.1 (lnA st.2.1 i)).2.1.length →
    WP 167 44 [some (.ref M), some (.int t), some (.int x), some (.int (nI (b + cntU (lnA st.2.1 i).1 (rdL st.1 (lnA st.2.1 i)) t s))), some (.int (nI i)), some (.int (nI s))] [] (mkM h0 M v pa pm fl tx ty ct wr it im sg (nI (rdL st.1 (lnA st.2.1 i)).2.1.length) lat hat sy nw os hgh pl asd lks) Q =
    WP 167 79 [some (.ref M), some (.int t), some (.int x), some (.int (nI (b + cntU (lnA st.2.1 i).1 (rdL st.1 (lnA st.2.1 i)) t (rdL st.1 (lnA st.2.1 i)).2.1.length))), some (.int (nI i)), some (.int (nI (rdL st.1 (lnA st.2.1 i)).2.1.length))] [] (mkM h0 M v pa pm fl tx ty ct wr it im sg (nI (rdL st.1 (lnA st.2.1 i)).2.1.length) lat hat sy nw os hgh pl asd lks) Q := by
  have wl := hw.mem _ (lnA_mem hi)
  have h80 := (rdL_ok hw.1 wl.1).1
  intro m
  induction m with
  | zero =>
    intro s hs
    have hs : s = (rdL st.1 (lnA st.2.1 i)).2.1.length := by omega
    subst hs
    rw [sX10_sung_44]
    simp (disch := (first | omega | assumption | (simp (disch := omega) only [Int32.lt_iff_toInt_lt, Int32.le_iff_toInt_le, ← Int32.toInt_inj, nI_toInt, zi_m1, zi_m2, zi_m3, zi_m9]; omega) | decide)) only [sX10_sung_46, sX10_sung_47, sX10_sung_50, mCk, mG0, mG1, mG2, mG3, mG4, mG5, mG6, mG7, mG8, mG9, mG10, mG11, mG12, mG13, mG14, mG15, mG16, mG17, mG18, mG19, mG20, mP2, mP5, mP6, mP7, mP9, mP11, mP14, mA1, mS1, mA2, mS2, mA3, mS3, mA4, mS4, mA5, mS5, mA6, mS6, mA7, mS7, mA8, mS8, mA9, mS9, mA10, mS10, mA11, mS11, mA12, mS12, mA13, mS13, mA14, mS14, zpush_v, zpush_n, gCk, gAi, gSi, gSz, gLi, gLq, ↓if_pos, ↓if_neg]
  | succ m ih =>
    intro s hs
    have hs2 : s < (rdL st.1 (lnA st.2.1 i)).2.1.length := by omega
    have su := fun Q => m_isSung (h0 := h0) (M := M) (v := v) (pa := pa) (pm := pm) (fl := fl) (tx := tx) (ty := ty) (ct := ct) (wr := wr) (it := it) (im := im) (sg := sg) (sm := nI (rdL st.1 (lnA st.2.1 i)).2.1.length) (lat := lat) (hat := hat) (sy := sy) (nw := nw) (os := os) (hgh := hgh) (pl := pl) (asd := asd) (lks := lks) hv hw hi hr hs2 t Q
    have hx : (rdL st.1 (lnA st.2.1 i)).2.1[s]? = some ((rdL st.1 (lnA st.2.1 i)).2.1.getD s (0, (fun _ => 0), none)) := by
      rw [List.getD_eq_getElem?_getD, List.getElem?_eq_getElem hs2]
      rfl
    rw [← ih (s + 1) (by omega), sX10_sung_44]
    by_cases c : sungP (lnA st.2.1 i).1 (rdL st.1 (lnA st.2.1 i)).2.2 ((rdL st.1 (lnA st.2.1 i)).2.1.getD s (0, (fun _ => 0), none)).2.2 t = true
    · rw [bI_t c] at su
      rw [show cntU (lnA st.2.1 i).1 (rdL st.1 (lnA st.2.1 i)) t (s + 1) = cntU (lnA st.2.1 i).1 (rdL st.1 (lnA st.2.1 i)) t s + 1 from by simp only [cntU]; rw [hx]; simp only; rw [if_pos c]]
      simp (disch := (first | omega | assumption | (simp (disch := omega) only [Int32.lt_iff_toInt_lt, Int32.le_iff_toInt_le, ← Int32.toInt_inj, nI_toInt, zi_m1, zi_m2, zi_m3, zi_m9]; omega) | decide)) only [sX10_sung_46, sX10_sung_47, sX10_sung_50, sX10_sung_53, sX10_sung_54, sX10_sung_55, sX10_sung_57, sX10_sung_59, sX10_sung_60, sX10_sung_63, sX10_sung_66, sX10_sung_67, sX10_sung_70, sX10_sung_71, sX10_sung_72i, sX10_sung_72r, sX10_sung_72z, sX10_sung_72o, sX10_sung_73i, sX10_sung_73r, sX10_sung_73z, sX10_sung_73o, sX10_sung_76, mCk, mG0, mG1, mG2, mG3, mG4, mG5, mG6, mG7, mG8, mG9, mG10, mG11, mG12, mG13, mG14, mG15, mG16, mG17, mG18, mG19, mG20, mP2, mP5, mP6, mP7, mP9, mP11, mP14, mA1, mS1, mA2, mS2, mA3, mS3, mA4, mS4, mA5, mS5, mA6, mS6, mA7, mS7, mA8, mS8, mA9, mS9, mA10, mS10, mA11, mS11, mA12, mS12, mA13, mS13, mA14, mS14, zpush_v, zpush_n, gCk, gAi, gSi, gSz, gLi, gLq, ↓if_pos, ↓if_neg, su, nI_add, Nat.add_assoc]
    · rw [bI_f c] at su
      rw [show cntU (lnA st.2.1 i).1 (rdL st.1 (lnA st.2.1 i)) t (s + 1) = cntU (lnA st.2.1 i).1 (rdL st.1 (lnA st.2.1 i)) t s from by simp only [cntU]; rw [hx]; simp only; rw [if_neg c]; rfl]
      simp (disch := (first | omega | assumption | (simp (disch := omega) only [Int32.lt_iff_toInt_lt, Int32.le_iff_toInt_le, ← Int32.toInt_inj, nI_toInt, zi_m1, zi_m2, zi_m3, zi_m9]; omega) | decide)) only [sX10_sung_46, sX10_sung_47, sX10_sung_50, sX10_sung_53, sX10_sung_54, sX10_sung_55, sX10_sung_57, sX10_sung_59, sX10_sung_60, sX10_sung_63, sX10_sung_66, sX10_sung_67, sX10_sung_70, sX10_sung_71, sX10_sung_72i, sX10_sung_72r, sX10_sung_72z, sX10_sung_72o, sX10_sung_73i, sX10_sung_73r, sX10_sung_73z, sX10_sung_73o, sX10_sung_76, mCk, mG0, mG1, mG2, mG3, mG4, mG5, mG6, mG7, mG8, mG9, mG10, mG11, mG12, mG13, mG14, mG15, mG16, mG17, mG18, mG19, mG20, mP2, mP5, mP6, mP7, mP9, mP11, mP14, mA1, mS1, mA2, mS2, mA3, mS3, mA4, mS4, mA5, mS5, mA6, mS6, mA7, mS7, mA8, mS8, mA9, mS9, mA10, mS10, mA11, mS11, mA12, mS12, mA13, mS13, mA14, mS14, zpush_v, zpush_n, gCk, gAi, gSi, gSz, gLi, gLq, ↓if_pos, ↓if_neg, su, nI_add, Nat.add_zero]
theorem l_sungY (hv : encV v p.1) (hw : WfSt p.1) (t : Int32) : ∀ (m i : Nat), m + i = p.1.2.1.length → ∀ (sg lat hat nw : Nat → Int32) (sm sy : Int32), ∃ sg' lat' hat' nw' sm' sy', ∀ (l5 : Option Value) (Q : Option Value → Hp → Prop),
    WP 167 7 [some (.ref M), some (.int t), some (.int (nI (sng p.1.1 p.1.2.1 t i).1)), some (.int (nI (sng p.1.1 p.1.2.1 t i).2)), some (.int (nI i)), l5] [] (mkM h0 M v pa pm fl tx ty ct wr it im sg sm lat hat sy nw os hgh pl asd lks) Q = Q (some (.float (qSung p t))) (mkM h0 M v pa pm fl tx ty ct wr it im sg' sm' lat' hat' sy' nw' os hgh pl asd lks) := by
  have h16 := hw.2.1.1
  have hv1 := hv.2.1
  intro m
  induction m with
  | zero =>
    intro i hi sg lat hat nw sm sy
    have hi : i = p.1.2.1.length := by omega
    subst hi
    refine ⟨sg, lat, hat, nw, sm, sy, fun l5 Q => ?_⟩
    have le := sng_le hw.1 hw.2.1 t p.1.2.1.length
    unfold qSung
    rw [sX10_sung_7]
    by_cases z : (sng p.1.1 p.1.2.1 t p.1.2.1.length).1 = 0
    · rw [if_pos z, z]
      simp (disch := (first | omega | assumption | (simp (disch := omega) only [Int32.lt_iff_toInt_lt, Int32.le_iff_toInt_le, ← Int32.toInt_inj, nI_toInt, zi_m1, zi_m2, zi_m3, zi_m9]; omega) | decide)) only [sX10_sung_9, sX10_sung_10, sX10_sung_13, sX10_sung_14, sX10_sung_15, sX10_sung_85, sX10_sung_86, sX10_sung_89, sX10_sung_90, sX10_sung_93, sX10_sung_94, sX10_sung_95, sX10_sung_96, sX10_sung_97, sX10_sung_98, mCk, mG0, mG1, mG2, mG3, mG4, mG5, mG6, mG7, mG8, mG9, mG10, mG11, mG12, mG13, mG14, mG15, mG16, mG17, mG18, mG19, mG20, mP2, mP5, mP6, mP7, mP9, mP11, mP14, mA1, mS1, mA2, mS2, mA3, mS3, mA4, mS4, mA5, mS5, mA6, mS6, mA7, mS7, mA8, mS8, mA9, mS9, mA10, mS10, mA11, mS11, mA12, mS12, mA13, mS13, mA14, mS14, zpush_v, zpush_n, gCk, gAi, gSi, gSz, gLi, gLq, ↓if_pos, ↓if_neg, hv1]
    · rw [if_neg z]
      have nz : nI (sng p.1.1 p.1.2.1 t p.1.2.1.length).1 ≠ 0 := by
        intro q
        have q : nI (sng p.1.1 p.1.2.1 t p.1.2.1.length).1 = nI 0 := q
        rw [nI_eq (by omega) (by omega)] at q
        exact z q
      have fo := fq_ok (a := nI (sng p.1.1 p.1.2.1 t p.1.2.1.length).2) nz
      simp (disch := (first | omega | assumption | (simp (disch := omega) only [Int32.lt_iff_toInt_lt, Int32.le_iff_toInt_le, ← Int32.toInt_inj, nI_toInt, zi_m1, zi_m2, zi_m3, zi_m9]; omega) | decide)) only [sX10_sung_9, sX10_sung_10, sX10_sung_13, sX10_sung_14, sX10_sung_15, sX10_sung_85, sX10_sung_86, sX10_sung_89, sX10_sung_90, sX10_sung_93, sX10_sung_94, sX10_sung_95, sX10_sung_96, sX10_sung_97, sX10_sung_98, mCk, mG0, mG1, mG2, mG3, mG4, mG5, mG6, mG7, mG8, mG9, mG10, mG11, mG12, mG13, mG14, mG15, mG16, mG17, mG18, mG19, mG20, mP2, mP5, mP6, mP7, mP9, mP11, mP14, mA1, mS1, mA2, mS2, mA3, mS3, mA4, mS4, mA5, mS5, mA6, mS6, mA7, mS7, mA8, mS8, mA9, mS9, mA10, mS10, mA11, mS11, mA12, mS12, mA13, mS13, mA14, mS14, zpush_v, zpush_n, gCk, gAi, gSi, gSz, gLi, gLq, ↓if_pos, ↓if_neg, hv1]
  | succ m ih =>
    intro i hi sg lat hat nw sm sy
    have hi2 : i < p.1.2.1.length := by omega
    have sh := fun Q => m_isShown (h0 := h0) (M := M) (v := v) (pa := pa) (pm := pm) (fl := fl) (tx := tx) (ty := ty) (ct := ct) (wr := wr) (it := it) (im := im) (sg := sg) (sm := sm) (lat := lat) (hat := hat) (sy := sy) (nw := nw) (os := os) (hgh := hgh) (pl := pl) (asd := asd) (lks := lks) hv hw hi2 t Q
    by_cases z : shownP (lnA p.1.2.1 i) t = true
    · obtain ⟨sg1, lat1, hat1, nw1, g1, g2⟩ := m_goes (h0 := h0) (M := M) (v := v) (pa := pa) (pm := pm) (fl := fl) (tx := tx) (ty := ty) (ct := ct) (wr := wr) (it := it) (im := im) (sg := sg) (sm := sm) (lat := lat) (hat := hat) (sy := sy) (nw := nw) (os := os) (hgh := hgh) (pl := pl) (asd := asd) (lks := lks) hv hw hi2
      obtain ⟨sg', lat', hat', nw', sm', sy', E⟩ := ih (i + 1) (by omega) sg1 lat1 hat1 nw1 (nI (rdL p.1.1 (lnA p.1.2.1 i)).2.1.length) (nI (rdL p.1.1 (lnA p.1.2.1 i)).2.2.length)
      simp only [sng] at E
      rw [if_pos z] at E
      rw [bI_t z] at sh
      refine ⟨sg', lat', hat', nw', sm', sy', fun l5 Q => ?_⟩
      have B := l_sung2 (h0 := h0) (M := M) (v := v) (pa := pa) (pm := pm) (fl := fl) (tx := tx) (ty := ty) (ct := ct) (wr := wr) (it := it) (im := im) (sg := sg1) (lat := lat1) (hat := hat1) (sy := nI (rdL p.1.1 (lnA p.1.2.1 i)).2.2.length) (nw := nw1) (os := os) (hgh := hgh) (pl := pl) (asd := asd) (lks := lks) hv hw hi2 g1 t (nI ((sng p.1.1 p.1.2.1 t i).1 + (rdL p.1.1 (lnA p.1.2.1 i)).2.1.length)) (sng p.1.1 p.1.2.1 t i).2 Q _ 0 rfl
      rw [← E (some (.int (nI (rdL p.1.1 (lnA p.1.2.1 i)).2.1.length))) Q, sX10_sung_7]
      simp (disch := (first | omega | assumption | (simp (disch := omega) only [Int32.lt_iff_toInt_lt, Int32.le_iff_toInt_le, ← Int32.toInt_inj, nI_toInt, zi_m1, zi_m2, zi_m3, zi_m9]; omega) | decide)) only [sX10_sung_9, sX10_sung_10, sX10_sung_13, sX10_sung_14, sX10_sung_15, sX10_sung_18, sX10_sung_19, sX10_sung_21, sX10_sung_22, sX10_sung_25, sX10_sung_28, sX10_sung_29, sX10_sung_31, sX10_sung_34, sX10_sung_35, sX10_sung_36, sX10_sung_39, sX10_sung_40i, sX10_sung_40r, sX10_sung_40z, sX10_sung_40o, sX10_sung_41, sX10_sung_42i, sX10_sung_42r, sX10_sung_42z, sX10_sung_42o, mCk, mG0, mG1, mG2, mG3, mG4, mG5, mG6, mG7, mG8, mG9, mG10, mG11, mG12, mG13, mG14, mG15, mG16, mG17, mG18, mG19, mG20, mP2, mP5, mP6, mP7, mP9, mP11, mP14, mA1, mS1, mA2, mS2, mA3, mS3, mA4, mS4, mA5, mS5, mA6, mS6, mA7, mS7, mA8, mS8, mA9, mS9, mA10, mS10, mA11, mS11, mA12, mS12, mA13, mS13, mA14, mS14, zpush_v, zpush_n, gCk, gAi, gSi, gSz, gLi, gLq, ↓if_pos, ↓if_neg, hv1, sh, g2, nI_add]
      refine (Eq.trans (by rfl) B).trans ?_
      simp (disch := (first | omega | assumption | (simp (disch := omega) only [Int32.lt_iff_toInt_lt, Int32.le_iff_toInt_le, ← Int32.toInt_inj, nI_toInt, zi_m1, zi_m2, zi_m3, zi_m9]; omega) | decide)) only [sX10_sung_79i, sX10_sung_79r, sX10_sung_79z, sX10_sung_79o, sX10_sung_82, zpush_v, zpush_n, gCk, gAi, gSi, gSz, gLi, gLq, ↓if_pos, ↓if_neg, nI_add]
    · obtain ⟨sg', lat', hat', nw', sm', sy', E⟩ := ih (i + 1) (by omega) sg lat hat nw sm sy
      simp only [sng] at E
      rw [if_neg z] at E
      rw [bI_f z] at sh
      refine ⟨sg', lat', hat', nw', sm', sy', fun l5 Q => ?_⟩
      rw [← E l5 Q, sX10_sung_7]
      simp (disch := (first | omega | assumption | (simp (disch := omega) only [Int32.lt_iff_toInt_lt, Int32.le_iff_toInt_le, ← Int32.toInt_inj, nI_toInt, zi_m1, zi_m2, zi_m3, zi_m9]; omega) | decide)) only [sX10_sung_9, sX10_sung_10, sX10_sung_13, sX10_sung_14, sX10_sung_15, sX10_sung_18, sX10_sung_19, sX10_sung_21, sX10_sung_22, sX10_sung_25, sX10_sung_79i, sX10_sung_79r, sX10_sung_79z, sX10_sung_79o, sX10_sung_82, mCk, mG0, mG1, mG2, mG3, mG4, mG5, mG6, mG7, mG8, mG9, mG10, mG11, mG12, mG13, mG14, mG15, mG16, mG17, mG18, mG19, mG20, mP2, mP5, mP6, mP7, mP9, mP11, mP14, mA1, mS1, mA2, mS2, mA3, mS3, mA4, mS4, mA5, mS5, mA6, mS6, mA7, mS7, mA8, mS8, mA9, mS9, mA10, mS10, mA11, mS11, mA12, mS12, mA13, mS13, mA14, mS14, zpush_v, zpush_n, gCk, gAi, gSi, gSz, gLi, gLq, ↓if_pos, ↓if_neg, hv1, sh, nI_add]
theorem y_sung (hr : rM h M p) (hw : WfP p) (t : Int32) : ∃ h', Same h h' M 15 ∧ rM h' M p ∧ ∀ Q : Option Value → Hp → Prop, WPm 167 [.ref M, .int t] h Q = Q (some (.float (qSung p t))) h' := by
  obtain ⟨h0, v, pa, fl, tx, it, sg, lat, hat, nw, os, hgh, pl, asd, lks, ct, wr, im, sm, sy, rfl, hv, hp, ht⟩ := id hr
  obtain ⟨sg', lat', hat', nw', sm', sy', E⟩ := l_sungY (h0 := h0) (M := M) (v := v) (pa := pa) (pm := nI p.2.1.length) (fl := fl) (tx := tx) (ty := nI p.2.2.length) (ct := ct) (wr := wr) (it := it) (im := im) (os := os) (hgh := hgh) (pl := pl) (asd := asd) (lks := lks) hv hw.1 t _ 0 rfl sg lat hat nw sm sy
  refine ⟨(mkM h0 M v pa (nI p.2.1.length) fl tx (nI p.2.2.length) ct wr it im sg' sm' lat' hat' sy' nw' os hgh pl asd lks), mkM_same, rM.mk hv hp ht, fun Q => ?_⟩
  rw [← E none Q, eX10_sung]
  simp (disch := (first | omega | assumption | (simp (disch := omega) only [Int32.lt_iff_toInt_lt, Int32.le_iff_toInt_le, ← Int32.toInt_inj, nI_toInt, zi_m1, zi_m2, zi_m3, zi_m9]; omega) | decide)) only [sX10_sung_0, sX10_sung_1i, sX10_sung_1r, sX10_sung_1z, sX10_sung_1o, sX10_sung_2, sX10_sung_3i, sX10_sung_3r, sX10_sung_3z, sX10_sung_3o, sX10_sung_4, sX10_sung_5i, sX10_sung_5r, sX10_sung_5z, sX10_sung_5o, zpush_v, zpush_n, gCk, gAi, gSi, gSz, gLi, gLq, ↓if_pos, ↓if_neg]
  rfl
end MM2
