/-! the model: what a line is like -/
section MI
variable {h0 : Hp} {M : Nat} {v pa fl tx it sg lat hat nw os hgh pl asd lks : Nat → Int32} {pm ty ct wr im sm sy : Int32}
theorem l_lasting {r : Rd} (hr : gR sg lat hat nw r) (hn : r.2.2.length ≤ 20) (Q : Option Value → Hp → Prop) : ∀ (m i : Nat), m + i = r.2.2.length →
    WP 146 4 [some (.ref M), some (.int (nI (r.2.2.take i).sum)), some (.int (nI i))] [] (mkM h0 M v pa pm fl tx ty ct wr it im sg sm lat hat (nI r.2.2.length) nw os hgh pl asd lks) Q = Q (some (.int (nI r.2.2.sum))) (mkM h0 M v pa pm fl tx ty ct wr it im sg sm lat hat (nI r.2.2.length) nw os hgh pl asd lks) := by
  intro m
  induction m with
  | zero =>
    intro i hi
    have hi : i = r.2.2.length := by omega
    subst hi
    rw [List.take_length, sX10_lasting_4]
    simp (disch := (first | omega | assumption | (simp (disch := omega) only [Int32.lt_iff_toInt_lt, Int32.le_iff_toInt_le, ← Int32.toInt_inj, nI_toInt, zi_m1, zi_m2, zi_m3, zi_m9]; omega) | decide)) only [sX10_lasting_5, sX10_lasting_6, sX10_lasting_9, sX10_lasting_27, sX10_lasting_28, mCk, mG0, mG1, mG2, mG3, mG4, mG5, mG6, mG7, mG8, mG9, mG10, mG11, mG12, mG13, mG14, mG15, mG16, mG17, mG18, mG19, mG20, mP2, mP5, mP6, mP7, mP9, mP11, mP14, mA1, mS1, mA2, mS2, mA3, mS3, mA4, mS4, mA5, mS5, mA6, mS6, mA7, mS7, mA8, mS8, mA9, mS9, mA10, mS10, mA11, mS11, mA12, mS12, mA13, mS13, mA14, mS14, zpush_v, zpush_n, gCk, gAi, gSi, gSz, gLi, gLq, ↓if_pos, ↓if_neg]
  | succ m ih =>
    intro i hi
    have hi2 : i < r.2.2.length := by omega
    have e := (hr.2.1 i hi2).1
    have es : (r.2.2.take (i + 1)).sum = (r.2.2.take i).sum + r.2.2.getD i 0 := by
      rw [List.take_succ, List.sum_append, List.getD_eq_getElem?_getD, List.getElem?_eq_getElem hi2]
      simp
    rw [← ih (i + 1) (by omega), es, sX10_lasting_4]
    simp (disch := (first | omega | assumption | (simp (disch := omega) only [Int32.lt_iff_toInt_lt, Int32.le_iff_toInt_le, ← Int32.toInt_inj, nI_toInt, zi_m1, zi_m2, zi_m3, zi_m9]; omega) | decide)) only [sX10_lasting_5, sX10_lasting_6, sX10_lasting_9, sX10_lasting_12, sX10_lasting_13, sX10_lasting_14, sX10_lasting_17, sX10_lasting_18, sX10_lasting_19, sX10_lasting_20i, sX10_lasting_20r, sX10_lasting_20z, sX10_lasting_20o, sX10_lasting_21i, sX10_lasting_21r, sX10_lasting_21z, sX10_lasting_21o, sX10_lasting_24, mCk, mG0, mG1, mG2, mG3, mG4, mG5, mG6, mG7, mG8, mG9, mG10, mG11, mG12, mG13, mG14, mG15, mG16, mG17, mG18, mG19, mG20, mP2, mP5, mP6, mP7, mP9, mP11, mP14, mA1, mS1, mA2, mS2, mA3, mS3, mA4, mS4, mA5, mS5, mA6, mS6, mA7, mS7, mA8, mS8, mA9, mS9, mA10, mS10, mA11, mS11, mA12, mS12, mA13, mS13, mA14, mS14, zpush_v, zpush_n, gCk, gAi, gSi, gSz, gLi, gLq, ↓if_pos, ↓if_neg, e, nI_add]
theorem m_lasting {r : Rd} (hr : gR sg lat hat nw r) (hn : r.2.2.length ≤ 20) (Q : Option Value → Hp → Prop) : WPm 146 [.ref M] (mkM h0 M v pa pm fl tx ty ct wr it im sg sm lat hat (nI r.2.2.length) nw os hgh pl asd lks) Q = Q (some (.int (nI r.2.2.sum))) (mkM h0 M v pa pm fl tx ty ct wr it im sg sm lat hat (nI r.2.2.length) nw os hgh pl asd lks) := by
  rw [eX10_lasting, ← l_lasting hr hn Q _ 0 rfl]
  simp (disch := (first | omega | assumption | (simp (disch := omega) only [Int32.lt_iff_toInt_lt, Int32.le_iff_toInt_le, ← Int32.toInt_inj, nI_toInt, zi_m1, zi_m2, zi_m3, zi_m9]; omega) | decide)) only [sX10_lasting_0, sX10_lasting_1i, sX10_lasting_1r, sX10_lasting_1z, sX10_lasting_1o, sX10_lasting_2, sX10_lasting_3i, sX10_lasting_3r, sX10_lasting_3z, sX10_lasting_3o, zpush_v, zpush_n, gCk, gAi, gSi, gSz, gLi, gLq, ↓if_pos, ↓if_neg]
  rfl
theorem hgS_take {sgs : List Sgn} {i : Nat} {x : Sgn} (hx : sgs[i]? = some x) : hgS (sgs.take (i + 1)) = max (hgS (sgs.take i)) (x.2.1 0) := by
  rw [List.take_succ, hx]
  exact hgS_app _ _
theorem l_tall {r : Rd} (hr : gR sg lat hat nw r) (hok : okR r 80 20) (h0' : 0 < r.2.1.length) (x : Int32) (Q : Option Value → Hp → Prop) : ∀ (m i : Nat), m + i = r.2.1.length →
    WP 147 30 [some (.ref M), some (.int x), some (.int (nI (hgS (r.2.1.take i)))), some (.int (nI i))] [] (mkM h0 M v pa pm fl tx ty ct wr it im sg (nI r.2.1.length) lat hat sy nw os hgh pl asd lks) Q = Q (some (.int (nI (hgS r.2.1)))) (mkM h0 M v pa pm fl tx ty ct wr it im sg (nI r.2.1.length) lat hat sy nw os hgh pl asd lks) := by
  have h80 := hok.1
  intro m
  induction m with
  | zero =>
    intro i hi
    have hi : i = r.2.1.length := by omega
    subst hi
    rw [List.take_length, sX10_tall_30]
    simp (disch := (first | omega | assumption | (simp (disch := omega) only [Int32.lt_iff_toInt_lt, Int32.le_iff_toInt_le, ← Int32.toInt_inj, nI_toInt, zi_m1, zi_m2, zi_m3, zi_m9]; omega) | decide)) only [sX10_tall_31, sX10_tall_32, sX10_tall_35, sX10_tall_75, sX10_tall_76, mCk, mG0, mG1, mG2, mG3, mG4, mG5, mG6, mG7, mG8, mG9, mG10, mG11, mG12, mG13, mG14, mG15, mG16, mG17, mG18, mG19, mG20, mP2, mP5, mP6, mP7, mP9, mP11, mP14, mA1, mS1, mA2, mS2, mA3, mS3, mA4, mS4, mA5, mS5, mA6, mS6, mA7, mS7, mA8, mS8, mA9, mS9, mA10, mS10, mA11, mS11, mA12, mS12, mA13, mS13, mA14, mS14, zpush_v, zpush_n, gCk, gAi, gSi, gSz, gLi, gLq, ↓if_pos, ↓if_neg]
  | succ m ih =>
    intro i hi
    obtain ⟨y, hy⟩ : ∃ y, r.2.1[i]? = some y := ⟨r.2.1[i], List.getElem?_eq_getElem (by omega)⟩
    have e := (hr.1 i y hy).2.1 0 (by omega)
    rw [Nat.mul_comm, Nat.add_zero] at e
    have hy2 := (hok.2.2.2.1 y (List.mem_of_getElem? hy)).1 0 (by omega)
    have ht : hgS (r.2.1.take i) ≤ 200 := hgS_le (fun z hz => (hok.2.2.2.1 z (List.mem_of_mem_take hz)).1 0 (by omega))
    rw [← ih (i + 1) (by omega), hgS_take hy, sX10_tall_30]
    by_cases c : y.2.1 0 ≤ hgS (r.2.1.take i)
    · rw [Nat.max_eq_left c]
      simp (disch := (first | omega | assumption | (simp (disch := omega) only [Int32.lt_iff_toInt_lt, Int32.le_iff_toInt_le, ← Int32.toInt_inj, nI_toInt, zi_m1, zi_m2, zi_m3, zi_m9]; omega) | decide)) only [sX10_tall_31, sX10_tall_32, sX10_tall_35, sX10_tall_38, sX10_tall_39, sX10_tall_42, sX10_tall_44, sX10_tall_45, sX10_tall_46, sX10_tall_47, sX10_tall_48, sX10_tall_49, sX10_tall_50, sX10_tall_53, sX10_tall_54, sX10_tall_57, sX10_tall_59, sX10_tall_60, sX10_tall_61, sX10_tall_62, sX10_tall_63, sX10_tall_64, sX10_tall_67, sX10_tall_68i, sX10_tall_68r, sX10_tall_68z, sX10_tall_68o, sX10_tall_69i, sX10_tall_69r, sX10_tall_69z, sX10_tall_69o, sX10_tall_72, mCk, mG0, mG1, mG2, mG3, mG4, mG5, mG6, mG7, mG8, mG9, mG10, mG11, mG12, mG13, mG14, mG15, mG16, mG17, mG18, mG19, mG20, mP2, mP5, mP6, mP7, mP9, mP11, mP14, mA1, mS1, mA2, mS2, mA3, mS3, mA4, mS4, mA5, mS5, mA6, mS6, mA7, mS7, mA8, mS8, mA9, mS9, mA10, mS10, mA11, mS11, mA12, mS12, mA13, mS13, mA14, mS14, zpush_v, zpush_n, gCk, gAi, gSi, gSz, gLi, gLq, ↓if_pos, ↓if_neg, nI_mul, nI_add, e]
    · rw [Nat.max_eq_right (by omega)]
      simp (disch := (first | omega | assumption | (simp (disch := omega) only [Int32.lt_iff_toInt_lt, Int32.le_iff_toInt_le, ← Int32.toInt_inj, nI_toInt, zi_m1, zi_m2, zi_m3, zi_m9]; omega) | decide)) only [sX10_tall_31, sX10_tall_32, sX10_tall_35, sX10_tall_38, sX10_tall_39, sX10_tall_42, sX10_tall_44, sX10_tall_45, sX10_tall_46, sX10_tall_47, sX10_tall_48, sX10_tall_49, sX10_tall_50, sX10_tall_53, sX10_tall_54, sX10_tall_57, sX10_tall_59, sX10_tall_60, sX10_tall_61, sX10_tall_62, sX10_tall_63, sX10_tall_64, sX10_tall_67, sX10_tall_68i, sX10_tall_68r, sX10_tall_68z, sX10_tall_68o, sX10_tall_69i, sX10_tall_69r, sX10_tall_69z, sX10_tall_69o, sX10_tall_72, mCk, mG0, mG1, mG2, mG3, mG4, mG5, mG6, mG7, mG8, mG9, mG10, mG11, mG12, mG13, mG14, mG15, mG16, mG17, mG18, mG19, mG20, mP2, mP5, mP6, mP7, mP9, mP11, mP14, mA1, mS1, mA2, mS2, mA3, mS3, mA4, mS4, mA5, mS5, mA6, mS6, mA7, mS7, mA8, mS8, mA9, mS9, mA10, mS10, mA11, mS11, mA12, mS12, mA13, mS13, mA14, mS14, zpush_v, zpush_n, gCk, gAi, gSi, gSz, gLi, gLq, ↓if_pos, ↓if_neg, nI_mul, nI_add, e]
theorem m_tall {st : Stt} (hv : encV v st) (hw : WfSt st) {i : Nat} (hi : i < st.2.1.length) (hr : gR sg lat hat nw (rdL st.1 (lnA st.2.1 i))) (Q : Option Value → Hp → Prop) : WPm 147 [.ref M, .int (nI i)] (mkM h0 M v pa pm fl tx ty ct wr it im sg (nI (rdL st.1 (lnA st.2.1 i)).2.1.length) lat hat sy nw os hgh pl asd lks) Q = Q (some (.int (nI (hgL st.1 (lnA st.2.1 i))))) (mkM h0 M v pa pm fl tx ty ct wr it im sg (nI (rdL st.1 (lnA st.2.1 i)).2.1.length) lat hat sy nw os hgh pl asd lks) := by
  have h16 := hw.2.1.1
  have eL := encL.at hv.2.2.2 hi
  have wl := hw.mem _ (lnA_mem hi)
  have hok := rdL_ok hw.1 wl.1
  have h80 := hok.1
  obtain ⟨b1, b2, b3, b4, b5, b6⟩ := id eL
  unfold hgL
  by_cases c : (rdL st.1 (lnA st.2.1 i)).2.1.length = 0
  · rw [if_pos c, eX10_tall, c]
    have V := fun Q => m_valued (h0 := h0) (M := M) (v := v) (pa := pa) (pm := pm) (fl := fl) (tx := tx) (ty := ty) (ct := ct) (wr := wr) (it := it) (im := im) (sg := sg) (sm := nI 0) (lat := lat) (hat := hat) (sy := sy) (nw := nw) (os := os) (hgh := hgh) (pl := pl) (asd := asd) (lks := lks) hv.1 hw.1 (show 0 < 6 by omega) wl.2 Q
    simp (disch := (first | omega | assumption | (simp (disch := omega) only [Int32.lt_iff_toInt_lt, Int32.le_iff_toInt_le, ← Int32.toInt_inj, nI_toInt, zi_m1, zi_m2, zi_m3, zi_m9]; omega) | decide)) only [sX10_tall_0, sX10_tall_1, sX10_tall_4, sX10_tall_7, sX10_tall_8, sX10_tall_9, sX10_tall_12, sX10_tall_13, sX10_tall_16, sX10_tall_17, sX10_tall_18, sX10_tall_19, sX10_tall_20, sX10_tall_23, sX10_tall_26, sX10_tall_27i, sX10_tall_27r, sX10_tall_27z, sX10_tall_27o, sX10_tall_28, sX10_tall_29i, sX10_tall_29r, sX10_tall_29z, sX10_tall_29o, sX10_tall_30, sX10_tall_31, sX10_tall_32, sX10_tall_35, sX10_tall_38, sX10_tall_39, sX10_tall_42, sX10_tall_44, sX10_tall_45, sX10_tall_46, sX10_tall_47, sX10_tall_48, sX10_tall_49, sX10_tall_50, sX10_tall_53, sX10_tall_54, sX10_tall_57, sX10_tall_59, sX10_tall_60, sX10_tall_61, sX10_tall_62, sX10_tall_63, sX10_tall_64, sX10_tall_67, sX10_tall_68i, sX10_tall_68r, sX10_tall_68z, sX10_tall_68o, sX10_tall_69i, sX10_tall_69r, sX10_tall_69z, sX10_tall_69o, sX10_tall_72, sX10_tall_75, sX10_tall_76, mCk, mG0, mG1, mG2, mG3, mG4, mG5, mG6, mG7, mG8, mG9, mG10, mG11, mG12, mG13, mG14, mG15, mG16, mG17, mG18, mG19, mG20, mP2, mP5, mP6, mP7, mP9, mP11, mP14, mA1, mS1, mA2, mS2, mA3, mS3, mA4, mS4, mA5, mS5, mA6, mS6, mA7, mS7, mA8, mS8, mA9, mS9, mA10, mS10, mA11, mS11, mA12, mS12, mA13, mS13, mA14, mS14, zpush_v, zpush_n, gCk, gAi, gSi, gSz, gLi, gLq, ↓if_pos, ↓if_neg, nI_add, m_lineAt, b3, V]
  · rw [if_neg c, eX10_tall, ← l_tall hr hok (by omega) (nI i) Q _ 0 rfl]
    simp (disch := (first | omega | assumption | (simp (disch := omega) only [Int32.lt_iff_toInt_lt, Int32.le_iff_toInt_le, ← Int32.toInt_inj, nI_toInt, zi_m1, zi_m2, zi_m3, zi_m9]; omega) | decide)) only [sX10_tall_0, sX10_tall_1, sX10_tall_4, sX10_tall_7, sX10_tall_8, sX10_tall_9, sX10_tall_12, sX10_tall_13, sX10_tall_16, sX10_tall_17, sX10_tall_18, sX10_tall_19, sX10_tall_20, sX10_tall_23, sX10_tall_26, sX10_tall_27i, sX10_tall_27r, sX10_tall_27z, sX10_tall_27o, sX10_tall_28, sX10_tall_29i, sX10_tall_29r, sX10_tall_29z, sX10_tall_29o, mCk, mG0, mG1, mG2, mG3, mG4, mG5, mG6, mG7, mG8, mG9, mG10, mG11, mG12, mG13, mG14, mG15, mG16, mG17, mG18, mG19, mG20, mP2, mP5, mP6, mP7, mP9, mP11, mP14, mA1, mS1, mA2, mS2, mA3, mS3, mA4, mS4, mA5, mS5, mA6, mS6, mA7, mS7, mA8, mS8, mA9, mS9, mA10, mS10, mA11, mS11, mA12, mS12, mA13, mS13, mA14, mS14, zpush_v, zpush_n, gCk, gAi, gSi, gSz, gLi, gLq, ↓if_pos, ↓if_neg]
    rfl
theorem m_group {st : Stt} (hv : encV v st) (hw : WfSt st) {i : Nat} (hi : i < st.2.1.length) (Q : Option Value → Hp → Prop) : WPm 148 [.ref M, .int (nI i)] (mkM h0 M v pa pm fl tx ty ct wr it im sg sm lat hat sy nw os hgh pl asd lks) Q = Q (some (.int (nI (valS st.1 4 (lnA st.2.1 i).2.2.1)))) (mkM h0 M v pa pm fl tx ty ct wr it im sg sm lat hat sy nw os hgh pl asd lks) := by
  have h16 := hw.2.1.1
  obtain ⟨b1, b2, b3, b4, b5, b6⟩ := encL.at hv.2.2.2 hi
  have wl := hw.mem _ (lnA_mem hi)
  rw [eX10_group]
  simp (disch := (first | omega | assumption | (simp (disch := omega) only [Int32.lt_iff_toInt_lt, Int32.le_iff_toInt_le, ← Int32.toInt_inj, nI_toInt, zi_m1, zi_m2, zi_m3, zi_m9]; omega) | decide)) only [sX10_group_0, sX10_group_1, sX10_group_2, sX10_group_5, sX10_group_6, sX10_group_9, sX10_group_10, sX10_group_11, sX10_group_12, sX10_group_13, sX10_group_16, mCk, mG0, mG1, mG2, mG3, mG4, mG5, mG6, mG7, mG8, mG9, mG10, mG11, mG12, mG13, mG14, mG15, mG16, mG17, mG18, mG19, mG20, mP2, mP5, mP6, mP7, mP9, mP11, mP14, mA1, mS1, mA2, mS2, mA3, mS3, mA4, mS4, mA5, mS5, mA6, mS6, mA7, mS7, mA8, mS8, mA9, mS9, mA10, mS10, mA11, mS11, mA12, mS12, mA13, mS13, mA14, mS14, zpush_v, zpush_n, gCk, gAi, gSi, gSz, gLi, gLq, ↓if_pos, ↓if_neg, nI_add, m_lineAt, b3, m_valued hv.1 hw.1 (show 4 < 6 by omega) wl.2]
theorem m_margin {st : Stt} (hv : encV v st) (hw : WfSt st) {i : Nat} (hi : i < st.2.1.length) (Q : Option Value → Hp → Prop) : WPm 149 [.ref M, .int (nI i)] (mkM h0 M v pa pm fl tx ty ct wr it im sg sm lat hat sy nw os hgh pl asd lks) Q = Q (some (.int (nI (mrg st.1 (lnA st.2.1 i))))) (mkM h0 M v pa pm fl tx ty ct wr it im sg sm lat hat sy nw os hgh pl asd lks) := by
  have h16 := hw.2.1.1
  obtain ⟨b1, b2, b3, b4, b5, b6⟩ := encL.at hv.2.2.2 hi
  have wl := hw.mem _ (lnA_mem hi)
  rw [eX10_margin]
  unfold mrg
  cases hm : (lnA st.2.1 i).2.2.2.1 with
  | none =>
    rw [hm, eN_n] at b4
    simp (disch := (first | omega | assumption | (simp (disch := omega) only [Int32.lt_iff_toInt_lt, Int32.le_iff_toInt_le, ← Int32.toInt_inj, nI_toInt, zi_m1, zi_m2, zi_m3, zi_m9]; omega) | decide)) only [sX10_margin_0, sX10_margin_1, sX10_margin_4, sX10_margin_5, sX10_margin_8, sX10_margin_9, sX10_margin_10, sX10_margin_11i, sX10_margin_11r, sX10_margin_11z, sX10_margin_11o, sX10_margin_12, sX10_margin_13, sX10_margin_16, sX10_margin_17, sX10_margin_18, sX10_margin_21, sX10_margin_22, sX10_margin_25, sX10_margin_26, sX10_margin_27, sX10_margin_28, sX10_margin_29, sX10_margin_32, sX10_margin_35, sX10_margin_36, mCk, mG0, mG1, mG2, mG3, mG4, mG5, mG6, mG7, mG8, mG9, mG10, mG11, mG12, mG13, mG14, mG15, mG16, mG17, mG18, mG19, mG20, mP2, mP5, mP6, mP7, mP9, mP11, mP14, mA1, mS1, mA2, mS2, mA3, mS3, mA4, mS4, mA5, mS5, mA6, mS6, mA7, mS7, mA8, mS8, mA9, mS9, mA10, mS10, mA11, mS11, mA12, mS12, mA13, mS13, mA14, mS14, zpush_v, zpush_n, gCk, gAi, gSi, gSz, gLi, gLq, ↓if_pos, ↓if_neg, nI_add, m_lineAt, b3, b4, m_valued hv.1 hw.1 (show 5 < 6 by omega) wl.2]
  | some w =>
    have := wl.1.2.2.2.1 w hm
    rw [hm, eN_s] at b4
    simp (disch := (first | omega | assumption | (simp (disch := omega) only [Int32.lt_iff_toInt_lt, Int32.le_iff_toInt_le, ← Int32.toInt_inj, nI_toInt, zi_m1, zi_m2, zi_m3, zi_m9]; omega) | decide)) only [sX10_margin_0, sX10_margin_1, sX10_margin_4, sX10_margin_5, sX10_margin_8, sX10_margin_9, sX10_margin_10, sX10_margin_11i, sX10_margin_11r, sX10_margin_11z, sX10_margin_11o, sX10_margin_12, sX10_margin_13, sX10_margin_16, sX10_margin_17, sX10_margin_18, sX10_margin_21, sX10_margin_22, sX10_margin_25, sX10_margin_26, sX10_margin_27, sX10_margin_28, sX10_margin_29, sX10_margin_32, sX10_margin_35, sX10_margin_36, mCk, mG0, mG1, mG2, mG3, mG4, mG5, mG6, mG7, mG8, mG9, mG10, mG11, mG12, mG13, mG14, mG15, mG16, mG17, mG18, mG19, mG20, mP2, mP5, mP6, mP7, mP9, mP11, mP14, mA1, mS1, mA2, mS2, mA3, mS3, mA4, mS4, mA5, mS5, mA6, mS6, mA7, mS7, mA8, mS8, mA9, mS9, mA10, mS10, mA11, mS11, mA12, mS12, mA13, mS13, mA14, mS14, zpush_v, zpush_n, gCk, gAi, gSi, gSz, gLi, gLq, ↓if_pos, ↓if_neg, nI_add, m_lineAt, b4]
theorem m_isShown {st : Stt} (hv : encV v st) (hw : WfSt st) {i : Nat} (hi : i < st.2.1.length) (t : Int32) (Q : Option Value → Hp → Prop) : WPm 150 [.ref M, .int (nI i), .int t] (mkM h0 M v pa pm fl tx ty ct wr it im sg sm lat hat sy nw os hgh pl asd lks) Q = Q (some (.int (bI (shownP (lnA st.2.1 i) t = true)))) (mkM h0 M v pa pm fl tx ty ct wr it im sg sm lat hat sy nw os hgh pl asd lks) := by
  have h16 := hw.2.1.1
  obtain ⟨b1, b2, b3, b4, b5, b6⟩ := encL.at hv.2.2.2 hi
  rw [eX10_isShown]
  unfold shownP
  by_cases c1 : nI (lnA st.2.1 i).1 ≤ t
  · have d1 := Int32.not_lt.mpr c1
    by_cases c2 : t < nI (lnA st.2.1 i).2.1
    · rw [decide_eq_true (show nI (lnA st.2.1 i).1 ≤ t ∧ t < nI (lnA st.2.1 i).2.1 from ⟨c1, c2⟩)]
      have d2 := Int32.not_le.mpr c2
      simp (disch := (first | omega | assumption | (simp (disch := omega) only [Int32.lt_iff_toInt_lt, Int32.le_iff_toInt_le, ← Int32.toInt_inj, nI_toInt, zi_m1, zi_m2, zi_m3, zi_m9]; omega) | decide)) only [sX10_isShown_0, sX10_isShown_1, sX10_isShown_4, sX10_isShown_5, sX10_isShown_8, sX10_isShown_9, sX10_isShown_10, sX10_isShown_11, sX10_isShown_12, sX10_isShown_15, sX10_isShown_16, sX10_isShown_17, sX10_isShown_20, sX10_isShown_21, sX10_isShown_24, sX10_isShown_25, sX10_isShown_26, sX10_isShown_27, sX10_isShown_30, sX10_isShown_31, sX10_isShown_34, sX10_isShown_35, mCk, mG0, mG1, mG2, mG3, mG4, mG5, mG6, mG7, mG8, mG9, mG10, mG11, mG12, mG13, mG14, mG15, mG16, mG17, mG18, mG19, mG20, mP2, mP5, mP6, mP7, mP9, mP11, mP14, mA1, mS1, mA2, mS2, mA3, mS3, mA4, mS4, mA5, mS5, mA6, mS6, mA7, mS7, mA8, mS8, mA9, mS9, mA10, mS10, mA11, mS11, mA12, mS12, mA13, mS13, mA14, mS14, zpush_v, zpush_n, gCk, gAi, gSi, gSz, gLi, gLq, ↓if_pos, ↓if_neg, nI_add, m_lineAt, b1, b2]
      rfl
    · rw [decide_eq_false (show ¬ (nI (lnA st.2.1 i).1 ≤ t ∧ t < nI (lnA st.2.1 i).2.1) from fun q => c2 q.2)]
      have d2 := Int32.not_lt.mp c2
      simp (disch := (first | omega | assumption | (simp (disch := omega) only [Int32.lt_iff_toInt_lt, Int32.le_iff_toInt_le, ← Int32.toInt_inj, nI_toInt, zi_m1, zi_m2, zi_m3, zi_m9]; omega) | decide)) only [sX10_isShown_0, sX10_isShown_1, sX10_isShown_4, sX10_isShown_5, sX10_isShown_8, sX10_isShown_9, sX10_isShown_10, sX10_isShown_11, sX10_isShown_12, sX10_isShown_15, sX10_isShown_16, sX10_isShown_17, sX10_isShown_20, sX10_isShown_21, sX10_isShown_24, sX10_isShown_25, sX10_isShown_26, sX10_isShown_27, sX10_isShown_30, sX10_isShown_31, sX10_isShown_34, sX10_isShown_35, mCk, mG0, mG1, mG2, mG3, mG4, mG5, mG6, mG7, mG8, mG9, mG10, mG11, mG12, mG13, mG14, mG15, mG16, mG17, mG18, mG19, mG20, mP2, mP5, mP6, mP7, mP9, mP11, mP14, mA1, mS1, mA2, mS2, mA3, mS3, mA4, mS4, mA5, mS5, mA6, mS6, mA7, mS7, mA8, mS8, mA9, mS9, mA10, mS10, mA11, mS11, mA12, mS12, mA13, mS13, mA14, mS14, zpush_v, zpush_n, gCk, gAi, gSi, gSz, gLi, gLq, ↓if_pos, ↓if_neg, nI_add, m_lineAt, b1, b2]
      rfl
  · rw [decide_eq_false (show ¬ (nI (lnA st.2.1 i).1 ≤ t ∧ t < nI (lnA st.2.1 i).2.1) from fun q => c1 q.1)]
    have d1 := Int32.not_le.mp c1
    simp (disch := (first | omega | assumption | (simp (disch := omega) only [Int32.lt_iff_toInt_lt, Int32.le_iff_toInt_le, ← Int32.toInt_inj, nI_toInt, zi_m1, zi_m2, zi_m3, zi_m9]; omega) | decide)) only [sX10_isShown_0, sX10_isShown_1, sX10_isShown_4, sX10_isShown_5, sX10_isShown_8, sX10_isShown_9, sX10_isShown_10, sX10_isShown_11, sX10_isShown_12, sX10_isShown_15, sX10_isShown_16, sX10_isShown_17, sX10_isShown_20, sX10_isShown_21, sX10_isShown_24, sX10_isShown_25, sX10_isShown_26, sX10_isShown_27, sX10_isShown_30, sX10_isShown_31, sX10_isShown_34, sX10_isShown_35, mCk, mG0, mG1, mG2, mG3, mG4, mG5, mG6, mG7, mG8, mG9, mG10, mG11, mG12, mG13, mG14, mG15, mG16, mG17, mG18, mG19, mG20, mP2, mP5, mP6, mP7, mP9, mP11, mP14, mA1, mS1, mA2, mS2, mA3, mS3, mA4, mS4, mA5, mS5, mA6, mS6, mA7, mS7, mA8, mS8, mA9, mS9, mA10, mS10, mA11, mS11, mA12, mS12, mA13, mS13, mA14, mS14, zpush_v, zpush_n, gCk, gAi, gSi, gSz, gLi, gLq, ↓if_pos, ↓if_neg, nI_add, m_lineAt, b1]
    rfl
theorem pSrt_ex (bg : Nat → Nat) : ∀ n, ∃ f, pSrt bg n f := by
  intro n
  induction n with
  | zero => exact ⟨fun _ => 0, pSrt_0 _ _⟩
  | succ n ih =>
    obtain ⟨f, hS⟩ := ih
    have key : ∀ a, a ≤ n → (∀ i, a ≤ i → i < n → bg n < bg (f i)) → ∃ a', a' ≤ n ∧ (∀ i, i < a' → bg (f i) ≤ bg n) ∧ ∀ i, a' ≤ i → i < n → bg n < bg (f i) := by
      intro a
      induction a with
      | zero => intro h1 h2; exact ⟨0, h1, fun i hi => absurd hi (Nat.not_lt_zero _), h2⟩
      | succ a iha =>
        intro h1 h2
        by_cases c : bg (f a) ≤ bg n
        · refine ⟨a + 1, h1, fun i hi => ?_, h2⟩
          by_cases e : i = a
          · rw [e]; exact c
          · have := hS.2.2 i a (by omega) (by omega)
            unfold pBef at this
            omega
        · exact iha (by omega) (fun i i1 i2 => by
            by_cases e : i = a
            · rw [e]; omega
            · exact h2 i (by omega) i2)
    obtain ⟨a, h1, h2, h3⟩ := key n (Nat.le_refl _) (fun i i1 i2 => by omega)
    exact ⟨_, hS.ins h1 h2 h3⟩
end MI
