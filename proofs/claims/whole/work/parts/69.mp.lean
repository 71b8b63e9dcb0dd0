/-! the model: fingerprint -/
noncomputable abbrev fpB (st : Stt) (i : Nat) : Nat → Int64 → Int64 := fun y s => fpG (fun w s => fpN s (sgW ((rdL st.1 (lnA st.2.1 i)).2.1.getD y (0, (fun _ => 0), none)) w)) 6 s
noncomputable abbrev fpC (st : Stt) (i : Nat) : Nat → Int64 → Int64 := fun y s => fpG (fun w s => fpN s (syW (lnA st.2.1 i).1 (rdL st.1 (lnA st.2.1 i)) y w)) 3 s
noncomputable def fF (st : Stt) (i : Nat) (s : Int64) (k : Nat) : Int64 := fpG (fun w s => fpN s (sgW ((rdL st.1 (lnA st.2.1 i)).2.1.getD (k / 6) (0, (fun _ => 0), none)) w)) (k % 6) (fpG (fpB st i) (k / 6) s)
theorem fF_step (st : Stt) (i : Nat) (s : Int64) (k : Nat) : fpN (fF st i s k) (sgW ((rdL st.1 (lnA st.2.1 i)).2.1.getD (k / 6) (0, (fun _ => 0), none)) (k % 6)) = fF st i s (k + 1) := by
  unfold fF
  by_cases c : k % 6 = 5
  · rw [show (k + 1) / 6 = k / 6 + 1 by omega, show (k + 1) % 6 = 0 by omega, c]
    rfl
  · rw [show (k + 1) / 6 = k / 6 by omega, show (k + 1) % 6 = k % 6 + 1 by omega]
    rfl
theorem fF_end (st : Stt) (i n : Nat) (s : Int64) : fF st i s (6 * n) = fpG (fpB st i) n s := by
  unfold fF
  rw [show 6 * n / 6 = n by omega, show 6 * n % 6 = 0 by omega]
  rfl
section MP
variable {h0 : Hp} {M : Nat} {v pa fl tx it sg lat hat nw os hgh pl asd lks : Nat → Int32} {pm ty ct wr im sm sy : Int32}
variable {p : PS} {h : Hp}
theorem l_fA1 {S : Sh} (hv : encS v S) (hw : WfS S) {k : Nat} (hk : k < S.1) (s : Int64) (Q : Option Value → Hp → Prop) : ∀ (m j : Nat), m + j = 9 → ∀ (l5 : Option Value),
    WP 171 27 [some (.ref M), some (.long (fpG (fun w s => fpN s (styleNum S k w)) j s)), none, some (.int (nI k)), some (.int (nI j)), l5] [] (mkM h0 M v pa pm fl tx ty ct wr it im sg sm lat hat sy nw os hgh pl asd lks) Q = WP 171 55 [some (.ref M), some (.long (fpG (fun w s => fpN s (styleNum S k w)) 9 s)), none, some (.int (nI k)), some (.int (nI 9)), l5] [] (mkM h0 M v pa pm fl tx ty ct wr it im sg sm lat hat sy nw os hgh pl asd lks) Q := by
  intro m
  induction m with
  | zero =>
    intro j hj l5
    have hj : j = 9 := by omega
    subst hj
    rw [sX10_fingerprint_27]
    simp (disch := (first | omega | assumption | (simp (disch := omega) only [Int32.lt_iff_toInt_lt, Int32.le_iff_toInt_le, ← Int32.toInt_inj, nI_toInt, zi_m1, zi_m2, zi_m3, zi_m9]; omega) | decide)) only [sX10_fingerprint_29, sX10_fingerprint_31, zpush_v, zpush_n, gCk, gAi, gSi, gSz, gLi, gLq, ↓if_pos, ↓if_neg]
  | succ m ih =>
    intro j hj l5
    rw [← ih (j + 1) (by omega), sX10_fingerprint_27]
    simp (disch := (first | omega | assumption | (simp (disch := omega) only [Int32.lt_iff_toInt_lt, Int32.le_iff_toInt_le, ← Int32.toInt_inj, nI_toInt, zi_m1, zi_m2, zi_m3, zi_m9]; omega) | decide)) only [sX10_fingerprint_29, sX10_fingerprint_31, sX10_fingerprint_34, sX10_fingerprint_37, sX10_fingerprint_38, sX10_fingerprint_39, sX10_fingerprint_40, sX10_fingerprint_41, sX10_fingerprint_43, sX10_fingerprint_46, sX10_fingerprint_47, sX10_fingerprint_48i, sX10_fingerprint_48r, sX10_fingerprint_48z, sX10_fingerprint_48o, sX10_fingerprint_49i, sX10_fingerprint_49r, sX10_fingerprint_49z, sX10_fingerprint_49o, sX10_fingerprint_52, mCk, mG0, mG1, mG2, mG3, mG4, mG5, mG6, mG7, mG8, mG9, mG10, mG11, mG12, mG13, mG14, mG15, mG16, mG17, mG18, mG19, mG20, mP2, mP5, mP6, mP7, mP9, mP11, mP14, mA1, mS1, mA2, mS2, mA3, mS3, mA4, mS4, mA5, mS5, mA6, mS6, mA7, mS7, mA8, mS8, mA9, mS9, mA10, mS10, mA11, mS11, mA12, mS12, mA13, mS13, mA14, mS14, zpush_v, zpush_n, gCk, gAi, gSi, gSz, gLi, gLq, ↓if_pos, ↓if_neg, m_told hv hw hk (show j < 9 by omega), nI_add]
    rfl
theorem l_fA2 {S : Sh} (hv : encS v S) (hw : WfS S) {k : Nat} (hk : k < S.1) (s : Int64) (Q : Option Value → Hp → Prop) : ∀ (m j : Nat), m + j = 6 → ∀ (l5 : Option Value),
    WP 171 58 [some (.ref M), some (.long (fpG (fun q s => fpN s (nI (valS S q (some k)))) j s)), none, some (.int (nI k)), some (.int (nI j)), l5] [] (mkM h0 M v pa pm fl tx ty ct wr it im sg sm lat hat sy nw os hgh pl asd lks) Q = WP 171 86 [some (.ref M), some (.long (fpG (fun q s => fpN s (nI (valS S q (some k)))) 6 s)), none, some (.int (nI k)), some (.int (nI 6)), l5] [] (mkM h0 M v pa pm fl tx ty ct wr it im sg sm lat hat sy nw os hgh pl asd lks) Q := by
  intro m
  induction m with
  | zero =>
    intro j hj l5
    have hj : j = 6 := by omega
    subst hj
    rw [sX10_fingerprint_58]
    simp (disch := (first | omega | assumption | (simp (disch := omega) only [Int32.lt_iff_toInt_lt, Int32.le_iff_toInt_le, ← Int32.toInt_inj, nI_toInt, zi_m1, zi_m2, zi_m3, zi_m9]; omega) | decide)) only [sX10_fingerprint_60, sX10_fingerprint_62, zpush_v, zpush_n, gCk, gAi, gSi, gSz, gLi, gLq, ↓if_pos, ↓if_neg]
  | succ m ih =>
    intro j hj l5
    rw [← ih (j + 1) (by omega), sX10_fingerprint_58]
    simp (disch := (first | omega | assumption | (simp (disch := omega) only [Int32.lt_iff_toInt_lt, Int32.le_iff_toInt_le, ← Int32.toInt_inj, nI_toInt, zi_m1, zi_m2, zi_m3, zi_m9]; omega) | decide)) only [sX10_fingerprint_60, sX10_fingerprint_62, sX10_fingerprint_65, sX10_fingerprint_68, sX10_fingerprint_69, sX10_fingerprint_70, sX10_fingerprint_71, sX10_fingerprint_72, sX10_fingerprint_74, sX10_fingerprint_77, sX10_fingerprint_78, sX10_fingerprint_79i, sX10_fingerprint_79r, sX10_fingerprint_79z, sX10_fingerprint_79o, sX10_fingerprint_80i, sX10_fingerprint_80r, sX10_fingerprint_80z, sX10_fingerprint_80o, sX10_fingerprint_83, mCk, mG0, mG1, mG2, mG3, mG4, mG5, mG6, mG7, mG8, mG9, mG10, mG11, mG12, mG13, mG14, mG15, mG16, mG17, mG18, mG19, mG20, mP2, mP5, mP6, mP7, mP9, mP11, mP14, mA1, mS1, mA2, mS2, mA3, mS3, mA4, mS4, mA5, mS5, mA6, mS6, mA7, mS7, mA8, mS8, mA9, mS9, mA10, mS10, mA11, mS11, mA12, mS12, mA13, mS13, mA14, mS14, zpush_v, zpush_n, gCk, gAi, gSi, gSz, gLi, gLq, ↓if_pos, ↓if_neg, m_valuedS hv hw (show j < 6 by omega) hk, nI_add]
    rfl
theorem l_fA {S : Sh} (hv : encS v S) (hw : WfS S) (s : Int64) (Q : Option Value → Hp → Prop) : ∀ (m j : Nat), m + j = S.1 → ∀ (l4 l5 : Option Value), ∃ l4', WP 171 14 [some (.ref M), some (.long (fpG (fpS S) j s)), none, some (.int (nI j)), l4, l5] [] (mkM h0 M v pa pm fl tx ty ct wr it im sg sm lat hat sy nw os hgh pl asd lks) Q = WP 171 92 [some (.ref M), some (.long (fpG (fpS S) S.1 s)), none, some (.int (nI S.1)), l4', l5] [] (mkM h0 M v pa pm fl tx ty ct wr it im sg sm lat hat sy nw os hgh pl asd lks) Q := by
  have h10 := hw.1
  have hv0 := hv.1
  intro m
  induction m with
  | zero =>
    intro j hj l4 l5
    have hj : j = S.1 := by omega
    subst hj
    refine ⟨l4, ?_⟩
    rw [sX10_fingerprint_14]
    simp (disch := (first | omega | assumption | (simp (disch := omega) only [Int32.lt_iff_toInt_lt, Int32.le_iff_toInt_le, ← Int32.toInt_inj, nI_toInt, zi_m1, zi_m2, zi_m3, zi_m9]; omega) | decide)) only [sX10_fingerprint_15, sX10_fingerprint_16, sX10_fingerprint_19, sX10_fingerprint_20, sX10_fingerprint_21, mCk, mG0, mG1, mG2, mG3, mG4, mG5, mG6, mG7, mG8, mG9, mG10, mG11, mG12, mG13, mG14, mG15, mG16, mG17, mG18, mG19, mG20, mP2, mP5, mP6, mP7, mP9, mP11, mP14, mA1, mS1, mA2, mS2, mA3, mS3, mA4, mS4, mA5, mS5, mA6, mS6, mA7, mS7, mA8, mS8, mA9, mS9, mA10, mS10, mA11, mS11, mA12, mS12, mA13, mS13, mA14, mS14, zpush_v, zpush_n, gCk, gAi, gSi, gSz, gLi, gLq, ↓if_pos, ↓if_neg, hv0]
  | succ m ih =>
    intro j hj l4 l5
    obtain ⟨l4', e⟩ := ih (j + 1) (by omega) (some (.int (nI 6))) l5
    refine ⟨l4', ?_⟩
    have a := l_fA1 (h0 := h0) (M := M) (v := v) (pa := pa) (pm := pm) (fl := fl) (tx := tx) (ty := ty) (ct := ct) (wr := wr) (it := it) (im := im) (sg := sg) (sm := sm) (lat := lat) (hat := hat) (sy := sy) (nw := nw) (os := os) (hgh := hgh) (pl := pl) (asd := asd) (lks := lks) hv hw (show j < S.1 by omega) (fpG (fpS S) j s) Q 9 0 rfl l5
    have b := l_fA2 (h0 := h0) (M := M) (v := v) (pa := pa) (pm := pm) (fl := fl) (tx := tx) (ty := ty) (ct := ct) (wr := wr) (it := it) (im := im) (sg := sg) (sm := sm) (lat := lat) (hat := hat) (sy := sy) (nw := nw) (os := os) (hgh := hgh) (pl := pl) (asd := asd) (lks := lks) hv hw (show j < S.1 by omega) (fpG (fun w s => fpN s (styleNum S j w)) 9 (fpG (fpS S) j s)) Q 6 0 rfl l5
    rw [← e, sX10_fingerprint_14]
    simp (disch := (first | omega | assumption | (simp (disch := omega) only [Int32.lt_iff_toInt_lt, Int32.le_iff_toInt_le, ← Int32.toInt_inj, nI_toInt, zi_m1, zi_m2, zi_m3, zi_m9]; omega) | decide)) only [sX10_fingerprint_15, sX10_fingerprint_16, sX10_fingerprint_19, sX10_fingerprint_20, sX10_fingerprint_21, sX10_fingerprint_24, sX10_fingerprint_25i, sX10_fingerprint_25r, sX10_fingerprint_25z, sX10_fingerprint_25o, mCk, mG0, mG1, mG2, mG3, mG4, mG5, mG6, mG7, mG8, mG9, mG10, mG11, mG12, mG13, mG14, mG15, mG16, mG17, mG18, mG19, mG20, mP2, mP5, mP6, mP7, mP9, mP11, mP14, mA1, mS1, mA2, mS2, mA3, mS3, mA4, mS4, mA5, mS5, mA6, mS6, mA7, mS7, mA8, mS8, mA9, mS9, mA10, mS10, mA11, mS11, mA12, mS12, mA13, mS13, mA14, mS14, zpush_v, zpush_n, gCk, gAi, gSi, gSz, gLi, gLq, ↓if_pos, ↓if_neg, hv0]
    refine (Eq.trans (by rfl) a).trans ?_
    simp (disch := (first | omega | assumption | (simp (disch := omega) only [Int32.lt_iff_toInt_lt, Int32.le_iff_toInt_le, ← Int32.toInt_inj, nI_toInt, zi_m1, zi_m2, zi_m3, zi_m9]; omega) | decide)) only [sX10_fingerprint_55, sX10_fingerprint_56i, sX10_fingerprint_56r, sX10_fingerprint_56z, sX10_fingerprint_56o, zpush_v, zpush_n, gCk, gAi, gSi, gSz, gLi, gLq, ↓if_pos, ↓if_neg]
    refine (Eq.trans (by rfl) b).trans ?_
    simp (disch := (first | omega | assumption | (simp (disch := omega) only [Int32.lt_iff_toInt_lt, Int32.le_iff_toInt_le, ← Int32.toInt_inj, nI_toInt, zi_m1, zi_m2, zi_m3, zi_m9]; omega) | decide)) only [sX10_fingerprint_86i, sX10_fingerprint_86r, sX10_fingerprint_86z, sX10_fingerprint_86o, sX10_fingerprint_89, zpush_v, zpush_n, gCk, gAi, gSi, gSz, gLi, gLq, ↓if_pos, ↓if_neg, nI_add]
    rfl
theorem l_fB1 {st : Stt} (hv : encV v st) (hw : WfSt st) {i : Nat} (hi : i < st.2.1.length) (s : Int64) : ∀ (m j : Nat), m + j = 11 → ∀ (sg lat hat nw hgh pl os : Nat → Int32) (sm sy : Int32), ∃ sg' lat' hat' nw' hgh' pl' os', gR sg' lat' hat' nw' (rdL st.1 (lnA st.2.1 i)) ∧ ∀ (l5 : Option Value) (Q : Option Value → Hp → Prop),
    WP 171 121 [some (.ref M), some (.long (fpG (fun w s => fpN s (lineNum st i w)) j s)), none, some (.int (nI i)), some (.int (nI j)), l5] [] (mkM h0 M v pa pm fl tx ty ct wr it im sg sm lat hat sy nw os hgh pl asd lks) Q = WP 171 149 [some (.ref M), some (.long (fpG (fun w s => fpN s (lineNum st i w)) 12 s)), none, some (.int (nI i)), some (.int (nI 12)), l5] [] (mkM h0 M v pa pm fl tx ty ct wr it im sg' (nI (rdL st.1 (lnA st.2.1 i)).2.1.length) lat' hat' (nI (rdL st.1 (lnA st.2.1 i)).2.2.length) nw' os' hgh' pl' asd lks) Q := by
  intro m
  induction m with
  | zero =>
    intro j hj sg lat hat nw hgh pl os sm sy
    have hj : j = 11 := by omega
    subst hj
    obtain ⟨sg1, lat1, hat1, nw1, hgh1, pl1, os1, q1, q2⟩ := m_tell (h0 := h0) (M := M) (v := v) (pa := pa) (pm := pm) (fl := fl) (tx := tx) (ty := ty) (ct := ct) (wr := wr) (it := it) (im := im) (sg := sg) (sm := sm) (lat := lat) (hat := hat) (sy := sy) (nw := nw) (os := os) (hgh := hgh) (pl := pl) (asd := asd) (lks := lks) hv hw hi (show 11 < 12 by omega)
    refine ⟨sg1, lat1, hat1, nw1, hgh1, pl1, os1, q1, fun l5 Q => ?_⟩
    rw [sX10_fingerprint_121]
    simp (disch := (first | omega | assumption | (simp (disch := omega) only [Int32.lt_iff_toInt_lt, Int32.le_iff_toInt_le, ← Int32.toInt_inj, nI_toInt, zi_m1, zi_m2, zi_m3, zi_m9]; omega) | decide)) only [sX10_fingerprint_123, sX10_fingerprint_125, sX10_fingerprint_128, sX10_fingerprint_131, sX10_fingerprint_132, sX10_fingerprint_133, sX10_fingerprint_134, sX10_fingerprint_135, sX10_fingerprint_137, sX10_fingerprint_140, sX10_fingerprint_141, sX10_fingerprint_142i, sX10_fingerprint_142r, sX10_fingerprint_142z, sX10_fingerprint_142o, sX10_fingerprint_143i, sX10_fingerprint_143r, sX10_fingerprint_143z, sX10_fingerprint_143o, sX10_fingerprint_146, mCk, mG0, mG1, mG2, mG3, mG4, mG5, mG6, mG7, mG8, mG9, mG10, mG11, mG12, mG13, mG14, mG15, mG16, mG17, mG18, mG19, mG20, mP2, mP5, mP6, mP7, mP9, mP11, mP14, mA1, mS1, mA2, mS2, mA3, mS3, mA4, mS4, mA5, mS5, mA6, mS6, mA7, mS7, mA8, mS8, mA9, mS9, mA10, mS10, mA11, mS11, mA12, mS12, mA13, mS13, mA14, mS14, zpush_v, zpush_n, gCk, gAi, gSi, gSz, gLi, gLq, ↓if_pos, ↓if_neg, q2, nI_add]
    rw [sX10_fingerprint_121]
    simp (disch := (first | omega | assumption | (simp (disch := omega) only [Int32.lt_iff_toInt_lt, Int32.le_iff_toInt_le, ← Int32.toInt_inj, nI_toInt, zi_m1, zi_m2, zi_m3, zi_m9]; omega) | decide)) only [sX10_fingerprint_123, sX10_fingerprint_125, mCk, mG0, mG1, mG2, mG3, mG4, mG5, mG6, mG7, mG8, mG9, mG10, mG11, mG12, mG13, mG14, mG15, mG16, mG17, mG18, mG19, mG20, mP2, mP5, mP6, mP7, mP9, mP11, mP14, mA1, mS1, mA2, mS2, mA3, mS3, mA4, mS4, mA5, mS5, mA6, mS6, mA7, mS7, mA8, mS8, mA9, mS9, mA10, mS10, mA11, mS11, mA12, mS12, mA13, mS13, mA14, mS14, zpush_v, zpush_n, gCk, gAi, gSi, gSz, gLi, gLq, ↓if_pos, ↓if_neg]
    rfl
  | succ m ih =>
    intro j hj sg lat hat nw hgh pl os sm sy
    obtain ⟨sg1, lat1, hat1, nw1, hgh1, pl1, os1, q1, q2⟩ := m_tell (h0 := h0) (M := M) (v := v) (pa := pa) (pm := pm) (fl := fl) (tx := tx) (ty := ty) (ct := ct) (wr := wr) (it := it) (im := im) (sg := sg) (sm := sm) (lat := lat) (hat := hat) (sy := sy) (nw := nw) (os := os) (hgh := hgh) (pl := pl) (asd := asd) (lks := lks) hv hw hi (show j < 12 by omega)
    obtain ⟨sg', lat', hat', nw', hgh', pl', os', r1, r2⟩ := ih (j + 1) (by omega) sg1 lat1 hat1 nw1 hgh1 pl1 os1 (nI (rdL st.1 (lnA st.2.1 i)).2.1.length) (nI (rdL st.1 (lnA st.2.1 i)).2.2.length)
    refine ⟨sg', lat', hat', nw', hgh', pl', os', r1, fun l5 Q => ?_⟩
    rw [← r2 l5 Q, sX10_fingerprint_121]
    simp (disch := (first | omega | assumption | (simp (disch := omega) only [Int32.lt_iff_toInt_lt, Int32.le_iff_toInt_le, ← Int32.toInt_inj, nI_toInt, zi_m1, zi_m2, zi_m3, zi_m9]; omega) | decide)) only [sX10_fingerprint_123, sX10_fingerprint_125, sX10_fingerprint_128, sX10_fingerprint_131, sX10_fingerprint_132, sX10_fingerprint_133, sX10_fingerprint_134, sX10_fingerprint_135, sX10_fingerprint_137, sX10_fingerprint_140, sX10_fingerprint_141, sX10_fingerprint_142i, sX10_fingerprint_142r, sX10_fingerprint_142z, sX10_fingerprint_142o, sX10_fingerprint_143i, sX10_fingerprint_143r, sX10_fingerprint_143z, sX10_fingerprint_143o, sX10_fingerprint_146, mCk, mG0, mG1, mG2, mG3, mG4, mG5, mG6, mG7, mG8, mG9, mG10, mG11, mG12, mG13, mG14, mG15, mG16, mG17, mG18, mG19, mG20, mP2, mP5, mP6, mP7, mP9, mP11, mP14, mA1, mS1, mA2, mS2, mA3, mS3, mA4, mS4, mA5, mS5, mA6, mS6, mA7, mS7, mA8, mS8, mA9, mS9, mA10, mS10, mA11, mS11, mA12, mS12, mA13, mS13, mA14, mS14, zpush_v, zpush_n, gCk, gAi, gSi, gSz, gLi, gLq, ↓if_pos, ↓if_neg, q2, nI_add]
    rfl
theorem l_fB2 {st : Stt} (hw : WfSt st) {i : Nat} (hi : i < st.2.1.length) (hr : gR sg lat hat nw (rdL st.1 (lnA st.2.1 i))) (s : Int64) (Q : Option Value → Hp → Prop) : ∀ (m k : Nat), m + k = 6 * (rdL st.1 (lnA st.2.1 i)).2.1.length → ∀ (l5 : Option Value),
    WP 171 152 [some (.ref M), some (.long (fF st i s k)), none, some (.int (nI i)), some (.int (nI k)), l5] [] (mkM h0 M v pa pm fl tx ty ct wr it im sg (nI (rdL st.1 (lnA st.2.1 i)).2.1.length) lat hat sy nw os hgh pl asd lks) Q = WP 171 185 [some (.ref M), some (.long (fpG (fpB st i) (rdL st.1 (lnA st.2.1 i)).2.1.length s)), none, some (.int (nI i)), some (.int (nI (6 * (rdL st.1 (lnA st.2.1 i)).2.1.length))), l5] [] (mkM h0 M v pa pm fl tx ty ct wr it im sg (nI (rdL st.1 (lnA st.2.1 i)).2.1.length) lat hat sy nw os hgh pl asd lks) Q := by
  have wl := hw.mem _ (lnA_mem hi)
  have h80 := (rdL_ok hw.1 wl.1).1
  intro m
  induction m with
  | zero =>
    intro k hk l5
    have hk : k = 6 * (rdL st.1 (lnA st.2.1 i)).2.1.length := by omega
    subst hk
    rw [sX10_fingerprint_152, fF_end]
    simp (disch := (first | omega | assumption | (simp (disch := omega) only [Int32.lt_iff_toInt_lt, Int32.le_iff_toInt_le, ← Int32.toInt_inj, nI_toInt, zi_m1, zi_m2, zi_m3, zi_m9]; omega) | decide)) only [sX10_fingerprint_154, sX10_fingerprint_156, sX10_fingerprint_157, sX10_fingerprint_160, sX10_fingerprint_161, mCk, mG0, mG1, mG2, mG3, mG4, mG5, mG6, mG7, mG8, mG9, mG10, mG11, mG12, mG13, mG14, mG15, mG16, mG17, mG18, mG19, mG20, mP2, mP5, mP6, mP7, mP9, mP11, mP14, mA1, mS1, mA2, mS2, mA3, mS3, mA4, mS4, mA5, mS5, mA6, mS6, mA7, mS7, mA8, mS8, mA9, mS9, mA10, mS10, mA11, mS11, mA12, mS12, mA13, mS13, mA14, mS14, zpush_v, zpush_n, gCk, gAi, gSi, gSz, gLi, gLq, ↓if_pos, ↓if_neg, nI_mul]
  | succ m ih =>
    intro k hk l5
    have e := hr.at (k := k / 6) (w := k % 6) (by omega) (by omega)
    rw [show 6 * (k / 6) + k % 6 = k by omega] at e
    rw [← ih (k + 1) (by omega) l5, ← fF_step, sX10_fingerprint_152]
    simp (disch := (first | omega | assumption | (simp (disch := omega) only [Int32.lt_iff_toInt_lt, Int32.le_iff_toInt_le, ← Int32.toInt_inj, nI_toInt, zi_m1, zi_m2, zi_m3, zi_m9]; omega) | decide)) only [sX10_fingerprint_154, sX10_fingerprint_156, sX10_fingerprint_157, sX10_fingerprint_160, sX10_fingerprint_161, sX10_fingerprint_164, sX10_fingerprint_167, sX10_fingerprint_168, sX10_fingerprint_169, sX10_fingerprint_170, sX10_fingerprint_173, sX10_fingerprint_175, sX10_fingerprint_176, sX10_fingerprint_177, sX10_fingerprint_178i, sX10_fingerprint_178r, sX10_fingerprint_178z, sX10_fingerprint_178o, sX10_fingerprint_179i, sX10_fingerprint_179r, sX10_fingerprint_179z, sX10_fingerprint_179o, sX10_fingerprint_182, mCk, mG0, mG1, mG2, mG3, mG4, mG5, mG6, mG7, mG8, mG9, mG10, mG11, mG12, mG13, mG14, mG15, mG16, mG17, mG18, mG19, mG20, mP2, mP5, mP6, mP7, mP9, mP11, mP14, mA1, mS1, mA2, mS2, mA3, mS3, mA4, mS4, mA5, mS5, mA6, mS6, mA7, mS7, mA8, mS8, mA9, mS9, mA10, mS10, mA11, mS11, mA12, mS12, mA13, mS13, mA14, mS14, zpush_v, zpush_n, gCk, gAi, gSi, gSz, gLi, gLq, ↓if_pos, ↓if_neg, nI_mul, e, nI_add]
    rfl
theorem l_fB4 {st : Stt} (hv : encV v st) (hw : WfSt st) {i : Nat} (hi : i < st.2.1.length) (hr : gR sg lat hat nw (rdL st.1 (lnA st.2.1 i))) {y : Nat} (hy : y < (rdL st.1 (lnA st.2.1 i)).2.2.length) (s : Int64) (Q : Option Value → Hp → Prop) : ∀ (m j : Nat), m + j = 3 →
    WP 171 200 [some (.ref M), some (.long (fpG (fun w s => fpN s (syW (lnA st.2.1 i).1 (rdL st.1 (lnA st.2.1 i)) y w)) j s)), none, some (.int (nI i)), some (.int (nI y)), some (.int (nI j))] [] (mkM h0 M v pa pm fl tx ty ct wr it im sg sm lat hat sy nw os hgh pl asd lks) Q = WP 171 229 [some (.ref M), some (.long (fpC st i y s)), none, some (.int (nI i)), some (.int (nI y)), some (.int (nI 3))] [] (mkM h0 M v pa pm fl tx ty ct wr it im sg sm lat hat sy nw os hgh pl asd lks) Q := by
  intro m
  induction m with
  | zero =>
    intro j hj
    have hj : j = 3 := by omega
    subst hj
    rw [sX10_fingerprint_200]
    simp (disch := (first | omega | assumption | (simp (disch := omega) only [Int32.lt_iff_toInt_lt, Int32.le_iff_toInt_le, ← Int32.toInt_inj, nI_toInt, zi_m1, zi_m2, zi_m3, zi_m9]; omega) | decide)) only [sX10_fingerprint_202, sX10_fingerprint_203, zpush_v, zpush_n, gCk, gAi, gSi, gSz, gLi, gLq, ↓if_pos, ↓if_neg]
  | succ m ih =>
    intro j hj
    rw [← ih (j + 1) (by omega), sX10_fingerprint_200]
    simp (disch := (first | omega | assumption | (simp (disch := omega) only [Int32.lt_iff_toInt_lt, Int32.le_iff_toInt_le, ← Int32.toInt_inj, nI_toInt, zi_m1, zi_m2, zi_m3, zi_m9]; omega) | decide)) only [sX10_fingerprint_202, sX10_fingerprint_203, sX10_fingerprint_206, sX10_fingerprint_209, sX10_fingerprint_210, sX10_fingerprint_211, sX10_fingerprint_212, sX10_fingerprint_213, sX10_fingerprint_215, sX10_fingerprint_217, sX10_fingerprint_220, sX10_fingerprint_221, sX10_fingerprint_222i, sX10_fingerprint_222r, sX10_fingerprint_222z, sX10_fingerprint_222o, sX10_fingerprint_223i, sX10_fingerprint_223r, sX10_fingerprint_223z, sX10_fingerprint_223o, sX10_fingerprint_226, mCk, mG0, mG1, mG2, mG3, mG4, mG5, mG6, mG7, mG8, mG9, mG10, mG11, mG12, mG13, mG14, mG15, mG16, mG17, mG18, mG19, mG20, mP2, mP5, mP6, mP7, mP9, mP11, mP14, mA1, mS1, mA2, mS2, mA3, mS3, mA4, mS4, mA5, mS5, mA6, mS6, mA7, mS7, mA8, mS8, mA9, mS9, mA10, mS10, mA11, mS11, mA12, mS12, mA13, mS13, mA14, mS14, zpush_v, zpush_n, gCk, gAi, gSi, gSz, gLi, gLq, ↓if_pos, ↓if_neg, m_sylTold hv hw hi hr hy (show j < 3 by omega), nI_add]
    rfl
theorem l_fB3 {st : Stt} (hv : encV v st) (hw : WfSt st) {i : Nat} (hi : i < st.2.1.length) (hr : gR sg lat hat nw (rdL st.1 (lnA st.2.1 i))) (s : Int64) (Q : Option Value → Hp → Prop) : ∀ (m y : Nat), m + y = (rdL st.1 (lnA st.2.1 i)).2.2.length → ∀ (l5 : Option Value), ∃ l5',
    WP 171 188 [some (.ref M), some (.long (fpG (fpC st i) y s)), none, some (.int (nI i)), some (.int (nI y)), l5] [] (mkM h0 M v pa pm fl tx ty ct wr it im sg sm lat hat (nI (rdL st.1 (lnA st.2.1 i)).2.2.length) nw os hgh pl asd lks) Q = WP 171 235 [some (.ref M), some (.long (fpG (fpC st i) (rdL st.1 (lnA st.2.1 i)).2.2.length s)), none, some (.int (nI i)), some (.int (nI (rdL st.1 (lnA st.2.1 i)).2.2.length)), l5'] [] (mkM h0 M v pa pm fl tx ty ct wr it im sg sm lat hat (nI (rdL st.1 (lnA st.2.1 i)).2.2.length) nw os hgh pl asd lks) Q := by
  have wl := hw.mem _ (lnA_mem hi)
  have h20 := (rdL_ok hw.1 wl.1).2.1
  intro m
  induction m with
  | zero =>
    intro y hy l5
    have hy : y = (rdL st.1 (lnA st.2.1 i)).2.2.length := by omega
    subst hy
    refine ⟨l5, ?_⟩
    rw [sX10_fingerprint_188]
    simp (disch := (first | omega | assumption | (simp (disch := omega) only [Int32.lt_iff_toInt_lt, Int32.le_iff_toInt_le, ← Int32.toInt_inj, nI_toInt, zi_m1, zi_m2, zi_m3, zi_m9]; omega) | decide)) only [sX10_fingerprint_190, sX10_fingerprint_191, sX10_fingerprint_194, mCk, mG0, mG1, mG2, mG3, mG4, mG5, mG6, mG7, mG8, mG9, mG10, mG11, mG12, mG13, mG14, mG15, mG16, mG17, mG18, mG19, mG20, mP2, mP5, mP6, mP7, mP9, mP11, mP14, mA1, mS1, mA2, mS2, mA3, mS3, mA4, mS4, mA5, mS5, mA6, mS6, mA7, mS7, mA8, mS8, mA9, mS9, mA10, mS10, mA11, mS11, mA12, mS12, mA13, mS13, mA14, mS14, zpush_v, zpush_n, gCk, gAi, gSi, gSz, gLi, gLq, ↓if_pos, ↓if_neg]
  | succ m ih =>
    intro y hy l5
    obtain ⟨l5', e⟩ := ih (y + 1) (by omega) (some (.int (nI 3)))
    refine ⟨l5', ?_⟩
    have b := l_fB4 (h0 := h0) (M := M) (v := v) (pa := pa) (pm := pm) (fl := fl) (tx := tx) (ty := ty) (ct := ct) (wr := wr) (it := it) (im := im) (sg := sg) (sm := sm) (lat := lat) (hat := hat) (sy := nI (rdL st.1 (lnA st.2.1 i)).2.2.length) (nw := nw) (os := os) (hgh := hgh) (pl := pl) (asd := asd) (lks := lks) hv hw hi hr (show y < (rdL st.1 (lnA st.2.1 i)).2.2.length by omega) (fpG (fpC st i) y s) Q 3 0 rfl
    rw [← e, sX10_fingerprint_188]
    simp (disch := (first | omega | assumption | (simp (disch := omega) only [Int32.lt_iff_toInt_lt, Int32.le_iff_toInt_le, ← Int32.toInt_inj, nI_toInt, zi_m1, zi_m2, zi_m3, zi_m9]; omega) | decide)) only [sX10_fingerprint_190, sX10_fingerprint_191, sX10_fingerprint_194, sX10_fingerprint_197, sX10_fingerprint_198i, sX10_fingerprint_198r, sX10_fingerprint_198z, sX10_fingerprint_198o, mCk, mG0, mG1, mG2, mG3, mG4, mG5, mG6, mG7, mG8, mG9, mG10, mG11, mG12, mG13, mG14, mG15, mG16, mG17, mG18, mG19, mG20, mP2, mP5, mP6, mP7, mP9, mP11, mP14, mA1, mS1, mA2, mS2, mA3, mS3, mA4, mS4, mA5, mS5, mA6, mS6, mA7, mS7, mA8, mS8, mA9, mS9, mA10, mS10, mA11, mS11, mA12, mS12, mA13, mS13, mA14, mS14, zpush_v, zpush_n, gCk, gAi, gSi, gSz, gLi, gLq, ↓if_pos, ↓if_neg]
    refine (Eq.trans (by rfl) b).trans ?_
    simp (disch := (first | omega | assumption | (simp (disch := omega) only [Int32.lt_iff_toInt_lt, Int32.le_iff_toInt_le, ← Int32.toInt_inj, nI_toInt, zi_m1, zi_m2, zi_m3, zi_m9]; omega) | decide)) only [sX10_fingerprint_229i, sX10_fingerprint_229r, sX10_fingerprint_229z, sX10_fingerprint_229o, sX10_fingerprint_232, zpush_v, zpush_n, gCk, gAi, gSi, gSz, gLi, gLq, ↓if_pos, ↓if_neg, nI_add]
    rfl
theorem l_fB {st : Stt} (hv : encV v st) (hw : WfSt st) (s : Int64) : ∀ (m i : Nat), m + i = st.2.1.length → ∀ (sg lat hat nw hgh pl os : Nat → Int32) (sm sy : Int32), ∃ sg' lat' hat' nw' hgh' pl' os' sm' sy', ∀ (l4 l5 : Option Value) (Q : Option Value → Hp → Prop), ∃ l4' l5',
    WP 171 108 [some (.ref M), some (.long (fpG (fpLn st) i s)), none, some (.int (nI i)), l4, l5] [] (mkM h0 M v pa pm fl tx ty ct wr it im sg sm lat hat sy nw os hgh pl asd lks) Q = WP 171 241 [some (.ref M), some (.long (fpG (fpLn st) st.2.1.length s)), none, some (.int (nI st.2.1.length)), l4', l5'] [] (mkM h0 M v pa pm fl tx ty ct wr it im sg' sm' lat' hat' sy' nw' os' hgh' pl' asd lks) Q := by
  have h16 := hw.2.1.1
  have hv1 := hv.2.1
  intro m
  induction m with
  | zero =>
    intro i hi sg lat hat nw hgh pl os sm sy
    have hi : i = st.2.1.length := by omega
    subst hi
    refine ⟨sg, lat, hat, nw, hgh, pl, os, sm, sy, fun l4 l5 Q => ⟨l4, l5, ?_⟩⟩
    rw [sX10_fingerprint_108]
    simp (disch := (first | omega | assumption | (simp (disch := omega) only [Int32.lt_iff_toInt_lt, Int32.le_iff_toInt_le, ← Int32.toInt_inj, nI_toInt, zi_m1, zi_m2, zi_m3, zi_m9]; omega) | decide)) only [sX10_fingerprint_109, sX10_fingerprint_110, sX10_fingerprint_113, sX10_fingerprint_114, sX10_fingerprint_115, mCk, mG0, mG1, mG2, mG3, mG4, mG5, mG6, mG7, mG8, mG9, mG10, mG11, mG12, mG13, mG14, mG15, mG16, mG17, mG18, mG19, mG20, mP2, mP5, mP6, mP7, mP9, mP11, mP14, mA1, mS1, mA2, mS2, mA3, mS3, mA4, mS4, mA5, mS5, mA6, mS6, mA7, mS7, mA8, mS8, mA9, mS9, mA10, mS10, mA11, mS11, mA12, mS12, mA13, mS13, mA14, mS14, zpush_v, zpush_n, gCk, gAi, gSi, gSz, gLi, gLq, ↓if_pos, ↓if_neg, hv1]
  | succ m ih =>
    intro i hi sg lat hat nw hgh pl os sm sy
    have hi2 : i < st.2.1.length := by omega
    obtain ⟨sg1, lat1, hat1, nw1, hgh1, pl1, os1, g1, a⟩ := l_fB1 (h0 := h0) (M := M) (v := v) (pa := pa) (pm := pm) (fl := fl) (tx := tx) (ty := ty) (ct := ct) (wr := wr) (it := it) (im := im) (asd := asd) (lks := lks) hv hw hi2 (fpG (fpLn st) i s) 11 0 rfl sg lat hat nw hgh pl os sm sy
    obtain ⟨sg', lat', hat', nw', hgh', pl', os', sm', sy', E⟩ := ih (i + 1) (by omega) sg1 lat1 hat1 nw1 hgh1 pl1 os1 (nI (rdL st.1 (lnA st.2.1 i)).2.1.length) (nI (rdL st.1 (lnA st.2.1 i)).2.2.length)
    refine ⟨sg', lat', hat', nw', hgh', pl', os', sm', sy', fun l4 l5 Q => ?_⟩
    have a := a l5 Q
    have b := l_fB2 (h0 := h0) (M := M) (v := v) (pa := pa) (pm := pm) (fl := fl) (tx := tx) (ty := ty) (ct := ct) (wr := wr) (it := it) (im := im) (sg := sg1) (lat := lat1) (hat := hat1) (sy := nI (rdL st.1 (lnA st.2.1 i)).2.2.length) (nw := nw1) (os := os1) (hgh := hgh1) (pl := pl1) (asd := asd) (lks := lks) hw hi2 g1 (fpG (fun w s => fpN s (lineNum st i w)) 12 (fpG (fpLn st) i s)) Q _ 0 rfl l5
    obtain ⟨l5', c⟩ := l_fB3 (h0 := h0) (M := M) (v := v) (pa := pa) (pm := pm) (fl := fl) (tx := tx) (ty := ty) (ct := ct) (wr := wr) (it := it) (im := im) (sg := sg1) (sm := nI (rdL st.1 (lnA st.2.1 i)).2.1.length) (lat := lat1) (hat := hat1) (nw := nw1) (os := os1) (hgh := hgh1) (pl := pl1) (asd := asd) (lks := lks) hv hw hi2 g1 (fpG (fpB st i) (rdL st.1 (lnA st.2.1 i)).2.1.length (fpG (fun w s => fpN s (lineNum st i w)) 12 (fpG (fpLn st) i s))) Q _ 0 rfl l5
    obtain ⟨l4'', l5'', e⟩ := E (some (.int (nI (rdL st.1 (lnA st.2.1 i)).2.2.length))) l5' Q
    refine ⟨l4'', l5'', ?_⟩
    rw [← e, sX10_fingerprint_108]
    simp (disch := (first | omega | assumption | (simp (disch := omega) only [Int32.lt_iff_toInt_lt, Int32.le_iff_toInt_le, ← Int32.toInt_inj, nI_toInt, zi_m1, zi_m2, zi_m3, zi_m9]; omega) | decide)) only [sX10_fingerprint_109, sX10_fingerprint_110, sX10_fingerprint_113, sX10_fingerprint_114, sX10_fingerprint_115, sX10_fingerprint_118, sX10_fingerprint_119i, sX10_fingerprint_119r, sX10_fingerprint_119z, sX10_fingerprint_119o, mCk, mG0, mG1, mG2, mG3, mG4, mG5, mG6, mG7, mG8, mG9, mG10, mG11, mG12, mG13, mG14, mG15, mG16, mG17, mG18, mG19, mG20, mP2, mP5, mP6, mP7, mP9, mP11, mP14, mA1, mS1, mA2, mS2, mA3, mS3, mA4, mS4, mA5, mS5, mA6, mS6, mA7, mS7, mA8, mS8, mA9, mS9, mA10, mS10, mA11, mS11, mA12, mS12, mA13, mS13, mA14, mS14, zpush_v, zpush_n, gCk, gAi, gSi, gSz, gLi, gLq, ↓if_pos, ↓if_neg, hv1]
    refine (Eq.trans (by rfl) a).trans ?_
    simp (disch := (first | omega | assumption | (simp (disch := omega) only [Int32.lt_iff_toInt_lt, Int32.le_iff_toInt_le, ← Int32.toInt_inj, nI_toInt, zi_m1, zi_m2, zi_m3, zi_m9]; omega) | decide)) only [sX10_fingerprint_149, sX10_fingerprint_150i, sX10_fingerprint_150r, sX10_fingerprint_150z, sX10_fingerprint_150o, zpush_v, zpush_n, gCk, gAi, gSi, gSz, gLi, gLq, ↓if_pos, ↓if_neg]
    refine (Eq.trans (by rfl) b).trans ?_
    simp (disch := (first | omega | assumption | (simp (disch := omega) only [Int32.lt_iff_toInt_lt, Int32.le_iff_toInt_le, ← Int32.toInt_inj, nI_toInt, zi_m1, zi_m2, zi_m3, zi_m9]; omega) | decide)) only [sX10_fingerprint_185, sX10_fingerprint_186i, sX10_fingerprint_186r, sX10_fingerprint_186z, sX10_fingerprint_186o, zpush_v, zpush_n, gCk, gAi, gSi, gSz, gLi, gLq, ↓if_pos, ↓if_neg]
    refine (Eq.trans (by rfl) c).trans ?_
    simp (disch := (first | omega | assumption | (simp (disch := omega) only [Int32.lt_iff_toInt_lt, Int32.le_iff_toInt_le, ← Int32.toInt_inj, nI_toInt, zi_m1, zi_m2, zi_m3, zi_m9]; omega) | decide)) only [sX10_fingerprint_235i, sX10_fingerprint_235r, sX10_fingerprint_235z, sX10_fingerprint_235o, sX10_fingerprint_238, zpush_v, zpush_n, gCk, gAi, gSi, gSz, gLi, gLq, ↓if_pos, ↓if_neg, nI_add]
    rfl
theorem y_fingerprint (hr : rM h M p) (hw : WfP p) : ∃ h', Same h h' M 15 ∧ rM h' M p ∧ ∀ Q : Option Value → Hp → Prop, WPm 171 [.ref M] h Q = Q (some (.long (qFp p))) h' := by
  obtain ⟨h0, v, pa, fl, tx, it, sg, lat, hat, nw, os, hgh, pl, asd, lks, ct, wr, im, sm, sy, rfl, hv, hp, ht⟩ := id hr
  have hv0 := hv.1.1
  have hv1 := hv.2.1
  obtain ⟨sg1, lat1, hat1, nw1, hgh1, pl1, os1, sm1, sy1, B⟩ := l_fB (h0 := h0) (M := M) (v := v) (pa := pa) (pm := nI p.2.1.length) (fl := fl) (tx := tx) (ty := nI p.2.2.length) (ct := ct) (wr := wr) (it := it) (im := im) (asd := asd) (lks := lks) hv hw.1 (fpN (fpG (fpS p.1.1) p.1.1.1 (fpN 233 (nI p.1.1.1))) (nI p.1.2.1.length)) _ 0 rfl sg lat hat nw hgh pl os sm sy
  obtain ⟨fl', sg', lat', hat', nw', asd', lks', sm', sy', E⟩ := m_unlikeMany (h0 := h0) (M := M) (v := v) (pa := pa) (pm := nI p.2.1.length) (fl := fl) (tx := tx) (ty := nI p.2.2.length) (ct := ct) (wr := wr) (it := it) (im := im) (sg := sg1) (sm := sm1) (lat := lat1) (hat := hat1) (sy := sy1) (nw := nw1) (os := os1) (hgh := hgh1) (pl := pl1) (asd := asd) (lks := lks) hv hw.1
  have C := fun Q => m_crowded (h0 := h0) (M := M) (v := v) (pa := pa) (pm := nI p.2.1.length) (fl := fl) (tx := tx) (ty := nI p.2.2.length) (ct := ct) (wr := wr) (it := it) (im := im) (sg := sg1) (sm := sm1) (lat := lat1) (hat := hat1) (sy := sy1) (nw := nw1) (os := os1) (hgh := hgh1) (pl := pl1) (asd := asd) (lks := lks) hv hw.1 Q
  refine ⟨(mkM h0 M v pa (nI p.2.1.length) fl' tx (nI p.2.2.length) ct wr it im sg' sm' lat' hat' sy' nw' os1 hgh1 pl1 asd' lks'), mkM_same, rM.mk hv hp ht, fun Q => ?_⟩
  obtain ⟨l4', a⟩ := l_fA (h0 := h0) (M := M) (v := v) (pa := pa) (pm := nI p.2.1.length) (fl := fl) (tx := tx) (ty := nI p.2.2.length) (ct := ct) (wr := wr) (it := it) (im := im) (sg := sg) (sm := sm) (lat := lat) (hat := hat) (sy := sy) (nw := nw) (os := os) (hgh := hgh) (pl := pl) (asd := asd) (lks := lks) hv.1 hw.1.1 (fpN 233 (nI p.1.1.1)) Q _ 0 rfl none none
  obtain ⟨l4'', l5'', b⟩ := B l4' none Q
  rw [eX10_fingerprint]
  simp (disch := (first | omega | assumption | (simp (disch := omega) only [Int32.lt_iff_toInt_lt, Int32.le_iff_toInt_le, ← Int32.toInt_inj, nI_toInt, zi_m1, zi_m2, zi_m3, zi_m9]; omega) | decide)) only [sX10_fingerprint_0, sX10_fingerprint_3, sX10_fingerprint_4, sX10_fingerprint_7, sX10_fingerprint_8, sX10_fingerprint_9, sX10_fingerprint_10, sX10_fingerprint_11i, sX10_fingerprint_11r, sX10_fingerprint_11z, sX10_fingerprint_11o, sX10_fingerprint_12, sX10_fingerprint_13i, sX10_fingerprint_13r, sX10_fingerprint_13z, sX10_fingerprint_13o, mCk, mG0, mG1, mG2, mG3, mG4, mG5, mG6, mG7, mG8, mG9, mG10, mG11, mG12, mG13, mG14, mG15, mG16, mG17, mG18, mG19, mG20, mP2, mP5, mP6, mP7, mP9, mP11, mP14, mA1, mS1, mA2, mS2, mA3, mS3, mA4, mS4, mA5, mS5, mA6, mS6, mA7, mS7, mA8, mS8, mA9, mS9, mA10, mS10, mA11, mS11, mA12, mS12, mA13, mS13, mA14, mS14, zpush_v, zpush_n, gCk, gAi, gSi, gSz, gLi, gLq, ↓if_pos, ↓if_neg, hv0]
  refine (Eq.trans (by rfl) a).trans ?_
  simp (disch := (first | omega | assumption | (simp (disch := omega) only [Int32.lt_iff_toInt_lt, Int32.le_iff_toInt_le, ← Int32.toInt_inj, nI_toInt, zi_m1, zi_m2, zi_m3, zi_m9]; omega) | decide)) only [sX10_fingerprint_92, sX10_fingerprint_95, sX10_fingerprint_96, sX10_fingerprint_97, sX10_fingerprint_98, sX10_fingerprint_101, sX10_fingerprint_102, sX10_fingerprint_103, sX10_fingerprint_104, sX10_fingerprint_105i, sX10_fingerprint_105r, sX10_fingerprint_105z, sX10_fingerprint_105o, sX10_fingerprint_106, sX10_fingerprint_107i, sX10_fingerprint_107r, sX10_fingerprint_107z, sX10_fingerprint_107o, mCk, mG0, mG1, mG2, mG3, mG4, mG5, mG6, mG7, mG8, mG9, mG10, mG11, mG12, mG13, mG14, mG15, mG16, mG17, mG18, mG19, mG20, mP2, mP5, mP6, mP7, mP9, mP11, mP14, mA1, mS1, mA2, mS2, mA3, mS3, mA4, mS4, mA5, mS5, mA6, mS6, mA7, mS7, mA8, mS8, mA9, mS9, mA10, mS10, mA11, mS11, mA12, mS12, mA13, mS13, mA14, mS14, zpush_v, zpush_n, gCk, gAi, gSi, gSz, gLi, gLq, ↓if_pos, ↓if_neg, hv1]
  refine (Eq.trans (by rfl) b).trans ?_
  simp (disch := (first | omega | assumption | (simp (disch := omega) only [Int32.lt_iff_toInt_lt, Int32.le_iff_toInt_le, ← Int32.toInt_inj, nI_toInt, zi_m1, zi_m2, zi_m3, zi_m9]; omega) | decide)) only [sX10_fingerprint_241, sX10_fingerprint_244, sX10_fingerprint_245, sX10_fingerprint_246, sX10_fingerprint_247, sX10_fingerprint_250, sX10_fingerprint_251, sX10_fingerprint_252i, sX10_fingerprint_252r, sX10_fingerprint_252z, sX10_fingerprint_252o, sX10_fingerprint_253, sX10_fingerprint_256, sX10_fingerprint_257, sX10_fingerprint_258, sX10_fingerprint_259, sX10_fingerprint_262, sX10_fingerprint_263, sX10_fingerprint_264, mCk, mG0, mG1, mG2, mG3, mG4, mG5, mG6, mG7, mG8, mG9, mG10, mG11, mG12, mG13, mG14, mG15, mG16, mG17, mG18, mG19, mG20, mP2, mP5, mP6, mP7, mP9, mP11, mP14, mA1, mS1, mA2, mS2, mA3, mS3, mA4, mS4, mA5, mS5, mA6, mS6, mA7, mS7, mA8, mS8, mA9, mS9, mA10, mS10, mA11, mS11, mA12, mS12, mA13, mS13, mA14, mS14, zpush_v, zpush_n, gCk, gAi, gSi, gSz, gLi, gLq, ↓if_pos, ↓if_neg, C, E]
  rfl
end MP
