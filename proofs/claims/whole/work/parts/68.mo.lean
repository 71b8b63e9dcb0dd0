/-! the model: unlike -/
def lkF (lks sg : Nat → Int32) (i : Nat) : Nat → Int32 := fun q => if q < i then sg (6 * (q / 4) + 1 + q % 4) else lks q
theorem lkF_0 (lks sg : Nat → Int32) : lkF lks sg 0 = lks := by funext q; exact if_neg (by omega)
theorem lkF_step (lks sg : Nat → Int32) (i : Nat) : upd (lkF lks sg i) i (sg (6 * (i / 4) + 1 + i % 4)) = lkF lks sg (i + 1) := by
  funext q
  simp only [lkF, upd]
  by_cases c : q = i
  · subst c
    rw [if_pos rfl, if_pos (by omega)]
  · rw [if_neg c]
    by_cases d : q < i
    · rw [if_pos d, if_pos (by omega)]
    · rw [if_neg d, if_neg (by omega)]
section MO
variable {h0 : Hp} {M : Nat} {v pa fl tx it sg lat hat nw os hgh pl asd lks : Nat → Int32} {pm ty ct wr im sm sy : Int32}
variable {p : PS} {h : Hp}
theorem l_un_a (Q : Option Value → Hp → Prop) : ∀ (m i : Nat), m + i = 2760 → ∀ (l2 l3 l4 l5 l6 : Option Value), WP 168 2 [some (.ref M), some (.int (nI i)), l2, l3, l4, l5, l6] [] (mkM h0 M v pa pm fl tx ty ct wr it im sg sm lat hat sy nw os hgh pl (pst asd v 0 i) lks) Q = WP 168 27 [some (.ref M), some (.int (nI 2760)), l2, l3, l4, l5, l6] [] (mkM h0 M v pa pm fl tx ty ct wr it im sg sm lat hat sy nw os hgh pl (pst asd v 0 2760) lks) Q := by
  intro m
  induction m with
  | zero =>
    intro i hi l2 l3 l4 l5 l6
    have hi : i = 2760 := by omega
    subst hi
    rw [sX10_unlikeMany_2]
    simp (disch := (first | omega | assumption | (simp (disch := omega) only [Int32.lt_iff_toInt_lt, Int32.le_iff_toInt_le, ← Int32.toInt_inj, nI_toInt, zi_m1, zi_m2, zi_m3, zi_m9]; omega) | decide)) only [sX10_unlikeMany_3, sX10_unlikeMany_6, zpush_v, zpush_n, gCk, gAi, gSi, gSz, gLi, gLq, ↓if_pos, ↓if_neg]
  | succ m ih =>
    intro i hi l2 l3 l4 l5 l6
    have e := pst_step asd v 0 i
    rw [Nat.zero_add] at e
    rw [← ih (i + 1) (by omega), sX10_unlikeMany_2]
    simp (disch := (first | omega | assumption | (simp (disch := omega) only [Int32.lt_iff_toInt_lt, Int32.le_iff_toInt_le, ← Int32.toInt_inj, nI_toInt, zi_m1, zi_m2, zi_m3, zi_m9]; omega) | decide)) only [sX10_unlikeMany_3, sX10_unlikeMany_6, sX10_unlikeMany_9, sX10_unlikeMany_10, sX10_unlikeMany_13, sX10_unlikeMany_14, sX10_unlikeMany_15, sX10_unlikeMany_18, sX10_unlikeMany_19, sX10_unlikeMany_20, sX10_unlikeMany_21i, sX10_unlikeMany_21r, sX10_unlikeMany_21z, sX10_unlikeMany_21o, sX10_unlikeMany_24, mCk, mG0, mG1, mG2, mG3, mG4, mG5, mG6, mG7, mG8, mG9, mG10, mG11, mG12, mG13, mG14, mG15, mG16, mG17, mG18, mG19, mG20, mP2, mP5, mP6, mP7, mP9, mP11, mP14, mA1, mS1, mA2, mS2, mA3, mS3, mA4, mS4, mA5, mS5, mA6, mS6, mA7, mS7, mA8, mS8, mA9, mS9, mA10, mS10, mA11, mS11, mA12, mS12, mA13, mS13, mA14, mS14, zpush_v, zpush_n, gCk, gAi, gSi, gSz, gLi, gLq, ↓if_pos, ↓if_neg, nI_add, e]
theorem l_un_b {n : Nat} (hn : n ≤ 80) (x1 x2 : Int32) (Q : Option Value → Hp → Prop) : ∀ (m i : Nat), m + i = 4 * n → ∀ (l4 l5 l6 : Option Value), WP 168 48 [some (.ref M), some (.int x1), some (.int x2), some (.int (nI i)), l4, l5, l6] [] (mkM h0 M v pa pm fl tx ty ct wr it im sg (nI n) lat hat sy nw os hgh pl asd (lkF lks sg i)) Q = WP 168 87 [some (.ref M), some (.int x1), some (.int x2), some (.int (nI (4 * n))), l4, l5, l6] [] (mkM h0 M v pa pm fl tx ty ct wr it im sg (nI n) lat hat sy nw os hgh pl asd (lkF lks sg (4 * n))) Q := by
  intro m
  induction m with
  | zero =>
    intro i hi l4 l5 l6
    have hi : i = 4 * n := by omega
    subst hi
    rw [sX10_unlikeMany_48]
    simp (disch := (first | omega | assumption | (simp (disch := omega) only [Int32.lt_iff_toInt_lt, Int32.le_iff_toInt_le, ← Int32.toInt_inj, nI_toInt, zi_m1, zi_m2, zi_m3, zi_m9]; omega) | decide)) only [sX10_unlikeMany_49, sX10_unlikeMany_50, sX10_unlikeMany_51, sX10_unlikeMany_54, sX10_unlikeMany_55, mCk, mG0, mG1, mG2, mG3, mG4, mG5, mG6, mG7, mG8, mG9, mG10, mG11, mG12, mG13, mG14, mG15, mG16, mG17, mG18, mG19, mG20, mP2, mP5, mP6, mP7, mP9, mP11, mP14, mA1, mS1, mA2, mS2, mA3, mS3, mA4, mS4, mA5, mS5, mA6, mS6, mA7, mS7, mA8, mS8, mA9, mS9, mA10, mS10, mA11, mS11, mA12, mS12, mA13, mS13, mA14, mS14, zpush_v, zpush_n, gCk, gAi, gSi, gSz, gLi, gLq, ↓if_pos, ↓if_neg, nI_mul]
  | succ m ih =>
    intro i hi l4 l5 l6
    rw [← ih (i + 1) (by omega), sX10_unlikeMany_48]
    simp (disch := (first | omega | assumption | (simp (disch := omega) only [Int32.lt_iff_toInt_lt, Int32.le_iff_toInt_le, ← Int32.toInt_inj, nI_toInt, zi_m1, zi_m2, zi_m3, zi_m9]; omega) | decide)) only [sX10_unlikeMany_49, sX10_unlikeMany_50, sX10_unlikeMany_51, sX10_unlikeMany_54, sX10_unlikeMany_55, sX10_unlikeMany_58, sX10_unlikeMany_59, sX10_unlikeMany_62, sX10_unlikeMany_63, sX10_unlikeMany_64, sX10_unlikeMany_67, sX10_unlikeMany_69, sX10_unlikeMany_70, sX10_unlikeMany_71, sX10_unlikeMany_72, sX10_unlikeMany_73, sX10_unlikeMany_74, sX10_unlikeMany_75, sX10_unlikeMany_76, sX10_unlikeMany_77, sX10_unlikeMany_78, sX10_unlikeMany_79, sX10_unlikeMany_80, sX10_unlikeMany_81i, sX10_unlikeMany_81r, sX10_unlikeMany_81z, sX10_unlikeMany_81o, sX10_unlikeMany_84, mCk, mG0, mG1, mG2, mG3, mG4, mG5, mG6, mG7, mG8, mG9, mG10, mG11, mG12, mG13, mG14, mG15, mG16, mG17, mG18, mG19, mG20, mP2, mP5, mP6, mP7, mP9, mP11, mP14, mA1, mS1, mA2, mS2, mA3, mS3, mA4, mS4, mA5, mS5, mA6, mS6, mA7, mS7, mA8, mS8, mA9, mS9, mA10, mS10, mA11, mS11, mA12, mS12, mA13, mS13, mA14, mS14, zpush_v, zpush_n, gCk, gAi, gSi, gSz, gLi, gLq, ↓if_pos, ↓if_neg, nI_mul, nI_div, nI_rem2, nI_add, lkF_step]
theorem l_un_c {n s : Nat} (hn : n ≤ 80) (hs : s < n) (he : ∀ p, p < 4 → lks (4 * s + p) = sg (6 * s + 1 + p)) (x1 x2 x3 : Int32) (Q : Option Value → Hp → Prop) : ∀ (m i : Nat), m + i = 4 → WP 168 115 [some (.ref M), some (.int x1), some (.int x2), some (.int x3), some (.int (nI s)), some (.int (nI 0)), some (.int (nI i))] [] (mkM h0 M v pa pm fl tx ty ct wr it im sg sm lat hat sy nw os hgh pl asd lks) Q = WP 168 169 [some (.ref M), some (.int x1), some (.int x2), some (.int x3), some (.int (nI s)), some (.int (nI 0)), some (.int (nI 4))] [] (mkM h0 M v pa pm fl tx ty ct wr it im sg sm lat hat sy nw os hgh pl asd lks) Q := by
  intro m
  induction m with
  | zero =>
    intro i hi
    have hi : i = 4 := by omega
    subst hi
    rw [sX10_unlikeMany_115]
    simp (disch := (first | omega | assumption | (simp (disch := omega) only [Int32.lt_iff_toInt_lt, Int32.le_iff_toInt_le, ← Int32.toInt_inj, nI_toInt, zi_m1, zi_m2, zi_m3, zi_m9]; omega) | decide)) only [sX10_unlikeMany_117, sX10_unlikeMany_118, zpush_v, zpush_n, gCk, gAi, gSi, gSz, gLi, gLq, ↓if_pos, ↓if_neg]
  | succ m ih =>
    intro i hi
    have e := he i (by omega)
    rw [← ih (i + 1) (by omega), sX10_unlikeMany_115]
    simp (disch := (first | omega | assumption | (simp (disch := omega) only [Int32.lt_iff_toInt_lt, Int32.le_iff_toInt_le, ← Int32.toInt_inj, nI_toInt, zi_m1, zi_m2, zi_m3, zi_m9]; omega) | decide)) only [sX10_unlikeMany_117, sX10_unlikeMany_118, sX10_unlikeMany_121, sX10_unlikeMany_123, sX10_unlikeMany_126, sX10_unlikeMany_127, sX10_unlikeMany_130, sX10_unlikeMany_131, sX10_unlikeMany_133, sX10_unlikeMany_134, sX10_unlikeMany_136, sX10_unlikeMany_137, sX10_unlikeMany_138, sX10_unlikeMany_139, sX10_unlikeMany_142, sX10_unlikeMany_144, sX10_unlikeMany_146, sX10_unlikeMany_147, sX10_unlikeMany_148, sX10_unlikeMany_149, sX10_unlikeMany_151, sX10_unlikeMany_152, sX10_unlikeMany_153, sX10_unlikeMany_156, sX10_unlikeMany_157, sX10_unlikeMany_160, sX10_unlikeMany_161i, sX10_unlikeMany_161r, sX10_unlikeMany_161z, sX10_unlikeMany_161o, sX10_unlikeMany_163i, sX10_unlikeMany_163r, sX10_unlikeMany_163z, sX10_unlikeMany_163o, sX10_unlikeMany_166, mCk, mG0, mG1, mG2, mG3, mG4, mG5, mG6, mG7, mG8, mG9, mG10, mG11, mG12, mG13, mG14, mG15, mG16, mG17, mG18, mG19, mG20, mP2, mP5, mP6, mP7, mP9, mP11, mP14, mA1, mS1, mA2, mS2, mA3, mS3, mA4, mS4, mA5, mS5, mA6, mS6, mA7, mS7, mA8, mS8, mA9, mS9, mA10, mS10, mA11, mS11, mA12, mS12, mA13, mS13, mA14, mS14, zpush_v, zpush_n, gCk, gAi, gSi, gSz, gLi, gLq, ↓if_pos, ↓if_neg, nI_mul, nI_add, e]
theorem l_un_d {n : Nat} (hn : n ≤ 80) (he : ∀ s, s < n → ∀ p, p < 4 → lks (4 * s + p) = sg (6 * s + 1 + p)) (x2 x3 : Int32) (Q : Option Value → Hp → Prop) : ∀ (m s : Nat), m + s = n → ∀ (l5 l6 : Option Value), ∃ l5' l6', WP 168 100 [some (.ref M), some (.int (nI 0)), some (.int x2), some (.int x3), some (.int (nI s)), l5, l6] [] (mkM h0 M v pa pm fl tx ty ct wr it im sg (nI n) lat hat sy nw os hgh pl asd lks) Q = WP 168 188 [some (.ref M), some (.int (nI 0)), some (.int x2), some (.int x3), some (.int (nI n)), l5', l6'] [] (mkM h0 M v pa pm fl tx ty ct wr it im sg (nI n) lat hat sy nw os hgh pl asd lks) Q := by
  intro m
  induction m with
  | zero =>
    intro s hs l5 l6
    have hs : s = n := by omega
    subst hs
    refine ⟨l5, l6, ?_⟩
    rw [sX10_unlikeMany_100]
    simp (disch := (first | omega | assumption | (simp (disch := omega) only [Int32.lt_iff_toInt_lt, Int32.le_iff_toInt_le, ← Int32.toInt_inj, nI_toInt, zi_m1, zi_m2, zi_m3, zi_m9]; omega) | decide)) only [sX10_unlikeMany_102, sX10_unlikeMany_103, sX10_unlikeMany_106, mCk, mG0, mG1, mG2, mG3, mG4, mG5, mG6, mG7, mG8, mG9, mG10, mG11, mG12, mG13, mG14, mG15, mG16, mG17, mG18, mG19, mG20, mP2, mP5, mP6, mP7, mP9, mP11, mP14, mA1, mS1, mA2, mS2, mA3, mS3, mA4, mS4, mA5, mS5, mA6, mS6, mA7, mS7, mA8, mS8, mA9, mS9, mA10, mS10, mA11, mS11, mA12, mS12, mA13, mS13, mA14, mS14, zpush_v, zpush_n, gCk, gAi, gSi, gSz, gLi, gLq, ↓if_pos, ↓if_neg]
  | succ m ih =>
    intro s hs l5 l6
    obtain ⟨l5', l6', e⟩ := ih (s + 1) (by omega) (some (.int (nI 0))) (some (.int (nI 4)))
    refine ⟨l5', l6', ?_⟩
    have c := l_un_c (h0 := h0) (M := M) (v := v) (pa := pa) (pm := pm) (fl := fl) (tx := tx) (ty := ty) (ct := ct) (wr := wr) (it := it) (im := im) (sg := sg) (sm := nI n) (lat := lat) (hat := hat) (sy := sy) (nw := nw) (os := os) (hgh := hgh) (pl := pl) (asd := asd) (lks := lks) hn (show s < n by omega) (he s (by omega)) (nI 0) x2 x3 Q 4 0 rfl
    rw [← e, sX10_unlikeMany_100]
    simp (disch := (first | omega | assumption | (simp (disch := omega) only [Int32.lt_iff_toInt_lt, Int32.le_iff_toInt_le, ← Int32.toInt_inj, nI_toInt, zi_m1, zi_m2, zi_m3, zi_m9]; omega) | decide)) only [sX10_unlikeMany_102, sX10_unlikeMany_103, sX10_unlikeMany_106, sX10_unlikeMany_109, sX10_unlikeMany_110i, sX10_unlikeMany_110r, sX10_unlikeMany_110z, sX10_unlikeMany_110o, sX10_unlikeMany_112, sX10_unlikeMany_113i, sX10_unlikeMany_113r, sX10_unlikeMany_113z, sX10_unlikeMany_113o, mCk, mG0, mG1, mG2, mG3, mG4, mG5, mG6, mG7, mG8, mG9, mG10, mG11, mG12, mG13, mG14, mG15, mG16, mG17, mG18, mG19, mG20, mP2, mP5, mP6, mP7, mP9, mP11, mP14, mA1, mS1, mA2, mS2, mA3, mS3, mA4, mS4, mA5, mS5, mA6, mS6, mA7, mS7, mA8, mS8, mA9, mS9, mA10, mS10, mA11, mS11, mA12, mS12, mA13, mS13, mA14, mS14, zpush_v, zpush_n, gCk, gAi, gSi, gSz, gLi, gLq, ↓if_pos, ↓if_neg]
    refine (Eq.trans (by rfl) c).trans ?_
    simp (disch := (first | omega | assumption | (simp (disch := omega) only [Int32.lt_iff_toInt_lt, Int32.le_iff_toInt_le, ← Int32.toInt_inj, nI_toInt, zi_m1, zi_m2, zi_m3, zi_m9]; omega) | decide)) only [sX10_unlikeMany_169, sX10_unlikeMany_170, sX10_unlikeMany_172, sX10_unlikeMany_175, sX10_unlikeMany_176, sX10_unlikeMany_179, sX10_unlikeMany_180, sX10_unlikeMany_181i, sX10_unlikeMany_181r, sX10_unlikeMany_181z, sX10_unlikeMany_181o, sX10_unlikeMany_182i, sX10_unlikeMany_182r, sX10_unlikeMany_182z, sX10_unlikeMany_182o, sX10_unlikeMany_185, mCk, mG0, mG1, mG2, mG3, mG4, mG5, mG6, mG7, mG8, mG9, mG10, mG11, mG12, mG13, mG14, mG15, mG16, mG17, mG18, mG19, mG20, mP2, mP5, mP6, mP7, mP9, mP11, mP14, mA1, mS1, mA2, mS2, mA3, mS3, mA4, mS4, mA5, mS5, mA6, mS6, mA7, mS7, mA8, mS8, mA9, mS9, mA10, mS10, mA11, mS11, mA12, mS12, mA13, mS13, mA14, mS14, zpush_v, zpush_n, gCk, gAi, gSi, gSz, gLi, gLq, ↓if_pos, ↓if_neg, nI_add, Nat.zero_add, Nat.add_zero]
theorem l_un_e (x1 x2 x3 : Int32) (Q : Option Value → Hp → Prop) : ∀ (m i : Nat), m + i = 2760 → ∀ (l5 l6 : Option Value), WP 168 191 [some (.ref M), some (.int x1), some (.int x2), some (.int x3), some (.int (nI i)), l5, l6] [] (mkM h0 M (pst v asd 0 i) pa pm fl tx ty ct wr it im sg sm lat hat sy nw os hgh pl asd lks) Q = WP 168 219 [some (.ref M), some (.int x1), some (.int x2), some (.int x3), some (.int (nI 2760)), l5, l6] [] (mkM h0 M (pst v asd 0 2760) pa pm fl tx ty ct wr it im sg sm lat hat sy nw os hgh pl asd lks) Q := by
  intro m
  induction m with
  | zero =>
    intro i hi l5 l6
    have hi : i = 2760 := by omega
    subst hi
    rw [sX10_unlikeMany_191]
    simp (disch := (first | omega | assumption | (simp (disch := omega) only [Int32.lt_iff_toInt_lt, Int32.le_iff_toInt_le, ← Int32.toInt_inj, nI_toInt, zi_m1, zi_m2, zi_m3, zi_m9]; omega) | decide)) only [sX10_unlikeMany_193, sX10_unlikeMany_196, zpush_v, zpush_n, gCk, gAi, gSi, gSz, gLi, gLq, ↓if_pos, ↓if_neg]
  | succ m ih =>
    intro i hi l5 l6
    have e := pst_step v asd 0 i
    rw [Nat.zero_add] at e
    rw [← ih (i + 1) (by omega), sX10_unlikeMany_191]
    simp (disch := (first | omega | assumption | (simp (disch := omega) only [Int32.lt_iff_toInt_lt, Int32.le_iff_toInt_le, ← Int32.toInt_inj, nI_toInt, zi_m1, zi_m2, zi_m3, zi_m9]; omega) | decide)) only [sX10_unlikeMany_193, sX10_unlikeMany_196, sX10_unlikeMany_199, sX10_unlikeMany_200, sX10_unlikeMany_203, sX10_unlikeMany_205, sX10_unlikeMany_206, sX10_unlikeMany_209, sX10_unlikeMany_211, sX10_unlikeMany_212, sX10_unlikeMany_213i, sX10_unlikeMany_213r, sX10_unlikeMany_213z, sX10_unlikeMany_213o, sX10_unlikeMany_216, mCk, mG0, mG1, mG2, mG3, mG4, mG5, mG6, mG7, mG8, mG9, mG10, mG11, mG12, mG13, mG14, mG15, mG16, mG17, mG18, mG19, mG20, mP2, mP5, mP6, mP7, mP9, mP11, mP14, mA1, mS1, mA2, mS2, mA3, mS3, mA4, mS4, mA5, mS5, mA6, mS6, mA7, mS7, mA8, mS8, mA9, mS9, mA10, mS10, mA11, mS11, mA12, mS12, mA13, mS13, mA14, mS14, zpush_v, zpush_n, gCk, gAi, gSi, gSz, gLi, gLq, ↓if_pos, ↓if_neg, nI_add, e]
theorem l_un_f {st : Stt} (hv : encV v st) (hw : WfSt st) (hasd : ∀ q, q < 2760 → asd q = v q) : ∀ (m i : Nat), m + i = st.2.1.length → ∀ (fl sg lat hat nw lks : Nat → Int32) (sm sy : Int32), ∃ fl' sg' lat' hat' nw' lks' sm' sy', ∀ (l3 l4 l5 l6 : Option Value) (Q : Option Value → Hp → Prop),
    WP 168 31 [some (.ref M), some (.int (nI 0)), some (.int (nI i)), l3, l4, l5, l6] [] (mkM h0 M v pa pm fl tx ty ct wr it im sg sm lat hat sy nw os hgh pl asd lks) Q = Q (some (.int (nI 0))) (mkM h0 M v pa pm fl' tx ty ct wr it im sg' sm' lat' hat' sy' nw' os hgh pl asd lks') := by
  have h16 := hw.2.1.1
  have hv1 := hv.2.1
  intro m
  induction m with
  | zero =>
    intro i hi fl sg lat hat nw lks sm sy
    have hi : i = st.2.1.length := by omega
    subst hi
    refine ⟨fl, sg, lat, hat, nw, lks, sm, sy, fun l3 l4 l5 l6 Q => ?_⟩
    rw [sX10_unlikeMany_31]
    simp (disch := (first | omega | assumption | (simp (disch := omega) only [Int32.lt_iff_toInt_lt, Int32.le_iff_toInt_le, ← Int32.toInt_inj, nI_toInt, zi_m1, zi_m2, zi_m3, zi_m9]; omega) | decide)) only [sX10_unlikeMany_32, sX10_unlikeMany_33, sX10_unlikeMany_36, sX10_unlikeMany_37, sX10_unlikeMany_38, sX10_unlikeMany_225, sX10_unlikeMany_226, mCk, mG0, mG1, mG2, mG3, mG4, mG5, mG6, mG7, mG8, mG9, mG10, mG11, mG12, mG13, mG14, mG15, mG16, mG17, mG18, mG19, mG20, mP2, mP5, mP6, mP7, mP9, mP11, mP14, mA1, mS1, mA2, mS2, mA3, mS3, mA4, mS4, mA5, mS5, mA6, mS6, mA7, mS7, mA8, mS8, mA9, mS9, mA10, mS10, mA11, mS11, mA12, mS12, mA13, mS13, mA14, mS14, zpush_v, zpush_n, gCk, gAi, gSi, gSz, gLi, gLq, ↓if_pos, ↓if_neg, hv1]
  | succ m ih =>
    intro i hi fl sg lat hat nw lks sm sy
    have hi2 : i < st.2.1.length := by omega
    have wl := hw.mem _ (lnA_mem hi2)
    have h80 := (rdL_ok hw.1 wl.1).1
    obtain ⟨sg1, lat1, hat1, nw1, g1, g2⟩ := m_goes (h0 := h0) (M := M) (v := v) (pa := pa) (pm := pm) (fl := fl) (tx := tx) (ty := ty) (ct := ct) (wr := wr) (it := it) (im := im) (sg := sg) (sm := sm) (lat := lat) (hat := hat) (sy := sy) (nw := nw) (os := os) (hgh := hgh) (pl := pl) (asd := asd) (lks := lks) hv hw hi2
    obtain ⟨n, en⟩ : ∃ n, n = (rdL st.1 (lnA st.2.1 i)).2.1.length := ⟨_, rfl⟩
    obtain ⟨y, ey⟩ : ∃ y, y = (rdL st.1 (lnA st.2.1 i)).2.2.length := ⟨_, rfl⟩
    obtain ⟨v1, f1, f2, f3⟩ := m_flattens (h0 := h0) (M := M) (v := v) (pa := pa) (pm := pm) (fl := fl) (tx := tx) (ty := ty) (ct := ct) (wr := wr) (it := it) (im := im) (sg := sg1) (sm := nI n) (lat := lat1) (hat := hat1) (sy := nI y) (nw := nw1) (os := os) (hgh := hgh) (pl := pl) (asd := asd) (lks := lkF lks sg1 (4 * n)) hv.1 hw.1
    have hv1' : encV v1 (flatS st.1, st.2) := hv.sh hw f1 (fun q hq => f2 q (by omega))
    have hwf : WfSt (flatS st.1, st.2) := hw.sheet hw.1.flat (Nat.le_refl _)
    obtain ⟨sg2, lat2, hat2, nw2, k1, k2⟩ := m_goes (h0 := h0) (M := M) (v := v1) (pa := pa) (pm := pm) (fl := flF fl st.1 (6 * st.1.1)) (tx := tx) (ty := ty) (ct := ct) (wr := wr) (it := it) (im := im) (sg := sg1) (sm := nI n) (lat := lat1) (hat := hat1) (sy := nI y) (nw := nw1) (os := os) (hgh := hgh) (pl := pl) (asd := asd) (lks := lkF lks sg1 (4 * n)) hv1' hwf (i := i) hi2
    have k1 : gR sg2 lat2 hat2 nw2 (rdL (flatS st.1) (lnA st.2.1 i)) := k1
    have k2 : ∀ Q : Option Value → Hp → Prop, WPm 145 [.ref M, .int (nI i)] (mkM h0 M v1 pa pm (flF fl st.1 (6 * st.1.1)) tx ty ct wr it im sg1 (nI n) lat1 hat1 (nI y) nw1 os hgh pl asd (lkF lks sg1 (4 * n))) Q = Q none (mkM h0 M v1 pa pm (flF fl st.1 (6 * st.1.1)) tx ty ct wr it im sg2 (nI (rdL (flatS st.1) (lnA st.2.1 i)).2.1.length) lat2 hat2 (nI (rdL (flatS st.1) (lnA st.2.1 i)).2.2.length) nw2 os hgh pl asd (lkF lks sg1 (4 * n))) := k2
    rw [rdL_flat] at k1 k2
    rw [← en, ← ey] at k2 g2
    rw [← en] at h80
    have he : ∀ s, s < n → ∀ p, p < 4 → lkF lks sg1 (4 * n) (4 * s + p) = sg2 (6 * s + 1 + p) := by
      intro s hs p hp
      have hx : (rdL st.1 (lnA st.2.1 i)).2.1[s]? = some ((rdL st.1 (lnA st.2.1 i)).2.1.getD s (0, (fun _ => 0), none)) := by
        rw [List.getD_eq_getElem?_getD, List.getElem?_eq_getElem (by omega)]
        rfl
      have a := (g1.1 s _ hx).2.1 p hp
      have b := (k1.1 s _ hx).2.1 p hp
      unfold lkF
      rw [if_pos (by omega), show (4 * s + p) / 4 = s by omega, show (4 * s + p) % 4 = p by omega, Nat.mul_comm 6 s, a, b]
    have ev : pst v1 asd 0 2760 = v := by
      funext q
      unfold pst
      by_cases c : 0 ≤ q ∧ q < 0 + 2760
      · rw [if_pos c, Nat.sub_zero]
        exact hasd q (by omega)
      · rw [if_neg c]
        exact f2 q (by omega)
    obtain ⟨fl', sg', lat', hat', nw', lks', sm', sy', E⟩ := ih (i + 1) (by omega) (flF fl st.1 (6 * st.1.1)) sg2 lat2 hat2 nw2 (lkF lks sg1 (4 * n)) (nI n) (nI y)
    refine ⟨fl', sg', lat', hat', nw', lks', sm', sy', fun l3 l4 l5 l6 Q => ?_⟩
    have b := l_un_b (h0 := h0) (M := M) (v := v) (pa := pa) (pm := pm) (fl := fl) (tx := tx) (ty := ty) (ct := ct) (wr := wr) (it := it) (im := im) (sg := sg1) (lat := lat1) (hat := hat1) (sy := nI y) (nw := nw1) (os := os) (hgh := hgh) (pl := pl) (asd := asd) (lks := lks) h80 (nI 0) (nI i) Q _ 0 rfl l4 l5 l6
    rw [lkF_0] at b
    obtain ⟨l5', l6', d⟩ := l_un_d (h0 := h0) (M := M) (v := v1) (pa := pa) (pm := pm) (fl := flF fl st.1 (6 * st.1.1)) (tx := tx) (ty := ty) (ct := ct) (wr := wr) (it := it) (im := im) (sg := sg2) (lat := lat2) (hat := hat2) (sy := nI y) (nw := nw2) (os := os) (hgh := hgh) (pl := pl) (asd := asd) (lks := lkF lks sg1 (4 * n)) h80 he (nI i) (nI (nuS st.1 st.1.1)) Q _ 0 rfl l5 l6
    have e := l_un_e (h0 := h0) (M := M) (v := v1) (pa := pa) (pm := pm) (fl := flF fl st.1 (6 * st.1.1)) (tx := tx) (ty := ty) (ct := ct) (wr := wr) (it := it) (im := im) (sg := sg2) (sm := nI n) (lat := lat2) (hat := hat2) (sy := nI y) (nw := nw2) (os := os) (hgh := hgh) (pl := pl) (asd := asd) (lks := lkF lks sg1 (4 * n)) (nI 0) (nI i) (nI (nuS st.1 st.1.1)) Q _ 0 rfl l5' l6'
    rw [pst_0, ev] at e
    rw [← E (some (.int (nI (nuS st.1 st.1.1)))) (some (.int (nI 2760))) l5' l6' Q, sX10_unlikeMany_31]
    simp (disch := (first | omega | assumption | (simp (disch := omega) only [Int32.lt_iff_toInt_lt, Int32.le_iff_toInt_le, ← Int32.toInt_inj, nI_toInt, zi_m1, zi_m2, zi_m3, zi_m9]; omega) | decide)) only [sX10_unlikeMany_32, sX10_unlikeMany_33, sX10_unlikeMany_36, sX10_unlikeMany_37, sX10_unlikeMany_38, sX10_unlikeMany_41, sX10_unlikeMany_42, sX10_unlikeMany_43, sX10_unlikeMany_46, sX10_unlikeMany_47i, sX10_unlikeMany_47r, sX10_unlikeMany_47z, sX10_unlikeMany_47o, mCk, mG0, mG1, mG2, mG3, mG4, mG5, mG6, mG7, mG8, mG9, mG10, mG11, mG12, mG13, mG14, mG15, mG16, mG17, mG18, mG19, mG20, mP2, mP5, mP6, mP7, mP9, mP11, mP14, mA1, mS1, mA2, mS2, mA3, mS3, mA4, mS4, mA5, mS5, mA6, mS6, mA7, mS7, mA8, mS8, mA9, mS9, mA10, mS10, mA11, mS11, mA12, mS12, mA13, mS13, mA14, mS14, zpush_v, zpush_n, gCk, gAi, gSi, gSz, gLi, gLq, ↓if_pos, ↓if_neg, hv1, g2]
    refine (Eq.trans (by rfl) b).trans ?_
    simp (disch := (first | omega | assumption | (simp (disch := omega) only [Int32.lt_iff_toInt_lt, Int32.le_iff_toInt_le, ← Int32.toInt_inj, nI_toInt, zi_m1, zi_m2, zi_m3, zi_m9]; omega) | decide)) only [sX10_unlikeMany_87, sX10_unlikeMany_88, sX10_unlikeMany_91i, sX10_unlikeMany_91r, sX10_unlikeMany_91z, sX10_unlikeMany_91o, sX10_unlikeMany_92, sX10_unlikeMany_93, sX10_unlikeMany_94, sX10_unlikeMany_97, sX10_unlikeMany_98i, sX10_unlikeMany_98r, sX10_unlikeMany_98z, sX10_unlikeMany_98o, mCk, mG0, mG1, mG2, mG3, mG4, mG5, mG6, mG7, mG8, mG9, mG10, mG11, mG12, mG13, mG14, mG15, mG16, mG17, mG18, mG19, mG20, mP2, mP5, mP6, mP7, mP9, mP11, mP14, mA1, mS1, mA2, mS2, mA3, mS3, mA4, mS4, mA5, mS5, mA6, mS6, mA7, mS7, mA8, mS8, mA9, mS9, mA10, mS10, mA11, mS11, mA12, mS12, mA13, mS13, mA14, mS14, zpush_v, zpush_n, gCk, gAi, gSi, gSz, gLi, gLq, ↓if_pos, ↓if_neg, f3, k2]
    refine (Eq.trans (by rfl) d).trans ?_
    simp (disch := (first | omega | assumption | (simp (disch := omega) only [Int32.lt_iff_toInt_lt, Int32.le_iff_toInt_le, ← Int32.toInt_inj, nI_toInt, zi_m1, zi_m2, zi_m3, zi_m9]; omega) | decide)) only [sX10_unlikeMany_188, sX10_unlikeMany_189i, sX10_unlikeMany_189r, sX10_unlikeMany_189z, sX10_unlikeMany_189o, mCk, mG0, mG1, mG2, mG3, mG4, mG5, mG6, mG7, mG8, mG9, mG10, mG11, mG12, mG13, mG14, mG15, mG16, mG17, mG18, mG19, mG20, mP2, mP5, mP6, mP7, mP9, mP11, mP14, mA1, mS1, mA2, mS2, mA3, mS3, mA4, mS4, mA5, mS5, mA6, mS6, mA7, mS7, mA8, mS8, mA9, mS9, mA10, mS10, mA11, mS11, mA12, mS12, mA13, mS13, mA14, mS14, zpush_v, zpush_n, gCk, gAi, gSi, gSz, gLi, gLq, ↓if_pos, ↓if_neg]
    refine (Eq.trans (by rfl) e).trans ?_
    simp (disch := (first | omega | assumption | (simp (disch := omega) only [Int32.lt_iff_toInt_lt, Int32.le_iff_toInt_le, ← Int32.toInt_inj, nI_toInt, zi_m1, zi_m2, zi_m3, zi_m9]; omega) | decide)) only [sX10_unlikeMany_219i, sX10_unlikeMany_219r, sX10_unlikeMany_219z, sX10_unlikeMany_219o, sX10_unlikeMany_222, zpush_v, zpush_n, gCk, gAi, gSi, gSz, gLi, gLq, ↓if_pos, ↓if_neg, nI_add]
theorem m_unlikeMany {st : Stt} (hv : encV v st) (hw : WfSt st) : ∃ fl' sg' lat' hat' nw' asd' lks' sm' sy', ∀ Q : Option Value → Hp → Prop, WPm 168 [.ref M] (mkM h0 M v pa pm fl tx ty ct wr it im sg sm lat hat sy nw os hgh pl asd lks) Q = Q (some (.int (nI 0))) (mkM h0 M v pa pm fl' tx ty ct wr it im sg' sm' lat' hat' sy' nw' os hgh pl asd' lks') := by
  obtain ⟨fl', sg', lat', hat', nw', lks', sm', sy', E⟩ := l_un_f (h0 := h0) (M := M) (v := v) (pa := pa) (pm := pm) (tx := tx) (ty := ty) (ct := ct) (wr := wr) (it := it) (im := im) (os := os) (hgh := hgh) (pl := pl) (asd := pst asd v 0 2760) hv hw (fun q hq => by
    unfold pst
    rw [if_pos (by omega), Nat.sub_zero]) _ 0 rfl fl sg lat hat nw lks sm sy
  refine ⟨fl', sg', lat', hat', nw', pst asd v 0 2760, lks', sm', sy', fun Q => ?_⟩
  have a := l_un_a (h0 := h0) (M := M) (v := v) (pa := pa) (pm := pm) (fl := fl) (tx := tx) (ty := ty) (ct := ct) (wr := wr) (it := it) (im := im) (sg := sg) (sm := sm) (lat := lat) (hat := hat) (sy := sy) (nw := nw) (os := os) (hgh := hgh) (pl := pl) (asd := asd) (lks := lks) Q _ 0 rfl none none none none none
  rw [pst_0] at a
  rw [← E none none none none Q, eX10_unlikeMany]
  simp (disch := (first | omega | assumption | (simp (disch := omega) only [Int32.lt_iff_toInt_lt, Int32.le_iff_toInt_le, ← Int32.toInt_inj, nI_toInt, zi_m1, zi_m2, zi_m3, zi_m9]; omega) | decide)) only [sX10_unlikeMany_0, sX10_unlikeMany_1i, sX10_unlikeMany_1r, sX10_unlikeMany_1z, sX10_unlikeMany_1o, zpush_v, zpush_n, gCk, gAi, gSi, gSz, gLi, gLq, ↓if_pos, ↓if_neg]
  refine (Eq.trans (by rfl) a).trans ?_
  simp (disch := (first | omega | assumption | (simp (disch := omega) only [Int32.lt_iff_toInt_lt, Int32.le_iff_toInt_le, ← Int32.toInt_inj, nI_toInt, zi_m1, zi_m2, zi_m3, zi_m9]; omega) | decide)) only [sX10_unlikeMany_27, sX10_unlikeMany_28i, sX10_unlikeMany_28r, sX10_unlikeMany_28z, sX10_unlikeMany_28o, sX10_unlikeMany_29, sX10_unlikeMany_30i, sX10_unlikeMany_30r, sX10_unlikeMany_30z, sX10_unlikeMany_30o, zpush_v, zpush_n, gCk, gAi, gSi, gSz, gLi, gLq, ↓if_pos, ↓if_neg]
theorem y_unlike (hr : rM h M p) (hw : WfP p) : ∃ h', Same h h' M 15 ∧ rM h' M p ∧ ∀ Q : Option Value → Hp → Prop, WPm 169 [.ref M] h Q = Q (some (.int (nI 0))) h' := by
  obtain ⟨h0, v, pa, fl, tx, it, sg, lat, hat, nw, os, hgh, pl, asd, lks, ct, wr, im, sm, sy, rfl, hv, hp, ht⟩ := id hr
  obtain ⟨fl', sg', lat', hat', nw', asd', lks', sm', sy', E⟩ := m_unlikeMany (h0 := h0) (M := M) (v := v) (pa := pa) (pm := nI p.2.1.length) (fl := fl) (tx := tx) (ty := nI p.2.2.length) (ct := ct) (wr := wr) (it := it) (im := im) (sg := sg) (sm := sm) (lat := lat) (hat := hat) (sy := sy) (nw := nw) (os := os) (hgh := hgh) (pl := pl) (asd := asd) (lks := lks) hv hw.1
  refine ⟨(mkM h0 M v pa (nI p.2.1.length) fl' tx (nI p.2.2.length) ct wr it im sg' sm' lat' hat' sy' nw' os hgh pl asd' lks'), mkM_same, rM.mk hv hp ht, fun Q => ?_⟩
  rw [eX10_unlike]
  simp (disch := (first | omega | assumption | (simp (disch := omega) only [Int32.lt_iff_toInt_lt, Int32.le_iff_toInt_le, ← Int32.toInt_inj, nI_toInt, zi_m1, zi_m2, zi_m3, zi_m9]; omega) | decide)) only [sX10_unlike_0, sX10_unlike_1, sX10_unlike_4, mCk, mG0, mG1, mG2, mG3, mG4, mG5, mG6, mG7, mG8, mG9, mG10, mG11, mG12, mG13, mG14, mG15, mG16, mG17, mG18, mG19, mG20, mP2, mP5, mP6, mP7, mP9, mP11, mP14, mA1, mS1, mA2, mS2, mA3, mS3, mA4, mS4, mA5, mS5, mA6, mS6, mA7, mS7, mA8, mS8, mA9, mS9, mA10, mS10, mA11, mS11, mA12, mS12, mA13, mS13, mA14, mS14, zpush_v, zpush_n, gCk, gAi, gSi, gSz, gLi, gLq, ↓if_pos, ↓if_neg, E]
end MO
