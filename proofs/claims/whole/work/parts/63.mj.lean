/-! the model: the places of the lines -/
theorem offC_le {S : Sh} {L : List Ln} (hw : WfS S) (hL : WfLs L) {i : Nat} (hi : i < L.length) : offC S L i ≤ 3400 := by
  obtain ⟨off, h1, h2⟩ := pOff_ex (pdL S L) (fun i => mrg_le hw (lnA_wf hL i)) (fun i => hgL_le hw (lnA_wf hL i))
  have hr : ∀ i m, pRk (pdL S L).2.1 i m ≤ m := by
    intro i m
    induction m with
    | zero => exact Nat.le_refl 0
    | succ m ih =>
      simp only [pRk]
      split <;> omega
  have a := pOff_uniq h1 (offC_ok hw hL) i hi
  have b := h2 i hi
  have c := hr i L.length
  have d := hL.1
  have e : offC S L i ≤ 200 + 200 * pRk (pdL S L).2.1 i L.length := by rw [← a]; exact b
  omega
abbrev hitP (S : Sh) (L : List Ln) (P : Nat → Bool) (off : Nat → Nat) (b a n : Nat) : Prop := (¬ n = b ∧ P n = true) ∧ (valS S 4 (lnA L n).2.2.1 = valS S 4 (lnA L b).2.2.1 ∧ shownP (lnA L n) (nI (lnA L b).1) = true) ∧ off n < a + hgL S (lnA L b) ∧ a < off n + hgL S (lnA L n)
def iwF (S : Sh) (L : List Ln) (P : Nat → Bool) (off : Nat → Nat) (b a : Nat) : Nat → Nat
  | 0 => 0
  | i + 1 => if hitP S L P off b a i then off i + hgL S (lnA L i) else iwF S L P off b a i
theorem iwF_pos {S : Sh} {L : List Ln} {P : Nat → Bool} {off : Nat → Nat} {b a : Nat} : ∀ m, 0 < iwF S L P off b a m ↔ ∃ n, n < m ∧ hitP S L P off b a n := by
  intro m
  induction m with
  | zero => exact ⟨fun h => absurd h (Nat.not_lt_zero _), fun ⟨n, h, _⟩ => absurd h (Nat.not_lt_zero _)⟩
  | succ m ih =>
    simp only [iwF]
    split
    · rename_i h
      have := h.2.2.2
      exact ⟨fun _ => ⟨m, by omega, h⟩, fun _ => by omega⟩
    · rename_i h
      rw [ih]
      constructor
      · rintro ⟨n, n1, n2⟩
        exact ⟨n, by omega, n2⟩
      · rintro ⟨n, n1, n2⟩
        by_cases c : n = m
        · rw [c] at n2
          exact absurd n2 h
        · exact ⟨n, by omega, n2⟩
theorem iwF_le {S : Sh} {L : List Ln} {P : Nat → Bool} {off : Nat → Nat} {b a : Nat} (hw : WfS S) (hL : WfLs L) (ho : ∀ n, n < L.length → P n = true → off n ≤ 3400) : ∀ m, m ≤ L.length → iwF S L P off b a m ≤ 3600 := by
  intro m
  induction m with
  | zero => intro _; exact Nat.zero_le _
  | succ m ih =>
    intro hm
    simp only [iwF]
    split
    · rename_i h
      have := ho m (by omega) h.1.2
      have := hgL_le hw (lnA_wf hL m)
      omega
    · exact ih (by omega)
section MJ
variable {h0 : Hp} {M : Nat} {v pa fl tx it sg lat hat nw os hgh pl asd lks : Nat → Int32} {pm ty ct wr im sm sy : Int32}
theorem l_inWay {st : Stt} (hv : encV v st) (hw : WfSt st) {P : Nat → Bool} {off : Nat → Nat} (hpl : ∀ n, n < st.2.1.length → pl n = bI (P n = true)) (hos : ∀ n, n < st.2.1.length → P n = true → os n = nI (off n) ∧ off n ≤ 3400) (hhg : ∀ n, n < st.2.1.length → hgh n = nI (hgL st.1 (lnA st.2.1 n))) {b a : Nat} (hb : b < st.2.1.length) (ha : a ≤ 3400) (Q : Option Value → Hp → Prop) : ∀ (m i : Nat) (l5 : Option Value), m + i = st.2.1.length →
    WP 151 5 [some (.ref M), some (.int (nI b)), some (.int (nI a)), some (.int (nI (iwF st.1 st.2.1 P off b a i))), some (.int (nI i)), l5] [] (mkM h0 M v pa pm fl tx ty ct wr it im sg sm lat hat sy nw os hgh pl asd lks) Q = Q (some (.int (nI (iwF st.1 st.2.1 P off b a st.2.1.length)))) (mkM h0 M v pa pm fl tx ty ct wr it im sg sm lat hat sy nw os hgh pl asd lks) := by
  have h16 := hw.2.1.1
  have hv1 := hv.2.1
  have eb := (encL.at hv.2.2.2 hb).1
  have g1 := fun Q => m_group (h0 := h0) (M := M) (v := v) (pa := pa) (pm := pm) (fl := fl) (tx := tx) (ty := ty) (ct := ct) (wr := wr) (it := it) (im := im) (sg := sg) (sm := sm) (lat := lat) (hat := hat) (sy := sy) (nw := nw) (os := os) (hgh := hgh) (pl := pl) (asd := asd) (lks := lks) hv hw hb Q
  have lb := hgL_le hw.1 (lnA_wf hw.2.1 b)
  have hhb := hhg b hb
  have vb := valS_le hw.1 (show 4 < 6 by omega) (lnA st.2.1 b).2.2.1
  intro m
  induction m with
  | zero =>
    intro i l5 hi
    have hi : i = st.2.1.length := by omega
    subst hi
    rw [sX10_inTheWay_5]
    simp (disch := (first | omega | assumption | (simp (disch := omega) only [Int32.lt_iff_toInt_lt, Int32.le_iff_toInt_le, ← Int32.toInt_inj, nI_toInt, zi_m1, zi_m2, zi_m3, zi_m9]; omega) | decide)) only [sX10_inTheWay_7, sX10_inTheWay_8, sX10_inTheWay_11, sX10_inTheWay_12, sX10_inTheWay_13, sX10_inTheWay_137, sX10_inTheWay_138, mCk, mG0, mG1, mG2, mG3, mG4, mG5, mG6, mG7, mG8, mG9, mG10, mG11, mG12, mG13, mG14, mG15, mG16, mG17, mG18, mG19, mG20, mP2, mP5, mP6, mP7, mP9, mP11, mP14, mA1, mS1, mA2, mS2, mA3, mS3, mA4, mS4, mA5, mS5, mA6, mS6, mA7, mS7, mA8, mS8, mA9, mS9, mA10, mS10, mA11, mS11, mA12, mS12, mA13, mS13, mA14, mS14, zpush_v, zpush_n, gCk, gAi, gSi, gSz, gLi, gLq, ↓if_pos, ↓if_neg, hv1]
  | succ m ih =>
    intro i l5 hi
    have hi2 : i < st.2.1.length := by omega
    have ei := (encL.at hv.2.2.2 hi2).1
    have g2 := fun Q => m_group (h0 := h0) (M := M) (v := v) (pa := pa) (pm := pm) (fl := fl) (tx := tx) (ty := ty) (ct := ct) (wr := wr) (it := it) (im := im) (sg := sg) (sm := sm) (lat := lat) (hat := hat) (sy := sy) (nw := nw) (os := os) (hgh := hgh) (pl := pl) (asd := asd) (lks := lks) hv hw hi2 Q
    have sh := fun Q => m_isShown (h0 := h0) (M := M) (v := v) (pa := pa) (pm := pm) (fl := fl) (tx := tx) (ty := ty) (ct := ct) (wr := wr) (it := it) (im := im) (sg := sg) (sm := sm) (lat := lat) (hat := hat) (sy := sy) (nw := nw) (os := os) (hgh := hgh) (pl := pl) (asd := asd) (lks := lks) hv hw hi2 (nI (lnA st.2.1 b).1) Q
    have li := hgL_le hw.1 (lnA_wf hw.2.1 i)
    have hhi := hhg i hi2
    have pi := hpl i hi2
    have vi := valS_le hw.1 (show 4 < 6 by omega) (lnA st.2.1 i).2.2.1
    have N : ∀ (l5 : Option Value), ¬ hitP st.1 st.2.1 P off b a i → WP 151 5 [some (.ref M), some (.int (nI b)), some (.int (nI a)), some (.int (nI (iwF st.1 st.2.1 P off b a i))), some (.int (nI (i + 1))), l5] [] (mkM h0 M v pa pm fl tx ty ct wr it im sg sm lat hat sy nw os hgh pl asd lks) Q = Q (some (.int (nI (iwF st.1 st.2.1 P off b a st.2.1.length)))) (mkM h0 M v pa pm fl tx ty ct wr it im sg sm lat hat sy nw os hgh pl asd lks) := by
      intro l5 hn
      have := ih (i + 1) l5 (by omega)
      rw [show iwF st.1 st.2.1 P off b a (i + 1) = iwF st.1 st.2.1 P off b a i from if_neg hn] at this
      exact this
    rw [sX10_inTheWay_5]
    by_cases c1 : i = b
    · have N := N (some (.int (nI 0))) (fun z => z.1.1 c1)
      simp (disch := (first | omega | assumption | (simp (disch := omega) only [Int32.lt_iff_toInt_lt, Int32.le_iff_toInt_le, ← Int32.toInt_inj, nI_toInt, zi_m1, zi_m2, zi_m3, zi_m9]; omega) | decide)) only [sX10_inTheWay_7, sX10_inTheWay_8, sX10_inTheWay_11, sX10_inTheWay_12, sX10_inTheWay_13, sX10_inTheWay_16, sX10_inTheWay_18, sX10_inTheWay_19, sX10_inTheWay_22, sX10_inTheWay_23, sX10_inTheWay_26, sX10_inTheWay_28, sX10_inTheWay_29, sX10_inTheWay_32, sX10_inTheWay_33, sX10_inTheWay_35, sX10_inTheWay_38, sX10_inTheWay_39, sX10_inTheWay_40, sX10_inTheWay_43, sX10_inTheWay_46, sX10_inTheWay_47, sX10_inTheWay_49, sX10_inTheWay_50, sX10_inTheWay_53, sX10_inTheWay_54, sX10_inTheWay_57, sX10_inTheWay_58, sX10_inTheWay_59, sX10_inTheWay_60, sX10_inTheWay_63, sX10_inTheWay_66, sX10_inTheWay_67, sX10_inTheWay_70, sX10_inTheWay_71i, sX10_inTheWay_71r, sX10_inTheWay_71z, sX10_inTheWay_71o, sX10_inTheWay_73, sX10_inTheWay_75, sX10_inTheWay_78, sX10_inTheWay_79, sX10_inTheWay_82, sX10_inTheWay_84, sX10_inTheWay_85, sX10_inTheWay_86, sX10_inTheWay_87, sX10_inTheWay_90, sX10_inTheWay_91, sX10_inTheWay_92, sX10_inTheWay_93, sX10_inTheWay_96, sX10_inTheWay_97, sX10_inTheWay_98, sX10_inTheWay_101, sX10_inTheWay_103, sX10_inTheWay_104, sX10_inTheWay_105, sX10_inTheWay_108, sX10_inTheWay_110, sX10_inTheWay_111, sX10_inTheWay_112, sX10_inTheWay_115, sX10_inTheWay_116, sX10_inTheWay_119, sX10_inTheWay_121, sX10_inTheWay_122, sX10_inTheWay_123, sX10_inTheWay_126, sX10_inTheWay_128, sX10_inTheWay_129, sX10_inTheWay_130i, sX10_inTheWay_130r, sX10_inTheWay_130z, sX10_inTheWay_130o, sX10_inTheWay_131i, sX10_inTheWay_131r, sX10_inTheWay_131z, sX10_inTheWay_131o, sX10_inTheWay_134, mCk, mG0, mG1, mG2, mG3, mG4, mG5, mG6, mG7, mG8, mG9, mG10, mG11, mG12, mG13, mG14, mG15, mG16, mG17, mG18, mG19, mG20, mP2, mP5, mP6, mP7, mP9, mP11, mP14, mA1, mS1, mA2, mS2, mA3, mS3, mA4, mS4, mA5, mS5, mA6, mS6, mA7, mS7, mA8, mS8, mA9, mS9, mA10, mS10, mA11, mS11, mA12, mS12, mA13, mS13, mA14, mS14, zpush_v, zpush_n, gCk, gAi, gSi, gSz, gLi, gLq, ↓if_pos, ↓if_neg, hv1, nI_add]
      exact N
    · by_cases c2 : P i = true
      · rw [bI_t c2] at pi
        obtain ⟨oi, oi2⟩ := hos i hi2 c2
        by_cases c3 : valS st.1 4 (lnA st.2.1 i).2.2.1 = valS st.1 4 (lnA st.2.1 b).2.2.1
        · rw [c3] at g2
          by_cases c4 : shownP (lnA st.2.1 i) (nI (lnA st.2.1 b).1) = true
          · rw [bI_t c4] at sh
            by_cases c5 : off i < a + hgL st.1 (lnA st.2.1 b)
            · by_cases c6 : a < off i + hgL st.1 (lnA st.2.1 i)
              · have := ih (i + 1) (some (.int (nI 1))) (by omega)
                rw [show iwF st.1 st.2.1 P off b a (i + 1) = off i + hgL st.1 (lnA st.2.1 i) from if_pos ⟨⟨c1, c2⟩, ⟨c3, c4⟩, c5, c6⟩] at this
                rw [← this]
                simp (disch := (first | omega | assumption | (simp (disch := omega) only [Int32.lt_iff_toInt_lt, Int32.le_iff_toInt_le, ← Int32.toInt_inj, nI_toInt, zi_m1, zi_m2, zi_m3, zi_m9]; omega) | decide)) only [sX10_inTheWay_7, sX10_inTheWay_8, sX10_inTheWay_11, sX10_inTheWay_12, sX10_inTheWay_13, sX10_inTheWay_16, sX10_inTheWay_18, sX10_inTheWay_19, sX10_inTheWay_22, sX10_inTheWay_23, sX10_inTheWay_26, sX10_inTheWay_28, sX10_inTheWay_29, sX10_inTheWay_32, sX10_inTheWay_33, sX10_inTheWay_35, sX10_inTheWay_38, sX10_inTheWay_39, sX10_inTheWay_40, sX10_inTheWay_43, sX10_inTheWay_46, sX10_inTheWay_47, sX10_inTheWay_49, sX10_inTheWay_50, sX10_inTheWay_53, sX10_inTheWay_54, sX10_inTheWay_57, sX10_inTheWay_58, sX10_inTheWay_59, sX10_inTheWay_60, sX10_inTheWay_63, sX10_inTheWay_66, sX10_inTheWay_67, sX10_inTheWay_70, sX10_inTheWay_71i, sX10_inTheWay_71r, sX10_inTheWay_71z, sX10_inTheWay_71o, sX10_inTheWay_73, sX10_inTheWay_75, sX10_inTheWay_78, sX10_inTheWay_79, sX10_inTheWay_82, sX10_inTheWay_84, sX10_inTheWay_85, sX10_inTheWay_86, sX10_inTheWay_87, sX10_inTheWay_90, sX10_inTheWay_91, sX10_inTheWay_92, sX10_inTheWay_93, sX10_inTheWay_96, sX10_inTheWay_97, sX10_inTheWay_98, sX10_inTheWay_101, sX10_inTheWay_103, sX10_inTheWay_104, sX10_inTheWay_105, sX10_inTheWay_108, sX10_inTheWay_110, sX10_inTheWay_111, sX10_inTheWay_112, sX10_inTheWay_115, sX10_inTheWay_116, sX10_inTheWay_119, sX10_inTheWay_121, sX10_inTheWay_122, sX10_inTheWay_123, sX10_inTheWay_126, sX10_inTheWay_128, sX10_inTheWay_129, sX10_inTheWay_130i, sX10_inTheWay_130r, sX10_inTheWay_130z, sX10_inTheWay_130o, sX10_inTheWay_131i, sX10_inTheWay_131r, sX10_inTheWay_131z, sX10_inTheWay_131o, sX10_inTheWay_134, mCk, mG0, mG1, mG2, mG3, mG4, mG5, mG6, mG7, mG8, mG9, mG10, mG11, mG12, mG13, mG14, mG15, mG16, mG17, mG18, mG19, mG20, mP2, mP5, mP6, mP7, mP9, mP11, mP14, mA1, mS1, mA2, mS2, mA3, mS3, mA4, mS4, mA5, mS5, mA6, mS6, mA7, mS7, mA8, mS8, mA9, mS9, mA10, mS10, mA11, mS11, mA12, mS12, mA13, mS13, mA14, mS14, zpush_v, zpush_n, gCk, gAi, gSi, gSz, gLi, gLq, ↓if_pos, ↓if_neg, hv1, nI_add, pi, g1, g2, m_lineAt, eb, sh, oi, hhi, hhb]
              · have N := N (some (.int (nI 1))) (fun z => c6 z.2.2.2)
                simp (disch := (first | omega | assumption | (simp (disch := omega) only [Int32.lt_iff_toInt_lt, Int32.le_iff_toInt_le, ← Int32.toInt_inj, nI_toInt, zi_m1, zi_m2, zi_m3, zi_m9]; omega) | decide)) only [sX10_inTheWay_7, sX10_inTheWay_8, sX10_inTheWay_11, sX10_inTheWay_12, sX10_inTheWay_13, sX10_inTheWay_16, sX10_inTheWay_18, sX10_inTheWay_19, sX10_inTheWay_22, sX10_inTheWay_23, sX10_inTheWay_26, sX10_inTheWay_28, sX10_inTheWay_29, sX10_inTheWay_32, sX10_inTheWay_33, sX10_inTheWay_35, sX10_inTheWay_38, sX10_inTheWay_39, sX10_inTheWay_40, sX10_inTheWay_43, sX10_inTheWay_46, sX10_inTheWay_47, sX10_inTheWay_49, sX10_inTheWay_50, sX10_inTheWay_53, sX10_inTheWay_54, sX10_inTheWay_57, sX10_inTheWay_58, sX10_inTheWay_59, sX10_inTheWay_60, sX10_inTheWay_63, sX10_inTheWay_66, sX10_inTheWay_67, sX10_inTheWay_70, sX10_inTheWay_71i, sX10_inTheWay_71r, sX10_inTheWay_71z, sX10_inTheWay_71o, sX10_inTheWay_73, sX10_inTheWay_75, sX10_inTheWay_78, sX10_inTheWay_79, sX10_inTheWay_82, sX10_inTheWay_84, sX10_inTheWay_85, sX10_inTheWay_86, sX10_inTheWay_87, sX10_inTheWay_90, sX10_inTheWay_91, sX10_inTheWay_92, sX10_inTheWay_93, sX10_inTheWay_96, sX10_inTheWay_97, sX10_inTheWay_98, sX10_inTheWay_101, sX10_inTheWay_103, sX10_inTheWay_104, sX10_inTheWay_105, sX10_inTheWay_108, sX10_inTheWay_110, sX10_inTheWay_111, sX10_inTheWay_112, sX10_inTheWay_115, sX10_inTheWay_116, sX10_inTheWay_119, sX10_inTheWay_121, sX10_inTheWay_122, sX10_inTheWay_123, sX10_inTheWay_126, sX10_inTheWay_128, sX10_inTheWay_129, sX10_inTheWay_130i, sX10_inTheWay_130r, sX10_inTheWay_130z, sX10_inTheWay_130o, sX10_inTheWay_131i, sX10_inTheWay_131r, sX10_inTheWay_131z, sX10_inTheWay_131o, sX10_inTheWay_134, mCk, mG0, mG1, mG2, mG3, mG4, mG5, mG6, mG7, mG8, mG9, mG10, mG11, mG12, mG13, mG14, mG15, mG16, mG17, mG18, mG19, mG20, mP2, mP5, mP6, mP7, mP9, mP11, mP14, mA1, mS1, mA2, mS2, mA3, mS3, mA4, mS4, mA5, mS5, mA6, mS6, mA7, mS7, mA8, mS8, mA9, mS9, mA10, mS10, mA11, mS11, mA12, mS12, mA13, mS13, mA14, mS14, zpush_v, zpush_n, gCk, gAi, gSi, gSz, gLi, gLq, ↓if_pos, ↓if_neg, hv1, nI_add, pi, g1, g2, m_lineAt, eb, sh, oi, hhi, hhb]
                exact N
            · have N := N (some (.int (nI 1))) (fun z => c5 z.2.2.1)
              simp (disch := (first | omega | assumption | (simp (disch := omega) only [Int32.lt_iff_toInt_lt, Int32.le_iff_toInt_le, ← Int32.toInt_inj, nI_toInt, zi_m1, zi_m2, zi_m3, zi_m9]; omega) | decide)) only [sX10_inTheWay_7, sX10_inTheWay_8, sX10_inTheWay_11, sX10_inTheWay_12, sX10_inTheWay_13, sX10_inTheWay_16, sX10_inTheWay_18, sX10_inTheWay_19, sX10_inTheWay_22, sX10_inTheWay_23, sX10_inTheWay_26, sX10_inTheWay_28, sX10_inTheWay_29, sX10_inTheWay_32, sX10_inTheWay_33, sX10_inTheWay_35, sX10_inTheWay_38, sX10_inTheWay_39, sX10_inTheWay_40, sX10_inTheWay_43, sX10_inTheWay_46, sX10_inTheWay_47, sX10_inTheWay_49, sX10_inTheWay_50, sX10_inTheWay_53, sX10_inTheWay_54, sX10_inTheWay_57, sX10_inTheWay_58, sX10_inTheWay_59, sX10_inTheWay_60, sX10_inTheWay_63, sX10_inTheWay_66, sX10_inTheWay_67, sX10_inTheWay_70, sX10_inTheWay_71i, sX10_inTheWay_71r, sX10_inTheWay_71z, sX10_inTheWay_71o, sX10_inTheWay_73, sX10_inTheWay_75, sX10_inTheWay_78, sX10_inTheWay_79, sX10_inTheWay_82, sX10_inTheWay_84, sX10_inTheWay_85, sX10_inTheWay_86, sX10_inTheWay_87, sX10_inTheWay_90, sX10_inTheWay_91, sX10_inTheWay_92, sX10_inTheWay_93, sX10_inTheWay_96, sX10_inTheWay_97, sX10_inTheWay_98, sX10_inTheWay_101, sX10_inTheWay_103, sX10_inTheWay_104, sX10_inTheWay_105, sX10_inTheWay_108, sX10_inTheWay_110, sX10_inTheWay_111, sX10_inTheWay_112, sX10_inTheWay_115, sX10_inTheWay_116, sX10_inTheWay_119, sX10_inTheWay_121, sX10_inTheWay_122, sX10_inTheWay_123, sX10_inTheWay_126, sX10_inTheWay_128, sX10_inTheWay_129, sX10_inTheWay_130i, sX10_inTheWay_130r, sX10_inTheWay_130z, sX10_inTheWay_130o, sX10_inTheWay_131i, sX10_inTheWay_131r, sX10_inTheWay_131z, sX10_inTheWay_131o, sX10_inTheWay_134, mCk, mG0, mG1, mG2, mG3, mG4, mG5, mG6, mG7, mG8, mG9, mG10, mG11, mG12, mG13, mG14, mG15, mG16, mG17, mG18, mG19, mG20, mP2, mP5, mP6, mP7, mP9, mP11, mP14, mA1, mS1, mA2, mS2, mA3, mS3, mA4, mS4, mA5, mS5, mA6, mS6, mA7, mS7, mA8, mS8, mA9, mS9, mA10, mS10, mA11, mS11, mA12, mS12, mA13, mS13, mA14, mS14, zpush_v, zpush_n, gCk, gAi, gSi, gSz, gLi, gLq, ↓if_pos, ↓if_neg, hv1, nI_add, pi, g1, g2, m_lineAt, eb, sh, oi, hhi, hhb]
              exact N
          · rw [bI_f c4] at sh
            have N := N (some (.int (nI 0))) (fun z => c4 z.2.1.2)
            simp (disch := (first | omega | assumption | (simp (disch := omega) only [Int32.lt_iff_toInt_lt, Int32.le_iff_toInt_le, ← Int32.toInt_inj, nI_toInt, zi_m1, zi_m2, zi_m3, zi_m9]; omega) | decide)) only [sX10_inTheWay_7, sX10_inTheWay_8, sX10_inTheWay_11, sX10_inTheWay_12, sX10_inTheWay_13, sX10_inTheWay_16, sX10_inTheWay_18, sX10_inTheWay_19, sX10_inTheWay_22, sX10_inTheWay_23, sX10_inTheWay_26, sX10_inTheWay_28, sX10_inTheWay_29, sX10_inTheWay_32, sX10_inTheWay_33, sX10_inTheWay_35, sX10_inTheWay_38, sX10_inTheWay_39, sX10_inTheWay_40, sX10_inTheWay_43, sX10_inTheWay_46, sX10_inTheWay_47, sX10_inTheWay_49, sX10_inTheWay_50, sX10_inTheWay_53, sX10_inTheWay_54, sX10_inTheWay_57, sX10_inTheWay_58, sX10_inTheWay_59, sX10_inTheWay_60, sX10_inTheWay_63, sX10_inTheWay_66, sX10_inTheWay_67, sX10_inTheWay_70, sX10_inTheWay_71i, sX10_inTheWay_71r, sX10_inTheWay_71z, sX10_inTheWay_71o, sX10_inTheWay_73, sX10_inTheWay_75, sX10_inTheWay_78, sX10_inTheWay_79, sX10_inTheWay_82, sX10_inTheWay_84, sX10_inTheWay_85, sX10_inTheWay_86, sX10_inTheWay_87, sX10_inTheWay_90, sX10_inTheWay_91, sX10_inTheWay_92, sX10_inTheWay_93, sX10_inTheWay_96, sX10_inTheWay_97, sX10_inTheWay_98, sX10_inTheWay_101, sX10_inTheWay_103, sX10_inTheWay_104, sX10_inTheWay_105, sX10_inTheWay_108, sX10_inTheWay_110, sX10_inTheWay_111, sX10_inTheWay_112, sX10_inTheWay_115, sX10_inTheWay_116, sX10_inTheWay_119, sX10_inTheWay_121, sX10_inTheWay_122, sX10_inTheWay_123, sX10_inTheWay_126, sX10_inTheWay_128, sX10_inTheWay_129, sX10_inTheWay_130i, sX10_inTheWay_130r, sX10_inTheWay_130z, sX10_inTheWay_130o, sX10_inTheWay_131i, sX10_inTheWay_131r, sX10_inTheWay_131z, sX10_inTheWay_131o, sX10_inTheWay_134, mCk, mG0, mG1, mG2, mG3, mG4, mG5, mG6, mG7, mG8, mG9, mG10, mG11, mG12, mG13, mG14, mG15, mG16, mG17, mG18, mG19, mG20, mP2, mP5, mP6, mP7, mP9, mP11, mP14, mA1, mS1, mA2, mS2, mA3, mS3, mA4, mS4, mA5, mS5, mA6, mS6, mA7, mS7, mA8, mS8, mA9, mS9, mA10, mS10, mA11, mS11, mA12, mS12, mA13, mS13, mA14, mS14, zpush_v, zpush_n, gCk, gAi, gSi, gSz, gLi, gLq, ↓if_pos, ↓if_neg, hv1, nI_add, pi, g1, g2, m_lineAt, eb, sh]
            exact N
        · have N := N (some (.int (nI 0))) (fun z => c3 z.2.1.1)
          simp (disch := (first | omega | assumption | (simp (disch := omega) only [Int32.lt_iff_toInt_lt, Int32.le_iff_toInt_le, ← Int32.toInt_inj, nI_toInt, zi_m1, zi_m2, zi_m3, zi_m9]; omega) | decide)) only [sX10_inTheWay_7, sX10_inTheWay_8, sX10_inTheWay_11, sX10_inTheWay_12, sX10_inTheWay_13, sX10_inTheWay_16, sX10_inTheWay_18, sX10_inTheWay_19, sX10_inTheWay_22, sX10_inTheWay_23, sX10_inTheWay_26, sX10_inTheWay_28, sX10_inTheWay_29, sX10_inTheWay_32, sX10_inTheWay_33, sX10_inTheWay_35, sX10_inTheWay_38, sX10_inTheWay_39, sX10_inTheWay_40, sX10_inTheWay_43, sX10_inTheWay_46, sX10_inTheWay_47, sX10_inTheWay_49, sX10_inTheWay_50, sX10_inTheWay_53, sX10_inTheWay_54, sX10_inTheWay_57, sX10_inTheWay_58, sX10_inTheWay_59, sX10_inTheWay_60, sX10_inTheWay_63, sX10_inTheWay_66, sX10_inTheWay_67, sX10_inTheWay_70, sX10_inTheWay_71i, sX10_inTheWay_71r, sX10_inTheWay_71z, sX10_inTheWay_71o, sX10_inTheWay_73, sX10_inTheWay_75, sX10_inTheWay_78, sX10_inTheWay_79, sX10_inTheWay_82, sX10_inTheWay_84, sX10_inTheWay_85, sX10_inTheWay_86, sX10_inTheWay_87, sX10_inTheWay_90, sX10_inTheWay_91, sX10_inTheWay_92, sX10_inTheWay_93, sX10_inTheWay_96, sX10_inTheWay_97, sX10_inTheWay_98, sX10_inTheWay_101, sX10_inTheWay_103, sX10_inTheWay_104, sX10_inTheWay_105, sX10_inTheWay_108, sX10_inTheWay_110, sX10_inTheWay_111, sX10_inTheWay_112, sX10_inTheWay_115, sX10_inTheWay_116, sX10_inTheWay_119, sX10_inTheWay_121, sX10_inTheWay_122, sX10_inTheWay_123, sX10_inTheWay_126, sX10_inTheWay_128, sX10_inTheWay_129, sX10_inTheWay_130i, sX10_inTheWay_130r, sX10_inTheWay_130z, sX10_inTheWay_130o, sX10_inTheWay_131i, sX10_inTheWay_131r, sX10_inTheWay_131z, sX10_inTheWay_131o, sX10_inTheWay_134, mCk, mG0, mG1, mG2, mG3, mG4, mG5, mG6, mG7, mG8, mG9, mG10, mG11, mG12, mG13, mG14, mG15, mG16, mG17, mG18, mG19, mG20, mP2, mP5, mP6, mP7, mP9, mP11, mP14, mA1, mS1, mA2, mS2, mA3, mS3, mA4, mS4, mA5, mS5, mA6, mS6, mA7, mS7, mA8, mS8, mA9, mS9, mA10, mS10, mA11, mS11, mA12, mS12, mA13, mS13, mA14, mS14, zpush_v, zpush_n, gCk, gAi, gSi, gSz, gLi, gLq, ↓if_pos, ↓if_neg, hv1, nI_add, pi, g1, g2]
          exact N
      · rw [bI_f c2] at pi
        have N := N (some (.int (nI 0))) (fun z => c2 z.1.2)
        simp (disch := (first | omega | assumption | (simp (disch := omega) only [Int32.lt_iff_toInt_lt, Int32.le_iff_toInt_le, ← Int32.toInt_inj, nI_toInt, zi_m1, zi_m2, zi_m3, zi_m9]; omega) | decide)) only [sX10_inTheWay_7, sX10_inTheWay_8, sX10_inTheWay_11, sX10_inTheWay_12, sX10_inTheWay_13, sX10_inTheWay_16, sX10_inTheWay_18, sX10_inTheWay_19, sX10_inTheWay_22, sX10_inTheWay_23, sX10_inTheWay_26, sX10_inTheWay_28, sX10_inTheWay_29, sX10_inTheWay_32, sX10_inTheWay_33, sX10_inTheWay_35, sX10_inTheWay_38, sX10_inTheWay_39, sX10_inTheWay_40, sX10_inTheWay_43, sX10_inTheWay_46, sX10_inTheWay_47, sX10_inTheWay_49, sX10_inTheWay_50, sX10_inTheWay_53, sX10_inTheWay_54, sX10_inTheWay_57, sX10_inTheWay_58, sX10_inTheWay_59, sX10_inTheWay_60, sX10_inTheWay_63, sX10_inTheWay_66, sX10_inTheWay_67, sX10_inTheWay_70, sX10_inTheWay_71i, sX10_inTheWay_71r, sX10_inTheWay_71z, sX10_inTheWay_71o, sX10_inTheWay_73, sX10_inTheWay_75, sX10_inTheWay_78, sX10_inTheWay_79, sX10_inTheWay_82, sX10_inTheWay_84, sX10_inTheWay_85, sX10_inTheWay_86, sX10_inTheWay_87, sX10_inTheWay_90, sX10_inTheWay_91, sX10_inTheWay_92, sX10_inTheWay_93, sX10_inTheWay_96, sX10_inTheWay_97, sX10_inTheWay_98, sX10_inTheWay_101, sX10_inTheWay_103, sX10_inTheWay_104, sX10_inTheWay_105, sX10_inTheWay_108, sX10_inTheWay_110, sX10_inTheWay_111, sX10_inTheWay_112, sX10_inTheWay_115, sX10_inTheWay_116, sX10_inTheWay_119, sX10_inTheWay_121, sX10_inTheWay_122, sX10_inTheWay_123, sX10_inTheWay_126, sX10_inTheWay_128, sX10_inTheWay_129, sX10_inTheWay_130i, sX10_inTheWay_130r, sX10_inTheWay_130z, sX10_inTheWay_130o, sX10_inTheWay_131i, sX10_inTheWay_131r, sX10_inTheWay_131z, sX10_inTheWay_131o, sX10_inTheWay_134, mCk, mG0, mG1, mG2, mG3, mG4, mG5, mG6, mG7, mG8, mG9, mG10, mG11, mG12, mG13, mG14, mG15, mG16, mG17, mG18, mG19, mG20, mP2, mP5, mP6, mP7, mP9, mP11, mP14, mA1, mS1, mA2, mS2, mA3, mS3, mA4, mS4, mA5, mS5, mA6, mS6, mA7, mS7, mA8, mS8, mA9, mS9, mA10, mS10, mA11, mS11, mA12, mS12, mA13, mS13, mA14, mS14, zpush_v, zpush_n, gCk, gAi, gSi, gSz, gLi, gLq, ↓if_pos, ↓if_neg, hv1, nI_add, pi]
        exact N
theorem m_inWay {st : Stt} (hv : encV v st) (hw : WfSt st) {P : Nat → Bool} {off : Nat → Nat} (hpl : ∀ n, n < st.2.1.length → pl n = bI (P n = true)) (hos : ∀ n, n < st.2.1.length → P n = true → os n = nI (off n) ∧ off n ≤ 3400) (hhg : ∀ n, n < st.2.1.length → hgh n = nI (hgL st.1 (lnA st.2.1 n))) {b a : Nat} (hb : b < st.2.1.length) (ha : a ≤ 3400) (Q : Option Value → Hp → Prop) : WPm 151 [.ref M, .int (nI b), .int (nI a)] (mkM h0 M v pa pm fl tx ty ct wr it im sg sm lat hat sy nw os hgh pl asd lks) Q = Q (some (.int (nI (iwF st.1 st.2.1 P off b a st.2.1.length)))) (mkM h0 M v pa pm fl tx ty ct wr it im sg sm lat hat sy nw os hgh pl asd lks) := by
  rw [eX10_inTheWay, ← l_inWay hv hw hpl hos hhg hb ha Q _ 0 none rfl]
  simp (disch := (first | omega | assumption | (simp (disch := omega) only [Int32.lt_iff_toInt_lt, Int32.le_iff_toInt_le, ← Int32.toInt_inj, nI_toInt, zi_m1, zi_m2, zi_m3, zi_m9]; omega) | decide)) only [sX10_inTheWay_0, sX10_inTheWay_1i, sX10_inTheWay_1r, sX10_inTheWay_1z, sX10_inTheWay_1o, sX10_inTheWay_2, sX10_inTheWay_3i, sX10_inTheWay_3r, sX10_inTheWay_3z, sX10_inTheWay_3o, zpush_v, zpush_n, gCk, gAi, gSi, gSz, gLi, gLq, ↓if_pos, ↓if_neg]
  rfl
end MJ
/-- the first among those for which u holds -/
def bsM (bg : Nat → Nat) (u : Nat → Bool) : Nat → Option Nat
  | 0 => none
  | i + 1 => match bsM bg u i with
    | none => if u i = true then some i else none
    | some b => if u i = true ∧ bg i < bg b then some i else some b
theorem bsM_ok (bg : Nat → Nat) (u : Nat → Bool) : ∀ i, (∀ b, bsM bg u i = some b → b < i ∧ u b = true ∧ ∀ x, x < i → u x = true → x = b ∨ pBef bg b x) ∧ (bsM bg u i = none → ∀ x, x < i → ¬ u x = true) := by
  intro i
  induction i with
  | zero => exact ⟨fun b h => (by cases h), fun _ x hx => absurd hx (Nat.not_lt_zero _)⟩
  | succ i ih =>
    obtain ⟨i1, i2⟩ := ih
    cases hq : bsM bg u i with
    | none =>
      have i2 := i2 hq
      simp only [bsM, hq]
      by_cases c : u i = true
      · rw [if_pos c]
        refine ⟨fun b h => ?_, fun h => by cases h⟩
        cases h
        refine ⟨Nat.lt_succ_self _, c, fun x hx hu => ?_⟩
        by_cases e : x = i
        · exact Or.inl e
        · exact absurd hu (i2 x (by omega))
      · rw [if_neg c]
        refine ⟨fun b h => (by cases h), fun _ x hx => ?_⟩
        by_cases e : x = i
        · rw [e]; exact c
        · exact i2 x (by omega)
    | some b =>
      obtain ⟨j1, j2, j3⟩ := i1 b hq
      simp only [bsM, hq]
      by_cases c : u i = true ∧ bg i < bg b
      · rw [if_pos c]
        refine ⟨fun b' h => ?_, fun h => by cases h⟩
        cases h
        refine ⟨Nat.lt_succ_self _, c.1, fun x hx hu => ?_⟩
        by_cases e : x = i
        · exact Or.inl e
        · right
          rcases j3 x (by omega) hu with z | z
          · rw [z]; exact Or.inl c.2
          · unfold pBef at z ⊢
            omega
      · rw [if_neg c]
        refine ⟨fun b' h => ?_, fun h => by cases h⟩
        cases h
        refine ⟨by omega, j2, fun x hx hu => ?_⟩
        by_cases e : x = i
        · right
          rw [e] at hu ⊢
          have : ¬ bg i < bg b := fun z => c ⟨hu, z⟩
          unfold pBef
          omega
        · exact j3 x (by omega) hu
/-- those at the first places -/
def plB (f : Nat → Nat) : Nat → Nat → Bool
  | 0, _ => false
  | t + 1, x => Nat.beq (f t) x || plB f t x
theorem plB_iff {f : Nat → Nat} {x : Nat} : ∀ t, plB f t x = true ↔ ∃ j, j < t ∧ f j = x := by
  intro t
  induction t with
  | zero => exact ⟨fun h => (by cases h), fun ⟨j, h, _⟩ => absurd h (Nat.not_lt_zero _)⟩
  | succ t ih =>
    simp only [plB, Bool.or_eq_true, ih]
    constructor
    · rintro (h | ⟨j, j1, j2⟩)
      · exact ⟨t, by omega, Nat.eq_of_beq_eq_true h⟩
      · exact ⟨j, by omega, j2⟩
    · rintro ⟨j, j1, j2⟩
      by_cases e : j = t
      · left
        rw [← j2, e]
        exact Nat.beq_refl _
      · exact Or.inr ⟨j, by omega, j2⟩
theorem bsM_next {n t : Nat} {bg f : Nat → Nat} (hS : pSrt bg n f) (ht : t < n) : bsM bg (fun x => !plB f t x) n = some (f t) := by
  have hu : ∀ x, ((fun x => !plB f t x) x = true) ↔ ¬ ∃ j, j < t ∧ f j = x := fun x => by
    rw [← plB_iff]
    simp
  have ft : ¬ ∃ j, j < t ∧ f j = f t := by
    rintro ⟨j, j1, j2⟩
    have := hS.inj (by omega) ht j2
    omega
  obtain ⟨h1, h2⟩ := bsM_ok bg (fun x => !plB f t x) n
  cases hq : bsM bg (fun x => !plB f t x) n with
  | none => exact absurd ((hu _).mpr ft) (h2 hq _ (hS.1 t ht))
  | some b =>
    obtain ⟨b1, b2, b3⟩ := h1 b hq
    have b2 := (hu b).mp b2
    obtain ⟨j, j1, j2⟩ := hS.2.1 b b1
    have hj : t ≤ j := by
      rcases Nat.lt_or_ge j t with c | c
      · exact absurd ⟨j, c, j2⟩ b2
      · exact c
    rcases b3 _ (hS.1 t ht) ((hu _).mpr ft) with z | z
    · rw [z]
    · by_cases e : j = t
      · rw [← j2, e]
      · have := hS.2.2 t j (by omega) j1
        rw [j2] at this
        unfold pBef at this z
        omega
