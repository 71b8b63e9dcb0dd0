/-! the model: unstyle, flatten, typing -/
def aL (f : Nat → Bool) (b : Bool) : Nat → Bool
  | 0 => b
  | i + 1 => aL f b i && f i
theorem aL_iff {f : Nat → Bool} {b : Bool} : ∀ n, aL f b n = true ↔ b = true ∧ ∀ i, i < n → f i = true := by
  intro n
  induction n with
  | zero => exact ⟨fun h => ⟨h, fun i hi => absurd hi (Nat.not_lt_zero _)⟩, fun h => h.1⟩
  | succ n ih =>
    simp only [aL, Bool.and_eq_true, ih]
    constructor
    · rintro ⟨⟨h1, h2⟩, h3⟩
      refine ⟨h1, fun i hi => ?_⟩
      by_cases c : i = n
      · rw [c]; exact h3
      · exact h2 i (by omega)
    · rintro ⟨h1, h2⟩
      exact ⟨⟨h1, fun i hi => h2 i (by omega)⟩, h2 n (by omega)⟩
theorem chl_z {S : Sh} {t : Nat} : ∀ n, chl S t n = 0 ↔ ∀ i, i < n → ¬ S.2.1 i = some t := by
  intro n
  induction n with
  | zero => exact ⟨fun _ i hi => absurd hi (Nat.not_lt_zero _), fun _ => rfl⟩
  | succ n ih =>
    simp only [chl]
    constructor
    · intro h i hi
      by_cases c : i = n
      · rw [c]
        intro q
        rw [if_pos q] at h
        omega
      · exact ih.mp (by omega) i (by omega)
    · intro h
      rw [if_neg (h n (by omega)), ih.mpr (fun i hi => h i (by omega))]
theorem hasSt_iff {t : Nat} {L : List Ln} : hasSt t L = true ↔ ∃ i, i < L.length ∧ (lnA L i).2.2.1 = some t := by
  unfold hasSt
  rw [List.any_eq_true]
  constructor
  · rintro ⟨x, hx, h⟩
    obtain ⟨i, hi, rfl⟩ := List.getElem_of_mem hx
    refine ⟨i, hi, ?_⟩
    rw [lnA_at (List.getElem?_eq_getElem hi)]
    exact eq_of_beq h
  · rintro ⟨i, hi, h⟩
    exact ⟨_, lnA_mem hi, by rw [h]; exact beq_self_eq_true _⟩
section ME
variable {h0 : Hp} {M : Nat} {v pa fl tx it sg lat hat nw os hgh pl asd lks : Nat → Int32} {pm ty ct wr im sm sy : Int32}
variable {p : PS} {h : Hp}
theorem l_un1 {S : Sh} (hv : encS v S) (hw : WfS S) {t : Nat} (ht : t < 10) (Q : Option Value → Hp → Prop) : ∀ (m i : Nat), m + i = S.1 →
    WP 119 21 [some (.ref M), some (.int (nI t)), some (.int (bI (aL (fun s => decide (¬ S.2.1 s = some t)) true i = true))), some (.int (nI i))] [] (mkM h0 M v pa pm fl tx ty ct wr it im sg sm lat hat sy nw os hgh pl asd lks) Q = WP 119 63 [some (.ref M), some (.int (nI t)), some (.int (bI (aL (fun s => decide (¬ S.2.1 s = some t)) true S.1 = true))), some (.int (nI S.1))] [] (mkM h0 M v pa pm fl tx ty ct wr it im sg sm lat hat sy nw os hgh pl asd lks) Q := by
  have h10 := hw.1
  have hv0 := hv.1
  intro m
  induction m with
  | zero =>
    intro i hi
    have hi : i = S.1 := by omega
    subst hi
    rw [sX10_unstyle_21]
    simp (disch := (first | omega | assumption | (simp (disch := omega) only [Int32.lt_iff_toInt_lt, Int32.le_iff_toInt_le, ← Int32.toInt_inj, nI_toInt, zi_m1, zi_m2, zi_m3, zi_m9]; omega) | decide)) only [sX10_unstyle_22, sX10_unstyle_23, sX10_unstyle_26, sX10_unstyle_27, sX10_unstyle_28, mCk, mG0, mG1, mG2, mG3, mG4, mG5, mG6, mG7, mG8, mG9, mG10, mG11, mG12, mG13, mG14, mG15, mG16, mG17, mG18, mG19, mG20, mP2, mP5, mP6, mP7, mP9, mP11, mP14, mA1, mS1, mA2, mS2, mA3, mS3, mA4, mS4, mA5, mS5, mA6, mS6, mA7, mS7, mA8, mS8, mA9, mS9, mA10, mS10, mA11, mS11, mA12, mS12, mA13, mS13, mA14, mS14, zpush_v, zpush_n, gCk, gAi, gSi, gSz, gLi, gLq, ↓if_pos, ↓if_neg, hv0]
  | succ m ih =>
    intro i hi
    have e1 := (hv.2 i (by omega)).1
    rw [← ih (i + 1) (by omega), sX10_unstyle_21]
    by_cases b : aL (fun s => decide (¬ S.2.1 s = some t)) true i = true
    · rw [bI_t b]
      by_cases hp : S.2.1 i = some t
      · rw [hp, eN_s] at e1
        rw [bI_f (p := aL _ true (i + 1) = true) (by simp [aL, hp])]
        simp (disch := (first | omega | assumption | (simp (disch := omega) only [Int32.lt_iff_toInt_lt, Int32.le_iff_toInt_le, ← Int32.toInt_inj, nI_toInt, zi_m1, zi_m2, zi_m3, zi_m9]; omega) | decide)) only [sX10_unstyle_22, sX10_unstyle_23, sX10_unstyle_26, sX10_unstyle_27, sX10_unstyle_28, sX10_unstyle_31, sX10_unstyle_32, sX10_unstyle_35, sX10_unstyle_36, sX10_unstyle_39, sX10_unstyle_40, sX10_unstyle_43, sX10_unstyle_45, sX10_unstyle_46, sX10_unstyle_47, sX10_unstyle_48, sX10_unstyle_51, sX10_unstyle_52, sX10_unstyle_55, sX10_unstyle_56i, sX10_unstyle_56r, sX10_unstyle_56z, sX10_unstyle_56o, sX10_unstyle_57i, sX10_unstyle_57r, sX10_unstyle_57z, sX10_unstyle_57o, sX10_unstyle_60, mCk, mG0, mG1, mG2, mG3, mG4, mG5, mG6, mG7, mG8, mG9, mG10, mG11, mG12, mG13, mG14, mG15, mG16, mG17, mG18, mG19, mG20, mP2, mP5, mP6, mP7, mP9, mP11, mP14, mA1, mS1, mA2, mS2, mA3, mS3, mA4, mS4, mA5, mS5, mA6, mS6, mA7, mS7, mA8, mS8, mA9, mS9, mA10, mS10, mA11, mS11, mA12, mS12, mA13, mS13, mA14, mS14, zpush_v, zpush_n, gCk, gAi, gSi, gSz, gLi, gLq, ↓if_pos, ↓if_neg, hv0, m_placeOf, nI_add, e1]
      · have hne := eN_ne hw (by omega) ht hp
        rw [bI_t (p := aL _ true (i + 1) = true) (by simp only [aL, b, hp, not_false_eq_true, decide_true, Bool.and_self])]
        simp (disch := (first | omega | assumption | (simp (disch := omega) only [Int32.lt_iff_toInt_lt, Int32.le_iff_toInt_le, ← Int32.toInt_inj, nI_toInt, zi_m1, zi_m2, zi_m3, zi_m9]; omega) | decide)) only [sX10_unstyle_22, sX10_unstyle_23, sX10_unstyle_26, sX10_unstyle_27, sX10_unstyle_28, sX10_unstyle_31, sX10_unstyle_32, sX10_unstyle_35, sX10_unstyle_36, sX10_unstyle_39, sX10_unstyle_40, sX10_unstyle_43, sX10_unstyle_45, sX10_unstyle_46, sX10_unstyle_47, sX10_unstyle_48, sX10_unstyle_51, sX10_unstyle_52, sX10_unstyle_55, sX10_unstyle_56i, sX10_unstyle_56r, sX10_unstyle_56z, sX10_unstyle_56o, sX10_unstyle_57i, sX10_unstyle_57r, sX10_unstyle_57z, sX10_unstyle_57o, sX10_unstyle_60, mCk, mG0, mG1, mG2, mG3, mG4, mG5, mG6, mG7, mG8, mG9, mG10, mG11, mG12, mG13, mG14, mG15, mG16, mG17, mG18, mG19, mG20, mP2, mP5, mP6, mP7, mP9, mP11, mP14, mA1, mS1, mA2, mS2, mA3, mS3, mA4, mS4, mA5, mS5, mA6, mS6, mA7, mS7, mA8, mS8, mA9, mS9, mA10, mS10, mA11, mS11, mA12, mS12, mA13, mS13, mA14, mS14, zpush_v, zpush_n, gCk, gAi, gSi, gSz, gLi, gLq, ↓if_pos, ↓if_neg, hv0, m_placeOf, nI_add, e1]
    · rw [bI_f b, bI_f (p := aL _ true (i + 1) = true) (by simp only [aL, Bool.and_eq_true]; exact fun q => b q.1)]
      simp (disch := (first | omega | assumption | (simp (disch := omega) only [Int32.lt_iff_toInt_lt, Int32.le_iff_toInt_le, ← Int32.toInt_inj, nI_toInt, zi_m1, zi_m2, zi_m3, zi_m9]; omega) | decide)) only [sX10_unstyle_22, sX10_unstyle_23, sX10_unstyle_26, sX10_unstyle_27, sX10_unstyle_28, sX10_unstyle_31, sX10_unstyle_32, sX10_unstyle_35, sX10_unstyle_36, sX10_unstyle_39, sX10_unstyle_40, sX10_unstyle_43, sX10_unstyle_45, sX10_unstyle_46, sX10_unstyle_47, sX10_unstyle_48, sX10_unstyle_51, sX10_unstyle_52, sX10_unstyle_55, sX10_unstyle_56i, sX10_unstyle_56r, sX10_unstyle_56z, sX10_unstyle_56o, sX10_unstyle_57i, sX10_unstyle_57r, sX10_unstyle_57z, sX10_unstyle_57o, sX10_unstyle_60, mCk, mG0, mG1, mG2, mG3, mG4, mG5, mG6, mG7, mG8, mG9, mG10, mG11, mG12, mG13, mG14, mG15, mG16, mG17, mG18, mG19, mG20, mP2, mP5, mP6, mP7, mP9, mP11, mP14, mA1, mS1, mA2, mS2, mA3, mS3, mA4, mS4, mA5, mS5, mA6, mS6, mA7, mS7, mA8, mS8, mA9, mS9, mA10, mS10, mA11, mS11, mA12, mS12, mA13, mS13, mA14, mS14, zpush_v, zpush_n, gCk, gAi, gSi, gSz, gLi, gLq, ↓if_pos, ↓if_neg, hv0, nI_add]
theorem l_un2 {st : Stt} (hv : encV v st) (hw : WfSt st) {t : Nat} (ht : t < 10) {c : Bool} (Q : Option Value → Hp → Prop) : ∀ (m i : Nat), m + i = st.2.1.length →
    WP 119 65 [some (.ref M), some (.int (nI t)), some (.int (bI (aL (fun s => decide (¬ (lnA st.2.1 s).2.2.1 = some t)) c i = true))), some (.int (nI i))] [] (mkM h0 M v pa pm fl tx ty ct wr it im sg sm lat hat sy nw os hgh pl asd lks) Q = WP 119 106 [some (.ref M), some (.int (nI t)), some (.int (bI (aL (fun s => decide (¬ (lnA st.2.1 s).2.2.1 = some t)) c st.2.1.length = true))), some (.int (nI st.2.1.length))] [] (mkM h0 M v pa pm fl tx ty ct wr it im sg sm lat hat sy nw os hgh pl asd lks) Q := by
  have h16 := hw.2.1.1
  have h10 := hw.1.1
  have hv1 := hv.2.1
  intro m
  induction m with
  | zero =>
    intro i hi
    have hi : i = st.2.1.length := by omega
    subst hi
    rw [sX10_unstyle_65]
    simp (disch := (first | omega | assumption | (simp (disch := omega) only [Int32.lt_iff_toInt_lt, Int32.le_iff_toInt_le, ← Int32.toInt_inj, nI_toInt, zi_m1, zi_m2, zi_m3, zi_m9]; omega) | decide)) only [sX10_unstyle_66, sX10_unstyle_67, sX10_unstyle_70, sX10_unstyle_71, sX10_unstyle_72, mCk, mG0, mG1, mG2, mG3, mG4, mG5, mG6, mG7, mG8, mG9, mG10, mG11, mG12, mG13, mG14, mG15, mG16, mG17, mG18, mG19, mG20, mP2, mP5, mP6, mP7, mP9, mP11, mP14, mA1, mS1, mA2, mS2, mA3, mS3, mA4, mS4, mA5, mS5, mA6, mS6, mA7, mS7, mA8, mS8, mA9, mS9, mA10, mS10, mA11, mS11, mA12, mS12, mA13, mS13, mA14, mS14, zpush_v, zpush_n, gCk, gAi, gSi, gSz, gLi, gLq, ↓if_pos, ↓if_neg, hv1]
  | succ m ih =>
    intro i hi
    have hi2 : i < st.2.1.length := by omega
    have e1 := (encL.at hv.2.2.2 hi2).2.2.1
    have ws := hw.2.2.1 _ (lnA_mem hi2)
    rw [← ih (i + 1) (by omega), sX10_unstyle_65]
    by_cases b : aL (fun s => decide (¬ (lnA st.2.1 s).2.2.1 = some t)) c i = true
    · rw [bI_t b]
      by_cases hp : (lnA st.2.1 i).2.2.1 = some t
      · rw [hp, eN_s] at e1
        rw [bI_f (p := aL _ c (i + 1) = true) (by simp [aL, hp])]
        simp (disch := (first | omega | assumption | (simp (disch := omega) only [Int32.lt_iff_toInt_lt, Int32.le_iff_toInt_le, ← Int32.toInt_inj, nI_toInt, zi_m1, zi_m2, zi_m3, zi_m9]; omega) | decide)) only [sX10_unstyle_66, sX10_unstyle_67, sX10_unstyle_70, sX10_unstyle_71, sX10_unstyle_72, sX10_unstyle_75, sX10_unstyle_76, sX10_unstyle_79, sX10_unstyle_80, sX10_unstyle_83, sX10_unstyle_84, sX10_unstyle_87, sX10_unstyle_88, sX10_unstyle_89, sX10_unstyle_90, sX10_unstyle_91, sX10_unstyle_94, sX10_unstyle_95, sX10_unstyle_98, sX10_unstyle_99i, sX10_unstyle_99r, sX10_unstyle_99z, sX10_unstyle_99o, sX10_unstyle_100i, sX10_unstyle_100r, sX10_unstyle_100z, sX10_unstyle_100o, sX10_unstyle_103, mCk, mG0, mG1, mG2, mG3, mG4, mG5, mG6, mG7, mG8, mG9, mG10, mG11, mG12, mG13, mG14, mG15, mG16, mG17, mG18, mG19, mG20, mP2, mP5, mP6, mP7, mP9, mP11, mP14, mA1, mS1, mA2, mS2, mA3, mS3, mA4, mS4, mA5, mS5, mA6, mS6, mA7, mS7, mA8, mS8, mA9, mS9, mA10, mS10, mA11, mS11, mA12, mS12, mA13, mS13, mA14, mS14, zpush_v, zpush_n, gCk, gAi, gSi, gSz, gLi, gLq, ↓if_pos, ↓if_neg, hv1, m_lineAt, nI_add, e1]
      · have hne : ¬ eN (lnA st.2.1 i).2.2.1 = nI t := by
          cases hq : (lnA st.2.1 i).2.2.1 with
          | none => intro z; exact nI_nm1 (by omega) z.symm
          | some w =>
            have := ws w hq
            intro z
            rw [eN_s, nI_eq (by omega) (by omega)] at z
            rw [hq, z] at hp
            exact hp rfl
        rw [bI_t (p := aL _ c (i + 1) = true) (by simp only [aL, b, hp, not_false_eq_true, decide_true, Bool.and_self])]
        simp (disch := (first | omega | assumption | (simp (disch := omega) only [Int32.lt_iff_toInt_lt, Int32.le_iff_toInt_le, ← Int32.toInt_inj, nI_toInt, zi_m1, zi_m2, zi_m3, zi_m9]; omega) | decide)) only [sX10_unstyle_66, sX10_unstyle_67, sX10_unstyle_70, sX10_unstyle_71, sX10_unstyle_72, sX10_unstyle_75, sX10_unstyle_76, sX10_unstyle_79, sX10_unstyle_80, sX10_unstyle_83, sX10_unstyle_84, sX10_unstyle_87, sX10_unstyle_88, sX10_unstyle_89, sX10_unstyle_90, sX10_unstyle_91, sX10_unstyle_94, sX10_unstyle_95, sX10_unstyle_98, sX10_unstyle_99i, sX10_unstyle_99r, sX10_unstyle_99z, sX10_unstyle_99o, sX10_unstyle_100i, sX10_unstyle_100r, sX10_unstyle_100z, sX10_unstyle_100o, sX10_unstyle_103, mCk, mG0, mG1, mG2, mG3, mG4, mG5, mG6, mG7, mG8, mG9, mG10, mG11, mG12, mG13, mG14, mG15, mG16, mG17, mG18, mG19, mG20, mP2, mP5, mP6, mP7, mP9, mP11, mP14, mA1, mS1, mA2, mS2, mA3, mS3, mA4, mS4, mA5, mS5, mA6, mS6, mA7, mS7, mA8, mS8, mA9, mS9, mA10, mS10, mA11, mS11, mA12, mS12, mA13, mS13, mA14, mS14, zpush_v, zpush_n, gCk, gAi, gSi, gSz, gLi, gLq, ↓if_pos, ↓if_neg, hv1, m_lineAt, nI_add, e1]
    · rw [bI_f b, bI_f (p := aL _ c (i + 1) = true) (by simp only [aL, Bool.and_eq_true]; exact fun q => b q.1)]
      simp (disch := (first | omega | assumption | (simp (disch := omega) only [Int32.lt_iff_toInt_lt, Int32.le_iff_toInt_le, ← Int32.toInt_inj, nI_toInt, zi_m1, zi_m2, zi_m3, zi_m9]; omega) | decide)) only [sX10_unstyle_66, sX10_unstyle_67, sX10_unstyle_70, sX10_unstyle_71, sX10_unstyle_72, sX10_unstyle_75, sX10_unstyle_76, sX10_unstyle_79, sX10_unstyle_80, sX10_unstyle_83, sX10_unstyle_84, sX10_unstyle_87, sX10_unstyle_88, sX10_unstyle_89, sX10_unstyle_90, sX10_unstyle_91, sX10_unstyle_94, sX10_unstyle_95, sX10_unstyle_98, sX10_unstyle_99i, sX10_unstyle_99r, sX10_unstyle_99z, sX10_unstyle_99o, sX10_unstyle_100i, sX10_unstyle_100r, sX10_unstyle_100z, sX10_unstyle_100o, sX10_unstyle_103, mCk, mG0, mG1, mG2, mG3, mG4, mG5, mG6, mG7, mG8, mG9, mG10, mG11, mG12, mG13, mG14, mG15, mG16, mG17, mG18, mG19, mG20, mP2, mP5, mP6, mP7, mP9, mP11, mP14, mA1, mS1, mA2, mS2, mA3, mS3, mA4, mS4, mA5, mS5, mA6, mS6, mA7, mS7, mA8, mS8, mA9, mS9, mA10, mS10, mA11, mS11, mA12, mS12, mA13, mS13, mA14, mS14, zpush_v, zpush_n, gCk, gAi, gSi, gSz, gLi, gLq, ↓if_pos, ↓if_neg, hv1, nI_add]
theorem l_un2F {n : Nat} (hn : n ≤ 16) (hv1 : v 1 = nI n) (x : Int32) (Q : Option Value → Hp → Prop) : ∀ (m i : Nat), m + i = n →
    WP 119 65 [some (.ref M), some (.int x), some (.int (nI 0)), some (.int (nI i))] [] (mkM h0 M v pa pm fl tx ty ct wr it im sg sm lat hat sy nw os hgh pl asd lks) Q = WP 119 106 [some (.ref M), some (.int x), some (.int (nI 0)), some (.int (nI n))] [] (mkM h0 M v pa pm fl tx ty ct wr it im sg sm lat hat sy nw os hgh pl asd lks) Q := by
  intro m
  induction m with
  | zero =>
    intro i hi
    have hi : i = n := by omega
    subst hi
    rw [sX10_unstyle_65]
    simp (disch := (first | omega | assumption | (simp (disch := omega) only [Int32.lt_iff_toInt_lt, Int32.le_iff_toInt_le, ← Int32.toInt_inj, nI_toInt, zi_m1, zi_m2, zi_m3, zi_m9]; omega) | decide)) only [sX10_unstyle_66, sX10_unstyle_67, sX10_unstyle_70, sX10_unstyle_71, sX10_unstyle_72, mCk, mG0, mG1, mG2, mG3, mG4, mG5, mG6, mG7, mG8, mG9, mG10, mG11, mG12, mG13, mG14, mG15, mG16, mG17, mG18, mG19, mG20, mP2, mP5, mP6, mP7, mP9, mP11, mP14, mA1, mS1, mA2, mS2, mA3, mS3, mA4, mS4, mA5, mS5, mA6, mS6, mA7, mS7, mA8, mS8, mA9, mS9, mA10, mS10, mA11, mS11, mA12, mS12, mA13, mS13, mA14, mS14, zpush_v, zpush_n, gCk, gAi, gSi, gSz, gLi, gLq, ↓if_pos, ↓if_neg, hv1]
  | succ m ih =>
    intro i hi
    rw [← ih (i + 1) (by omega), sX10_unstyle_65]
    simp (disch := (first | omega | assumption | (simp (disch := omega) only [Int32.lt_iff_toInt_lt, Int32.le_iff_toInt_le, ← Int32.toInt_inj, nI_toInt, zi_m1, zi_m2, zi_m3, zi_m9]; omega) | decide)) only [sX10_unstyle_66, sX10_unstyle_67, sX10_unstyle_70, sX10_unstyle_71, sX10_unstyle_72, sX10_unstyle_75, sX10_unstyle_76, sX10_unstyle_79, sX10_unstyle_80, sX10_unstyle_83, sX10_unstyle_84, sX10_unstyle_87, sX10_unstyle_88, sX10_unstyle_89, sX10_unstyle_90, sX10_unstyle_91, sX10_unstyle_94, sX10_unstyle_95, sX10_unstyle_98, sX10_unstyle_99i, sX10_unstyle_99r, sX10_unstyle_99z, sX10_unstyle_99o, sX10_unstyle_100i, sX10_unstyle_100r, sX10_unstyle_100z, sX10_unstyle_100o, sX10_unstyle_103, mCk, mG0, mG1, mG2, mG3, mG4, mG5, mG6, mG7, mG8, mG9, mG10, mG11, mG12, mG13, mG14, mG15, mG16, mG17, mG18, mG19, mG20, mP2, mP5, mP6, mP7, mP9, mP11, mP14, mA1, mS1, mA2, mS2, mA3, mS3, mA4, mS4, mA5, mS5, mA6, mS6, mA7, mS7, mA8, mS8, mA9, mS9, mA10, mS10, mA11, mS11, mA12, mS12, mA13, mS13, mA14, mS14, zpush_v, zpush_n, gCk, gAi, gSi, gSz, gLi, gLq, ↓if_pos, ↓if_neg, hv1, nI_add]
theorem encS.drop {v : Nat → Int32} {S : Sh} (h : encS v S) (h0 : 0 < S.1) : encS (upd v 0 (nI (S.1 - 1))) (S.1 - 1, S.2.1, S.2.2) := by
  refine ⟨upd_at, fun s hs => ?_⟩
  have hs : s < S.1 - 1 := hs
  obtain ⟨e1, e2⟩ := h.2 s (by omega)
  exact ⟨by rw [upd_off (by omega)]; exact e1, fun p hp => by rw [upd_off (by omega)]; exact e2 p hp⟩
theorem y_unstyle (hr : rM h M p) (hw : WfP p) : ∃ h', Same h h' M 15 ∧ rM h' M (opUnstyle p).1 ∧ ∀ Q : Option Value → Hp → Prop, WPm 119 [.ref M] h Q = Q (some (.int (opUnstyle p).2)) h' := by
  obtain ⟨h0, v, pa, fl, tx, it, sg, lat, hat, nw, os, hgh, pl, asd, lks, ct, wr, im, sm, sy, rfl, hv, hp, ht⟩ := id hr
  have hws := hw.1.1
  have h10 := hws.1
  have h16 := hw.1.2.1.1
  have hS := hv.1
  have hv0 := hS.1
  have hv1 := hv.2.1
  have h5 := hw.2.2.1
  unfold opUnstyle
  by_cases n0 : p.1.1.1 = 0
  · rw [if_pos n0]
    rw [n0] at hv0
    have L := fun Q => l_un2F (h0 := h0) (M := M) (v := v) (pa := pa) (pm := nI p.2.1.length) (fl := fl) (tx := tx) (ty := nI p.2.2.length) (ct := ct) (wr := wr) (it := it) (im := im) (sg := sg) (sm := sm) (lat := lat) (hat := hat) (sy := sy) (nw := nw) (os := os) (hgh := hgh) (pl := pl) (asd := asd) (lks := lks) h16 hv1 (-1) Q _ 0 rfl
    refine ⟨_, Same.rf, hr, fun Q => ?_⟩
    rw [eX10_unstyle]
    simp (disch := (first | omega | assumption | (simp (disch := omega) only [Int32.lt_iff_toInt_lt, Int32.le_iff_toInt_le, ← Int32.toInt_inj, nI_toInt, zi_m1, zi_m2, zi_m3, zi_m9]; omega) | decide)) only [sX10_unstyle_0, sX10_unstyle_1, sX10_unstyle_4, sX10_unstyle_5, sX10_unstyle_6, sX10_unstyle_7, sX10_unstyle_8i, sX10_unstyle_8r, sX10_unstyle_8z, sX10_unstyle_8o, sX10_unstyle_9, sX10_unstyle_10, sX10_unstyle_13, sX10_unstyle_14, sX10_unstyle_17, sX10_unstyle_18i, sX10_unstyle_18r, sX10_unstyle_18z, sX10_unstyle_18o, sX10_unstyle_19, sX10_unstyle_20i, sX10_unstyle_20r, sX10_unstyle_20z, sX10_unstyle_20o, mCk, mG0, mG1, mG2, mG3, mG4, mG5, mG6, mG7, mG8, mG9, mG10, mG11, mG12, mG13, mG14, mG15, mG16, mG17, mG18, mG19, mG20, mP2, mP5, mP6, mP7, mP9, mP11, mP14, mA1, mS1, mA2, mS2, mA3, mS3, mA4, mS4, mA5, mS5, mA6, mS6, mA7, mS7, mA8, mS8, mA9, mS9, mA10, mS10, mA11, mS11, mA12, mS12, mA13, mS13, mA14, mS14, zpush_v, zpush_n, gCk, gAi, gSi, gSz, gLi, gLq, ↓if_pos, ↓if_neg, hv0, zi_0m1]
    simp (disch := (first | omega | assumption | (simp (disch := omega) only [Int32.lt_iff_toInt_lt, Int32.le_iff_toInt_le, ← Int32.toInt_inj, nI_toInt, zi_m1, zi_m2, zi_m3, zi_m9]; omega) | decide)) only [sX10_unstyle_21, sX10_unstyle_22, sX10_unstyle_23, sX10_unstyle_26, sX10_unstyle_27, sX10_unstyle_28, sX10_unstyle_63, sX10_unstyle_64i, sX10_unstyle_64r, sX10_unstyle_64z, sX10_unstyle_64o, mCk, mG0, mG1, mG2, mG3, mG4, mG5, mG6, mG7, mG8, mG9, mG10, mG11, mG12, mG13, mG14, mG15, mG16, mG17, mG18, mG19, mG20, mP2, mP5, mP6, mP7, mP9, mP11, mP14, mA1, mS1, mA2, mS2, mA3, mS3, mA4, mS4, mA5, mS5, mA6, mS6, mA7, mS7, mA8, mS8, mA9, mS9, mA10, mS10, mA11, mS11, mA12, mS12, mA13, mS13, mA14, mS14, zpush_v, zpush_n, gCk, gAi, gSi, gSz, gLi, gLq, ↓if_pos, ↓if_neg, hv0]
    rw [L]
    simp (disch := (first | omega | assumption | (simp (disch := omega) only [Int32.lt_iff_toInt_lt, Int32.le_iff_toInt_le, ← Int32.toInt_inj, nI_toInt, zi_m1, zi_m2, zi_m3, zi_m9]; omega) | decide)) only [sX10_unstyle_106, sX10_unstyle_107, sX10_unstyle_110, sX10_unstyle_112, mCk, mG0, mG1, mG2, mG3, mG4, mG5, mG6, mG7, mG8, mG9, mG10, mG11, mG12, mG13, mG14, mG15, mG16, mG17, mG18, mG19, mG20, mP2, mP5, mP6, mP7, mP9, mP11, mP14, mA1, mS1, mA2, mS2, mA3, mS3, mA4, mS4, mA5, mS5, mA6, mS6, mA7, mS7, mA8, mS8, mA9, mS9, mA10, mS10, mA11, mS11, mA12, mS12, mA13, mS13, mA14, mS14, zpush_v, zpush_n, gCk, gAi, gSi, gSz, gLi, gLq, ↓if_pos, ↓if_neg]
  · rw [if_neg n0]
    have L1 := fun Q => l_un1 (h0 := h0) (M := M) (v := v) (pa := pa) (pm := nI p.2.1.length) (fl := fl) (tx := tx) (ty := nI p.2.2.length) (ct := ct) (wr := wr) (it := it) (im := im) (sg := sg) (sm := sm) (lat := lat) (hat := hat) (sy := sy) (nw := nw) (os := os) (hgh := hgh) (pl := pl) (asd := asd) (lks := lks) hS hws (t := p.1.1.1 - 1) (by omega) Q _ 0 rfl
    have L2 := fun Q c => l_un2 (h0 := h0) (M := M) (v := v) (pa := pa) (pm := nI p.2.1.length) (fl := fl) (tx := tx) (ty := nI p.2.2.length) (ct := ct) (wr := wr) (it := it) (im := im) (sg := sg) (sm := sm) (lat := lat) (hat := hat) (sy := sy) (nw := nw) (os := os) (hgh := hgh) (pl := pl) (asd := asd) (lks := lks) hv hw.1 (t := p.1.1.1 - 1) (by omega) (c := c) Q _ 0 rfl
    rw [bI_t (p := aL _ true 0 = true) rfl] at L1
    have E1 : (aL (fun s => decide (¬ p.1.1.2.1 s = some (p.1.1.1 - 1))) true p.1.1.1 = true) ↔ ¬ 0 < chl p.1.1 (p.1.1.1 - 1) p.1.1.1 := by
      rw [aL_iff, show (¬ 0 < chl p.1.1 (p.1.1.1 - 1) p.1.1.1) ↔ chl p.1.1 (p.1.1.1 - 1) p.1.1.1 = 0 by omega, chl_z]
      simp only [decide_eq_true_eq, true_and]
    have E2 : ∀ c, (aL (fun s => decide (¬ (lnA p.1.2.1 s).2.2.1 = some (p.1.1.1 - 1))) c p.1.2.1.length = true) ↔ c = true ∧ ¬ hasSt (p.1.1.1 - 1) p.1.2.1 = true := by
      intro c
      rw [aL_iff, hasSt_iff]
      simp only [decide_eq_true_eq, not_exists, not_and]
    by_cases k1 : 0 < chl p.1.1 (p.1.1.1 - 1) p.1.1.1 ∨ hasSt (p.1.1.1 - 1) p.1.2.1 = true
    · rw [if_pos k1]
      refine ⟨_, Same.rf, hr, fun Q => ?_⟩
      have L2 := L2 Q (aL (fun s => decide (¬ p.1.1.2.1 s = some (p.1.1.1 - 1))) true p.1.1.1)
      rw [bI_f (p := aL _ _ p.1.2.1.length = true) (by
        rw [E2, E1]
        rintro ⟨a, b⟩
        exact k1.elim a b)] at L2
      rw [eX10_unstyle]
      simp (disch := (first | omega | assumption | (simp (disch := omega) only [Int32.lt_iff_toInt_lt, Int32.le_iff_toInt_le, ← Int32.toInt_inj, nI_toInt, zi_m1, zi_m2, zi_m3, zi_m9]; omega) | decide)) only [sX10_unstyle_0, sX10_unstyle_1, sX10_unstyle_4, sX10_unstyle_5, sX10_unstyle_6, sX10_unstyle_7, sX10_unstyle_8i, sX10_unstyle_8r, sX10_unstyle_8z, sX10_unstyle_8o, sX10_unstyle_9, sX10_unstyle_10, sX10_unstyle_13, sX10_unstyle_14, sX10_unstyle_17, sX10_unstyle_18i, sX10_unstyle_18r, sX10_unstyle_18z, sX10_unstyle_18o, sX10_unstyle_19, sX10_unstyle_20i, sX10_unstyle_20r, sX10_unstyle_20z, sX10_unstyle_20o, mCk, mG0, mG1, mG2, mG3, mG4, mG5, mG6, mG7, mG8, mG9, mG10, mG11, mG12, mG13, mG14, mG15, mG16, mG17, mG18, mG19, mG20, mP2, mP5, mP6, mP7, mP9, mP11, mP14, mA1, mS1, mA2, mS2, mA3, mS3, mA4, mS4, mA5, mS5, mA6, mS6, mA7, mS7, mA8, mS8, mA9, mS9, mA10, mS10, mA11, mS11, mA12, mS12, mA13, mS13, mA14, mS14, zpush_v, zpush_n, gCk, gAi, gSi, gSz, gLi, gLq, ↓if_pos, ↓if_neg, hv0, nI_sub, L1]
      simp (disch := (first | omega | assumption | (simp (disch := omega) only [Int32.lt_iff_toInt_lt, Int32.le_iff_toInt_le, ← Int32.toInt_inj, nI_toInt, zi_m1, zi_m2, zi_m3, zi_m9]; omega) | decide)) only [sX10_unstyle_63, sX10_unstyle_64i, sX10_unstyle_64r, sX10_unstyle_64z, sX10_unstyle_64o, zpush_v, zpush_n, gCk, gAi, gSi, gSz, gLi, gLq, ↓if_pos, ↓if_neg]
      refine (Eq.trans (by rfl) L2).trans ?_
      simp (disch := (first | omega | assumption | (simp (disch := omega) only [Int32.lt_iff_toInt_lt, Int32.le_iff_toInt_le, ← Int32.toInt_inj, nI_toInt, zi_m1, zi_m2, zi_m3, zi_m9]; omega) | decide)) only [sX10_unstyle_106, sX10_unstyle_107, sX10_unstyle_110, sX10_unstyle_112, mCk, mG0, mG1, mG2, mG3, mG4, mG5, mG6, mG7, mG8, mG9, mG10, mG11, mG12, mG13, mG14, mG15, mG16, mG17, mG18, mG19, mG20, mP2, mP5, mP6, mP7, mP9, mP11, mP14, mA1, mS1, mA2, mS2, mA3, mS3, mA4, mS4, mA5, mS5, mA6, mS6, mA7, mS7, mA8, mS8, mA9, mS9, mA10, mS10, mA11, mS11, mA12, mS12, mA13, mS13, mA14, mS14, zpush_v, zpush_n, gCk, gAi, gSi, gSz, gLi, gLq, ↓if_pos, ↓if_neg]
    · rw [if_neg k1]
      refine ⟨(mkM h0 M (upd v 0 (nI (p.1.1.1 - 1))) (actP pa v p.2.1.length) (nI (actN p.2.1.length)) fl tx (nI p.2.2.length) ct wr it im sg sm lat hat sy nw os hgh pl asd lks), mkM_same, rM.kp hv hp ht hw (hv.sh hw.1 (hS.drop (by omega)) (fun q hq => by rw [upd_off (by omega)])), fun Q => ?_⟩
      have L2 := L2 Q (aL (fun s => decide (¬ p.1.1.2.1 s = some (p.1.1.1 - 1))) true p.1.1.1)
      rw [bI_t (p := aL _ _ p.1.2.1.length = true) (by
        rw [E2, E1]
        exact ⟨fun a => k1 (Or.inl a), fun a => k1 (Or.inr a)⟩)] at L2
      rw [eX10_unstyle]
      simp (disch := (first | omega | assumption | (simp (disch := omega) only [Int32.lt_iff_toInt_lt, Int32.le_iff_toInt_le, ← Int32.toInt_inj, nI_toInt, zi_m1, zi_m2, zi_m3, zi_m9]; omega) | decide)) only [sX10_unstyle_0, sX10_unstyle_1, sX10_unstyle_4, sX10_unstyle_5, sX10_unstyle_6, sX10_unstyle_7, sX10_unstyle_8i, sX10_unstyle_8r, sX10_unstyle_8z, sX10_unstyle_8o, sX10_unstyle_9, sX10_unstyle_10, sX10_unstyle_13, sX10_unstyle_14, sX10_unstyle_17, sX10_unstyle_18i, sX10_unstyle_18r, sX10_unstyle_18z, sX10_unstyle_18o, sX10_unstyle_19, sX10_unstyle_20i, sX10_unstyle_20r, sX10_unstyle_20z, sX10_unstyle_20o, mCk, mG0, mG1, mG2, mG3, mG4, mG5, mG6, mG7, mG8, mG9, mG10, mG11, mG12, mG13, mG14, mG15, mG16, mG17, mG18, mG19, mG20, mP2, mP5, mP6, mP7, mP9, mP11, mP14, mA1, mS1, mA2, mS2, mA3, mS3, mA4, mS4, mA5, mS5, mA6, mS6, mA7, mS7, mA8, mS8, mA9, mS9, mA10, mS10, mA11, mS11, mA12, mS12, mA13, mS13, mA14, mS14, zpush_v, zpush_n, gCk, gAi, gSi, gSz, gLi, gLq, ↓if_pos, ↓if_neg, hv0, nI_sub, L1]
      simp (disch := (first | omega | assumption | (simp (disch := omega) only [Int32.lt_iff_toInt_lt, Int32.le_iff_toInt_le, ← Int32.toInt_inj, nI_toInt, zi_m1, zi_m2, zi_m3, zi_m9]; omega) | decide)) only [sX10_unstyle_63, sX10_unstyle_64i, sX10_unstyle_64r, sX10_unstyle_64z, sX10_unstyle_64o, zpush_v, zpush_n, gCk, gAi, gSi, gSz, gLi, gLq, ↓if_pos, ↓if_neg]
      refine (Eq.trans (by rfl) L2).trans ?_
      simp (disch := (first | omega | assumption | (simp (disch := omega) only [Int32.lt_iff_toInt_lt, Int32.le_iff_toInt_le, ← Int32.toInt_inj, nI_toInt, zi_m1, zi_m2, zi_m3, zi_m9]; omega) | decide)) only [sX10_unstyle_106, sX10_unstyle_107, sX10_unstyle_110, sX10_unstyle_112, sX10_unstyle_113, sX10_unstyle_114, sX10_unstyle_117, sX10_unstyle_118, sX10_unstyle_121, sX10_unstyle_122, sX10_unstyle_123, sX10_unstyle_124, sX10_unstyle_125, sX10_unstyle_126, sX10_unstyle_127, sX10_unstyle_128, sX10_unstyle_131, sX10_unstyle_132, sX10_unstyle_133, mCk, mG0, mG1, mG2, mG3, mG4, mG5, mG6, mG7, mG8, mG9, mG10, mG11, mG12, mG13, mG14, mG15, mG16, mG17, mG18, mG19, mG20, mP2, mP5, mP6, mP7, mP9, mP11, mP14, mA1, mS1, mA2, mS2, mA3, mS3, mA4, mS4, mA5, mS5, mA6, mS6, mA7, mS7, mA8, mS8, mA9, mS9, mA10, mS10, mA11, mS11, mA12, mS12, mA13, mS13, mA14, mS14, zpush_v, zpush_n, gCk, gAi, gSi, gSz, gLi, gLq, ↓if_pos, ↓if_neg, m_act h5, hv0, nI_sub, upd_at]
theorem y_flatten (hr : rM h M p) (hw : WfP p) : ∃ h', Same h h' M 15 ∧ rM h' M (opFlatten p).1 ∧ ∀ Q : Option Value → Hp → Prop, WPm 123 [.ref M] h Q = Q (some (.int (opFlatten p).2)) h' := by
  obtain ⟨h0, v, pa, fl, tx, it, sg, lat, hat, nw, os, hgh, pl, asd, lks, ct, wr, im, sm, sy, rfl, hv, hp, ht⟩ := id hr
  have h5 := hw.2.2.1
  obtain ⟨v', q1, q2, q3⟩ := m_flattens (h0 := h0) (M := M) (v := v) (pa := actP pa v p.2.1.length) (pm := nI (actN p.2.1.length)) (fl := fl) (tx := tx) (ty := nI p.2.2.length) (ct := ct) (wr := wr) (it := it) (im := im) (sg := sg) (sm := sm) (lat := lat) (hat := hat) (sy := sy) (nw := nw) (os := os) (hgh := hgh) (pl := pl) (asd := asd) (lks := lks) hv.1 hw.1.1
  refine ⟨(mkM h0 M v' (actP pa v p.2.1.length) (nI (actN p.2.1.length)) (flF fl p.1.1 (6 * p.1.1.1)) tx (nI p.2.2.length) ct wr it im sg sm lat hat sy nw os hgh pl asd lks), mkM_same, rM.kp hv hp ht hw (hv.sh hw.1 q1 (fun q hq => q2 q (by omega))), fun Q => ?_⟩
  rw [eX10_flatten]
  simp (disch := (first | omega | assumption | (simp (disch := omega) only [Int32.lt_iff_toInt_lt, Int32.le_iff_toInt_le, ← Int32.toInt_inj, nI_toInt, zi_m1, zi_m2, zi_m3, zi_m9]; omega) | decide)) only [sX10_flatten_0, sX10_flatten_1, sX10_flatten_4, sX10_flatten_5, sX10_flatten_8, mCk, mG0, mG1, mG2, mG3, mG4, mG5, mG6, mG7, mG8, mG9, mG10, mG11, mG12, mG13, mG14, mG15, mG16, mG17, mG18, mG19, mG20, mP2, mP5, mP6, mP7, mP9, mP11, mP14, mA1, mS1, mA2, mS2, mA3, mS3, mA4, mS4, mA5, mS5, mA6, mS6, mA7, mS7, mA8, mS8, mA9, mS9, mA10, mS10, mA11, mS11, mA12, mS12, mA13, mS13, mA14, mS14, zpush_v, zpush_n, gCk, gAi, gSi, gSz, gLi, gLq, ↓if_pos, ↓if_neg, m_act h5, q3]
  rfl
theorem y_clear (hr : rM h M p) (hw : WfP p) : ∃ h', Same h h' M 15 ∧ rM h' M (opClear p).1 ∧ ∀ Q : Option Value → Hp → Prop, WPm 130 [.ref M] h Q = Q (some (.int (opClear p).2)) h' := by
  obtain ⟨h0, v, pa, fl, tx, it, sg, lat, hat, nw, os, hgh, pl, asd, lks, ct, wr, im, sm, sy, rfl, hv, hp, ht⟩ := id hr
  refine ⟨(mkM h0 M v pa (nI p.2.1.length) fl tx (nI 0) ct wr it im sg sm lat hat sy nw os hgh pl asd lks), mkM_same, rM.mk (p := (p.1, p.2.1, [])) hv hp (fun i c hc => by cases hc), fun Q => ?_⟩
  rw [eX10_clear]
  simp (disch := (first | omega | assumption | (simp (disch := omega) only [Int32.lt_iff_toInt_lt, Int32.le_iff_toInt_le, ← Int32.toInt_inj, nI_toInt, zi_m1, zi_m2, zi_m3, zi_m9]; omega) | decide)) only [sX10_clear_0, sX10_clear_1, sX10_clear_4i, sX10_clear_4r, sX10_clear_4z, sX10_clear_4o, sX10_clear_5, sX10_clear_6, sX10_clear_7, sX10_clear_10, sX10_clear_11, mCk, mG0, mG1, mG2, mG3, mG4, mG5, mG6, mG7, mG8, mG9, mG10, mG11, mG12, mG13, mG14, mG15, mG16, mG17, mG18, mG19, mG20, mP2, mP5, mP6, mP7, mP9, mP11, mP14, mA1, mS1, mA2, mS2, mA3, mS3, mA4, mS4, mA5, mS5, mA6, mS6, mA7, mS7, mA8, mS8, mA9, mS9, mA10, mS10, mA11, mS11, mA12, mS12, mA13, mS13, mA14, mS14, zpush_v, zpush_n, gCk, gAi, gSi, gSz, gLi, gLq, ↓if_pos, ↓if_neg]
  rfl
theorem y_type (hr : rM h M p) (hw : WfP p) (c : Int32) : ∃ h', Same h h' M 15 ∧ rM h' M (opType p c).1 ∧ ∀ Q : Option Value → Hp → Prop, WPm 129 [.ref M, .int c] h Q = Q (some (.int (opType p c).2)) h' := by
  obtain ⟨h0, v, pa, fl, tx, it, sg, lat, hat, nw, os, hgh, pl, asd, lks, ct, wr, im, sm, sy, rfl, hv, hp, ht⟩ := id hr
  have h80 := hw.2.2.2.1
  unfold opType
  rcases dR_cases 32 126 c (by omega) (by omega) with ⟨k, hk, rfl, e⟩ | ⟨g, e⟩
  · rw [e]
    simp only
    have i := in_n (h := (mkM h0 M v pa (nI p.2.1.length) fl tx (nI p.2.2.length) ct wr it im sg sm lat hat sy nw os hgh pl asd lks)) (k := k) (a := 32) (b := 126) (by omega) (by omega) (by omega)
    rw [bI_t hk] at i
    by_cases hf : 80 ≤ p.2.2.length
    · rw [if_pos hf]
      have hf : p.2.2.length = 80 := by omega
      refine ⟨_, Same.rf, hr, fun Q => ?_⟩
      rw [eX10_type]
      simp (disch := (first | omega | assumption | (simp (disch := omega) only [Int32.lt_iff_toInt_lt, Int32.le_iff_toInt_le, ← Int32.toInt_inj, nI_toInt, zi_m1, zi_m2, zi_m3, zi_m9]; omega) | decide)) only [sX10_type_0, sX10_type_1, sX10_type_3, sX10_type_5, sX10_type_8, sX10_type_11, sX10_type_12, sX10_type_13, sX10_type_14, sX10_type_17, sX10_type_19, sX10_type_22, sX10_type_24, mCk, mG0, mG1, mG2, mG3, mG4, mG5, mG6, mG7, mG8, mG9, mG10, mG11, mG12, mG13, mG14, mG15, mG16, mG17, mG18, mG19, mG20, mP2, mP5, mP6, mP7, mP9, mP11, mP14, mA1, mS1, mA2, mS2, mA3, mS3, mA4, mS4, mA5, mS5, mA6, mS6, mA7, mS7, mA8, mS8, mA9, mS9, mA10, mS10, mA11, mS11, mA12, mS12, mA13, mS13, mA14, mS14, zpush_v, zpush_n, gCk, gAi, gSi, gSz, gLi, gLq, ↓if_pos, ↓if_neg, i]
    · rw [if_neg hf]
      have el : (p.2.2 ++ [k]).length = p.2.2.length + 1 := by rw [List.length_append]; rfl
      refine ⟨(mkM h0 M v pa (nI p.2.1.length) fl (upd tx p.2.2.length (nI k)) (nI (p.2.2.length + 1)) ct wr it im sg sm lat hat sy nw os hgh pl asd lks), mkM_same, ?_, fun Q => ?_⟩
      · rw [← el]
        exact rM.mk (p := (p.1, p.2.1, p.2.2 ++ [k])) hv hp (fun i x hx => by
          have hxl := (List.getElem?_eq_some_iff.mp hx).1
          rw [el] at hxl
          by_cases q : i = p.2.2.length
          · subst q
            rw [List.getElem?_append_right (Nat.le_refl _), Nat.sub_self] at hx
            cases hx
            exact upd_at
          · rw [upd_off q]
            rw [List.getElem?_append_left (by omega)] at hx
            exact ht i x hx)
      · rw [eX10_type]
        simp (disch := (first | omega | assumption | (simp (disch := omega) only [Int32.lt_iff_toInt_lt, Int32.le_iff_toInt_le, ← Int32.toInt_inj, nI_toInt, zi_m1, zi_m2, zi_m3, zi_m9]; omega) | decide)) only [sX10_type_0, sX10_type_1, sX10_type_3, sX10_type_5, sX10_type_8, sX10_type_11, sX10_type_12, sX10_type_13, sX10_type_14, sX10_type_17, sX10_type_19, sX10_type_22, sX10_type_24, sX10_type_25, sX10_type_26, sX10_type_29, sX10_type_30, sX10_type_33, sX10_type_34, sX10_type_35, sX10_type_36, sX10_type_36i, sX10_type_37, sX10_type_40, sX10_type_41, sX10_type_42, sX10_type_45, sX10_type_46, sX10_type_49, mCk, mG0, mG1, mG2, mG3, mG4, mG5, mG6, mG7, mG8, mG9, mG10, mG11, mG12, mG13, mG14, mG15, mG16, mG17, mG18, mG19, mG20, mP2, mP5, mP6, mP7, mP9, mP11, mP14, mA1, mS1, mA2, mS2, mA3, mS3, mA4, mS4, mA5, mS5, mA6, mS6, mA7, mS7, mA8, mS8, mA9, mS9, mA10, mS10, mA11, mS11, mA12, mS12, mA13, mS13, mA14, mS14, zpush_v, zpush_n, gCk, gAi, gSi, gSz, gLi, gLq, ↓if_pos, ↓if_neg, i, nI_add]
  · rw [e]
    refine ⟨_, Same.rf, hr, fun Q => ?_⟩
    rw [eX10_type]
    simp (disch := (first | omega | assumption | (simp (disch := omega) only [Int32.lt_iff_toInt_lt, Int32.le_iff_toInt_le, ← Int32.toInt_inj, nI_toInt, zi_m1, zi_m2, zi_m3, zi_m9]; omega) | decide)) only [sX10_type_0, sX10_type_1, sX10_type_3, sX10_type_5, sX10_type_8, sX10_type_11, sX10_type_12, sX10_type_13, sX10_type_14, sX10_type_17, sX10_type_19, sX10_type_22, sX10_type_24, sX10_type_25, sX10_type_26, sX10_type_29, sX10_type_30, sX10_type_33, sX10_type_34, sX10_type_35, sX10_type_36, sX10_type_36i, sX10_type_37, sX10_type_40, sX10_type_41, sX10_type_42, sX10_type_45, sX10_type_46, sX10_type_49, mCk, mG0, mG1, mG2, mG3, mG4, mG5, mG6, mG7, mG8, mG9, mG10, mG11, mG12, mG13, mG14, mG15, mG16, mG17, mG18, mG19, mG20, mP2, mP5, mP6, mP7, mP9, mP11, mP14, mA1, mS1, mA2, mS2, mA3, mS3, mA4, mS4, mA5, mS5, mA6, mS6, mA7, mS7, mA8, mS8, mA9, mS9, mA10, mS10, mA11, mS11, mA12, mS12, mA13, mS13, mA14, mS14, zpush_v, zpush_n, gCk, gAi, gSi, gSz, gLi, gLq, ↓if_pos, ↓if_neg, in_f g]
end ME
