/-! SubtitleStyles: signs, syllables, times -/
section XH
variable {h h' : Hp} {X B : Nat} {p : PS}
theorem nI_not {x : Int32} {n j : Nat} (hn : n < 2147483648) (hj : j < n) (hx : x < nI 0 ∨ nI n ≤ x) : ¬ x = nI j := by
  intro hjw
  subst hjw
  rcases hx with g2 | g2
  · rw [Int32.lt_iff_toInt_lt, nI_toInt (by omega), nI_toInt (by omega)] at g2
    omega
  · rw [Int32.le_iff_toInt_le, nI_toInt (by omega), nI_toInt (by omega)] at g2
    omega
theorem x_sign (hr : rP h X B p) (hw : WfP p) (l s w : Int32) (Q : Option Value → Hp → Prop) : WPm 90 [.ref X, .int l, .int s, .int w] h Q = Q (some (.int (qSign p l s w))) h := by
  obtain ⟨c1, c2, hS⟩ := hr.facts
  obtain ⟨fs2, cp⟩ := hr.pic
  have h16 := hw.1.2.1.1
  unfold qSign
  rw [eX9_sign]
  rcases dN_cases p.1.2.1.length l (by omega) with ⟨i, hi, rfl, e⟩ | ⟨g, e⟩
  · rw [e]
    simp only
    obtain ⟨k1, k2, k3⟩ := hr.look hw hi
    have ck := k1.cell.1
    have wl := hw.1.2.1.2 _ (lnA_mem hi)
    have l80 := (rdL_ok hw.1.1 wl).1
    rcases dN_cases (rdL p.1.1 (lnA p.1.2.1 i)).2.1.length s (by omega) with ⟨k, hk, rfl, e3⟩ | ⟨g3, e3⟩
    · have hT := m_X2_hasSignT k1 hw.1.1 wl hk
      rcases dN_cases 6 w (by omega) with ⟨j, hj, rfl, e2⟩ | ⟨g2, e2⟩
      · rw [e2]
        simp only
        rw [e3]
        simp only
        have eg : (rdL p.1.1 (lnA p.1.2.1 i)).2.1[k]? = some ((rdL p.1.1 (lnA p.1.2.1 i)).2.1.getD k (0, (fun _ => 0), none)) := by
          rw [List.getD_eq_getElem?_getD, List.getElem?_eq_getElem hk]
          rfl
        simp (disch := (first | omega | assumption | (simp (disch := omega) only [Int32.lt_iff_toInt_lt, Int32.le_iff_toInt_le, ← Int32.toInt_inj, nI_toInt, zi_m1, zi_m2, zi_m3, zi_m9]; omega) | decide)) only [sX9_sign_0, sX9_sign_1, sX9_sign_4, sX9_sign_5, sX9_sign_8i, sX9_sign_8iN, sX9_sign_8r, sX9_sign_8rN, sX9_sign_8z, sX9_sign_8zN, sX9_sign_8o, sX9_sign_8oN, sX9_sign_10, sX9_sign_10n, sX9_sign_12, sX9_sign_12n, sX9_sign_15, sX9_sign_15n, sX9_sign_17, sX9_sign_18, sX9_sign_21, sX9_sign_24, sX9_sign_25, sX9_sign_28, sX9_sign_29, sX9_sign_31, sX9_sign_34, sX9_sign_35, sX9_sign_36, sX9_sign_36n, sX9_sign_38, sX9_sign_39, sX9_sign_40, sX9_sign_43, gG9_0, gG9_1, gG9_2, gG9_3, gG9_4, gG9_5, gG9_6, gG9_7, gP9_0, gP9_1, gP9_2, gP9_3, gP9_4, gP9_5, gP9_6, gP9_7, gG2_0, gG2_1, gG2_2, gG2_3, gG2_4, gG2_5, gG2_6, gG2_7, gG2_8, gG2_9, gG2_10, gG2_11, gP2_0, gP2_1, gP2_2, gP2_3, gP2_4, gP2_5, gP2_6, gP2_7, gP2_8, gP2_9, gP2_10, gP2_11, zpush_v, zpush_n, gCk, gAi, gSi, gLi, gLq, ↓if_pos, ↓if_neg, c1, cp, k3, ck, hT, m_X2_signNumber k1 hw.1.1 wl eg hj]
      · rw [e2]
        by_cases z : w < nI 0
        · simp (disch := (first | omega | assumption | (simp (disch := omega) only [Int32.lt_iff_toInt_lt, Int32.le_iff_toInt_le, ← Int32.toInt_inj, nI_toInt, zi_m1, zi_m2, zi_m3, zi_m9]; omega) | decide)) only [sX9_sign_0, sX9_sign_1, sX9_sign_4, sX9_sign_5, sX9_sign_8i, sX9_sign_8iN, sX9_sign_8r, sX9_sign_8rN, sX9_sign_8z, sX9_sign_8zN, sX9_sign_8o, sX9_sign_8oN, sX9_sign_10, sX9_sign_10n, sX9_sign_12, sX9_sign_12n, sX9_sign_15, sX9_sign_15n, sX9_sign_17, sX9_sign_18, sX9_sign_21, sX9_sign_24, sX9_sign_25, sX9_sign_28, sX9_sign_29, sX9_sign_31, sX9_sign_34, sX9_sign_35, sX9_sign_36, sX9_sign_36n, sX9_sign_38, sX9_sign_39, sX9_sign_40, sX9_sign_43, gG9_0, gG9_1, gG9_2, gG9_3, gG9_4, gG9_5, gG9_6, gG9_7, gP9_0, gP9_1, gP9_2, gP9_3, gP9_4, gP9_5, gP9_6, gP9_7, gG2_0, gG2_1, gG2_2, gG2_3, gG2_4, gG2_5, gG2_6, gG2_7, gG2_8, gG2_9, gG2_10, gG2_11, gP2_0, gP2_1, gP2_2, gP2_3, gP2_4, gP2_5, gP2_6, gP2_7, gP2_8, gP2_9, gP2_10, gP2_11, zpush_v, zpush_n, gCk, gAi, gSi, gLi, gLq, ↓if_pos, ↓if_neg, c1, cp, k3, ck, hT]
        · have z2 := g2.resolve_left z
          have z3 := Int32.not_lt.mpr z2
          simp (disch := (first | omega | assumption | (simp (disch := omega) only [Int32.lt_iff_toInt_lt, Int32.le_iff_toInt_le, ← Int32.toInt_inj, nI_toInt, zi_m1, zi_m2, zi_m3, zi_m9]; omega) | decide)) only [sX9_sign_0, sX9_sign_1, sX9_sign_4, sX9_sign_5, sX9_sign_8i, sX9_sign_8iN, sX9_sign_8r, sX9_sign_8rN, sX9_sign_8z, sX9_sign_8zN, sX9_sign_8o, sX9_sign_8oN, sX9_sign_10, sX9_sign_10n, sX9_sign_12, sX9_sign_12n, sX9_sign_15, sX9_sign_15n, sX9_sign_17, sX9_sign_18, sX9_sign_21, sX9_sign_24, sX9_sign_25, sX9_sign_28, sX9_sign_29, sX9_sign_31, sX9_sign_34, sX9_sign_35, sX9_sign_36, sX9_sign_36n, sX9_sign_38, sX9_sign_39, sX9_sign_40, sX9_sign_43, gG9_0, gG9_1, gG9_2, gG9_3, gG9_4, gG9_5, gG9_6, gG9_7, gP9_0, gP9_1, gP9_2, gP9_3, gP9_4, gP9_5, gP9_6, gP9_7, gG2_0, gG2_1, gG2_2, gG2_3, gG2_4, gG2_5, gG2_6, gG2_7, gG2_8, gG2_9, gG2_10, gG2_11, gP2_0, gP2_1, gP2_2, gP2_3, gP2_4, gP2_5, gP2_6, gP2_7, gP2_8, gP2_9, gP2_10, gP2_11, zpush_v, zpush_n, gCk, gAi, gSi, gLi, gLq, ↓if_pos, ↓if_neg, c1, cp, k3, ck, hT]
    · have hF := m_X2_hasSignF k1 g3
      have fin : ∀ y : Int32, WP 90 0 [some (.ref X), some (.int (nI i)), some (.int s), some (.int w), none] [] h Q = Q (some (.int (-1))) h := fun _ => by
        simp (disch := (first | omega | assumption | (simp (disch := omega) only [Int32.lt_iff_toInt_lt, Int32.le_iff_toInt_le, ← Int32.toInt_inj, nI_toInt, zi_m1, zi_m2, zi_m3, zi_m9]; omega) | decide)) only [sX9_sign_0, sX9_sign_1, sX9_sign_4, sX9_sign_5, sX9_sign_8i, sX9_sign_8iN, sX9_sign_8r, sX9_sign_8rN, sX9_sign_8z, sX9_sign_8zN, sX9_sign_8o, sX9_sign_8oN, sX9_sign_10, sX9_sign_10n, sX9_sign_12, sX9_sign_12n, sX9_sign_15, sX9_sign_15n, sX9_sign_17, sX9_sign_18, sX9_sign_21, sX9_sign_24, sX9_sign_25, sX9_sign_28, sX9_sign_29, sX9_sign_31, sX9_sign_34, sX9_sign_35, sX9_sign_36, sX9_sign_36n, sX9_sign_38, sX9_sign_39, sX9_sign_40, sX9_sign_43, gG9_0, gG9_1, gG9_2, gG9_3, gG9_4, gG9_5, gG9_6, gG9_7, gP9_0, gP9_1, gP9_2, gP9_3, gP9_4, gP9_5, gP9_6, gP9_7, gG2_0, gG2_1, gG2_2, gG2_3, gG2_4, gG2_5, gG2_6, gG2_7, gG2_8, gG2_9, gG2_10, gG2_11, gP2_0, gP2_1, gP2_2, gP2_3, gP2_4, gP2_5, gP2_6, gP2_7, gP2_8, gP2_9, gP2_10, gP2_11, zpush_v, zpush_n, gCk, gAi, gSi, gLi, gLq, ↓if_pos, ↓if_neg, c1, cp, k3, ck, hF]
      cases dN 6 w with
      | none => exact fin 0
      | some j =>
        simp only
        rw [e3]
        exact fin 0
  · rw [e]
    simp (disch := (first | omega | assumption | (simp (disch := omega) only [Int32.lt_iff_toInt_lt, Int32.le_iff_toInt_le, ← Int32.toInt_inj, nI_toInt, zi_m1, zi_m2, zi_m3, zi_m9]; omega) | decide)) only [sX9_sign_0, sX9_sign_1, sX9_sign_4, sX9_sign_5, sX9_sign_8i, sX9_sign_8iN, sX9_sign_8r, sX9_sign_8rN, sX9_sign_8z, sX9_sign_8zN, sX9_sign_8o, sX9_sign_8oN, sX9_sign_10, sX9_sign_10n, sX9_sign_12, sX9_sign_12n, sX9_sign_15, sX9_sign_15n, sX9_sign_17, sX9_sign_18, sX9_sign_21, sX9_sign_24, sX9_sign_25, sX9_sign_28, sX9_sign_29, sX9_sign_31, sX9_sign_34, sX9_sign_35, sX9_sign_36, sX9_sign_36n, sX9_sign_38, sX9_sign_39, sX9_sign_40, sX9_sign_43, gG9_0, gG9_1, gG9_2, gG9_3, gG9_4, gG9_5, gG9_6, gG9_7, gP9_0, gP9_1, gP9_2, gP9_3, gP9_4, gP9_5, gP9_6, gP9_7, gG2_0, gG2_1, gG2_2, gG2_3, gG2_4, gG2_5, gG2_6, gG2_7, gG2_8, gG2_9, gG2_10, gG2_11, gP2_0, gP2_1, gP2_2, gP2_3, gP2_4, gP2_5, gP2_6, gP2_7, gP2_8, gP2_9, gP2_10, gP2_11, zpush_v, zpush_n, gCk, gAi, gSi, gLi, gLq, ↓if_pos, ↓if_neg, c1, cp, hr.noLook g]
theorem x_syllable (hr : rP h X B p) (hw : WfP p) (l s w : Int32) (Q : Option Value → Hp → Prop) : WPm 91 [.ref X, .int l, .int s, .int w] h Q = Q (some (.int (qSyllable p l s w))) h := by
  obtain ⟨c1, c2, hS⟩ := hr.facts
  obtain ⟨fs2, cp⟩ := hr.pic
  have h16 := hw.1.2.1.1
  unfold qSyllable
  rw [eX9_syllable]
  rcases dN_cases p.1.2.1.length l (by omega) with ⟨i, hi, rfl, e⟩ | ⟨g, e⟩
  · rw [e]
    simp only
    obtain ⟨k1, k2, k3⟩ := hr.look hw hi
    have ck := k1.cell.1
    have wl := hw.1.2.1.2 _ (lnA_mem hi)
    have l80 := (rdL_ok hw.1.1 wl).2.1
    rcases dN_cases (rdL p.1.1 (lnA p.1.2.1 i)).2.2.length s (by omega) with ⟨k, hk, rfl, e3⟩ | ⟨g3, e3⟩
    · have hT := m_X2_hasSylT k1 hw.1.1 wl hk
      rcases dN_cases 3 w (by omega) with ⟨j, hj, rfl, e2⟩ | ⟨g2, e2⟩
      · rw [e2]
        simp only
        rw [e3]
        simp only
        simp (disch := (first | omega | assumption | (simp (disch := omega) only [Int32.lt_iff_toInt_lt, Int32.le_iff_toInt_le, ← Int32.toInt_inj, nI_toInt, zi_m1, zi_m2, zi_m3, zi_m9]; omega) | decide)) only [sX9_syllable_0, sX9_syllable_1, sX9_syllable_4, sX9_syllable_5, sX9_syllable_8i, sX9_syllable_8iN, sX9_syllable_8r, sX9_syllable_8rN, sX9_syllable_8z, sX9_syllable_8zN, sX9_syllable_8o, sX9_syllable_8oN, sX9_syllable_10, sX9_syllable_10n, sX9_syllable_12, sX9_syllable_12n, sX9_syllable_15, sX9_syllable_15n, sX9_syllable_17, sX9_syllable_18, sX9_syllable_21, sX9_syllable_24, sX9_syllable_25, sX9_syllable_28, sX9_syllable_29, sX9_syllable_30, sX9_syllable_33, sX9_syllable_34, sX9_syllable_35, sX9_syllable_35n, sX9_syllable_37, sX9_syllable_38, sX9_syllable_39, sX9_syllable_42, gG9_0, gG9_1, gG9_2, gG9_3, gG9_4, gG9_5, gG9_6, gG9_7, gP9_0, gP9_1, gP9_2, gP9_3, gP9_4, gP9_5, gP9_6, gP9_7, gG2_0, gG2_1, gG2_2, gG2_3, gG2_4, gG2_5, gG2_6, gG2_7, gG2_8, gG2_9, gG2_10, gG2_11, gP2_0, gP2_1, gP2_2, gP2_3, gP2_4, gP2_5, gP2_6, gP2_7, gP2_8, gP2_9, gP2_10, gP2_11, zpush_v, zpush_n, gCk, gAi, gSi, gLi, gLq, ↓if_pos, ↓if_neg, c1, cp, k3, ck, hT, m_X2_sylNumber k1 hw.1.1 wl hk hj]
      · rw [e2]
        by_cases z : w < nI 0
        · simp (disch := (first | omega | assumption | (simp (disch := omega) only [Int32.lt_iff_toInt_lt, Int32.le_iff_toInt_le, ← Int32.toInt_inj, nI_toInt, zi_m1, zi_m2, zi_m3, zi_m9]; omega) | decide)) only [sX9_syllable_0, sX9_syllable_1, sX9_syllable_4, sX9_syllable_5, sX9_syllable_8i, sX9_syllable_8iN, sX9_syllable_8r, sX9_syllable_8rN, sX9_syllable_8z, sX9_syllable_8zN, sX9_syllable_8o, sX9_syllable_8oN, sX9_syllable_10, sX9_syllable_10n, sX9_syllable_12, sX9_syllable_12n, sX9_syllable_15, sX9_syllable_15n, sX9_syllable_17, sX9_syllable_18, sX9_syllable_21, sX9_syllable_24, sX9_syllable_25, sX9_syllable_28, sX9_syllable_29, sX9_syllable_30, sX9_syllable_33, sX9_syllable_34, sX9_syllable_35, sX9_syllable_35n, sX9_syllable_37, sX9_syllable_38, sX9_syllable_39, sX9_syllable_42, gG9_0, gG9_1, gG9_2, gG9_3, gG9_4, gG9_5, gG9_6, gG9_7, gP9_0, gP9_1, gP9_2, gP9_3, gP9_4, gP9_5, gP9_6, gP9_7, gG2_0, gG2_1, gG2_2, gG2_3, gG2_4, gG2_5, gG2_6, gG2_7, gG2_8, gG2_9, gG2_10, gG2_11, gP2_0, gP2_1, gP2_2, gP2_3, gP2_4, gP2_5, gP2_6, gP2_7, gP2_8, gP2_9, gP2_10, gP2_11, zpush_v, zpush_n, gCk, gAi, gSi, gLi, gLq, ↓if_pos, ↓if_neg, c1, cp, k3, ck, hT]
        · have z2 := g2.resolve_left z
          have z3 := Int32.not_lt.mpr z2
          simp (disch := (first | omega | assumption | (simp (disch := omega) only [Int32.lt_iff_toInt_lt, Int32.le_iff_toInt_le, ← Int32.toInt_inj, nI_toInt, zi_m1, zi_m2, zi_m3, zi_m9]; omega) | decide)) only [sX9_syllable_0, sX9_syllable_1, sX9_syllable_4, sX9_syllable_5, sX9_syllable_8i, sX9_syllable_8iN, sX9_syllable_8r, sX9_syllable_8rN, sX9_syllable_8z, sX9_syllable_8zN, sX9_syllable_8o, sX9_syllable_8oN, sX9_syllable_10, sX9_syllable_10n, sX9_syllable_12, sX9_syllable_12n, sX9_syllable_15, sX9_syllable_15n, sX9_syllable_17, sX9_syllable_18, sX9_syllable_21, sX9_syllable_24, sX9_syllable_25, sX9_syllable_28, sX9_syllable_29, sX9_syllable_30, sX9_syllable_33, sX9_syllable_34, sX9_syllable_35, sX9_syllable_35n, sX9_syllable_37, sX9_syllable_38, sX9_syllable_39, sX9_syllable_42, gG9_0, gG9_1, gG9_2, gG9_3, gG9_4, gG9_5, gG9_6, gG9_7, gP9_0, gP9_1, gP9_2, gP9_3, gP9_4, gP9_5, gP9_6, gP9_7, gG2_0, gG2_1, gG2_2, gG2_3, gG2_4, gG2_5, gG2_6, gG2_7, gG2_8, gG2_9, gG2_10, gG2_11, gP2_0, gP2_1, gP2_2, gP2_3, gP2_4, gP2_5, gP2_6, gP2_7, gP2_8, gP2_9, gP2_10, gP2_11, zpush_v, zpush_n, gCk, gAi, gSi, gLi, gLq, ↓if_pos, ↓if_neg, c1, cp, k3, ck, hT]
    · have hF := m_X2_hasSylF k1 g3
      have fin : ∀ y : Int32, WP 91 0 [some (.ref X), some (.int (nI i)), some (.int s), some (.int w), none] [] h Q = Q (some (.int (-1))) h := fun _ => by
        simp (disch := (first | omega | assumption | (simp (disch := omega) only [Int32.lt_iff_toInt_lt, Int32.le_iff_toInt_le, ← Int32.toInt_inj, nI_toInt, zi_m1, zi_m2, zi_m3, zi_m9]; omega) | decide)) only [sX9_syllable_0, sX9_syllable_1, sX9_syllable_4, sX9_syllable_5, sX9_syllable_8i, sX9_syllable_8iN, sX9_syllable_8r, sX9_syllable_8rN, sX9_syllable_8z, sX9_syllable_8zN, sX9_syllable_8o, sX9_syllable_8oN, sX9_syllable_10, sX9_syllable_10n, sX9_syllable_12, sX9_syllable_12n, sX9_syllable_15, sX9_syllable_15n, sX9_syllable_17, sX9_syllable_18, sX9_syllable_21, sX9_syllable_24, sX9_syllable_25, sX9_syllable_28, sX9_syllable_29, sX9_syllable_30, sX9_syllable_33, sX9_syllable_34, sX9_syllable_35, sX9_syllable_35n, sX9_syllable_37, sX9_syllable_38, sX9_syllable_39, sX9_syllable_42, gG9_0, gG9_1, gG9_2, gG9_3, gG9_4, gG9_5, gG9_6, gG9_7, gP9_0, gP9_1, gP9_2, gP9_3, gP9_4, gP9_5, gP9_6, gP9_7, gG2_0, gG2_1, gG2_2, gG2_3, gG2_4, gG2_5, gG2_6, gG2_7, gG2_8, gG2_9, gG2_10, gG2_11, gP2_0, gP2_1, gP2_2, gP2_3, gP2_4, gP2_5, gP2_6, gP2_7, gP2_8, gP2_9, gP2_10, gP2_11, zpush_v, zpush_n, gCk, gAi, gSi, gLi, gLq, ↓if_pos, ↓if_neg, c1, cp, k3, ck, hF]
      cases dN 3 w with
      | none => exact fin 0
      | some j =>
        simp only
        rw [e3]
        exact fin 0
  · rw [e]
    simp (disch := (first | omega | assumption | (simp (disch := omega) only [Int32.lt_iff_toInt_lt, Int32.le_iff_toInt_le, ← Int32.toInt_inj, nI_toInt, zi_m1, zi_m2, zi_m3, zi_m9]; omega) | decide)) only [sX9_syllable_0, sX9_syllable_1, sX9_syllable_4, sX9_syllable_5, sX9_syllable_8i, sX9_syllable_8iN, sX9_syllable_8r, sX9_syllable_8rN, sX9_syllable_8z, sX9_syllable_8zN, sX9_syllable_8o, sX9_syllable_8oN, sX9_syllable_10, sX9_syllable_10n, sX9_syllable_12, sX9_syllable_12n, sX9_syllable_15, sX9_syllable_15n, sX9_syllable_17, sX9_syllable_18, sX9_syllable_21, sX9_syllable_24, sX9_syllable_25, sX9_syllable_28, sX9_syllable_29, sX9_syllable_30, sX9_syllable_33, sX9_syllable_34, sX9_syllable_35, sX9_syllable_35n, sX9_syllable_37, sX9_syllable_38, sX9_syllable_39, sX9_syllable_42, gG9_0, gG9_1, gG9_2, gG9_3, gG9_4, gG9_5, gG9_6, gG9_7, gP9_0, gP9_1, gP9_2, gP9_3, gP9_4, gP9_5, gP9_6, gP9_7, gG2_0, gG2_1, gG2_2, gG2_3, gG2_4, gG2_5, gG2_6, gG2_7, gG2_8, gG2_9, gG2_10, gG2_11, gP2_0, gP2_1, gP2_2, gP2_3, gP2_4, gP2_5, gP2_6, gP2_7, gP2_8, gP2_9, gP2_10, gP2_11, zpush_v, zpush_n, gCk, gAi, gSi, gLi, gLq, ↓if_pos, ↓if_neg, c1, cp, hr.noLook g]
theorem x_shows (hr : rP h X B p) (hw : WfP p) (l s t : Int32) (Q : Option Value → Hp → Prop) : WPm 93 [.ref X, .int l, .int s, .int t] h Q = Q (some (.int (qShows p l s t))) h := by
  obtain ⟨c1, c2, hS⟩ := hr.facts
  obtain ⟨fs2, cp⟩ := hr.pic
  have h16 := hw.1.2.1.1
  unfold qShows
  rw [eX9_shows]
  rcases dN_cases p.1.2.1.length l (by omega) with ⟨i, hi, rfl, e⟩ | ⟨g, e⟩
  · rw [e]
    simp only
    obtain ⟨k1, k2, k3⟩ := hr.look hw hi
    have ck := k1.cell.1
    have wl := hw.1.2.1.2 _ (lnA_mem hi)
    have l80 := (rdL_ok hw.1.1 wl).1
    have sh := m_X2_isShownAt k1 t
    rcases dN_cases (rdL p.1.1 (lnA p.1.2.1 i)).2.1.length s (by omega) with ⟨k, hk, rfl, e3⟩ | ⟨g3, e3⟩
    · have hT := m_X2_hasSignT k1 hw.1.1 wl hk
      rw [e3]
      simp only
      have eg : (rdL p.1.1 (lnA p.1.2.1 i)).2.1[k]? = some ((rdL p.1.1 (lnA p.1.2.1 i)).2.1.getD k (0, (fun _ => 0), none)) := by
        rw [List.getD_eq_getElem?_getD, List.getElem?_eq_getElem hk]
        rfl
      have su := m_X2_isSungAt k1 hw.1.1 wl eg t
      by_cases z : shownP (lnA p.1.2.1 i) t = true
      · rw [if_pos z]
        rw [bI_t z] at sh
        by_cases y : sungP (lnA p.1.2.1 i).1 (rdL p.1.1 (lnA p.1.2.1 i)).2.2 ((rdL p.1.1 (lnA p.1.2.1 i)).2.1.getD k (0, (fun _ => 0), none)).2.2 t = true
        · rw [if_pos y]
          rw [bI_t y] at su
          simp (disch := (first | omega | assumption | (simp (disch := omega) only [Int32.lt_iff_toInt_lt, Int32.le_iff_toInt_le, ← Int32.toInt_inj, nI_toInt, zi_m1, zi_m2, zi_m3, zi_m9]; omega) | decide)) only [sX9_shows_0, sX9_shows_1, sX9_shows_4, sX9_shows_5, sX9_shows_8i, sX9_shows_8iN, sX9_shows_8r, sX9_shows_8rN, sX9_shows_8z, sX9_shows_8zN, sX9_shows_8o, sX9_shows_8oN, sX9_shows_10, sX9_shows_10n, sX9_shows_12, sX9_shows_12n, sX9_shows_15, sX9_shows_15n, sX9_shows_17, sX9_shows_18, sX9_shows_21, sX9_shows_24, sX9_shows_25, sX9_shows_26, sX9_shows_26n, sX9_shows_28, sX9_shows_29, sX9_shows_32, sX9_shows_35, sX9_shows_37, sX9_shows_38, sX9_shows_38n, sX9_shows_40, sX9_shows_41, sX9_shows_42, sX9_shows_45, sX9_shows_48, sX9_shows_49, sX9_shows_52, sX9_shows_53i, sX9_shows_53r, sX9_shows_53z, sX9_shows_53o, sX9_shows_55, sX9_shows_55n, sX9_shows_57, sX9_shows_58, sX9_shows_59, sX9_shows_61, sX9_shows_62, sX9_shows_65, gG9_0, gG9_1, gG9_2, gG9_3, gG9_4, gG9_5, gG9_6, gG9_7, gP9_0, gP9_1, gP9_2, gP9_3, gP9_4, gP9_5, gP9_6, gP9_7, gG2_0, gG2_1, gG2_2, gG2_3, gG2_4, gG2_5, gG2_6, gG2_7, gG2_8, gG2_9, gG2_10, gG2_11, gP2_0, gP2_1, gP2_2, gP2_3, gP2_4, gP2_5, gP2_6, gP2_7, gP2_8, gP2_9, gP2_10, gP2_11, zpush_v, zpush_n, gCk, gAi, gSi, gLi, gLq, ↓if_pos, ↓if_neg, c1, cp, k3, ck, hT, sh, su, nI_add, m_X2_signNumber k1 hw.1.1 wl eg (w := 3) (by omega)]
        · rw [if_neg y]
          rw [bI_f y] at su
          simp (disch := (first | omega | assumption | (simp (disch := omega) only [Int32.lt_iff_toInt_lt, Int32.le_iff_toInt_le, ← Int32.toInt_inj, nI_toInt, zi_m1, zi_m2, zi_m3, zi_m9]; omega) | decide)) only [sX9_shows_0, sX9_shows_1, sX9_shows_4, sX9_shows_5, sX9_shows_8i, sX9_shows_8iN, sX9_shows_8r, sX9_shows_8rN, sX9_shows_8z, sX9_shows_8zN, sX9_shows_8o, sX9_shows_8oN, sX9_shows_10, sX9_shows_10n, sX9_shows_12, sX9_shows_12n, sX9_shows_15, sX9_shows_15n, sX9_shows_17, sX9_shows_18, sX9_shows_21, sX9_shows_24, sX9_shows_25, sX9_shows_26, sX9_shows_26n, sX9_shows_28, sX9_shows_29, sX9_shows_32, sX9_shows_35, sX9_shows_37, sX9_shows_38, sX9_shows_38n, sX9_shows_40, sX9_shows_41, sX9_shows_42, sX9_shows_45, sX9_shows_48, sX9_shows_49, sX9_shows_52, sX9_shows_53i, sX9_shows_53r, sX9_shows_53z, sX9_shows_53o, sX9_shows_55, sX9_shows_55n, sX9_shows_57, sX9_shows_58, sX9_shows_59, sX9_shows_61, sX9_shows_62, sX9_shows_65, gG9_0, gG9_1, gG9_2, gG9_3, gG9_4, gG9_5, gG9_6, gG9_7, gP9_0, gP9_1, gP9_2, gP9_3, gP9_4, gP9_5, gP9_6, gP9_7, gG2_0, gG2_1, gG2_2, gG2_3, gG2_4, gG2_5, gG2_6, gG2_7, gG2_8, gG2_9, gG2_10, gG2_11, gP2_0, gP2_1, gP2_2, gP2_3, gP2_4, gP2_5, gP2_6, gP2_7, gP2_8, gP2_9, gP2_10, gP2_11, zpush_v, zpush_n, gCk, gAi, gSi, gLi, gLq, ↓if_pos, ↓if_neg, c1, cp, k3, ck, hT, sh, su, nI_add, m_X2_signNumber k1 hw.1.1 wl eg (w := 2) (by omega)]
      · rw [if_neg z]
        rw [bI_f z] at sh
        simp (disch := (first | omega | assumption | (simp (disch := omega) only [Int32.lt_iff_toInt_lt, Int32.le_iff_toInt_le, ← Int32.toInt_inj, nI_toInt, zi_m1, zi_m2, zi_m3, zi_m9]; omega) | decide)) only [sX9_shows_0, sX9_shows_1, sX9_shows_4, sX9_shows_5, sX9_shows_8i, sX9_shows_8iN, sX9_shows_8r, sX9_shows_8rN, sX9_shows_8z, sX9_shows_8zN, sX9_shows_8o, sX9_shows_8oN, sX9_shows_10, sX9_shows_10n, sX9_shows_12, sX9_shows_12n, sX9_shows_15, sX9_shows_15n, sX9_shows_17, sX9_shows_18, sX9_shows_21, sX9_shows_24, sX9_shows_25, sX9_shows_26, sX9_shows_26n, sX9_shows_28, sX9_shows_29, sX9_shows_32, sX9_shows_35, sX9_shows_37, sX9_shows_38, sX9_shows_38n, sX9_shows_40, sX9_shows_41, sX9_shows_42, sX9_shows_45, sX9_shows_48, sX9_shows_49, sX9_shows_52, sX9_shows_53i, sX9_shows_53r, sX9_shows_53z, sX9_shows_53o, sX9_shows_55, sX9_shows_55n, sX9_shows_57, sX9_shows_58, sX9_shows_59, sX9_shows_61, sX9_shows_62, sX9_shows_65, gG9_0, gG9_1, gG9_2, gG9_3, gG9_4, gG9_5, gG9_6, gG9_7, gP9_0, gP9_1, gP9_2, gP9_3, gP9_4, gP9_5, gP9_6, gP9_7, gG2_0, gG2_1, gG2_2, gG2_3, gG2_4, gG2_5, gG2_6, gG2_7, gG2_8, gG2_9, gG2_10, gG2_11, gP2_0, gP2_1, gP2_2, gP2_3, gP2_4, gP2_5, gP2_6, gP2_7, gP2_8, gP2_9, gP2_10, gP2_11, zpush_v, zpush_n, gCk, gAi, gSi, gLi, gLq, ↓if_pos, ↓if_neg, c1, cp, k3, ck, hT, sh]
    · have hF := m_X2_hasSignF k1 g3
      rw [e3]
      simp (disch := (first | omega | assumption | (simp (disch := omega) only [Int32.lt_iff_toInt_lt, Int32.le_iff_toInt_le, ← Int32.toInt_inj, nI_toInt, zi_m1, zi_m2, zi_m3, zi_m9]; omega) | decide)) only [sX9_shows_0, sX9_shows_1, sX9_shows_4, sX9_shows_5, sX9_shows_8i, sX9_shows_8iN, sX9_shows_8r, sX9_shows_8rN, sX9_shows_8z, sX9_shows_8zN, sX9_shows_8o, sX9_shows_8oN, sX9_shows_10, sX9_shows_10n, sX9_shows_12, sX9_shows_12n, sX9_shows_15, sX9_shows_15n, sX9_shows_17, sX9_shows_18, sX9_shows_21, sX9_shows_24, sX9_shows_25, sX9_shows_26, sX9_shows_26n, sX9_shows_28, sX9_shows_29, sX9_shows_32, sX9_shows_35, sX9_shows_37, sX9_shows_38, sX9_shows_38n, sX9_shows_40, sX9_shows_41, sX9_shows_42, sX9_shows_45, sX9_shows_48, sX9_shows_49, sX9_shows_52, sX9_shows_53i, sX9_shows_53r, sX9_shows_53z, sX9_shows_53o, sX9_shows_55, sX9_shows_55n, sX9_shows_57, sX9_shows_58, sX9_shows_59, sX9_shows_61, sX9_shows_62, sX9_shows_65, gG9_0, gG9_1, gG9_2, gG9_3, gG9_4, gG9_5, gG9_6, gG9_7, gP9_0, gP9_1, gP9_2, gP9_3, gP9_4, gP9_5, gP9_6, gP9_7, gG2_0, gG2_1, gG2_2, gG2_3, gG2_4, gG2_5, gG2_6, gG2_7, gG2_8, gG2_9, gG2_10, gG2_11, gP2_0, gP2_1, gP2_2, gP2_3, gP2_4, gP2_5, gP2_6, gP2_7, gP2_8, gP2_9, gP2_10, gP2_11, zpush_v, zpush_n, gCk, gAi, gSi, gLi, gLq, ↓if_pos, ↓if_neg, c1, cp, k3, ck, hF]
  · rw [e]
    simp (disch := (first | omega | assumption | (simp (disch := omega) only [Int32.lt_iff_toInt_lt, Int32.le_iff_toInt_le, ← Int32.toInt_inj, nI_toInt, zi_m1, zi_m2, zi_m3, zi_m9]; omega) | decide)) only [sX9_shows_0, sX9_shows_1, sX9_shows_4, sX9_shows_5, sX9_shows_8i, sX9_shows_8iN, sX9_shows_8r, sX9_shows_8rN, sX9_shows_8z, sX9_shows_8zN, sX9_shows_8o, sX9_shows_8oN, sX9_shows_10, sX9_shows_10n, sX9_shows_12, sX9_shows_12n, sX9_shows_15, sX9_shows_15n, sX9_shows_17, sX9_shows_18, sX9_shows_21, sX9_shows_24, sX9_shows_25, sX9_shows_26, sX9_shows_26n, sX9_shows_28, sX9_shows_29, sX9_shows_32, sX9_shows_35, sX9_shows_37, sX9_shows_38, sX9_shows_38n, sX9_shows_40, sX9_shows_41, sX9_shows_42, sX9_shows_45, sX9_shows_48, sX9_shows_49, sX9_shows_52, sX9_shows_53i, sX9_shows_53r, sX9_shows_53z, sX9_shows_53o, sX9_shows_55, sX9_shows_55n, sX9_shows_57, sX9_shows_58, sX9_shows_59, sX9_shows_61, sX9_shows_62, sX9_shows_65, gG9_0, gG9_1, gG9_2, gG9_3, gG9_4, gG9_5, gG9_6, gG9_7, gP9_0, gP9_1, gP9_2, gP9_3, gP9_4, gP9_5, gP9_6, gP9_7, gG2_0, gG2_1, gG2_2, gG2_3, gG2_4, gG2_5, gG2_6, gG2_7, gG2_8, gG2_9, gG2_10, gG2_11, gP2_0, gP2_1, gP2_2, gP2_3, gP2_4, gP2_5, gP2_6, gP2_7, gP2_8, gP2_9, gP2_10, gP2_11, zpush_v, zpush_n, gCk, gAi, gSi, gLi, gLq, ↓if_pos, ↓if_neg, c1, cp, hr.noLook g]
theorem l_shown (hr : rP h X B p) (hw : WfP p) (t k : Int32) (Q : Option Value → Hp → Prop) : ∀ (m i : Nat), m + i = p.1.2.1.length →
    WP 94 8 [some (.ref X), some (.int t), some (.int k), some (.int (nI i))] [] h Q = Q (some (.int (fShown p.1 t k m i))) h := by
  obtain ⟨c1, c2, hS⟩ := hr.facts
  obtain ⟨fs2, cp⟩ := hr.pic
  have h16 := hw.1.2.1.1
  intro m
  induction m with
  | zero =>
    intro i hi
    have hi : i = p.1.2.1.length := by omega
    subst hi
    rw [sX9_shown_8]
    simp (disch := (first | omega | assumption | (simp (disch := omega) only [Int32.lt_iff_toInt_lt, Int32.le_iff_toInt_le, ← Int32.toInt_inj, nI_toInt, zi_m1, zi_m2, zi_m3, zi_m9]; omega) | decide)) only [sX9_shown_0, sX9_shown_1, sX9_shown_4, sX9_shown_5, sX9_shown_6, sX9_shown_7i, sX9_shown_7r, sX9_shown_7z, sX9_shown_7o, sX9_shown_9, sX9_shown_10, sX9_shown_13, sX9_shown_16, sX9_shown_19, sX9_shown_20, sX9_shown_23, sX9_shown_24, sX9_shown_25, sX9_shown_28, sX9_shown_31, sX9_shown_32, sX9_shown_35, sX9_shown_36, sX9_shown_37, sX9_shown_40, sX9_shown_41, sX9_shown_44, sX9_shown_45, sX9_shown_46i, sX9_shown_46r, sX9_shown_46z, sX9_shown_46o, sX9_shown_49, sX9_shown_52, sX9_shown_54, gG9_0, gG9_1, gG9_2, gG9_3, gG9_4, gG9_5, gG9_6, gG9_7, gP9_0, gP9_1, gP9_2, gP9_3, gP9_4, gP9_5, gP9_6, gP9_7, gG6_0, gG6_1, gG6_2, gG6_3, gP6_0, gP6_1, gP6_2, gP6_3, zpush_v, zpush_n, gCk, gAi, gSi, gLi, gLq, ↓if_pos, ↓if_neg, c1, c2]
    rfl
  | succ m ih =>
    intro i hi
    have hi2 : i < p.1.2.1.length := by omega
    have sh := m_X3_isShownAtT hr.2 hw.1.2.1 hi2 t
    have ca := m_X3_countAhead hr.2 hw.1.1 hw.1.2.1 hi2 t
    rw [sX9_shown_8]
    simp only [fShown]
    by_cases z : shownP (lnA p.1.2.1 i) t = true
    · rw [bI_t z] at sh
      by_cases y : nI (cAh p.1.1 p.1.2.1 (offC p.1.1 p.1.2.1) i t p.1.2.1.length) = k
      · rw [if_pos ⟨z, y⟩]
        simp (disch := (first | omega | assumption | (simp (disch := omega) only [Int32.lt_iff_toInt_lt, Int32.le_iff_toInt_le, ← Int32.toInt_inj, nI_toInt, zi_m1, zi_m2, zi_m3, zi_m9]; omega) | decide)) only [sX9_shown_0, sX9_shown_1, sX9_shown_4, sX9_shown_5, sX9_shown_6, sX9_shown_7i, sX9_shown_7r, sX9_shown_7z, sX9_shown_7o, sX9_shown_9, sX9_shown_10, sX9_shown_13, sX9_shown_16, sX9_shown_19, sX9_shown_20, sX9_shown_23, sX9_shown_24, sX9_shown_25, sX9_shown_28, sX9_shown_31, sX9_shown_32, sX9_shown_35, sX9_shown_36, sX9_shown_37, sX9_shown_40, sX9_shown_41, sX9_shown_44, sX9_shown_45, sX9_shown_46i, sX9_shown_46r, sX9_shown_46z, sX9_shown_46o, sX9_shown_49, sX9_shown_52, sX9_shown_54, gG9_0, gG9_1, gG9_2, gG9_3, gG9_4, gG9_5, gG9_6, gG9_7, gP9_0, gP9_1, gP9_2, gP9_3, gP9_4, gP9_5, gP9_6, gP9_7, gG6_0, gG6_1, gG6_2, gG6_3, gP6_0, gP6_1, gP6_2, gP6_3, zpush_v, zpush_n, gCk, gAi, gSi, gLi, gLq, ↓if_pos, ↓if_neg, c1, c2, cp, sh, ca]
        exact if_neg (fun q => q y)
      · rw [if_neg (fun q => y q.2), ← ih (i + 1) (by omega)]
        simp (disch := (first | omega | assumption | (simp (disch := omega) only [Int32.lt_iff_toInt_lt, Int32.le_iff_toInt_le, ← Int32.toInt_inj, nI_toInt, zi_m1, zi_m2, zi_m3, zi_m9]; omega) | decide)) only [sX9_shown_0, sX9_shown_1, sX9_shown_4, sX9_shown_5, sX9_shown_6, sX9_shown_7i, sX9_shown_7r, sX9_shown_7z, sX9_shown_7o, sX9_shown_9, sX9_shown_10, sX9_shown_13, sX9_shown_16, sX9_shown_19, sX9_shown_20, sX9_shown_23, sX9_shown_24, sX9_shown_25, sX9_shown_28, sX9_shown_31, sX9_shown_32, sX9_shown_35, sX9_shown_36, sX9_shown_37, sX9_shown_40, sX9_shown_41, sX9_shown_44, sX9_shown_45, sX9_shown_46i, sX9_shown_46r, sX9_shown_46z, sX9_shown_46o, sX9_shown_49, sX9_shown_52, sX9_shown_54, gG9_0, gG9_1, gG9_2, gG9_3, gG9_4, gG9_5, gG9_6, gG9_7, gP9_0, gP9_1, gP9_2, gP9_3, gP9_4, gP9_5, gP9_6, gP9_7, gG6_0, gG6_1, gG6_2, gG6_3, gP6_0, gP6_1, gP6_2, gP6_3, zpush_v, zpush_n, gCk, gAi, gSi, gLi, gLq, ↓if_pos, ↓if_neg, c1, c2, cp, sh, ca, nI_add]
    · rw [bI_f z] at sh
      rw [if_neg (fun q => z q.1), ← ih (i + 1) (by omega)]
      simp (disch := (first | omega | assumption | (simp (disch := omega) only [Int32.lt_iff_toInt_lt, Int32.le_iff_toInt_le, ← Int32.toInt_inj, nI_toInt, zi_m1, zi_m2, zi_m3, zi_m9]; omega) | decide)) only [sX9_shown_0, sX9_shown_1, sX9_shown_4, sX9_shown_5, sX9_shown_6, sX9_shown_7i, sX9_shown_7r, sX9_shown_7z, sX9_shown_7o, sX9_shown_9, sX9_shown_10, sX9_shown_13, sX9_shown_16, sX9_shown_19, sX9_shown_20, sX9_shown_23, sX9_shown_24, sX9_shown_25, sX9_shown_28, sX9_shown_31, sX9_shown_32, sX9_shown_35, sX9_shown_36, sX9_shown_37, sX9_shown_40, sX9_shown_41, sX9_shown_44, sX9_shown_45, sX9_shown_46i, sX9_shown_46r, sX9_shown_46z, sX9_shown_46o, sX9_shown_49, sX9_shown_52, sX9_shown_54, gG9_0, gG9_1, gG9_2, gG9_3, gG9_4, gG9_5, gG9_6, gG9_7, gP9_0, gP9_1, gP9_2, gP9_3, gP9_4, gP9_5, gP9_6, gP9_7, gG6_0, gG6_1, gG6_2, gG6_3, gP6_0, gP6_1, gP6_2, gP6_3, zpush_v, zpush_n, gCk, gAi, gSi, gLi, gLq, ↓if_pos, ↓if_neg, c1, c2, cp, sh, nI_add]
theorem x_shown (hr : rP h X B p) (hw : WfP p) (t k : Int32) (Q : Option Value → Hp → Prop) : WPm 94 [.ref X, .int t, .int k] h Q = Q (some (.int (qShown p t k))) h := by
  unfold qShown
  rw [eX9_shown]
  by_cases z : k < nI 0
  · rw [if_pos z]
    have z2 := Int32.not_le.mpr z
    simp (disch := (first | omega | assumption | (simp (disch := omega) only [Int32.lt_iff_toInt_lt, Int32.le_iff_toInt_le, ← Int32.toInt_inj, nI_toInt, zi_m1, zi_m2, zi_m3, zi_m9]; omega) | decide)) only [sX9_shown_0, sX9_shown_1, sX9_shown_4, sX9_shown_5, zpush_v, zpush_n, gCk, gAi, gSi, gLi, gLq, ↓if_pos, ↓if_neg]
  · rw [if_neg z]
    have z2 := Int32.not_lt.mp z
    simp (disch := (first | omega | assumption | (simp (disch := omega) only [Int32.lt_iff_toInt_lt, Int32.le_iff_toInt_le, ← Int32.toInt_inj, nI_toInt, zi_m1, zi_m2, zi_m3, zi_m9]; omega) | decide)) only [sX9_shown_0, sX9_shown_1, sX9_shown_4, sX9_shown_5, sX9_shown_6, sX9_shown_7i, sX9_shown_7r, sX9_shown_7z, sX9_shown_7o, zpush_v, zpush_n, gCk, gAi, gSi, gLi, gLq, ↓if_pos, ↓if_neg]
    exact l_shown hr hw t k Q _ 0 rfl
end XH
