/-! SubtitleStyles: what is asked of styles; what is typed -/
section XA
variable {h : Hp} {X B : Nat} {p : PS}
theorem m_X9_isProperty (x : Int32) (Q : Option Value → Hp → Prop) : WPm 103 [.int x] h Q = Q (some (.int (bI (nI 0 ≤ x ∧ x < nI 6)))) h := by
  rw [eX9_isProperty]
  by_cases c1 : nI 0 ≤ x
  · have d1 := Int32.not_lt.mpr c1
    by_cases c2 : x < nI 6
    · have d2 := Int32.not_le.mpr c2
      rw [bI_t ⟨c1, c2⟩]
      simp (disch := (first | omega | assumption | (simp (disch := omega) only [Int32.lt_iff_toInt_lt, Int32.le_iff_toInt_le, ← Int32.toInt_inj, nI_toInt, zi_m1, zi_m2, zi_m3, zi_m9]; omega) | decide)) only [sX9_isProperty_0, sX9_isProperty_1, sX9_isProperty_4, sX9_isProperty_5, sX9_isProperty_7, sX9_isProperty_10, sX9_isProperty_11, sX9_isProperty_14, sX9_isProperty_15, zpush_v, zpush_n, gCk, gAi, gSi, gLi, gLq, ↓if_pos, ↓if_neg]
    · have d2 := Int32.not_lt.mp c2
      rw [bI_f (fun q => c2 q.2)]
      simp (disch := (first | omega | assumption | (simp (disch := omega) only [Int32.lt_iff_toInt_lt, Int32.le_iff_toInt_le, ← Int32.toInt_inj, nI_toInt, zi_m1, zi_m2, zi_m3, zi_m9]; omega) | decide)) only [sX9_isProperty_0, sX9_isProperty_1, sX9_isProperty_4, sX9_isProperty_5, sX9_isProperty_7, sX9_isProperty_10, sX9_isProperty_11, sX9_isProperty_14, sX9_isProperty_15, zpush_v, zpush_n, gCk, gAi, gSi, gLi, gLq, ↓if_pos, ↓if_neg]
  · have d1 := Int32.not_le.mp c1
    rw [bI_f (fun q => c1 q.1)]
    simp (disch := (first | omega | assumption | (simp (disch := omega) only [Int32.lt_iff_toInt_lt, Int32.le_iff_toInt_le, ← Int32.toInt_inj, nI_toInt, zi_m1, zi_m2, zi_m3, zi_m9]; omega) | decide)) only [sX9_isProperty_0, sX9_isProperty_1, sX9_isProperty_4, sX9_isProperty_5, sX9_isProperty_7, sX9_isProperty_10, sX9_isProperty_11, sX9_isProperty_14, sX9_isProperty_15, zpush_v, zpush_n, gCk, gAi, gSi, gLi, gLq, ↓if_pos, ↓if_neg]
theorem isPr_t {k : Nat} (hk : k < 6) (Q : Option Value → Hp → Prop) : WPm 103 [.int (nI k)] h Q = Q (some (.int (nI 1))) h := by
  rw [m_X9_isProperty, bI_t]
  simp (disch := omega) only [Int32.lt_iff_toInt_lt, Int32.le_iff_toInt_le, nI_toInt]
  omega
theorem isPr_f {x : Int32} (hx : x < nI 0 ∨ nI 6 ≤ x) (Q : Option Value → Hp → Prop) : WPm 103 [.int x] h Q = Q (some (.int (nI 0))) h := by
  rw [m_X9_isProperty, bI_f]
  rintro ⟨a, b⟩
  rcases hx with hx | hx
  · exact Int32.not_lt.mpr a hx
  · exact Int32.not_lt.mpr hx b
theorem rP.facts (hr : rP h X B p) : h.1 X = some (.inr (9, [.ref (X + 1), .int (nI p.2.2.length), .ref (X + 3), .ref (X + 8), .ref (X + 15), .ref (X + 52), .ref (X + 168), .ref (X + 173)])) ∧ h.1 (X + 8) = some (.inr (6, [.ref (X + 8 + 1), .ref (X + 8 + 6), .int (nI p.1.2.1.length), .int (nI p.1.2.2)])) ∧ rSheet h (X + 8 + 1) p.1.1 := by
  obtain ⟨⟨⟨a1, a2, a3, a4, a5⟩, -, -⟩, -⟩ := hr
  exact ⟨a1, a4.cell.1, a4.cell.2⟩
theorem x_styles (hr : rP h X B p) (Q : Option Value → Hp → Prop) : WPm 79 [.ref X] h Q = Q (some (.int (nI p.1.1.1))) h := by
  obtain ⟨c1, c2, hS⟩ := hr.facts
  have c3 := hS.cell.1
  rw [eX9_styles]
  simp (disch := (first | omega | assumption | (simp (disch := omega) only [Int32.lt_iff_toInt_lt, Int32.le_iff_toInt_le, ← Int32.toInt_inj, nI_toInt, zi_m1, zi_m2, zi_m3, zi_m9]; omega) | decide)) only [sX9_styles_0, sX9_styles_1, sX9_styles_4, sX9_styles_7, sX9_styles_10, gG9_0, gG9_1, gG9_2, gG9_3, gG9_4, gG9_5, gG9_6, gG9_7, gP9_0, gP9_1, gP9_2, gP9_3, gP9_4, gP9_5, gP9_6, gP9_7, gG6_0, gG6_1, gG6_2, gG6_3, gP6_0, gP6_1, gP6_2, gP6_3, gG7_0, gG7_1, gG7_2, gP7_0, gP7_1, gP7_2, zpush_v, zpush_n, gCk, gAi, gSi, gLi, gLq, ↓if_pos, ↓if_neg, c1, c2, c3]
theorem x_lines (hr : rP h X B p) (Q : Option Value → Hp → Prop) : WPm 89 [.ref X] h Q = Q (some (.int (nI p.1.2.1.length))) h := by
  obtain ⟨c1, c2, hS⟩ := hr.facts
  rw [eX9_lines]
  simp (disch := (first | omega | assumption | (simp (disch := omega) only [Int32.lt_iff_toInt_lt, Int32.le_iff_toInt_le, ← Int32.toInt_inj, nI_toInt, zi_m1, zi_m2, zi_m3, zi_m9]; omega) | decide)) only [sX9_lines_0, sX9_lines_1, sX9_lines_4, sX9_lines_7, gG9_0, gG9_1, gG9_2, gG9_3, gG9_4, gG9_5, gG9_6, gG9_7, gP9_0, gP9_1, gP9_2, gP9_3, gP9_4, gP9_5, gP9_6, gP9_7, gG6_0, gG6_1, gG6_2, gG6_3, gP6_0, gP6_1, gP6_2, gP6_3, gG7_0, gG7_1, gG7_2, gP7_0, gP7_1, gP7_2, zpush_v, zpush_n, gCk, gAi, gSi, gLi, gLq, ↓if_pos, ↓if_neg, c1, c2]
theorem x_valueOf (hr : rP h X B p) (hw : WfP p) (s pr : Int32) (Q : Option Value → Hp → Prop) : WPm 77 [.ref X, .int s, .int pr] h Q = Q (some (.int (qValueOf p s pr))) h := by
  obtain ⟨c1, c2, hS⟩ := hr.facts
  have hws := hw.1.1
  have h10 := hws.1
  obtain ⟨par, own, hO, hpar, hown⟩ := id hS
  have c3 := hS.cell.1
  rw [eX9_valueOf]
  unfold qValueOf
  have V := fun (o : Option Nat) (ho : okO o) (q : Nat) (hq : q < 6) => m_X7_valueIn hS hws hq ho
  rcases dO_cases p.1.1.1 s (by omega) with ⟨rfl, e⟩ | ⟨k, hk, rfl, e⟩ | ⟨⟨g1, g2⟩, e⟩
  · rw [e]
    rcases dN_cases 6 pr (by omega) with ⟨q, hq, rfl, e2⟩ | ⟨g, e2⟩
    · rw [e2]
      have v := V none (fun v hv => by cases hv) q hq
      rw [eN_n] at v
      simp (disch := (first | omega | assumption | (simp (disch := omega) only [Int32.lt_iff_toInt_lt, Int32.le_iff_toInt_le, ← Int32.toInt_inj, nI_toInt, zi_m1, zi_m2, zi_m3, zi_m9]; omega) | decide)) only [sX9_valueOf_0, sX9_valueOf_1, sX9_valueOf_4, sX9_valueOf_7, sX9_valueOf_8, sX9_valueOf_11, sX9_valueOf_14, sX9_valueOf_15, sX9_valueOf_18, sX9_valueOf_21, sX9_valueOf_22, sX9_valueOf_23, sX9_valueOf_24, sX9_valueOf_27, sX9_valueOf_30, sX9_valueOf_31, sX9_valueOf_32, sX9_valueOf_35, gG9_0, gG9_1, gG9_2, gG9_3, gG9_4, gG9_5, gG9_6, gG9_7, gP9_0, gP9_1, gP9_2, gP9_3, gP9_4, gP9_5, gP9_6, gP9_7, gG6_0, gG6_1, gG6_2, gG6_3, gP6_0, gP6_1, gP6_2, gP6_3, gG7_0, gG7_1, gG7_2, gP7_0, gP7_1, gP7_2, zpush_v, zpush_n, gCk, gAi, gSi, gLi, gLq, ↓if_pos, ↓if_neg, c1, c2, c3, m_X7_honN hO, isPr_t hq, v]
    · rw [e2]
      simp (disch := (first | omega | assumption | (simp (disch := omega) only [Int32.lt_iff_toInt_lt, Int32.le_iff_toInt_le, ← Int32.toInt_inj, nI_toInt, zi_m1, zi_m2, zi_m3, zi_m9]; omega) | decide)) only [sX9_valueOf_0, sX9_valueOf_1, sX9_valueOf_4, sX9_valueOf_7, sX9_valueOf_8, sX9_valueOf_11, sX9_valueOf_14, sX9_valueOf_15, sX9_valueOf_18, sX9_valueOf_21, sX9_valueOf_22, sX9_valueOf_23, sX9_valueOf_24, sX9_valueOf_27, sX9_valueOf_30, sX9_valueOf_31, sX9_valueOf_32, sX9_valueOf_35, gG9_0, gG9_1, gG9_2, gG9_3, gG9_4, gG9_5, gG9_6, gG9_7, gP9_0, gP9_1, gP9_2, gP9_3, gP9_4, gP9_5, gP9_6, gP9_7, gG6_0, gG6_1, gG6_2, gG6_3, gP6_0, gP6_1, gP6_2, gP6_3, gG7_0, gG7_1, gG7_2, gP7_0, gP7_1, gP7_2, zpush_v, zpush_n, gCk, gAi, gSi, gLi, gLq, ↓if_pos, ↓if_neg, c1, c2, c3, m_X7_honN hO, isPr_f g]
  · rw [e]
    rcases dN_cases 6 pr (by omega) with ⟨q, hq, rfl, e2⟩ | ⟨g, e2⟩
    · rw [e2]
      have v := V (some k) (fun v hv => by cases hv; omega) q hq
      rw [eN_s] at v
      simp (disch := (first | omega | assumption | (simp (disch := omega) only [Int32.lt_iff_toInt_lt, Int32.le_iff_toInt_le, ← Int32.toInt_inj, nI_toInt, zi_m1, zi_m2, zi_m3, zi_m9]; omega) | decide)) only [sX9_valueOf_0, sX9_valueOf_1, sX9_valueOf_4, sX9_valueOf_7, sX9_valueOf_8, sX9_valueOf_11, sX9_valueOf_14, sX9_valueOf_15, sX9_valueOf_18, sX9_valueOf_21, sX9_valueOf_22, sX9_valueOf_23, sX9_valueOf_24, sX9_valueOf_27, sX9_valueOf_30, sX9_valueOf_31, sX9_valueOf_32, sX9_valueOf_35, gG9_0, gG9_1, gG9_2, gG9_3, gG9_4, gG9_5, gG9_6, gG9_7, gP9_0, gP9_1, gP9_2, gP9_3, gP9_4, gP9_5, gP9_6, gP9_7, gG6_0, gG6_1, gG6_2, gG6_3, gP6_0, gP6_1, gP6_2, gP6_3, gG7_0, gG7_1, gG7_2, gP7_0, gP7_1, gP7_2, zpush_v, zpush_n, gCk, gAi, gSi, gLi, gLq, ↓if_pos, ↓if_neg, c1, c2, c3, m_X7_honS hO hk h10, isPr_t hq, v]
    · rw [e2]
      simp (disch := (first | omega | assumption | (simp (disch := omega) only [Int32.lt_iff_toInt_lt, Int32.le_iff_toInt_le, ← Int32.toInt_inj, nI_toInt, zi_m1, zi_m2, zi_m3, zi_m9]; omega) | decide)) only [sX9_valueOf_0, sX9_valueOf_1, sX9_valueOf_4, sX9_valueOf_7, sX9_valueOf_8, sX9_valueOf_11, sX9_valueOf_14, sX9_valueOf_15, sX9_valueOf_18, sX9_valueOf_21, sX9_valueOf_22, sX9_valueOf_23, sX9_valueOf_24, sX9_valueOf_27, sX9_valueOf_30, sX9_valueOf_31, sX9_valueOf_32, sX9_valueOf_35, gG9_0, gG9_1, gG9_2, gG9_3, gG9_4, gG9_5, gG9_6, gG9_7, gP9_0, gP9_1, gP9_2, gP9_3, gP9_4, gP9_5, gP9_6, gP9_7, gG6_0, gG6_1, gG6_2, gG6_3, gP6_0, gP6_1, gP6_2, gP6_3, gG7_0, gG7_1, gG7_2, gP7_0, gP7_1, gP7_2, zpush_v, zpush_n, gCk, gAi, gSi, gLi, gLq, ↓if_pos, ↓if_neg, c1, c2, c3, m_X7_honS hO hk h10, isPr_f g]
  · rw [e]
    simp (disch := (first | omega | assumption | (simp (disch := omega) only [Int32.lt_iff_toInt_lt, Int32.le_iff_toInt_le, ← Int32.toInt_inj, nI_toInt, zi_m1, zi_m2, zi_m3, zi_m9]; omega) | decide)) only [sX9_valueOf_0, sX9_valueOf_1, sX9_valueOf_4, sX9_valueOf_7, sX9_valueOf_8, sX9_valueOf_11, sX9_valueOf_14, sX9_valueOf_15, sX9_valueOf_18, sX9_valueOf_21, sX9_valueOf_22, sX9_valueOf_23, sX9_valueOf_24, sX9_valueOf_27, sX9_valueOf_30, sX9_valueOf_31, sX9_valueOf_32, sX9_valueOf_35, gG9_0, gG9_1, gG9_2, gG9_3, gG9_4, gG9_5, gG9_6, gG9_7, gP9_0, gP9_1, gP9_2, gP9_3, gP9_4, gP9_5, gP9_6, gP9_7, gG6_0, gG6_1, gG6_2, gG6_3, gP6_0, gP6_1, gP6_2, gP6_3, gG7_0, gG7_1, gG7_2, gP7_0, gP7_1, gP7_2, zpush_v, zpush_n, gCk, gAi, gSi, gLi, gLq, ↓if_pos, ↓if_neg, c1, c2, c3, m_X7_honF hO g2 g1 h10]
theorem x_from (hr : rP h X B p) (hw : WfP p) (s pr : Int32) (Q : Option Value → Hp → Prop) : WPm 78 [.ref X, .int s, .int pr] h Q = Q (some (.int (qFrom p s pr))) h := by
  obtain ⟨c1, c2, hS⟩ := hr.facts
  have hws := hw.1.1
  have h10 := hws.1
  obtain ⟨par, own, hO, hpar, hown⟩ := id hS
  have c3 := hS.cell.1
  rw [eX9_from]
  unfold qFrom
  rcases dN_cases p.1.1.1 s (by omega) with ⟨k, hk, rfl, e⟩ | ⟨g2, e⟩
  · rw [e]
    rcases dN_cases 6 pr (by omega) with ⟨q, hq, rfl, e2⟩ | ⟨g, e2⟩
    · rw [e2]
      have v := m_X7_sourceOf hS hws hq (o := some k) (fun v hv => by cases hv; omega)
      rw [eN_s] at v
      simp (disch := (first | omega | assumption | (simp (disch := omega) only [Int32.lt_iff_toInt_lt, Int32.le_iff_toInt_le, ← Int32.toInt_inj, nI_toInt, zi_m1, zi_m2, zi_m3, zi_m9]; omega) | decide)) only [sX9_from_0, sX9_from_1, sX9_from_4, sX9_from_7, sX9_from_8, sX9_from_11, sX9_from_14, sX9_from_15, sX9_from_18, sX9_from_21, sX9_from_22, sX9_from_23, sX9_from_24, sX9_from_27, sX9_from_30, sX9_from_31, sX9_from_32, sX9_from_35, gG9_0, gG9_1, gG9_2, gG9_3, gG9_4, gG9_5, gG9_6, gG9_7, gP9_0, gP9_1, gP9_2, gP9_3, gP9_4, gP9_5, gP9_6, gP9_7, gG6_0, gG6_1, gG6_2, gG6_3, gP6_0, gP6_1, gP6_2, gP6_3, gG7_0, gG7_1, gG7_2, gP7_0, gP7_1, gP7_2, zpush_v, zpush_n, gCk, gAi, gSi, gLi, gLq, ↓if_pos, ↓if_neg, c1, c2, c3, m_X7_hasT hO hk h10, isPr_t hq, v]
    · rw [e2]
      simp (disch := (first | omega | assumption | (simp (disch := omega) only [Int32.lt_iff_toInt_lt, Int32.le_iff_toInt_le, ← Int32.toInt_inj, nI_toInt, zi_m1, zi_m2, zi_m3, zi_m9]; omega) | decide)) only [sX9_from_0, sX9_from_1, sX9_from_4, sX9_from_7, sX9_from_8, sX9_from_11, sX9_from_14, sX9_from_15, sX9_from_18, sX9_from_21, sX9_from_22, sX9_from_23, sX9_from_24, sX9_from_27, sX9_from_30, sX9_from_31, sX9_from_32, sX9_from_35, gG9_0, gG9_1, gG9_2, gG9_3, gG9_4, gG9_5, gG9_6, gG9_7, gP9_0, gP9_1, gP9_2, gP9_3, gP9_4, gP9_5, gP9_6, gP9_7, gG6_0, gG6_1, gG6_2, gG6_3, gP6_0, gP6_1, gP6_2, gP6_3, gG7_0, gG7_1, gG7_2, gP7_0, gP7_1, gP7_2, zpush_v, zpush_n, gCk, gAi, gSi, gLi, gLq, ↓if_pos, ↓if_neg, c1, c2, c3, m_X7_hasT hO hk h10, isPr_f g]
  · rw [e]
    simp (disch := (first | omega | assumption | (simp (disch := omega) only [Int32.lt_iff_toInt_lt, Int32.le_iff_toInt_le, ← Int32.toInt_inj, nI_toInt, zi_m1, zi_m2, zi_m3, zi_m9]; omega) | decide)) only [sX9_from_0, sX9_from_1, sX9_from_4, sX9_from_7, sX9_from_8, sX9_from_11, sX9_from_14, sX9_from_15, sX9_from_18, sX9_from_21, sX9_from_22, sX9_from_23, sX9_from_24, sX9_from_27, sX9_from_30, sX9_from_31, sX9_from_32, sX9_from_35, gG9_0, gG9_1, gG9_2, gG9_3, gG9_4, gG9_5, gG9_6, gG9_7, gP9_0, gP9_1, gP9_2, gP9_3, gP9_4, gP9_5, gP9_6, gP9_7, gG6_0, gG6_1, gG6_2, gG6_3, gP6_0, gP6_1, gP6_2, gP6_3, gG7_0, gG7_1, gG7_2, gP7_0, gP7_1, gP7_2, zpush_v, zpush_n, gCk, gAi, gSi, gLi, gLq, ↓if_pos, ↓if_neg, c1, c2, c3, m_X7_hasF hO g2 h10]
theorem x_styleAt (hr : rP h X B p) (hw : WfP p) (s w : Int32) (Q : Option Value → Hp → Prop) : WPm 76 [.ref X, .int s, .int w] h Q = Q (some (.int (qStyleAt p s w))) h := by
  obtain ⟨c1, c2, hS⟩ := hr.facts
  have hws := hw.1.1
  have h10 := hws.1
  obtain ⟨par, own, hO, hpar, hown⟩ := id hS
  have c3 := hS.cell.1
  have c4 := hS.cell.2.1
  rw [eX9_styleAt]
  unfold qStyleAt
  rcases dN_cases p.1.1.1 s (by omega) with ⟨k, hk, rfl, e⟩ | ⟨g2, e⟩
  · rw [e]
    have t := m_X7_hasT hO hk h10
    rcases dN_cases 9 w (by omega) with ⟨q, hq, rfl, e2⟩ | ⟨g, e2⟩
    · rw [e2]
      simp only
      unfold styleNum
      by_cases q6 : q < 6
      · rw [if_pos q6]
        simp (disch := (first | omega | assumption | (simp (disch := omega) only [Int32.lt_iff_toInt_lt, Int32.le_iff_toInt_le, ← Int32.toInt_inj, nI_toInt, zi_m1, zi_m2, zi_m3, zi_m9]; omega) | decide)) only [sX9_styleAt_0, sX9_styleAt_1, sX9_styleAt_4, sX9_styleAt_7i, sX9_styleAt_7iN, sX9_styleAt_7r, sX9_styleAt_7rN, sX9_styleAt_7z, sX9_styleAt_7zN, sX9_styleAt_7o, sX9_styleAt_7oN, sX9_styleAt_8, sX9_styleAt_8n, sX9_styleAt_9, sX9_styleAt_10, sX9_styleAt_13, sX9_styleAt_16, sX9_styleAt_17, sX9_styleAt_18, sX9_styleAt_19, sX9_styleAt_22, sX9_styleAt_25, sX9_styleAt_25n, sX9_styleAt_26, sX9_styleAt_27, sX9_styleAt_28, sX9_styleAt_31, sX9_styleAt_32, sX9_styleAt_33, sX9_styleAt_60, sX9_styleAt_60n, sX9_styleAt_61, sX9_styleAt_64, sX9_styleAt_65, sX9_styleAt_68, sX9_styleAt_69, sX9_styleAt_69n, sX9_styleAt_70, sX9_styleAt_71, sX9_styleAt_74, sX9_styleAt_75, sX9_styleAt_75n, sX9_styleAt_76, sX9_styleAt_77, sX9_styleAt_80, sX9_styleAt_81, sX9_styleAt_82, gG9_0, gG9_1, gG9_2, gG9_3, gG9_4, gG9_5, gG9_6, gG9_7, gP9_0, gP9_1, gP9_2, gP9_3, gP9_4, gP9_5, gP9_6, gP9_7, gG6_0, gG6_1, gG6_2, gG6_3, gP6_0, gP6_1, gP6_2, gP6_3, gG7_0, gG7_1, gG7_2, gP7_0, gP7_1, gP7_2, zpush_v, zpush_n, gCk, gAi, gSi, gLi, gLq, ↓if_pos, ↓if_neg, c1, c2, c3, t, isPr_t q6, m_X7_own hS hk h10 q6]
      · rw [if_neg q6]
        have f := isPr_f (h := h) (x := nI q) (Or.inr (nI_le (by omega) (by omega)))
        have : q = 6 ∨ q = 7 ∨ q = 8 := by omega
        rcases this with rfl | rfl | rfl
        · rw [if_pos rfl]
          simp (disch := (first | omega | assumption | (simp (disch := omega) only [Int32.lt_iff_toInt_lt, Int32.le_iff_toInt_le, ← Int32.toInt_inj, nI_toInt, zi_m1, zi_m2, zi_m3, zi_m9]; omega) | decide)) only [sX9_styleAt_0, sX9_styleAt_1, sX9_styleAt_4, sX9_styleAt_7i, sX9_styleAt_7iN, sX9_styleAt_7r, sX9_styleAt_7rN, sX9_styleAt_7z, sX9_styleAt_7zN, sX9_styleAt_7o, sX9_styleAt_7oN, sX9_styleAt_8, sX9_styleAt_8n, sX9_styleAt_9, sX9_styleAt_10, sX9_styleAt_13, sX9_styleAt_16, sX9_styleAt_17, sX9_styleAt_18, sX9_styleAt_19, sX9_styleAt_22, sX9_styleAt_25, sX9_styleAt_25n, sX9_styleAt_26, sX9_styleAt_27, sX9_styleAt_28, sX9_styleAt_31, sX9_styleAt_32, sX9_styleAt_33, sX9_styleAt_60, sX9_styleAt_60n, sX9_styleAt_61, sX9_styleAt_64, sX9_styleAt_65, sX9_styleAt_68, sX9_styleAt_69, sX9_styleAt_69n, sX9_styleAt_70, sX9_styleAt_71, sX9_styleAt_74, sX9_styleAt_75, sX9_styleAt_75n, sX9_styleAt_76, sX9_styleAt_77, sX9_styleAt_80, sX9_styleAt_81, sX9_styleAt_82, gG9_0, gG9_1, gG9_2, gG9_3, gG9_4, gG9_5, gG9_6, gG9_7, gP9_0, gP9_1, gP9_2, gP9_3, gP9_4, gP9_5, gP9_6, gP9_7, gG6_0, gG6_1, gG6_2, gG6_3, gP6_0, gP6_1, gP6_2, gP6_3, gG7_0, gG7_1, gG7_2, gP7_0, gP7_1, gP7_2, zpush_v, zpush_n, gCk, gAi, gSi, gLi, gLq, ↓if_pos, ↓if_neg, c1, c2, c3, t, f, c4, m_X5_getP hS hk h10]
        · rw [if_neg (by omega), if_pos rfl]
          simp (disch := (first | omega | assumption | (simp (disch := omega) only [Int32.lt_iff_toInt_lt, Int32.le_iff_toInt_le, ← Int32.toInt_inj, nI_toInt, zi_m1, zi_m2, zi_m3, zi_m9]; omega) | decide)) only [sX9_styleAt_0, sX9_styleAt_1, sX9_styleAt_4, sX9_styleAt_7i, sX9_styleAt_7iN, sX9_styleAt_7r, sX9_styleAt_7rN, sX9_styleAt_7z, sX9_styleAt_7zN, sX9_styleAt_7o, sX9_styleAt_7oN, sX9_styleAt_8, sX9_styleAt_8n, sX9_styleAt_9, sX9_styleAt_10, sX9_styleAt_13, sX9_styleAt_16, sX9_styleAt_17, sX9_styleAt_18, sX9_styleAt_19, sX9_styleAt_22, sX9_styleAt_25, sX9_styleAt_25n, sX9_styleAt_26, sX9_styleAt_27, sX9_styleAt_28, sX9_styleAt_31, sX9_styleAt_32, sX9_styleAt_33, sX9_styleAt_60, sX9_styleAt_60n, sX9_styleAt_61, sX9_styleAt_64, sX9_styleAt_65, sX9_styleAt_68, sX9_styleAt_69, sX9_styleAt_69n, sX9_styleAt_70, sX9_styleAt_71, sX9_styleAt_74, sX9_styleAt_75, sX9_styleAt_75n, sX9_styleAt_76, sX9_styleAt_77, sX9_styleAt_80, sX9_styleAt_81, sX9_styleAt_82, gG9_0, gG9_1, gG9_2, gG9_3, gG9_4, gG9_5, gG9_6, gG9_7, gP9_0, gP9_1, gP9_2, gP9_3, gP9_4, gP9_5, gP9_6, gP9_7, gG6_0, gG6_1, gG6_2, gG6_3, gP6_0, gP6_1, gP6_2, gP6_3, gG7_0, gG7_1, gG7_2, gP7_0, gP7_1, gP7_2, zpush_v, zpush_n, gCk, gAi, gSi, gLi, gLq, ↓if_pos, ↓if_neg, c1, c2, c3, t, f, m_X7_ancestorsOf hS hws hk]
        · rw [if_neg (by omega), if_neg (by omega)]
          simp (disch := (first | omega | assumption | (simp (disch := omega) only [Int32.lt_iff_toInt_lt, Int32.le_iff_toInt_le, ← Int32.toInt_inj, nI_toInt, zi_m1, zi_m2, zi_m3, zi_m9]; omega) | decide)) only [sX9_styleAt_0, sX9_styleAt_1, sX9_styleAt_4, sX9_styleAt_7i, sX9_styleAt_7iN, sX9_styleAt_7r, sX9_styleAt_7rN, sX9_styleAt_7z, sX9_styleAt_7zN, sX9_styleAt_7o, sX9_styleAt_7oN, sX9_styleAt_8, sX9_styleAt_8n, sX9_styleAt_9, sX9_styleAt_10, sX9_styleAt_13, sX9_styleAt_16, sX9_styleAt_17, sX9_styleAt_18, sX9_styleAt_19, sX9_styleAt_22, sX9_styleAt_25, sX9_styleAt_25n, sX9_styleAt_26, sX9_styleAt_27, sX9_styleAt_28, sX9_styleAt_31, sX9_styleAt_32, sX9_styleAt_33, sX9_styleAt_60, sX9_styleAt_60n, sX9_styleAt_61, sX9_styleAt_64, sX9_styleAt_65, sX9_styleAt_68, sX9_styleAt_69, sX9_styleAt_69n, sX9_styleAt_70, sX9_styleAt_71, sX9_styleAt_74, sX9_styleAt_75, sX9_styleAt_75n, sX9_styleAt_76, sX9_styleAt_77, sX9_styleAt_80, sX9_styleAt_81, sX9_styleAt_82, gG9_0, gG9_1, gG9_2, gG9_3, gG9_4, gG9_5, gG9_6, gG9_7, gP9_0, gP9_1, gP9_2, gP9_3, gP9_4, gP9_5, gP9_6, gP9_7, gG6_0, gG6_1, gG6_2, gG6_3, gP6_0, gP6_1, gP6_2, gP6_3, gG7_0, gG7_1, gG7_2, gP7_0, gP7_1, gP7_2, zpush_v, zpush_n, gCk, gAi, gSi, gLi, gLq, ↓if_pos, ↓if_neg, c1, c2, c3, t, f, m_X7_childrenOf hS hws (show k < 10 by omega)]
    · rw [e2]
      have f := isPr_f (h := h) (x := w) (by
        rcases g with g | g
        · exact Or.inl g
        · refine Or.inr (Int32.le_trans ?_ g)
          decide)
      have n6 : ¬ w = nI 6 := by rintro rfl; revert g; decide
      have n7 : ¬ w = nI 7 := by rintro rfl; revert g; decide
      have n8 : ¬ w = nI 8 := by rintro rfl; revert g; decide
      simp (disch := (first | omega | assumption | (simp (disch := omega) only [Int32.lt_iff_toInt_lt, Int32.le_iff_toInt_le, ← Int32.toInt_inj, nI_toInt, zi_m1, zi_m2, zi_m3, zi_m9]; omega) | decide)) only [sX9_styleAt_0, sX9_styleAt_1, sX9_styleAt_4, sX9_styleAt_7i, sX9_styleAt_7iN, sX9_styleAt_7r, sX9_styleAt_7rN, sX9_styleAt_7z, sX9_styleAt_7zN, sX9_styleAt_7o, sX9_styleAt_7oN, sX9_styleAt_8, sX9_styleAt_8n, sX9_styleAt_9, sX9_styleAt_10, sX9_styleAt_13, sX9_styleAt_16, sX9_styleAt_17, sX9_styleAt_18, sX9_styleAt_19, sX9_styleAt_22, sX9_styleAt_25, sX9_styleAt_25n, sX9_styleAt_26, sX9_styleAt_27, sX9_styleAt_28, sX9_styleAt_31, sX9_styleAt_32, sX9_styleAt_33, sX9_styleAt_60, sX9_styleAt_60n, sX9_styleAt_61, sX9_styleAt_64, sX9_styleAt_65, sX9_styleAt_68, sX9_styleAt_69, sX9_styleAt_69n, sX9_styleAt_70, sX9_styleAt_71, sX9_styleAt_74, sX9_styleAt_75, sX9_styleAt_75n, sX9_styleAt_76, sX9_styleAt_77, sX9_styleAt_80, sX9_styleAt_81, sX9_styleAt_82, gG9_0, gG9_1, gG9_2, gG9_3, gG9_4, gG9_5, gG9_6, gG9_7, gP9_0, gP9_1, gP9_2, gP9_3, gP9_4, gP9_5, gP9_6, gP9_7, gG6_0, gG6_1, gG6_2, gG6_3, gP6_0, gP6_1, gP6_2, gP6_3, gG7_0, gG7_1, gG7_2, gP7_0, gP7_1, gP7_2, zpush_v, zpush_n, gCk, gAi, gSi, gLi, gLq, ↓if_pos, ↓if_neg, c1, c2, c3, t, f, n6, n7, n8]
  · rw [e]
    simp (disch := (first | omega | assumption | (simp (disch := omega) only [Int32.lt_iff_toInt_lt, Int32.le_iff_toInt_le, ← Int32.toInt_inj, nI_toInt, zi_m1, zi_m2, zi_m3, zi_m9]; omega) | decide)) only [sX9_styleAt_0, sX9_styleAt_1, sX9_styleAt_4, sX9_styleAt_7i, sX9_styleAt_7iN, sX9_styleAt_7r, sX9_styleAt_7rN, sX9_styleAt_7z, sX9_styleAt_7zN, sX9_styleAt_7o, sX9_styleAt_7oN, sX9_styleAt_8, sX9_styleAt_8n, sX9_styleAt_9, sX9_styleAt_10, sX9_styleAt_13, sX9_styleAt_16, sX9_styleAt_17, sX9_styleAt_18, sX9_styleAt_19, sX9_styleAt_22, sX9_styleAt_25, sX9_styleAt_25n, sX9_styleAt_26, sX9_styleAt_27, sX9_styleAt_28, sX9_styleAt_31, sX9_styleAt_32, sX9_styleAt_33, sX9_styleAt_60, sX9_styleAt_60n, sX9_styleAt_61, sX9_styleAt_64, sX9_styleAt_65, sX9_styleAt_68, sX9_styleAt_69, sX9_styleAt_69n, sX9_styleAt_70, sX9_styleAt_71, sX9_styleAt_74, sX9_styleAt_75, sX9_styleAt_75n, sX9_styleAt_76, sX9_styleAt_77, sX9_styleAt_80, sX9_styleAt_81, sX9_styleAt_82, gG9_0, gG9_1, gG9_2, gG9_3, gG9_4, gG9_5, gG9_6, gG9_7, gP9_0, gP9_1, gP9_2, gP9_3, gP9_4, gP9_5, gP9_6, gP9_7, gG6_0, gG6_1, gG6_2, gG6_3, gP6_0, gP6_1, gP6_2, gP6_3, gG7_0, gG7_1, gG7_2, gP7_0, gP7_1, gP7_2, zpush_v, zpush_n, gCk, gAi, gSi, gLi, gLq, ↓if_pos, ↓if_neg, c1, c2, c3, m_X7_hasF hO g2 h10]
end XA
