/-! SubtitleStyles: styles are changed -/
section XB
variable {h h' : Hp} {X B : Nat} {p : PS}
theorem rScr.sheet {s : Nat} {st : Stt} {S' : Sh} (hr : rScr h B s st) (hs : Same h h' (s + 1) 5) (hB : s + 7 ≤ B) (hS : rSheet h' (s + 1) S') : rScr h' B s (S', st.2) := by
  obtain ⟨rf, h1, h2, h3⟩ := hr
  exact ⟨rf, ⟨by rw [hs.at (by omega)]; exact h1.1, by rw [hs.at (by omega)]; exact h1.2⟩, hS, h3.off hs (by omega)⟩
theorem rS.facts (hr : rS h X B p) : h.1 X = some (.inr (9, [.ref (X + 1), .int (nI p.2.2.length), .ref (X + 3), .ref (X + 8), .ref (X + 15), .ref (X + 52), .ref (X + 168), .ref (X + 173)])) ∧ h.1 (X + 8) = some (.inr (6, [.ref (X + 8 + 1), .ref (X + 8 + 6), .int (nI p.1.2.1.length), .int (nI p.1.2.2)])) ∧ rSheet h (X + 8 + 1) p.1.1 ∧ zcls h (X + 15) = some 0 ∧ zcls h (X + 52) = some 3 := by
  obtain ⟨⟨a1, a2, a3, a4, a5⟩, ⟨b1, -⟩, -⟩ := hr
  obtain ⟨o, -, -, q, -⟩ := a5
  obtain ⟨⟨n, g, -, q2⟩, -⟩ := b1
  refine ⟨a1, a4.cell.1, a4.cell.2, ?_, ?_⟩
  · unfold zcls; rw [q.1]
  · unfold zcls; rw [q2.1]
theorem rS.cells (hr : rS h X B p) : (∃ fs, h.1 (X + 15) = some (.inr (0, fs))) ∧ ∃ fs, h.1 (X + 52) = some (.inr (3, fs)) := by
  obtain ⟨⟨a1, a2, a3, a4, a5⟩, ⟨b1, -⟩, -⟩ := hr
  obtain ⟨o, -, -, q, -⟩ := a5
  obtain ⟨⟨n, g, -, q2⟩, -⟩ := b1
  exact ⟨⟨_, q.1⟩, ⟨_, q2.1⟩⟩
theorem rS.sheet {S' : Sh} (hr : rS h X B p) (hs : Same h h' (X + 8 + 1) 5) (hS : rSheet h' (X + 8 + 1) S') : rS h' X B ((S', p.1.2), p.2) := by
  obtain ⟨⟨a1, a2, a3, a4, a5⟩, b, c1, c2, c3⟩ := id hr
  exact hr.scr (hs.wide (by omega) (by omega)) (a4.sheet hs (by omega) hS)
theorem WfSt.sheet {st : Stt} {S' : Sh} (hw : WfSt st) (h1 : WfS S') (h2 : st.1.1 ≤ S'.1) : WfSt (S', st.2) := ⟨h1, hw.2.1, fun x hx q hq => Nat.lt_of_lt_of_le (hw.2.2.1 x hx q hq) h2, hw.2.2.2⟩
theorem WfP.kp {st : Stt} (hw : WfP p) (h : WfSt st) : WfP (kp p st) := ⟨h, kept_wf hw.2.1 hw.1, kept_len hw.2.2.1, hw.2.2.2⟩
theorem x_style (hr : rP h X B p) (hw : WfP p) (x : Int32) : ∃ h', Fr X h h' ∧ (rP h' X B (opStyle p x).1 ∧ WfP (opStyle p x).1) ∧ ∀ Q : Option Value → Hp → Prop, WPm 71 [.ref X, .int x] h Q = Q (some (.int (opStyle p x).2)) h' := by
  obtain ⟨c1, c2, hS, -, -⟩ := hr.1.facts
  obtain ⟨⟨fs, ch⟩, ⟨fs2, cp⟩⟩ := hr.1.cells
  have hws := hw.1.1
  have h10 := hws.1
  have c3 := hS.cell.1
  obtain ⟨par, own, hO, hpar, hown⟩ := id hS
  have good : ∀ (o : Option Nat) (x : Int32), x = eN o → dO p.1.1.1 x = some o → (∀ q, o = some q → q < p.1.1.1) → (∀ Q : Option Value → Hp → Prop, WPm 57 [.ref (X + 8 + 1), .int x] h Q = Q (some (.int (nI 1))) h) → ∃ h', Fr X h h' ∧ (rP h' X B (opStyle p x).1 ∧ WfP (opStyle p x).1) ∧ ∀ Q : Option Value → Hp → Prop, WPm 71 [.ref X, .int x] h Q = Q (some (.int (opStyle p x).2)) h' := by
    intro o x hx e ho w
    subst hx
    unfold opStyle
    rw [e]
    simp only
    by_cases hf : 10 ≤ p.1.1.1
    · rw [if_pos hf]
      refine ⟨h, Fr.rf, ⟨hr, hw⟩, fun Q => ?_⟩
      rw [eX9_style]
      simp (disch := (first | omega | assumption | (simp (disch := omega) only [Int32.lt_iff_toInt_lt, Int32.le_iff_toInt_le, ← Int32.toInt_inj, nI_toInt, zi_m1, zi_m2, zi_m3, zi_m9]; omega) | decide)) only [sX9_style_0, sX9_style_1, sX9_style_4, sX9_style_7i, sX9_style_7iN, sX9_style_7r, sX9_style_7rN, sX9_style_7z, sX9_style_7zN, sX9_style_7o, sX9_style_7oN, sX9_style_8, sX9_style_8n, sX9_style_9, sX9_style_10, sX9_style_13, sX9_style_16, sX9_style_17, sX9_style_18, sX9_style_18n, sX9_style_19, sX9_style_22, sX9_style_24, sX9_style_27, sX9_style_29, sX9_style_30, sX9_style_31, sX9_style_34, sX9_style_35, sX9_style_38, sX9_style_41, sX9_style_41n, sX9_style_42, sX9_style_43, sX9_style_46, sX9_style_47, sX9_style_50, sX9_style_51, sX9_style_54, sX9_style_57, sX9_style_57n, sX9_style_58, sX9_style_61, sX9_style_62, sX9_style_63, gG9_0, gG9_1, gG9_2, gG9_3, gG9_4, gG9_5, gG9_6, gG9_7, gP9_0, gP9_1, gP9_2, gP9_3, gP9_4, gP9_5, gP9_6, gP9_7, gG6_0, gG6_1, gG6_2, gG6_3, gP6_0, gP6_1, gP6_2, gP6_3, gG7_0, gG7_1, gG7_2, gP7_0, gP7_1, gP7_2, zpush_v, zpush_n, gCk, gAi, gSi, gLi, gLq, ↓if_pos, ↓if_neg, c1, c2, c3, w]
    · rw [if_neg hf]
      obtain ⟨h1, s1, r1, w1⟩ := s_keep hr.1 hw
      obtain ⟨d1, d2, d3, -, -⟩ := r1.facts
      have d4 := d3.cell.1
      obtain ⟨h2, s2, t2, w2⟩ := m_X7_add d3 (show p.1.1.1 < 10 by omega) o
      have r2 := r1.sheet s2 t2
      obtain ⟨f1, f2, f3, -, -⟩ := r2.facts
      obtain ⟨-, ⟨fs3, f4⟩⟩ := r2.cells
      have hw2 : WfSt (addS p.1.1 o, p.1.2) := hw.1.sheet (hws.add (by omega) ho) (by show _ ≤ p.1.1.1 + 1; omega)
      obtain ⟨h3, s3, r3, w3⟩ := s_draw r2 hw2
      have g3 := (r3.facts).2.2.cell.1
      have g3 : h3.1 (X + 8 + 1) = some (.inr (7, [.int (nI (p.1.1.1 + 1)), .ref (X + 8 + 1 + 1), .ref (X + 8 + 1 + 3)])) := g3
      refine ⟨h3, (((Fr.s s1 (by omega) (by omega)).tr (Fr.s s2 (by omega) (by omega))).tr (Fr.s s3 (by omega) (by omega))).w (by decide), ⟨r3, hw.kp hw2⟩, fun Q => ?_⟩
      rw [eX9_style]
      simp (disch := (first | omega | assumption | (simp (disch := omega) only [Int32.lt_iff_toInt_lt, Int32.le_iff_toInt_le, ← Int32.toInt_inj, nI_toInt, zi_m1, zi_m2, zi_m3, zi_m9]; omega) | decide)) only [sX9_style_0, sX9_style_1, sX9_style_4, sX9_style_7i, sX9_style_7iN, sX9_style_7r, sX9_style_7rN, sX9_style_7z, sX9_style_7zN, sX9_style_7o, sX9_style_7oN, sX9_style_8, sX9_style_8n, sX9_style_9, sX9_style_10, sX9_style_13, sX9_style_16, sX9_style_17, sX9_style_18, sX9_style_18n, sX9_style_19, sX9_style_22, sX9_style_24, sX9_style_27, sX9_style_29, sX9_style_30, sX9_style_31, sX9_style_34, sX9_style_35, sX9_style_38, sX9_style_41, sX9_style_41n, sX9_style_42, sX9_style_43, sX9_style_46, sX9_style_47, sX9_style_50, sX9_style_51, sX9_style_54, sX9_style_57, sX9_style_57n, sX9_style_58, sX9_style_61, sX9_style_62, sX9_style_63, gG9_0, gG9_1, gG9_2, gG9_3, gG9_4, gG9_5, gG9_6, gG9_7, gP9_0, gP9_1, gP9_2, gP9_3, gP9_4, gP9_5, gP9_6, gP9_7, gG6_0, gG6_1, gG6_2, gG6_3, gP6_0, gP6_1, gP6_2, gP6_3, gG7_0, gG7_1, gG7_2, gP7_0, gP7_1, gP7_2, zpush_v, zpush_n, gCk, gAi, gSi, gLi, gLq, ↓if_pos, ↓if_neg, c1, c2, c3, w, ch, w1, d4, w2, f1, f4, w3, g3, nI_sub, Nat.add_sub_cancel]
  rcases dO_cases p.1.1.1 x (by omega) with ⟨rfl, e⟩ | ⟨k, hk, rfl, e⟩ | ⟨⟨g1, g2⟩, e⟩
  · exact good none _ rfl e (fun q hq => by cases hq) (m_X7_honN hO)
  · exact good (some k) _ rfl e (fun q hq => by cases hq; exact hk) (m_X7_honS hO hk h10)
  · unfold opStyle
    rw [e]
    refine ⟨h, Fr.rf, ⟨hr, hw⟩, fun Q => ?_⟩
    rw [eX9_style]
    simp (disch := (first | omega | assumption | (simp (disch := omega) only [Int32.lt_iff_toInt_lt, Int32.le_iff_toInt_le, ← Int32.toInt_inj, nI_toInt, zi_m1, zi_m2, zi_m3, zi_m9]; omega) | decide)) only [sX9_style_0, sX9_style_1, sX9_style_4, sX9_style_7i, sX9_style_7iN, sX9_style_7r, sX9_style_7rN, sX9_style_7z, sX9_style_7zN, sX9_style_7o, sX9_style_7oN, sX9_style_8, sX9_style_8n, sX9_style_9, sX9_style_10, sX9_style_13, sX9_style_16, sX9_style_17, sX9_style_18, sX9_style_18n, sX9_style_19, sX9_style_22, sX9_style_24, sX9_style_27, sX9_style_29, sX9_style_30, sX9_style_31, sX9_style_34, sX9_style_35, sX9_style_38, sX9_style_41, sX9_style_41n, sX9_style_42, sX9_style_43, sX9_style_46, sX9_style_47, sX9_style_50, sX9_style_51, sX9_style_54, sX9_style_57, sX9_style_57n, sX9_style_58, sX9_style_61, sX9_style_62, sX9_style_63, gG9_0, gG9_1, gG9_2, gG9_3, gG9_4, gG9_5, gG9_6, gG9_7, gP9_0, gP9_1, gP9_2, gP9_3, gP9_4, gP9_5, gP9_6, gP9_7, gG6_0, gG6_1, gG6_2, gG6_3, gP6_0, gP6_1, gP6_2, gP6_3, gG7_0, gG7_1, gG7_2, gP7_0, gP7_1, gP7_2, zpush_v, zpush_n, gCk, gAi, gSi, gLi, gLq, ↓if_pos, ↓if_neg, c1, c2, c3, m_X7_honF hO g2 g1 h10]
/-- keep, change the sheet, draw -/
theorem x_sheet {S' : Sh} (hr : rP h X B p) (hw : WfP p) (hw' : WfS S') (hn : p.1.1.1 ≤ S'.1 ∨ ∀ x ∈ p.1.2.1, ∀ q, x.2.2.1 = some q → q < S'.1)
    {C : (Option Value → Hp → Prop) → Hp → Prop → Prop} (hC : ∀ h1, rSheet h1 (X + 8 + 1) p.1.1 → ∃ h2, Same h1 h2 (X + 8 + 1) 5 ∧ rSheet h2 (X + 8 + 1) S' ∧ ∀ Q : Option Value → Hp → Prop, C Q h1 (Q none h2)) :
    ∃ h1 h2 h3, rS h1 X B (p.1, kept p.2.1 p.1, p.2.2) ∧ rS h2 X B ((S', p.1.2), kept p.2.1 p.1, p.2.2) ∧ rP h3 X B (kp p (S', p.1.2)) ∧ WfP (kp p (S', p.1.2)) ∧ Fr X h h3 ∧ rSheet h1 (X + 8 + 1) p.1.1 ∧ rSheet h3 (X + 8 + 1) S' ∧
      (∀ Q : Option Value → Hp → Prop, WPm 1 [.ref (X + 15), .ref (X + 8)] h Q = Q none h1) ∧ (∀ Q : Option Value → Hp → Prop, C Q h1 (Q none h2)) ∧ ∀ Q : Option Value → Hp → Prop, WPm 26 [.ref (X + 52), .ref (X + 8)] h2 Q = Q none h3 := by
  obtain ⟨h1, s1, r1, w1⟩ := s_keep hr.1 hw
  obtain ⟨d1, d2, d3, -, -⟩ := r1.facts
  obtain ⟨h2, s2, t2, w2⟩ := hC h1 d3
  have r2 := r1.sheet s2 t2
  have hw2 : WfSt (S', p.1.2) := by
    rcases hn with hn | hn
    · exact hw.1.sheet hw' hn
    · exact ⟨hw', hw.1.2.1, hn, hw.1.2.2.2⟩
  obtain ⟨h3, s3, r3, w3⟩ := s_draw r2 hw2
  exact ⟨h1, h2, h3, r1, r2, r3, hw.kp hw2, (((Fr.s s1 (by omega) (by omega)).tr (Fr.s s2 (by omega) (by omega))).tr (Fr.s s3 (by omega) (by omega))).w (by decide), d3, r3.facts.2.2, w1, w2, w3⟩
theorem x_setParent (hr : rP h X B p) (hw : WfP p) (s x : Int32) : ∃ h', Fr X h h' ∧ (rP h' X B (opSetParent p s x).1 ∧ WfP (opSetParent p s x).1) ∧ ∀ Q : Option Value → Hp → Prop, WPm 72 [.ref X, .int s, .int x] h Q = Q (some (.int (opSetParent p s x).2)) h' := by
  obtain ⟨c1, c2, hS, -, -⟩ := hr.1.facts
  obtain ⟨⟨fs, ch⟩, ⟨fs2, cp⟩⟩ := hr.1.cells
  have hws := hw.1.1
  have h10 := hws.1
  have c3 := hS.cell.1
  obtain ⟨par, own, hO, hpar, hown⟩ := id hS
  rcases dN_cases p.1.1.1 s (by omega) with ⟨k, hk, rfl, es⟩ | ⟨gs, es⟩
  · have ht := m_X7_hasT hO hk h10
    have good : ∀ (o : Option Nat) (x : Int32), x = eN o → dO p.1.1.1 x = some o → (∀ q, o = some q → q < p.1.1.1) → (∀ Q : Option Value → Hp → Prop, WPm 57 [.ref (X + 8 + 1), .int x] h Q = Q (some (.int (nI 1))) h) → ∃ h', Fr X h h' ∧ (rP h' X B (opSetParent p (nI k) x).1 ∧ WfP (opSetParent p (nI k) x).1) ∧ ∀ Q : Option Value → Hp → Prop, WPm 72 [.ref X, .int (nI k), .int x] h Q = Q (some (.int (opSetParent p (nI k) x).2)) h' := by
      intro o x hx e ho w
      subst hx
      unfold opSetParent
      rw [es]
      simp only
      rw [e]
      simp only
      have hl := m_X7_leadsTo hS hws (t := k) (by omega) ho
      by_cases hf : ldT p.1.1 k 10 o = true
      · rw [if_pos hf]
        rw [bI_t hf] at hl
        refine ⟨h, Fr.rf, ⟨hr, hw⟩, fun Q => ?_⟩
        rw [eX9_setParent]
        simp (disch := (first | omega | assumption | (simp (disch := omega) only [Int32.lt_iff_toInt_lt, Int32.le_iff_toInt_le, ← Int32.toInt_inj, nI_toInt, zi_m1, zi_m2, zi_m3, zi_m9]; omega) | decide)) only [sX9_setParent_0, sX9_setParent_1, sX9_setParent_4, sX9_setParent_7i, sX9_setParent_7iN, sX9_setParent_7r, sX9_setParent_7rN, sX9_setParent_7z, sX9_setParent_7zN, sX9_setParent_7o, sX9_setParent_7oN, sX9_setParent_8, sX9_setParent_8n, sX9_setParent_9, sX9_setParent_10, sX9_setParent_13, sX9_setParent_16, sX9_setParent_16n, sX9_setParent_17, sX9_setParent_18, sX9_setParent_21, sX9_setParent_24, sX9_setParent_25, sX9_setParent_26, sX9_setParent_26n, sX9_setParent_27, sX9_setParent_28, sX9_setParent_29, sX9_setParent_32, sX9_setParent_35, sX9_setParent_37, sX9_setParent_38, sX9_setParent_39, sX9_setParent_42, sX9_setParent_43, sX9_setParent_46, sX9_setParent_49, sX9_setParent_49n, sX9_setParent_50, sX9_setParent_53, sX9_setParent_54, sX9_setParent_57i, sX9_setParent_57r, sX9_setParent_57z, sX9_setParent_57o, sX9_setParent_59, sX9_setParent_59n, sX9_setParent_60, sX9_setParent_63, sX9_setParent_64, sX9_setParent_65, sX9_setParent_68, sX9_setParent_69, sX9_setParent_72, sX9_setParent_73, sX9_setParent_76, sX9_setParent_79, sX9_setParent_81, gG9_0, gG9_1, gG9_2, gG9_3, gG9_4, gG9_5, gG9_6, gG9_7, gP9_0, gP9_1, gP9_2, gP9_3, gP9_4, gP9_5, gP9_6, gP9_7, gG6_0, gG6_1, gG6_2, gG6_3, gP6_0, gP6_1, gP6_2, gP6_3, gG7_0, gG7_1, gG7_2, gP7_0, gP7_1, gP7_2, zpush_v, zpush_n, gCk, gAi, gSi, gLi, gLq, ↓if_pos, ↓if_neg, c1, c2, c3, w, ht, hl]
      · rw [if_neg hf]
        rw [bI_f hf] at hl
        obtain ⟨h1, h2, h3, r1, r2, r3, hw3, fr, d3, -, w1, w2, w3⟩ := x_sheet (S' := setP p.1.1 k o) (C := fun Q h1 R => WPm 45 [.ref (X + 8 + 1 + 1), .int (nI k), .int (eN o)] h1 Q = R) hr hw (hws.par hk ho (by revert hf; cases ldT p.1.1 k 10 o <;> simp)) (Or.inl (Nat.le_refl _)) (fun h1 d3 => m_X5_setP d3 hk h10 o)
        have d4 := d3.cell.1
        have d5 := d3.cell.2.1
        obtain ⟨f1, f2, f3, -, -⟩ := r2.facts
        obtain ⟨-, ⟨fs3, f4⟩⟩ := r2.cells
        have gp := m_X5_getP d3 hk h10
        refine ⟨h3, fr, ⟨r3, hw3⟩, fun Q => ?_⟩
        rw [eX9_setParent]
        simp (disch := (first | omega | assumption | (simp (disch := omega) only [Int32.lt_iff_toInt_lt, Int32.le_iff_toInt_le, ← Int32.toInt_inj, nI_toInt, zi_m1, zi_m2, zi_m3, zi_m9]; omega) | decide)) only [sX9_setParent_0, sX9_setParent_1, sX9_setParent_4, sX9_setParent_7i, sX9_setParent_7iN, sX9_setParent_7r, sX9_setParent_7rN, sX9_setParent_7z, sX9_setParent_7zN, sX9_setParent_7o, sX9_setParent_7oN, sX9_setParent_8, sX9_setParent_8n, sX9_setParent_9, sX9_setParent_10, sX9_setParent_13, sX9_setParent_16, sX9_setParent_16n, sX9_setParent_17, sX9_setParent_18, sX9_setParent_21, sX9_setParent_24, sX9_setParent_25, sX9_setParent_26, sX9_setParent_26n, sX9_setParent_27, sX9_setParent_28, sX9_setParent_29, sX9_setParent_32, sX9_setParent_35, sX9_setParent_37, sX9_setParent_38, sX9_setParent_39, sX9_setParent_42, sX9_setParent_43, sX9_setParent_46, sX9_setParent_49, sX9_setParent_49n, sX9_setParent_50, sX9_setParent_53, sX9_setParent_54, sX9_setParent_57i, sX9_setParent_57r, sX9_setParent_57z, sX9_setParent_57o, sX9_setParent_59, sX9_setParent_59n, sX9_setParent_60, sX9_setParent_63, sX9_setParent_64, sX9_setParent_65, sX9_setParent_68, sX9_setParent_69, sX9_setParent_72, sX9_setParent_73, sX9_setParent_76, sX9_setParent_79, sX9_setParent_81, gG9_0, gG9_1, gG9_2, gG9_3, gG9_4, gG9_5, gG9_6, gG9_7, gP9_0, gP9_1, gP9_2, gP9_3, gP9_4, gP9_5, gP9_6, gP9_7, gG6_0, gG6_1, gG6_2, gG6_3, gP6_0, gP6_1, gP6_2, gP6_3, gG7_0, gG7_1, gG7_2, gP7_0, gP7_1, gP7_2, zpush_v, zpush_n, gCk, gAi, gSi, gLi, gLq, ↓if_pos, ↓if_neg, c1, c2, c3, w, ht, hl, ch, w1, d4, d5, gp, w2, f1, f4, w3]
    rcases dO_cases p.1.1.1 x (by omega) with ⟨rfl, e⟩ | ⟨k2, hk2, rfl, e⟩ | ⟨⟨g1, g2⟩, e⟩
    · exact good none _ rfl e (fun q hq => by cases hq) (m_X7_honN hO)
    · exact good (some k2) _ rfl e (fun q hq => by cases hq; exact hk2) (m_X7_honS hO hk2 h10)
    · unfold opSetParent
      rw [es]
      simp only
      rw [e]
      refine ⟨h, Fr.rf, ⟨hr, hw⟩, fun Q => ?_⟩
      rw [eX9_setParent]
      simp (disch := (first | omega | assumption | (simp (disch := omega) only [Int32.lt_iff_toInt_lt, Int32.le_iff_toInt_le, ← Int32.toInt_inj, nI_toInt, zi_m1, zi_m2, zi_m3, zi_m9]; omega) | decide)) only [sX9_setParent_0, sX9_setParent_1, sX9_setParent_4, sX9_setParent_7i, sX9_setParent_7iN, sX9_setParent_7r, sX9_setParent_7rN, sX9_setParent_7z, sX9_setParent_7zN, sX9_setParent_7o, sX9_setParent_7oN, sX9_setParent_8, sX9_setParent_8n, sX9_setParent_9, sX9_setParent_10, sX9_setParent_13, sX9_setParent_16, sX9_setParent_16n, sX9_setParent_17, sX9_setParent_18, sX9_setParent_21, sX9_setParent_24, sX9_setParent_25, sX9_setParent_26, sX9_setParent_26n, sX9_setParent_27, sX9_setParent_28, sX9_setParent_29, sX9_setParent_32, sX9_setParent_35, sX9_setParent_37, sX9_setParent_38, sX9_setParent_39, sX9_setParent_42, sX9_setParent_43, sX9_setParent_46, sX9_setParent_49, sX9_setParent_49n, sX9_setParent_50, sX9_setParent_53, sX9_setParent_54, sX9_setParent_57i, sX9_setParent_57r, sX9_setParent_57z, sX9_setParent_57o, sX9_setParent_59, sX9_setParent_59n, sX9_setParent_60, sX9_setParent_63, sX9_setParent_64, sX9_setParent_65, sX9_setParent_68, sX9_setParent_69, sX9_setParent_72, sX9_setParent_73, sX9_setParent_76, sX9_setParent_79, sX9_setParent_81, gG9_0, gG9_1, gG9_2, gG9_3, gG9_4, gG9_5, gG9_6, gG9_7, gP9_0, gP9_1, gP9_2, gP9_3, gP9_4, gP9_5, gP9_6, gP9_7, gG6_0, gG6_1, gG6_2, gG6_3, gP6_0, gP6_1, gP6_2, gP6_3, gG7_0, gG7_1, gG7_2, gP7_0, gP7_1, gP7_2, zpush_v, zpush_n, gCk, gAi, gSi, gLi, gLq, ↓if_pos, ↓if_neg, c1, c2, c3, ht, m_X7_honF hO g2 g1 h10]
  · unfold opSetParent
    rw [es]
    refine ⟨h, Fr.rf, ⟨hr, hw⟩, fun Q => ?_⟩
    rw [eX9_setParent]
    simp (disch := (first | omega | assumption | (simp (disch := omega) only [Int32.lt_iff_toInt_lt, Int32.le_iff_toInt_le, ← Int32.toInt_inj, nI_toInt, zi_m1, zi_m2, zi_m3, zi_m9]; omega) | decide)) only [sX9_setParent_0, sX9_setParent_1, sX9_setParent_4, sX9_setParent_7i, sX9_setParent_7iN, sX9_setParent_7r, sX9_setParent_7rN, sX9_setParent_7z, sX9_setParent_7zN, sX9_setParent_7o, sX9_setParent_7oN, sX9_setParent_8, sX9_setParent_8n, sX9_setParent_9, sX9_setParent_10, sX9_setParent_13, sX9_setParent_16, sX9_setParent_16n, sX9_setParent_17, sX9_setParent_18, sX9_setParent_21, sX9_setParent_24, sX9_setParent_25, sX9_setParent_26, sX9_setParent_26n, sX9_setParent_27, sX9_setParent_28, sX9_setParent_29, sX9_setParent_32, sX9_setParent_35, sX9_setParent_37, sX9_setParent_38, sX9_setParent_39, sX9_setParent_42, sX9_setParent_43, sX9_setParent_46, sX9_setParent_49, sX9_setParent_49n, sX9_setParent_50, sX9_setParent_53, sX9_setParent_54, sX9_setParent_57i, sX9_setParent_57r, sX9_setParent_57z, sX9_setParent_57o, sX9_setParent_59, sX9_setParent_59n, sX9_setParent_60, sX9_setParent_63, sX9_setParent_64, sX9_setParent_65, sX9_setParent_68, sX9_setParent_69, sX9_setParent_72, sX9_setParent_73, sX9_setParent_76, sX9_setParent_79, sX9_setParent_81, gG9_0, gG9_1, gG9_2, gG9_3, gG9_4, gG9_5, gG9_6, gG9_7, gP9_0, gP9_1, gP9_2, gP9_3, gP9_4, gP9_5, gP9_6, gP9_7, gG6_0, gG6_1, gG6_2, gG6_3, gP6_0, gP6_1, gP6_2, gP6_3, gG7_0, gG7_1, gG7_2, gP7_0, gP7_1, gP7_2, zpush_v, zpush_n, gCk, gAi, gSi, gLi, gLq, ↓if_pos, ↓if_neg, c1, c2, c3, m_X7_hasF hO gs h10]
theorem x_setStyle (hr : rP h X B p) (hw : WfP p) (s pr v : Int32) : ∃ h', Fr X h h' ∧ (rP h' X B (opSetStyle p s pr v).1 ∧ WfP (opSetStyle p s pr v).1) ∧ ∀ Q : Option Value → Hp → Prop, WPm 73 [.ref X, .int s, .int pr, .int v] h Q = Q (some (.int (opSetStyle p s pr v).2)) h' := by
  obtain ⟨c1, c2, hS, -, -⟩ := hr.1.facts
  obtain ⟨⟨fs, ch⟩, ⟨fs2, cp⟩⟩ := hr.1.cells
  have hws := hw.1.1
  have h10 := hws.1
  have c3 := hS.cell.1
  obtain ⟨par, own, hO, hpar, hown⟩ := id hS
  unfold opSetStyle
  rcases dN_cases p.1.1.1 s (by omega) with ⟨k, hk, rfl, es⟩ | ⟨gs, es⟩
  · have ht := m_X7_hasT hO hk h10
    rw [es]
    simp only
    rcases dN_cases 6 pr (by omega) with ⟨q, hq, rfl, e2⟩ | ⟨g, e2⟩
    · rw [e2]
      simp only
      have good : ∀ (w : Option Nat), (∀ x, w = some x → loP q ≤ x ∧ x ≤ hiP q) → v = eN w → (v = -1 ∨ zallows (nI q) v = nI 1) → ∃ h', Fr X h h' ∧ (rP h' X B (kp p (setO p.1.1 k q w, p.1.2)) ∧ WfP (kp p (setO p.1.1 k q w, p.1.2))) ∧ ∀ Q : Option Value → Hp → Prop, WPm 73 [.ref X, .int (nI k), .int (nI q), .int v] h Q = Q (some (.int (eN (p.1.1.2.2 k q)))) h' := by
        intro w hwv hv hz
        subst hv
        obtain ⟨h1, h2, h3, r1, r2, r3, hw3, fr, d3, -, w1, w2, w3⟩ := x_sheet (S' := setO p.1.1 k q w) (C := fun Q h1 R => WPm 61 [.ref (X + 8 + 1), .int (nI k), .int (nI q), .int (eN w)] h1 Q = R) hr hw (hws.setO hwv) (Or.inl (Nat.le_refl _)) (fun h1 d3 => m_X7_setOwn d3 hk h10 hq w)
        have d4 := d3.cell.1
        obtain ⟨f1, f2, f3, -, -⟩ := r2.facts
        obtain ⟨-, ⟨fs3, f4⟩⟩ := r2.cells
        have gp := m_X7_own d3 hk h10 hq
        refine ⟨h3, fr, ⟨r3, hw3⟩, fun Q => ?_⟩
        rw [eX9_setStyle]
        by_cases hm : eN w = -1
        · simp (disch := (first | omega | assumption | (simp (disch := omega) only [Int32.lt_iff_toInt_lt, Int32.le_iff_toInt_le, ← Int32.toInt_inj, nI_toInt, zi_m1, zi_m2, zi_m3, zi_m9]; omega) | decide)) only [sX9_setStyle_0, sX9_setStyle_1, sX9_setStyle_4, sX9_setStyle_7i, sX9_setStyle_7iN, sX9_setStyle_7r, sX9_setStyle_7rN, sX9_setStyle_7z, sX9_setStyle_7zN, sX9_setStyle_7o, sX9_setStyle_7oN, sX9_setStyle_9, sX9_setStyle_9n, sX9_setStyle_11, sX9_setStyle_12, sX9_setStyle_15, sX9_setStyle_18, sX9_setStyle_19, sX9_setStyle_22, sX9_setStyle_25, sX9_setStyle_26, sX9_setStyle_27, sX9_setStyle_28, sX9_setStyle_29, sX9_setStyle_32, sX9_setStyle_33, sX9_setStyle_34, sX9_setStyle_37, sX9_setStyle_40, sX9_setStyle_41, sX9_setStyle_42, sX9_setStyle_43, sX9_setStyle_46, sX9_setStyle_47, sX9_setStyle_50, sX9_setStyle_53, sX9_setStyle_53n, sX9_setStyle_55, sX9_setStyle_56, sX9_setStyle_57, sX9_setStyle_60i, sX9_setStyle_60r, sX9_setStyle_60z, sX9_setStyle_60o, sX9_setStyle_62, sX9_setStyle_62n, sX9_setStyle_64, sX9_setStyle_65, sX9_setStyle_66, sX9_setStyle_67, sX9_setStyle_70, sX9_setStyle_71, sX9_setStyle_74, sX9_setStyle_75, sX9_setStyle_78, sX9_setStyle_81, sX9_setStyle_83, gG9_0, gG9_1, gG9_2, gG9_3, gG9_4, gG9_5, gG9_6, gG9_7, gP9_0, gP9_1, gP9_2, gP9_3, gP9_4, gP9_5, gP9_6, gP9_7, gG6_0, gG6_1, gG6_2, gG6_3, gP6_0, gP6_1, gP6_2, gP6_3, gG7_0, gG7_1, gG7_2, gP7_0, gP7_1, gP7_2, zpush_v, zpush_n, gCk, gAi, gSi, gLi, gLq, ↓if_pos, ↓if_neg, c1, c2, c3, ht, isPr_t hq, ch, w1, d4, gp, w2, f1, f4, w3]
        · have hz := hz.resolve_left hm
          simp (disch := (first | omega | assumption | (simp (disch := omega) only [Int32.lt_iff_toInt_lt, Int32.le_iff_toInt_le, ← Int32.toInt_inj, nI_toInt, zi_m1, zi_m2, zi_m3, zi_m9]; omega) | decide)) only [sX9_setStyle_0, sX9_setStyle_1, sX9_setStyle_4, sX9_setStyle_7i, sX9_setStyle_7iN, sX9_setStyle_7r, sX9_setStyle_7rN, sX9_setStyle_7z, sX9_setStyle_7zN, sX9_setStyle_7o, sX9_setStyle_7oN, sX9_setStyle_9, sX9_setStyle_9n, sX9_setStyle_11, sX9_setStyle_12, sX9_setStyle_15, sX9_setStyle_18, sX9_setStyle_19, sX9_setStyle_22, sX9_setStyle_25, sX9_setStyle_26, sX9_setStyle_27, sX9_setStyle_28, sX9_setStyle_29, sX9_setStyle_32, sX9_setStyle_33, sX9_setStyle_34, sX9_setStyle_37, sX9_setStyle_40, sX9_setStyle_41, sX9_setStyle_42, sX9_setStyle_43, sX9_setStyle_46, sX9_setStyle_47, sX9_setStyle_50, sX9_setStyle_53, sX9_setStyle_53n, sX9_setStyle_55, sX9_setStyle_56, sX9_setStyle_57, sX9_setStyle_60i, sX9_setStyle_60r, sX9_setStyle_60z, sX9_setStyle_60o, sX9_setStyle_62, sX9_setStyle_62n, sX9_setStyle_64, sX9_setStyle_65, sX9_setStyle_66, sX9_setStyle_67, sX9_setStyle_70, sX9_setStyle_71, sX9_setStyle_74, sX9_setStyle_75, sX9_setStyle_78, sX9_setStyle_81, sX9_setStyle_83, gG9_0, gG9_1, gG9_2, gG9_3, gG9_4, gG9_5, gG9_6, gG9_7, gP9_0, gP9_1, gP9_2, gP9_3, gP9_4, gP9_5, gP9_6, gP9_7, gG6_0, gG6_1, gG6_2, gG6_3, gP6_0, gP6_1, gP6_2, gP6_3, gG7_0, gG7_1, gG7_2, gP7_0, gP7_1, gP7_2, zpush_v, zpush_n, gCk, gAi, gSi, gLi, gLq, ↓if_pos, ↓if_neg, c1, c2, c3, ht, isPr_t hq, hz, ch, w1, d4, gp, w2, f1, f4, w3]
      rcases dV_cases q v with ⟨rfl, e⟩ | ⟨x, hx, rfl, e⟩ | ⟨⟨g1, g2⟩, e⟩
      · rw [e]
        exact good none (fun x hx => by cases hx) rfl (Or.inl rfl)
      · rw [e]
        refine good (some x) (fun y hy => by cases hy; exact hx) rfl (Or.inr ?_)
        have := hiP_le q
        rw [zallows_n hq, bI_t]
        simp (disch := omega) only [Int32.le_iff_toInt_le, nI_toInt]
        omega
      · rw [e]
        refine ⟨h, Fr.rf, ⟨hr, hw⟩, fun Q => ?_⟩
        have hz : zallows (nI q) v = nI 0 := by
          rw [zallows_n hq, bI_f]
          rintro ⟨a, b⟩
          rcases g2 with g2 | g2
          · exact Int32.not_lt.mpr a g2
          · exact Int32.not_lt.mpr b g2
        rw [eX9_setStyle]
        simp (disch := (first | omega | assumption | (simp (disch := omega) only [Int32.lt_iff_toInt_lt, Int32.le_iff_toInt_le, ← Int32.toInt_inj, nI_toInt, zi_m1, zi_m2, zi_m3, zi_m9]; omega) | decide)) only [sX9_setStyle_0, sX9_setStyle_1, sX9_setStyle_4, sX9_setStyle_7i, sX9_setStyle_7iN, sX9_setStyle_7r, sX9_setStyle_7rN, sX9_setStyle_7z, sX9_setStyle_7zN, sX9_setStyle_7o, sX9_setStyle_7oN, sX9_setStyle_9, sX9_setStyle_9n, sX9_setStyle_11, sX9_setStyle_12, sX9_setStyle_15, sX9_setStyle_18, sX9_setStyle_19, sX9_setStyle_22, sX9_setStyle_25, sX9_setStyle_26, sX9_setStyle_27, sX9_setStyle_28, sX9_setStyle_29, sX9_setStyle_32, sX9_setStyle_33, sX9_setStyle_34, sX9_setStyle_37, sX9_setStyle_40, sX9_setStyle_41, sX9_setStyle_42, sX9_setStyle_43, sX9_setStyle_46, sX9_setStyle_47, sX9_setStyle_50, sX9_setStyle_53, sX9_setStyle_53n, sX9_setStyle_55, sX9_setStyle_56, sX9_setStyle_57, sX9_setStyle_60i, sX9_setStyle_60r, sX9_setStyle_60z, sX9_setStyle_60o, sX9_setStyle_62, sX9_setStyle_62n, sX9_setStyle_64, sX9_setStyle_65, sX9_setStyle_66, sX9_setStyle_67, sX9_setStyle_70, sX9_setStyle_71, sX9_setStyle_74, sX9_setStyle_75, sX9_setStyle_78, sX9_setStyle_81, sX9_setStyle_83, gG9_0, gG9_1, gG9_2, gG9_3, gG9_4, gG9_5, gG9_6, gG9_7, gP9_0, gP9_1, gP9_2, gP9_3, gP9_4, gP9_5, gP9_6, gP9_7, gG6_0, gG6_1, gG6_2, gG6_3, gP6_0, gP6_1, gP6_2, gP6_3, gG7_0, gG7_1, gG7_2, gP7_0, gP7_1, gP7_2, zpush_v, zpush_n, gCk, gAi, gSi, gLi, gLq, ↓if_pos, ↓if_neg, c1, c2, c3, ht, isPr_t hq, hz]
    · rw [e2]
      refine ⟨h, Fr.rf, ⟨hr, hw⟩, fun Q => ?_⟩
      rw [eX9_setStyle]
      simp (disch := (first | omega | assumption | (simp (disch := omega) only [Int32.lt_iff_toInt_lt, Int32.le_iff_toInt_le, ← Int32.toInt_inj, nI_toInt, zi_m1, zi_m2, zi_m3, zi_m9]; omega) | decide)) only [sX9_setStyle_0, sX9_setStyle_1, sX9_setStyle_4, sX9_setStyle_7i, sX9_setStyle_7iN, sX9_setStyle_7r, sX9_setStyle_7rN, sX9_setStyle_7z, sX9_setStyle_7zN, sX9_setStyle_7o, sX9_setStyle_7oN, sX9_setStyle_9, sX9_setStyle_9n, sX9_setStyle_11, sX9_setStyle_12, sX9_setStyle_15, sX9_setStyle_18, sX9_setStyle_19, sX9_setStyle_22, sX9_setStyle_25, sX9_setStyle_26, sX9_setStyle_27, sX9_setStyle_28, sX9_setStyle_29, sX9_setStyle_32, sX9_setStyle_33, sX9_setStyle_34, sX9_setStyle_37, sX9_setStyle_40, sX9_setStyle_41, sX9_setStyle_42, sX9_setStyle_43, sX9_setStyle_46, sX9_setStyle_47, sX9_setStyle_50, sX9_setStyle_53, sX9_setStyle_53n, sX9_setStyle_55, sX9_setStyle_56, sX9_setStyle_57, sX9_setStyle_60i, sX9_setStyle_60r, sX9_setStyle_60z, sX9_setStyle_60o, sX9_setStyle_62, sX9_setStyle_62n, sX9_setStyle_64, sX9_setStyle_65, sX9_setStyle_66, sX9_setStyle_67, sX9_setStyle_70, sX9_setStyle_71, sX9_setStyle_74, sX9_setStyle_75, sX9_setStyle_78, sX9_setStyle_81, sX9_setStyle_83, gG9_0, gG9_1, gG9_2, gG9_3, gG9_4, gG9_5, gG9_6, gG9_7, gP9_0, gP9_1, gP9_2, gP9_3, gP9_4, gP9_5, gP9_6, gP9_7, gG6_0, gG6_1, gG6_2, gG6_3, gP6_0, gP6_1, gP6_2, gP6_3, gG7_0, gG7_1, gG7_2, gP7_0, gP7_1, gP7_2, zpush_v, zpush_n, gCk, gAi, gSi, gLi, gLq, ↓if_pos, ↓if_neg, c1, c2, c3, ht, isPr_f g]
  · rw [es]
    refine ⟨h, Fr.rf, ⟨hr, hw⟩, fun Q => ?_⟩
    rw [eX9_setStyle]
    simp (disch := (first | omega | assumption | (simp (disch := omega) only [Int32.lt_iff_toInt_lt, Int32.le_iff_toInt_le, ← Int32.toInt_inj, nI_toInt, zi_m1, zi_m2, zi_m3, zi_m9]; omega) | decide)) only [sX9_setStyle_0, sX9_setStyle_1, sX9_setStyle_4, sX9_setStyle_7i, sX9_setStyle_7iN, sX9_setStyle_7r, sX9_setStyle_7rN, sX9_setStyle_7z, sX9_setStyle_7zN, sX9_setStyle_7o, sX9_setStyle_7oN, sX9_setStyle_9, sX9_setStyle_9n, sX9_setStyle_11, sX9_setStyle_12, sX9_setStyle_15, sX9_setStyle_18, sX9_setStyle_19, sX9_setStyle_22, sX9_setStyle_25, sX9_setStyle_26, sX9_setStyle_27, sX9_setStyle_28, sX9_setStyle_29, sX9_setStyle_32, sX9_setStyle_33, sX9_setStyle_34, sX9_setStyle_37, sX9_setStyle_40, sX9_setStyle_41, sX9_setStyle_42, sX9_setStyle_43, sX9_setStyle_46, sX9_setStyle_47, sX9_setStyle_50, sX9_setStyle_53, sX9_setStyle_53n, sX9_setStyle_55, sX9_setStyle_56, sX9_setStyle_57, sX9_setStyle_60i, sX9_setStyle_60r, sX9_setStyle_60z, sX9_setStyle_60o, sX9_setStyle_62, sX9_setStyle_62n, sX9_setStyle_64, sX9_setStyle_65, sX9_setStyle_66, sX9_setStyle_67, sX9_setStyle_70, sX9_setStyle_71, sX9_setStyle_74, sX9_setStyle_75, sX9_setStyle_78, sX9_setStyle_81, sX9_setStyle_83, gG9_0, gG9_1, gG9_2, gG9_3, gG9_4, gG9_5, gG9_6, gG9_7, gP9_0, gP9_1, gP9_2, gP9_3, gP9_4, gP9_5, gP9_6, gP9_7, gG6_0, gG6_1, gG6_2, gG6_3, gP6_0, gP6_1, gP6_2, gP6_3, gG7_0, gG7_1, gG7_2, gP7_0, gP7_1, gP7_2, zpush_v, zpush_n, gCk, gAi, gSi, gLi, gLq, ↓if_pos, ↓if_neg, c1, c2, c3, m_X7_hasF hO gs h10]
theorem hasSt_none {t : Nat} {l : List Ln} (h : ¬ hasSt t l = true) : ∀ x ∈ l, ¬ x.2.2.1 = some t := by
  intro x hx hs
  apply h
  unfold hasSt
  rw [List.any_eq_true]
  exact ⟨x, hx, by rw [hs]; simp⟩
theorem x_unstyle (hr : rP h X B p) (hw : WfP p) : ∃ h', Fr X h h' ∧ (rP h' X B (opUnstyle p).1 ∧ WfP (opUnstyle p).1) ∧ ∀ Q : Option Value → Hp → Prop, WPm 74 [.ref X] h Q = Q (some (.int (opUnstyle p).2)) h' := by
  obtain ⟨c1, c2, hS, -, -⟩ := hr.1.facts
  obtain ⟨⟨fs, ch⟩, ⟨fs2, cp⟩⟩ := hr.1.cells
  have hws := hw.1.1
  have h10 := hws.1
  have c3 := hS.cell.1
  unfold opUnstyle
  by_cases n0 : p.1.1.1 = 0
  · rw [if_pos n0]
    refine ⟨h, Fr.rf, ⟨hr, hw⟩, fun Q => ?_⟩
    rw [n0] at c3
    rw [eX9_unstyle]
    simp (disch := (first | omega | assumption | (simp (disch := omega) only [Int32.lt_iff_toInt_lt, Int32.le_iff_toInt_le, ← Int32.toInt_inj, nI_toInt, zi_m1, zi_m2, zi_m3, zi_m9]; omega) | decide)) only [sX9_unstyle_0, sX9_unstyle_1, sX9_unstyle_4, sX9_unstyle_7i, sX9_unstyle_7iN, sX9_unstyle_7r, sX9_unstyle_7rN, sX9_unstyle_7z, sX9_unstyle_7zN, sX9_unstyle_7o, sX9_unstyle_7oN, sX9_unstyle_8, sX9_unstyle_8n, sX9_unstyle_9, sX9_unstyle_12, sX9_unstyle_13, sX9_unstyle_14i, sX9_unstyle_14r, sX9_unstyle_14z, sX9_unstyle_14o, sX9_unstyle_15, sX9_unstyle_16, sX9_unstyle_19, sX9_unstyle_19n, sX9_unstyle_20, sX9_unstyle_21, sX9_unstyle_24, sX9_unstyle_27, sX9_unstyle_28, sX9_unstyle_31, sX9_unstyle_32, sX9_unstyle_35, sX9_unstyle_38, sX9_unstyle_40, sX9_unstyle_41, sX9_unstyle_42, sX9_unstyle_45, sX9_unstyle_46, sX9_unstyle_49, sX9_unstyle_52, sX9_unstyle_52n, sX9_unstyle_53, sX9_unstyle_56, sX9_unstyle_57, sX9_unstyle_60, sX9_unstyle_61, sX9_unstyle_64, sX9_unstyle_67, sX9_unstyle_67n, sX9_unstyle_68, sX9_unstyle_71, gG9_0, gG9_1, gG9_2, gG9_3, gG9_4, gG9_5, gG9_6, gG9_7, gP9_0, gP9_1, gP9_2, gP9_3, gP9_4, gP9_5, gP9_6, gP9_7, gG6_0, gG6_1, gG6_2, gG6_3, gP6_0, gP6_1, gP6_2, gP6_3, gG7_0, gG7_1, gG7_2, gP7_0, gP7_1, gP7_2, zpush_v, zpush_n, gCk, gAi, gSi, gLi, gLq, ↓if_pos, ↓if_neg, c1, c2, c3]
  · rw [if_neg n0]
    have hc := m_X7_childrenOf hS hws (t := p.1.1.1 - 1) (by omega)
    have hcl := chl_le p.1.1 (p.1.1.1 - 1) p.1.1.1
    have hs := m_X6_hasStyle hr.1.1.2.2.2.1 hw.1.2.1.1 (t := p.1.1.1 - 1) (by omega) (fun x hx => (hw.1.2.1.2 x hx).2.2.1)
    by_cases k1 : 0 < chl p.1.1 (p.1.1.1 - 1) p.1.1.1
    · rw [if_pos (Or.inl k1)]
      refine ⟨h, Fr.rf, ⟨hr, hw⟩, fun Q => ?_⟩
      rw [eX9_unstyle]
      simp (disch := (first | omega | assumption | (simp (disch := omega) only [Int32.lt_iff_toInt_lt, Int32.le_iff_toInt_le, ← Int32.toInt_inj, nI_toInt, zi_m1, zi_m2, zi_m3, zi_m9]; omega) | decide)) only [sX9_unstyle_0, sX9_unstyle_1, sX9_unstyle_4, sX9_unstyle_7i, sX9_unstyle_7iN, sX9_unstyle_7r, sX9_unstyle_7rN, sX9_unstyle_7z, sX9_unstyle_7zN, sX9_unstyle_7o, sX9_unstyle_7oN, sX9_unstyle_8, sX9_unstyle_8n, sX9_unstyle_9, sX9_unstyle_12, sX9_unstyle_13, sX9_unstyle_14i, sX9_unstyle_14r, sX9_unstyle_14z, sX9_unstyle_14o, sX9_unstyle_15, sX9_unstyle_16, sX9_unstyle_19, sX9_unstyle_19n, sX9_unstyle_20, sX9_unstyle_21, sX9_unstyle_24, sX9_unstyle_27, sX9_unstyle_28, sX9_unstyle_31, sX9_unstyle_32, sX9_unstyle_35, sX9_unstyle_38, sX9_unstyle_40, sX9_unstyle_41, sX9_unstyle_42, sX9_unstyle_45, sX9_unstyle_46, sX9_unstyle_49, sX9_unstyle_52, sX9_unstyle_52n, sX9_unstyle_53, sX9_unstyle_56, sX9_unstyle_57, sX9_unstyle_60, sX9_unstyle_61, sX9_unstyle_64, sX9_unstyle_67, sX9_unstyle_67n, sX9_unstyle_68, sX9_unstyle_71, gG9_0, gG9_1, gG9_2, gG9_3, gG9_4, gG9_5, gG9_6, gG9_7, gP9_0, gP9_1, gP9_2, gP9_3, gP9_4, gP9_5, gP9_6, gP9_7, gG6_0, gG6_1, gG6_2, gG6_3, gP6_0, gP6_1, gP6_2, gP6_3, gG7_0, gG7_1, gG7_2, gP7_0, gP7_1, gP7_2, zpush_v, zpush_n, gCk, gAi, gSi, gLi, gLq, ↓if_pos, ↓if_neg, c1, c2, c3, nI_sub, hc]
    · by_cases k2 : hasSt (p.1.1.1 - 1) p.1.2.1 = true
      · rw [if_pos (Or.inr k2)]
        rw [bI_t k2] at hs
        refine ⟨h, Fr.rf, ⟨hr, hw⟩, fun Q => ?_⟩
        rw [eX9_unstyle]
        simp (disch := (first | omega | assumption | (simp (disch := omega) only [Int32.lt_iff_toInt_lt, Int32.le_iff_toInt_le, ← Int32.toInt_inj, nI_toInt, zi_m1, zi_m2, zi_m3, zi_m9]; omega) | decide)) only [sX9_unstyle_0, sX9_unstyle_1, sX9_unstyle_4, sX9_unstyle_7i, sX9_unstyle_7iN, sX9_unstyle_7r, sX9_unstyle_7rN, sX9_unstyle_7z, sX9_unstyle_7zN, sX9_unstyle_7o, sX9_unstyle_7oN, sX9_unstyle_8, sX9_unstyle_8n, sX9_unstyle_9, sX9_unstyle_12, sX9_unstyle_13, sX9_unstyle_14i, sX9_unstyle_14r, sX9_unstyle_14z, sX9_unstyle_14o, sX9_unstyle_15, sX9_unstyle_16, sX9_unstyle_19, sX9_unstyle_19n, sX9_unstyle_20, sX9_unstyle_21, sX9_unstyle_24, sX9_unstyle_27, sX9_unstyle_28, sX9_unstyle_31, sX9_unstyle_32, sX9_unstyle_35, sX9_unstyle_38, sX9_unstyle_40, sX9_unstyle_41, sX9_unstyle_42, sX9_unstyle_45, sX9_unstyle_46, sX9_unstyle_49, sX9_unstyle_52, sX9_unstyle_52n, sX9_unstyle_53, sX9_unstyle_56, sX9_unstyle_57, sX9_unstyle_60, sX9_unstyle_61, sX9_unstyle_64, sX9_unstyle_67, sX9_unstyle_67n, sX9_unstyle_68, sX9_unstyle_71, gG9_0, gG9_1, gG9_2, gG9_3, gG9_4, gG9_5, gG9_6, gG9_7, gP9_0, gP9_1, gP9_2, gP9_3, gP9_4, gP9_5, gP9_6, gP9_7, gG6_0, gG6_1, gG6_2, gG6_3, gP6_0, gP6_1, gP6_2, gP6_3, gG7_0, gG7_1, gG7_2, gP7_0, gP7_1, gP7_2, zpush_v, zpush_n, gCk, gAi, gSi, gLi, gLq, ↓if_pos, ↓if_neg, c1, c2, c3, nI_sub, hc, hs]
      · rw [if_neg (fun q => q.elim k1 k2)]
        rw [bI_f k2] at hs
        have hno := hasSt_none k2
        obtain ⟨h1, h2, h3, r1, r2, r3, hw3, fr, d3, g3, w1, w2, w3⟩ := x_sheet (S' := (p.1.1.1 - 1, p.1.1.2.1, p.1.1.2.2)) (C := fun Q h1 R => WPm 59 [.ref (X + 8 + 1)] h1 Q = R) hr hw (hws.drop (by omega) (by omega)) (Or.inr (fun x hx q hq => by
          have a := hw.1.2.2.1 x hx q hq
          have b := hno x hx
          show q < p.1.1.1 - 1
          by_cases c : q = p.1.1.1 - 1
          · rw [c] at hq
            exact absurd hq b
          · omega)) (fun h1 d3 => m_X7_dropLast d3 (by omega) h10)
        have d4 := d3.cell.1
        have g4 := g3.cell.1
        obtain ⟨f1, f2, f3, -, -⟩ := r2.facts
        obtain ⟨-, ⟨fs3, f4⟩⟩ := r2.cells
        refine ⟨h3, fr, ⟨r3, hw3⟩, fun Q => ?_⟩
        rw [eX9_unstyle]
        simp (disch := (first | omega | assumption | (simp (disch := omega) only [Int32.lt_iff_toInt_lt, Int32.le_iff_toInt_le, ← Int32.toInt_inj, nI_toInt, zi_m1, zi_m2, zi_m3, zi_m9]; omega) | decide)) only [sX9_unstyle_0, sX9_unstyle_1, sX9_unstyle_4, sX9_unstyle_7i, sX9_unstyle_7iN, sX9_unstyle_7r, sX9_unstyle_7rN, sX9_unstyle_7z, sX9_unstyle_7zN, sX9_unstyle_7o, sX9_unstyle_7oN, sX9_unstyle_8, sX9_unstyle_8n, sX9_unstyle_9, sX9_unstyle_12, sX9_unstyle_13, sX9_unstyle_14i, sX9_unstyle_14r, sX9_unstyle_14z, sX9_unstyle_14o, sX9_unstyle_15, sX9_unstyle_16, sX9_unstyle_19, sX9_unstyle_19n, sX9_unstyle_20, sX9_unstyle_21, sX9_unstyle_24, sX9_unstyle_27, sX9_unstyle_28, sX9_unstyle_31, sX9_unstyle_32, sX9_unstyle_35, sX9_unstyle_38, sX9_unstyle_40, sX9_unstyle_41, sX9_unstyle_42, sX9_unstyle_45, sX9_unstyle_46, sX9_unstyle_49, sX9_unstyle_52, sX9_unstyle_52n, sX9_unstyle_53, sX9_unstyle_56, sX9_unstyle_57, sX9_unstyle_60, sX9_unstyle_61, sX9_unstyle_64, sX9_unstyle_67, sX9_unstyle_67n, sX9_unstyle_68, sX9_unstyle_71, gG9_0, gG9_1, gG9_2, gG9_3, gG9_4, gG9_5, gG9_6, gG9_7, gP9_0, gP9_1, gP9_2, gP9_3, gP9_4, gP9_5, gP9_6, gP9_7, gG6_0, gG6_1, gG6_2, gG6_3, gP6_0, gP6_1, gP6_2, gP6_3, gG7_0, gG7_1, gG7_2, gP7_0, gP7_1, gP7_2, zpush_v, zpush_n, gCk, gAi, gSi, gLi, gLq, ↓if_pos, ↓if_neg, c1, c2, c3, nI_sub, hc, hs, ch, w1, d4, w2, f1, f4, w3, g4]
theorem x_flatten (hr : rP h X B p) (hw : WfP p) : ∃ h', Fr X h h' ∧ (rP h' X B (opFlatten p).1 ∧ WfP (opFlatten p).1) ∧ ∀ Q : Option Value → Hp → Prop, WPm 75 [.ref X] h Q = Q (some (.int (opFlatten p).2)) h' := by
  obtain ⟨c1, c2, hS, -, -⟩ := hr.1.facts
  obtain ⟨⟨fs, ch⟩, ⟨fs2, cp⟩⟩ := hr.1.cells
  have hws := hw.1.1
  obtain ⟨h1, s1, r1, w1⟩ := s_keep hr.1 hw
  obtain ⟨d1, d2, d3, -, -⟩ := r1.facts
  have d4 := d3.cell.1
  obtain ⟨h2, s2, t2, w2⟩ := m_X7_makeFlat d3 hws
  have r2 := r1.sheet s2 t2
  obtain ⟨f1, f2, f3, -, -⟩ := r2.facts
  obtain ⟨-, ⟨fs3, f4⟩⟩ := r2.cells
  have hw2 : WfSt (flatS p.1.1, p.1.2) := hw.1.sheet hws.flat (Nat.le_refl _)
  obtain ⟨h3, s3, r3, w3⟩ := s_draw r2 hw2
  refine ⟨h3, (((Fr.s s1 (by omega) (by omega)).tr (Fr.s s2 (by omega) (by omega))).tr (Fr.s s3 (by omega) (by omega))).w (by decide), ⟨r3, hw.kp hw2⟩, fun Q => ?_⟩
  rw [eX9_flatten]
  simp (disch := (first | omega | assumption | (simp (disch := omega) only [Int32.lt_iff_toInt_lt, Int32.le_iff_toInt_le, ← Int32.toInt_inj, nI_toInt, zi_m1, zi_m2, zi_m3, zi_m9]; omega) | decide)) only [sX9_flatten_0, sX9_flatten_1, sX9_flatten_4, sX9_flatten_5, sX9_flatten_8, sX9_flatten_11, sX9_flatten_12, sX9_flatten_15, sX9_flatten_18, sX9_flatten_21i, sX9_flatten_21r, sX9_flatten_21z, sX9_flatten_21o, sX9_flatten_22, sX9_flatten_23, sX9_flatten_26, sX9_flatten_27, sX9_flatten_30, sX9_flatten_33, sX9_flatten_34, gG9_0, gG9_1, gG9_2, gG9_3, gG9_4, gG9_5, gG9_6, gG9_7, gP9_0, gP9_1, gP9_2, gP9_3, gP9_4, gP9_5, gP9_6, gP9_7, gG6_0, gG6_1, gG6_2, gG6_3, gP6_0, gP6_1, gP6_2, gP6_3, gG7_0, gG7_1, gG7_2, gP7_0, gP7_1, gP7_2, zpush_v, zpush_n, gCk, gAi, gSi, gLi, gLq, ↓if_pos, ↓if_neg, c1, c2, ch, w1, d1, d2, d4, w2, f1, f4, w3]
  rfl
end XB
