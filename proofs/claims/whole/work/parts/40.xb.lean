/-! SubtitleStyles: styles are changed -/
section XB
variable {h h' : Hp} {X B : Nat} {p : PS}
theorem rScr.sheet {s : Nat} {st : Stt} {S' : Sh} (hr : rScr h B s st) (hs : Same h h' (s + 1) 5) (hB : s + 7 ≤ B) (hS : rSheet h' (s + 1) S') : rScr h' B s (S', st.2) := by
  obtain ⟨rf, h1, h2, h3⟩ := hr
  exact ⟨rf, ⟨by rw [hs.at (by omega)]; exact h1.1, by rw [hs.at (by omega)]; exact h1.2⟩, hS, h3.off hs (by omega)⟩
theorem rS.facts (hr : rS h X B p) : h.1 X = some (.inr (9, [.ref (X + 1), .int (nI p.2.2.length), .ref (X + 3), .ref (X + 8), .ref (X + 15), .ref (X + 52), .ref (X + 168), .ref (X + 173)])) ∧ h.1 (X + 8) = some (.inr (6, [.ref (X + 8 + 1), .ref (X + 8 + 6), .int (nI p.1.2.1.length), .int (nI p.1.2.2)])) ∧ rSheet h (X + 8 + 1) p.1.1 ∧ zcls h (X + 15) = some 0 ∧ zcls h (X + 52) = some 3 := by
  obtain ⟨⟨a1, a2, a3, a4, a5⟩, ⟨b1, -⟩, -⟩ := hr
  obtain ⟨o, -, -, q, -⟩ := a5
  obtain ⟨⟨n, g, -, q2⟩, -⟩ := b1
  refine ⟨a1, a4.cell.1, a4.cell.2, ?_, ?_⟩
  · unfold zcls; rw [q.1]
  · unfold zcls; rw [q2.1]
theorem rS.cells (hr : rS h X B p) : (∃ fs, h.1 (X + 15) = some (.inr (0, fs))) ∧ ∃ fs, h.1 (X + 52) = some (.inr (3, fs)) := by
  obtain ⟨⟨a1, a2, a3, a4, a5⟩, ⟨b1, -⟩, -⟩ := hr
  obtain ⟨o, -, -, q, -⟩ := a5
  obtain ⟨⟨n, g, -, q2⟩, -⟩ := b1
  exact ⟨⟨_, q.1⟩, ⟨_, q2.1⟩⟩
theorem rS.sheet {S' : Sh} (hr : rS h X B p) (hs : Same h h' (X + 8 + 1) 5) (hS : rSheet h' (X + 8 + 1) S') : rS h' X B ((S', p.1.2), p.2) := by
  obtain ⟨⟨a1, a2, a3, a4, a5⟩, b, c1, c2, c3⟩ := id hr
  exact hr.scr (hs.wide (by omega) (by omega)) (a4.sheet hs (by omega) hS)
theorem WfSt.sheet {st : Stt} {S' : Sh} (hw : WfSt st) (h1 : WfS S') (h2 : st.1.1 ≤ S'.1) : WfSt (S', st.2) := ⟨h1, hw.2.1, fun x hx q hq => Nat.lt_of_lt_of_le (hw.2.2.1 x hx q hq) h2, hw.2.2.2⟩
theorem WfP.kp {st : Stt} (hw : WfP p) (h : WfSt st) : WfP (kp p st) := ⟨h, kept_wf hw.2.1 hw.1, kept_len hw.2.2.1, hw.2.2.2⟩
theorem x_style (hr : rP h X B p) (hw : WfP p) (x : Int32) : ∃ h', Fr X h h' ∧ (rP h' X B (opStyle p x).1 ∧ WfP (opStyle p x).1) ∧ ∀ Q : Option Value → Hp → Prop, WPm 71 [.ref X, .int x] h Q = Q (some (.int (opStyle p x).2)) h' := by
  obtain ⟨c1, c2, hS, -, -⟩ := hr.1.facts
  obtain ⟨⟨fs, ch⟩, ⟨fs2, cp⟩⟩ := hr.1.cells
  have hws := hw.1.1
  have h10 := hws.1
  have c3 := hS.cell.1
  obtain ⟨par, own, hO, hpar, hown⟩ := id hS
  have good : ∀ (o : Option Nat) (x : Int32), x = eN o → dO p.1.1.1 x = some o → (∀ q, o = some q → q < p.1.1.1) → (∀ Q : Option Value → Hp → Prop, WPm 57 [.ref (X + 8 + 1), .int x] h Q = Q (some (.int (nI 1))) h) → ∃ h', Fr X h h' ∧ (rP h' X B (opStyle p x).1 ∧ WfP (opStyle p x).1) ∧ ∀ Q : Option Value → Hp → Prop, WPm 71 [.ref X, .int x] h Q = Q (some (.int (opStyle p x).2)) h' := by
    intro o x hx e ho w
    subst hx
    unfold opStyle
    rw [e]
    simp only
    by_cases hf : 10 ≤ p.1.1.1
    · rw [if_pos hf]
      refine ⟨h, Fr.rf, ⟨hr, hw⟩, fun Q => ?_⟩
      rw [eX9_style]
      simp (disch := (first | omega | assumption | (simp (disch := omega) only [Int32.lt_iff_toInt_lt, Int32.le_iff_toInt_le, ← Int32.toInt_inj, nI_toInt, zi_m1, zi_m2, zi_m3, zi_m9]; omega) | decide)) only [sX9_style_0, sX9_style_1, sX9_style_4, sX9_style_7i, sX9_style_7iN, sX9_style_7r, sX9_style_7rN, sX9_style_7z, sX9_style_7zN, sX9_style_7o, sX9_style_7oN, sX9_style_8, sX9_style_8n, sX9_style_9, sX9_style_10, sX9_style_13, sX9_style_16, sX9_style_17, sX9_style_18, sX9_style_18n, sX9_style_19, sX9_style_22, sX9_style_24, sX9_style_27, sX9_style_29, sX9_style_30, sX9_style_31, sX9_style_34, sX9_style_35, sX9_style_38, sX9_style_41, sX9_style_41n, sX9_style_42, sX9_style_43, sX9_style_46, sX9_style_47, sX9_style_50, sX9_style_51, sX9_style_54, sX9_style_57, sX9_style_57n, sX9_style_58, sX9_style_61, sX9_style_62, sX9_style_63, gG9_0, gG9_1, gG9_2, gG9_3, gG9_4, gG9_5, gG9_6, gG9_7, gP9_0, gP9_1, gP9_2, gP9_3, gP9_4, gP9_5, gP9_6, gP9_7, gG6_0, gG6_1, gG6_2, gG6_3, gP6_0, gP6_1, gP6_2, gP6_3, gG7_0, gG7_1, gG7_2, gP7_0, gP7_1, gP7_2, zpush_v, zpush_n, gCk, gAi, gSi, gSz, gLi, gLq, ↓if_pos, ↓if_neg, c1, c2, c3, w]
    · rw [if_neg hf]
      obtain ⟨h1, s1, r1, w1⟩ := s_keep hr.1 hw
      obtain ⟨d1, d2, d3, -, -⟩ := r1.facts
      have d4 := d3.cell.1
      obtain ⟨h2, s2, t2, w2⟩ := m_X7_add d3 (show p.1.1.1 < 10 by omega) o
      have r2 := r1.sheet s2 t2
      obtain ⟨f1, f2, f3, -, -⟩ := r2.facts
      obtain ⟨-, ⟨fs3, f4⟩⟩ := r2.cells
      have hw2 : WfSt (addS p.1.1 o, p.1.2) := hw.1.sheet (hws.add (by omega) ho) (by show _ ≤ p.1.1.1 + 1; omega)
      obtain ⟨h3, s3, r3, w3⟩ := s_draw r2 hw2
      have g3 := (r3.facts).2.2.cell.1
      have g3 : h3.1 (X + 8 + 1) = some (.inr (7, [.int (nI (p.1.1.1 + 1)), .ref (X + 8 + 1 + 1), .ref (X + 8 + 1 + 3)])) := g3
      refine ⟨h3, ((Fr.same s1 (by omega) (by omega)).tr (Fr.same s2 (by omega) (by omega))).tr (Fr.same s3 (by omega) (by omega)), ⟨r3, hw.kp hw2⟩, fun Q => ?_⟩
      rw [eX9_style]
      simp (disch := (first | omega | assumption | (simp (disch := omega) only [Int32.lt_iff_toInt_lt, Int32.le_iff_toInt_le, ← Int32.toInt_inj, nI_toInt, zi_m1, zi_m2, zi_m3, zi_m9]; omega) | decide)) only [sX9_style_0, sX9_style_1, sX9_style_4, sX9_style_7i, sX9_style_7iN, sX9_style_7r, sX9_style_7rN, sX9_style_7z, sX9_style_7zN, sX9_style_7o, sX9_style_7oN, sX9_style_8, sX9_style_8n, sX9_style_9, sX9_style_10, sX9_style_13, sX9_style_16, sX9_style_17, sX9_style_18, sX9_style_18n, sX9_style_19, sX9_style_22, sX9_style_24, sX9_style_27, sX9_style_29, sX9_style_30, sX9_style_31, sX9_style_34, sX9_style_35, sX9_style_38, sX9_style_41, sX9_style_41n, sX9_style_42, sX9_style_43, sX9_style_46, sX9_style_47, sX9_style_50, sX9_style_51, sX9_style_54, sX9_style_57, sX9_style_57n, sX9_style_58, sX9_style_61, sX9_style_62, sX9_style_63, gG9_0, gG9_1, gG9_2, gG9_3, gG9_4, gG9_5, gG9_6, gG9_7, gP9_0, gP9_1, gP9_2, gP9_3, gP9_4, gP9_5, gP9_6, gP9_7, gG6_0, gG6_1, gG6_2, gG6_3, gP6_0, gP6_1, gP6_2, gP6_3, gG7_0, gG7_1, gG7_2, gP7_0, gP7_1, gP7_2, zpush_v, zpush_n, gCk, gAi, gSi, gSz, gLi, gLq, ↓if_pos, ↓if_neg, c1, c2, c3, w, ch, w1, d4, w2, f1, f4, w3, g3, nI_sub, Nat.add_sub_cancel]
  rcases dO_cases p.1.1.1 x (by omega) with ⟨rfl, e⟩ | ⟨k, hk, rfl, e⟩ | ⟨⟨g1, g2⟩, e⟩
  · exact good none _ rfl e (fun q hq => by cases hq) (m_X7_honN hO)
  · exact good (some k) _ rfl e (fun q hq => by cases hq; exact hk) (m_X7_honS hO hk h10)
  · unfold opStyle
    rw [e]
    refine ⟨h, Fr.rf, ⟨hr, hw⟩, fun Q => ?_⟩
    rw [eX9_style]
    simp (disch := (first | omega | assumption | (simp (disch := omega) only [Int32.lt_iff_toInt_lt, Int32.le_iff_toInt_le, ← Int32.toInt_inj, nI_toInt, zi_m1, zi_m2, zi_m3, zi_m9]; omega) | decide)) only [sX9_style_0, sX9_style_1, sX9_style_4, sX9_style_7i, sX9_style_7iN, sX9_style_7r, sX9_style_7rN, sX9_style_7z, sX9_style_7zN, sX9_style_7o, sX9_style_7oN, sX9_style_8, sX9_style_8n, sX9_style_9, sX9_style_10, sX9_style_13, sX9_style_16, sX9_style_17, sX9_style_18, sX9_style_18n, sX9_style_19, sX9_style_22, sX9_style_24, sX9_style_27, sX9_style_29, sX9_style_30, sX9_style_31, sX9_style_34, sX9_style_35, sX9_style_38, sX9_style_41, sX9_style_41n, sX9_style_42, sX9_style_43, sX9_style_46, sX9_style_47, sX9_style_50, sX9_style_51, sX9_style_54, sX9_style_57, sX9_style_57n, sX9_style_58, sX9_style_61, sX9_style_62, sX9_style_63, gG9_0, gG9_1, gG9_2, gG9_3, gG9_4, gG9_5, gG9_6, gG9_7, gP9_0, gP9_1, gP9_2, gP9_3, gP9_4, gP9_5, gP9_6, gP9_7, gG6_0, gG6_1, gG6_2, gG6_3, gP6_0, gP6_1, gP6_2, gP6_3, gG7_0, gG7_1, gG7_2, gP7_0, gP7_1, gP7_2, zpush_v, zpush_n, gCk, gAi, gSi, gSz, gLi, gLq, ↓if_pos, ↓if_neg, c1, c2, c3, m_X7_honF hO g2 g1 h10]
end XB
