/-! SubtitleStyles: typing; lines are changed -/
section XC
variable {h h' : Hp} {X B : Nat} {p : PS}
theorem rP.typed {txt : List Nat} (hr : rP h X B p) (hw : WfP p) (hs : Same h h' X 3) (h1 : h'.1 X = some (xC X txt.length)) (h2 : rBuf h' (X + 1) txt) : rP h' X B (p.1, p.2.1, txt) := by
  obtain ⟨⟨⟨a1, a2, a3, a4, a5⟩, ⟨b1, b2, b3⟩, c1, c2, c3⟩, r⟩ := hr
  exact ⟨⟨⟨h1, h2, a3.off hs (by omega), a4.off hs (by omega) (by omega), a5.off hs (by omega) (by omega)⟩, ⟨b1.off hs (by omega), b2.off hs (by omega), b3.off hs (by omega)⟩, c1.same hs (by omega), c2, by rw [hs.1]; exact c3⟩, r.off hw.1.2.1.1 hs (by omega)⟩
theorem x_clear (hr : rP h X B p) (hw : WfP p) : ∃ h', Fr X h h' ∧ (rP h' X B (opClear p).1 ∧ WfP (opClear p).1) ∧ ∀ Q : Option Value → Hp → Prop, WPm 81 [.ref X] h Q = Q (some (.int (opClear p).2)) h' := by
  obtain ⟨c1, c2, hS, -, -⟩ := hr.1.facts
  have s1 : Same h (hset h X (xC X 0)) X 1 := Same.set (by omega) (by omega)
  obtain ⟨bf, b1, b2⟩ := hr.1.1.2.1
  refine ⟨hset h X (xC X 0), Fr.same s1 (by omega) (by omega), ⟨hr.typed (txt := []) hw (s1.wide (by omega) (by omega)) hset_same ⟨bf, b1.off s1 (by omega), fun i c hc => by cases hc⟩, ⟨hw.1, hw.2.1, hw.2.2.1, Nat.zero_le _, fun c hc => by cases hc⟩⟩, fun Q => ?_⟩
  rw [eX9_clear]
  simp (disch := (first | omega | assumption | (simp (disch := omega) only [Int32.lt_iff_toInt_lt, Int32.le_iff_toInt_le, ← Int32.toInt_inj, nI_toInt, zi_m1, zi_m2, zi_m3, zi_m9]; omega) | decide)) only [sX9_clear_0, sX9_clear_1, sX9_clear_4i, sX9_clear_4r, sX9_clear_4z, sX9_clear_4o, sX9_clear_5, sX9_clear_6, sX9_clear_7, sX9_clear_10, sX9_clear_11, gG9_0, gG9_1, gG9_2, gG9_3, gG9_4, gG9_5, gG9_6, gG9_7, gP9_0, gP9_1, gP9_2, gP9_3, gP9_4, gP9_5, gP9_6, gP9_7, zpush_v, zpush_n, gCk, gAi, gSi, gLi, gLq, ↓if_pos, ↓if_neg, c1]
  rfl
theorem x_type (hr : rP h X B p) (hw : WfP p) (c : Int32) : ∃ h', Fr X h h' ∧ (rP h' X B (opType p c).1 ∧ WfP (opType p c).1) ∧ ∀ Q : Option Value → Hp → Prop, WPm 80 [.ref X, .int c] h Q = Q (some (.int (opType p c).2)) h' := by
  obtain ⟨c1, c2, hS, -, -⟩ := hr.1.facts
  have h80 := hw.2.2.2.1
  unfold opType
  rcases dR_cases 32 126 c (by omega) (by omega) with ⟨k, hk, rfl, e⟩ | ⟨g, e⟩
  · rw [e]
    simp only
    by_cases hf : 80 ≤ p.2.2.length
    · rw [if_pos hf]
      refine ⟨h, Fr.rf, ⟨hr, hw⟩, fun Q => ?_⟩
      rw [eX9_type]
      simp (disch := (first | omega | assumption | (simp (disch := omega) only [Int32.lt_iff_toInt_lt, Int32.le_iff_toInt_le, ← Int32.toInt_inj, nI_toInt, zi_m1, zi_m2, zi_m3, zi_m9]; omega) | decide)) only [sX9_type_0, sX9_type_1, sX9_type_3, sX9_type_6, sX9_type_7, sX9_type_9, sX9_type_12, sX9_type_13, sX9_type_14, sX9_type_15, sX9_type_18, sX9_type_20, sX9_type_23, sX9_type_25, sX9_type_26, sX9_type_27, sX9_type_30, sX9_type_31, sX9_type_34, sX9_type_35, sX9_type_38, sX9_type_39, sX9_type_39i, sX9_type_40, sX9_type_43, sX9_type_44, sX9_type_45, sX9_type_48, sX9_type_49, sX9_type_52, gG9_0, gG9_1, gG9_2, gG9_3, gG9_4, gG9_5, gG9_6, gG9_7, gP9_0, gP9_1, gP9_2, gP9_3, gP9_4, gP9_5, gP9_6, gP9_7, zpush_v, zpush_n, gCk, gAi, gSi, gLi, gLq, ↓if_pos, ↓if_neg, c1]
    · rw [if_neg hf]
      obtain ⟨bf, b1, b2⟩ := hr.1.1.2.1
      have w1 := m_X5_set (x := nI k) b1 (by omega) (show p.2.2.length < 80 by omega)
      have s1 : Same h (hset h (X + 1 + 1) (.inl (0, 80, .inl (upd bf p.2.2.length (nI k))))) (X + 2) 1 := Same.set (by omega) (by omega)
      have s2 : Same (hset h (X + 1 + 1) (.inl (0, 80, .inl (upd bf p.2.2.length (nI k))))) (hset (hset h (X + 1 + 1) (.inl (0, 80, .inl (upd bf p.2.2.length (nI k))))) X (xC X (p.2.2.length + 1))) X 1 := Same.set (by omega) (by omega)
      have c1' : (hset h (X + 1 + 1) (.inl (0, 80, .inl (upd bf p.2.2.length (nI k))))).1 X = some (.inr (9, [.ref (X + 1), .int (nI p.2.2.length), .ref (X + 3), .ref (X + 8), .ref (X + 15), .ref (X + 52), .ref (X + 168), .ref (X + 173)])) := by rw [hset_ne (by omega)]; exact c1
      have s12 : Same h (hset (hset h (X + 1 + 1) (.inl (0, 80, .inl (upd bf p.2.2.length (nI k))))) X (xC X (p.2.2.length + 1))) X 3 := (s1.wide (by omega) (by omega)).tr (s2.wide (by omega) (by omega))
      have el : (p.2.2 ++ [k]).length = p.2.2.length + 1 := by rw [List.length_append]; rfl
      refine ⟨_, Fr.same s12 (by omega) (by omega), ⟨hr.typed (txt := p.2.2 ++ [k]) hw s12 (by rw [el]; exact hset_same) ⟨_, b1.set.off s2 (by omega), fun i x hx => ?_⟩, ⟨hw.1, hw.2.1, hw.2.2.1, ?_, fun x hx => ?_⟩⟩, fun Q => ?_⟩
      · have hxl := (List.getElem?_eq_some_iff.mp hx).1
        rw [el] at hxl
        by_cases q : i = p.2.2.length
        · subst q
          rw [List.getElem?_append_right (Nat.le_refl _), Nat.sub_self] at hx
          cases hx
          exact upd_at
        · rw [upd_off q]
          rw [List.getElem?_append_left (by omega)] at hx
          exact b2 i x hx
      · show (p.2.2 ++ [k]).length ≤ 80
        omega
      · rcases List.mem_append.mp hx with hx | hx
        · exact hw.2.2.2.2 x hx
        · rw [List.mem_singleton.mp hx]; exact hk
      · rw [eX9_type]
        simp (disch := (first | omega | assumption | (simp (disch := omega) only [Int32.lt_iff_toInt_lt, Int32.le_iff_toInt_le, ← Int32.toInt_inj, nI_toInt, zi_m1, zi_m2, zi_m3, zi_m9]; omega) | decide)) only [sX9_type_0, sX9_type_1, sX9_type_3, sX9_type_6, sX9_type_7, sX9_type_9, sX9_type_12, sX9_type_13, sX9_type_14, sX9_type_15, sX9_type_18, sX9_type_20, sX9_type_23, sX9_type_25, sX9_type_26, sX9_type_27, sX9_type_30, sX9_type_31, sX9_type_34, sX9_type_35, sX9_type_38, sX9_type_39, sX9_type_39i, sX9_type_40, sX9_type_43, sX9_type_44, sX9_type_45, sX9_type_48, sX9_type_49, sX9_type_52, gG9_0, gG9_1, gG9_2, gG9_3, gG9_4, gG9_5, gG9_6, gG9_7, gP9_0, gP9_1, gP9_2, gP9_3, gP9_4, gP9_5, gP9_6, gP9_7, zpush_v, zpush_n, gCk, gAi, gSi, gLi, gLq, ↓if_pos, ↓if_neg, c1, b1.1, w1, c1', nI_add, hset_same]
        rfl
  · rw [e]
    refine ⟨h, Fr.rf, ⟨hr, hw⟩, fun Q => ?_⟩
    rw [eX9_type]
    by_cases g1 : c < nI 32
    · simp (disch := (first | omega | assumption | (simp (disch := omega) only [Int32.lt_iff_toInt_lt, Int32.le_iff_toInt_le, ← Int32.toInt_inj, nI_toInt, zi_m1, zi_m2, zi_m3, zi_m9]; omega) | decide)) only [sX9_type_0, sX9_type_1, sX9_type_3, sX9_type_6, sX9_type_7, sX9_type_9, sX9_type_12, sX9_type_13, sX9_type_14, sX9_type_15, sX9_type_18, sX9_type_20, sX9_type_23, sX9_type_25, sX9_type_26, sX9_type_27, sX9_type_30, sX9_type_31, sX9_type_34, sX9_type_35, sX9_type_38, sX9_type_39, sX9_type_39i, sX9_type_40, sX9_type_43, sX9_type_44, sX9_type_45, sX9_type_48, sX9_type_49, sX9_type_52, gG9_0, gG9_1, gG9_2, gG9_3, gG9_4, gG9_5, gG9_6, gG9_7, gP9_0, gP9_1, gP9_2, gP9_3, gP9_4, gP9_5, gP9_6, gP9_7, zpush_v, zpush_n, gCk, gAi, gSi, gLi, gLq, ↓if_pos, ↓if_neg, c1]
    · have g2 := g.resolve_left g1
      have g3 := Int32.not_le.mpr g2
      simp (disch := (first | omega | assumption | (simp (disch := omega) only [Int32.lt_iff_toInt_lt, Int32.le_iff_toInt_le, ← Int32.toInt_inj, nI_toInt, zi_m1, zi_m2, zi_m3, zi_m9]; omega) | decide)) only [sX9_type_0, sX9_type_1, sX9_type_3, sX9_type_6, sX9_type_7, sX9_type_9, sX9_type_12, sX9_type_13, sX9_type_14, sX9_type_15, sX9_type_18, sX9_type_20, sX9_type_23, sX9_type_25, sX9_type_26, sX9_type_27, sX9_type_30, sX9_type_31, sX9_type_34, sX9_type_35, sX9_type_38, sX9_type_39, sX9_type_39i, sX9_type_40, sX9_type_43, sX9_type_44, sX9_type_45, sX9_type_48, sX9_type_49, sX9_type_52, gG9_0, gG9_1, gG9_2, gG9_3, gG9_4, gG9_5, gG9_6, gG9_7, gP9_0, gP9_1, gP9_2, gP9_3, gP9_4, gP9_5, gP9_6, gP9_7, zpush_v, zpush_n, gCk, gAi, gSi, gLi, gLq, ↓if_pos, ↓if_neg, c1]
theorem lineT (hr : rP h X B p) (hw : WfP p) {i : Nat} (hi : i < p.1.2.1.length) : ∃ q, rLn h B q (lnA p.1.2.1 i) ∧ ∀ Q : Option Value → Hp → Prop, WPm 49 [.ref (X + 8), .int (nI i)] h Q = Q (some (.ref q)) h :=
  m_X6_lineAtT hr.1.1.2.2.2.1 hw.1.2.1.1 (lnA_get hi)
theorem lineF (hr : rP h X B p) {x : Int32} (hx : x < nI 0 ∨ nI p.1.2.1.length ≤ x) (Q : Option Value → Hp → Prop) : WPm 49 [.ref (X + 8), .int x] h Q = Q (some .null) h :=
  m_X6_lineAtF hr.1.1.2.2.2.1 hx Q
theorem WfSt.lines {st : Stt} {L : List Ln} (hw : WfSt st) (h1 : L.length ≤ 16) (h2 : ∀ x ∈ L, WfL x ∧ ∀ q, x.2.2.1 = some q → q < st.1.1) : WfSt (st.1, L, st.2.2) := ⟨hw.1, ⟨h1, fun x hx => (h2 x hx).1⟩, fun x hx => (h2 x hx).2, hw.2.2.2⟩
theorem WfSt.mem {st : Stt} (hw : WfSt st) : ∀ x ∈ st.2.1, WfL x ∧ ∀ q, x.2.2.1 = some q → q < st.1.1 := fun x hx => ⟨hw.2.1.2 x hx, hw.2.2.1 x hx⟩
theorem WfSt.put {st : Stt} (hw : WfSt st) {i : Nat} {ln : Ln} (h : WfL ln ∧ ∀ q, ln.2.2.1 = some q → q < st.1.1) : WfSt (putL st i ln) :=
  hw.lines (by rw [List.length_set]; exact hw.2.1.1) (fun x hx => by
    rcases List.mem_or_eq_of_mem_set hx with hx | hx
    · exact hw.mem x hx
    · rw [hx]; exact h)
theorem lnA_mem {L : List Ln} {i : Nat} (hi : i < L.length) : lnA L i ∈ L := List.mem_of_getElem? (lnA_get hi)
theorem x_remove (hr : rP h X B p) (hw : WfP p) (l : Int32) : ∃ h', Fr X h h' ∧ (rP h' X B (opRemove p l).1 ∧ WfP (opRemove p l).1) ∧ ∀ Q : Option Value → Hp → Prop, WPm 83 [.ref X, .int l] h Q = Q (some (.int (opRemove p l).2)) h' := by
  obtain ⟨c1, c2, hS, -, -⟩ := hr.1.facts
  obtain ⟨⟨fs, ch⟩, ⟨fs2, cp⟩⟩ := hr.1.cells
  have h16 := hw.1.2.1.1
  unfold opRemove
  rcases dN_cases p.1.2.1.length l (by omega) with ⟨i, hi, rfl, e⟩ | ⟨g, e⟩
  · rw [e]
    simp only
    obtain ⟨q, q1, q2⟩ := lineT hr hw hi
    obtain ⟨h1, s1, r1, w1⟩ := s_keep hr.1 hw
    have B1 := r1.2.2.2.1
    obtain ⟨h2, s2, t2, w2⟩ := m_X6_dropLine r1.1.2.2.2.1 h16 (by omega) hi
    have r2 := r1.scr s2 t2
    have el : (p.1.2.1.eraseIdx i).length = p.1.2.1.length - 1 := by rw [List.length_eraseIdx, if_pos hi]
    have hw2 : WfSt (p.1.1, p.1.2.1.eraseIdx i, p.1.2.2) := hw.1.lines (by omega) (fun x hx => hw.1.mem x (List.mem_of_mem_eraseIdx hx))
    obtain ⟨d1, d2, -, -, -⟩ := r1.facts
    obtain ⟨f1, f2, -, -, -⟩ := r2.facts
    obtain ⟨-, ⟨fs3, f4⟩⟩ := r2.cells
    obtain ⟨h3, s3, r3, w3⟩ := s_draw r2 hw2
    obtain ⟨g1, g2, -⟩ := r3.facts
    have g2 : h3.1 (X + 8) = some (.inr (6, [.ref (X + 8 + 1), .ref (X + 8 + 6), .int (nI (p.1.2.1.eraseIdx i).length), .int (nI p.1.2.2)])) := g2
    rw [el] at g2
    refine ⟨h3, (((Fr.s s1 (by omega) (by omega)).tr (Fr.s s2 (by omega) (by omega))).tr (Fr.s s3 (by omega) (by omega))).w (by decide), ⟨r3, hw.kp hw2⟩, fun Q => ?_⟩
    rw [eX9_remove]
    simp (disch := (first | omega | assumption | (simp (disch := omega) only [Int32.lt_iff_toInt_lt, Int32.le_iff_toInt_le, ← Int32.toInt_inj, nI_toInt, zi_m1, zi_m2, zi_m3, zi_m9]; omega) | decide)) only [sX9_remove_0, sX9_remove_1, sX9_remove_4, sX9_remove_5, sX9_remove_8, sX9_remove_8n, sX9_remove_11, sX9_remove_12, sX9_remove_13, sX9_remove_14, sX9_remove_17, sX9_remove_18, sX9_remove_21, sX9_remove_24, sX9_remove_25, sX9_remove_28, sX9_remove_29, sX9_remove_32, sX9_remove_33, sX9_remove_36, sX9_remove_37, sX9_remove_40, sX9_remove_43, sX9_remove_44, sX9_remove_47, sX9_remove_50, gG9_0, gG9_1, gG9_2, gG9_3, gG9_4, gG9_5, gG9_6, gG9_7, gP9_0, gP9_1, gP9_2, gP9_3, gP9_4, gP9_5, gP9_6, gP9_7, gG6_0, gG6_1, gG6_2, gG6_3, gP6_0, gP6_1, gP6_2, gP6_3, zpush_v, zpush_n, gCk, gAi, gSi, gLi, gLq, ↓if_pos, ↓if_neg, c1, c2, q2, ch, w1, d1, d2, w2, f1, f4, w3, g1, g2]
  · rw [e]
    refine ⟨h, Fr.rf, ⟨hr, hw⟩, fun Q => ?_⟩
    rw [eX9_remove]
    simp (disch := (first | omega | assumption | (simp (disch := omega) only [Int32.lt_iff_toInt_lt, Int32.le_iff_toInt_le, ← Int32.toInt_inj, nI_toInt, zi_m1, zi_m2, zi_m3, zi_m9]; omega) | decide)) only [sX9_remove_0, sX9_remove_1, sX9_remove_4, sX9_remove_5, sX9_remove_8, sX9_remove_8n, sX9_remove_11, sX9_remove_12, sX9_remove_13, sX9_remove_14, sX9_remove_17, sX9_remove_18, sX9_remove_21, sX9_remove_24, sX9_remove_25, sX9_remove_28, sX9_remove_29, sX9_remove_32, sX9_remove_33, sX9_remove_36, sX9_remove_37, sX9_remove_40, sX9_remove_43, sX9_remove_44, sX9_remove_47, sX9_remove_50, gG9_0, gG9_1, gG9_2, gG9_3, gG9_4, gG9_5, gG9_6, gG9_7, gP9_0, gP9_1, gP9_2, gP9_3, gP9_4, gP9_5, gP9_6, gP9_7, gG6_0, gG6_1, gG6_2, gG6_3, gP6_0, gP6_1, gP6_2, gP6_3, zpush_v, zpush_n, gCk, gAi, gSi, gLi, gLq, ↓if_pos, ↓if_neg, c1, c2, lineF hr g]
theorem x_setHeight (hr : rP h X B p) (hw : WfP p) (x : Int32) : ∃ h', Fr X h h' ∧ (rP h' X B (opSetHeight p x).1 ∧ WfP (opSetHeight p x).1) ∧ ∀ Q : Option Value → Hp → Prop, WPm 87 [.ref X, .int x] h Q = Q (some (.int (opSetHeight p x).2)) h' := by
  obtain ⟨c1, c2, hS, -, -⟩ := hr.1.facts
  obtain ⟨⟨fs, ch⟩, ⟨fs2, cp⟩⟩ := hr.1.cells
  have h16 := hw.1.2.1.1
  unfold opSetHeight
  rcases dR_cases 50 2000 x (by omega) (by omega) with ⟨k, hk, rfl, e⟩ | ⟨g, e⟩
  · rw [e]
    simp only
    obtain ⟨h1, s1, r1, w1⟩ := s_keep hr.1 hw
    obtain ⟨d1, d2, -, -, -⟩ := r1.facts
    have B1 := r1.2.2.2.1
    obtain ⟨rf, t1, t2, t3⟩ := r1.1.2.2.2.1
    have t1' := t1.setN (n' := p.1.2.1.length) (ht' := k)
    have s2 : Same h1 (hset h1 (X + 8) (.inr (6, [.ref (X + 8 + 1), .ref (X + 8 + 6), .int (nI p.1.2.1.length), .int (nI k)]))) (X + 8) 1 := Same.set (by omega) (by omega)
    have r2 : rS _ X B ((p.1.1, p.1.2.1, k), kept p.2.1 p.1, p.2.2) := r1.scr (s2.wide (by omega) (by omega)) ⟨rf, t1', t2.off s2 (by omega), t3.off s2 (by omega)⟩
    have hp : rPic h1 (X + 52) p.1.1 p.1.2.1 (offC p.1.1 p.1.2.1) := hr.2.off h16 s1 (by omega)
    refine ⟨_, ((Fr.s s1 (by omega) (by omega)).tr (Fr.s s2 (by omega) (by omega))).w (by decide), ⟨⟨r2, hp.off h16 s2 (by omega)⟩, hw.kp ⟨hw.1.1, hw.1.2.1, hw.1.2.2.1, hk.2⟩⟩, fun Q => ?_⟩
    rw [eX9_setHeight]
    simp (disch := (first | omega | assumption | (simp (disch := omega) only [Int32.lt_iff_toInt_lt, Int32.le_iff_toInt_le, ← Int32.toInt_inj, nI_toInt, zi_m1, zi_m2, zi_m3, zi_m9]; omega) | decide)) only [sX9_setHeight_0, sX9_setHeight_1, sX9_setHeight_3, sX9_setHeight_6, sX9_setHeight_7, sX9_setHeight_10, sX9_setHeight_13, sX9_setHeight_14, sX9_setHeight_15, sX9_setHeight_16, sX9_setHeight_19, sX9_setHeight_20, sX9_setHeight_23, sX9_setHeight_26, sX9_setHeight_27, sX9_setHeight_30, sX9_setHeight_33i, sX9_setHeight_33r, sX9_setHeight_33z, sX9_setHeight_33o, sX9_setHeight_34, sX9_setHeight_35, sX9_setHeight_38, sX9_setHeight_39, sX9_setHeight_42, sX9_setHeight_43, gG9_0, gG9_1, gG9_2, gG9_3, gG9_4, gG9_5, gG9_6, gG9_7, gP9_0, gP9_1, gP9_2, gP9_3, gP9_4, gP9_5, gP9_6, gP9_7, gG6_0, gG6_1, gG6_2, gG6_3, gP6_0, gP6_1, gP6_2, gP6_3, zpush_v, zpush_n, gCk, gAi, gSi, gLi, gLq, ↓if_pos, ↓if_neg, c1, c2, ch, w1, d1, d2]
  · rw [e]
    refine ⟨h, Fr.rf, ⟨hr, hw⟩, fun Q => ?_⟩
    rw [eX9_setHeight]
    by_cases g1 : x < nI 50
    · simp (disch := (first | omega | assumption | (simp (disch := omega) only [Int32.lt_iff_toInt_lt, Int32.le_iff_toInt_le, ← Int32.toInt_inj, nI_toInt, zi_m1, zi_m2, zi_m3, zi_m9]; omega) | decide)) only [sX9_setHeight_0, sX9_setHeight_1, sX9_setHeight_3, sX9_setHeight_6, sX9_setHeight_7, sX9_setHeight_10, sX9_setHeight_13, sX9_setHeight_14, sX9_setHeight_15, sX9_setHeight_16, sX9_setHeight_19, sX9_setHeight_20, sX9_setHeight_23, sX9_setHeight_26, sX9_setHeight_27, sX9_setHeight_30, sX9_setHeight_33i, sX9_setHeight_33r, sX9_setHeight_33z, sX9_setHeight_33o, sX9_setHeight_34, sX9_setHeight_35, sX9_setHeight_38, sX9_setHeight_39, sX9_setHeight_42, sX9_setHeight_43, gG9_0, gG9_1, gG9_2, gG9_3, gG9_4, gG9_5, gG9_6, gG9_7, gP9_0, gP9_1, gP9_2, gP9_3, gP9_4, gP9_5, gP9_6, gP9_7, gG6_0, gG6_1, gG6_2, gG6_3, gP6_0, gP6_1, gP6_2, gP6_3, zpush_v, zpush_n, gCk, gAi, gSi, gLi, gLq, ↓if_pos, ↓if_neg, c1]
    · have g2 := g.resolve_left g1
      have g3 := Int32.not_le.mpr g2
      simp (disch := (first | omega | assumption | (simp (disch := omega) only [Int32.lt_iff_toInt_lt, Int32.le_iff_toInt_le, ← Int32.toInt_inj, nI_toInt, zi_m1, zi_m2, zi_m3, zi_m9]; omega) | decide)) only [sX9_setHeight_0, sX9_setHeight_1, sX9_setHeight_3, sX9_setHeight_6, sX9_setHeight_7, sX9_setHeight_10, sX9_setHeight_13, sX9_setHeight_14, sX9_setHeight_15, sX9_setHeight_16, sX9_setHeight_19, sX9_setHeight_20, sX9_setHeight_23, sX9_setHeight_26, sX9_setHeight_27, sX9_setHeight_30, sX9_setHeight_33i, sX9_setHeight_33r, sX9_setHeight_33z, sX9_setHeight_33o, sX9_setHeight_34, sX9_setHeight_35, sX9_setHeight_38, sX9_setHeight_39, sX9_setHeight_42, sX9_setHeight_43, gG9_0, gG9_1, gG9_2, gG9_3, gG9_4, gG9_5, gG9_6, gG9_7, gP9_0, gP9_1, gP9_2, gP9_3, gP9_4, gP9_5, gP9_6, gP9_7, gG6_0, gG6_1, gG6_2, gG6_3, gP6_0, gP6_1, gP6_2, gP6_3, zpush_v, zpush_n, gCk, gAi, gSi, gLi, gLq, ↓if_pos, ↓if_neg, c1]
end XC
