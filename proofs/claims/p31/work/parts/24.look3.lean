/-! Look: what is asked of it -/
theorem rdL_ok {S : Sh} {ln : Ln} (hw : WfS S) (hok : WfL ln) : okR (rdL S ln) 80 20 := by
  have h := okR_take hw (st := ln.2.2.1) hok.2.2.2.2.2.1 _ (Nat.le_refl _)
  rw [List.take_length] at h
  obtain ⟨h1, h2, h3⟩ := h
  exact ⟨Nat.le_trans h1 hok.2.2.2.2.1, Nat.le_trans h2 hok.2.2.2.2.2.2, h3⟩
def sgW (x : Sgn) (w : Nat) : Int32 := if w = 0 then nI x.1 else if w = 5 then eS x.2.2 else nI (x.2.1 (w - 1))
def syW (b : Nat) (r : Rd) (i w : Nat) : Int32 := if w = 0 then nI (b + (r.2.2.take i).sum) else if w = 1 then nI (r.2.2.getD i 0) else nI (cntS r.2.1 i)
/-- sung at a time -/
def sungP (b : Nat) (lasts : List Nat) (o : Option Nat) (time : Int32) : Bool := match o with
  | none => false
  | some j => decide (nI (b + (lasts.take j).sum) ≤ time)
def cntU (b : Nat) (r : Rd) (time : Int32) : Nat → Nat
  | 0 => 0
  | i + 1 => cntU b r time i + (match r.2.1[i]? with
    | some x => if sungP b r.2.2 x.2.2 time = true then 1 else 0
    | none => 0)
theorem cntU_le (b : Nat) (r : Rd) (time : Int32) : ∀ i, cntU b r time i ≤ i := by
  intro i
  induction i with
  | zero => exact Nat.le_refl 0
  | succ i ih =>
    simp only [cntU]
    split
    · split <;> omega
    · omega
def shownP (ln : Ln) (time : Int32) : Bool := decide (nI ln.1 ≤ time ∧ time < nI ln.2.1)
section LQ
variable {h : Hp} {k : Nat} {S : Sh} {ln : Ln} {o : Int32}
theorem fLook.off {h' : Hp} {lo n : Nat} (hr : fLook h k S ln o) (hs : Same h h' lo n) (hq : k + 7 ≤ lo ∨ lo + n ≤ k) : fLook h' k S ln o := by
  obtain ⟨sg, sy, hd, hO, hT, hY⟩ := hr
  exact ⟨sg, sy, hd, hO.off hs hq, hT, hY⟩
theorem fLook.cell (hr : fLook h k S ln o) : h.1 k = some (.inr (2, [.int (nI ln.1), .int (nI ln.2.1), .int (nI (valS S 4 ln.2.2.1)), .int (nI (mrg S ln)), .int (nI (hgL S ln)), .int o, .int (nI (rdL S ln).2.1.length), .ref (k + 1), .int (nI (rdL S ln).2.2.length), .ref (k + 3), .int (nI (rdL S ln).2.2.sum), .ref (k + 5)])) ∧ h.1 (k + 1) = some (.inr (5, [.ref (k + 2)])) ∧ h.1 (k + 3) = some (.inr (5, [.ref (k + 4)])) := by
  obtain ⟨sg, sy, hd, hO, hT, hY⟩ := hr
  exact ⟨hO.1, hO.2.1.1, hO.2.2.1.1⟩
theorem m_X2_hasSignT (hf : fLook h k S ln o) (hw : WfS S) (hok : WfL ln) {i : Nat} (hi : i < (rdL S ln).2.1.length) (Q : Option Value → Hp → Prop) : WPm 14 [.ref k, .int (nI i)] h Q = Q (some (.int (nI 1))) h := by
  have c := hf.cell.1
  have := (rdL_ok hw hok).1
  rw [eX2_hasSign]
  simp (disch := (first | omega | assumption | (simp (disch := omega) only [Int32.lt_iff_toInt_lt, Int32.le_iff_toInt_le, ← Int32.toInt_inj, nI_toInt, zi_m1, zi_m2, zi_m3, zi_m9]; omega) | decide)) only [sX2_hasSign_0, sX2_hasSign_1, sX2_hasSign_4, sX2_hasSign_5, sX2_hasSign_6, sX2_hasSign_9, sX2_hasSign_12, sX2_hasSign_13, sX2_hasSign_16, sX2_hasSign_17, gG2_0, gG2_1, gG2_2, gG2_3, gG2_4, gG2_5, gG2_6, gG2_7, gG2_8, gG2_9, gG2_10, gG2_11, gP2_0, gP2_1, gP2_2, gP2_3, gP2_4, gP2_5, gP2_6, gP2_7, gP2_8, gP2_9, gP2_10, gP2_11, zpush_v, zpush_n, gCk, gAi, gSi, gLi, gLq, ↓if_pos, ↓if_neg, c]
theorem m_X2_hasSignF (hf : fLook h k S ln o) {x : Int32} (hx : x < nI 0 ∨ nI (rdL S ln).2.1.length ≤ x) (Q : Option Value → Hp → Prop) : WPm 14 [.ref k, .int x] h Q = Q (some (.int (nI 0))) h := by
  have c := hf.cell.1
  rw [eX2_hasSign]
  by_cases c1 : x < nI 0
  · simp (disch := (first | omega | assumption | (simp (disch := omega) only [Int32.lt_iff_toInt_lt, Int32.le_iff_toInt_le, ← Int32.toInt_inj, nI_toInt, zi_m1, zi_m2, zi_m3, zi_m9]; omega) | decide)) only [sX2_hasSign_0, sX2_hasSign_1, sX2_hasSign_4, sX2_hasSign_5, sX2_hasSign_6, sX2_hasSign_9, sX2_hasSign_12, sX2_hasSign_13, sX2_hasSign_16, sX2_hasSign_17, gG2_0, gG2_1, gG2_2, gG2_3, gG2_4, gG2_5, gG2_6, gG2_7, gG2_8, gG2_9, gG2_10, gG2_11, gP2_0, gP2_1, gP2_2, gP2_3, gP2_4, gP2_5, gP2_6, gP2_7, gP2_8, gP2_9, gP2_10, gP2_11, zpush_v, zpush_n, gCk, gAi, gSi, gLi, gLq, ↓if_pos, ↓if_neg, c]
  · have c2 := hx.resolve_left c1
    simp (disch := (first | omega | assumption | (simp (disch := omega) only [Int32.lt_iff_toInt_lt, Int32.le_iff_toInt_le, ← Int32.toInt_inj, nI_toInt, zi_m1, zi_m2, zi_m3, zi_m9]; omega) | decide)) only [sX2_hasSign_0, sX2_hasSign_1, sX2_hasSign_4, sX2_hasSign_5, sX2_hasSign_6, sX2_hasSign_9, sX2_hasSign_12, sX2_hasSign_13, sX2_hasSign_16, sX2_hasSign_17, gG2_0, gG2_1, gG2_2, gG2_3, gG2_4, gG2_5, gG2_6, gG2_7, gG2_8, gG2_9, gG2_10, gG2_11, gP2_0, gP2_1, gP2_2, gP2_3, gP2_4, gP2_5, gP2_6, gP2_7, gP2_8, gP2_9, gP2_10, gP2_11, zpush_v, zpush_n, gCk, gAi, gSi, gLi, gLq, ↓if_pos, ↓if_neg, c]
theorem m_X2_hasSylT (hf : fLook h k S ln o) (hw : WfS S) (hok : WfL ln) {i : Nat} (hi : i < (rdL S ln).2.2.length) (Q : Option Value → Hp → Prop) : WPm 16 [.ref k, .int (nI i)] h Q = Q (some (.int (nI 1))) h := by
  have c := hf.cell.1
  have := (rdL_ok hw hok).2.1
  rw [eX2_hasSyllable]
  simp (disch := (first | omega | assumption | (simp (disch := omega) only [Int32.lt_iff_toInt_lt, Int32.le_iff_toInt_le, ← Int32.toInt_inj, nI_toInt, zi_m1, zi_m2, zi_m3, zi_m9]; omega) | decide)) only [sX2_hasSyllable_0, sX2_hasSyllable_1, sX2_hasSyllable_4, sX2_hasSyllable_5, sX2_hasSyllable_6, sX2_hasSyllable_9, sX2_hasSyllable_12, sX2_hasSyllable_13, sX2_hasSyllable_16, sX2_hasSyllable_17, gG2_0, gG2_1, gG2_2, gG2_3, gG2_4, gG2_5, gG2_6, gG2_7, gG2_8, gG2_9, gG2_10, gG2_11, gP2_0, gP2_1, gP2_2, gP2_3, gP2_4, gP2_5, gP2_6, gP2_7, gP2_8, gP2_9, gP2_10, gP2_11, zpush_v, zpush_n, gCk, gAi, gSi, gLi, gLq, ↓if_pos, ↓if_neg, c]
theorem m_X2_hasSylF (hf : fLook h k S ln o) {x : Int32} (hx : x < nI 0 ∨ nI (rdL S ln).2.2.length ≤ x) (Q : Option Value → Hp → Prop) : WPm 16 [.ref k, .int x] h Q = Q (some (.int (nI 0))) h := by
  have c := hf.cell.1
  rw [eX2_hasSyllable]
  by_cases c1 : x < nI 0
  · simp (disch := (first | omega | assumption | (simp (disch := omega) only [Int32.lt_iff_toInt_lt, Int32.le_iff_toInt_le, ← Int32.toInt_inj, nI_toInt, zi_m1, zi_m2, zi_m3, zi_m9]; omega) | decide)) only [sX2_hasSyllable_0, sX2_hasSyllable_1, sX2_hasSyllable_4, sX2_hasSyllable_5, sX2_hasSyllable_6, sX2_hasSyllable_9, sX2_hasSyllable_12, sX2_hasSyllable_13, sX2_hasSyllable_16, sX2_hasSyllable_17, gG2_0, gG2_1, gG2_2, gG2_3, gG2_4, gG2_5, gG2_6, gG2_7, gG2_8, gG2_9, gG2_10, gG2_11, gP2_0, gP2_1, gP2_2, gP2_3, gP2_4, gP2_5, gP2_6, gP2_7, gP2_8, gP2_9, gP2_10, gP2_11, zpush_v, zpush_n, gCk, gAi, gSi, gLi, gLq, ↓if_pos, ↓if_neg, c]
  · have c2 := hx.resolve_left c1
    simp (disch := (first | omega | assumption | (simp (disch := omega) only [Int32.lt_iff_toInt_lt, Int32.le_iff_toInt_le, ← Int32.toInt_inj, nI_toInt, zi_m1, zi_m2, zi_m3, zi_m9]; omega) | decide)) only [sX2_hasSyllable_0, sX2_hasSyllable_1, sX2_hasSyllable_4, sX2_hasSyllable_5, sX2_hasSyllable_6, sX2_hasSyllable_9, sX2_hasSyllable_12, sX2_hasSyllable_13, sX2_hasSyllable_16, sX2_hasSyllable_17, gG2_0, gG2_1, gG2_2, gG2_3, gG2_4, gG2_5, gG2_6, gG2_7, gG2_8, gG2_9, gG2_10, gG2_11, gP2_0, gP2_1, gP2_2, gP2_3, gP2_4, gP2_5, gP2_6, gP2_7, gP2_8, gP2_9, gP2_10, gP2_11, zpush_v, zpush_n, gCk, gAi, gSi, gLi, gLq, ↓if_pos, ↓if_neg, c]
theorem m_X2_signNumber (hf : fLook h k S ln o) (hw : WfS S) (hok : WfL ln) {i w : Nat} {x : Sgn} (hi : (rdL S ln).2.1[i]? = some x) (hx : w < 6) (Q : Option Value → Hp → Prop) : WPm 15 [.ref k, .int (nI i), .int (nI w)] h Q = Q (some (.int (sgW x w))) h := by
  have hl := (List.getElem?_eq_some_iff.mp hi).1
  have := (rdL_ok hw hok).1
  obtain ⟨sg, sy, hd, hO, hT, hY⟩ := hf
  obtain ⟨t1, t2, t3⟩ := hT i x hi
  have e : sg (i * 6 + w) = sgW x w := by
    unfold sgW
    by_cases h0 : w = 0
    · subst h0
      rw [if_pos rfl]
      exact t1
    · by_cases h5 : w = 5
      · subst h5
        rw [if_neg h0, if_pos rfl]
        exact t3
      · rw [if_neg h0, if_neg h5, ← t2 (w - 1) (by omega)]
        congr 1
        omega
  rw [eX2_signNumber]
  simp (disch := (first | omega | assumption | (simp (disch := omega) only [Int32.lt_iff_toInt_lt, Int32.le_iff_toInt_le, ← Int32.toInt_inj, nI_toInt, zi_m1, zi_m2, zi_m3, zi_m9]; omega) | decide)) only [sX2_signNumber_0, sX2_signNumber_1, sX2_signNumber_4, sX2_signNumber_5, sX2_signNumber_7, sX2_signNumber_8, sX2_signNumber_9, sX2_signNumber_10, sX2_signNumber_13, gG2_0, gG2_1, gG2_2, gG2_3, gG2_4, gG2_5, gG2_6, gG2_7, gG2_8, gG2_9, gG2_10, gG2_11, gP2_0, gP2_1, gP2_2, gP2_3, gP2_4, gP2_5, gP2_6, gP2_7, gP2_8, gP2_9, gP2_10, gP2_11, zpush_v, zpush_n, gCk, gAi, gSi, gLi, gLq, ↓if_pos, ↓if_neg, hO.1, hO.2.1.1, nI_mul, nI_add, m_X5_get hO.2.1, e]
theorem m_X2_sylNumber (hf : fLook h k S ln o) (hw : WfS S) (hok : WfL ln) {i w : Nat} (hi : i < (rdL S ln).2.2.length) (hx : w < 3) (Q : Option Value → Hp → Prop) : WPm 17 [.ref k, .int (nI i), .int (nI w)] h Q = Q (some (.int (syW ln.1 (rdL S ln) i w))) h := by
  have := (rdL_ok hw hok).2.1
  obtain ⟨sg, sy, hd, hO, hT, hY⟩ := hf
  obtain ⟨t1, t2, t3⟩ := hY i hi
  have e : sy (i * 3 + w) = syW ln.1 (rdL S ln) i w := by
    unfold syW
    by_cases h0 : w = 0
    · subst h0
      rw [if_pos rfl]
      exact t1
    · by_cases h5 : w = 1
      · subst h5
        rw [if_neg h0, if_pos rfl]
        exact t2
      · rw [if_neg h0, if_neg h5, ← t3]
        congr 1
        omega
  rw [eX2_syllableNumber]
  simp (disch := (first | omega | assumption | (simp (disch := omega) only [Int32.lt_iff_toInt_lt, Int32.le_iff_toInt_le, ← Int32.toInt_inj, nI_toInt, zi_m1, zi_m2, zi_m3, zi_m9]; omega) | decide)) only [sX2_syllableNumber_0, sX2_syllableNumber_1, sX2_syllableNumber_4, sX2_syllableNumber_5, sX2_syllableNumber_6, sX2_syllableNumber_7, sX2_syllableNumber_8, sX2_syllableNumber_9, sX2_syllableNumber_12, gG2_0, gG2_1, gG2_2, gG2_3, gG2_4, gG2_5, gG2_6, gG2_7, gG2_8, gG2_9, gG2_10, gG2_11, gP2_0, gP2_1, gP2_2, gP2_3, gP2_4, gP2_5, gP2_6, gP2_7, gP2_8, gP2_9, gP2_10, gP2_11, zpush_v, zpush_n, gCk, gAi, gSi, gLi, gLq, ↓if_pos, ↓if_neg, hO.1, hO.2.2.1.1, nI_mul, nI_add, m_X5_get hO.2.2.1, e]
theorem m_X2_isShownAt (hf : fLook h k S ln o) (time : Int32) (Q : Option Value → Hp → Prop) : WPm 18 [.ref k, .int time] h Q = Q (some (.int (bI (shownP ln time = true)))) h := by
  have c := hf.cell.1
  rw [eX2_isShownAt]
  unfold shownP
  by_cases c1 : nI ln.1 ≤ time
  · have d1 := Int32.not_lt.mpr c1
    by_cases c2 : time < nI ln.2.1
    · rw [decide_eq_true (show nI ln.1 ≤ time ∧ time < nI ln.2.1 from ⟨c1, c2⟩)]
      have d2 := Int32.not_le.mpr c2
      simp (disch := (first | omega | assumption | (simp (disch := omega) only [Int32.lt_iff_toInt_lt, Int32.le_iff_toInt_le, ← Int32.toInt_inj, nI_toInt, zi_m1, zi_m2, zi_m3, zi_m9]; omega) | decide)) only [sX2_isShownAt_0, sX2_isShownAt_1, sX2_isShownAt_4, sX2_isShownAt_5, sX2_isShownAt_8, sX2_isShownAt_9, sX2_isShownAt_10, sX2_isShownAt_13, sX2_isShownAt_16, sX2_isShownAt_17, sX2_isShownAt_20, sX2_isShownAt_21, gG2_0, gG2_1, gG2_2, gG2_3, gG2_4, gG2_5, gG2_6, gG2_7, gG2_8, gG2_9, gG2_10, gG2_11, gP2_0, gP2_1, gP2_2, gP2_3, gP2_4, gP2_5, gP2_6, gP2_7, gP2_8, gP2_9, gP2_10, gP2_11, zpush_v, zpush_n, gCk, gAi, gSi, gLi, gLq, ↓if_pos, ↓if_neg, c]
      rfl
    · rw [decide_eq_false (show ¬ (nI ln.1 ≤ time ∧ time < nI ln.2.1) from fun q => c2 q.2)]
      have d2 := Int32.not_lt.mp c2
      simp (disch := (first | omega | assumption | (simp (disch := omega) only [Int32.lt_iff_toInt_lt, Int32.le_iff_toInt_le, ← Int32.toInt_inj, nI_toInt, zi_m1, zi_m2, zi_m3, zi_m9]; omega) | decide)) only [sX2_isShownAt_0, sX2_isShownAt_1, sX2_isShownAt_4, sX2_isShownAt_5, sX2_isShownAt_8, sX2_isShownAt_9, sX2_isShownAt_10, sX2_isShownAt_13, sX2_isShownAt_16, sX2_isShownAt_17, sX2_isShownAt_20, sX2_isShownAt_21, gG2_0, gG2_1, gG2_2, gG2_3, gG2_4, gG2_5, gG2_6, gG2_7, gG2_8, gG2_9, gG2_10, gG2_11, gP2_0, gP2_1, gP2_2, gP2_3, gP2_4, gP2_5, gP2_6, gP2_7, gP2_8, gP2_9, gP2_10, gP2_11, zpush_v, zpush_n, gCk, gAi, gSi, gLi, gLq, ↓if_pos, ↓if_neg, c]
      rfl
  · rw [decide_eq_false (show ¬ (nI ln.1 ≤ time ∧ time < nI ln.2.1) from fun q => c1 q.1)]
    have d1 := Int32.not_le.mp c1
    simp (disch := (first | omega | assumption | (simp (disch := omega) only [Int32.lt_iff_toInt_lt, Int32.le_iff_toInt_le, ← Int32.toInt_inj, nI_toInt, zi_m1, zi_m2, zi_m3, zi_m9]; omega) | decide)) only [sX2_isShownAt_0, sX2_isShownAt_1, sX2_isShownAt_4, sX2_isShownAt_5, sX2_isShownAt_8, sX2_isShownAt_9, sX2_isShownAt_10, sX2_isShownAt_13, sX2_isShownAt_16, sX2_isShownAt_17, sX2_isShownAt_20, sX2_isShownAt_21, gG2_0, gG2_1, gG2_2, gG2_3, gG2_4, gG2_5, gG2_6, gG2_7, gG2_8, gG2_9, gG2_10, gG2_11, gP2_0, gP2_1, gP2_2, gP2_3, gP2_4, gP2_5, gP2_6, gP2_7, gP2_8, gP2_9, gP2_10, gP2_11, zpush_v, zpush_n, gCk, gAi, gSi, gLi, gLq, ↓if_pos, ↓if_neg, c]
    rfl
theorem m_X2_isSungAt (hf : fLook h k S ln o) (hw : WfS S) (hok : WfL ln) {i : Nat} {x : Sgn} (hi : (rdL S ln).2.1[i]? = some x) (time : Int32) (Q : Option Value → Hp → Prop) : WPm 19 [.ref k, .int (nI i), .int time] h Q = Q (some (.int (bI (sungP ln.1 (rdL S ln).2.2 x.2.2 time = true)))) h := by
  have c := hf.cell.1
  have hR := rdL_ok hw hok
  have hx := hR.2.2.2.1 x (List.mem_of_getElem? hi)
  have hr2 := hR.2.1
  have hn := m_X2_signNumber hf hw hok hi (w := 5) (by omega)
  rw [eX2_isSungAt]
  cases hs : x.2.2 with
  | none =>
    have e : sgW x 5 = -9 := by simp [sgW, hs, eS]
    simp (disch := (first | omega | assumption | (simp (disch := omega) only [Int32.lt_iff_toInt_lt, Int32.le_iff_toInt_le, ← Int32.toInt_inj, nI_toInt, zi_m1, zi_m2, zi_m3, zi_m9]; omega) | decide)) only [sX2_isSungAt_0, sX2_isSungAt_1, sX2_isSungAt_2, sX2_isSungAt_3, sX2_isSungAt_6i, sX2_isSungAt_6r, sX2_isSungAt_6z, sX2_isSungAt_6o, sX2_isSungAt_7, sX2_isSungAt_8, sX2_isSungAt_10, sX2_isSungAt_13, sX2_isSungAt_14, sX2_isSungAt_15, sX2_isSungAt_16, sX2_isSungAt_19, sX2_isSungAt_20, sX2_isSungAt_23, sX2_isSungAt_24, sX2_isSungAt_27, sX2_isSungAt_28, gG2_0, gG2_1, gG2_2, gG2_3, gG2_4, gG2_5, gG2_6, gG2_7, gG2_8, gG2_9, gG2_10, gG2_11, gP2_0, gP2_1, gP2_2, gP2_3, gP2_4, gP2_5, gP2_6, gP2_7, gP2_8, gP2_9, gP2_10, gP2_11, zpush_v, zpush_n, gCk, gAi, gSi, gLi, gLq, ↓if_pos, ↓if_neg, c, hn, e]
    rfl
  | some j =>
    have hj := hx.2 j hs
    have e : sgW x 5 = nI j := by simp [sgW, hs, eS]
    have hy := m_X2_sylNumber hf hw hok hj (w := 0) (by omega)
    have e2 : syW ln.1 (rdL S ln) j 0 = nI (ln.1 + ((rdL S ln).2.2.take j).sum) := by simp [syW]
    by_cases c2 : nI (ln.1 + ((rdL S ln).2.2.take j).sum) ≤ time
    · have d2 := Int32.not_lt.mpr c2
      simp (disch := (first | omega | assumption | (simp (disch := omega) only [Int32.lt_iff_toInt_lt, Int32.le_iff_toInt_le, ← Int32.toInt_inj, nI_toInt, zi_m1, zi_m2, zi_m3, zi_m9]; omega) | decide)) only [sX2_isSungAt_0, sX2_isSungAt_1, sX2_isSungAt_2, sX2_isSungAt_3, sX2_isSungAt_6i, sX2_isSungAt_6r, sX2_isSungAt_6z, sX2_isSungAt_6o, sX2_isSungAt_7, sX2_isSungAt_8, sX2_isSungAt_10, sX2_isSungAt_13, sX2_isSungAt_14, sX2_isSungAt_15, sX2_isSungAt_16, sX2_isSungAt_19, sX2_isSungAt_20, sX2_isSungAt_23, sX2_isSungAt_24, sX2_isSungAt_27, sX2_isSungAt_28, gG2_0, gG2_1, gG2_2, gG2_3, gG2_4, gG2_5, gG2_6, gG2_7, gG2_8, gG2_9, gG2_10, gG2_11, gP2_0, gP2_1, gP2_2, gP2_3, gP2_4, gP2_5, gP2_6, gP2_7, gP2_8, gP2_9, gP2_10, gP2_11, zpush_v, zpush_n, gCk, gAi, gSi, gLi, gLq, ↓if_pos, ↓if_neg, c, hn, e, hy, e2, sungP]
      simp [bI, c2]
    · have d2 := Int32.not_le.mp c2
      simp (disch := (first | omega | assumption | (simp (disch := omega) only [Int32.lt_iff_toInt_lt, Int32.le_iff_toInt_le, ← Int32.toInt_inj, nI_toInt, zi_m1, zi_m2, zi_m3, zi_m9]; omega) | decide)) only [sX2_isSungAt_0, sX2_isSungAt_1, sX2_isSungAt_2, sX2_isSungAt_3, sX2_isSungAt_6i, sX2_isSungAt_6r, sX2_isSungAt_6z, sX2_isSungAt_6o, sX2_isSungAt_7, sX2_isSungAt_8, sX2_isSungAt_10, sX2_isSungAt_13, sX2_isSungAt_14, sX2_isSungAt_15, sX2_isSungAt_16, sX2_isSungAt_19, sX2_isSungAt_20, sX2_isSungAt_23, sX2_isSungAt_24, sX2_isSungAt_27, sX2_isSungAt_28, gG2_0, gG2_1, gG2_2, gG2_3, gG2_4, gG2_5, gG2_6, gG2_7, gG2_8, gG2_9, gG2_10, gG2_11, gP2_0, gP2_1, gP2_2, gP2_3, gP2_4, gP2_5, gP2_6, gP2_7, gP2_8, gP2_9, gP2_10, gP2_11, zpush_v, zpush_n, gCk, gAi, gSi, gLi, gLq, ↓if_pos, ↓if_neg, c, hn, e, hy, e2, sungP]
      simp [bI, c2]
theorem l_X2_countSungAt (hf : fLook h k S ln o) (hw : WfS S) (hok : WfL ln) (time : Int32) (Q : Option Value → Hp → Prop) : ∀ (m i : Nat), m + i = (rdL S ln).2.1.length →
    WP 20 4 [some (.ref k), some (.int time), some (.int (nI (cntU ln.1 (rdL S ln) time i))), some (.int (nI i))] [] h Q = Q (some (.int (nI (cntU ln.1 (rdL S ln) time (rdL S ln).2.1.length)))) h := by
  have c := hf.cell.1
  have hr := (rdL_ok hw hok).1
  intro m
  induction m with
  | zero =>
    intro i hi
    have hi : i = (rdL S ln).2.1.length := by omega
    subst hi
    rw [sX2_countSungAt_4]
    simp (disch := (first | omega | assumption | (simp (disch := omega) only [Int32.lt_iff_toInt_lt, Int32.le_iff_toInt_le, ← Int32.toInt_inj, nI_toInt, zi_m1, zi_m2, zi_m3, zi_m9]; omega) | decide)) only [sX2_countSungAt_0, sX2_countSungAt_1i, sX2_countSungAt_1r, sX2_countSungAt_1z, sX2_countSungAt_1o, sX2_countSungAt_2, sX2_countSungAt_3i, sX2_countSungAt_3r, sX2_countSungAt_3z, sX2_countSungAt_3o, sX2_countSungAt_5, sX2_countSungAt_6, sX2_countSungAt_9, sX2_countSungAt_12, sX2_countSungAt_13, sX2_countSungAt_14, sX2_countSungAt_15, sX2_countSungAt_18, sX2_countSungAt_21i, sX2_countSungAt_21r, sX2_countSungAt_21z, sX2_countSungAt_21o, sX2_countSungAt_24i, sX2_countSungAt_24r, sX2_countSungAt_24z, sX2_countSungAt_24o, sX2_countSungAt_27, sX2_countSungAt_30, sX2_countSungAt_31, gG2_0, gG2_1, gG2_2, gG2_3, gG2_4, gG2_5, gG2_6, gG2_7, gG2_8, gG2_9, gG2_10, gG2_11, gP2_0, gP2_1, gP2_2, gP2_3, gP2_4, gP2_5, gP2_6, gP2_7, gP2_8, gP2_9, gP2_10, gP2_11, zpush_v, zpush_n, gCk, gAi, gSi, gLi, gLq, ↓if_pos, ↓if_neg, c]
  | succ m ih =>
    intro i hi
    obtain ⟨x, hx⟩ : ∃ x, (rdL S ln).2.1[i]? = some x := ⟨(rdL S ln).2.1[i], List.getElem?_eq_getElem (by omega)⟩
    have hl := cntU_le ln.1 (rdL S ln) time i
    rw [← ih (i + 1) (by omega), sX2_countSungAt_4]
    by_cases hs : sungP ln.1 (rdL S ln).2.2 x.2.2 time = true
    · simp (disch := (first | omega | assumption | (simp (disch := omega) only [Int32.lt_iff_toInt_lt, Int32.le_iff_toInt_le, ← Int32.toInt_inj, nI_toInt, zi_m1, zi_m2, zi_m3, zi_m9]; omega) | decide)) only [sX2_countSungAt_0, sX2_countSungAt_1i, sX2_countSungAt_1r, sX2_countSungAt_1z, sX2_countSungAt_1o, sX2_countSungAt_2, sX2_countSungAt_3i, sX2_countSungAt_3r, sX2_countSungAt_3z, sX2_countSungAt_3o, sX2_countSungAt_5, sX2_countSungAt_6, sX2_countSungAt_9, sX2_countSungAt_12, sX2_countSungAt_13, sX2_countSungAt_14, sX2_countSungAt_15, sX2_countSungAt_18, sX2_countSungAt_21i, sX2_countSungAt_21r, sX2_countSungAt_21z, sX2_countSungAt_21o, sX2_countSungAt_24i, sX2_countSungAt_24r, sX2_countSungAt_24z, sX2_countSungAt_24o, sX2_countSungAt_27, sX2_countSungAt_30, sX2_countSungAt_31, gG2_0, gG2_1, gG2_2, gG2_3, gG2_4, gG2_5, gG2_6, gG2_7, gG2_8, gG2_9, gG2_10, gG2_11, gP2_0, gP2_1, gP2_2, gP2_3, gP2_4, gP2_5, gP2_6, gP2_7, gP2_8, gP2_9, gP2_10, gP2_11, zpush_v, zpush_n, gCk, gAi, gSi, gLi, gLq, ↓if_pos, ↓if_neg, c, m_X2_isSungAt hf hw hok hx, hs, bI, nI_add]
      simp only [cntU, hx, hs, if_true]
    · simp (disch := (first | omega | assumption | (simp (disch := omega) only [Int32.lt_iff_toInt_lt, Int32.le_iff_toInt_le, ← Int32.toInt_inj, nI_toInt, zi_m1, zi_m2, zi_m3, zi_m9]; omega) | decide)) only [sX2_countSungAt_0, sX2_countSungAt_1i, sX2_countSungAt_1r, sX2_countSungAt_1z, sX2_countSungAt_1o, sX2_countSungAt_2, sX2_countSungAt_3i, sX2_countSungAt_3r, sX2_countSungAt_3z, sX2_countSungAt_3o, sX2_countSungAt_5, sX2_countSungAt_6, sX2_countSungAt_9, sX2_countSungAt_12, sX2_countSungAt_13, sX2_countSungAt_14, sX2_countSungAt_15, sX2_countSungAt_18, sX2_countSungAt_21i, sX2_countSungAt_21r, sX2_countSungAt_21z, sX2_countSungAt_21o, sX2_countSungAt_24i, sX2_countSungAt_24r, sX2_countSungAt_24z, sX2_countSungAt_24o, sX2_countSungAt_27, sX2_countSungAt_30, sX2_countSungAt_31, gG2_0, gG2_1, gG2_2, gG2_3, gG2_4, gG2_5, gG2_6, gG2_7, gG2_8, gG2_9, gG2_10, gG2_11, gP2_0, gP2_1, gP2_2, gP2_3, gP2_4, gP2_5, gP2_6, gP2_7, gP2_8, gP2_9, gP2_10, gP2_11, zpush_v, zpush_n, gCk, gAi, gSi, gLi, gLq, ↓if_pos, ↓if_neg, c, m_X2_isSungAt hf hw hok hx, hs, bI, nI_add]
      simp only [cntU, hx, hs, if_false, Nat.add_zero]
      rfl
theorem m_X2_countSungAt (hf : fLook h k S ln o) (hw : WfS S) (hok : WfL ln) (time : Int32) (Q : Option Value → Hp → Prop) : WPm 20 [.ref k, .int time] h Q = Q (some (.int (nI (cntU ln.1 (rdL S ln) time (rdL S ln).2.1.length)))) h := by
  rw [eX2_countSungAt]
  simp (disch := (first | omega | assumption | (simp (disch := omega) only [Int32.lt_iff_toInt_lt, Int32.le_iff_toInt_le, ← Int32.toInt_inj, nI_toInt, zi_m1, zi_m2, zi_m3, zi_m9]; omega) | decide)) only [sX2_countSungAt_0, sX2_countSungAt_1i, sX2_countSungAt_1r, sX2_countSungAt_1z, sX2_countSungAt_1o, sX2_countSungAt_2, sX2_countSungAt_3i, sX2_countSungAt_3r, sX2_countSungAt_3z, sX2_countSungAt_3o]
  exact l_X2_countSungAt hf hw hok time Q _ 0 rfl
theorem valS_flat {S : Sh} (p : Nat) (o : Option Nat) : valS (flatS S) p o = valS S p o := by
  cases o with
  | none => rfl
  | some s =>
    by_cases hs : s < S.1
    · exact valS_own (S := flatS S) hs rfl
    · rw [valS_out hs]
      exact valS_out (S := flatS S) hs
theorem rdL_flat (S : Sh) (ln : Ln) : rdL (flatS S) ln = rdL S ln := by
  have e : valS (flatS S) = valS S := by
    funext p o
    exact valS_flat p o
  have e1 : runI (flatS S) ln.2.2.1 = runI S ln.2.2.1 := by
    funext r x
    cases x with
    | inl c => rfl
    | inr y => obtain ⟨l, o⟩ := y; simp only [runI, e]
  unfold rdL runL
  rw [e1]
  simp only [rd0, e]
theorem l_X2_isUnlike {k2 : Nat} {S2 : Sh} {o2 : Int32} (hf : fLook h k S ln o) (hf2 : fLook h k2 S2 ln o2) (hw : WfS S) (hw2 : WfS S2) (hok : WfL ln) (he : rdL S2 ln = rdL S ln) {i : Nat} {x : Sgn} (hi : (rdL S ln).2.1[i]? = some x) (Q : Option Value → Hp → Prop) : ∀ (m p : Nat) (l : Option Value), m + p = 4 →
    WP 22 2 [some (.ref k), some (.int (nI i)), some (.ref k2), some (.int (nI p)), l] [] h Q = Q (some (.int (nI 0))) h := by
  have c := hf.cell.1
  have c2 := hf2.cell.1
  have hi2 : (rdL S2 ln).2.1[i]? = some x := by rw [he]; exact hi
  intro m
  induction m with
  | zero =>
    intro p l hp
    rw [sX2_isUnlike_2]
    simp (disch := (first | omega | assumption | (simp (disch := omega) only [Int32.lt_iff_toInt_lt, Int32.le_iff_toInt_le, ← Int32.toInt_inj, nI_toInt, zi_m1, zi_m2, zi_m3, zi_m9]; omega) | decide)) only [sX2_isUnlike_0, sX2_isUnlike_1i, sX2_isUnlike_1r, sX2_isUnlike_1z, sX2_isUnlike_1o, sX2_isUnlike_3, sX2_isUnlike_4, sX2_isUnlike_7, sX2_isUnlike_8, sX2_isUnlike_9, sX2_isUnlike_10i, sX2_isUnlike_10r, sX2_isUnlike_10z, sX2_isUnlike_10o, sX2_isUnlike_12, sX2_isUnlike_13, sX2_isUnlike_14, sX2_isUnlike_16, sX2_isUnlike_19, sX2_isUnlike_19n, sX2_isUnlike_20, sX2_isUnlike_21, sX2_isUnlike_23, sX2_isUnlike_26, sX2_isUnlike_29, sX2_isUnlike_30, sX2_isUnlike_31i, sX2_isUnlike_31r, sX2_isUnlike_31z, sX2_isUnlike_31o, sX2_isUnlike_34, sX2_isUnlike_37, sX2_isUnlike_38, gG2_0, gG2_1, gG2_2, gG2_3, gG2_4, gG2_5, gG2_6, gG2_7, gG2_8, gG2_9, gG2_10, gG2_11, gP2_0, gP2_1, gP2_2, gP2_3, gP2_4, gP2_5, gP2_6, gP2_7, gP2_8, gP2_9, gP2_10, gP2_11, zpush_v, zpush_n, gCk, gAi, gSi, gLi, gLq, ↓if_pos, ↓if_neg]
  | succ m ih =>
    intro p l hp
    rw [sX2_isUnlike_2]
    simp (disch := (first | omega | assumption | (simp (disch := omega) only [Int32.lt_iff_toInt_lt, Int32.le_iff_toInt_le, ← Int32.toInt_inj, nI_toInt, zi_m1, zi_m2, zi_m3, zi_m9]; omega) | decide)) only [sX2_isUnlike_0, sX2_isUnlike_1i, sX2_isUnlike_1r, sX2_isUnlike_1z, sX2_isUnlike_1o, sX2_isUnlike_3, sX2_isUnlike_4, sX2_isUnlike_7, sX2_isUnlike_8, sX2_isUnlike_9, sX2_isUnlike_10i, sX2_isUnlike_10r, sX2_isUnlike_10z, sX2_isUnlike_10o, sX2_isUnlike_12, sX2_isUnlike_13, sX2_isUnlike_14, sX2_isUnlike_16, sX2_isUnlike_19, sX2_isUnlike_19n, sX2_isUnlike_20, sX2_isUnlike_21, sX2_isUnlike_23, sX2_isUnlike_26, sX2_isUnlike_29, sX2_isUnlike_30, sX2_isUnlike_31i, sX2_isUnlike_31r, sX2_isUnlike_31z, sX2_isUnlike_31o, sX2_isUnlike_34, sX2_isUnlike_37, sX2_isUnlike_38, gG2_0, gG2_1, gG2_2, gG2_3, gG2_4, gG2_5, gG2_6, gG2_7, gG2_8, gG2_9, gG2_10, gG2_11, gP2_0, gP2_1, gP2_2, gP2_3, gP2_4, gP2_5, gP2_6, gP2_7, gP2_8, gP2_9, gP2_10, gP2_11, zpush_v, zpush_n, gCk, gAi, gSi, gLi, gLq, ↓if_pos, ↓if_neg, c, c2, nI_add, m_X2_signNumber hf hw hok hi, m_X2_signNumber hf2 hw2 hok hi2]
    exact ih _ _ (by omega)
theorem m_X2_isUnlike {k2 : Nat} {S2 : Sh} {o2 : Int32} (hf : fLook h k S ln o) (hf2 : fLook h k2 S2 ln o2) (hw : WfS S) (hw2 : WfS S2) (hok : WfL ln) (he : rdL S2 ln = rdL S ln) {i : Nat} {x : Sgn} (hi : (rdL S ln).2.1[i]? = some x) (Q : Option Value → Hp → Prop) : WPm 22 [.ref k, .int (nI i), .ref k2] h Q = Q (some (.int (nI 0))) h := by
  rw [eX2_isUnlike]
  simp (disch := (first | omega | assumption | (simp (disch := omega) only [Int32.lt_iff_toInt_lt, Int32.le_iff_toInt_le, ← Int32.toInt_inj, nI_toInt, zi_m1, zi_m2, zi_m3, zi_m9]; omega) | decide)) only [sX2_isUnlike_0, sX2_isUnlike_1i, sX2_isUnlike_1r, sX2_isUnlike_1z, sX2_isUnlike_1o]
  exact l_X2_isUnlike hf hf2 hw hw2 hok he hi Q 4 0 _ (by omega)
theorem l_X2_countUnlike {k2 : Nat} {S2 : Sh} {o2 : Int32} (hf : fLook h k S ln o) (hf2 : fLook h k2 S2 ln o2) (hw : WfS S) (hw2 : WfS S2) (hok : WfL ln) (he : rdL S2 ln = rdL S ln) (Q : Option Value → Hp → Prop) : ∀ (m i : Nat), m + i = (rdL S ln).2.1.length →
    WP 21 4 [some (.ref k), some (.ref k2), some (.int (nI 0)), some (.int (nI i))] [] h Q = Q (some (.int (nI 0))) h := by
  have c := hf.cell.1
  have hr := (rdL_ok hw hok).1
  intro m
  induction m with
  | zero =>
    intro i hi
    have hi : i = (rdL S ln).2.1.length := by omega
    subst hi
    rw [sX2_countUnlike_4]
    simp (disch := (first | omega | assumption | (simp (disch := omega) only [Int32.lt_iff_toInt_lt, Int32.le_iff_toInt_le, ← Int32.toInt_inj, nI_toInt, zi_m1, zi_m2, zi_m3, zi_m9]; omega) | decide)) only [sX2_countUnlike_0, sX2_countUnlike_1i, sX2_countUnlike_1r, sX2_countUnlike_1z, sX2_countUnlike_1o, sX2_countUnlike_2, sX2_countUnlike_3i, sX2_countUnlike_3r, sX2_countUnlike_3z, sX2_countUnlike_3o, sX2_countUnlike_5, sX2_countUnlike_6, sX2_countUnlike_9, sX2_countUnlike_12, sX2_countUnlike_13, sX2_countUnlike_14, sX2_countUnlike_14n, sX2_countUnlike_15, sX2_countUnlike_18, sX2_countUnlike_21i, sX2_countUnlike_21r, sX2_countUnlike_21z, sX2_countUnlike_21o, sX2_countUnlike_24i, sX2_countUnlike_24r, sX2_countUnlike_24z, sX2_countUnlike_24o, sX2_countUnlike_27, sX2_countUnlike_30, sX2_countUnlike_31, gG2_0, gG2_1, gG2_2, gG2_3, gG2_4, gG2_5, gG2_6, gG2_7, gG2_8, gG2_9, gG2_10, gG2_11, gP2_0, gP2_1, gP2_2, gP2_3, gP2_4, gP2_5, gP2_6, gP2_7, gP2_8, gP2_9, gP2_10, gP2_11, zpush_v, zpush_n, gCk, gAi, gSi, gLi, gLq, ↓if_pos, ↓if_neg, c]
  | succ m ih =>
    intro i hi
    obtain ⟨x, hx⟩ : ∃ x, (rdL S ln).2.1[i]? = some x := ⟨(rdL S ln).2.1[i], List.getElem?_eq_getElem (by omega)⟩
    rw [← ih (i + 1) (by omega), sX2_countUnlike_4]
    simp (disch := (first | omega | assumption | (simp (disch := omega) only [Int32.lt_iff_toInt_lt, Int32.le_iff_toInt_le, ← Int32.toInt_inj, nI_toInt, zi_m1, zi_m2, zi_m3, zi_m9]; omega) | decide)) only [sX2_countUnlike_0, sX2_countUnlike_1i, sX2_countUnlike_1r, sX2_countUnlike_1z, sX2_countUnlike_1o, sX2_countUnlike_2, sX2_countUnlike_3i, sX2_countUnlike_3r, sX2_countUnlike_3z, sX2_countUnlike_3o, sX2_countUnlike_5, sX2_countUnlike_6, sX2_countUnlike_9, sX2_countUnlike_12, sX2_countUnlike_13, sX2_countUnlike_14, sX2_countUnlike_14n, sX2_countUnlike_15, sX2_countUnlike_18, sX2_countUnlike_21i, sX2_countUnlike_21r, sX2_countUnlike_21z, sX2_countUnlike_21o, sX2_countUnlike_24i, sX2_countUnlike_24r, sX2_countUnlike_24z, sX2_countUnlike_24o, sX2_countUnlike_27, sX2_countUnlike_30, sX2_countUnlike_31, gG2_0, gG2_1, gG2_2, gG2_3, gG2_4, gG2_5, gG2_6, gG2_7, gG2_8, gG2_9, gG2_10, gG2_11, gP2_0, gP2_1, gP2_2, gP2_3, gP2_4, gP2_5, gP2_6, gP2_7, gP2_8, gP2_9, gP2_10, gP2_11, zpush_v, zpush_n, gCk, gAi, gSi, gLi, gLq, ↓if_pos, ↓if_neg, c, m_X2_isUnlike hf hf2 hw hw2 hok he hx, nI_add]
theorem m_X2_countUnlike {k2 : Nat} {S2 : Sh} {o2 : Int32} (hf : fLook h k S ln o) (hf2 : fLook h k2 S2 ln o2) (hw : WfS S) (hw2 : WfS S2) (hok : WfL ln) (he : rdL S2 ln = rdL S ln) (Q : Option Value → Hp → Prop) : WPm 21 [.ref k, .ref k2] h Q = Q (some (.int (nI 0))) h := by
  rw [eX2_countUnlike]
  simp (disch := (first | omega | assumption | (simp (disch := omega) only [Int32.lt_iff_toInt_lt, Int32.le_iff_toInt_le, ← Int32.toInt_inj, nI_toInt, zi_m1, zi_m2, zi_m3, zi_m9]; omega) | decide)) only [sX2_countUnlike_0, sX2_countUnlike_1i, sX2_countUnlike_1r, sX2_countUnlike_1z, sX2_countUnlike_1o, sX2_countUnlike_2, sX2_countUnlike_3i, sX2_countUnlike_3r, sX2_countUnlike_3z, sX2_countUnlike_3o]
  exact l_X2_countUnlike hf hf2 hw hw2 hok he Q _ 0 rfl
end LQ
