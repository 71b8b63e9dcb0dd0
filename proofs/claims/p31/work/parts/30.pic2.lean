/-! Picture: what is asked of it -/
section PK
variable {h : Hp} {P : Nat} {S : Sh} {L : List Ln} {off : Nat → Nat}
theorem bI_t {p : Prop} [Decidable p] (h : p) : bI p = nI 1 := if_pos h
theorem bI_f {p : Prop} [Decidable p] (h : ¬ p) : bI p = nI 0 := if_neg h
def cSh (L : List Ln) (time : Int32) : Nat → Nat
  | 0 => 0
  | i + 1 => cSh L time i + (if shownP (lnA L i) time = true then 1 else 0)
theorem cSh_le (time : Int32) : ∀ i, cSh L time i ≤ i := by
  intro i
  induction i with
  | zero => exact Nat.le_refl 0
  | succ i ih =>
    simp only [cSh]
    split <;> omega
/-- the order in which lines are told -/
abbrev pBf (S : Sh) (L : List Ln) (off : Nat → Nat) (i j : Nat) : Prop := valS S 4 (lnA L i).2.2.1 < valS S 4 (lnA L j).2.2.1 ∨ (valS S 4 (lnA L i).2.2.1 = valS S 4 (lnA L j).2.2.1 ∧ (off i < off j ∨ (off i = off j ∧ i < j)))
def cAh (S : Sh) (L : List Ln) (off : Nat → Nat) (line : Nat) (time : Int32) : Nat → Nat
  | 0 => 0
  | i + 1 => cAh S L off line time i + (if (¬ i = line ∧ shownP (lnA L i) time = true) ∧ pBf S L off i line then 1 else 0)
theorem cAh_le (line : Nat) (time : Int32) : ∀ i, cAh S L off line time i ≤ i := by
  intro i
  induction i with
  | zero => exact Nat.le_refl 0
  | succ i ih =>
    simp only [cAh]
    split <;> omega
theorem m_X3_isShownAtT (hR : rPic h P S L off) (hL : WfLs L) {i : Nat} (hi : i < L.length) (time : Int32) (Q : Option Value → Hp → Prop) : WPm 31 [.ref P, .int (nI i), .int time] h Q = Q (some (.int (bI (shownP (lnA L i) time = true)))) h := by
  obtain ⟨⟨g, hO⟩, hK, -⟩ := hR
  have c := (hK i hi).cell.1
  have sh := m_X2_isShownAt (hK i hi) time
  rw [eX3_isShownAt]
  by_cases hb : shownP (lnA L i) time = true
  · rw [bI_t hb] at sh ⊢
    simp (disch := (first | omega | assumption | (simp (disch := omega) only [Int32.lt_iff_toInt_lt, Int32.le_iff_toInt_le, ← Int32.toInt_inj, nI_toInt, zi_m1, zi_m2, zi_m3, zi_m9]; omega) | decide)) only [sX3_isShownAt_0, sX3_isShownAt_1, sX3_isShownAt_2, sX3_isShownAt_5i, sX3_isShownAt_5iN, sX3_isShownAt_5r, sX3_isShownAt_5rN, sX3_isShownAt_5z, sX3_isShownAt_5zN, sX3_isShownAt_5o, sX3_isShownAt_5oN, sX3_isShownAt_6, sX3_isShownAt_6n, sX3_isShownAt_7, sX3_isShownAt_7n, sX3_isShownAt_10, sX3_isShownAt_10n, sX3_isShownAt_11, sX3_isShownAt_12, sX3_isShownAt_15, sX3_isShownAt_18, sX3_isShownAt_19, sX3_isShownAt_22, sX3_isShownAt_23, gG2_0, gG2_1, gG2_2, gG2_3, gG2_4, gG2_5, gG2_6, gG2_7, gG2_8, gG2_9, gG2_10, gG2_11, gP2_0, gP2_1, gP2_2, gP2_3, gP2_4, gP2_5, gP2_6, gP2_7, gP2_8, gP2_9, gP2_10, gP2_11, gG3_0, gG3_1, gG3_2, gP3_0, gP3_1, gP3_2, zpush_v, zpush_n, gCk, gAi, gSi, gLi, gLq, ↓if_pos, ↓if_neg, hO.1, m_X3_lookAtT hO hL.1 hi, c, sh]
  · rw [bI_f hb] at sh ⊢
    simp (disch := (first | omega | assumption | (simp (disch := omega) only [Int32.lt_iff_toInt_lt, Int32.le_iff_toInt_le, ← Int32.toInt_inj, nI_toInt, zi_m1, zi_m2, zi_m3, zi_m9]; omega) | decide)) only [sX3_isShownAt_0, sX3_isShownAt_1, sX3_isShownAt_2, sX3_isShownAt_5i, sX3_isShownAt_5iN, sX3_isShownAt_5r, sX3_isShownAt_5rN, sX3_isShownAt_5z, sX3_isShownAt_5zN, sX3_isShownAt_5o, sX3_isShownAt_5oN, sX3_isShownAt_6, sX3_isShownAt_6n, sX3_isShownAt_7, sX3_isShownAt_7n, sX3_isShownAt_10, sX3_isShownAt_10n, sX3_isShownAt_11, sX3_isShownAt_12, sX3_isShownAt_15, sX3_isShownAt_18, sX3_isShownAt_19, sX3_isShownAt_22, sX3_isShownAt_23, gG2_0, gG2_1, gG2_2, gG2_3, gG2_4, gG2_5, gG2_6, gG2_7, gG2_8, gG2_9, gG2_10, gG2_11, gP2_0, gP2_1, gP2_2, gP2_3, gP2_4, gP2_5, gP2_6, gP2_7, gP2_8, gP2_9, gP2_10, gP2_11, gG3_0, gG3_1, gG3_2, gP3_0, gP3_1, gP3_2, zpush_v, zpush_n, gCk, gAi, gSi, gLi, gLq, ↓if_pos, ↓if_neg, hO.1, m_X3_lookAtT hO hL.1 hi, c, sh]
theorem l_X3_countShown (hR : rPic h P S L off) (hL : WfLs L) (time : Int32) (Q : Option Value → Hp → Prop) : ∀ (m i : Nat), m + i = L.length →
    WP 32 4 [some (.ref P), some (.int time), some (.int (nI (cSh L time i))), some (.int (nI i))] [] h Q = Q (some (.int (nI (cSh L time L.length)))) h := by
  have h16 := hL.1
  obtain ⟨⟨g, hO⟩, -⟩ := id hR
  intro m
  induction m with
  | zero =>
    intro i hi
    have hi : i = L.length := by omega
    subst hi
    rw [sX3_countShownAt_4]
    simp (disch := (first | omega | assumption | (simp (disch := omega) only [Int32.lt_iff_toInt_lt, Int32.le_iff_toInt_le, ← Int32.toInt_inj, nI_toInt, zi_m1, zi_m2, zi_m3, zi_m9]; omega) | decide)) only [sX3_countShownAt_0, sX3_countShownAt_1i, sX3_countShownAt_1r, sX3_countShownAt_1z, sX3_countShownAt_1o, sX3_countShownAt_2, sX3_countShownAt_3i, sX3_countShownAt_3r, sX3_countShownAt_3z, sX3_countShownAt_3o, sX3_countShownAt_5, sX3_countShownAt_6, sX3_countShownAt_9, sX3_countShownAt_12, sX3_countShownAt_13, sX3_countShownAt_14, sX3_countShownAt_15, sX3_countShownAt_18, sX3_countShownAt_21i, sX3_countShownAt_21r, sX3_countShownAt_21z, sX3_countShownAt_21o, sX3_countShownAt_24i, sX3_countShownAt_24r, sX3_countShownAt_24z, sX3_countShownAt_24o, sX3_countShownAt_27, sX3_countShownAt_30, sX3_countShownAt_31, gG3_0, gG3_1, gG3_2, gP3_0, gP3_1, gP3_2, zpush_v, zpush_n, gCk, gAi, gSi, gLi, gLq, ↓if_pos, ↓if_neg, hO.1]
  | succ m ih =>
    intro i hi
    have := cSh_le (L := L) time i
    have sh := m_X3_isShownAtT hR hL (show i < L.length by omega) time
    rw [← ih (i + 1) (by omega), sX3_countShownAt_4]
    by_cases hb : shownP (lnA L i) time = true
    · rw [bI_t hb] at sh
      simp (disch := (first | omega | assumption | (simp (disch := omega) only [Int32.lt_iff_toInt_lt, Int32.le_iff_toInt_le, ← Int32.toInt_inj, nI_toInt, zi_m1, zi_m2, zi_m3, zi_m9]; omega) | decide)) only [sX3_countShownAt_0, sX3_countShownAt_1i, sX3_countShownAt_1r, sX3_countShownAt_1z, sX3_countShownAt_1o, sX3_countShownAt_2, sX3_countShownAt_3i, sX3_countShownAt_3r, sX3_countShownAt_3z, sX3_countShownAt_3o, sX3_countShownAt_5, sX3_countShownAt_6, sX3_countShownAt_9, sX3_countShownAt_12, sX3_countShownAt_13, sX3_countShownAt_14, sX3_countShownAt_15, sX3_countShownAt_18, sX3_countShownAt_21i, sX3_countShownAt_21r, sX3_countShownAt_21z, sX3_countShownAt_21o, sX3_countShownAt_24i, sX3_countShownAt_24r, sX3_countShownAt_24z, sX3_countShownAt_24o, sX3_countShownAt_27, sX3_countShownAt_30, sX3_countShownAt_31, gG3_0, gG3_1, gG3_2, gP3_0, gP3_1, gP3_2, zpush_v, zpush_n, gCk, gAi, gSi, gLi, gLq, ↓if_pos, ↓if_neg, hO.1, sh, nI_add, cSh]
    · rw [bI_f hb] at sh
      simp (disch := (first | omega | assumption | (simp (disch := omega) only [Int32.lt_iff_toInt_lt, Int32.le_iff_toInt_le, ← Int32.toInt_inj, nI_toInt, zi_m1, zi_m2, zi_m3, zi_m9]; omega) | decide)) only [sX3_countShownAt_0, sX3_countShownAt_1i, sX3_countShownAt_1r, sX3_countShownAt_1z, sX3_countShownAt_1o, sX3_countShownAt_2, sX3_countShownAt_3i, sX3_countShownAt_3r, sX3_countShownAt_3z, sX3_countShownAt_3o, sX3_countShownAt_5, sX3_countShownAt_6, sX3_countShownAt_9, sX3_countShownAt_12, sX3_countShownAt_13, sX3_countShownAt_14, sX3_countShownAt_15, sX3_countShownAt_18, sX3_countShownAt_21i, sX3_countShownAt_21r, sX3_countShownAt_21z, sX3_countShownAt_21o, sX3_countShownAt_24i, sX3_countShownAt_24r, sX3_countShownAt_24z, sX3_countShownAt_24o, sX3_countShownAt_27, sX3_countShownAt_30, sX3_countShownAt_31, gG3_0, gG3_1, gG3_2, gP3_0, gP3_1, gP3_2, zpush_v, zpush_n, gCk, gAi, gSi, gLi, gLq, ↓if_pos, ↓if_neg, hO.1, sh, nI_add, cSh, Nat.add_zero]
theorem m_X3_countShown (hR : rPic h P S L off) (hL : WfLs L) (time : Int32) (Q : Option Value → Hp → Prop) : WPm 32 [.ref P, .int time] h Q = Q (some (.int (nI (cSh L time L.length)))) h := by
  rw [eX3_countShownAt]
  simp (disch := (first | omega | assumption | (simp (disch := omega) only [Int32.lt_iff_toInt_lt, Int32.le_iff_toInt_le, ← Int32.toInt_inj, nI_toInt, zi_m1, zi_m2, zi_m3, zi_m9]; omega) | decide)) only [sX3_countShownAt_0, sX3_countShownAt_1i, sX3_countShownAt_1r, sX3_countShownAt_1z, sX3_countShownAt_1o, sX3_countShownAt_2, sX3_countShownAt_3i, sX3_countShownAt_3r, sX3_countShownAt_3z, sX3_countShownAt_3o]
  exact l_X3_countShown hR hL time Q _ 0 rfl
theorem m_X3_comesBefore (hR : rPic h P S L off) (hw : WfS S) (hL : WfLs L) {i j : Nat} (hi : i < L.length) (hj : j < L.length) (Q : Option Value → Hp → Prop) : WPm 34 [.ref P, .int (nI i), .int (nI j)] h Q = Q (some (.int (bI (pBf S L off i j)))) h := by
  have h16 := hL.1
  obtain ⟨⟨g, hO⟩, hK, -, -, hM⟩ := id hR
  have ci := (hK i hi).cell.1
  have cj := (hK j hj).cell.1
  have mi := hM i hi
  have mj := hM j hj
  have a1 := m_X2_isAheadOf (hK i hi) (hK j hj) hw (by omega) (by omega)
  have a2 := m_X2_isAheadOf (hK j hj) (hK i hi) hw (by omega) (by omega)
  rw [eX3_comesBefore]
  by_cases d1 : pAh (valS S 4 (lnA L i).2.2.1) (off i) (valS S 4 (lnA L j).2.2.1) (off j)
  · rw [bI_t d1] at a1
    rw [bI_t (show pBf S L off i j by unfold pBf; unfold pAh at d1; omega)]
    simp (disch := (first | omega | assumption | (simp (disch := omega) only [Int32.lt_iff_toInt_lt, Int32.le_iff_toInt_le, ← Int32.toInt_inj, nI_toInt, zi_m1, zi_m2, zi_m3, zi_m9]; omega) | decide)) only [sX3_comesBefore_0, sX3_comesBefore_1, sX3_comesBefore_2, sX3_comesBefore_5i, sX3_comesBefore_5iN, sX3_comesBefore_5r, sX3_comesBefore_5rN, sX3_comesBefore_5z, sX3_comesBefore_5zN, sX3_comesBefore_5o, sX3_comesBefore_5oN, sX3_comesBefore_6, sX3_comesBefore_7, sX3_comesBefore_8, sX3_comesBefore_11i, sX3_comesBefore_11iN, sX3_comesBefore_11r, sX3_comesBefore_11rN, sX3_comesBefore_11z, sX3_comesBefore_11zN, sX3_comesBefore_11o, sX3_comesBefore_11oN, sX3_comesBefore_13, sX3_comesBefore_13n, sX3_comesBefore_14, sX3_comesBefore_14n, sX3_comesBefore_17, sX3_comesBefore_17n, sX3_comesBefore_19, sX3_comesBefore_19n, sX3_comesBefore_22, sX3_comesBefore_23, sX3_comesBefore_24, sX3_comesBefore_24n, sX3_comesBefore_25, sX3_comesBefore_25n, sX3_comesBefore_27, sX3_comesBefore_30, sX3_comesBefore_33, sX3_comesBefore_33n, sX3_comesBefore_35, sX3_comesBefore_35n, sX3_comesBefore_36, sX3_comesBefore_39, sX3_comesBefore_42, sX3_comesBefore_43, sX3_comesBefore_44, sX3_comesBefore_47, sX3_comesBefore_48, sX3_comesBefore_51, sX3_comesBefore_52, gG3_0, gG3_1, gG3_2, gP3_0, gP3_1, gP3_2, gG2_0, gG2_1, gG2_2, gG2_3, gG2_4, gG2_5, gG2_6, gG2_7, gG2_8, gG2_9, gG2_10, gG2_11, gP2_0, gP2_1, gP2_2, gP2_3, gP2_4, gP2_5, gP2_6, gP2_7, gP2_8, gP2_9, gP2_10, gP2_11, zpush_v, zpush_n, gCk, gAi, gSi, gLi, gLq, ↓if_pos, ↓if_neg, hO.1, m_X3_lookAtT hO h16 hi, m_X3_lookAtT hO h16 hj, ci, cj, a1]
  · rw [bI_f d1] at a1
    by_cases d2 : pAh (valS S 4 (lnA L j).2.2.1) (off j) (valS S 4 (lnA L i).2.2.1) (off i)
    · rw [bI_t d2] at a2
      rw [bI_f (show ¬ pBf S L off i j by unfold pBf; unfold pAh at d1 d2; omega)]
      simp (disch := (first | omega | assumption | (simp (disch := omega) only [Int32.lt_iff_toInt_lt, Int32.le_iff_toInt_le, ← Int32.toInt_inj, nI_toInt, zi_m1, zi_m2, zi_m3, zi_m9]; omega) | decide)) only [sX3_comesBefore_0, sX3_comesBefore_1, sX3_comesBefore_2, sX3_comesBefore_5i, sX3_comesBefore_5iN, sX3_comesBefore_5r, sX3_comesBefore_5rN, sX3_comesBefore_5z, sX3_comesBefore_5zN, sX3_comesBefore_5o, sX3_comesBefore_5oN, sX3_comesBefore_6, sX3_comesBefore_7, sX3_comesBefore_8, sX3_comesBefore_11i, sX3_comesBefore_11iN, sX3_comesBefore_11r, sX3_comesBefore_11rN, sX3_comesBefore_11z, sX3_comesBefore_11zN, sX3_comesBefore_11o, sX3_comesBefore_11oN, sX3_comesBefore_13, sX3_comesBefore_13n, sX3_comesBefore_14, sX3_comesBefore_14n, sX3_comesBefore_17, sX3_comesBefore_17n, sX3_comesBefore_19, sX3_comesBefore_19n, sX3_comesBefore_22, sX3_comesBefore_23, sX3_comesBefore_24, sX3_comesBefore_24n, sX3_comesBefore_25, sX3_comesBefore_25n, sX3_comesBefore_27, sX3_comesBefore_30, sX3_comesBefore_33, sX3_comesBefore_33n, sX3_comesBefore_35, sX3_comesBefore_35n, sX3_comesBefore_36, sX3_comesBefore_39, sX3_comesBefore_42, sX3_comesBefore_43, sX3_comesBefore_44, sX3_comesBefore_47, sX3_comesBefore_48, sX3_comesBefore_51, sX3_comesBefore_52, gG3_0, gG3_1, gG3_2, gP3_0, gP3_1, gP3_2, gG2_0, gG2_1, gG2_2, gG2_3, gG2_4, gG2_5, gG2_6, gG2_7, gG2_8, gG2_9, gG2_10, gG2_11, gP2_0, gP2_1, gP2_2, gP2_3, gP2_4, gP2_5, gP2_6, gP2_7, gP2_8, gP2_9, gP2_10, gP2_11, zpush_v, zpush_n, gCk, gAi, gSi, gLi, gLq, ↓if_pos, ↓if_neg, hO.1, m_X3_lookAtT hO h16 hi, m_X3_lookAtT hO h16 hj, ci, cj, a1, a2]
    · rw [bI_f d2] at a2
      by_cases d3 : i < j
      · rw [bI_t (show pBf S L off i j by unfold pBf; unfold pAh at d1 d2; omega)]
        simp (disch := (first | omega | assumption | (simp (disch := omega) only [Int32.lt_iff_toInt_lt, Int32.le_iff_toInt_le, ← Int32.toInt_inj, nI_toInt, zi_m1, zi_m2, zi_m3, zi_m9]; omega) | decide)) only [sX3_comesBefore_0, sX3_comesBefore_1, sX3_comesBefore_2, sX3_comesBefore_5i, sX3_comesBefore_5iN, sX3_comesBefore_5r, sX3_comesBefore_5rN, sX3_comesBefore_5z, sX3_comesBefore_5zN, sX3_comesBefore_5o, sX3_comesBefore_5oN, sX3_comesBefore_6, sX3_comesBefore_7, sX3_comesBefore_8, sX3_comesBefore_11i, sX3_comesBefore_11iN, sX3_comesBefore_11r, sX3_comesBefore_11rN, sX3_comesBefore_11z, sX3_comesBefore_11zN, sX3_comesBefore_11o, sX3_comesBefore_11oN, sX3_comesBefore_13, sX3_comesBefore_13n, sX3_comesBefore_14, sX3_comesBefore_14n, sX3_comesBefore_17, sX3_comesBefore_17n, sX3_comesBefore_19, sX3_comesBefore_19n, sX3_comesBefore_22, sX3_comesBefore_23, sX3_comesBefore_24, sX3_comesBefore_24n, sX3_comesBefore_25, sX3_comesBefore_25n, sX3_comesBefore_27, sX3_comesBefore_30, sX3_comesBefore_33, sX3_comesBefore_33n, sX3_comesBefore_35, sX3_comesBefore_35n, sX3_comesBefore_36, sX3_comesBefore_39, sX3_comesBefore_42, sX3_comesBefore_43, sX3_comesBefore_44, sX3_comesBefore_47, sX3_comesBefore_48, sX3_comesBefore_51, sX3_comesBefore_52, gG3_0, gG3_1, gG3_2, gP3_0, gP3_1, gP3_2, gG2_0, gG2_1, gG2_2, gG2_3, gG2_4, gG2_5, gG2_6, gG2_7, gG2_8, gG2_9, gG2_10, gG2_11, gP2_0, gP2_1, gP2_2, gP2_3, gP2_4, gP2_5, gP2_6, gP2_7, gP2_8, gP2_9, gP2_10, gP2_11, zpush_v, zpush_n, gCk, gAi, gSi, gLi, gLq, ↓if_pos, ↓if_neg, hO.1, m_X3_lookAtT hO h16 hi, m_X3_lookAtT hO h16 hj, ci, cj, a1, a2]
      · rw [bI_f (show ¬ pBf S L off i j by unfold pBf; unfold pAh at d1 d2; omega)]
        simp (disch := (first | omega | assumption | (simp (disch := omega) only [Int32.lt_iff_toInt_lt, Int32.le_iff_toInt_le, ← Int32.toInt_inj, nI_toInt, zi_m1, zi_m2, zi_m3, zi_m9]; omega) | decide)) only [sX3_comesBefore_0, sX3_comesBefore_1, sX3_comesBefore_2, sX3_comesBefore_5i, sX3_comesBefore_5iN, sX3_comesBefore_5r, sX3_comesBefore_5rN, sX3_comesBefore_5z, sX3_comesBefore_5zN, sX3_comesBefore_5o, sX3_comesBefore_5oN, sX3_comesBefore_6, sX3_comesBefore_7, sX3_comesBefore_8, sX3_comesBefore_11i, sX3_comesBefore_11iN, sX3_comesBefore_11r, sX3_comesBefore_11rN, sX3_comesBefore_11z, sX3_comesBefore_11zN, sX3_comesBefore_11o, sX3_comesBefore_11oN, sX3_comesBefore_13, sX3_comesBefore_13n, sX3_comesBefore_14, sX3_comesBefore_14n, sX3_comesBefore_17, sX3_comesBefore_17n, sX3_comesBefore_19, sX3_comesBefore_19n, sX3_comesBefore_22, sX3_comesBefore_23, sX3_comesBefore_24, sX3_comesBefore_24n, sX3_comesBefore_25, sX3_comesBefore_25n, sX3_comesBefore_27, sX3_comesBefore_30, sX3_comesBefore_33, sX3_comesBefore_33n, sX3_comesBefore_35, sX3_comesBefore_35n, sX3_comesBefore_36, sX3_comesBefore_39, sX3_comesBefore_42, sX3_comesBefore_43, sX3_comesBefore_44, sX3_comesBefore_47, sX3_comesBefore_48, sX3_comesBefore_51, sX3_comesBefore_52, gG3_0, gG3_1, gG3_2, gP3_0, gP3_1, gP3_2, gG2_0, gG2_1, gG2_2, gG2_3, gG2_4, gG2_5, gG2_6, gG2_7, gG2_8, gG2_9, gG2_10, gG2_11, gP2_0, gP2_1, gP2_2, gP2_3, gP2_4, gP2_5, gP2_6, gP2_7, gP2_8, gP2_9, gP2_10, gP2_11, zpush_v, zpush_n, gCk, gAi, gSi, gLi, gLq, ↓if_pos, ↓if_neg, hO.1, m_X3_lookAtT hO h16 hi, m_X3_lookAtT hO h16 hj, ci, cj, a1, a2]
theorem l_X3_countAhead (hR : rPic h P S L off) (hw : WfS S) (hL : WfLs L) {line : Nat} (hl : line < L.length) (time : Int32) (Q : Option Value → Hp → Prop) : ∀ (m i : Nat), m + i = L.length →
    WP 33 5 [some (.ref P), some (.int (nI line)), some (.int time), some (.int (nI (cAh S L off line time i))), some (.int (nI i))] [] h Q = Q (some (.int (nI (cAh S L off line time L.length)))) h := by
  have h16 := hL.1
  obtain ⟨⟨g, hO⟩, -⟩ := id hR
  intro m
  induction m with
  | zero =>
    intro i hi
    have hi : i = L.length := by omega
    subst hi
    rw [sX3_countAhead_5]
    simp (disch := (first | omega | assumption | (simp (disch := omega) only [Int32.lt_iff_toInt_lt, Int32.le_iff_toInt_le, ← Int32.toInt_inj, nI_toInt, zi_m1, zi_m2, zi_m3, zi_m9]; omega) | decide)) only [sX3_countAhead_0, sX3_countAhead_1i, sX3_countAhead_1r, sX3_countAhead_1z, sX3_countAhead_1o, sX3_countAhead_2, sX3_countAhead_3i, sX3_countAhead_3r, sX3_countAhead_3z, sX3_countAhead_3o, sX3_countAhead_7, sX3_countAhead_8, sX3_countAhead_11, sX3_countAhead_14, sX3_countAhead_16, sX3_countAhead_17, sX3_countAhead_20, sX3_countAhead_21, sX3_countAhead_23, sX3_countAhead_24, sX3_countAhead_27, sX3_countAhead_30, sX3_countAhead_31, sX3_countAhead_33, sX3_countAhead_34, sX3_countAhead_37, sX3_countAhead_40i, sX3_countAhead_40r, sX3_countAhead_40z, sX3_countAhead_40o, sX3_countAhead_43i, sX3_countAhead_43r, sX3_countAhead_43z, sX3_countAhead_43o, sX3_countAhead_46, sX3_countAhead_49, sX3_countAhead_50, gG3_0, gG3_1, gG3_2, gP3_0, gP3_1, gP3_2, zpush_v, zpush_n, gCk, gAi, gSi, gLi, gLq, ↓if_pos, ↓if_neg, hO.1]
  | succ m ih =>
    intro i hi
    have := cAh_le (S := S) (L := L) (off := off) line time i
    have hi2 : i < L.length := by omega
    have sh := m_X3_isShownAtT hR hL hi2 time
    have cb := m_X3_comesBefore hR hw hL hi2 hl
    have e := ih (i + 1) (by omega)
    rw [sX3_countAhead_5]
    by_cases d0 : i = line
    · rw [show cAh S L off line time (i + 1) = cAh S L off line time i from by simp only [cAh]; rw [if_neg (fun z => z.1.1 d0)]; rfl] at e
      rw [← e]
      simp (disch := (first | omega | assumption | (simp (disch := omega) only [Int32.lt_iff_toInt_lt, Int32.le_iff_toInt_le, ← Int32.toInt_inj, nI_toInt, zi_m1, zi_m2, zi_m3, zi_m9]; omega) | decide)) only [sX3_countAhead_0, sX3_countAhead_1i, sX3_countAhead_1r, sX3_countAhead_1z, sX3_countAhead_1o, sX3_countAhead_2, sX3_countAhead_3i, sX3_countAhead_3r, sX3_countAhead_3z, sX3_countAhead_3o, sX3_countAhead_7, sX3_countAhead_8, sX3_countAhead_11, sX3_countAhead_14, sX3_countAhead_16, sX3_countAhead_17, sX3_countAhead_20, sX3_countAhead_21, sX3_countAhead_23, sX3_countAhead_24, sX3_countAhead_27, sX3_countAhead_30, sX3_countAhead_31, sX3_countAhead_33, sX3_countAhead_34, sX3_countAhead_37, sX3_countAhead_40i, sX3_countAhead_40r, sX3_countAhead_40z, sX3_countAhead_40o, sX3_countAhead_43i, sX3_countAhead_43r, sX3_countAhead_43z, sX3_countAhead_43o, sX3_countAhead_46, sX3_countAhead_49, sX3_countAhead_50, gG3_0, gG3_1, gG3_2, gP3_0, gP3_1, gP3_2, zpush_v, zpush_n, gCk, gAi, gSi, gLi, gLq, ↓if_pos, ↓if_neg, hO.1, nI_add]
    · by_cases hb : shownP (lnA L i) time = true
      · rw [bI_t hb] at sh
        by_cases d2 : pBf S L off i line
        · rw [show cAh S L off line time (i + 1) = cAh S L off line time i + 1 from by simp only [cAh]; rw [if_pos ⟨⟨d0, hb⟩, d2⟩]] at e
          rw [bI_t d2] at cb
          rw [← e]
          simp (disch := (first | omega | assumption | (simp (disch := omega) only [Int32.lt_iff_toInt_lt, Int32.le_iff_toInt_le, ← Int32.toInt_inj, nI_toInt, zi_m1, zi_m2, zi_m3, zi_m9]; omega) | decide)) only [sX3_countAhead_0, sX3_countAhead_1i, sX3_countAhead_1r, sX3_countAhead_1z, sX3_countAhead_1o, sX3_countAhead_2, sX3_countAhead_3i, sX3_countAhead_3r, sX3_countAhead_3z, sX3_countAhead_3o, sX3_countAhead_7, sX3_countAhead_8, sX3_countAhead_11, sX3_countAhead_14, sX3_countAhead_16, sX3_countAhead_17, sX3_countAhead_20, sX3_countAhead_21, sX3_countAhead_23, sX3_countAhead_24, sX3_countAhead_27, sX3_countAhead_30, sX3_countAhead_31, sX3_countAhead_33, sX3_countAhead_34, sX3_countAhead_37, sX3_countAhead_40i, sX3_countAhead_40r, sX3_countAhead_40z, sX3_countAhead_40o, sX3_countAhead_43i, sX3_countAhead_43r, sX3_countAhead_43z, sX3_countAhead_43o, sX3_countAhead_46, sX3_countAhead_49, sX3_countAhead_50, gG3_0, gG3_1, gG3_2, gP3_0, gP3_1, gP3_2, zpush_v, zpush_n, gCk, gAi, gSi, gLi, gLq, ↓if_pos, ↓if_neg, hO.1, nI_add, sh, cb]
        · rw [show cAh S L off line time (i + 1) = cAh S L off line time i from by simp only [cAh]; rw [if_neg (fun z => d2 z.2)]; rfl] at e
          rw [bI_f d2] at cb
          rw [← e]
          simp (disch := (first | omega | assumption | (simp (disch := omega) only [Int32.lt_iff_toInt_lt, Int32.le_iff_toInt_le, ← Int32.toInt_inj, nI_toInt, zi_m1, zi_m2, zi_m3, zi_m9]; omega) | decide)) only [sX3_countAhead_0, sX3_countAhead_1i, sX3_countAhead_1r, sX3_countAhead_1z, sX3_countAhead_1o, sX3_countAhead_2, sX3_countAhead_3i, sX3_countAhead_3r, sX3_countAhead_3z, sX3_countAhead_3o, sX3_countAhead_7, sX3_countAhead_8, sX3_countAhead_11, sX3_countAhead_14, sX3_countAhead_16, sX3_countAhead_17, sX3_countAhead_20, sX3_countAhead_21, sX3_countAhead_23, sX3_countAhead_24, sX3_countAhead_27, sX3_countAhead_30, sX3_countAhead_31, sX3_countAhead_33, sX3_countAhead_34, sX3_countAhead_37, sX3_countAhead_40i, sX3_countAhead_40r, sX3_countAhead_40z, sX3_countAhead_40o, sX3_countAhead_43i, sX3_countAhead_43r, sX3_countAhead_43z, sX3_countAhead_43o, sX3_countAhead_46, sX3_countAhead_49, sX3_countAhead_50, gG3_0, gG3_1, gG3_2, gP3_0, gP3_1, gP3_2, zpush_v, zpush_n, gCk, gAi, gSi, gLi, gLq, ↓if_pos, ↓if_neg, hO.1, nI_add, sh, cb]
      · rw [bI_f hb] at sh
        rw [show cAh S L off line time (i + 1) = cAh S L off line time i from by simp only [cAh]; rw [if_neg (fun z => hb z.1.2)]; rfl] at e
        rw [← e]
        simp (disch := (first | omega | assumption | (simp (disch := omega) only [Int32.lt_iff_toInt_lt, Int32.le_iff_toInt_le, ← Int32.toInt_inj, nI_toInt, zi_m1, zi_m2, zi_m3, zi_m9]; omega) | decide)) only [sX3_countAhead_0, sX3_countAhead_1i, sX3_countAhead_1r, sX3_countAhead_1z, sX3_countAhead_1o, sX3_countAhead_2, sX3_countAhead_3i, sX3_countAhead_3r, sX3_countAhead_3z, sX3_countAhead_3o, sX3_countAhead_7, sX3_countAhead_8, sX3_countAhead_11, sX3_countAhead_14, sX3_countAhead_16, sX3_countAhead_17, sX3_countAhead_20, sX3_countAhead_21, sX3_countAhead_23, sX3_countAhead_24, sX3_countAhead_27, sX3_countAhead_30, sX3_countAhead_31, sX3_countAhead_33, sX3_countAhead_34, sX3_countAhead_37, sX3_countAhead_40i, sX3_countAhead_40r, sX3_countAhead_40z, sX3_countAhead_40o, sX3_countAhead_43i, sX3_countAhead_43r, sX3_countAhead_43z, sX3_countAhead_43o, sX3_countAhead_46, sX3_countAhead_49, sX3_countAhead_50, gG3_0, gG3_1, gG3_2, gP3_0, gP3_1, gP3_2, zpush_v, zpush_n, gCk, gAi, gSi, gLi, gLq, ↓if_pos, ↓if_neg, hO.1, nI_add, sh]
theorem m_X3_countAhead (hR : rPic h P S L off) (hw : WfS S) (hL : WfLs L) {line : Nat} (hl : line < L.length) (time : Int32) (Q : Option Value → Hp → Prop) : WPm 33 [.ref P, .int (nI line), .int time] h Q = Q (some (.int (nI (cAh S L off line time L.length)))) h := by
  rw [eX3_countAhead]
  simp (disch := (first | omega | assumption | (simp (disch := omega) only [Int32.lt_iff_toInt_lt, Int32.le_iff_toInt_le, ← Int32.toInt_inj, nI_toInt, zi_m1, zi_m2, zi_m3, zi_m9]; omega) | decide)) only [sX3_countAhead_0, sX3_countAhead_1i, sX3_countAhead_1r, sX3_countAhead_1z, sX3_countAhead_1o, sX3_countAhead_2, sX3_countAhead_3i, sX3_countAhead_3r, sX3_countAhead_3z, sX3_countAhead_3o]
  exact l_X3_countAhead hR hw hL hl time Q _ 0 rfl
end PK
