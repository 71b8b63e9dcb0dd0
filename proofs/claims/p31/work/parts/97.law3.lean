/-! law(): what is looked at behind each act -/
section LW3
variable {h hb : Hp} {X B b n l : Nat} {p : PS} {Q : Option Value → Hp → Prop}
theorem l_lwW (hr : rP h X B p) (hw : WfP p) (hN : ∀ x ∈ p.1.2.1, noBr x.2.2.2.2) (l0 l2 l3 l4 l5 l6 l7 l8 l9 l10 : Option Value) (y11 : Int32) (l13 l14 l15 l16 : Option Value)
    (K : ∀ l12, WP 116 1082 [l0, some (.ref X), l2, l3, l4, l5, l6, l7, l8, l9, l10, some (.int y11), l12, l13, l14, l15, l16] [] h Q) : ∀ m i, m + i = p.1.2.1.length →
    WP 116 1056 [l0, some (.ref X), l2, l3, l4, l5, l6, l7, l8, l9, l10, some (.int y11), some (.int (nI i)), l13, l14, l15, l16] [] h Q := by
  have h16 := hw.1.2.1.1
  intro m
  induction m with
  | zero =>
    intro i hi
    have hi : i = p.1.2.1.length := by omega
    subst hi
    have e := K (some (.int (nI p.1.2.1.length)))
    rw [sL_law_1056]
    simp (disch := (first | omega | assumption | (simp (disch := omega) only [Int32.lt_iff_toInt_lt, Int32.le_iff_toInt_le, ← Int32.toInt_inj, nI_toInt, zi_m1, zi_m2, zi_m3, zi_m9]; omega) | decide)) only [sL_law_1058, sL_law_1059, sL_law_1062, zpush_v, zpush_n, gCk, gAi, gSi, gLi, gLq, ↓if_pos, ↓if_neg, ↓reduceIte, eq_self, not_true_eq_false, not_false_eq_true, r_ck hr, x_lines hr]
    exact e
  | succ m ih =>
    intro i hi
    have hil : i < p.1.2.1.length := by omega
    have e := ih (i + 1) (by omega)
    rw [sL_law_1056]
    simp (disch := (first | omega | assumption | (simp (disch := omega) only [Int32.lt_iff_toInt_lt, Int32.le_iff_toInt_le, ← Int32.toInt_inj, nI_toInt, zi_m1, zi_m2, zi_m3, zi_m9]; omega) | decide)) only [sL_law_1058, sL_law_1059, sL_law_1062, sL_law_1065, sL_law_1066, sL_law_1068, zpush_v, zpush_n, gCk, gAi, gSi, gLi, gLq, ↓if_pos, ↓if_neg, ↓reduceIte, eq_self, not_true_eq_false, not_false_eq_true, r_ck hr, x_lines hr]
    refine y_line hr hw hil (hN _ (lnA_mem hil)) _ ?_
    simp (disch := (first | omega | assumption | (simp (disch := omega) only [Int32.lt_iff_toInt_lt, Int32.le_iff_toInt_le, ← Int32.toInt_inj, nI_toInt, zi_m1, zi_m2, zi_m3, zi_m9]; omega) | decide)) only [sL_law_1071, sL_law_1074, sL_law_1075, sL_law_1076i, sL_law_1076r, sL_law_1076z, sL_law_1076o, sL_law_1079, zpush_v, zpush_n, gCk, gAi, gSi, gLi, gLq, ↓if_pos, ↓if_neg, ↓reduceIte, eq_self, not_true_eq_false, not_false_eq_true, nI_add]
    exact e
theorem l_lwV (hr : rP h X B p) (hw : WfP p) (hN : ∀ x ∈ p.1.2.1, noBr x.2.2.2.2) (l0 l2 : Option Value) (y3 : Int32) {k : Nat} (hk : k < 7) (l5 : Option Value) (a : Int32) (l7 l8 l9 : Option Value) (y11 : Int32) (l12 l13 l14 l15 l16 : Option Value)
    (K : ∀ l12, WP 116 386 [l0, some (.ref X), l2, some (.int y3), some (.int (nI (k + 1))), l5, some (.int a), l7, l8, l9, some (.int (nI 1)), some (.int y11), l12, l13, l14, l15, l16] [] h Q) :
    WP 116 1039 [l0, some (.ref X), l2, some (.int y3), some (.int (nI k)), l5, some (.int a), l7, l8, l9, some (.int (nI 1)), some (.int y11), l12, l13, l14, l15, l16] [] h Q := by
  simp (disch := (first | omega | assumption | (simp (disch := omega) only [Int32.lt_iff_toInt_lt, Int32.le_iff_toInt_le, ← Int32.toInt_inj, nI_toInt, zi_m1, zi_m2, zi_m3, zi_m9]; omega) | decide)) only [sL_law_1039, sL_law_1041, sL_law_1044, sL_law_1045, zpush_v, zpush_n, gCk, gAi, gSi, gLi, gLq, ↓if_pos, ↓if_neg, ↓reduceIte, eq_self, not_true_eq_false, not_false_eq_true, r_ck hr]
  refine y_styles hr hw _ ?_
  have W := l_lwW (Q := Q) hr hw hN l0 l2 (some (.int y3)) (some (.int (nI k))) l5 (some (.int a)) l7 l8 l9 (some (.int (nI 1))) y11 l13 l14 l15 l16 (fun l12 => by
    simp (disch := (first | omega | assumption | (simp (disch := omega) only [Int32.lt_iff_toInt_lt, Int32.le_iff_toInt_le, ← Int32.toInt_inj, nI_toInt, zi_m1, zi_m2, zi_m3, zi_m9]; omega) | decide)) only [sL_law_1082, sL_law_1083, sL_law_1085, sL_law_1087, sL_law_1088, sL_law_1091, sL_law_1094, zpush_v, zpush_n, gCk, gAi, gSi, gLi, gLq, ↓if_pos, ↓if_neg, ↓reduceIte, eq_self, not_true_eq_false, not_false_eq_true, m_L_up]
    refine y_shown hr hw _ ?_
    simp (disch := (first | omega | assumption | (simp (disch := omega) only [Int32.lt_iff_toInt_lt, Int32.le_iff_toInt_le, ← Int32.toInt_inj, nI_toInt, zi_m1, zi_m2, zi_m3, zi_m9]; omega) | decide)) only [sL_law_1097, sL_law_1100, sL_law_1101, sL_law_1102, sL_law_1105, zpush_v, zpush_n, gCk, gAi, gSi, gLi, gLq, ↓if_pos, ↓if_neg, ↓reduceIte, eq_self, not_true_eq_false, not_false_eq_true, r_ck hr, x_crowd hr hw]
    refine y_shown hr hw _ ?_
    have e := K l12
    simp (disch := (first | omega | assumption | (simp (disch := omega) only [Int32.lt_iff_toInt_lt, Int32.le_iff_toInt_le, ← Int32.toInt_inj, nI_toInt, zi_m1, zi_m2, zi_m3, zi_m9]; omega) | decide)) only [sL_law_1108, sL_law_1111, sL_law_1112, sL_law_1113i, sL_law_1113r, sL_law_1113z, sL_law_1113o, sL_law_1116, zpush_v, zpush_n, gCk, gAi, gSi, gLi, gLq, ↓if_pos, ↓if_neg, ↓reduceIte, eq_self, not_true_eq_false, not_false_eq_true, nI_add]
    exact e) p.1.2.1.length 0 rfl
  simp (disch := (first | omega | assumption | (simp (disch := omega) only [Int32.lt_iff_toInt_lt, Int32.le_iff_toInt_le, ← Int32.toInt_inj, nI_toInt, zi_m1, zi_m2, zi_m3, zi_m9]; omega) | decide)) only [sL_law_1048, sL_law_1051, sL_law_1052, sL_law_1053, sL_law_1054i, sL_law_1054r, sL_law_1054z, sL_law_1054o, zpush_v, zpush_n, gCk, gAi, gSi, gLi, gLq, ↓if_pos, ↓if_neg, ↓reduceIte, eq_self, not_true_eq_false, not_false_eq_true]
  exact W
end LW3
