/-! the law's shown() -/
section LSH
variable {h : Hp} {X B : Nat} {p : PS} {t : Int32} {n : Nat}
theorem fcmp_same {x : UInt32} (h : x &&& 0x7fffffff ≤ 0x7f800000) : FP.fcmp x x = some .eq := by
  have h1 := (nn32 x).mp h
  refine FP.Core.fcmp_self (fun q => ?_)
  rw [← FP.Core.fIsNaN_iff, h1] at q
  cases q
theorem cmp_eq {op : CmpOp} : Op.cmpValue (some .eq) op = nI 0 := rfl
theorem sgP_iff {b j : Nat} {l : List Nat} : sungP b l (some j) t = true ↔ nI (b + (l.take j).sum) ≤ t := decide_eq_true_iff
/-- the signs of a line that is shown -/
theorem l_shS (hr : rP h X B p) (hw : WfP p) (hn : n < p.1.2.1.length) (many : Int32) {s0 u0 : Nat} (hs : s0 ≤ 80 * 16) (hu : u0 ≤ 80 * 16) (Q : Option Value → Hp → Prop)
    (K : ∀ l7 l8, WP 113 129 [some (.ref X), some (.int t), some (.int many), some (.int (nI (s0 + (rdL p.1.1 (lnA p.1.2.1 n)).2.1.length))), some (.int (nI (u0 + cntU (lnA p.1.2.1 n).1 (rdL p.1.1 (lnA p.1.2.1 n)) t (rdL p.1.1 (lnA p.1.2.1 n)).2.1.length))), some (.int (nI n)), some (.int (nI 1)), l7, l8] [] h Q) :
    ∀ m i l8, m + i = (rdL p.1.1 (lnA p.1.2.1 n)).2.1.length →
    WP 113 64 [some (.ref X), some (.int t), some (.int many), some (.int (nI (s0 + i))), some (.int (nI (u0 + cntU (lnA p.1.2.1 n).1 (rdL p.1.1 (lnA p.1.2.1 n)) t i))), some (.int (nI n)), some (.int (nI 1)), some (.int (nI i)), l8] [] h Q := by
  have h16 := hw.1.2.1.1
  have wl := lnA_wf hw.1.2.1 n
  have ok := rdL_ok hw.1.1 wl
  have i80 := ok.1
  intro m
  induction m with
  | zero =>
    intro i l8 hi
    have hi : i = (rdL p.1.1 (lnA p.1.2.1 n)).2.1.length := by omega
    subst hi
    have e := K (some (.int (nI (rdL p.1.1 (lnA p.1.2.1 n)).2.1.length))) l8
    rw [sL_shown_64]
    simp (disch := (first | omega | assumption | (simp (disch := omega) only [Int32.lt_iff_toInt_lt, Int32.le_iff_toInt_le, ← Int32.toInt_inj, nI_toInt, zi_m1, zi_m2, zi_m3, zi_m9]; omega) | decide)) only [sL_shown_66, sL_shown_67, sL_shown_69, sL_shown_70, sL_shown_73, zpush_v, zpush_n, gCk, gAi, gSi, gLi, gLq, ↓if_pos, ↓if_neg, ↓reduceIte, eq_self, not_true_eq_false, not_false_eq_true, r_ck hr, r_ab4 hr hw]
    exact e
  | succ m ih =>
    intro i l8 hi
    have hil : i < (rdL p.1.1 (lnA p.1.2.1 n)).2.1.length := by omega
    have hx := List.getElem?_eq_getElem hil
    generalize (rdL p.1.1 (lnA p.1.2.1 n)).2.1[i] = x at hx
    have hxe : (rdL p.1.1 (lnA p.1.2.1 n)).2.1.getD i (0, (fun _ => 0), none) = x := by rw [List.getD_eq_getElem?_getD, hx]; rfl
    have cu := cntU_le (lnA p.1.2.1 n).1 (rdL p.1.1 (lnA p.1.2.1 n)) t i
    have ec : cntU (lnA p.1.2.1 n).1 (rdL p.1.1 (lnA p.1.2.1 n)) t (i + 1) = cntU (lnA p.1.2.1 n).1 (rdL p.1.1 (lnA p.1.2.1 n)) t i + (if sungP (lnA p.1.2.1 n).1 (rdL p.1.1 (lnA p.1.2.1 n)).2.2 x.2.2 t = true then 1 else 0) := by
      simp only [cntU]
      rw [hx]
    have e := fun l8 => ih (i + 1) l8 (by omega)
    rw [ec, ← Nat.add_assoc, ← Nat.add_assoc] at e
    rw [sL_shown_64]
    cases hq : x.2.2 with
    | none =>
      rw [hq, if_neg (by rw [sgP_n]; exact fun q => by cases q)] at e
      simp (disch := (first | omega | assumption | (simp (disch := omega) only [Int32.lt_iff_toInt_lt, Int32.le_iff_toInt_le, ← Int32.toInt_inj, nI_toInt, zi_m1, zi_m2, zi_m3, zi_m9]; omega) | decide)) only [sL_shown_66, sL_shown_67, sL_shown_69, sL_shown_70, sL_shown_73, sL_shown_76, sL_shown_78, sL_shown_81, sL_shown_82, sL_shown_84, sL_shown_86, sL_shown_87, sL_shown_90i, sL_shown_90r, sL_shown_90z, sL_shown_90o, sL_shown_92i, sL_shown_92r, sL_shown_92z, sL_shown_92o, sL_shown_95, sL_shown_97, sL_shown_99, sL_shown_102, sL_shown_103, sL_shown_105, sL_shown_107, sL_shown_108, sL_shown_111, sL_shown_112, sL_shown_115, sL_shown_116, sL_shown_119, sL_shown_120, sL_shown_121i, sL_shown_121r, sL_shown_121z, sL_shown_121o, sL_shown_123i, sL_shown_123r, sL_shown_123z, sL_shown_123o, sL_shown_126, zpush_v, zpush_n, gCk, gAi, gSi, gLi, gLq, ↓if_pos, ↓if_neg, ↓reduceIte, eq_self, not_true_eq_false, not_false_eq_true, r_ck hr, r_ab4 hr hw, r_sign hr hw, hxe, sgW5, hq, eS, nI_add]
      exact e _
    | some j =>
      have hj := (ok.2.2.2.1 x (List.mem_of_getElem? hx)).2 j hq
      have hj20 := ok.2.1
      by_cases c : nI ((lnA p.1.2.1 n).1 + ((rdL p.1.1 (lnA p.1.2.1 n)).2.2.take j).sum) ≤ t
      · rw [hq, if_pos (sgP_iff.mpr c)] at e
        have c' := Int32.not_lt.mpr c
        simp (disch := (first | omega | assumption | (simp (disch := omega) only [Int32.lt_iff_toInt_lt, Int32.le_iff_toInt_le, ← Int32.toInt_inj, nI_toInt, zi_m1, zi_m2, zi_m3, zi_m9]; omega) | decide)) only [sL_shown_66, sL_shown_67, sL_shown_69, sL_shown_70, sL_shown_73, sL_shown_76, sL_shown_78, sL_shown_81, sL_shown_82, sL_shown_84, sL_shown_86, sL_shown_87, sL_shown_90i, sL_shown_90r, sL_shown_90z, sL_shown_90o, sL_shown_92i, sL_shown_92r, sL_shown_92z, sL_shown_92o, sL_shown_95, sL_shown_97, sL_shown_99, sL_shown_102, sL_shown_103, sL_shown_105, sL_shown_107, sL_shown_108, sL_shown_111, sL_shown_112, sL_shown_115, sL_shown_116, sL_shown_119, sL_shown_120, sL_shown_121i, sL_shown_121r, sL_shown_121z, sL_shown_121o, sL_shown_123i, sL_shown_123r, sL_shown_123z, sL_shown_123o, sL_shown_126, zpush_v, zpush_n, gCk, gAi, gSi, gLi, gLq, ↓if_pos, ↓if_neg, ↓reduceIte, eq_self, not_true_eq_false, not_false_eq_true, r_ck hr, r_ab4 hr hw, r_sign hr hw, r_syl hr hw, syW0, hxe, sgW5, hq, eS, nI_add]
        exact e _
      · rw [hq, if_neg (fun q => c (sgP_iff.mp q))] at e
        have c' := Int32.not_le.mp c
        simp (disch := (first | omega | assumption | (simp (disch := omega) only [Int32.lt_iff_toInt_lt, Int32.le_iff_toInt_le, ← Int32.toInt_inj, nI_toInt, zi_m1, zi_m2, zi_m3, zi_m9]; omega) | decide)) only [sL_shown_66, sL_shown_67, sL_shown_69, sL_shown_70, sL_shown_73, sL_shown_76, sL_shown_78, sL_shown_81, sL_shown_82, sL_shown_84, sL_shown_86, sL_shown_87, sL_shown_90i, sL_shown_90r, sL_shown_90z, sL_shown_90o, sL_shown_92i, sL_shown_92r, sL_shown_92z, sL_shown_92o, sL_shown_95, sL_shown_97, sL_shown_99, sL_shown_102, sL_shown_103, sL_shown_105, sL_shown_107, sL_shown_108, sL_shown_111, sL_shown_112, sL_shown_115, sL_shown_116, sL_shown_119, sL_shown_120, sL_shown_121i, sL_shown_121r, sL_shown_121z, sL_shown_121o, sL_shown_123i, sL_shown_123r, sL_shown_123z, sL_shown_123o, sL_shown_126, zpush_v, zpush_n, gCk, gAi, gSi, gLi, gLq, ↓if_pos, ↓if_neg, ↓reduceIte, eq_self, not_true_eq_false, not_false_eq_true, r_ck hr, r_ab4 hr hw, r_sign hr hw, r_syl hr hw, syW0, hxe, sgW5, hq, eS, nI_add]
        exact e _
/-- the lines, counted -/
theorem l_shC (hr : rP h X B p) (hw : WfP p) (Q : Option Value → Hp → Prop)
    (K : ∀ l6 l7 l8, WP 113 135 [some (.ref X), some (.int t), some (.int (nI (cSh p.1.2.1 t p.1.2.1.length))), some (.int (nI (sng p.1.1 p.1.2.1 t p.1.2.1.length).1)), some (.int (nI (sng p.1.1 p.1.2.1 t p.1.2.1.length).2)), some (.int (nI p.1.2.1.length)), l6, l7, l8] [] h Q) :
    ∀ m n l6 l7 l8, m + n = p.1.2.1.length →
    WP 113 10 [some (.ref X), some (.int t), some (.int (nI (cSh p.1.2.1 t n))), some (.int (nI (sng p.1.1 p.1.2.1 t n).1)), some (.int (nI (sng p.1.1 p.1.2.1 t n).2)), some (.int (nI n)), l6, l7, l8] [] h Q := by
  have h16 := hw.1.2.1.1
  intro m
  induction m with
  | zero =>
    intro n l6 l7 l8 hn
    have hn : n = p.1.2.1.length := by omega
    subst hn
    have e := K l6 l7 l8
    rw [sL_shown_10]
    simp (disch := (first | omega | assumption | (simp (disch := omega) only [Int32.lt_iff_toInt_lt, Int32.le_iff_toInt_le, ← Int32.toInt_inj, nI_toInt, zi_m1, zi_m2, zi_m3, zi_m9]; omega) | decide)) only [sL_shown_12, sL_shown_13, sL_shown_16, zpush_v, zpush_n, gCk, gAi, gSi, gLi, gLq, ↓if_pos, ↓if_neg, ↓reduceIte, eq_self, not_true_eq_false, not_false_eq_true, r_ck hr, x_lines hr]
    exact e
  | succ m ih =>
    intro n l6 l7 l8 hn
    have hnl : n < p.1.2.1.length := by omega
    have le := sng_le hw.1.1 hw.1.2.1 t n
    have cs := cSh_le (L := p.1.2.1) t n
    have e := fun l6 l7 l8 => ih (n + 1) l6 l7 l8 (by omega)
    simp only [cSh, sng] at e
    rw [sL_shown_10]
    by_cases z : shownP (lnA p.1.2.1 n) t = true
    · obtain ⟨z1, z2⟩ := of_decide_eq_true (show decide (nI (lnA p.1.2.1 n).1 ≤ t ∧ t < nI (lnA p.1.2.1 n).2.1) = true from z)
      have z1' := Int32.not_lt.mpr z1
      have z2' := Int32.not_le.mpr z2
      simp only [if_pos z] at e
      have s := l_shS (t := t) hr hw hnl (nI (cSh p.1.2.1 t n + 1)) (s0 := (sng p.1.1 p.1.2.1 t n).1) (u0 := (sng p.1.1 p.1.2.1 t n).2) (by omega) (by omega) Q (fun l7 l8 => by
        simp (disch := (first | omega | assumption | (simp (disch := omega) only [Int32.lt_iff_toInt_lt, Int32.le_iff_toInt_le, ← Int32.toInt_inj, nI_toInt, zi_m1, zi_m2, zi_m3, zi_m9]; omega) | decide)) only [sL_shown_129i, sL_shown_129r, sL_shown_129z, sL_shown_129o, sL_shown_132, zpush_v, zpush_n, gCk, gAi, gSi, gLi, gLq, ↓if_pos, ↓if_neg, ↓reduceIte, eq_self, not_true_eq_false, not_false_eq_true, nI_add]
        exact e _ _ _) (rdL p.1.1 (lnA p.1.2.1 n)).2.1.length 0
      have u0 : cntU (lnA p.1.2.1 n).1 (rdL p.1.1 (lnA p.1.2.1 n)) t 0 = 0 := rfl
      rw [u0, Nat.add_zero, Nat.add_zero] at s
      simp (disch := (first | omega | assumption | (simp (disch := omega) only [Int32.lt_iff_toInt_lt, Int32.le_iff_toInt_le, ← Int32.toInt_inj, nI_toInt, zi_m1, zi_m2, zi_m3, zi_m9]; omega) | decide)) only [sL_shown_12, sL_shown_13, sL_shown_16, sL_shown_19, sL_shown_20, sL_shown_22, sL_shown_23, sL_shown_26, sL_shown_27, sL_shown_30, sL_shown_31, sL_shown_32, sL_shown_34, sL_shown_35, sL_shown_38, sL_shown_41, sL_shown_42, sL_shown_45, sL_shown_46i, sL_shown_46r, sL_shown_46z, sL_shown_46o, sL_shown_48, sL_shown_49, sL_shown_51, sL_shown_54, sL_shown_55, sL_shown_58, sL_shown_59, sL_shown_60i, sL_shown_60r, sL_shown_60z, sL_shown_60o, sL_shown_61, sL_shown_62i, sL_shown_62r, sL_shown_62z, sL_shown_62o, zpush_v, zpush_n, gCk, gAi, gSi, gLi, gLq, ↓if_pos, ↓if_neg, ↓reduceIte, eq_self, not_true_eq_false, not_false_eq_true, r_ck hr, x_lines hr, r_ab0 hr hw, r_ab1 hr hw, nI_add]
      exact s _ rfl
    · simp only [if_neg z, Nat.add_zero] at e
      have wl := lnA_wf hw.1.2.1 n
      have ok := rdL_ok hw.1.1 wl
      have i80 := ok.1
      by_cases z1 : nI (lnA p.1.2.1 n).1 ≤ t
      · have z1' := Int32.not_lt.mpr z1
        have z2 : ¬ t < nI (lnA p.1.2.1 n).2.1 := fun q => z (decide_eq_true ⟨z1, q⟩)
        have z2' := Int32.not_lt.mp z2
        by_cases c0 : (rdL p.1.1 (lnA p.1.2.1 n)).2.1.length = 0
        · simp (disch := (first | omega | assumption | (simp (disch := omega) only [Int32.lt_iff_toInt_lt, Int32.le_iff_toInt_le, ← Int32.toInt_inj, nI_toInt, zi_m1, zi_m2, zi_m3, zi_m9]; omega) | decide)) only [sL_shown_12, sL_shown_13, sL_shown_16, sL_shown_19, sL_shown_20, sL_shown_22, sL_shown_23, sL_shown_26, sL_shown_27, sL_shown_30, sL_shown_31, sL_shown_32, sL_shown_34, sL_shown_35, sL_shown_38, sL_shown_41, sL_shown_42, sL_shown_45, sL_shown_46i, sL_shown_46r, sL_shown_46z, sL_shown_46o, sL_shown_48, sL_shown_49, sL_shown_51, sL_shown_54, sL_shown_55, sL_shown_58, sL_shown_59, sL_shown_60i, sL_shown_60r, sL_shown_60z, sL_shown_60o, sL_shown_61, sL_shown_62i, sL_shown_62r, sL_shown_62z, sL_shown_62o, sL_shown_64, sL_shown_66, sL_shown_67, sL_shown_69, sL_shown_70, sL_shown_73, sL_shown_76, sL_shown_78, sL_shown_81, sL_shown_82, sL_shown_84, sL_shown_86, sL_shown_87, sL_shown_90i, sL_shown_90r, sL_shown_90z, sL_shown_90o, sL_shown_92i, sL_shown_92r, sL_shown_92z, sL_shown_92o, sL_shown_95, sL_shown_97, sL_shown_99, sL_shown_102, sL_shown_103, sL_shown_105, sL_shown_107, sL_shown_108, sL_shown_111, sL_shown_112, sL_shown_115, sL_shown_116, sL_shown_119, sL_shown_120, sL_shown_121i, sL_shown_121r, sL_shown_121z, sL_shown_121o, sL_shown_123i, sL_shown_123r, sL_shown_123z, sL_shown_123o, sL_shown_126, sL_shown_129i, sL_shown_129r, sL_shown_129z, sL_shown_129o, sL_shown_132, zpush_v, zpush_n, gCk, gAi, gSi, gLi, gLq, ↓if_pos, ↓if_neg, ↓reduceIte, eq_self, not_true_eq_false, not_false_eq_true, r_ck hr, x_lines hr, r_ab0 hr hw, r_ab1 hr hw, r_ab4 hr hw, c0, nI_add, Nat.add_zero]
          exact e _ _ _
        · simp (disch := (first | omega | assumption | (simp (disch := omega) only [Int32.lt_iff_toInt_lt, Int32.le_iff_toInt_le, ← Int32.toInt_inj, nI_toInt, zi_m1, zi_m2, zi_m3, zi_m9]; omega) | decide)) only [sL_shown_12, sL_shown_13, sL_shown_16, sL_shown_19, sL_shown_20, sL_shown_22, sL_shown_23, sL_shown_26, sL_shown_27, sL_shown_30, sL_shown_31, sL_shown_32, sL_shown_34, sL_shown_35, sL_shown_38, sL_shown_41, sL_shown_42, sL_shown_45, sL_shown_46i, sL_shown_46r, sL_shown_46z, sL_shown_46o, sL_shown_48, sL_shown_49, sL_shown_51, sL_shown_54, sL_shown_55, sL_shown_58, sL_shown_59, sL_shown_60i, sL_shown_60r, sL_shown_60z, sL_shown_60o, sL_shown_61, sL_shown_62i, sL_shown_62r, sL_shown_62z, sL_shown_62o, sL_shown_64, sL_shown_66, sL_shown_67, sL_shown_69, sL_shown_70, sL_shown_73, sL_shown_76, sL_shown_78, sL_shown_81, sL_shown_82, sL_shown_84, sL_shown_86, sL_shown_87, sL_shown_90i, sL_shown_90r, sL_shown_90z, sL_shown_90o, sL_shown_92i, sL_shown_92r, sL_shown_92z, sL_shown_92o, sL_shown_95, sL_shown_97, sL_shown_99, sL_shown_102, sL_shown_103, sL_shown_105, sL_shown_107, sL_shown_108, sL_shown_111, sL_shown_112, sL_shown_115, sL_shown_116, sL_shown_119, sL_shown_120, sL_shown_121i, sL_shown_121r, sL_shown_121z, sL_shown_121o, sL_shown_123i, sL_shown_123r, sL_shown_123z, sL_shown_123o, sL_shown_126, sL_shown_129i, sL_shown_129r, sL_shown_129z, sL_shown_129o, sL_shown_132, zpush_v, zpush_n, gCk, gAi, gSi, gLi, gLq, ↓if_pos, ↓if_neg, ↓reduceIte, eq_self, not_true_eq_false, not_false_eq_true, r_ck hr, x_lines hr, r_ab0 hr hw, r_ab1 hr hw, r_ab4 hr hw, nI_add, Nat.add_zero]
          exact e _ _ _
      · have z1' := Int32.not_le.mp z1
        by_cases c0 : (rdL p.1.1 (lnA p.1.2.1 n)).2.1.length = 0
        · simp (disch := (first | omega | assumption | (simp (disch := omega) only [Int32.lt_iff_toInt_lt, Int32.le_iff_toInt_le, ← Int32.toInt_inj, nI_toInt, zi_m1, zi_m2, zi_m3, zi_m9]; omega) | decide)) only [sL_shown_12, sL_shown_13, sL_shown_16, sL_shown_19, sL_shown_20, sL_shown_22, sL_shown_23, sL_shown_26, sL_shown_27, sL_shown_30, sL_shown_31, sL_shown_32, sL_shown_34, sL_shown_35, sL_shown_38, sL_shown_41, sL_shown_42, sL_shown_45, sL_shown_46i, sL_shown_46r, sL_shown_46z, sL_shown_46o, sL_shown_48, sL_shown_49, sL_shown_51, sL_shown_54, sL_shown_55, sL_shown_58, sL_shown_59, sL_shown_60i, sL_shown_60r, sL_shown_60z, sL_shown_60o, sL_shown_61, sL_shown_62i, sL_shown_62r, sL_shown_62z, sL_shown_62o, sL_shown_64, sL_shown_66, sL_shown_67, sL_shown_69, sL_shown_70, sL_shown_73, sL_shown_76, sL_shown_78, sL_shown_81, sL_shown_82, sL_shown_84, sL_shown_86, sL_shown_87, sL_shown_90i, sL_shown_90r, sL_shown_90z, sL_shown_90o, sL_shown_92i, sL_shown_92r, sL_shown_92z, sL_shown_92o, sL_shown_95, sL_shown_97, sL_shown_99, sL_shown_102, sL_shown_103, sL_shown_105, sL_shown_107, sL_shown_108, sL_shown_111, sL_shown_112, sL_shown_115, sL_shown_116, sL_shown_119, sL_shown_120, sL_shown_121i, sL_shown_121r, sL_shown_121z, sL_shown_121o, sL_shown_123i, sL_shown_123r, sL_shown_123z, sL_shown_123o, sL_shown_126, sL_shown_129i, sL_shown_129r, sL_shown_129z, sL_shown_129o, sL_shown_132, zpush_v, zpush_n, gCk, gAi, gSi, gLi, gLq, ↓if_pos, ↓if_neg, ↓reduceIte, eq_self, not_true_eq_false, not_false_eq_true, r_ck hr, x_lines hr, r_ab0 hr hw, r_ab1 hr hw, r_ab4 hr hw, c0, nI_add, Nat.add_zero]
          exact e _ _ _
        · simp (disch := (first | omega | assumption | (simp (disch := omega) only [Int32.lt_iff_toInt_lt, Int32.le_iff_toInt_le, ← Int32.toInt_inj, nI_toInt, zi_m1, zi_m2, zi_m3, zi_m9]; omega) | decide)) only [sL_shown_12, sL_shown_13, sL_shown_16, sL_shown_19, sL_shown_20, sL_shown_22, sL_shown_23, sL_shown_26, sL_shown_27, sL_shown_30, sL_shown_31, sL_shown_32, sL_shown_34, sL_shown_35, sL_shown_38, sL_shown_41, sL_shown_42, sL_shown_45, sL_shown_46i, sL_shown_46r, sL_shown_46z, sL_shown_46o, sL_shown_48, sL_shown_49, sL_shown_51, sL_shown_54, sL_shown_55, sL_shown_58, sL_shown_59, sL_shown_60i, sL_shown_60r, sL_shown_60z, sL_shown_60o, sL_shown_61, sL_shown_62i, sL_shown_62r, sL_shown_62z, sL_shown_62o, sL_shown_64, sL_shown_66, sL_shown_67, sL_shown_69, sL_shown_70, sL_shown_73, sL_shown_76, sL_shown_78, sL_shown_81, sL_shown_82, sL_shown_84, sL_shown_86, sL_shown_87, sL_shown_90i, sL_shown_90r, sL_shown_90z, sL_shown_90o, sL_shown_92i, sL_shown_92r, sL_shown_92z, sL_shown_92o, sL_shown_95, sL_shown_97, sL_shown_99, sL_shown_102, sL_shown_103, sL_shown_105, sL_shown_107, sL_shown_108, sL_shown_111, sL_shown_112, sL_shown_115, sL_shown_116, sL_shown_119, sL_shown_120, sL_shown_121i, sL_shown_121r, sL_shown_121z, sL_shown_121o, sL_shown_123i, sL_shown_123r, sL_shown_123z, sL_shown_123o, sL_shown_126, sL_shown_129i, sL_shown_129r, sL_shown_129z, sL_shown_129o, sL_shown_132, zpush_v, zpush_n, gCk, gAi, gSi, gLi, gLq, ↓if_pos, ↓if_neg, ↓reduceIte, eq_self, not_true_eq_false, not_false_eq_true, r_ck hr, x_lines hr, r_ab0 hr hw, r_ab1 hr hw, r_ab4 hr hw, nI_add, Nat.add_zero]
          exact e _ _ _
/-- what the lines shown are ordered by -/
noncomputable def kyL (p : PS) (x : Nat) : Nat := (valS p.1.1 4 (lnA p.1.2.1 x).2.2.1 * 4000 + offC p.1.1 p.1.2.1 x) * 16 + x
theorem kyL_lt (hr : rP h X B p) (hw : WfP p) {x y : Nat} (hx : x < p.1.2.1.length) (hy : y < p.1.2.1.length) (hb : pBf p.1.1 p.1.2.1 (offC p.1.1 p.1.2.1) x y) : kyL p x < kyL p y := by
  have h16 := hw.1.2.1.1
  have o1 := offC_le hr hx
  have o2 := offC_le hr hy
  unfold pBf at hb
  unfold kyL
  omega
theorem l_shO (hr : rP h X B p) (hw : WfP p) (l3 : Option Value) (y4 : Int32) (Q : Option Value → Hp → Prop)
    (K : ∀ l5 l7 l8, WP 113 233 [some (.ref X), some (.int t), some (.int (nI (cSh p.1.2.1 t p.1.2.1.length))), l3, some (.int y4), some (.int l5), some (.int (nI (cSh p.1.2.1 t p.1.2.1.length))), l7, l8] [] h Q) :
    ∀ m k (last : Int32) l7 l8, m + k = cSh p.1.2.1 t p.1.2.1.length → (∀ x, x < p.1.2.1.length → shownP (lnA p.1.2.1 x) t = true → rkL p.1.1 p.1.2.1 (offC p.1.1 p.1.2.1) t x = k → last < nI (kyL p x)) →
    WP 113 141 [some (.ref X), some (.int t), some (.int (nI (cSh p.1.2.1 t p.1.2.1.length))), l3, some (.int y4), some (.int last), some (.int (nI k)), l7, l8] [] h Q := by
  have h16 := hw.1.2.1.1
  have cs := cSh_le (L := p.1.2.1) t p.1.2.1.length
  intro m
  induction m with
  | zero =>
    intro k last l7 l8 hk hl
    have hk : k = cSh p.1.2.1 t p.1.2.1.length := by omega
    subst hk
    have e := K last l7 l8
    rw [sL_shown_141]
    simp (disch := (first | omega | assumption | (simp (disch := omega) only [Int32.lt_iff_toInt_lt, Int32.le_iff_toInt_le, ← Int32.toInt_inj, nI_toInt, zi_m1, zi_m2, zi_m3, zi_m9]; omega) | decide)) only [sL_shown_143, sL_shown_144, zpush_v, zpush_n, gCk, gAi, gSi, gLi, gLq, ↓if_pos, ↓if_neg, ↓reduceIte, eq_self, not_true_eq_false, not_false_eq_true]
    exact e
  | succ m ih =>
    intro k last l7 l8 hk hl
    obtain ⟨n, n1, ⟨n2, n3⟩, n4⟩ := q_shown_in (t := t) hw (k := k) (by omega)
    have o1 := offC_le hr n1
    have v4 : valS p.1.1 4 (lnA p.1.2.1 n).2.2.1 ≤ 2 := (valS_range hw.1.1 (p := 4) (by omega) (lnA p.1.2.1 n).2.2.1).2
    have hlt := hl n n1 n2 n3
    have hlt' := Int32.not_le.mpr hlt
    obtain ⟨z1, z2⟩ := of_decide_eq_true (show decide (nI (lnA p.1.2.1 n).1 ≤ t ∧ t < nI (lnA p.1.2.1 n).2.1) = true from n2)
    have z1' := Int32.not_lt.mpr z1
    have z2' := Int32.not_le.mpr z2
    have e := ih (k + 1) (nI (kyL p n)) (some (.int (nI n))) (some (.int (nI (kyL p n)))) (by omega) (fun x hx hs hk2 => by
      have hb := rk_bf n2 hs n1 hx (off := offC p.1.1 p.1.2.1) (S := p.1.1) (by omega)
      have q1 := kyL_lt hr hw n1 hx hb
      have o2 := offC_le hr hx
      have v5 : valS p.1.1 4 (lnA p.1.2.1 x).2.2.1 ≤ 2 := (valS_range hw.1.1 (p := 4) (by omega) _).2
      have q2 : kyL p x < 2147483648 := by unfold kyL; omega
      rw [Int32.lt_iff_toInt_lt, nI_toInt (by omega), nI_toInt q2]
      omega)
    have ek : (valS p.1.1 4 (lnA p.1.2.1 n).2.2.1 * 4000 + offC p.1.1 p.1.2.1 n) * 16 + n = kyL p n := rfl
    rw [sL_shown_141]
    simp (disch := (first | omega | assumption | (simp (disch := omega) only [Int32.lt_iff_toInt_lt, Int32.le_iff_toInt_le, ← Int32.toInt_inj, nI_toInt, zi_m1, zi_m2, zi_m3, zi_m9]; omega) | decide)) only [sL_shown_143, sL_shown_144, sL_shown_147, sL_shown_148, sL_shown_149, sL_shown_151, sL_shown_154i, sL_shown_154r, sL_shown_154z, sL_shown_154o, sL_shown_156, sL_shown_158, sL_shown_161, sL_shown_162, sL_shown_163, sL_shown_164, sL_shown_166, sL_shown_168, sL_shown_171, sL_shown_174, sL_shown_175, sL_shown_176, sL_shown_178, sL_shown_180, sL_shown_183, sL_shown_184, sL_shown_186, sL_shown_187, sL_shown_189, sL_shown_190i, sL_shown_190r, sL_shown_190z, sL_shown_190o, sL_shown_192, sL_shown_194, sL_shown_196, sL_shown_199, sL_shown_200, sL_shown_201, sL_shown_203, sL_shown_204, sL_shown_207, sL_shown_210, sL_shown_211, sL_shown_212, sL_shown_214, sL_shown_215, sL_shown_218, sL_shown_221, sL_shown_222, sL_shown_223, sL_shown_225i, sL_shown_225r, sL_shown_225z, sL_shown_225o, sL_shown_227i, sL_shown_227r, sL_shown_227z, sL_shown_227o, sL_shown_230, zpush_v, zpush_n, gCk, gAi, gSi, gLi, gLq, ↓if_pos, ↓if_neg, ↓reduceIte, eq_self, not_true_eq_false, not_false_eq_true, r_ck hr, x_shown hr hw, n4, r_ab10 hr hw, r_ab9 hr hw, r_ab0 hr hw, r_ab1 hr hw, nI_mul, nI_add, ek]
    exact e
theorem y_shown (hr : rP h X B p) (hw : WfP p) (Q : Option Value → Hp → Prop) (K : Q (some (.int (nI 1))) h) : WPm 113 [.ref X, .int t] h Q := by
  have h16 := hw.1.2.1.1
  have le := sng_le hw.1.1 hw.1.2.1 t p.1.2.1.length
  have C := l_shC (t := t) hr hw Q (fun l6 l7 l8 => by
    have O := l_shO (t := t) hr hw (some (.int (nI (sng p.1.1 p.1.2.1 t p.1.2.1.length).1))) (nI (sng p.1.1 p.1.2.1 t p.1.2.1.length).2) Q (fun l5 l7 l8 => by
      have fs := fcmp_same (qSung_ok p t hw)
      by_cases z : (sng p.1.1 p.1.2.1 t p.1.2.1.length).1 = 0
      · have es : qSung p t = FP.fconst0 := if_pos z
        rw [es] at fs
        rw [z]
        simp (disch := (first | omega | assumption | (simp (disch := omega) only [Int32.lt_iff_toInt_lt, Int32.le_iff_toInt_le, ← Int32.toInt_inj, nI_toInt, zi_m1, zi_m2, zi_m3, zi_m9]; omega) | decide)) only [sL_shown_233, sL_shown_234, sL_shown_237, sL_shown_238, sL_shown_241, sL_shown_243, sL_shown_244, sL_shown_245, sL_shown_246, sL_shown_247i, sL_shown_247o, sL_shown_249, sL_shown_250, sL_shown_251, sL_shown_252, sL_shown_255, sL_shown_257, sL_shown_260, sL_shown_261, sL_shown_262, sL_shown_265, sL_shown_267, sL_shown_268, sL_shown_271, sL_shown_272, sL_shown_275, sL_shown_276, zpush_v, zpush_n, gCk, gAi, gSi, gLi, gLq, ↓if_pos, ↓if_neg, ↓reduceIte, eq_self, not_true_eq_false, not_false_eq_true, r_ck hr, x_shown hr hw, q_shown_no hw, x_sung hr hw, es, fs, cmp_eq, or_true, if_true]
        exact K
      · have es : qSung p t = FP.fdiv (FP.i2f (nI (sng p.1.1 p.1.2.1 t p.1.2.1.length).2)) (FP.i2f (nI (sng p.1.1 p.1.2.1 t p.1.2.1.length).1)) := if_neg z
        have fok := qSung_ok p t hw
        rw [es] at fs fok
        simp (disch := (first | omega | assumption | (simp (disch := omega) only [Int32.lt_iff_toInt_lt, Int32.le_iff_toInt_le, ← Int32.toInt_inj, nI_toInt, zi_m1, zi_m2, zi_m3, zi_m9]; omega) | decide)) only [sL_shown_233, sL_shown_234, sL_shown_237, sL_shown_238, sL_shown_241, sL_shown_243, sL_shown_244, sL_shown_245, sL_shown_246, sL_shown_247i, sL_shown_247o, sL_shown_249, sL_shown_250, sL_shown_251, sL_shown_252, sL_shown_255, sL_shown_257, sL_shown_260, sL_shown_261, sL_shown_262, sL_shown_265, sL_shown_267, sL_shown_268, sL_shown_271, sL_shown_272, sL_shown_275, sL_shown_276, zpush_v, zpush_n, gCk, gAi, gSi, gLi, gLq, ↓if_pos, ↓if_neg, ↓reduceIte, eq_self, not_true_eq_false, not_false_eq_true, r_ck hr, x_shown hr hw, q_shown_no hw, x_sung hr hw, es, fs, cmp_eq, or_true, if_true, if_pos fok]
        exact K) (cSh p.1.2.1 t p.1.2.1.length) 0 (-1) l7 l8 rfl (fun x hx hs _ => by
          have o2 := offC_le hr hx
          have v5 : valS p.1.1 4 (lnA p.1.2.1 x).2.2.1 ≤ 2 := (valS_range hw.1.1 (p := 4) (by omega) _).2
          have q2 : kyL p x < 2147483648 := by unfold kyL; omega
          rw [Int32.lt_iff_toInt_lt, nI_toInt q2, zi_m1]
          omega)
    simp (disch := (first | omega | assumption | (simp (disch := omega) only [Int32.lt_iff_toInt_lt, Int32.le_iff_toInt_le, ← Int32.toInt_inj, nI_toInt, zi_m1, zi_m2, zi_m3, zi_m9]; omega) | decide)) only [sL_shown_135, sL_shown_136i, sL_shown_136r, sL_shown_136z, sL_shown_136o, sL_shown_138, sL_shown_139i, sL_shown_139r, sL_shown_139z, sL_shown_139o, zpush_v, zpush_n, gCk, gAi, gSi, gLi, gLq, ↓if_pos, ↓if_neg, ↓reduceIte, eq_self, not_true_eq_false, not_false_eq_true]
    exact O) p.1.2.1.length 0 none none none rfl
  have e1 : cSh p.1.2.1 t 0 = 0 := rfl
  have e2 : sng p.1.1 p.1.2.1 t 0 = (0, 0) := rfl
  rw [e1, e2] at C
  rw [eL_shown]
  simp (disch := (first | omega | assumption | (simp (disch := omega) only [Int32.lt_iff_toInt_lt, Int32.le_iff_toInt_le, ← Int32.toInt_inj, nI_toInt, zi_m1, zi_m2, zi_m3, zi_m9]; omega) | decide)) only [sL_shown_0, sL_shown_1i, sL_shown_1r, sL_shown_1z, sL_shown_1o, sL_shown_2, sL_shown_3i, sL_shown_3r, sL_shown_3z, sL_shown_3o, sL_shown_4, sL_shown_5i, sL_shown_5r, sL_shown_5z, sL_shown_5o, sL_shown_7, sL_shown_8i, sL_shown_8r, sL_shown_8z, sL_shown_8o, zpush_v, zpush_n, gCk, gAi, gSi, gLi, gLq, ↓if_pos, ↓if_neg, ↓reduceIte, eq_self, not_true_eq_false, not_false_eq_true]
  exact C
end LSH
