/-! law(), whole -/
section LW6
variable {hb : Hp} {X B b L n l : Nat} {xs : Nat → Int32} {Q : Option Value → Hp → Prop}
theorem l_acts {h : Hp} {p : PS} {e i : Nat} (hr : rP h X B p) (hw : WfP p) (hS : lst p n l e) (hi : i < l) (hn8 : n < 8) (he : e ≤ 1000) (a : Int32) (l0 l3 l4 l5 l12 l13 l14 l15 l16 : Option Value) : ∀ how, how < 7 →
    (∀ h' p' l12 l13 l14 l15 l16, FrK 12 X h h' → rP h' X B p' → WfP p' → lst p' n l (e + 40) → WP 116 1039 [l0, some (.ref X), some (.int (nI n)), l3, l4, l5, some (.int a), some (.int (nI i)), some (.long (qFp p)), none, some (.int (nI 1)), some (.int (nI how)), l12, l13, l14, l15, l16] [] h' Q) →
    WP 116 439 [l0, some (.ref X), some (.int (nI n)), l3, l4, l5, some (.int a), some (.int (nI i)), some (.long (qFp p)), none, some (.int (nI 1)), some (.int (nI how)), l12, l13, l14, l15, l16] [] h Q := by
  intro how h7 K
  have g : how = 0 ∨ how = 1 ∨ how = 2 ∨ how = 3 ∨ how = 4 ∨ how = 5 ∨ how = 6 := by omega
  rcases g with rfl | rfl | rfl | rfl | rfl | rfl | rfl
  · by_cases c : 0 < n
    · exact l_ac0 hr hw hS hi c hn8 _ _ _ _ _ _ _ _ _ _ K
    · exact l_acR hr hw hS hi (Or.inr ⟨rfl, by omega⟩) _ _ _ _ _ _ _ _ _ _ K
  · exact l_ac1 hr hw hS hi hn8 _ _ _ _ _ _ _ _ _ _ K
  · exact l_ac2 hr hw hS hi _ _ _ _ _ _ _ _ _ _ K
  · exact l_ac3 hr hw hS hi he _ _ _ _ _ _ _ _ _ _ K
  · exact l_ac4 hr hw hS hi he _ _ _ _ _ _ _ _ _ _ K
  · exact l_ac5 hr hw hS hi _ _ _ _ _ _ _ _ _ _ K
  · exact l_acR hr hw hS hi (Or.inl rfl) _ _ _ _ _ _ _ _ _ _ K
theorem l_lwT (hs : hb.1 b = some (.inl (1, L, .inl xs))) (hbX : b < X) (hL : L < 2147483648) (hn8 : n < 8) (hl : 0 < l) (hl7 : l ≤ 7) : ∀ m k h p kb l5 l6 l7 l8 l9 l10 l11 l12 l13 l14 l15 l16, m + k = 7 → FrK kb X hb h → rP h X B p → WfP p → lst p n l (150 + 40 * k) →
    (∀ h' p' l5 l6 l7 l8 l9 l10 l11 l12 l13 l14 l15 l16, FrK (kb + 13 * m) X hb h' → rP h' X B p' → WfP p' → WP 116 1119 [some (.ref b), some (.ref X), some (.int (nI n)), some (.int (nI l)), some (.int (nI 7)), l5, l6, l7, l8, l9, l10, l11, l12, l13, l14, l15, l16] [] h' Q) →
    WP 116 386 [some (.ref b), some (.ref X), some (.int (nI n)), some (.int (nI l)), some (.int (nI k)), l5, l6, l7, l8, l9, l10, l11, l12, l13, l14, l15, l16] [] h Q := by
  intro m
  induction m with
  | zero =>
    intro k h p kb l5 l6 l7 l8 l9 l10 l11 l12 l13 l14 l15 l16 hk F hr hw hS K
    have hk : k = 7 := by omega
    subst hk
    have e := K h p l5 l6 l7 l8 l9 l10 l11 l12 l13 l14 l15 l16 F hr hw
    rw [sL_law_386]
    simp (disch := (first | omega | assumption | (simp (disch := omega) only [Int32.lt_iff_toInt_lt, Int32.le_iff_toInt_le, ← Int32.toInt_inj, nI_toInt, zi_m1, zi_m2, zi_m3, zi_m9]; omega) | decide)) only [sL_law_388, sL_law_390, zpush_v, zpush_n, gCk, gAi, gSi, gLi, gLq, ↓if_pos, ↓if_neg, ↓reduceIte, eq_self, not_true_eq_false, not_false_eq_true]
    exact e
  | succ m ih =>
    intro k h p kb l5 l6 l7 l8 l9 l10 l11 l12 l13 l14 l15 l16 hk F hr hw hS K
    have hc := m_L_cell (scrK hs hbX F) hL (k := 25 + k) (by omega)
    generalize cellV L xs (25 + k) = q at hc
    generalize hd1 : q >>> (nI 4 &&& 31) = a
    have u1 := upN_lt a (m := l) hl
    generalize hd2 : upN a l = i at u1
    have u2 := upN_lt q (m := 7) (by omega)
    generalize hd3 : upN q 7 = how at u2
    have S2 := hS.2.1
    rw [sL_law_386]
    simp (disch := (first | omega | assumption | (simp (disch := omega) only [Int32.lt_iff_toInt_lt, Int32.le_iff_toInt_le, ← Int32.toInt_inj, nI_toInt, zi_m1, zi_m2, zi_m3, zi_m9]; omega) | decide)) only [sL_law_388, sL_law_390, sL_law_393, sL_law_394, sL_law_396, sL_law_398, sL_law_399, sL_law_402i, sL_law_402r, sL_law_402z, sL_law_402o, sL_law_404, sL_law_406, sL_law_407, sL_law_408i, sL_law_408r, sL_law_408z, sL_law_408o, sL_law_410, sL_law_412, sL_law_413, sL_law_416, sL_law_419i, sL_law_419r, sL_law_419z, sL_law_419o, sL_law_421, sL_law_422, zpush_v, zpush_n, gCk, gAi, gSi, gLi, gLq, ↓if_pos, ↓if_neg, ↓reduceIte, eq_self, not_true_eq_false, not_false_eq_true, hc, hd1, hd2, m_L_up, nI_add, r_ck hr, x_lines hr, S2]
    refine k_fp hr hw (fun h2 F2 hr2 => ?_)
    have A := l_acts (Q := Q) hr2 hw hS u1 hn8 (by omega) a (some (.ref b)) (some (.int (nI l))) (some (.int (nI k))) (some (.int q)) l12 l13 l14 l15 l16 how u2 (fun h3 p3 l12 l13 l14 l15 l16 F3 hr3 hw3 hS3 => by
      refine l_lwV hr3 hw3 (fun x hx => (hS3.2.2.2 x hx).1) _ _ _ (by omega) _ _ _ _ _ _ _ _ _ _ _ (fun l12 => ?_)
      exact ih (k + 1) h3 p3 (kb + 13) _ _ _ _ _ _ _ _ _ _ _ _ (by omega) ((F.tr F2).tr F3) hr3 hw3 (hS3.mono (by omega)) (fun h' p' l5 l6 l7 l8 l9 l10 l11 l12 l13 l14 l15 l16 F4 => K h' p' l5 l6 l7 l8 l9 l10 l11 l12 l13 l14 l15 l16 (F4.wd (by omega))))
    simp (disch := (first | omega | assumption | (simp (disch := omega) only [Int32.lt_iff_toInt_lt, Int32.le_iff_toInt_le, ← Int32.toInt_inj, nI_toInt, zi_m1, zi_m2, zi_m3, zi_m9]; omega) | decide)) only [sL_law_425i, sL_law_425r, sL_law_425z, sL_law_425o, sL_law_427, sL_law_428i, sL_law_428r, sL_law_428z, sL_law_428o, sL_law_430, sL_law_432, sL_law_434, sL_law_437i, sL_law_437r, sL_law_437z, sL_law_437o, zpush_v, zpush_n, gCk, gAi, gSi, gLi, gLq, ↓if_pos, ↓if_neg, ↓reduceIte, eq_self, not_true_eq_false, not_false_eq_true, hd3, m_L_up]
    exact A
/-- the law, from any heap whose script lies below -/
theorem y_law {h : Hp} (hs : h.1 b = some (.inl (1, L, .inl xs))) (hbX : b < X) (hL : L < 2147483648) (hz : h.2.1 = X) (hK : HpK h) (h0 : h.2.2 = 0) (hQ : ∀ h', X ≤ h'.2.1 → h'.2.1 ≤ X + 10000 → h'.2.2 ≤ 1000000 → Q (some (.int (nI 1))) h') : WPm 116 [.ref b] h Q := by
  obtain ⟨h1, w1, r1, q1⟩ := c_Main hz hK
  have z1 : h1.2.1 = X + 180 := w1.1
  have y1 : h1.2.2 = 10451 := by have := w1.2.2.2; rw [h0] at this; rw [this]
  have hs1 : h1.1 b = some (.inl (1, L, .inl xs)) := (w1.2.2.1 b hbX).trans hs
  rw [eL_law]
  simp (disch := (first | omega | assumption | (simp (disch := omega) only [Int32.lt_iff_toInt_lt, Int32.le_iff_toInt_le, ← Int32.toInt_inj, nI_toInt, zi_m1, zi_m2, zi_m3, zi_m9]; omega) | decide)) only [sL_law_0, sL_law_3, sL_law_3i, sL_law_4, sL_law_7i, sL_law_7iN, sL_law_7r, sL_law_7rN, sL_law_7z, sL_law_7zN, sL_law_7o, sL_law_7oN, sL_law_8, sL_law_9, zpush_v, zpush_n, gCk, gAi, gSi, gLi, gLq, ↓if_pos, ↓if_neg, ↓reduceIte, eq_self, not_true_eq_false, not_false_eq_true, hnew_hadd, hz, q1, r_ck r1]
  have F : FrK 0 X h1 h1 := FrK.rf
  refine k_undo (p' := p0) (v := -9) r1 WfP_0 rfl (fun h2 F2 r2 _ => ?_)
  replace F := F.tr F2
  have s0 : nI p0.1.1.1 = nI 0 := rfl
  have s1 : nI p0.1.2.1.length = nI 0 := rfl
  have s2 : nI (basicN 0) = nI 20 := rfl
  simp (disch := (first | omega | assumption | (simp (disch := omega) only [Int32.lt_iff_toInt_lt, Int32.le_iff_toInt_le, ← Int32.toInt_inj, nI_toInt, zi_m1, zi_m2, zi_m3, zi_m9]; omega) | decide)) only [sL_law_12, sL_law_14, sL_law_17, sL_law_18, sL_law_21, sL_law_24, sL_law_25, sL_law_28, sL_law_31, sL_law_32, sL_law_33, sL_law_34, sL_law_37, sL_law_39, sL_law_42, sL_law_43, zpush_v, zpush_n, gCk, gAi, gSi, gLi, gLq, ↓if_pos, ↓if_neg, ↓reduceIte, eq_self, not_true_eq_false, not_false_eq_true, r_ck r2, x_styles r2, x_lines r2, s0, s1, s2, r_valN r2 WfP_0]
  refine k_unlike r2 WfP_0 (fun h3 F3 r3 => ?_)
  replace F := F.tr F3
  simp (disch := (first | omega | assumption | (simp (disch := omega) only [Int32.lt_iff_toInt_lt, Int32.le_iff_toInt_le, ← Int32.toInt_inj, nI_toInt, zi_m1, zi_m2, zi_m3, zi_m9]; omega) | decide)) only [sL_law_46, sL_law_49, sL_law_50, zpush_v, zpush_n, gCk, gAi, gSi, gLi, gLq, ↓if_pos, ↓if_neg, ↓reduceIte, eq_self, not_true_eq_false, not_false_eq_true, r_ck r3]
  refine k_flatten (p' := kp p0 (flatS p0.1.1, p0.1.2)) (v := nI 0) r3 WfP_0 rfl (fun h4 F4 r4 w4 => ?_)
  replace F := F.tr F4
  simp (disch := (first | omega | assumption | (simp (disch := omega) only [Int32.lt_iff_toInt_lt, Int32.le_iff_toInt_le, ← Int32.toInt_inj, nI_toInt, zi_m1, zi_m2, zi_m3, zi_m9]; omega) | decide)) only [sL_law_53, sL_law_56, sL_law_57, zpush_v, zpush_n, gCk, gAi, gSi, gLi, gLq, ↓if_pos, ↓if_neg, ↓reduceIte, eq_self, not_true_eq_false, not_false_eq_true, r_ck r4]
  refine k_undo (p' := p0) (v := nI 0) r4 w4 (undo_kept (hist := []) (st := p0.1) rfl) (fun h5 F5 r5 _ => ?_)
  replace F := F.tr F5
  have su : qSung p0 (nI 5) = FP.fconst0 := rfl
  have fs := fcmp_same (qSung_ok p0 (nI 5) WfP_0)
  rw [su] at fs
  simp (disch := (first | omega | assumption | (simp (disch := omega) only [Int32.lt_iff_toInt_lt, Int32.le_iff_toInt_le, ← Int32.toInt_inj, nI_toInt, zi_m1, zi_m2, zi_m3, zi_m9]; omega) | decide)) only [sL_law_60, sL_law_63, sL_law_64, sL_law_65, sL_law_68, sL_law_69, sL_law_70, sL_law_73, sL_law_74, zpush_v, zpush_n, gCk, gAi, gSi, gLi, gLq, ↓if_pos, ↓if_neg, ↓reduceIte, eq_self, not_true_eq_false, not_false_eq_true, r_ck r5, x_sung r5 WfP_0, su, fs, cmp_eq]
  refine y_fails r5 WfP_0 (fun h6 F6 r6 => ?_)
  replace F := F.tr F6
  have hc := m_L_cell (scrK hs1 hbX F) hL (k := 0) (by omega)
  generalize cellV L xs 0 = q0 at hc
  have u1 := upN_lt q0 (m := 8) (by omega)
  generalize hd1 : upN q0 8 = n at u1
  have A := l_lwS (Q := Q) (n := n) hs1 hbX hL u1 n 0 h6 p0 _ none none none rfl F r6 WfP_0 ⟨rfl, rfl, rfl⟩ (fun h7 p7 l3 l4 l5 l6 F7 r7 w7 S7 => by
    have hc2 := m_L_cell (scrK hs1 hbX F7) hL (k := 0) (by omega)
    generalize cellV L xs 0 = q0 at hc2
    generalize hd2 : q0 >>> (nI 3 &&& 31) = q1
    have u2 := upN_lt q1 (m := 7) (by omega)
    generalize hd3 : upN q1 7 = l at u2
    have C := l_lwL (Q := Q) (n := n) (l := 1 + l) hs1 hbX hL u1 (by omega) (1 + l) 0 h7 p7 _ l5 l6 none rfl F7 r7 w7 ⟨S7.1, by rw [S7.2.1]; rfl, S7.2.2, fun x hx => by rw [S7.2.1] at hx; cases hx⟩ (fun h8 p8 l5 l6 l7 F8 r8 w8 S8 => by
      have D := l_lwT (Q := Q) hs1 hbX hL u1 (by omega) (by omega) 7 0 h8 p8 _ l5 l6 l7 none none none none none none none none none rfl F8 r8 w8 S8 (fun h9 p9 l5 l6 l7 l8 l9 l10 l11 l12 l13 l14 l15 l16 F9 r9 w9 => by
        simp (disch := (first | omega | assumption | (simp (disch := omega) only [Int32.lt_iff_toInt_lt, Int32.le_iff_toInt_le, ← Int32.toInt_inj, nI_toInt, zi_m1, zi_m2, zi_m3, zi_m9]; omega) | decide)) only [sL_law_1119, sL_law_1120, zpush_v, zpush_n, gCk, gAi, gSi, gLi, gLq, ↓if_pos, ↓if_neg, ↓reduceIte, eq_self, not_true_eq_false, not_false_eq_true]
        refine y_flattens r9 w9 (fun ha pa Fa ra wa _ => ?_)
        simp (disch := (first | omega | assumption | (simp (disch := omega) only [Int32.lt_iff_toInt_lt, Int32.le_iff_toInt_le, ← Int32.toInt_inj, nI_toInt, zi_m1, zi_m2, zi_m3, zi_m9]; omega) | decide)) only [sL_law_1123, sL_law_1126, sL_law_1127, zpush_v, zpush_n, gCk, gAi, gSi, gLi, gLq, ↓if_pos, ↓if_neg, ↓reduceIte, eq_self, not_true_eq_false, not_false_eq_true]
        refine y_fails ra wa (fun hc Fc rc => ?_)
        have G := (F9.tr Fa).tr Fc
        have G1 := G.1
        simp (disch := (first | omega | assumption | (simp (disch := omega) only [Int32.lt_iff_toInt_lt, Int32.le_iff_toInt_le, ← Int32.toInt_inj, nI_toInt, zi_m1, zi_m2, zi_m3, zi_m9]; omega) | decide)) only [sL_law_1130, sL_law_1133, sL_law_1134, sL_law_1137, sL_law_1138, zpush_v, zpush_n, gCk, gAi, gSi, gLi, gLq, ↓if_pos, ↓if_neg, ↓reduceIte, eq_self, not_true_eq_false, not_false_eq_true]
        try simp only [or_true, if_true]
        exact hQ hc (by omega) (by omega) (by omega))
      simp (disch := (first | omega | assumption | (simp (disch := omega) only [Int32.lt_iff_toInt_lt, Int32.le_iff_toInt_le, ← Int32.toInt_inj, nI_toInt, zi_m1, zi_m2, zi_m3, zi_m9]; omega) | decide)) only [sL_law_383, sL_law_384i, sL_law_384r, sL_law_384z, sL_law_384o, zpush_v, zpush_n, gCk, gAi, gSi, gLi, gLq, ↓if_pos, ↓if_neg, ↓reduceIte, eq_self, not_true_eq_false, not_false_eq_true]
      exact D)
    simp (disch := (first | omega | assumption | (simp (disch := omega) only [Int32.lt_iff_toInt_lt, Int32.le_iff_toInt_le, ← Int32.toInt_inj, nI_toInt, zi_m1, zi_m2, zi_m3, zi_m9]; omega) | decide)) only [sL_law_266, sL_law_267, sL_law_268, sL_law_269, sL_law_272, sL_law_273, sL_law_274, sL_law_276, sL_law_279, sL_law_280i, sL_law_280r, sL_law_280z, sL_law_280o, sL_law_281, sL_law_282i, sL_law_282r, sL_law_282z, sL_law_282o, zpush_v, zpush_n, gCk, gAi, gSi, gLi, gLq, ↓if_pos, ↓if_neg, ↓reduceIte, eq_self, not_true_eq_false, not_false_eq_true, hc2, hd2, hd3, m_L_up, nI_add]
    exact C)
  simp (disch := (first | omega | assumption | (simp (disch := omega) only [Int32.lt_iff_toInt_lt, Int32.le_iff_toInt_le, ← Int32.toInt_inj, nI_toInt, zi_m1, zi_m2, zi_m3, zi_m9]; omega) | decide)) only [sL_law_77, sL_law_82, sL_law_83, sL_law_84, sL_law_87, sL_law_89, sL_law_92i, sL_law_92r, sL_law_92z, sL_law_92o, sL_law_93, sL_law_94i, sL_law_94r, sL_law_94z, sL_law_94o, zpush_v, zpush_n, gCk, gAi, gSi, gLi, gLq, ↓if_pos, ↓if_neg, ↓reduceIte, eq_self, not_true_eq_false, not_false_eq_true, hc, hd1, m_L_up]
  exact A
end LW6
