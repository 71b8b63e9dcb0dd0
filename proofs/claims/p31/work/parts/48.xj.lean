/-! SubtitleStyles: fit -/
section XJ
variable {h h' : Hp} {X B : Nat} {p : PS}
theorem x_fit (hr : rP h X B p) (hw : WfP p) (l : Int32) : ∃ h', Fr X h h' ∧ (rP h' X B (opFit p l).1 ∧ WfP (opFit p l).1) ∧ ∀ Q : Option Value → Hp → Prop, WPm 92 [.ref X, .int l] h Q = Q (some (.int (opFit p l).2)) h' := by
  obtain ⟨c1, c2, hS, -, -⟩ := hr.1.facts
  obtain ⟨⟨fs, ch⟩, ⟨fs2, cp⟩⟩ := hr.1.cells
  have h16 := hw.1.2.1.1
  have BB := hr.1.2.2.2.1
  have mm : nI 0 - nI 1 = -1 := by decide
  have m3 : (nI 0).toInt = 0 := by decide
  have m9 : (nI 9999).toInt = 9999 := by decide
  unfold opFit
  rcases dN_cases p.1.2.1.length l (by omega) with ⟨i, hi, rfl, e⟩ | ⟨g, e⟩
  · rw [e]
    simp only
    obtain ⟨q0, q1, q2⟩ := lineT hr hw hi
    obtain ⟨k1, k2, k3⟩ := hr.look hw hi
    have ck := k1.cell.1
    have wl := hw.1.mem _ (lnA_mem hi)
    have b1 := wl.1.1
    have b2 := wl.1.2.1
    obtain ⟨Bq, t0, Bt, ct0, rt0⟩ := id q1
    have l20 := (rdL_ok hw.1.1 wl.1).2.1
    have sm := rdL_sum hw.1.1 wl.1
    by_cases z0 : (rdL p.1.1 (lnA p.1.2.1 i)).2.2.length = 0
    · rw [if_pos z0]
      rw [z0] at ck
      refine ⟨h, Fr.rf, ⟨hr, hw⟩, fun Q => ?_⟩
      rw [eX9_fit]
      simp (disch := (first | omega | assumption | (simp (disch := omega) only [Int32.lt_iff_toInt_lt, Int32.le_iff_toInt_le, ← Int32.toInt_inj, nI_toInt, zi_m1, zi_m2, zi_m3, zi_m9]; omega) | decide)) only [sX9_fit_0, sX9_fit_1, sX9_fit_4, sX9_fit_5, sX9_fit_8i, sX9_fit_8iN, sX9_fit_8r, sX9_fit_8rN, sX9_fit_8z, sX9_fit_8zN, sX9_fit_8o, sX9_fit_8oN, sX9_fit_9, sX9_fit_10, sX9_fit_13, sX9_fit_14, sX9_fit_17i, sX9_fit_17iN, sX9_fit_17r, sX9_fit_17rN, sX9_fit_17z, sX9_fit_17zN, sX9_fit_17o, sX9_fit_17oN, sX9_fit_18, sX9_fit_18n, sX9_fit_19, sX9_fit_19n, sX9_fit_22, sX9_fit_22n, sX9_fit_23, sX9_fit_23n, sX9_fit_26, sX9_fit_27, sX9_fit_28, sX9_fit_28n, sX9_fit_29, sX9_fit_32, sX9_fit_33, sX9_fit_34i, sX9_fit_34r, sX9_fit_34z, sX9_fit_34o, sX9_fit_36, sX9_fit_38, sX9_fit_41, sX9_fit_43, sX9_fit_44, sX9_fit_44n, sX9_fit_45, sX9_fit_48, sX9_fit_48n, sX9_fit_49, sX9_fit_51, sX9_fit_52, sX9_fit_55, sX9_fit_56i, sX9_fit_56r, sX9_fit_56z, sX9_fit_56o, sX9_fit_58, sX9_fit_58n, sX9_fit_59, sX9_fit_62, sX9_fit_62n, sX9_fit_63, sX9_fit_66, sX9_fit_67, sX9_fit_69, sX9_fit_70i, sX9_fit_70r, sX9_fit_70z, sX9_fit_70o, sX9_fit_72, sX9_fit_74, sX9_fit_77, sX9_fit_79, sX9_fit_82, sX9_fit_85, sX9_fit_87, sX9_fit_88, sX9_fit_89, sX9_fit_92, sX9_fit_93, sX9_fit_96, sX9_fit_99, sX9_fit_100, sX9_fit_103, sX9_fit_104, sX9_fit_104n, sX9_fit_105, sX9_fit_105n, sX9_fit_106, sX9_fit_109, sX9_fit_111, sX9_fit_114, sX9_fit_117, sX9_fit_117n, sX9_fit_120, sX9_fit_121, sX9_fit_124, sX9_fit_125, sX9_fit_128, sX9_fit_131, sX9_fit_133, gG9_0, gG9_1, gG9_2, gG9_3, gG9_4, gG9_5, gG9_6, gG9_7, gP9_0, gP9_1, gP9_2, gP9_3, gP9_4, gP9_5, gP9_6, gP9_7, gG6_0, gG6_1, gG6_2, gG6_3, gP6_0, gP6_1, gP6_2, gP6_3, gG1_0, gG1_1, gG1_2, gG1_3, gG1_4, gP1_0, gP1_1, gP1_2, gP1_3, gP1_4, gG2_0, gG2_1, gG2_2, gG2_3, gG2_4, gG2_5, gG2_6, gG2_7, gG2_8, gG2_9, gG2_10, gG2_11, gP2_0, gP2_1, gP2_2, gP2_3, gP2_4, gP2_5, gP2_6, gP2_7, gP2_8, gP2_9, gP2_10, gP2_11, zpush_v, zpush_n, gCk, gAi, gSi, gLi, gLq, ↓if_pos, ↓if_neg, c1, c2, q2, cp, k3, ck, mm]
    · rw [if_neg z0]
      have sy := m_X2_sylNumber k1 hw.1.1 wl.1 (i := (rdL p.1.1 (lnA p.1.2.1 i)).2.2.length - 1) (w := 1) (by omega) (by omega)
      have sye : syW (lnA p.1.2.1 i).1 (rdL p.1.1 (lnA p.1.2.1 i)) ((rdL p.1.1 (lnA p.1.2.1 i)).2.2.length - 1) 1 = nI ((rdL p.1.1 (lnA p.1.2.1 i)).2.2.getD ((rdL p.1.1 (lnA p.1.2.1 i)).2.2.length - 1) 0) := rfl
      rw [sye] at sy
      have gd := getD_le (l := (rdL p.1.1 (lnA p.1.2.1 i)).2.2) (i := (rdL p.1.1 (lnA p.1.2.1 i)).2.2.length - 1)
      obtain ⟨lv, elv⟩ : ∃ v, v = (rdL p.1.1 (lnA p.1.2.1 i)).2.2.getD ((rdL p.1.1 (lnA p.1.2.1 i)).2.2.length - 1) 0 := ⟨_, rfl⟩
      rw [← elv] at sy gd
      have dv : dueOf p.1.1 (lnA p.1.2.1 i) = ((lnA p.1.2.1 i).2.1 : Int) - (lnA p.1.2.1 i).1 - (((rdL p.1.1 (lnA p.1.2.1 i)).2.2.sum : Int) - lv) := by unfold dueOf; rw [← elv]
      have T := nI_subT (a := (lnA p.1.2.1 i).2.1 - (lnA p.1.2.1 i).1) (b := (rdL p.1.1 (lnA p.1.2.1 i)).2.2.sum - lv) (by omega) (by omega)
      obtain ⟨D, eD⟩ : ∃ D, D = nI ((lnA p.1.2.1 i).2.1 - (lnA p.1.2.1 i).1) - nI ((rdL p.1.1 (lnA p.1.2.1 i)).2.2.sum - lv) := ⟨_, rfl⟩
      rw [← eD] at T
      have T2 : D.toInt = dueOf p.1.1 (lnA p.1.2.1 i) := by rw [T, dv]; omega
      by_cases z1 : dueOf p.1.1 (lnA p.1.2.1 i) < 0 ∨ 9999 < dueOf p.1.1 (lnA p.1.2.1 i)
      · rw [if_pos z1]
        refine ⟨h, Fr.rf, ⟨hr, hw⟩, fun Q => ?_⟩
        rw [eX9_fit]
        by_cases z2 : dueOf p.1.1 (lnA p.1.2.1 i) < 0
        · have d1 : D < nI 0 := by rw [Int32.lt_iff_toInt_lt, T2, m3]; exact z2
          simp (disch := (first | omega | assumption | (simp (disch := omega) only [Int32.lt_iff_toInt_lt, Int32.le_iff_toInt_le, ← Int32.toInt_inj, nI_toInt, zi_m1, zi_m2, zi_m3, zi_m9]; omega) | decide)) only [sX9_fit_0, sX9_fit_1, sX9_fit_4, sX9_fit_5, sX9_fit_8i, sX9_fit_8iN, sX9_fit_8r, sX9_fit_8rN, sX9_fit_8z, sX9_fit_8zN, sX9_fit_8o, sX9_fit_8oN, sX9_fit_9, sX9_fit_10, sX9_fit_13, sX9_fit_14, sX9_fit_17i, sX9_fit_17iN, sX9_fit_17r, sX9_fit_17rN, sX9_fit_17z, sX9_fit_17zN, sX9_fit_17o, sX9_fit_17oN, sX9_fit_18, sX9_fit_18n, sX9_fit_19, sX9_fit_19n, sX9_fit_22, sX9_fit_22n, sX9_fit_23, sX9_fit_23n, sX9_fit_26, sX9_fit_27, sX9_fit_28, sX9_fit_28n, sX9_fit_29, sX9_fit_32, sX9_fit_33, sX9_fit_34i, sX9_fit_34r, sX9_fit_34z, sX9_fit_34o, sX9_fit_36, sX9_fit_38, sX9_fit_41, sX9_fit_43, sX9_fit_44, sX9_fit_44n, sX9_fit_45, sX9_fit_48, sX9_fit_48n, sX9_fit_49, sX9_fit_51, sX9_fit_52, sX9_fit_55, sX9_fit_56i, sX9_fit_56r, sX9_fit_56z, sX9_fit_56o, sX9_fit_58, sX9_fit_58n, sX9_fit_59, sX9_fit_62, sX9_fit_62n, sX9_fit_63, sX9_fit_66, sX9_fit_67, sX9_fit_69, sX9_fit_70i, sX9_fit_70r, sX9_fit_70z, sX9_fit_70o, sX9_fit_72, sX9_fit_74, sX9_fit_77, sX9_fit_79, sX9_fit_82, sX9_fit_85, sX9_fit_87, sX9_fit_88, sX9_fit_89, sX9_fit_92, sX9_fit_93, sX9_fit_96, sX9_fit_99, sX9_fit_100, sX9_fit_103, sX9_fit_104, sX9_fit_104n, sX9_fit_105, sX9_fit_105n, sX9_fit_106, sX9_fit_109, sX9_fit_111, sX9_fit_114, sX9_fit_117, sX9_fit_117n, sX9_fit_120, sX9_fit_121, sX9_fit_124, sX9_fit_125, sX9_fit_128, sX9_fit_131, sX9_fit_133, gG9_0, gG9_1, gG9_2, gG9_3, gG9_4, gG9_5, gG9_6, gG9_7, gP9_0, gP9_1, gP9_2, gP9_3, gP9_4, gP9_5, gP9_6, gP9_7, gG6_0, gG6_1, gG6_2, gG6_3, gP6_0, gP6_1, gP6_2, gP6_3, gG1_0, gG1_1, gG1_2, gG1_3, gG1_4, gP1_0, gP1_1, gP1_2, gP1_3, gP1_4, gG2_0, gG2_1, gG2_2, gG2_3, gG2_4, gG2_5, gG2_6, gG2_7, gG2_8, gG2_9, gG2_10, gG2_11, gP2_0, gP2_1, gP2_2, gP2_3, gP2_4, gP2_5, gP2_6, gP2_7, gP2_8, gP2_9, gP2_10, gP2_11, zpush_v, zpush_n, gCk, gAi, gSi, gLi, gLq, ↓if_pos, ↓if_neg, c1, c2, q2, cp, k3, ck, ct0, nI_sub, sy, ← eD]
        · have d1 : ¬ D < nI 0 := by rw [Int32.lt_iff_toInt_lt, T2, m3]; exact z2
          have d2 : ¬ D ≤ nI 9999 := by rw [Int32.le_iff_toInt_le, T2, m9]; omega
          simp (disch := (first | omega | assumption | (simp (disch := omega) only [Int32.lt_iff_toInt_lt, Int32.le_iff_toInt_le, ← Int32.toInt_inj, nI_toInt, zi_m1, zi_m2, zi_m3, zi_m9]; omega) | decide)) only [sX9_fit_0, sX9_fit_1, sX9_fit_4, sX9_fit_5, sX9_fit_8i, sX9_fit_8iN, sX9_fit_8r, sX9_fit_8rN, sX9_fit_8z, sX9_fit_8zN, sX9_fit_8o, sX9_fit_8oN, sX9_fit_9, sX9_fit_10, sX9_fit_13, sX9_fit_14, sX9_fit_17i, sX9_fit_17iN, sX9_fit_17r, sX9_fit_17rN, sX9_fit_17z, sX9_fit_17zN, sX9_fit_17o, sX9_fit_17oN, sX9_fit_18, sX9_fit_18n, sX9_fit_19, sX9_fit_19n, sX9_fit_22, sX9_fit_22n, sX9_fit_23, sX9_fit_23n, sX9_fit_26, sX9_fit_27, sX9_fit_28, sX9_fit_28n, sX9_fit_29, sX9_fit_32, sX9_fit_33, sX9_fit_34i, sX9_fit_34r, sX9_fit_34z, sX9_fit_34o, sX9_fit_36, sX9_fit_38, sX9_fit_41, sX9_fit_43, sX9_fit_44, sX9_fit_44n, sX9_fit_45, sX9_fit_48, sX9_fit_48n, sX9_fit_49, sX9_fit_51, sX9_fit_52, sX9_fit_55, sX9_fit_56i, sX9_fit_56r, sX9_fit_56z, sX9_fit_56o, sX9_fit_58, sX9_fit_58n, sX9_fit_59, sX9_fit_62, sX9_fit_62n, sX9_fit_63, sX9_fit_66, sX9_fit_67, sX9_fit_69, sX9_fit_70i, sX9_fit_70r, sX9_fit_70z, sX9_fit_70o, sX9_fit_72, sX9_fit_74, sX9_fit_77, sX9_fit_79, sX9_fit_82, sX9_fit_85, sX9_fit_87, sX9_fit_88, sX9_fit_89, sX9_fit_92, sX9_fit_93, sX9_fit_96, sX9_fit_99, sX9_fit_100, sX9_fit_103, sX9_fit_104, sX9_fit_104n, sX9_fit_105, sX9_fit_105n, sX9_fit_106, sX9_fit_109, sX9_fit_111, sX9_fit_114, sX9_fit_117, sX9_fit_117n, sX9_fit_120, sX9_fit_121, sX9_fit_124, sX9_fit_125, sX9_fit_128, sX9_fit_131, sX9_fit_133, gG9_0, gG9_1, gG9_2, gG9_3, gG9_4, gG9_5, gG9_6, gG9_7, gP9_0, gP9_1, gP9_2, gP9_3, gP9_4, gP9_5, gP9_6, gP9_7, gG6_0, gG6_1, gG6_2, gG6_3, gP6_0, gP6_1, gP6_2, gP6_3, gG1_0, gG1_1, gG1_2, gG1_3, gG1_4, gP1_0, gP1_1, gP1_2, gP1_3, gP1_4, gG2_0, gG2_1, gG2_2, gG2_3, gG2_4, gG2_5, gG2_6, gG2_7, gG2_8, gG2_9, gG2_10, gG2_11, gP2_0, gP2_1, gP2_2, gP2_3, gP2_4, gP2_5, gP2_6, gP2_7, gP2_8, gP2_9, gP2_10, gP2_11, zpush_v, zpush_n, gCk, gAi, gSi, gLi, gLq, ↓if_pos, ↓if_neg, c1, c2, q2, cp, k3, ck, ct0, nI_sub, sy, ← eD]
      · rw [if_neg z1]
        have d1 : ¬ D < nI 0 := by rw [Int32.lt_iff_toInt_lt, T2, m3]; omega
        have d2 : D ≤ nI 9999 := by rw [Int32.le_iff_toInt_le, T2, m9]; omega
        have hd9 : (dueOf p.1.1 (lnA p.1.2.1 i)).toNat ≤ 9999 := by omega
        have dD : D = nI (dueOf p.1.1 (lnA p.1.2.1 i)).toNat := eq_nI (by rw [T2]; omega) (by omega)
        obtain ⟨d, ed⟩ : ∃ d, d = (dueOf p.1.1 (lnA p.1.2.1 i)).toNat := ⟨_, rfl⟩
        rw [← ed] at dD hd9 ⊢
        obtain ⟨h1, s1, r1, w1⟩ := s_keep hr.1 hw
        have K1 := r1.2.2.1
        have B1 := r1.2.2.2.2
        obtain ⟨t', et⟩ : ∃ t, h1.2.1 = t := ⟨_, rfl⟩
        have ct1 : h1.1 q0 = _ := (s1.at (Or.inr (by omega))).trans ct0
        have rt1 := rt0.off s1 (by omega)
        obtain ⟨okK, k20⟩ := setK_ok (v := d) wl.1.2.2.2.2.2.1 hd9 wl.1.2.2.2.2.2.2
        obtain ⟨ga, a1, az, a2, a3, a4, wK⟩ := m_X8_withLast (v := d) rt1 wl.1.2.2.2.2.1 wl.1.2.2.2.2.2.1 et K1
        have lq0 := K1.lt ct1
        have cga : ga.1 q0 = _ := (a3 q0 (by omega)).trans ct1
        obtain ⟨hb, eb⟩ : ∃ g, g = hadd ga (t' + 5) (.inr (1, [.int (nI (lnA p.1.2.1 i).1), .int (nI (lnA p.1.2.1 i).2.1), .int (eN (lnA p.1.2.1 i).2.2.1), .int (eN (lnA p.1.2.1 i).2.2.2.1), .ref t'])) 5 := ⟨_, rfl⟩
        have wL := m_X1_withText (t' := t') a1 cga (by omega)
        rw [← eb] at wL
        have kb : HpK hb := by rw [eb]; exact a2.add a1
        have lowb : ∀ z, z < t' + 5 → hb.1 z = ga.1 z := fun z hz => by rw [eb]; exact hadd_ne (by omega)
        have low : ∀ z, z < t' → hb.1 z = h1.1 z := fun z hz => by rw [lowb z (by omega), a3 z hz]
        have sb : hb.2.1 = t' + 6 := by rw [eb]; rfl
        have rb := r1.grow (Kp.of K1 et low) kb (by omega)
        have kgb : Kp ga hb := Kp.of a2 a1 lowb
        have hln : rLn hb B (t' + 5) ((lnA p.1.2.1 i).1, (lnA p.1.2.1 i).2.1, (lnA p.1.2.1 i).2.2.1, (lnA p.1.2.1 i).2.2.2.1, setK (lnA p.1.2.1 i).2.2.2.2 d) :=
          ⟨by omega, t', by omega, by rw [eb, hadd_at], a4.kp kgb⟩
        obtain ⟨h2, s2, t2, w2⟩ := m_X6_putLine rb.1.2.2.2.1 (by omega) h16 hi hln
        have r2 := rb.scr s2 t2
        have hw2 : WfSt (putL p.1 i ((lnA p.1.2.1 i).1, (lnA p.1.2.1 i).2.1, (lnA p.1.2.1 i).2.2.1, (lnA p.1.2.1 i).2.2.2.1, setK (lnA p.1.2.1 i).2.2.2.2 d)) := hw.1.put ⟨⟨b1, b2, wl.1.2.2.1, wl.1.2.2.2.1, by show (setK (lnA p.1.2.1 i).2.2.2.2 d).length ≤ 80; rw [setK_length]; exact wl.1.2.2.2.2.1, okK, k20⟩, wl.2⟩
        obtain ⟨h3, s3, r3, w3⟩ := s_draw r2 hw2
        obtain ⟨d1', d2', -, -, -⟩ := r1.facts
        obtain ⟨rb1, rb2, -, -, -⟩ := rb.facts
        obtain ⟨f1, f2, -, -, -⟩ := r2.facts
        obtain ⟨-, ⟨fs3, f4⟩⟩ := r2.cells
        have i80 := wl.1.2.2.2.2.1
        have zb : hb.2.2 = h1.2.2 + 10 + 2 * (lnA p.1.2.1 i).2.2.2.2.length := by
          rw [eb]
          show ga.2.2 + 5 = _
          rw [az]
          omega
        have fa : FrK 1 X h1 hb := ⟨by omega, fun z hz => by
          rcases Nat.lt_or_ge z t' with c | c
          · exact low z c
          · omega⟩
        have ctx := rt1.choose_spec.choose_spec.1
        refine ⟨h3, ((((Fr.s s1 (by omega) (by omega)).tr fa).tr (Fr.s s2 (by omega) (by omega))).tr (Fr.s s3 (by omega) (by omega))).w (by decide), ⟨r3, hw.kp hw2⟩, fun Q => ?_⟩
        rw [eX9_fit]
        simp (disch := (first | omega | assumption | (simp (disch := omega) only [Int32.lt_iff_toInt_lt, Int32.le_iff_toInt_le, ← Int32.toInt_inj, nI_toInt, zi_m1, zi_m2, zi_m3, zi_m9]; omega) | decide)) only [sX9_fit_0, sX9_fit_1, sX9_fit_4, sX9_fit_5, sX9_fit_8i, sX9_fit_8iN, sX9_fit_8r, sX9_fit_8rN, sX9_fit_8z, sX9_fit_8zN, sX9_fit_8o, sX9_fit_8oN, sX9_fit_9, sX9_fit_10, sX9_fit_13, sX9_fit_14, sX9_fit_17i, sX9_fit_17iN, sX9_fit_17r, sX9_fit_17rN, sX9_fit_17z, sX9_fit_17zN, sX9_fit_17o, sX9_fit_17oN, sX9_fit_18, sX9_fit_18n, sX9_fit_19, sX9_fit_19n, sX9_fit_22, sX9_fit_22n, sX9_fit_23, sX9_fit_23n, sX9_fit_26, sX9_fit_27, sX9_fit_28, sX9_fit_28n, sX9_fit_29, sX9_fit_32, sX9_fit_33, sX9_fit_34i, sX9_fit_34r, sX9_fit_34z, sX9_fit_34o, sX9_fit_36, sX9_fit_38, sX9_fit_41, sX9_fit_43, sX9_fit_44, sX9_fit_44n, sX9_fit_45, sX9_fit_48, sX9_fit_48n, sX9_fit_49, sX9_fit_51, sX9_fit_52, sX9_fit_55, sX9_fit_56i, sX9_fit_56r, sX9_fit_56z, sX9_fit_56o, sX9_fit_58, sX9_fit_58n, sX9_fit_59, sX9_fit_62, sX9_fit_62n, sX9_fit_63, sX9_fit_66, sX9_fit_67, sX9_fit_69, sX9_fit_70i, sX9_fit_70r, sX9_fit_70z, sX9_fit_70o, sX9_fit_72, sX9_fit_74, sX9_fit_77, sX9_fit_79, sX9_fit_82, sX9_fit_85, sX9_fit_87, sX9_fit_88, sX9_fit_89, sX9_fit_92, sX9_fit_93, sX9_fit_96, sX9_fit_99, sX9_fit_100, sX9_fit_103, sX9_fit_104, sX9_fit_104n, sX9_fit_105, sX9_fit_105n, sX9_fit_106, sX9_fit_109, sX9_fit_111, sX9_fit_114, sX9_fit_117, sX9_fit_117n, sX9_fit_120, sX9_fit_121, sX9_fit_124, sX9_fit_125, sX9_fit_128, sX9_fit_131, sX9_fit_133, gG9_0, gG9_1, gG9_2, gG9_3, gG9_4, gG9_5, gG9_6, gG9_7, gP9_0, gP9_1, gP9_2, gP9_3, gP9_4, gP9_5, gP9_6, gP9_7, gG6_0, gG6_1, gG6_2, gG6_3, gP6_0, gP6_1, gP6_2, gP6_3, gG1_0, gG1_1, gG1_2, gG1_3, gG1_4, gP1_0, gP1_1, gP1_2, gP1_3, gP1_4, gG2_0, gG2_1, gG2_2, gG2_3, gG2_4, gG2_5, gG2_6, gG2_7, gG2_8, gG2_9, gG2_10, gG2_11, gP2_0, gP2_1, gP2_2, gP2_3, gP2_4, gP2_5, gP2_6, gP2_7, gP2_8, gP2_9, gP2_10, gP2_11, zpush_v, zpush_n, gCk, gAi, gSi, gLi, gLq, ↓if_pos, ↓if_neg, c1, c2, q2, cp, k3, ck, ct0, nI_sub, sy, ← eD]
        rw [dD]
        simp (disch := (first | omega | assumption | (simp (disch := omega) only [Int32.lt_iff_toInt_lt, Int32.le_iff_toInt_le, ← Int32.toInt_inj, nI_toInt, zi_m1, zi_m2, zi_m3, zi_m9]; omega) | decide)) only [sX9_fit_88, sX9_fit_89, sX9_fit_92, sX9_fit_93, sX9_fit_96, sX9_fit_99, sX9_fit_100, sX9_fit_103, sX9_fit_104, sX9_fit_104n, sX9_fit_105, sX9_fit_105n, sX9_fit_106, sX9_fit_109, sX9_fit_111, sX9_fit_114, sX9_fit_117, sX9_fit_117n, sX9_fit_120, sX9_fit_121, sX9_fit_124, sX9_fit_125, sX9_fit_128, sX9_fit_131, sX9_fit_133, gG9_0, gG9_1, gG9_2, gG9_3, gG9_4, gG9_5, gG9_6, gG9_7, gP9_0, gP9_1, gP9_2, gP9_3, gP9_4, gP9_5, gP9_6, gP9_7, gG6_0, gG6_1, gG6_2, gG6_3, gP6_0, gP6_1, gP6_2, gP6_3, gG1_0, gG1_1, gG1_2, gG1_3, gG1_4, gP1_0, gP1_1, gP1_2, gP1_3, gP1_4, gG2_0, gG2_1, gG2_2, gG2_3, gG2_4, gG2_5, gG2_6, gG2_7, gG2_8, gG2_9, gG2_10, gG2_11, gP2_0, gP2_1, gP2_2, gP2_3, gP2_4, gP2_5, gP2_6, gP2_7, gP2_8, gP2_9, gP2_10, gP2_11, zpush_v, zpush_n, gCk, gAi, gSi, gLi, gLq, ↓if_pos, ↓if_neg, c1, c2, ch, w1, d1', d2', ct1, ctx, wK, cga, wL, rb2, w2, f1, f4, w3]
  · rw [e]
    refine ⟨h, Fr.rf, ⟨hr, hw⟩, fun Q => ?_⟩
    rw [eX9_fit]
    simp (disch := (first | omega | assumption | (simp (disch := omega) only [Int32.lt_iff_toInt_lt, Int32.le_iff_toInt_le, ← Int32.toInt_inj, nI_toInt, zi_m1, zi_m2, zi_m3, zi_m9]; omega) | decide)) only [sX9_fit_0, sX9_fit_1, sX9_fit_4, sX9_fit_5, sX9_fit_8i, sX9_fit_8iN, sX9_fit_8r, sX9_fit_8rN, sX9_fit_8z, sX9_fit_8zN, sX9_fit_8o, sX9_fit_8oN, sX9_fit_9, sX9_fit_10, sX9_fit_13, sX9_fit_14, sX9_fit_17i, sX9_fit_17iN, sX9_fit_17r, sX9_fit_17rN, sX9_fit_17z, sX9_fit_17zN, sX9_fit_17o, sX9_fit_17oN, sX9_fit_18, sX9_fit_18n, sX9_fit_19, sX9_fit_19n, sX9_fit_22, sX9_fit_22n, sX9_fit_23, sX9_fit_23n, sX9_fit_26, sX9_fit_27, sX9_fit_28, sX9_fit_28n, sX9_fit_29, sX9_fit_32, sX9_fit_33, sX9_fit_34i, sX9_fit_34r, sX9_fit_34z, sX9_fit_34o, sX9_fit_36, sX9_fit_38, sX9_fit_41, sX9_fit_43, sX9_fit_44, sX9_fit_44n, sX9_fit_45, sX9_fit_48, sX9_fit_48n, sX9_fit_49, sX9_fit_51, sX9_fit_52, sX9_fit_55, sX9_fit_56i, sX9_fit_56r, sX9_fit_56z, sX9_fit_56o, sX9_fit_58, sX9_fit_58n, sX9_fit_59, sX9_fit_62, sX9_fit_62n, sX9_fit_63, sX9_fit_66, sX9_fit_67, sX9_fit_69, sX9_fit_70i, sX9_fit_70r, sX9_fit_70z, sX9_fit_70o, sX9_fit_72, sX9_fit_74, sX9_fit_77, sX9_fit_79, sX9_fit_82, sX9_fit_85, sX9_fit_87, sX9_fit_88, sX9_fit_89, sX9_fit_92, sX9_fit_93, sX9_fit_96, sX9_fit_99, sX9_fit_100, sX9_fit_103, sX9_fit_104, sX9_fit_104n, sX9_fit_105, sX9_fit_105n, sX9_fit_106, sX9_fit_109, sX9_fit_111, sX9_fit_114, sX9_fit_117, sX9_fit_117n, sX9_fit_120, sX9_fit_121, sX9_fit_124, sX9_fit_125, sX9_fit_128, sX9_fit_131, sX9_fit_133, gG9_0, gG9_1, gG9_2, gG9_3, gG9_4, gG9_5, gG9_6, gG9_7, gP9_0, gP9_1, gP9_2, gP9_3, gP9_4, gP9_5, gP9_6, gP9_7, gG6_0, gG6_1, gG6_2, gG6_3, gP6_0, gP6_1, gP6_2, gP6_3, gG1_0, gG1_1, gG1_2, gG1_3, gG1_4, gP1_0, gP1_1, gP1_2, gP1_3, gP1_4, gG2_0, gG2_1, gG2_2, gG2_3, gG2_4, gG2_5, gG2_6, gG2_7, gG2_8, gG2_9, gG2_10, gG2_11, gP2_0, gP2_1, gP2_2, gP2_3, gP2_4, gP2_5, gP2_6, gP2_7, gP2_8, gP2_9, gP2_10, gP2_11, zpush_v, zpush_n, gCk, gAi, gSi, gLi, gLq, ↓if_pos, ↓if_neg, c1, c2, cp, lineF hr g, hr.noLook g]
end XJ
