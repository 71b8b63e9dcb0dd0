/-! SubtitleStyles: shift, fit, undo -/
theorem nI_addT {b : Nat} {x : Int32} (h0 : b ≤ 1000000) (h1 : -1000000 ≤ x.toInt) (h2 : x.toInt ≤ 1000000) : (nI b + x).toInt = b + x.toInt := by
  rw [Int32.toInt_add, nI_toInt (by omega)]
  have : (2 : Nat) ^ 32 = 4294967296 := rfl
  rw [this]
  unfold Int.bmod
  simp only
  omega
theorem nI_subT {a b : Nat} (h0 : a ≤ 1000000) (h1 : b ≤ 1000000) : (nI a - nI b).toInt = (a : Int) - b := by
  rw [Int32.toInt_sub, nI_toInt (by omega), nI_toInt (by omega)]
  have : (2 : Nat) ^ 32 = 4294967296 := rfl
  rw [this]
  unfold Int.bmod
  simp only
  omega
theorem eq_nI {x : Int32} {k : Nat} (h : x.toInt = k) (hk : k < 2147483648) : x = nI k := by
  rw [← Int32.toInt_inj, nI_toInt hk, h]
section XE
variable {h h' : Hp} {X B : Nat} {p : PS}
theorem x_shift (hr : rP h X B p) (hw : WfP p) (l w : Int32) : ∃ h', Fr X h h' ∧ (rP h' X B (opShift p l w).1 ∧ WfP (opShift p l w).1) ∧ ∀ Q : Option Value → Hp → Prop, WPm 86 [.ref X, .int l, .int w] h Q = Q (some (.int (opShift p l w).2)) h' := by
  obtain ⟨c1, c2, hS, -, -⟩ := hr.1.facts
  obtain ⟨⟨fs, ch⟩, ⟨fs2, cp⟩⟩ := hr.1.cells
  have h16 := hw.1.2.1.1
  have m1 : (-100000 : Int32).toInt = -100000 := by decide
  have m2 : (nI 100000).toInt = 100000 := by decide
  have m3 : (nI 0).toInt = 0 := by decide
  unfold opShift
  rcases dN_cases p.1.2.1.length l (by omega) with ⟨i, hi, rfl, e⟩ | ⟨g, e⟩
  · rw [e]
    simp only
    obtain ⟨q0, q1, q2⟩ := lineT hr hw hi
    have wl := hw.1.mem _ (lnA_mem hi)
    have b1 := wl.1.1
    have b2 := wl.1.2.1
    obtain ⟨-, t0, -, ct0, -⟩ := id q1
    by_cases k1 : w.toInt < -100000 ∨ 100000 < w.toInt
    · rw [if_pos k1]
      refine ⟨h, Fr.rf, ⟨hr, hw⟩, fun Q => ?_⟩
      rw [eX9_shift]
      by_cases k2 : w.toInt < -100000
      · have d1 : w < -100000 := by rw [Int32.lt_iff_toInt_lt, m1]; exact k2
        simp (disch := (first | omega | assumption | (simp (disch := omega) only [Int32.lt_iff_toInt_lt, Int32.le_iff_toInt_le, ← Int32.toInt_inj, nI_toInt, zi_m1, zi_m2, zi_m3, zi_m9]; omega) | decide)) only [sX9_shift_0, sX9_shift_1, sX9_shift_4, sX9_shift_5, sX9_shift_8i, sX9_shift_8iN, sX9_shift_8r, sX9_shift_8rN, sX9_shift_8z, sX9_shift_8zN, sX9_shift_8o, sX9_shift_8oN, sX9_shift_9, sX9_shift_9n, sX9_shift_10, sX9_shift_10n, sX9_shift_13, sX9_shift_14, sX9_shift_16, sX9_shift_19, sX9_shift_20, sX9_shift_22, sX9_shift_25, sX9_shift_26, sX9_shift_27, sX9_shift_27n, sX9_shift_28, sX9_shift_31, sX9_shift_32, sX9_shift_33, sX9_shift_36, sX9_shift_36n, sX9_shift_37, sX9_shift_40, sX9_shift_41, sX9_shift_42, sX9_shift_44, sX9_shift_47, sX9_shift_49, sX9_shift_50, sX9_shift_51, sX9_shift_54, sX9_shift_55, sX9_shift_58, sX9_shift_61, sX9_shift_62, sX9_shift_65, sX9_shift_66, sX9_shift_66n, sX9_shift_67, sX9_shift_68, sX9_shift_71, sX9_shift_71n, sX9_shift_74, sX9_shift_75, sX9_shift_78, sX9_shift_79, sX9_shift_82, sX9_shift_85, sX9_shift_85n, sX9_shift_86, sX9_shift_89, sX9_shift_90, sX9_shift_91, gG9_0, gG9_1, gG9_2, gG9_3, gG9_4, gG9_5, gG9_6, gG9_7, gP9_0, gP9_1, gP9_2, gP9_3, gP9_4, gP9_5, gP9_6, gP9_7, gG6_0, gG6_1, gG6_2, gG6_3, gP6_0, gP6_1, gP6_2, gP6_3, gG1_0, gG1_1, gG1_2, gG1_3, gG1_4, gP1_0, gP1_1, gP1_2, gP1_3, gP1_4, zpush_v, zpush_n, gCk, gAi, gSi, gLi, gLq, ↓if_pos, ↓if_neg, c1, c2, q2]
      · have d1 : ¬ w < -100000 := by rw [Int32.lt_iff_toInt_lt, m1]; exact k2
        have d2 : ¬ w ≤ nI 100000 := by rw [Int32.le_iff_toInt_le, m2]; omega
        simp (disch := (first | omega | assumption | (simp (disch := omega) only [Int32.lt_iff_toInt_lt, Int32.le_iff_toInt_le, ← Int32.toInt_inj, nI_toInt, zi_m1, zi_m2, zi_m3, zi_m9]; omega) | decide)) only [sX9_shift_0, sX9_shift_1, sX9_shift_4, sX9_shift_5, sX9_shift_8i, sX9_shift_8iN, sX9_shift_8r, sX9_shift_8rN, sX9_shift_8z, sX9_shift_8zN, sX9_shift_8o, sX9_shift_8oN, sX9_shift_9, sX9_shift_9n, sX9_shift_10, sX9_shift_10n, sX9_shift_13, sX9_shift_14, sX9_shift_16, sX9_shift_19, sX9_shift_20, sX9_shift_22, sX9_shift_25, sX9_shift_26, sX9_shift_27, sX9_shift_27n, sX9_shift_28, sX9_shift_31, sX9_shift_32, sX9_shift_33, sX9_shift_36, sX9_shift_36n, sX9_shift_37, sX9_shift_40, sX9_shift_41, sX9_shift_42, sX9_shift_44, sX9_shift_47, sX9_shift_49, sX9_shift_50, sX9_shift_51, sX9_shift_54, sX9_shift_55, sX9_shift_58, sX9_shift_61, sX9_shift_62, sX9_shift_65, sX9_shift_66, sX9_shift_66n, sX9_shift_67, sX9_shift_68, sX9_shift_71, sX9_shift_71n, sX9_shift_74, sX9_shift_75, sX9_shift_78, sX9_shift_79, sX9_shift_82, sX9_shift_85, sX9_shift_85n, sX9_shift_86, sX9_shift_89, sX9_shift_90, sX9_shift_91, gG9_0, gG9_1, gG9_2, gG9_3, gG9_4, gG9_5, gG9_6, gG9_7, gP9_0, gP9_1, gP9_2, gP9_3, gP9_4, gP9_5, gP9_6, gP9_7, gG6_0, gG6_1, gG6_2, gG6_3, gP6_0, gP6_1, gP6_2, gP6_3, gG1_0, gG1_1, gG1_2, gG1_3, gG1_4, gP1_0, gP1_1, gP1_2, gP1_3, gP1_4, zpush_v, zpush_n, gCk, gAi, gSi, gLi, gLq, ↓if_pos, ↓if_neg, c1, c2, q2]
    · rw [if_neg k1]
      have d1 : ¬ w < -100000 := by rw [Int32.lt_iff_toInt_lt, m1]; omega
      have d2 : w ≤ nI 100000 := by rw [Int32.le_iff_toInt_le, m2]; omega
      have u1 := nI_addT (b := (lnA p.1.2.1 i).1) (x := w) (by omega) (by omega) (by omega)
      have u2 := nI_addT (b := (lnA p.1.2.1 i).2.1) (x := w) (by omega) (by omega) (by omega)
      by_cases k2 : ((lnA p.1.2.1 i).1 : Int) + w.toInt < 0 ∨ 100000 < ((lnA p.1.2.1 i).2.1 : Int) + w.toInt
      · rw [if_pos k2]
        refine ⟨h, Fr.rf, ⟨hr, hw⟩, fun Q => ?_⟩
        rw [eX9_shift]
        by_cases k3 : ((lnA p.1.2.1 i).1 : Int) + w.toInt < 0
        · have d3 : nI (lnA p.1.2.1 i).1 + w < nI 0 := by rw [Int32.lt_iff_toInt_lt, u1, m3]; exact k3
          simp (disch := (first | omega | assumption | (simp (disch := omega) only [Int32.lt_iff_toInt_lt, Int32.le_iff_toInt_le, ← Int32.toInt_inj, nI_toInt, zi_m1, zi_m2, zi_m3, zi_m9]; omega) | decide)) only [sX9_shift_0, sX9_shift_1, sX9_shift_4, sX9_shift_5, sX9_shift_8i, sX9_shift_8iN, sX9_shift_8r, sX9_shift_8rN, sX9_shift_8z, sX9_shift_8zN, sX9_shift_8o, sX9_shift_8oN, sX9_shift_9, sX9_shift_9n, sX9_shift_10, sX9_shift_10n, sX9_shift_13, sX9_shift_14, sX9_shift_16, sX9_shift_19, sX9_shift_20, sX9_shift_22, sX9_shift_25, sX9_shift_26, sX9_shift_27, sX9_shift_27n, sX9_shift_28, sX9_shift_31, sX9_shift_32, sX9_shift_33, sX9_shift_36, sX9_shift_36n, sX9_shift_37, sX9_shift_40, sX9_shift_41, sX9_shift_42, sX9_shift_44, sX9_shift_47, sX9_shift_49, sX9_shift_50, sX9_shift_51, sX9_shift_54, sX9_shift_55, sX9_shift_58, sX9_shift_61, sX9_shift_62, sX9_shift_65, sX9_shift_66, sX9_shift_66n, sX9_shift_67, sX9_shift_68, sX9_shift_71, sX9_shift_71n, sX9_shift_74, sX9_shift_75, sX9_shift_78, sX9_shift_79, sX9_shift_82, sX9_shift_85, sX9_shift_85n, sX9_shift_86, sX9_shift_89, sX9_shift_90, sX9_shift_91, gG9_0, gG9_1, gG9_2, gG9_3, gG9_4, gG9_5, gG9_6, gG9_7, gP9_0, gP9_1, gP9_2, gP9_3, gP9_4, gP9_5, gP9_6, gP9_7, gG6_0, gG6_1, gG6_2, gG6_3, gP6_0, gP6_1, gP6_2, gP6_3, gG1_0, gG1_1, gG1_2, gG1_3, gG1_4, gP1_0, gP1_1, gP1_2, gP1_3, gP1_4, zpush_v, zpush_n, gCk, gAi, gSi, gLi, gLq, ↓if_pos, ↓if_neg, c1, c2, q2, ct0]
        · have d3 : ¬ nI (lnA p.1.2.1 i).1 + w < nI 0 := by rw [Int32.lt_iff_toInt_lt, u1, m3]; exact k3
          have d4 : ¬ nI (lnA p.1.2.1 i).2.1 + w ≤ nI 100000 := by rw [Int32.le_iff_toInt_le, u2, m2]; omega
          simp (disch := (first | omega | assumption | (simp (disch := omega) only [Int32.lt_iff_toInt_lt, Int32.le_iff_toInt_le, ← Int32.toInt_inj, nI_toInt, zi_m1, zi_m2, zi_m3, zi_m9]; omega) | decide)) only [sX9_shift_0, sX9_shift_1, sX9_shift_4, sX9_shift_5, sX9_shift_8i, sX9_shift_8iN, sX9_shift_8r, sX9_shift_8rN, sX9_shift_8z, sX9_shift_8zN, sX9_shift_8o, sX9_shift_8oN, sX9_shift_9, sX9_shift_9n, sX9_shift_10, sX9_shift_10n, sX9_shift_13, sX9_shift_14, sX9_shift_16, sX9_shift_19, sX9_shift_20, sX9_shift_22, sX9_shift_25, sX9_shift_26, sX9_shift_27, sX9_shift_27n, sX9_shift_28, sX9_shift_31, sX9_shift_32, sX9_shift_33, sX9_shift_36, sX9_shift_36n, sX9_shift_37, sX9_shift_40, sX9_shift_41, sX9_shift_42, sX9_shift_44, sX9_shift_47, sX9_shift_49, sX9_shift_50, sX9_shift_51, sX9_shift_54, sX9_shift_55, sX9_shift_58, sX9_shift_61, sX9_shift_62, sX9_shift_65, sX9_shift_66, sX9_shift_66n, sX9_shift_67, sX9_shift_68, sX9_shift_71, sX9_shift_71n, sX9_shift_74, sX9_shift_75, sX9_shift_78, sX9_shift_79, sX9_shift_82, sX9_shift_85, sX9_shift_85n, sX9_shift_86, sX9_shift_89, sX9_shift_90, sX9_shift_91, gG9_0, gG9_1, gG9_2, gG9_3, gG9_4, gG9_5, gG9_6, gG9_7, gP9_0, gP9_1, gP9_2, gP9_3, gP9_4, gP9_5, gP9_6, gP9_7, gG6_0, gG6_1, gG6_2, gG6_3, gP6_0, gP6_1, gP6_2, gP6_3, gG1_0, gG1_1, gG1_2, gG1_3, gG1_4, gP1_0, gP1_1, gP1_2, gP1_3, gP1_4, zpush_v, zpush_n, gCk, gAi, gSi, gLi, gLq, ↓if_pos, ↓if_neg, c1, c2, q2, ct0]
      · rw [if_neg k2]
        have d3 : ¬ nI (lnA p.1.2.1 i).1 + w < nI 0 := by rw [Int32.lt_iff_toInt_lt, u1, m3]; omega
        have d4 : nI (lnA p.1.2.1 i).2.1 + w ≤ nI 100000 := by rw [Int32.le_iff_toInt_le, u2, m2]; omega
        have v1 : nI (lnA p.1.2.1 i).1 + w = nI (((lnA p.1.2.1 i).1 : Int) + w.toInt).toNat := eq_nI (by rw [u1]; omega) (by omega)
        have v2 : nI (lnA p.1.2.1 i).2.1 + w = nI (((lnA p.1.2.1 i).2.1 : Int) + w.toInt).toNat := eq_nI (by rw [u2]; omega) (by omega)
        obtain ⟨h1, ha, q, h2, h3, r1, ra, r2, r3, hw3, fr, l1, l3, w1, wa, w2, w3⟩ := x_put (ln' := ((((lnA p.1.2.1 i).1 : Int) + w.toInt).toNat, (((lnA p.1.2.1 i).2.1 : Int) + w.toInt).toNat, (lnA p.1.2.1 i).2.2)) (C := fun Q h1 R => WPm 8 [.ref q0, .int w] h1 Q = R) hr hw hi q1 ⟨⟨by show (((lnA p.1.2.1 i).1 : Int) + w.toInt).toNat < (((lnA p.1.2.1 i).2.1 : Int) + w.toInt).toNat; omega, by show (((lnA p.1.2.1 i).2.1 : Int) + w.toInt).toNat ≤ 100000; omega, wl.1.2.2⟩, wl.2⟩ (fun h1 hk hB hl => by
            obtain ⟨t, n1, n2, n3, n4, n5, n6⟩ := newLn hk hB hl (((lnA p.1.2.1 i).1 : Int) + w.toInt).toNat (((lnA p.1.2.1 i).2.1 : Int) + w.toInt).toNat (lnA p.1.2.1 i).2.2.1 (lnA p.1.2.1 i).2.2.2.1
            exact ⟨_, _, n3, n4, n5, n6, fun Q => by
              have := m_X1_movedBy (x := w) rfl n2 n1 Q
              rw [v1, v2] at this
              exact this⟩)
        obtain ⟨d1', d2', -, -, -⟩ := r1.facts
        obtain ⟨a1, a2, -, -, -⟩ := ra.facts
        obtain ⟨f1, f2, -, -, -⟩ := r2.facts
        obtain ⟨-, ⟨fs3, f4⟩⟩ := r2.cells
        obtain ⟨-, t1, -, ct1, -⟩ := l1
        obtain ⟨-, t3, -, ct3, -⟩ := l3
        refine ⟨h3, fr, ⟨r3, hw3⟩, fun Q => ?_⟩
        rw [eX9_shift]
        simp (disch := (first | omega | assumption | (simp (disch := omega) only [Int32.lt_iff_toInt_lt, Int32.le_iff_toInt_le, ← Int32.toInt_inj, nI_toInt, zi_m1, zi_m2, zi_m3, zi_m9]; omega) | decide)) only [sX9_shift_0, sX9_shift_1, sX9_shift_4, sX9_shift_5, sX9_shift_8i, sX9_shift_8iN, sX9_shift_8r, sX9_shift_8rN, sX9_shift_8z, sX9_shift_8zN, sX9_shift_8o, sX9_shift_8oN, sX9_shift_9, sX9_shift_9n, sX9_shift_10, sX9_shift_10n, sX9_shift_13, sX9_shift_14, sX9_shift_16, sX9_shift_19, sX9_shift_20, sX9_shift_22, sX9_shift_25, sX9_shift_26, sX9_shift_27, sX9_shift_27n, sX9_shift_28, sX9_shift_31, sX9_shift_32, sX9_shift_33, sX9_shift_36, sX9_shift_36n, sX9_shift_37, sX9_shift_40, sX9_shift_41, sX9_shift_42, sX9_shift_44, sX9_shift_47, sX9_shift_49, sX9_shift_50, sX9_shift_51, sX9_shift_54, sX9_shift_55, sX9_shift_58, sX9_shift_61, sX9_shift_62, sX9_shift_65, sX9_shift_66, sX9_shift_66n, sX9_shift_67, sX9_shift_68, sX9_shift_71, sX9_shift_71n, sX9_shift_74, sX9_shift_75, sX9_shift_78, sX9_shift_79, sX9_shift_82, sX9_shift_85, sX9_shift_85n, sX9_shift_86, sX9_shift_89, sX9_shift_90, sX9_shift_91, gG9_0, gG9_1, gG9_2, gG9_3, gG9_4, gG9_5, gG9_6, gG9_7, gP9_0, gP9_1, gP9_2, gP9_3, gP9_4, gP9_5, gP9_6, gP9_7, gG6_0, gG6_1, gG6_2, gG6_3, gP6_0, gP6_1, gP6_2, gP6_3, gG1_0, gG1_1, gG1_2, gG1_3, gG1_4, gP1_0, gP1_1, gP1_2, gP1_3, gP1_4, zpush_v, zpush_n, gCk, gAi, gSi, gLi, gLq, ↓if_pos, ↓if_neg, c1, c2, q2, ct0, ch, w1, d1', d2', ct1, wa, a2, w2, f1, f4, w3, ct3]
        rw [v1]
  · rw [e]
    refine ⟨h, Fr.rf, ⟨hr, hw⟩, fun Q => ?_⟩
    rw [eX9_shift]
    simp (disch := (first | omega | assumption | (simp (disch := omega) only [Int32.lt_iff_toInt_lt, Int32.le_iff_toInt_le, ← Int32.toInt_inj, nI_toInt, zi_m1, zi_m2, zi_m3, zi_m9]; omega) | decide)) only [sX9_shift_0, sX9_shift_1, sX9_shift_4, sX9_shift_5, sX9_shift_8i, sX9_shift_8iN, sX9_shift_8r, sX9_shift_8rN, sX9_shift_8z, sX9_shift_8zN, sX9_shift_8o, sX9_shift_8oN, sX9_shift_9, sX9_shift_9n, sX9_shift_10, sX9_shift_10n, sX9_shift_13, sX9_shift_14, sX9_shift_16, sX9_shift_19, sX9_shift_20, sX9_shift_22, sX9_shift_25, sX9_shift_26, sX9_shift_27, sX9_shift_27n, sX9_shift_28, sX9_shift_31, sX9_shift_32, sX9_shift_33, sX9_shift_36, sX9_shift_36n, sX9_shift_37, sX9_shift_40, sX9_shift_41, sX9_shift_42, sX9_shift_44, sX9_shift_47, sX9_shift_49, sX9_shift_50, sX9_shift_51, sX9_shift_54, sX9_shift_55, sX9_shift_58, sX9_shift_61, sX9_shift_62, sX9_shift_65, sX9_shift_66, sX9_shift_66n, sX9_shift_67, sX9_shift_68, sX9_shift_71, sX9_shift_71n, sX9_shift_74, sX9_shift_75, sX9_shift_78, sX9_shift_79, sX9_shift_82, sX9_shift_85, sX9_shift_85n, sX9_shift_86, sX9_shift_89, sX9_shift_90, sX9_shift_91, gG9_0, gG9_1, gG9_2, gG9_3, gG9_4, gG9_5, gG9_6, gG9_7, gP9_0, gP9_1, gP9_2, gP9_3, gP9_4, gP9_5, gP9_6, gP9_7, gG6_0, gG6_1, gG6_2, gG6_3, gP6_0, gP6_1, gP6_2, gP6_3, gG1_0, gG1_1, gG1_2, gG1_3, gG1_4, gP1_0, gP1_1, gP1_2, gP1_3, gP1_4, zpush_v, zpush_n, gCk, gAi, gSi, gLi, gLq, ↓if_pos, ↓if_neg, c1, c2, lineF hr g]
theorem x_undo (hr : rP h X B p) (hw : WfP p) : ∃ h', Fr X h h' ∧ (rP h' X B (opUndo p).1 ∧ WfP (opUndo p).1) ∧ ∀ Q : Option Value → Hp → Prop, WPm 98 [.ref X] h Q = Q (some (.int (opUndo p).2)) h' := by
  obtain ⟨c1, c2, hS, -, -⟩ := hr.1.facts
  obtain ⟨o, o1, o2, o3, o4, o5⟩ := id hr.1.1.2.2.2.2
  have ch := o3.1
  have BB := hr.1.2.2.2.1
  unfold opUndo
  cases hl : p.2.1.getLast? with
  | none =>
    have e : p.2.1 = [] := List.getLast?_eq_none_iff.mp hl
    have e2 : p.2.1.length = 0 := by rw [e]; rfl
    rw [e2] at ch
    refine ⟨h, Fr.rf, ⟨hr, hw⟩, fun Q => ?_⟩
    rw [eX9_undo]
    simp (disch := (first | omega | assumption | (simp (disch := omega) only [Int32.lt_iff_toInt_lt, Int32.le_iff_toInt_le, ← Int32.toInt_inj, nI_toInt, zi_m1, zi_m2, zi_m3, zi_m9]; omega) | decide)) only [sX9_undo_0, sX9_undo_1, sX9_undo_4, sX9_undo_7, sX9_undo_10, sX9_undo_12, sX9_undo_13, sX9_undo_14, sX9_undo_17, sX9_undo_18, sX9_undo_21, sX9_undo_24, sX9_undo_25, sX9_undo_28, sX9_undo_29, sX9_undo_32, sX9_undo_35, sX9_undo_36, sX9_undo_39, sX9_undo_42, gG9_0, gG9_1, gG9_2, gG9_3, gG9_4, gG9_5, gG9_6, gG9_7, gP9_0, gP9_1, gP9_2, gP9_3, gP9_4, gP9_5, gP9_6, gP9_7, gG0_0, gG0_1, gG0_2, gP0_0, gP0_1, gP0_2, zpush_v, zpush_n, gCk, gAi, gSi, gLi, gLq, ↓if_pos, ↓if_neg, c1, ch]
  | some st =>
    have hne : p.2.1 ≠ [] := fun q => by rw [q] at hl; cases hl
    have e : p.2.1 = p.2.1.dropLast ++ [st] := by
      have a := List.dropLast_concat_getLast hne
      rw [List.getLast?_eq_some_getLast hne] at hl
      cases hl
      exact a.symm
    have el : p.2.1.length = p.2.1.dropLast.length + 1 := by
      have := congrArg List.length e
      rw [List.length_append] at this
      exact this
    have hms : st ∈ p.2.1 := by rw [e]; exact List.mem_append_right _ (List.mem_singleton_self _)
    have wst := hw.2.1 st hms
    have hH : rHist h B (X + 15) (p.2.1.dropLast ++ [st]) := by rw [← e]; exact hr.1.1.2.2.2.2
    obtain ⟨h2, h1, s1, s2, r1, t1, w1⟩ := m_X0_restore hH hr.1.1.2.2.2.1.any wst.2.1.1 wst.1.1 (Or.inl (by omega)) (by omega) (by omega)
    have r2 : rS h2 X B (st, p.2.1.dropLast, p.2.2) := by
      obtain ⟨⟨a1, a2, a3, a4, a5⟩, ⟨b1, b2, b3⟩, z1, z2, z3⟩ := hr.1
      exact ⟨⟨by rw [s2.at (by omega), s1.at (by omega)]; exact a1, (a2.off s1 (by omega)).off s2 (by omega), (a3.off s1 (by omega)).off s2 (by omega), t1, r1⟩, ⟨(b1.off s1 (by omega)).off s2 (by omega), (b2.off s1 (by omega)).off s2 (by omega), (b3.off s1 (by omega)).off s2 (by omega)⟩, (z1.same s1 (by omega)).same s2 (by rw [s1.1]; omega), z2, by rw [s2.1, s1.1]; exact z3⟩
    obtain ⟨f1, f2, -, -, -⟩ := r2.facts
    obtain ⟨-, ⟨fs3, f4⟩⟩ := r2.cells
    obtain ⟨h3, s3, r3, w3⟩ := s_draw r2 wst
    obtain ⟨g1, g2, -⟩ := r3.facts
    obtain ⟨o', -, -, g3, -⟩ := r3.1.1.2.2.2.2
    have g4 := g3.1
    have g4 : h3.1 (X + 15) = some (.inr (0, [.ref (X + 15 + 1), .int (nI o'), .int (nI p.2.1.dropLast.length)])) := g4
    have ex : p.2.1.length - 1 = p.2.1.dropLast.length := by omega
    simp only
    rw [ex]
    refine ⟨h3, (((Fr.s s1 (by omega) (by omega)).tr (Fr.s s2 (by omega) (by omega))).tr (Fr.s s3 (by omega) (by omega))).w (by decide), ⟨r3, ⟨wst, fun s hs => hw.2.1 s (List.dropLast_subset _ hs), by show p.2.1.dropLast.length ≤ 5; omega, hw.2.2.2⟩⟩, fun Q => ?_⟩
    rw [el] at ch
    rw [eX9_undo]
    simp (disch := (first | omega | assumption | (simp (disch := omega) only [Int32.lt_iff_toInt_lt, Int32.le_iff_toInt_le, ← Int32.toInt_inj, nI_toInt, zi_m1, zi_m2, zi_m3, zi_m9]; omega) | decide)) only [sX9_undo_0, sX9_undo_1, sX9_undo_4, sX9_undo_7, sX9_undo_10, sX9_undo_12, sX9_undo_13, sX9_undo_14, sX9_undo_17, sX9_undo_18, sX9_undo_21, sX9_undo_24, sX9_undo_25, sX9_undo_28, sX9_undo_29, sX9_undo_32, sX9_undo_35, sX9_undo_36, sX9_undo_39, sX9_undo_42, gG9_0, gG9_1, gG9_2, gG9_3, gG9_4, gG9_5, gG9_6, gG9_7, gP9_0, gP9_1, gP9_2, gP9_3, gP9_4, gP9_5, gP9_6, gP9_7, gG0_0, gG0_1, gG0_2, gP0_0, gP0_1, gP0_2, zpush_v, zpush_n, gCk, gAi, gSi, gLi, gLq, ↓if_pos, ↓if_neg, c1, ch, w1, f1, f4, w3, g1, g4]
end XE
