/-! SubtitleStyles: a line in the place of another -/
section XD
variable {h h' : Hp} {X B : Nat} {p : PS}
theorem x_put {i q0 : Nat} {ln' : Ln} (hr : rP h X B p) (hw : WfP p) (hi : i < p.1.2.1.length) (hq0 : rLn h B q0 (lnA p.1.2.1 i)) (hl : WfL ln' ∧ ∀ q, ln'.2.2.1 = some q → q < p.1.1.1)
    {C : (Option Value → Hp → Prop) → Hp → Prop → Prop} (hC : ∀ h1, HpK h1 → B ≤ h1.2.1 → rLn h1 B q0 (lnA p.1.2.1 i) → ∃ ha q, HpK ha ∧ (h1.2.1 ≤ ha.2.1 ∧ ha.2.1 ≤ h1.2.1 + 6 ∧ ha.2.2 ≤ h1.2.2 + 400) ∧ (∀ z, z < h1.2.1 → ha.1 z = h1.1 z) ∧ rLn ha B q ln' ∧ ∀ Q : Option Value → Hp → Prop, C Q h1 (Q (some (.ref q)) ha)) :
    ∃ h1 ha q h2 h3, rS h1 X B (p.1, kept p.2.1 p.1, p.2.2) ∧ rS ha X B (p.1, kept p.2.1 p.1, p.2.2) ∧ rS h2 X B (putL p.1 i ln', kept p.2.1 p.1, p.2.2) ∧ rP h3 X B (kp p (putL p.1 i ln')) ∧ WfP (kp p (putL p.1 i ln')) ∧ Fr X h h3 ∧ rLn h1 B q0 (lnA p.1.2.1 i) ∧ rLn h3 B q0 (lnA p.1.2.1 i) ∧
      (∀ Q : Option Value → Hp → Prop, WPm 1 [.ref (X + 15), .ref (X + 8)] h Q = Q none h1) ∧ (∀ Q : Option Value → Hp → Prop, C Q h1 (Q (some (.ref q)) ha)) ∧ (∀ Q : Option Value → Hp → Prop, WPm 50 [.ref (X + 8), .int (nI i), .ref q] ha Q = Q none h2) ∧ ∀ Q : Option Value → Hp → Prop, WPm 26 [.ref (X + 52), .ref (X + 8)] h2 Q = Q none h3 := by
  obtain ⟨h1, s1, r1, w1⟩ := s_keep hr.1 hw
  have BB := hr.1.2.2.2.1
  have l1 := hq0.off s1 (by omega)
  have k1 := r1.2.2.1
  obtain ⟨ha, q, ka, sa, la, na, wa⟩ := hC h1 k1 r1.2.2.2.2 l1
  have kpa : Kp h1 ha := Kp.of k1 rfl la
  have ra := r1.grow kpa ka sa.1
  obtain ⟨h2, s2, t2, w2⟩ := m_X6_putLine ra.1.2.2.2.1 (by omega) hw.1.2.1.1 hi na
  have r2 := ra.scr s2 t2
  have hw2 : WfSt (putL p.1 i ln') := hw.1.put hl
  obtain ⟨h3, s3, r3, w3⟩ := s_draw r2 hw2
  have fa : FrK 1 X h1 ha := ⟨sa, fun z hz => by
    rcases Nat.lt_or_ge z h1.2.1 with c | c
    · exact la z c
    · have := r1.2.2.2.2
      omega⟩
  exact ⟨h1, ha, q, h2, h3, r1, ra, r2, r3, hw.kp hw2, ((((Fr.s s1 (by omega) (by omega)).tr fa).tr (Fr.s s2 (by omega) (by omega))).tr (Fr.s s3 (by omega) (by omega))).w (by decide), l1, (((l1.kp kpa).off s2 (by omega)).off s3 (by omega)), w1, wa, w2, w3⟩
/-- a new line that shares the text -/
theorem newLn {h1 : Hp} {q0 : Nat} {ln : Ln} (hk : HpK h1) (hB : B ≤ h1.2.1) (hl : rLn h1 B q0 ln) (b e : Nat) (s m : Option Nat) : ∃ t, q0 ≠ h1.2.1 ∧ h1.1 q0 = some (.inr (1, [.int (nI ln.1), .int (nI ln.2.1), .int (eN ln.2.2.1), .int (eN ln.2.2.2.1), .ref t])) ∧
    HpK (hadd h1 h1.2.1 (.inr (1, [.int (nI b), .int (nI e), .int (eN s), .int (eN m), .ref t])) 5) ∧ (h1.2.1 ≤ (hadd h1 h1.2.1 (.inr (1, [.int (nI b), .int (nI e), .int (eN s), .int (eN m), .ref t])) 5).2.1 ∧ (hadd h1 h1.2.1 (.inr (1, [.int (nI b), .int (nI e), .int (eN s), .int (eN m), .ref t])) 5).2.1 ≤ h1.2.1 + 6 ∧ (hadd h1 h1.2.1 (.inr (1, [.int (nI b), .int (nI e), .int (eN s), .int (eN m), .ref t])) 5).2.2 ≤ h1.2.2 + 400) ∧ (∀ z, z < h1.2.1 → (hadd h1 h1.2.1 (.inr (1, [.int (nI b), .int (nI e), .int (eN s), .int (eN m), .ref t])) 5).1 z = h1.1 z) ∧
    rLn (hadd h1 h1.2.1 (.inr (1, [.int (nI b), .int (nI e), .int (eN s), .int (eN m), .ref t])) 5) B h1.2.1 (b, e, s, m, ln.2.2.2.2) := by
  obtain ⟨b1, t, b2, c1, c2⟩ := hl
  have lt := hk.lt c1
  have low : ∀ z, z < h1.2.1 → (hadd h1 h1.2.1 (.inr (1, [.int (nI b), .int (nI e), .int (eN s), .int (eN m), .ref t])) 5).1 z = h1.1 z := fun z hz => hadd_ne (by omega)
  exact ⟨t, by omega, c1, hk.add rfl, ⟨Nat.le_succ _, by show h1.2.1 + 1 ≤ _; omega, by show h1.2.2 + 5 ≤ _; omega⟩, low, hB, t, b2, hadd_at, c2.kp (Kp.of hk rfl low)⟩
theorem x_change (hr : rP h X B p) (hw : WfP p) (l w v : Int32) : ∃ h', Fr X h h' ∧ (rP h' X B (opChange p l w v).1 ∧ WfP (opChange p l w v).1) ∧ ∀ Q : Option Value → Hp → Prop, WPm 84 [.ref X, .int l, .int w, .int v] h Q = Q (some (.int (opChange p l w v).2)) h' := by
  obtain ⟨c1, c2, hS, -, -⟩ := hr.1.facts
  obtain ⟨⟨fs, ch⟩, ⟨fs2, cp⟩⟩ := hr.1.cells
  have h16 := hw.1.2.1.1
  have h10 := hw.1.1.1
  have c3 := hS.cell.1
  obtain ⟨par, own, hO, hpar, hown⟩ := id hS
  unfold opChange
  rcases dN_cases p.1.2.1.length l (by omega) with ⟨i, hi, rfl, e⟩ | ⟨g, e⟩
  · rw [e]
    simp only
    obtain ⟨q0, q1, q2⟩ := lineT hr hw hi
    have wl := hw.1.mem _ (lnA_mem hi)
    obtain ⟨-, t0, -, ct0, -⟩ := id q1
    rcases dN_cases 2 w (by omega) with ⟨k, hk, rfl, e2⟩ | ⟨g2, e2⟩
    · rw [e2]
      have : k = 0 ∨ k = 1 := by omega
      rcases this with rfl | rfl
      · simp only
        have good : ∀ (o : Option Nat), v = eN o → (∀ q, o = some q → q < p.1.1.1) → (∀ Q : Option Value → Hp → Prop, WPm 57 [.ref (X + 8 + 1), .int v] h Q = Q (some (.int (nI 1))) h) → ∃ h', Fr X h h' ∧ (rP h' X B (kp p (putL p.1 i ((lnA p.1.2.1 i).1, (lnA p.1.2.1 i).2.1, o, (lnA p.1.2.1 i).2.2.2.1, (lnA p.1.2.1 i).2.2.2.2))) ∧ WfP (kp p (putL p.1 i ((lnA p.1.2.1 i).1, (lnA p.1.2.1 i).2.1, o, (lnA p.1.2.1 i).2.2.2.1, (lnA p.1.2.1 i).2.2.2.2)))) ∧ ∀ Q : Option Value → Hp → Prop, WPm 84 [.ref X, .int (nI i), .int (nI 0), .int v] h Q = Q (some (.int (eN (lnA p.1.2.1 i).2.2.1))) h' := by
          intro o hv ho wv
          subst hv
          obtain ⟨h1, ha, q, h2, h3, r1, ra, r2, r3, hw3, fr, l1, l3, w1, wa, w2, w3⟩ := x_put (ln' := ((lnA p.1.2.1 i).1, (lnA p.1.2.1 i).2.1, o, (lnA p.1.2.1 i).2.2.2.1, (lnA p.1.2.1 i).2.2.2.2)) (C := fun Q h1 R => WPm 5 [.ref q0, .int (eN o)] h1 Q = R) hr hw hi q1 ⟨⟨wl.1.1, wl.1.2.1, fun q hq => by have := ho q hq; omega, wl.1.2.2.2⟩, ho⟩ (fun h1 hk hB hl => by
            obtain ⟨t, n1, n2, n3, n4, n5, n6⟩ := newLn hk hB hl (lnA p.1.2.1 i).1 (lnA p.1.2.1 i).2.1 o (lnA p.1.2.1 i).2.2.2.1
            exact ⟨_, _, n3, n4, n5, n6, fun Q => m_X1_withStyle rfl n2 n1 Q⟩)
          obtain ⟨d1, d2, -, -, -⟩ := r1.facts
          obtain ⟨a1, a2, -, -, -⟩ := ra.facts
          obtain ⟨f1, f2, -, -, -⟩ := r2.facts
          obtain ⟨-, ⟨fs3, f4⟩⟩ := r2.cells
          obtain ⟨-, t1, -, ct1, -⟩ := l1
          obtain ⟨-, t3, -, ct3, -⟩ := l3
          refine ⟨h3, fr, ⟨r3, hw3⟩, fun Q => ?_⟩
          rw [eX9_change]
          simp (disch := (first | omega | assumption | (simp (disch := omega) only [Int32.lt_iff_toInt_lt, Int32.le_iff_toInt_le, ← Int32.toInt_inj, nI_toInt, zi_m1, zi_m2, zi_m3, zi_m9]; omega) | decide)) only [sX9_change_0, sX9_change_1, sX9_change_4, sX9_change_5, sX9_change_8i, sX9_change_8iN, sX9_change_8r, sX9_change_8rN, sX9_change_8z, sX9_change_8zN, sX9_change_8o, sX9_change_8oN, sX9_change_10, sX9_change_10n, sX9_change_12, sX9_change_12n, sX9_change_15, sX9_change_16, sX9_change_17, sX9_change_18, sX9_change_21, sX9_change_24, sX9_change_25, sX9_change_26, sX9_change_27, sX9_change_30, sX9_change_31, sX9_change_34, sX9_change_37, sX9_change_38, sX9_change_41, sX9_change_42, sX9_change_43, sX9_change_46, sX9_change_46n, sX9_change_48, sX9_change_49, sX9_change_52, sX9_change_55, sX9_change_55n, sX9_change_57, sX9_change_58, sX9_change_61, sX9_change_61n, sX9_change_64, sX9_change_65, sX9_change_68, sX9_change_69, sX9_change_72, sX9_change_75, sX9_change_76, sX9_change_79, sX9_change_79n, sX9_change_81, sX9_change_84, sX9_change_87, sX9_change_87n, sX9_change_89, sX9_change_92, sX9_isChange_0, sX9_isChange_1, sX9_isChange_4, sX9_isChange_5, sX9_isChange_8, sX9_isChange_11, sX9_isChange_12, sX9_isChange_15, sX9_isChange_16, sX9_isChange_17, sX9_isChange_18, sX9_isChange_21, sX9_isChange_22, sX9_isChange_23, sX9_isChange_26, sX9_isChange_27, sX9_isChange_28, sX9_isChange_31, sX9_isChange_34, sX9_isChange_35, sX9_isChange_38, sX9_isChange_39, eX9_isChange, gG9_0, gG9_1, gG9_2, gG9_3, gG9_4, gG9_5, gG9_6, gG9_7, gP9_0, gP9_1, gP9_2, gP9_3, gP9_4, gP9_5, gP9_6, gP9_7, gG6_0, gG6_1, gG6_2, gG6_3, gP6_0, gP6_1, gP6_2, gP6_3, gG1_0, gG1_1, gG1_2, gG1_3, gG1_4, gP1_0, gP1_1, gP1_2, gP1_3, gP1_4, zpush_v, zpush_n, gCk, gAi, gSi, gLi, gLq, ↓if_pos, ↓if_neg, c1, c2, c3, q2, wv, ch, w1, d1, d2, ct1, wa, a2, w2, f1, f4, w3, ct3]
        rcases dO_cases p.1.1.1 v (by omega) with ⟨rfl, e3⟩ | ⟨k2, hk2, rfl, e3⟩ | ⟨⟨g1, g2⟩, e3⟩
        · rw [e3]
          exact good none rfl (fun q hq => by cases hq) (m_X7_honN hO)
        · rw [e3]
          exact good (some k2) rfl (fun q hq => by cases hq; exact hk2) (m_X7_honS hO hk2 h10)
        · rw [e3]
          refine ⟨h, Fr.rf, ⟨hr, hw⟩, fun Q => ?_⟩
          rw [eX9_change]
          simp (disch := (first | omega | assumption | (simp (disch := omega) only [Int32.lt_iff_toInt_lt, Int32.le_iff_toInt_le, ← Int32.toInt_inj, nI_toInt, zi_m1, zi_m2, zi_m3, zi_m9]; omega) | decide)) only [sX9_change_0, sX9_change_1, sX9_change_4, sX9_change_5, sX9_change_8i, sX9_change_8iN, sX9_change_8r, sX9_change_8rN, sX9_change_8z, sX9_change_8zN, sX9_change_8o, sX9_change_8oN, sX9_change_10, sX9_change_10n, sX9_change_12, sX9_change_12n, sX9_change_15, sX9_change_16, sX9_change_17, sX9_change_18, sX9_change_21, sX9_change_24, sX9_change_25, sX9_change_26, sX9_change_27, sX9_change_30, sX9_change_31, sX9_change_34, sX9_change_37, sX9_change_38, sX9_change_41, sX9_change_42, sX9_change_43, sX9_change_46, sX9_change_46n, sX9_change_48, sX9_change_49, sX9_change_52, sX9_change_55, sX9_change_55n, sX9_change_57, sX9_change_58, sX9_change_61, sX9_change_61n, sX9_change_64, sX9_change_65, sX9_change_68, sX9_change_69, sX9_change_72, sX9_change_75, sX9_change_76, sX9_change_79, sX9_change_79n, sX9_change_81, sX9_change_84, sX9_change_87, sX9_change_87n, sX9_change_89, sX9_change_92, sX9_isChange_0, sX9_isChange_1, sX9_isChange_4, sX9_isChange_5, sX9_isChange_8, sX9_isChange_11, sX9_isChange_12, sX9_isChange_15, sX9_isChange_16, sX9_isChange_17, sX9_isChange_18, sX9_isChange_21, sX9_isChange_22, sX9_isChange_23, sX9_isChange_26, sX9_isChange_27, sX9_isChange_28, sX9_isChange_31, sX9_isChange_34, sX9_isChange_35, sX9_isChange_38, sX9_isChange_39, eX9_isChange, gG9_0, gG9_1, gG9_2, gG9_3, gG9_4, gG9_5, gG9_6, gG9_7, gP9_0, gP9_1, gP9_2, gP9_3, gP9_4, gP9_5, gP9_6, gP9_7, gG6_0, gG6_1, gG6_2, gG6_3, gP6_0, gP6_1, gP6_2, gP6_3, gG1_0, gG1_1, gG1_2, gG1_3, gG1_4, gP1_0, gP1_1, gP1_2, gP1_3, gP1_4, zpush_v, zpush_n, gCk, gAi, gSi, gLi, gLq, ↓if_pos, ↓if_neg, c1, c2, c3, q2, m_X7_honF hO g2 g1 h10]
      · simp only
        have good : ∀ (o : Option Nat), v = eN o → (∀ x, o = some x → x ≤ 200) → (v = -1 ∨ zallows (nI 5) v = nI 1) → ∃ h', Fr X h h' ∧ (rP h' X B (kp p (putL p.1 i ((lnA p.1.2.1 i).1, (lnA p.1.2.1 i).2.1, (lnA p.1.2.1 i).2.2.1, o, (lnA p.1.2.1 i).2.2.2.2))) ∧ WfP (kp p (putL p.1 i ((lnA p.1.2.1 i).1, (lnA p.1.2.1 i).2.1, (lnA p.1.2.1 i).2.2.1, o, (lnA p.1.2.1 i).2.2.2.2)))) ∧ ∀ Q : Option Value → Hp → Prop, WPm 84 [.ref X, .int (nI i), .int (nI 1), .int v] h Q = Q (some (.int (eN (lnA p.1.2.1 i).2.2.2.1))) h' := by
          intro o hv ho hz
          subst hv
          obtain ⟨h1, ha, q, h2, h3, r1, ra, r2, r3, hw3, fr, l1, l3, w1, wa, w2, w3⟩ := x_put (ln' := ((lnA p.1.2.1 i).1, (lnA p.1.2.1 i).2.1, (lnA p.1.2.1 i).2.2.1, o, (lnA p.1.2.1 i).2.2.2.2)) (C := fun Q h1 R => WPm 6 [.ref q0, .int (eN o)] h1 Q = R) hr hw hi q1 ⟨⟨wl.1.1, wl.1.2.1, wl.1.2.2.1, ho, wl.1.2.2.2.2⟩, wl.2⟩ (fun h1 hk hB hl => by
            obtain ⟨t, n1, n2, n3, n4, n5, n6⟩ := newLn hk hB hl (lnA p.1.2.1 i).1 (lnA p.1.2.1 i).2.1 (lnA p.1.2.1 i).2.2.1 o
            exact ⟨_, _, n3, n4, n5, n6, fun Q => m_X1_withMargin rfl n2 n1 Q⟩)
          obtain ⟨d1, d2, -, -, -⟩ := r1.facts
          obtain ⟨a1, a2, -, -, -⟩ := ra.facts
          obtain ⟨f1, f2, -, -, -⟩ := r2.facts
          obtain ⟨-, ⟨fs3, f4⟩⟩ := r2.cells
          obtain ⟨-, t1, -, ct1, -⟩ := l1
          obtain ⟨-, t3, -, ct3, -⟩ := l3
          refine ⟨h3, fr, ⟨r3, hw3⟩, fun Q => ?_⟩
          rw [eX9_change]
          by_cases hm : eN o = -1
          · simp (disch := (first | omega | assumption | (simp (disch := omega) only [Int32.lt_iff_toInt_lt, Int32.le_iff_toInt_le, ← Int32.toInt_inj, nI_toInt, zi_m1, zi_m2, zi_m3, zi_m9]; omega) | decide)) only [sX9_change_0, sX9_change_1, sX9_change_4, sX9_change_5, sX9_change_8i, sX9_change_8iN, sX9_change_8r, sX9_change_8rN, sX9_change_8z, sX9_change_8zN, sX9_change_8o, sX9_change_8oN, sX9_change_10, sX9_change_10n, sX9_change_12, sX9_change_12n, sX9_change_15, sX9_change_16, sX9_change_17, sX9_change_18, sX9_change_21, sX9_change_24, sX9_change_25, sX9_change_26, sX9_change_27, sX9_change_30, sX9_change_31, sX9_change_34, sX9_change_37, sX9_change_38, sX9_change_41, sX9_change_42, sX9_change_43, sX9_change_46, sX9_change_46n, sX9_change_48, sX9_change_49, sX9_change_52, sX9_change_55, sX9_change_55n, sX9_change_57, sX9_change_58, sX9_change_61, sX9_change_61n, sX9_change_64, sX9_change_65, sX9_change_68, sX9_change_69, sX9_change_72, sX9_change_75, sX9_change_76, sX9_change_79, sX9_change_79n, sX9_change_81, sX9_change_84, sX9_change_87, sX9_change_87n, sX9_change_89, sX9_change_92, sX9_isChange_0, sX9_isChange_1, sX9_isChange_4, sX9_isChange_5, sX9_isChange_8, sX9_isChange_11, sX9_isChange_12, sX9_isChange_15, sX9_isChange_16, sX9_isChange_17, sX9_isChange_18, sX9_isChange_21, sX9_isChange_22, sX9_isChange_23, sX9_isChange_26, sX9_isChange_27, sX9_isChange_28, sX9_isChange_31, sX9_isChange_34, sX9_isChange_35, sX9_isChange_38, sX9_isChange_39, eX9_isChange, gG9_0, gG9_1, gG9_2, gG9_3, gG9_4, gG9_5, gG9_6, gG9_7, gP9_0, gP9_1, gP9_2, gP9_3, gP9_4, gP9_5, gP9_6, gP9_7, gG6_0, gG6_1, gG6_2, gG6_3, gP6_0, gP6_1, gP6_2, gP6_3, gG1_0, gG1_1, gG1_2, gG1_3, gG1_4, gP1_0, gP1_1, gP1_2, gP1_3, gP1_4, zpush_v, zpush_n, gCk, gAi, gSi, gLi, gLq, ↓if_pos, ↓if_neg, c1, c2, c3, q2, ch, w1, d1, d2, ct1, wa, a2, w2, f1, f4, w3, ct3]
          · have hz := hz.resolve_left hm
            simp (disch := (first | omega | assumption | (simp (disch := omega) only [Int32.lt_iff_toInt_lt, Int32.le_iff_toInt_le, ← Int32.toInt_inj, nI_toInt, zi_m1, zi_m2, zi_m3, zi_m9]; omega) | decide)) only [sX9_change_0, sX9_change_1, sX9_change_4, sX9_change_5, sX9_change_8i, sX9_change_8iN, sX9_change_8r, sX9_change_8rN, sX9_change_8z, sX9_change_8zN, sX9_change_8o, sX9_change_8oN, sX9_change_10, sX9_change_10n, sX9_change_12, sX9_change_12n, sX9_change_15, sX9_change_16, sX9_change_17, sX9_change_18, sX9_change_21, sX9_change_24, sX9_change_25, sX9_change_26, sX9_change_27, sX9_change_30, sX9_change_31, sX9_change_34, sX9_change_37, sX9_change_38, sX9_change_41, sX9_change_42, sX9_change_43, sX9_change_46, sX9_change_46n, sX9_change_48, sX9_change_49, sX9_change_52, sX9_change_55, sX9_change_55n, sX9_change_57, sX9_change_58, sX9_change_61, sX9_change_61n, sX9_change_64, sX9_change_65, sX9_change_68, sX9_change_69, sX9_change_72, sX9_change_75, sX9_change_76, sX9_change_79, sX9_change_79n, sX9_change_81, sX9_change_84, sX9_change_87, sX9_change_87n, sX9_change_89, sX9_change_92, sX9_isChange_0, sX9_isChange_1, sX9_isChange_4, sX9_isChange_5, sX9_isChange_8, sX9_isChange_11, sX9_isChange_12, sX9_isChange_15, sX9_isChange_16, sX9_isChange_17, sX9_isChange_18, sX9_isChange_21, sX9_isChange_22, sX9_isChange_23, sX9_isChange_26, sX9_isChange_27, sX9_isChange_28, sX9_isChange_31, sX9_isChange_34, sX9_isChange_35, sX9_isChange_38, sX9_isChange_39, eX9_isChange, gG9_0, gG9_1, gG9_2, gG9_3, gG9_4, gG9_5, gG9_6, gG9_7, gP9_0, gP9_1, gP9_2, gP9_3, gP9_4, gP9_5, gP9_6, gP9_7, gG6_0, gG6_1, gG6_2, gG6_3, gP6_0, gP6_1, gP6_2, gP6_3, gG1_0, gG1_1, gG1_2, gG1_3, gG1_4, gP1_0, gP1_1, gP1_2, gP1_3, gP1_4, zpush_v, zpush_n, gCk, gAi, gSi, gLi, gLq, ↓if_pos, ↓if_neg, c1, c2, c3, q2, hz, ch, w1, d1, d2, ct1, wa, a2, w2, f1, f4, w3, ct3]
        rcases dV_cases 5 v with ⟨rfl, e3⟩ | ⟨x, hx, rfl, e3⟩ | ⟨⟨g1, g2⟩, e3⟩
        · rw [e3]
          exact good none rfl (fun x hx => by cases hx) (Or.inl rfl)
        · rw [e3]
          have hx2 : x ≤ 200 := hx.2
          refine good (some x) rfl (fun y hy => by cases hy; exact hx2) (Or.inr ?_)
          rw [zallows_n (by omega), bI_t]
          have a : loP 5 = 0 := rfl
          have b : hiP 5 = 200 := rfl
          rw [a, b]
          simp (disch := omega) only [Int32.le_iff_toInt_le, nI_toInt]
          omega
        · rw [e3]
          refine ⟨h, Fr.rf, ⟨hr, hw⟩, fun Q => ?_⟩
          have hz : zallows (nI 5) v = nI 0 := by
            rw [zallows_n (by omega), bI_f]
            rintro ⟨a, b⟩
            rcases g2 with g2 | g2
            · exact Int32.not_lt.mpr a g2
            · exact Int32.not_lt.mpr b g2
          rw [eX9_change]
          simp (disch := (first | omega | assumption | (simp (disch := omega) only [Int32.lt_iff_toInt_lt, Int32.le_iff_toInt_le, ← Int32.toInt_inj, nI_toInt, zi_m1, zi_m2, zi_m3, zi_m9]; omega) | decide)) only [sX9_change_0, sX9_change_1, sX9_change_4, sX9_change_5, sX9_change_8i, sX9_change_8iN, sX9_change_8r, sX9_change_8rN, sX9_change_8z, sX9_change_8zN, sX9_change_8o, sX9_change_8oN, sX9_change_10, sX9_change_10n, sX9_change_12, sX9_change_12n, sX9_change_15, sX9_change_16, sX9_change_17, sX9_change_18, sX9_change_21, sX9_change_24, sX9_change_25, sX9_change_26, sX9_change_27, sX9_change_30, sX9_change_31, sX9_change_34, sX9_change_37, sX9_change_38, sX9_change_41, sX9_change_42, sX9_change_43, sX9_change_46, sX9_change_46n, sX9_change_48, sX9_change_49, sX9_change_52, sX9_change_55, sX9_change_55n, sX9_change_57, sX9_change_58, sX9_change_61, sX9_change_61n, sX9_change_64, sX9_change_65, sX9_change_68, sX9_change_69, sX9_change_72, sX9_change_75, sX9_change_76, sX9_change_79, sX9_change_79n, sX9_change_81, sX9_change_84, sX9_change_87, sX9_change_87n, sX9_change_89, sX9_change_92, sX9_isChange_0, sX9_isChange_1, sX9_isChange_4, sX9_isChange_5, sX9_isChange_8, sX9_isChange_11, sX9_isChange_12, sX9_isChange_15, sX9_isChange_16, sX9_isChange_17, sX9_isChange_18, sX9_isChange_21, sX9_isChange_22, sX9_isChange_23, sX9_isChange_26, sX9_isChange_27, sX9_isChange_28, sX9_isChange_31, sX9_isChange_34, sX9_isChange_35, sX9_isChange_38, sX9_isChange_39, eX9_isChange, gG9_0, gG9_1, gG9_2, gG9_3, gG9_4, gG9_5, gG9_6, gG9_7, gP9_0, gP9_1, gP9_2, gP9_3, gP9_4, gP9_5, gP9_6, gP9_7, gG6_0, gG6_1, gG6_2, gG6_3, gP6_0, gP6_1, gP6_2, gP6_3, gG1_0, gG1_1, gG1_2, gG1_3, gG1_4, gP1_0, gP1_1, gP1_2, gP1_3, gP1_4, zpush_v, zpush_n, gCk, gAi, gSi, gLi, gLq, ↓if_pos, ↓if_neg, c1, c2, c3, q2, hz]
    · rw [e2]
      refine ⟨h, Fr.rf, ⟨hr, hw⟩, fun Q => ?_⟩
      have n0 : ¬ w = nI 0 := by rintro rfl; revert g2; decide
      have n1 : ¬ w = nI 1 := by rintro rfl; revert g2; decide
      rw [eX9_change]
      simp (disch := (first | omega | assumption | (simp (disch := omega) only [Int32.lt_iff_toInt_lt, Int32.le_iff_toInt_le, ← Int32.toInt_inj, nI_toInt, zi_m1, zi_m2, zi_m3, zi_m9]; omega) | decide)) only [sX9_change_0, sX9_change_1, sX9_change_4, sX9_change_5, sX9_change_8i, sX9_change_8iN, sX9_change_8r, sX9_change_8rN, sX9_change_8z, sX9_change_8zN, sX9_change_8o, sX9_change_8oN, sX9_change_10, sX9_change_10n, sX9_change_12, sX9_change_12n, sX9_change_15, sX9_change_16, sX9_change_17, sX9_change_18, sX9_change_21, sX9_change_24, sX9_change_25, sX9_change_26, sX9_change_27, sX9_change_30, sX9_change_31, sX9_change_34, sX9_change_37, sX9_change_38, sX9_change_41, sX9_change_42, sX9_change_43, sX9_change_46, sX9_change_46n, sX9_change_48, sX9_change_49, sX9_change_52, sX9_change_55, sX9_change_55n, sX9_change_57, sX9_change_58, sX9_change_61, sX9_change_61n, sX9_change_64, sX9_change_65, sX9_change_68, sX9_change_69, sX9_change_72, sX9_change_75, sX9_change_76, sX9_change_79, sX9_change_79n, sX9_change_81, sX9_change_84, sX9_change_87, sX9_change_87n, sX9_change_89, sX9_change_92, sX9_isChange_0, sX9_isChange_1, sX9_isChange_4, sX9_isChange_5, sX9_isChange_8, sX9_isChange_11, sX9_isChange_12, sX9_isChange_15, sX9_isChange_16, sX9_isChange_17, sX9_isChange_18, sX9_isChange_21, sX9_isChange_22, sX9_isChange_23, sX9_isChange_26, sX9_isChange_27, sX9_isChange_28, sX9_isChange_31, sX9_isChange_34, sX9_isChange_35, sX9_isChange_38, sX9_isChange_39, eX9_isChange, gG9_0, gG9_1, gG9_2, gG9_3, gG9_4, gG9_5, gG9_6, gG9_7, gP9_0, gP9_1, gP9_2, gP9_3, gP9_4, gP9_5, gP9_6, gP9_7, gG6_0, gG6_1, gG6_2, gG6_3, gP6_0, gP6_1, gP6_2, gP6_3, gG1_0, gG1_1, gG1_2, gG1_3, gG1_4, gP1_0, gP1_1, gP1_2, gP1_3, gP1_4, zpush_v, zpush_n, gCk, gAi, gSi, gLi, gLq, ↓if_pos, ↓if_neg, c1, c2, c3, q2, n0, n1]
  · rw [e]
    refine ⟨h, Fr.rf, ⟨hr, hw⟩, fun Q => ?_⟩
    rw [eX9_change]
    simp (disch := (first | omega | assumption | (simp (disch := omega) only [Int32.lt_iff_toInt_lt, Int32.le_iff_toInt_le, ← Int32.toInt_inj, nI_toInt, zi_m1, zi_m2, zi_m3, zi_m9]; omega) | decide)) only [sX9_change_0, sX9_change_1, sX9_change_4, sX9_change_5, sX9_change_8i, sX9_change_8iN, sX9_change_8r, sX9_change_8rN, sX9_change_8z, sX9_change_8zN, sX9_change_8o, sX9_change_8oN, sX9_change_10, sX9_change_10n, sX9_change_12, sX9_change_12n, sX9_change_15, sX9_change_16, sX9_change_17, sX9_change_18, sX9_change_21, sX9_change_24, sX9_change_25, sX9_change_26, sX9_change_27, sX9_change_30, sX9_change_31, sX9_change_34, sX9_change_37, sX9_change_38, sX9_change_41, sX9_change_42, sX9_change_43, sX9_change_46, sX9_change_46n, sX9_change_48, sX9_change_49, sX9_change_52, sX9_change_55, sX9_change_55n, sX9_change_57, sX9_change_58, sX9_change_61, sX9_change_61n, sX9_change_64, sX9_change_65, sX9_change_68, sX9_change_69, sX9_change_72, sX9_change_75, sX9_change_76, sX9_change_79, sX9_change_79n, sX9_change_81, sX9_change_84, sX9_change_87, sX9_change_87n, sX9_change_89, sX9_change_92, gG9_0, gG9_1, gG9_2, gG9_3, gG9_4, gG9_5, gG9_6, gG9_7, gP9_0, gP9_1, gP9_2, gP9_3, gP9_4, gP9_5, gP9_6, gP9_7, gG6_0, gG6_1, gG6_2, gG6_3, gP6_0, gP6_1, gP6_2, gP6_3, gG1_0, gG1_1, gG1_2, gG1_3, gG1_4, gP1_0, gP1_1, gP1_2, gP1_3, gP1_4, zpush_v, zpush_n, gCk, gAi, gSi, gLi, gLq, ↓if_pos, ↓if_neg, c1, c2, lineF hr g]
end XD
