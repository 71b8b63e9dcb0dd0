section RD3
variable {h : Hp} {k q a t : Nat} {b e g m ht o ns ny la : Int32} {sg sy hd : Nat → Int32} {S : Sh} {ln : Ln}
theorem pLook.mk0 {b' e' g' m' : Nat} (hO : oLook h k (nI b') (nI e') (nI g') (nI m') (nI 0) o (nI 0) (nI 0) (nI 0) sg sy (cpf hd (fun p => nI (valS S p ln.2.2.1)) 0 4)) : pLook h k b' e' g' m' o (runL S ln.2.2.1 (ln.2.2.2.2.take 0)) := by
  refine ⟨sg, sy, _, hO, fun i x hx => ?_, fun i hi => ?_, fun p hp => ?_⟩
  · simp [runL, rd0] at hx
  · simp [runL, rd0] at hi
  · rw [cpf_in (by omega)]
    rfl
theorem m_X2_read (hO : oLook h k b e g m ht o ns ny la sg sy hd) (hw : WfS S) (hok : WfL ln) (hSh : rSheet h a S) (hak : a + 5 ≤ k ∨ k + 7 ≤ a) (hqk : q < k ∨ k + 7 ≤ q)
    (hL : ∀ h', Same h h' k 7 → h'.1 q = some (.inr (1, [.int (nI ln.1), .int (nI ln.2.1), .int (eN ln.2.2.1), .int (eN ln.2.2.2.1), .ref t])) ∧ rText h' t ln.2.2.2.2) :
    ∃ h', Same h h' k 7 ∧ fLook h' k S ln o ∧ ∀ Q : Option Value → Hp → Prop, WPm 10 [.ref k, .ref q, .ref a] h Q = Q none h' := by
  have w3 := hok.2.2.1
  have hV : ∀ (p : Nat), p < 6 → ∀ (E : va_E) (Q : Option Value → Hp → Prop), WPm 63 [.ref a, .int (eN ln.2.2.1), .int (nI p)] (hset h k E) Q = Q (some (.int (nI (valS S p ln.2.2.1)))) (hset h k E) :=
    fun p hp E Q => m_X7_valueIn (hSh.off (Same.set (lo := k) (n := 7) (by omega) (by omega)) (by omega)) hw hp w3 Q
  have hV4 := hV 4 (by omega)
  have hV5 := hV 5 (by omega)
  have cS := hSh.cell.1
  have cq := (hL h Same.rf).1
  have ck := hO.1
  have hK := hO.setK (b' := nI ln.1) (e' := nI ln.2.1) (g' := nI (valS S 4 ln.2.2.1)) (m' := nI (mrg S ln)) (ht' := nI 0) (o' := o) (ns' := nI 0) (ny' := nI 0) (la' := nI 0)
  have sK : Same h (hset h k (.inr (2, [.int (nI ln.1), .int (nI ln.2.1), .int (nI (valS S 4 ln.2.2.1)), .int (nI (mrg S ln)), .int (nI 0), .int o, .int (nI 0), .ref (k + 1), .int (nI 0), .ref (k + 3), .int (nI 0), .ref (k + 5)]))) k 7 := Same.set (by omega) (by omega)
  have hSK := hSh.off sK (by omega)
  have hH := hK.setH (f := cpf hd (fun p => nI (valS S p ln.2.2.1)) 0 4)
  have sH := sK.tr (Same.set (a := k + 6) (e := .inl (0, 4, .inl (cpf hd (fun p => nI (valS S p ln.2.2.1)) 0 4))) (by omega) (by omega))
  have pH := pLook.mk0 hH
  obtain ⟨h1, k5, k6, s1, p1, r1⟩ := l_X2_read (q := q) (t := t) hw hok hSh hak hL _ 0 (by rfl) _ none none sH pH
  obtain ⟨c1, c2⟩ := hL _ sH
  have step : ∀ Q : Option Value → Hp → Prop, WPm 10 [.ref k, .ref q, .ref a] h Q = WP 10 221 [some (.ref k), some (.ref q), some (.ref a), some (.ref t), some (.int (nI ln.2.2.2.2.length)), k5, k6] [] h1 Q := by
    intro Q
    rw [← r1, eX2_read]
    cases hm : ln.2.2.2.1 with
    | none =>
      have em : mrg S ln = valS S 5 ln.2.2.1 := by unfold mrg; rw [hm]
      rw [em] at hK hSK c1 ⊢
      rw [hm, eN_n] at cq c1
      simp (disch := (first | omega | assumption | (simp (disch := omega) only [Int32.lt_iff_toInt_lt, Int32.le_iff_toInt_le, ← Int32.toInt_inj, nI_toInt, zi_m1, zi_m2, zi_m3, zi_m9]; omega) | decide)) only [sX2_read_0, sX2_read_1, sX2_read_1n, sX2_read_2, sX2_read_5, sX2_read_8, sX2_read_9, sX2_read_9n, sX2_read_10, sX2_read_13, sX2_read_16, sX2_read_17, sX2_read_17n, sX2_read_18, sX2_read_18n, sX2_read_19, sX2_read_22, sX2_read_23, sX2_read_26, sX2_read_29, sX2_read_30, sX2_read_30n, sX2_read_31, sX2_read_34, sX2_read_35, sX2_read_38, sX2_read_38n, sX2_read_39, sX2_read_39n, sX2_read_40, sX2_read_43, sX2_read_44, sX2_read_47, sX2_read_50, sX2_read_50n, sX2_read_51, sX2_read_54, sX2_read_57, sX2_read_58, sX2_read_59, sX2_read_62, sX2_read_63, sX2_read_64, sX2_read_67, sX2_read_68, sX2_read_69, sX2_read_72, sX2_read_73, sX2_read_74, sX2_read_77, sX2_read_78, sX2_read_78n, sX2_read_79, sX2_read_82, sX2_read_82n, sX2_read_83, sX2_read_86, sX2_read_86n, sX2_read_87, sX2_read_90i, sX2_read_90iN, sX2_read_90r, sX2_read_90rN, sX2_read_90z, sX2_read_90zN, sX2_read_90o, sX2_read_90oN, sX2_read_91, sX2_read_92i, sX2_read_92r, sX2_read_92z, sX2_read_92o, gG1_0, gG1_1, gG1_2, gG1_3, gG1_4, gP1_0, gP1_1, gP1_2, gP1_3, gP1_4, gG2_0, gG2_1, gG2_2, gG2_3, gG2_4, gG2_5, gG2_6, gG2_7, gG2_8, gG2_9, gG2_10, gG2_11, gP2_0, gP2_1, gP2_2, gP2_3, gP2_4, gP2_5, gP2_6, gP2_7, gP2_8, gP2_9, gP2_10, gP2_11, zpush_v, zpush_n, gCk, gAi, gSi, gLi, gLq, ↓if_pos, ↓if_neg, ck, cq, cS, hset_same, hset_ne, hset_hset, hV4, hV5, m_X2_holdStyle hK hSK hw w3 hak]
    | some v =>
      have hv := hok.2.2.2.1 v hm
      have em : mrg S ln = v := by unfold mrg; rw [hm]
      rw [em] at hK hSK c1 ⊢
      rw [hm, eN_s] at cq c1
      simp (disch := (first | omega | assumption | (simp (disch := omega) only [Int32.lt_iff_toInt_lt, Int32.le_iff_toInt_le, ← Int32.toInt_inj, nI_toInt, zi_m1, zi_m2, zi_m3, zi_m9]; omega) | decide)) only [sX2_read_0, sX2_read_1, sX2_read_1n, sX2_read_2, sX2_read_5, sX2_read_8, sX2_read_9, sX2_read_9n, sX2_read_10, sX2_read_13, sX2_read_16, sX2_read_17, sX2_read_17n, sX2_read_18, sX2_read_18n, sX2_read_19, sX2_read_22, sX2_read_23, sX2_read_26, sX2_read_29, sX2_read_30, sX2_read_30n, sX2_read_31, sX2_read_34, sX2_read_35, sX2_read_38, sX2_read_38n, sX2_read_39, sX2_read_39n, sX2_read_40, sX2_read_43, sX2_read_44, sX2_read_47, sX2_read_50, sX2_read_50n, sX2_read_51, sX2_read_54, sX2_read_57, sX2_read_58, sX2_read_59, sX2_read_62, sX2_read_63, sX2_read_64, sX2_read_67, sX2_read_68, sX2_read_69, sX2_read_72, sX2_read_73, sX2_read_74, sX2_read_77, sX2_read_78, sX2_read_78n, sX2_read_79, sX2_read_82, sX2_read_82n, sX2_read_83, sX2_read_86, sX2_read_86n, sX2_read_87, sX2_read_90i, sX2_read_90iN, sX2_read_90r, sX2_read_90rN, sX2_read_90z, sX2_read_90zN, sX2_read_90o, sX2_read_90oN, sX2_read_91, sX2_read_92i, sX2_read_92r, sX2_read_92z, sX2_read_92o, gG1_0, gG1_1, gG1_2, gG1_3, gG1_4, gP1_0, gP1_1, gP1_2, gP1_3, gP1_4, gG2_0, gG2_1, gG2_2, gG2_3, gG2_4, gG2_5, gG2_6, gG2_7, gG2_8, gG2_9, gG2_10, gG2_11, gP2_0, gP2_1, gP2_2, gP2_3, gP2_4, gP2_5, gP2_6, gP2_7, gP2_8, gP2_9, gP2_10, gP2_11, zpush_v, zpush_n, gCk, gAi, gSi, gLi, gLq, ↓if_pos, ↓if_neg, ck, cq, cS, hset_same, hset_ne, hset_hset, hV4, hV5, m_X2_holdStyle hK hSK hw w3 hak, nI_nm1]
  obtain ⟨sg1, sy1, hd1, hO1, hT1, hY1, -⟩ := p1
  have hlen : (rdL S ln).2.1.length ≤ 80 := by
    have := (okR_take hw (st := ln.2.2.1) hok.2.2.2.2.2.1 _ (Nat.le_refl _)).1
    rw [List.take_length] at this
    exact Nat.le_trans this hok.2.2.2.2.1
  by_cases hz : (rdL S ln).2.1.length = 0
  · have hO2 := hO1.setK (b' := nI ln.1) (e' := nI ln.2.1) (g' := nI (valS S 4 ln.2.2.1)) (m' := nI (mrg S ln)) (ht' := nI (valS S 0 ln.2.2.1)) (o' := o) (ns' := nI (rdL S ln).2.1.length) (ny' := nI (rdL S ln).2.2.length) (la' := nI (rdL S ln).2.2.sum)
    refine ⟨_, s1.tr (Same.set (a := k) (by omega) (by omega)), ⟨sg1, sy1, hd1, by unfold hgL; rw [if_pos hz]; exact hO2, hT1, hY1⟩, fun Q => ?_⟩
    rw [step]
    have c3 := (hL _ s1).1
    have hS1 := hSh.off s1 (by omega)
    have c4 := hS1.cell.1
    have c5 := hO1.1
    rw [hz] at c5
    simp (disch := (first | omega | assumption | (simp (disch := omega) only [Int32.lt_iff_toInt_lt, Int32.le_iff_toInt_le, ← Int32.toInt_inj, nI_toInt, zi_m1, zi_m2, zi_m3, zi_m9]; omega) | decide)) only [sX2_read_221, sX2_read_222, sX2_read_225, sX2_read_228, sX2_read_229, sX2_read_229n, sX2_read_230, sX2_read_230n, sX2_read_231, sX2_read_234, sX2_read_235, sX2_read_238, sX2_read_241, gG1_0, gG1_1, gG1_2, gG1_3, gG1_4, gP1_0, gP1_1, gP1_2, gP1_3, gP1_4, gG2_0, gG2_1, gG2_2, gG2_3, gG2_4, gG2_5, gG2_6, gG2_7, gG2_8, gG2_9, gG2_10, gG2_11, gP2_0, gP2_1, gP2_2, gP2_3, gP2_4, gP2_5, gP2_6, gP2_7, gP2_8, gP2_9, gP2_10, gP2_11, zpush_v, zpush_n, gCk, gAi, gSi, gLi, gLq, ↓if_pos, ↓if_neg, c3, c4, c5, m_X7_valueIn hS1 hw (show 0 < 6 by omega) w3]
    rw [hz]
  · refine ⟨h1, s1, ⟨sg1, sy1, hd1, by unfold hgL; rw [if_neg hz]; exact hO1, hT1, hY1⟩, fun Q => ?_⟩
    rw [step]
    have c5 := hO1.1
    simp (disch := (first | omega | assumption | (simp (disch := omega) only [Int32.lt_iff_toInt_lt, Int32.le_iff_toInt_le, ← Int32.toInt_inj, nI_toInt, zi_m1, zi_m2, zi_m3, zi_m9]; omega) | decide)) only [sX2_read_221, sX2_read_222, sX2_read_225, sX2_read_228, sX2_read_229, sX2_read_229n, sX2_read_230, sX2_read_230n, sX2_read_231, sX2_read_234, sX2_read_235, sX2_read_238, sX2_read_241, gG1_0, gG1_1, gG1_2, gG1_3, gG1_4, gP1_0, gP1_1, gP1_2, gP1_3, gP1_4, gG2_0, gG2_1, gG2_2, gG2_3, gG2_4, gG2_5, gG2_6, gG2_7, gG2_8, gG2_9, gG2_10, gG2_11, gP2_0, gP2_1, gP2_2, gP2_3, gP2_4, gP2_5, gP2_6, gP2_7, gP2_8, gP2_9, gP2_10, gP2_11, zpush_v, zpush_n, gCk, gAi, gSi, gLi, gLq, ↓if_pos, ↓if_neg, c5]
end RD3
