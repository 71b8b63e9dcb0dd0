/-! SubtitleStyles: unlike -/
section XL
variable {h h' : Hp} {X B : Nat} {p : PS}
theorem rP.flat (hr : rP h X B p) (hw : WfP p) (hs : Same h h' (X + 168) 12) (h1 : anySh h' (X + 168)) (h2 : anyL h' (X + 173)) : rP h' X B p := by
  obtain ⟨⟨⟨a1, a2, a3, a4, a5⟩, ⟨b1, b2, b3⟩, z1, z2, z3⟩, r⟩ := hr
  exact ⟨⟨⟨by rw [hs.at (by omega)]; exact a1, a2.off hs (by omega), a3.off hs (by omega), a4.off hs (by omega) (by omega), a5.off hs (by omega) (by omega)⟩, ⟨b1.off hs (by omega), h1, h2⟩, z1.same hs (by omega), z2, by rw [hs.1]; exact z3⟩, r.off hw.1.2.1.1 hs (by omega)⟩
theorem l_unlike (hw : WfP p) {h : Hp} : ∀ (m i : Nat) (h1 : Hp) (l3 l4 : Option Value), m + i = p.1.2.1.length → Same h h1 (X + 168) 12 → rP h1 X B p → rSheet h1 (X + 168) (flatS p.1.1) → okLc l3 → okLc l4 →
    ∃ h2, Same h h2 (X + 168) 12 ∧ rP h2 X B p ∧ ∀ Q : Option Value → Hp → Prop, WP 97 26 [some (.ref X), some (.int (nI 0)), some (.int (nI i)), l3, l4] [] h1 Q = Q (some (.int (nI 0))) h2 := by
  have h16 := hw.1.2.1.1
  intro m
  induction m with
  | zero =>
    intro i h1 l3 l4 hi hs hr hF a3 a4
    have hi : i = p.1.2.1.length := by omega
    subst hi
    obtain ⟨c1, c2, hS⟩ := hr.facts
    refine ⟨h1, hs, hr, fun Q => ?_⟩
    rw [sX9_unlike_26]
    simp (disch := (first | omega | assumption | (simp (disch := omega) only [Int32.lt_iff_toInt_lt, Int32.le_iff_toInt_le, ← Int32.toInt_inj, nI_toInt, zi_m1, zi_m2, zi_m3, zi_m9]; omega) | decide)) only [sX9_unlike_27, sX9_unlike_28, sX9_unlike_31, sX9_unlike_34, sX9_unlike_95, sX9_unlike_96, gG9_0, gG9_1, gG9_2, gG9_3, gG9_4, gG9_5, gG9_6, gG9_7, gP9_0, gP9_1, gP9_2, gP9_3, gP9_4, gP9_5, gP9_6, gP9_7, gG6_0, gG6_1, gG6_2, gG6_3, gP6_0, gP6_1, gP6_2, gP6_3, zpush_v, zpush_n, gCk, gAi, gSi, gLi, gLq, ↓if_pos, ↓if_neg, c1, c2]
  | succ m ih =>
    intro i h1 l3 l4 hi hs hr hF a3 a4
    have hi2 : i < p.1.2.1.length := by omega
    obtain ⟨c1, c2, hS⟩ := hr.facts
    obtain ⟨fs2, cp⟩ := hr.pic
    have BB := hr.1.2.2.2.1
    obtain ⟨q0, q1, q2⟩ := lineT hr hw hi2
    obtain ⟨Bq, t0, Bt, ct0, rt0⟩ := id q1
    obtain ⟨k1, k2, k3⟩ := hr.look hw hi2
    have ck := k1.cell.1
    have wl := hw.1.2.1.2 _ (lnA_mem hi2)
    obtain ⟨b', e', g', m', ht', o', ns', ny', la', sg', sy', hd', hK⟩ := hr.1.2.1.2.2
    obtain ⟨h2, s2, f2, r2⟩ := m_X2_read (q := q0) (a := X + 168) (t := t0) hK hw.1.1.flat wl hF (by omega) (by omega) (fun h' hs' => ⟨by rw [hs'.at (by omega)]; exact ct0, rt0.off hs' (by omega)⟩)
    have hr2 := hr.flat hw (s2.wide (by omega) (by omega)) ⟨_, hF.off s2 (by omega)⟩ f2.any
    obtain ⟨d1, d2, hS2⟩ := hr2.facts
    obtain ⟨j1, j2, j3⟩ := hr2.look hw hi2
    have cj := j1.cell.1
    have cu := m_X2_countUnlike j1 f2 hw.1.1 hw.1.1.flat wl (rdL_flat _ _)
    obtain ⟨h3, s3, r3, w3⟩ := ih (i + 1) h2 (some (.ref q0)) (some (.ref (X + 52 + 2 + 7 * i))) (by omega) (hs.tr (s2.wide (by omega) (by omega))) hr2 (hF.off s2 (by omega)) (Or.inr (Or.inr ⟨_, rfl⟩)) (Or.inr (Or.inr ⟨_, rfl⟩))
    refine ⟨h3, s3, r3, fun Q => ?_⟩
    rw [← w3 Q, sX9_unlike_26]
    have cK := hK.1
    rcases a3 with rfl | rfl | ⟨y3, rfl⟩
    all_goals
      rcases a4 with rfl | rfl | ⟨y4, rfl⟩
      all_goals simp (disch := (first | omega | assumption | (simp (disch := omega) only [Int32.lt_iff_toInt_lt, Int32.le_iff_toInt_le, ← Int32.toInt_inj, nI_toInt, zi_m1, zi_m2, zi_m3, zi_m9]; omega) | decide)) only [sX9_unlike_27, sX9_unlike_28, sX9_unlike_31, sX9_unlike_34, sX9_unlike_37, sX9_unlike_38, sX9_unlike_41, sX9_unlike_42, sX9_unlike_45i, sX9_unlike_45iN, sX9_unlike_45r, sX9_unlike_45rN, sX9_unlike_45z, sX9_unlike_45zN, sX9_unlike_45o, sX9_unlike_45oN, sX9_unlike_46, sX9_unlike_47, sX9_unlike_50, sX9_unlike_51, sX9_unlike_54i, sX9_unlike_54iN, sX9_unlike_54r, sX9_unlike_54rN, sX9_unlike_54z, sX9_unlike_54zN, sX9_unlike_54o, sX9_unlike_54oN, sX9_unlike_56, sX9_unlike_56n, sX9_unlike_57, sX9_unlike_57n, sX9_unlike_60, sX9_unlike_60n, sX9_unlike_62, sX9_unlike_62n, sX9_unlike_65, sX9_unlike_66, sX9_unlike_69, sX9_unlike_69n, sX9_unlike_70, sX9_unlike_71, sX9_unlike_74, sX9_unlike_77, sX9_unlike_78, sX9_unlike_78n, sX9_unlike_80, sX9_unlike_81, sX9_unlike_84, sX9_unlike_87, sX9_unlike_88i, sX9_unlike_88r, sX9_unlike_88z, sX9_unlike_88o, sX9_unlike_89i, sX9_unlike_89r, sX9_unlike_89z, sX9_unlike_89o, sX9_unlike_92, gG9_0, gG9_1, gG9_2, gG9_3, gG9_4, gG9_5, gG9_6, gG9_7, gP9_0, gP9_1, gP9_2, gP9_3, gP9_4, gP9_5, gP9_6, gP9_7, gG6_0, gG6_1, gG6_2, gG6_3, gP6_0, gP6_1, gP6_2, gP6_3, gG2_0, gG2_1, gG2_2, gG2_3, gG2_4, gG2_5, gG2_6, gG2_7, gG2_8, gG2_9, gG2_10, gG2_11, gP2_0, gP2_1, gP2_2, gP2_3, gP2_4, gP2_5, gP2_6, gP2_7, gP2_8, gP2_9, gP2_10, gP2_11, zpush_v, zpush_n, gCk, gAi, gSi, gLi, gLq, ↓if_pos, ↓if_neg, c1, c2, q2, cp, k3, ck, cK, r2, d1, cj, cu, nI_add]
theorem x_unlike (hr : rP h X B p) (hw : WfP p) : ∃ h', Fr X h h' ∧ rP h' X B p ∧ ∀ Q : Option Value → Hp → Prop, WPm 97 [.ref X] h Q = Q (some (.int (nI 0))) h' := by
  obtain ⟨c1, c2, hS⟩ := hr.facts
  have hws := hw.1.1
  obtain ⟨S', hS'⟩ := hr.1.2.1.2.1
  have cS := hS'.cell.1
  obtain ⟨h1, s1, t1, w1⟩ := m_X7_copy hS' hS (by omega) hws.1
  have hr1 := hr.flat hw (s1.wide (by omega) (by omega)) ⟨_, t1⟩ (anyL.off hr.1.2.1.2.2 s1 (by omega))
  obtain ⟨d1, d2, -⟩ := hr1.facts
  have cS1 := t1.cell.1
  obtain ⟨h2, s2, t2, w2⟩ := m_X7_makeFlat t1 hws
  have hr2 := hr1.flat hw (s2.wide (by omega) (by omega)) ⟨_, t2⟩ (anyL.off hr1.1.2.1.2.2 s2 (by omega))
  obtain ⟨h3, s3, r3, w3⟩ := l_unlike hw (h := h) _ 0 h2 none none rfl ((s1.wide (by omega) (by omega)).tr (s2.wide (by omega) (by omega))) hr2 t2 (Or.inl rfl) (Or.inl rfl)
  refine ⟨h3, Fr.same s3 (by omega) (by omega), r3, fun Q => ?_⟩
  rw [← w3 Q, eX9_unlike]
  simp (disch := (first | omega | assumption | (simp (disch := omega) only [Int32.lt_iff_toInt_lt, Int32.le_iff_toInt_le, ← Int32.toInt_inj, nI_toInt, zi_m1, zi_m2, zi_m3, zi_m9]; omega) | decide)) only [sX9_unlike_0, sX9_unlike_1, sX9_unlike_4, sX9_unlike_5, sX9_unlike_8, sX9_unlike_11, sX9_unlike_14, sX9_unlike_15, sX9_unlike_18, sX9_unlike_21, sX9_unlike_22, sX9_unlike_23i, sX9_unlike_23r, sX9_unlike_23z, sX9_unlike_23o, sX9_unlike_24, sX9_unlike_25i, sX9_unlike_25r, sX9_unlike_25z, sX9_unlike_25o, gG9_0, gG9_1, gG9_2, gG9_3, gG9_4, gG9_5, gG9_6, gG9_7, gP9_0, gP9_1, gP9_2, gP9_3, gP9_4, gP9_5, gP9_6, gP9_7, gG6_0, gG6_1, gG6_2, gG6_3, gP6_0, gP6_1, gP6_2, gP6_3, zpush_v, zpush_n, gCk, gAi, gSi, gLi, gLq, ↓if_pos, ↓if_neg, c1, c2, cS, w1, d1, cS1, w2]
end XL
