/-! Reader.read -/
section PR2
variable {h : Hp} {R b : Nat} {bf : Nat → Int32} {txt : List Nat}
theorem rRd.any {h' : Hp} {mi : Int32} {s : PSt} (hr : rRd h' R mi s) : anyR h' R := by
  obtain ⟨kf, nf, dg, nu, hO, -⟩ := hr
  exact hO.any
theorem l_X4_read (hn : txt.length ≤ 80) (hc : ∀ c ∈ txt, 32 ≤ c ∧ c ≤ 126) (hB : oRow h b 80 bf) (hbf : ∀ i c, txt[i]? = some c → bf i = nI c) (hbR : b + 2 ≤ R ∨ R + 5 ≤ b) : ∀ (rest : List Nat) (i : Nat) (s : PSt) (h1 : Hp), txt.drop i = rest → Same h h1 R 5 → rRd h1 R (-1) s → pOk i s → i ≤ txt.length →
    ∃ h', Same h h' R 5 ∧ (match pGo rest i s with
      | .inl j => anyR h' R ∧ ∀ Q : Option Value → Hp → Prop, WP 36 22 [some (.ref R), some (.ref b), some (.int (nI txt.length)), some (.int (nI i))] [] h1 Q = Q (some (.int (nI j))) h'
      | .inr s' => rRd h' R (-1) s' ∧ ∀ Q : Option Value → Hp → Prop, WP 36 22 [some (.ref R), some (.ref b), some (.int (nI txt.length)), some (.int (nI i))] [] h1 Q = Q (some (.int (if s'.2.2.1 = 0 then eN s'.2.1 else nI txt.length))) h') := by
  intro rest
  induction rest with
  | nil =>
    intro i s h1 hd hs hr hp hi
    have hil : txt.length ≤ i := by
      have := congrArg List.length hd
      rw [List.length_drop] at this
      have this : txt.length - i = 0 := this
      omega
    have e : i = txt.length := by omega
    subst e
    refine ⟨h1, hs, hr, fun Q => ?_⟩
    obtain ⟨kf, nf, dg, nu, hO, hI, hT⟩ := hr
    obtain ⟨-, -, h3, -⟩ := hp
    have c := hO.1
    by_cases t0 : s.2.2.1 = 0
    · rw [if_pos t0]
      rw [t0] at c
      simp (disch := (first | omega | assumption | (simp (disch := omega) only [Int32.lt_iff_toInt_lt, Int32.le_iff_toInt_le, ← Int32.toInt_inj, nI_toInt, zi_m1, zi_m2, zi_m3, zi_m9]; omega) | decide)) only [sX4_read_22, sX4_read_23, sX4_read_24, sX4_read_27, sX4_read_28, sX4_read_31, sX4_read_32, sX4_read_35, sX4_read_36, sX4_read_37, sX4_read_37n, sX4_read_38, sX4_read_39, sX4_read_42, sX4_read_45i, sX4_read_45r, sX4_read_45z, sX4_read_45o, sX4_read_48, sX4_read_51, sX4_read_52, sX4_read_55, sX4_read_56, sX4_read_59, sX4_read_60, sX4_read_63, sX4_read_64, sX4_read_65, sX4_read_68, sX4_read_71, sX4_read_72, sX4_read_75, sX4_read_78, sX4_read_79, gG4_0, gG4_1, gG4_2, gG4_3, gG4_4, gG4_5, gG4_6, gG4_7, gP4_0, gP4_1, gP4_2, gP4_3, gP4_4, gP4_5, gP4_6, gP4_7, zpush_v, zpush_n, gCk, gAi, gSi, gLi, gLq, ↓if_pos, ↓if_neg, c]
    · rw [if_neg t0]
      have t1 : s.2.2.1 < 200 := by
        rcases h3 with q | q | q
        · omega
        · omega
        · exact (isLt_lt q).2
      simp (disch := (first | omega | assumption | (simp (disch := omega) only [Int32.lt_iff_toInt_lt, Int32.le_iff_toInt_le, ← Int32.toInt_inj, nI_toInt, zi_m1, zi_m2, zi_m3, zi_m9]; omega) | decide)) only [sX4_read_22, sX4_read_23, sX4_read_24, sX4_read_27, sX4_read_28, sX4_read_31, sX4_read_32, sX4_read_35, sX4_read_36, sX4_read_37, sX4_read_37n, sX4_read_38, sX4_read_39, sX4_read_42, sX4_read_45i, sX4_read_45r, sX4_read_45z, sX4_read_45o, sX4_read_48, sX4_read_51, sX4_read_52, sX4_read_55, sX4_read_56, sX4_read_59, sX4_read_60, sX4_read_63, sX4_read_64, sX4_read_65, sX4_read_68, sX4_read_71, sX4_read_72, sX4_read_75, sX4_read_78, sX4_read_79, gG4_0, gG4_1, gG4_2, gG4_3, gG4_4, gG4_5, gG4_6, gG4_7, gP4_0, gP4_1, gP4_2, gP4_3, gP4_4, gP4_5, gP4_6, gP4_7, zpush_v, zpush_n, gCk, gAi, gSi, gLi, gLq, ↓if_pos, ↓if_neg, c]
  | cons c rest ih =>
    intro i s h1 hd hs hr hp hi
    have hil : i < txt.length := by
      have := congrArg List.length hd
      rw [List.length_drop, List.length_cons] at this
      omega
    have hci : txt[i]? = some c := by
      have := congrArg (fun l => l[0]?) hd
      simpa using this
    have hd2 : txt.drop (i + 1) = rest := by
      rw [← List.drop_drop, hd]
      rfl
    have hcc := hc c (List.mem_of_getElem? hci)
    obtain ⟨h2, s2, m2, r2⟩ := m_X4_take hr hp (show i < 80 by omega) hcc
    have hs2 := hs.tr s2
    have hB1 := hB.off hs hbR
    have gg := m_X5_get hB1 (show 80 ≤ 100000 by omega) (show i < 80 by omega)
    rw [hbf i c hci] at gg
    have cR : h1.1 R = some (.inr (4, [.ref (R + 1), .ref (R + 3), .int (nI s.1.length), .int (-1), .int (eN s.2.1), .int (nI s.2.2.1), .int (hr.choose_spec.choose_spec.choose), .int (hr.choose_spec.choose_spec.choose_spec.choose)])) := hr.choose_spec.choose_spec.choose_spec.choose_spec.1.1
    have st : ∀ Q : Option Value → Hp → Prop, WP 36 22 [some (.ref R), some (.ref b), some (.int (nI txt.length)), some (.int (nI i))] [] h1 Q = WP 36 22 [some (.ref R), some (.ref b), some (.int (nI txt.length)), some (.int (nI (i + 1)))] [] h2 Q := by
      intro Q
      rw [sX4_read_22]
      simp (disch := (first | omega | assumption | (simp (disch := omega) only [Int32.lt_iff_toInt_lt, Int32.le_iff_toInt_le, ← Int32.toInt_inj, nI_toInt, zi_m1, zi_m2, zi_m3, zi_m9]; omega) | decide)) only [sX4_read_23, sX4_read_24, sX4_read_27, sX4_read_28, sX4_read_31, sX4_read_32, sX4_read_35, sX4_read_36, sX4_read_37, sX4_read_37n, sX4_read_38, sX4_read_39, sX4_read_42, sX4_read_45i, sX4_read_45r, sX4_read_45z, sX4_read_45o, sX4_read_48, gG4_0, gG4_1, gG4_2, gG4_3, gG4_4, gG4_5, gG4_6, gG4_7, gP4_0, gP4_1, gP4_2, gP4_3, gP4_4, gP4_5, gP4_6, gP4_7, zpush_v, zpush_n, gCk, gAi, gSi, gLi, gLq, ↓if_pos, ↓if_neg, cR, hB1.1, gg, r2, nI_add]
    simp only [pGo]
    cases ht : pTake s i c with
    | none =>
      rw [ht] at m2
      simp only at m2
      refine ⟨h2, hs2, m2.any, fun Q => ?_⟩
      rw [st]
      obtain ⟨kf, nf, dg, nu, hO, hI, hT⟩ := m2
      have c2 := hO.1
      have hm := nI_nm1 (k := i) (by omega)
      by_cases k1 : i + 1 < txt.length
      · simp (disch := (first | omega | assumption | (simp (disch := omega) only [Int32.lt_iff_toInt_lt, Int32.le_iff_toInt_le, ← Int32.toInt_inj, nI_toInt, zi_m1, zi_m2, zi_m3, zi_m9]; omega) | decide)) only [sX4_read_22, sX4_read_23, sX4_read_24, sX4_read_27, sX4_read_28, sX4_read_31, sX4_read_32, sX4_read_35, sX4_read_36, sX4_read_37, sX4_read_37n, sX4_read_38, sX4_read_39, sX4_read_42, sX4_read_45i, sX4_read_45r, sX4_read_45z, sX4_read_45o, sX4_read_48, sX4_read_51, sX4_read_52, sX4_read_55, sX4_read_56, sX4_read_59, sX4_read_60, sX4_read_63, gG4_0, gG4_1, gG4_2, gG4_3, gG4_4, gG4_5, gG4_6, gG4_7, gP4_0, gP4_1, gP4_2, gP4_3, gP4_4, gP4_5, gP4_6, gP4_7, zpush_v, zpush_n, gCk, gAi, gSi, gLi, gLq, ↓if_pos, ↓if_neg, c2, not_false_eq_true]
      · simp (disch := (first | omega | assumption | (simp (disch := omega) only [Int32.lt_iff_toInt_lt, Int32.le_iff_toInt_le, ← Int32.toInt_inj, nI_toInt, zi_m1, zi_m2, zi_m3, zi_m9]; omega) | decide)) only [sX4_read_22, sX4_read_23, sX4_read_24, sX4_read_27, sX4_read_28, sX4_read_31, sX4_read_32, sX4_read_35, sX4_read_36, sX4_read_37, sX4_read_37n, sX4_read_38, sX4_read_39, sX4_read_42, sX4_read_45i, sX4_read_45r, sX4_read_45z, sX4_read_45o, sX4_read_48, sX4_read_51, sX4_read_52, sX4_read_55, sX4_read_56, sX4_read_59, sX4_read_60, sX4_read_63, gG4_0, gG4_1, gG4_2, gG4_3, gG4_4, gG4_5, gG4_6, gG4_7, gP4_0, gP4_1, gP4_2, gP4_3, gP4_4, gP4_5, gP4_6, gP4_7, zpush_v, zpush_n, gCk, gAi, gSi, gLi, gLq, ↓if_pos, ↓if_neg, c2, not_false_eq_true]
    | some s' =>
      rw [ht] at m2
      simp only at m2
      obtain ⟨h3, s3, m3⟩ := ih (i + 1) s' h2 hd2 hs2 m2 (hp.take hcc ht) (by omega)
      refine ⟨h3, s3, ?_⟩
      simp only
      cases hg : pGo rest (i + 1) s' with
      | inl j =>
        rw [hg] at m3
        exact ⟨m3.1, fun Q => (st Q).trans (m3.2 Q)⟩
      | inr s'' =>
        rw [hg] at m3
        exact ⟨m3.1, fun Q => (st Q).trans (m3.2 Q)⟩
theorem m_X4_read (hA : anyR h R) (hn : txt.length ≤ 80) (hc : ∀ c ∈ txt, 32 ≤ c ∧ c ≤ 126) (hB : oRow h b 80 bf) (hbf : ∀ i c, txt[i]? = some c → bf i = nI c) (hbR : b + 2 ≤ R ∨ R + 5 ≤ b) :
    ∃ h', Same h h' R 5 ∧ anyR h' R ∧ (pErr txt = none → ∃ mi oo tg dg nu kf nf, oRd h' R (nI (pIts txt).length) mi oo tg dg nu kf nf ∧ rIts kf nf (pIts txt)) ∧ ∀ Q : Option Value → Hp → Prop, WPm 36 [.ref R, .ref b, .int (nI txt.length)] h Q = Q (some (.int (eN (pErr txt)))) h' := by
  obtain ⟨sz, mi, oo, tg, dg, nu, kf, nf, hO⟩ := hA
  have c0 := hO.1
  have hO1 := hO.setR (sz' := nI 0) (mi' := -1) (oo' := -1) (tg' := nI 0) (dg' := dg) (nu' := nu)
  obtain ⟨h1, s1, m1⟩ := l_X4_read hn hc hB hbf hbR txt 0 ps0 _ rfl (Same.set (lo := R) (n := 5) (by omega) (by omega)) ⟨kf, nf, dg, nu, hO1, (fun i x hx => by cases hx), fun q => absurd q (by show ¬ 2 ≤ 0; omega)⟩ pOk_0 (Nat.zero_le _)
  have st : ∀ Q : Option Value → Hp → Prop, WPm 36 [.ref R, .ref b, .int (nI txt.length)] h Q = WP 36 22 [some (.ref R), some (.ref b), some (.int (nI txt.length)), some (.int (nI 0))] [] (hset h R (.inr (4, [.ref (R + 1), .ref (R + 3), .int (nI 0), .int (-1), .int (-1), .int (nI 0), .int dg, .int nu]))) Q := by
    intro Q
    rw [eX4_read]
    simp (disch := (first | omega | assumption | (simp (disch := omega) only [Int32.lt_iff_toInt_lt, Int32.le_iff_toInt_le, ← Int32.toInt_inj, nI_toInt, zi_m1, zi_m2, zi_m3, zi_m9]; omega) | decide)) only [sX4_read_0, sX4_read_1, sX4_read_2, sX4_read_5, sX4_read_6, sX4_read_7, sX4_read_10, sX4_read_11, sX4_read_12, sX4_read_15, sX4_read_16, sX4_read_17, sX4_read_20, sX4_read_21i, sX4_read_21r, sX4_read_21z, sX4_read_21o, gG4_0, gG4_1, gG4_2, gG4_3, gG4_4, gG4_5, gG4_6, gG4_7, gP4_0, gP4_1, gP4_2, gP4_3, gP4_4, gP4_5, gP4_6, gP4_7, zpush_v, zpush_n, gCk, gAi, gSi, gLi, gLq, ↓if_pos, ↓if_neg, c0, hset_same, hset_hset]
  refine ⟨h1, s1, ?_⟩
  unfold pErr pIts
  cases hg : pGo txt 0 ps0 with
  | inl j =>
    rw [hg] at m1
    exact ⟨m1.1, (fun q => by cases q), fun Q => (st Q).trans (m1.2 Q)⟩
  | inr s =>
    rw [hg] at m1
    refine ⟨m1.1.any, fun q => ?_, fun Q => (st Q).trans ((m1.2 Q).trans ?_)⟩
    · obtain ⟨kf', nf', dg', nu', hO', hI', -⟩ := m1.1
      exact ⟨_, _, _, _, _, kf', nf', hO', hI'⟩
    · simp only
      split <;> rfl
end PR2
