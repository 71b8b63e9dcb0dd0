/-! SubtitleStyles: crowd, fit -/
section XI
variable {h h' : Hp} {X B : Nat} {p : PS}
theorem crw_le {L : List Ln} : ∀ i, (crw L i).2 ≤ L.length := by
  intro i
  induction i with
  | zero => exact Nat.zero_le _
  | succ i ih =>
    simp only [crw]
    split
    · exact cSh_le _ _
    · exact ih
theorem l_crowd (hr : rP h X B p) (hw : WfP p) (Q : Option Value → Hp → Prop) : ∀ (m i : Nat) (l4 l5 : Option Value), m + i = p.1.2.1.length → ((l4 = none ∧ l5 = none) ∨ ∃ y z, l4 = some (.int y) ∧ l5 = some (.int z)) →
    WP 95 7 [some (.ref X), some (.int (crw p.1.2.1 i).1), some (.int (nI (crw p.1.2.1 i).2)), some (.int (nI i)), l4, l5] [] h Q = Q (some (.int (qCrowd p))) h := by
  obtain ⟨c1, c2, hS⟩ := hr.facts
  obtain ⟨fs2, cp⟩ := hr.pic
  have h16 := hw.1.2.1.1
  intro m
  induction m with
  | zero =>
    intro i l4 l5 hi hl
    have hi : i = p.1.2.1.length := by omega
    subst hi
    rw [sX9_crowd_7]
    simp (disch := (first | omega | assumption | (simp (disch := omega) only [Int32.lt_iff_toInt_lt, Int32.le_iff_toInt_le, ← Int32.toInt_inj, nI_toInt, zi_m1, zi_m2, zi_m3, zi_m9]; omega) | decide)) only [sX9_crowd_0, sX9_crowd_2i, sX9_crowd_2r, sX9_crowd_2z, sX9_crowd_2o, sX9_crowd_3, sX9_crowd_4i, sX9_crowd_4r, sX9_crowd_4z, sX9_crowd_4o, sX9_crowd_5, sX9_crowd_6i, sX9_crowd_6r, sX9_crowd_6z, sX9_crowd_6o, sX9_crowd_8, sX9_crowd_9, sX9_crowd_12, sX9_crowd_15, sX9_crowd_18, sX9_crowd_19, sX9_crowd_22, sX9_crowd_23, sX9_crowd_26i, sX9_crowd_26r, sX9_crowd_26z, sX9_crowd_26o, sX9_crowd_28, sX9_crowd_29, sX9_crowd_32, sX9_crowd_34, sX9_crowd_37i, sX9_crowd_37r, sX9_crowd_37z, sX9_crowd_37o, sX9_crowd_39, sX9_crowd_41, sX9_crowd_42, sX9_crowd_45, sX9_crowd_47, sX9_crowd_48, sX9_crowd_51, sX9_crowd_53, sX9_crowd_54, sX9_crowd_57, sX9_crowd_59i, sX9_crowd_59r, sX9_crowd_59z, sX9_crowd_59o, sX9_crowd_60, sX9_crowd_62i, sX9_crowd_62r, sX9_crowd_62z, sX9_crowd_62o, sX9_crowd_63i, sX9_crowd_63r, sX9_crowd_63z, sX9_crowd_63o, sX9_crowd_66, sX9_crowd_69, sX9_crowd_70, gG9_0, gG9_1, gG9_2, gG9_3, gG9_4, gG9_5, gG9_6, gG9_7, gP9_0, gP9_1, gP9_2, gP9_3, gP9_4, gP9_5, gP9_6, gP9_7, gG6_0, gG6_1, gG6_2, gG6_3, gP6_0, gP6_1, gP6_2, gP6_3, zpush_v, zpush_n, gCk, gAi, gSi, gLi, gLq, ↓if_pos, ↓if_neg, c1, c2]
    rfl
  | succ m ih =>
    intro i l4 l5 hi hl
    have hi2 : i < p.1.2.1.length := by omega
    have le := crw_le (L := p.1.2.1) i
    obtain ⟨⟨g, hO⟩, hK, -⟩ := id hr.2
    have bg := m_X3_beginOf hO hw.1.2.1 hK hi2
    have cs := m_X3_countShown hr.2 hw.1.2.1 (nI (lnA p.1.2.1 i).1)
    have cl := cSh_le (L := p.1.2.1) (nI (lnA p.1.2.1 i).1) p.1.2.1.length
    have E := ih (i + 1) (some (.int (nI (lnA p.1.2.1 i).1))) (some (.int (nI (cSh p.1.2.1 (nI (lnA p.1.2.1 i).1) p.1.2.1.length)))) (by omega) (Or.inr ⟨_, _, rfl, rfl⟩)
    simp only [crw] at E
    rw [sX9_crowd_7]
    by_cases z : (crw p.1.2.1 i).2 < cSh p.1.2.1 (nI (lnA p.1.2.1 i).1) p.1.2.1.length
    · rw [if_pos (Or.inl z)] at E
      rw [← E]
      rcases hl with ⟨rfl, rfl⟩ | ⟨y4, y5, rfl, rfl⟩
      all_goals simp (disch := (first | omega | assumption | (simp (disch := omega) only [Int32.lt_iff_toInt_lt, Int32.le_iff_toInt_le, ← Int32.toInt_inj, nI_toInt, zi_m1, zi_m2, zi_m3, zi_m9]; omega) | decide)) only [sX9_crowd_0, sX9_crowd_2i, sX9_crowd_2r, sX9_crowd_2z, sX9_crowd_2o, sX9_crowd_3, sX9_crowd_4i, sX9_crowd_4r, sX9_crowd_4z, sX9_crowd_4o, sX9_crowd_5, sX9_crowd_6i, sX9_crowd_6r, sX9_crowd_6z, sX9_crowd_6o, sX9_crowd_8, sX9_crowd_9, sX9_crowd_12, sX9_crowd_15, sX9_crowd_18, sX9_crowd_19, sX9_crowd_22, sX9_crowd_23, sX9_crowd_26i, sX9_crowd_26r, sX9_crowd_26z, sX9_crowd_26o, sX9_crowd_28, sX9_crowd_29, sX9_crowd_32, sX9_crowd_34, sX9_crowd_37i, sX9_crowd_37r, sX9_crowd_37z, sX9_crowd_37o, sX9_crowd_39, sX9_crowd_41, sX9_crowd_42, sX9_crowd_45, sX9_crowd_47, sX9_crowd_48, sX9_crowd_51, sX9_crowd_53, sX9_crowd_54, sX9_crowd_57, sX9_crowd_59i, sX9_crowd_59r, sX9_crowd_59z, sX9_crowd_59o, sX9_crowd_60, sX9_crowd_62i, sX9_crowd_62r, sX9_crowd_62z, sX9_crowd_62o, sX9_crowd_63i, sX9_crowd_63r, sX9_crowd_63z, sX9_crowd_63o, sX9_crowd_66, sX9_crowd_69, sX9_crowd_70, gG9_0, gG9_1, gG9_2, gG9_3, gG9_4, gG9_5, gG9_6, gG9_7, gP9_0, gP9_1, gP9_2, gP9_3, gP9_4, gP9_5, gP9_6, gP9_7, gG6_0, gG6_1, gG6_2, gG6_3, gP6_0, gP6_1, gP6_2, gP6_3, zpush_v, zpush_n, gCk, gAi, gSi, gLi, gLq, ↓if_pos, ↓if_neg, c1, c2, cp, bg, cs, nI_add]
    · by_cases y : cSh p.1.2.1 (nI (lnA p.1.2.1 i).1) p.1.2.1.length = (crw p.1.2.1 i).2
      · by_cases x : nI (lnA p.1.2.1 i).1 < (crw p.1.2.1 i).1
        · rw [if_pos (Or.inr ⟨y, x⟩)] at E
          have x2 := Int32.not_le.mpr x
          rw [← E]
          rcases hl with ⟨rfl, rfl⟩ | ⟨y4, y5, rfl, rfl⟩
          all_goals simp (disch := (first | omega | assumption | (simp (disch := omega) only [Int32.lt_iff_toInt_lt, Int32.le_iff_toInt_le, ← Int32.toInt_inj, nI_toInt, zi_m1, zi_m2, zi_m3, zi_m9]; omega) | decide)) only [sX9_crowd_0, sX9_crowd_2i, sX9_crowd_2r, sX9_crowd_2z, sX9_crowd_2o, sX9_crowd_3, sX9_crowd_4i, sX9_crowd_4r, sX9_crowd_4z, sX9_crowd_4o, sX9_crowd_5, sX9_crowd_6i, sX9_crowd_6r, sX9_crowd_6z, sX9_crowd_6o, sX9_crowd_8, sX9_crowd_9, sX9_crowd_12, sX9_crowd_15, sX9_crowd_18, sX9_crowd_19, sX9_crowd_22, sX9_crowd_23, sX9_crowd_26i, sX9_crowd_26r, sX9_crowd_26z, sX9_crowd_26o, sX9_crowd_28, sX9_crowd_29, sX9_crowd_32, sX9_crowd_34, sX9_crowd_37i, sX9_crowd_37r, sX9_crowd_37z, sX9_crowd_37o, sX9_crowd_39, sX9_crowd_41, sX9_crowd_42, sX9_crowd_45, sX9_crowd_47, sX9_crowd_48, sX9_crowd_51, sX9_crowd_53, sX9_crowd_54, sX9_crowd_57, sX9_crowd_59i, sX9_crowd_59r, sX9_crowd_59z, sX9_crowd_59o, sX9_crowd_60, sX9_crowd_62i, sX9_crowd_62r, sX9_crowd_62z, sX9_crowd_62o, sX9_crowd_63i, sX9_crowd_63r, sX9_crowd_63z, sX9_crowd_63o, sX9_crowd_66, sX9_crowd_69, sX9_crowd_70, gG9_0, gG9_1, gG9_2, gG9_3, gG9_4, gG9_5, gG9_6, gG9_7, gP9_0, gP9_1, gP9_2, gP9_3, gP9_4, gP9_5, gP9_6, gP9_7, gG6_0, gG6_1, gG6_2, gG6_3, gP6_0, gP6_1, gP6_2, gP6_3, zpush_v, zpush_n, gCk, gAi, gSi, gLi, gLq, ↓if_pos, ↓if_neg, c1, c2, cp, bg, cs, nI_add]
        · rw [if_neg (fun q => q.elim z (fun q => x q.2))] at E
          have x2 := Int32.not_lt.mp x
          rw [← E]
          rcases hl with ⟨rfl, rfl⟩ | ⟨y4, y5, rfl, rfl⟩
          all_goals simp (disch := (first | omega | assumption | (simp (disch := omega) only [Int32.lt_iff_toInt_lt, Int32.le_iff_toInt_le, ← Int32.toInt_inj, nI_toInt, zi_m1, zi_m2, zi_m3, zi_m9]; omega) | decide)) only [sX9_crowd_0, sX9_crowd_2i, sX9_crowd_2r, sX9_crowd_2z, sX9_crowd_2o, sX9_crowd_3, sX9_crowd_4i, sX9_crowd_4r, sX9_crowd_4z, sX9_crowd_4o, sX9_crowd_5, sX9_crowd_6i, sX9_crowd_6r, sX9_crowd_6z, sX9_crowd_6o, sX9_crowd_8, sX9_crowd_9, sX9_crowd_12, sX9_crowd_15, sX9_crowd_18, sX9_crowd_19, sX9_crowd_22, sX9_crowd_23, sX9_crowd_26i, sX9_crowd_26r, sX9_crowd_26z, sX9_crowd_26o, sX9_crowd_28, sX9_crowd_29, sX9_crowd_32, sX9_crowd_34, sX9_crowd_37i, sX9_crowd_37r, sX9_crowd_37z, sX9_crowd_37o, sX9_crowd_39, sX9_crowd_41, sX9_crowd_42, sX9_crowd_45, sX9_crowd_47, sX9_crowd_48, sX9_crowd_51, sX9_crowd_53, sX9_crowd_54, sX9_crowd_57, sX9_crowd_59i, sX9_crowd_59r, sX9_crowd_59z, sX9_crowd_59o, sX9_crowd_60, sX9_crowd_62i, sX9_crowd_62r, sX9_crowd_62z, sX9_crowd_62o, sX9_crowd_63i, sX9_crowd_63r, sX9_crowd_63z, sX9_crowd_63o, sX9_crowd_66, sX9_crowd_69, sX9_crowd_70, gG9_0, gG9_1, gG9_2, gG9_3, gG9_4, gG9_5, gG9_6, gG9_7, gP9_0, gP9_1, gP9_2, gP9_3, gP9_4, gP9_5, gP9_6, gP9_7, gG6_0, gG6_1, gG6_2, gG6_3, gP6_0, gP6_1, gP6_2, gP6_3, zpush_v, zpush_n, gCk, gAi, gSi, gLi, gLq, ↓if_pos, ↓if_neg, c1, c2, cp, bg, cs, nI_add]
      · rw [if_neg (fun q => q.elim z (fun q => y q.1))] at E
        rw [← E]
        rcases hl with ⟨rfl, rfl⟩ | ⟨y4, y5, rfl, rfl⟩
        all_goals simp (disch := (first | omega | assumption | (simp (disch := omega) only [Int32.lt_iff_toInt_lt, Int32.le_iff_toInt_le, ← Int32.toInt_inj, nI_toInt, zi_m1, zi_m2, zi_m3, zi_m9]; omega) | decide)) only [sX9_crowd_0, sX9_crowd_2i, sX9_crowd_2r, sX9_crowd_2z, sX9_crowd_2o, sX9_crowd_3, sX9_crowd_4i, sX9_crowd_4r, sX9_crowd_4z, sX9_crowd_4o, sX9_crowd_5, sX9_crowd_6i, sX9_crowd_6r, sX9_crowd_6z, sX9_crowd_6o, sX9_crowd_8, sX9_crowd_9, sX9_crowd_12, sX9_crowd_15, sX9_crowd_18, sX9_crowd_19, sX9_crowd_22, sX9_crowd_23, sX9_crowd_26i, sX9_crowd_26r, sX9_crowd_26z, sX9_crowd_26o, sX9_crowd_28, sX9_crowd_29, sX9_crowd_32, sX9_crowd_34, sX9_crowd_37i, sX9_crowd_37r, sX9_crowd_37z, sX9_crowd_37o, sX9_crowd_39, sX9_crowd_41, sX9_crowd_42, sX9_crowd_45, sX9_crowd_47, sX9_crowd_48, sX9_crowd_51, sX9_crowd_53, sX9_crowd_54, sX9_crowd_57, sX9_crowd_59i, sX9_crowd_59r, sX9_crowd_59z, sX9_crowd_59o, sX9_crowd_60, sX9_crowd_62i, sX9_crowd_62r, sX9_crowd_62z, sX9_crowd_62o, sX9_crowd_63i, sX9_crowd_63r, sX9_crowd_63z, sX9_crowd_63o, sX9_crowd_66, sX9_crowd_69, sX9_crowd_70, gG9_0, gG9_1, gG9_2, gG9_3, gG9_4, gG9_5, gG9_6, gG9_7, gP9_0, gP9_1, gP9_2, gP9_3, gP9_4, gP9_5, gP9_6, gP9_7, gG6_0, gG6_1, gG6_2, gG6_3, gP6_0, gP6_1, gP6_2, gP6_3, zpush_v, zpush_n, gCk, gAi, gSi, gLi, gLq, ↓if_pos, ↓if_neg, c1, c2, cp, bg, cs, nI_add]
theorem x_crowd (hr : rP h X B p) (hw : WfP p) (Q : Option Value → Hp → Prop) : WPm 95 [.ref X] h Q = Q (some (.int (qCrowd p))) h := by
  have := l_crowd hr hw Q _ 0 none none rfl (Or.inl ⟨rfl, rfl⟩)
  rw [← this, eX9_crowd]
  simp (disch := (first | omega | assumption | (simp (disch := omega) only [Int32.lt_iff_toInt_lt, Int32.le_iff_toInt_le, ← Int32.toInt_inj, nI_toInt, zi_m1, zi_m2, zi_m3, zi_m9]; omega) | decide)) only [sX9_crowd_0, sX9_crowd_2i, sX9_crowd_2r, sX9_crowd_2z, sX9_crowd_2o, sX9_crowd_3, sX9_crowd_4i, sX9_crowd_4r, sX9_crowd_4z, sX9_crowd_4o, sX9_crowd_5, sX9_crowd_6i, sX9_crowd_6r, sX9_crowd_6z, sX9_crowd_6o, zpush_v, zpush_n, gCk, gAi, gSi, gLi, gLq, ↓if_pos, ↓if_neg]
  rfl
theorem getD_le {l : List Nat} {i : Nat} : l.getD i 0 ≤ l.sum := by
  induction l generalizing i with
  | nil => simp
  | cons a l ih =>
    rw [List.sum_cons]
    cases i with
    | zero => simp
    | succ i =>
      have := ih (i := i)
      rw [List.getD_cons_succ]
      omega
theorem setK_ok {its : List Itm} {v : Nat} (hok : ∀ x ∈ its, okI x) (hv : v ≤ 9999) (hn : (its.filter isK).length ≤ 20) : (∀ x ∈ setK its v, okI x) ∧ ((setK its v).filter isK).length ≤ 20 := by
  unfold setK
  cases hl : lstK its its.length with
  | none => exact ⟨hok, hn⟩
  | some i =>
    have key : ∀ m, lstK its m = some i → i < m ∧ isK (its.getD i (.inl 0)) = true := by
      intro m
      induction m with
      | zero => intro z; cases z
      | succ m ihm =>
        intro z
        simp only [lstK] at z
        split at z
        · cases z
          exact ⟨Nat.lt_succ_self _, by assumption⟩
        · have := ihm z
          exact ⟨by omega, this.2⟩
    obtain ⟨k1, k2⟩ := key _ hl
    constructor
    · intro x hx
      rcases List.mem_or_eq_of_mem_set hx with hx | hx
      · exact hok x hx
      · rw [hx]
        exact Or.inr (Or.inl ⟨rfl, v, rfl, hv⟩)
    · have e : ∀ (l : List Itm) (i : Nat), i < l.length → isK (l.getD i (.inl 0)) = true → ((l.set i (.inr (107, some v))).filter isK).length = (l.filter isK).length := by
        intro l
        induction l with
        | nil => intro i h; exact absurd h (Nat.not_lt_zero _)
        | cons a l ih =>
          intro i h1 h2
          cases i with
          | zero =>
            have h2 : isK a = true := h2
            have h3 : isK (.inr (107, some v)) = true := rfl
            simp [List.filter, h2, h3]
          | succ i =>
            have := ih i (by rw [List.length_cons] at h1; omega) h2
            simp only [List.set_cons_succ, List.filter]
            cases isK a
            · exact this
            · simp only [List.length_cons, this]
      rw [e its i k1 k2]
      exact hn
end XI
