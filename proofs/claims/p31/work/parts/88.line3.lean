/-! the law's line(): its place beside the others -/
section LO
variable {h : Hp} {X B : Nat} {p : PS} {n : Nat}
abbrev actL (S : Sh) (L : List Ln) (n j : Nat) : Prop := ((lnA L j).1 < (lnA L n).1 ∨ ((lnA L j).1 = (lnA L n).1 ∧ j < n)) ∧ (lnA L n).1 < (lnA L j).2.1 ∧ valS S 4 (lnA L j).2.2.1 = valS S 4 (lnA L n).2.2.1
noncomputable def blB (S : Sh) (L : List Ln) (n : Nat) : Nat → Bool
  | 0 => decide (offC S L n = mrg S (lnA L n))
  | j + 1 => blB S L n j || decide (actL S L n j ∧ offC S L j + hgL S (lnA L j) = offC S L n)
theorem blB_of {S : Sh} {L : List Ln} {n : Nat} : ∀ k, (offC S L n = mrg S (lnA L n) ∨ ∃ j, j < k ∧ actL S L n j ∧ offC S L j + hgL S (lnA L j) = offC S L n) → blB S L n k = true := by
  intro k
  induction k with
  | zero =>
    rintro (h | ⟨j, hj, -⟩)
    · exact decide_eq_true h
    · omega
  | succ k ih =>
    intro h
    simp only [blB, Bool.or_eq_true]
    rcases h with h | ⟨j, hj, h1⟩
    · exact Or.inl (ih (Or.inl h))
    · by_cases c : j = k
      · subst c
        exact Or.inr (decide_eq_true h1)
      · exact Or.inl (ih (Or.inr ⟨j, by omega, h1⟩))
theorem blB_end {S : Sh} {L : List Ln} {n : Nat} (hw : WfS S) (hL : WfLs L) (hn : n < L.length) : blB S L n L.length = true := by
  obtain ⟨h1, h2, h3⟩ := offC_ok hw hL n hn
  have h1 : mrg S (lnA L n) ≤ offC S L n := h1
  refine blB_of _ ?_
  by_cases c : offC S L n = mrg S (lnA L n)
  · exact Or.inl c
  · obtain ⟨j, j1, j2, j3, j4, j5, j6⟩ := h3 (offC S L n - 1) (by show mrg S (lnA L n) ≤ _; omega) (by omega)
    have j1 : j < L.length := j1
    have j2 : (lnA L j).1 < (lnA L n).1 ∨ ((lnA L j).1 = (lnA L n).1 ∧ j < n) := j2
    have j3 : valS S 4 (lnA L j).2.2.1 = valS S 4 (lnA L n).2.2.1 := j3
    have j4 : (lnA L n).1 < (lnA L j).2.1 := j4
    have j5 : offC S L n - 1 < offC S L j + hgL S (lnA L j) := j5
    have j6 : offC S L j < offC S L n - 1 + hgL S (lnA L n) := j6
    refine Or.inr ⟨j, j1, ⟨j2, j4, j3⟩, ?_⟩
    by_cases c2 : offC S L n < offC S L j + hgL S (lnA L j)
    · exact absurd ⟨j, j1, j2, j3, j4, c2, (by show offC S L j < offC S L n + hgL S (lnA L n); omega)⟩ h2
    · omega
theorem no_hit {S : Sh} {L : List Ln} {n j : Nat} (hw : WfS S) (hL : WfLs L) (hn : n < L.length) (hj : j < L.length) (ha : actL S L n j) : ¬ (offC S L j < offC S L n + hgL S (lnA L n) ∧ offC S L n < offC S L j + hgL S (lnA L j)) := by
  obtain ⟨h1, h2, h3⟩ := offC_ok hw hL n hn
  rintro ⟨a, b⟩
  exact h2 ⟨j, hj, ha.1, ha.2.2, ha.2.1, b, a⟩
theorem offC_le (hr : rP h X B p) {i : Nat} (hi : i < p.1.2.1.length) : offC p.1.1 p.1.2.1 i ≤ 3400 := hr.2.2.2.2.2 i hi
/-- is line j before line n -/
theorem l_lnF (hr : rP h X B p) (hw : WfP p) (hn : n < p.1.2.1.length) {j : Nat} (hj : j < p.1.2.1.length) (l3 l4 l5 l6 l7 l8 l9 l10 l11 l12 l13 l14 l15 l16 l18 l19 l20 : Option Value) (Q : Option Value → Hp → Prop) :
    WP 112 561 [some (.ref X), some (.int (nI n)), some (.int (nI (lnA p.1.2.1 n).1)), l3, l4, l5, l6, l7, l8, l9, l10, l11, l12, l13, l14, l15, l16, some (.int (nI j)), l18, l19, l20] [] h Q =
    WP 112 596 [some (.ref X), some (.int (nI n)), some (.int (nI (lnA p.1.2.1 n).1)), l3, l4, l5, l6, l7, l8, l9, l10, l11, l12, l13, l14, l15, l16, some (.int (nI j)), some (.int (bI ((lnA p.1.2.1 j).1 < (lnA p.1.2.1 n).1 ∨ ((lnA p.1.2.1 j).1 = (lnA p.1.2.1 n).1 ∧ j < n)))), l19, l20] [] h Q := by
  have h16 := hw.1.2.1.1
  have w1 := lnA_wf hw.1.2.1 n
  have w2 := lnA_wf hw.1.2.1 j
  have a1 := w1.1
  have a2 := w1.2.1
  have a3 := w2.1
  have a4 := w2.2.1
  by_cases c1 : (lnA p.1.2.1 j).1 < (lnA p.1.2.1 n).1
  · rw [bI_t (Or.inl c1)]
    simp (disch := (first | omega | assumption | (simp (disch := omega) only [Int32.lt_iff_toInt_lt, Int32.le_iff_toInt_le, ← Int32.toInt_inj, nI_toInt, zi_m1, zi_m2, zi_m3, zi_m9]; omega) | decide)) only [sL_line_561, sL_line_562, sL_line_564, sL_line_565, sL_line_568, sL_line_569, sL_line_572, sL_line_573, sL_line_575, sL_line_576, sL_line_579, sL_line_580, sL_line_583, sL_line_585, sL_line_586, sL_line_589, sL_line_590, sL_line_593, sL_line_594i, sL_line_594r, sL_line_594z, sL_line_594o, zpush_v, zpush_n, gCk, gAi, gSi, gLi, gLq, ↓if_pos, ↓if_neg, ↓reduceIte, eq_self, not_true_eq_false, not_false_eq_true, r_ck hr, r_ab0 hr hw]
  · by_cases c2 : (lnA p.1.2.1 j).1 = (lnA p.1.2.1 n).1
    · by_cases c3 : j < n
      · rw [bI_t (Or.inr ⟨c2, c3⟩)]
        simp (disch := (first | omega | assumption | (simp (disch := omega) only [Int32.lt_iff_toInt_lt, Int32.le_iff_toInt_le, ← Int32.toInt_inj, nI_toInt, zi_m1, zi_m2, zi_m3, zi_m9]; omega) | decide)) only [sL_line_561, sL_line_562, sL_line_564, sL_line_565, sL_line_568, sL_line_569, sL_line_572, sL_line_573, sL_line_575, sL_line_576, sL_line_579, sL_line_580, sL_line_583, sL_line_585, sL_line_586, sL_line_589, sL_line_590, sL_line_593, sL_line_594i, sL_line_594r, sL_line_594z, sL_line_594o, zpush_v, zpush_n, gCk, gAi, gSi, gLi, gLq, ↓if_pos, ↓if_neg, ↓reduceIte, eq_self, not_true_eq_false, not_false_eq_true, r_ck hr, r_ab0 hr hw]
      · rw [bI_f (by omega)]
        simp (disch := (first | omega | assumption | (simp (disch := omega) only [Int32.lt_iff_toInt_lt, Int32.le_iff_toInt_le, ← Int32.toInt_inj, nI_toInt, zi_m1, zi_m2, zi_m3, zi_m9]; omega) | decide)) only [sL_line_561, sL_line_562, sL_line_564, sL_line_565, sL_line_568, sL_line_569, sL_line_572, sL_line_573, sL_line_575, sL_line_576, sL_line_579, sL_line_580, sL_line_583, sL_line_585, sL_line_586, sL_line_589, sL_line_590, sL_line_593, sL_line_594i, sL_line_594r, sL_line_594z, sL_line_594o, zpush_v, zpush_n, gCk, gAi, gSi, gLi, gLq, ↓if_pos, ↓if_neg, ↓reduceIte, eq_self, not_true_eq_false, not_false_eq_true, r_ck hr, r_ab0 hr hw]
    · rw [bI_f (by omega)]
      simp (disch := (first | omega | assumption | (simp (disch := omega) only [Int32.lt_iff_toInt_lt, Int32.le_iff_toInt_le, ← Int32.toInt_inj, nI_toInt, zi_m1, zi_m2, zi_m3, zi_m9]; omega) | decide)) only [sL_line_561, sL_line_562, sL_line_564, sL_line_565, sL_line_568, sL_line_569, sL_line_572, sL_line_573, sL_line_575, sL_line_576, sL_line_579, sL_line_580, sL_line_583, sL_line_585, sL_line_586, sL_line_589, sL_line_590, sL_line_593, sL_line_594i, sL_line_594r, sL_line_594z, sL_line_594o, zpush_v, zpush_n, gCk, gAi, gSi, gLi, gLq, ↓if_pos, ↓if_neg, ↓reduceIte, eq_self, not_true_eq_false, not_false_eq_true, r_ck hr, r_ab0 hr hw]
theorem l_lnM (hr : rP h X B p) (hw : WfP p) (hn : n < p.1.2.1.length) (l3 l4 l5 l6 l8 l9 l10 l11 l12 l13 l14 : Option Value) (Q : Option Value → Hp → Prop) (K : Q (some (.int (nI 1))) h) : ∀ m j l18 l19 l20, m + j = p.1.2.1.length →
    WP 112 552 [some (.ref X), some (.int (nI n)), some (.int (nI (lnA p.1.2.1 n).1)), l3, l4, l5, l6, some (.int (nI (hgL p.1.1 (lnA p.1.2.1 n)))), l8, l9, l10, l11, l12, l13, l14, some (.int (nI (offC p.1.1 p.1.2.1 n))), some (.int (bI (blB p.1.1 p.1.2.1 n j = true))), some (.int (nI j)), l18, l19, l20] [] h Q := by
  have h16 := hw.1.2.1.1
  have w1 := lnA_wf hw.1.2.1 n
  have a1 := w1.1
  have a2 := w1.2.1
  have o1 := offC_le hr hn
  have g1 := hgL_le hw.1.1 w1
  have v1 := valS_le hw.1.1 (p := 4) (by omega) (lnA p.1.2.1 n).2.2.1
  intro m
  induction m with
  | zero =>
    intro j l18 l19 l20 hj
    have hj : j = p.1.2.1.length := by omega
    subst hj
    rw [blB_end hw.1.1 hw.1.2.1 hn, bI_t rfl, sL_line_552]
    simp (disch := (first | omega | assumption | (simp (disch := omega) only [Int32.lt_iff_toInt_lt, Int32.le_iff_toInt_le, ← Int32.toInt_inj, nI_toInt, zi_m1, zi_m2, zi_m3, zi_m9]; omega) | decide)) only [sL_line_554, sL_line_555, sL_line_558, sL_line_697, sL_line_699, zpush_v, zpush_n, gCk, gAi, gSi, gLi, gLq, ↓if_pos, ↓if_neg, ↓reduceIte, eq_self, not_true_eq_false, not_false_eq_true, r_ck hr, x_lines hr, or_true, if_true]
    exact K
  | succ m ih =>
    intro j l18 l19 l20 hj
    have hjl : j < p.1.2.1.length := by omega
    have e := fun l18 l19 l20 => ih (j + 1) l18 l19 l20 (by omega)
    have w2 := lnA_wf hw.1.2.1 j
    have a3 := w2.1
    have a4 := w2.2.1
    have o2 := offC_le hr hjl
    have g2 := hgL_le hw.1.1 w2
    have v2 := valS_le hw.1.1 (p := 4) (by omega) (lnA p.1.2.1 j).2.2.1
    have F := l_lnF hr hw hn hjl
    rw [sL_line_552]
    by_cases c : actL p.1.1 p.1.2.1 n j
    · have nh := no_hit hw.1.1 hw.1.2.1 hn hjl c
      obtain ⟨d1, d2, d3⟩ := c
      by_cases ct : offC p.1.1 p.1.2.1 j + hgL p.1.1 (lnA p.1.2.1 j) = offC p.1.1 p.1.2.1 n
      · have eb : blB p.1.1 p.1.2.1 n (j + 1) = true := by
          simp only [blB, Bool.or_eq_true]
          exact Or.inr (decide_eq_true ⟨⟨d1, d2, d3⟩, ct⟩)
        rw [eb, bI_t rfl] at e
        cases hb : blB p.1.1 p.1.2.1 n j with
        | true =>
          rw [bI_t rfl]
          by_cases cx : offC p.1.1 p.1.2.1 j < offC p.1.1 p.1.2.1 n + hgL p.1.1 (lnA p.1.2.1 n)
          · simp (disch := (first | omega | assumption | (simp (disch := omega) only [Int32.lt_iff_toInt_lt, Int32.le_iff_toInt_le, ← Int32.toInt_inj, nI_toInt, zi_m1, zi_m2, zi_m3, zi_m9]; omega) | decide)) only [sL_line_554, sL_line_555, sL_line_558, F, bI_t d1, sL_line_596, sL_line_598, sL_line_601, sL_line_602, sL_line_604, sL_line_605, sL_line_608, sL_line_609, sL_line_612, sL_line_613, sL_line_615, sL_line_617, sL_line_620, sL_line_621, sL_line_622, sL_line_624, sL_line_627, sL_line_630, sL_line_631, sL_line_633, sL_line_635, sL_line_638i, sL_line_638r, sL_line_638z, sL_line_638o, sL_line_640, sL_line_642, sL_line_643, sL_line_645, sL_line_647, sL_line_650, sL_line_651i, sL_line_651r, sL_line_651z, sL_line_651o, sL_line_653, sL_line_655, sL_line_657, sL_line_659, sL_line_660, sL_line_663, sL_line_665, sL_line_667, sL_line_670, sL_line_671, sL_line_672, sL_line_674, sL_line_677, sL_line_679, sL_line_681, sL_line_684, sL_line_685, sL_line_688, sL_line_689i, sL_line_689r, sL_line_689z, sL_line_689o, sL_line_691i, sL_line_691r, sL_line_691z, sL_line_691o, sL_line_694, zpush_v, zpush_n, gCk, gAi, gSi, gLi, gLq, ↓if_pos, ↓if_neg, ↓reduceIte, eq_self, not_true_eq_false, not_false_eq_true, r_ck hr, x_lines hr, r_ab1 hr hw, r_ab10 hr hw, r_ab9 hr hw, r_ab8 hr hw, d3, nI_add]
            exact e _ _ _
          · simp (disch := (first | omega | assumption | (simp (disch := omega) only [Int32.lt_iff_toInt_lt, Int32.le_iff_toInt_le, ← Int32.toInt_inj, nI_toInt, zi_m1, zi_m2, zi_m3, zi_m9]; omega) | decide)) only [sL_line_554, sL_line_555, sL_line_558, F, bI_t d1, sL_line_596, sL_line_598, sL_line_601, sL_line_602, sL_line_604, sL_line_605, sL_line_608, sL_line_609, sL_line_612, sL_line_613, sL_line_615, sL_line_617, sL_line_620, sL_line_621, sL_line_622, sL_line_624, sL_line_627, sL_line_630, sL_line_631, sL_line_633, sL_line_635, sL_line_638i, sL_line_638r, sL_line_638z, sL_line_638o, sL_line_640, sL_line_642, sL_line_643, sL_line_645, sL_line_647, sL_line_650, sL_line_651i, sL_line_651r, sL_line_651z, sL_line_651o, sL_line_653, sL_line_655, sL_line_657, sL_line_659, sL_line_660, sL_line_663, sL_line_665, sL_line_667, sL_line_670, sL_line_671, sL_line_672, sL_line_674, sL_line_677, sL_line_679, sL_line_681, sL_line_684, sL_line_685, sL_line_688, sL_line_689i, sL_line_689r, sL_line_689z, sL_line_689o, sL_line_691i, sL_line_691r, sL_line_691z, sL_line_691o, sL_line_694, zpush_v, zpush_n, gCk, gAi, gSi, gLi, gLq, ↓if_pos, ↓if_neg, ↓reduceIte, eq_self, not_true_eq_false, not_false_eq_true, r_ck hr, x_lines hr, r_ab1 hr hw, r_ab10 hr hw, r_ab9 hr hw, r_ab8 hr hw, d3, nI_add]
            exact e _ _ _
        | false =>
          rw [bI_f (by simp)]
          by_cases cx : offC p.1.1 p.1.2.1 j < offC p.1.1 p.1.2.1 n + hgL p.1.1 (lnA p.1.2.1 n)
          · simp (disch := (first | omega | assumption | (simp (disch := omega) only [Int32.lt_iff_toInt_lt, Int32.le_iff_toInt_le, ← Int32.toInt_inj, nI_toInt, zi_m1, zi_m2, zi_m3, zi_m9]; omega) | decide)) only [sL_line_554, sL_line_555, sL_line_558, F, bI_t d1, sL_line_596, sL_line_598, sL_line_601, sL_line_602, sL_line_604, sL_line_605, sL_line_608, sL_line_609, sL_line_612, sL_line_613, sL_line_615, sL_line_617, sL_line_620, sL_line_621, sL_line_622, sL_line_624, sL_line_627, sL_line_630, sL_line_631, sL_line_633, sL_line_635, sL_line_638i, sL_line_638r, sL_line_638z, sL_line_638o, sL_line_640, sL_line_642, sL_line_643, sL_line_645, sL_line_647, sL_line_650, sL_line_651i, sL_line_651r, sL_line_651z, sL_line_651o, sL_line_653, sL_line_655, sL_line_657, sL_line_659, sL_line_660, sL_line_663, sL_line_665, sL_line_667, sL_line_670, sL_line_671, sL_line_672, sL_line_674, sL_line_677, sL_line_679, sL_line_681, sL_line_684, sL_line_685, sL_line_688, sL_line_689i, sL_line_689r, sL_line_689z, sL_line_689o, sL_line_691i, sL_line_691r, sL_line_691z, sL_line_691o, sL_line_694, zpush_v, zpush_n, gCk, gAi, gSi, gLi, gLq, ↓if_pos, ↓if_neg, ↓reduceIte, eq_self, not_true_eq_false, not_false_eq_true, r_ck hr, x_lines hr, r_ab1 hr hw, r_ab10 hr hw, r_ab9 hr hw, r_ab8 hr hw, d3, nI_add]
            exact e _ _ _
          · simp (disch := (first | omega | assumption | (simp (disch := omega) only [Int32.lt_iff_toInt_lt, Int32.le_iff_toInt_le, ← Int32.toInt_inj, nI_toInt, zi_m1, zi_m2, zi_m3, zi_m9]; omega) | decide)) only [sL_line_554, sL_line_555, sL_line_558, F, bI_t d1, sL_line_596, sL_line_598, sL_line_601, sL_line_602, sL_line_604, sL_line_605, sL_line_608, sL_line_609, sL_line_612, sL_line_613, sL_line_615, sL_line_617, sL_line_620, sL_line_621, sL_line_622, sL_line_624, sL_line_627, sL_line_630, sL_line_631, sL_line_633, sL_line_635, sL_line_638i, sL_line_638r, sL_line_638z, sL_line_638o, sL_line_640, sL_line_642, sL_line_643, sL_line_645, sL_line_647, sL_line_650, sL_line_651i, sL_line_651r, sL_line_651z, sL_line_651o, sL_line_653, sL_line_655, sL_line_657, sL_line_659, sL_line_660, sL_line_663, sL_line_665, sL_line_667, sL_line_670, sL_line_671, sL_line_672, sL_line_674, sL_line_677, sL_line_679, sL_line_681, sL_line_684, sL_line_685, sL_line_688, sL_line_689i, sL_line_689r, sL_line_689z, sL_line_689o, sL_line_691i, sL_line_691r, sL_line_691z, sL_line_691o, sL_line_694, zpush_v, zpush_n, gCk, gAi, gSi, gLi, gLq, ↓if_pos, ↓if_neg, ↓reduceIte, eq_self, not_true_eq_false, not_false_eq_true, r_ck hr, x_lines hr, r_ab1 hr hw, r_ab10 hr hw, r_ab9 hr hw, r_ab8 hr hw, d3, nI_add]
            exact e _ _ _
      · have eb : blB p.1.1 p.1.2.1 n (j + 1) = blB p.1.1 p.1.2.1 n j := by
          simp only [blB]
          rw [decide_eq_false (fun q => ct q.2), Bool.or_false]
        rw [eb] at e
        cases hb : blB p.1.1 p.1.2.1 n j with
        | true =>
          rw [hb, bI_t rfl] at e
          rw [bI_t rfl]
          by_cases cx : offC p.1.1 p.1.2.1 j < offC p.1.1 p.1.2.1 n + hgL p.1.1 (lnA p.1.2.1 n)
          · simp (disch := (first | omega | assumption | (simp (disch := omega) only [Int32.lt_iff_toInt_lt, Int32.le_iff_toInt_le, ← Int32.toInt_inj, nI_toInt, zi_m1, zi_m2, zi_m3, zi_m9]; omega) | decide)) only [sL_line_554, sL_line_555, sL_line_558, F, bI_t d1, sL_line_596, sL_line_598, sL_line_601, sL_line_602, sL_line_604, sL_line_605, sL_line_608, sL_line_609, sL_line_612, sL_line_613, sL_line_615, sL_line_617, sL_line_620, sL_line_621, sL_line_622, sL_line_624, sL_line_627, sL_line_630, sL_line_631, sL_line_633, sL_line_635, sL_line_638i, sL_line_638r, sL_line_638z, sL_line_638o, sL_line_640, sL_line_642, sL_line_643, sL_line_645, sL_line_647, sL_line_650, sL_line_651i, sL_line_651r, sL_line_651z, sL_line_651o, sL_line_653, sL_line_655, sL_line_657, sL_line_659, sL_line_660, sL_line_663, sL_line_665, sL_line_667, sL_line_670, sL_line_671, sL_line_672, sL_line_674, sL_line_677, sL_line_679, sL_line_681, sL_line_684, sL_line_685, sL_line_688, sL_line_689i, sL_line_689r, sL_line_689z, sL_line_689o, sL_line_691i, sL_line_691r, sL_line_691z, sL_line_691o, sL_line_694, zpush_v, zpush_n, gCk, gAi, gSi, gLi, gLq, ↓if_pos, ↓if_neg, ↓reduceIte, eq_self, not_true_eq_false, not_false_eq_true, r_ck hr, x_lines hr, r_ab1 hr hw, r_ab10 hr hw, r_ab9 hr hw, r_ab8 hr hw, d3, nI_add]
            exact e _ _ _
          · simp (disch := (first | omega | assumption | (simp (disch := omega) only [Int32.lt_iff_toInt_lt, Int32.le_iff_toInt_le, ← Int32.toInt_inj, nI_toInt, zi_m1, zi_m2, zi_m3, zi_m9]; omega) | decide)) only [sL_line_554, sL_line_555, sL_line_558, F, bI_t d1, sL_line_596, sL_line_598, sL_line_601, sL_line_602, sL_line_604, sL_line_605, sL_line_608, sL_line_609, sL_line_612, sL_line_613, sL_line_615, sL_line_617, sL_line_620, sL_line_621, sL_line_622, sL_line_624, sL_line_627, sL_line_630, sL_line_631, sL_line_633, sL_line_635, sL_line_638i, sL_line_638r, sL_line_638z, sL_line_638o, sL_line_640, sL_line_642, sL_line_643, sL_line_645, sL_line_647, sL_line_650, sL_line_651i, sL_line_651r, sL_line_651z, sL_line_651o, sL_line_653, sL_line_655, sL_line_657, sL_line_659, sL_line_660, sL_line_663, sL_line_665, sL_line_667, sL_line_670, sL_line_671, sL_line_672, sL_line_674, sL_line_677, sL_line_679, sL_line_681, sL_line_684, sL_line_685, sL_line_688, sL_line_689i, sL_line_689r, sL_line_689z, sL_line_689o, sL_line_691i, sL_line_691r, sL_line_691z, sL_line_691o, sL_line_694, zpush_v, zpush_n, gCk, gAi, gSi, gLi, gLq, ↓if_pos, ↓if_neg, ↓reduceIte, eq_self, not_true_eq_false, not_false_eq_true, r_ck hr, x_lines hr, r_ab1 hr hw, r_ab10 hr hw, r_ab9 hr hw, r_ab8 hr hw, d3, nI_add]
            exact e _ _ _
        | false =>
          rw [hb, bI_f (by simp)] at e
          rw [bI_f (by simp)]
          by_cases cx : offC p.1.1 p.1.2.1 j < offC p.1.1 p.1.2.1 n + hgL p.1.1 (lnA p.1.2.1 n)
          · simp (disch := (first | omega | assumption | (simp (disch := omega) only [Int32.lt_iff_toInt_lt, Int32.le_iff_toInt_le, ← Int32.toInt_inj, nI_toInt, zi_m1, zi_m2, zi_m3, zi_m9]; omega) | decide)) only [sL_line_554, sL_line_555, sL_line_558, F, bI_t d1, sL_line_596, sL_line_598, sL_line_601, sL_line_602, sL_line_604, sL_line_605, sL_line_608, sL_line_609, sL_line_612, sL_line_613, sL_line_615, sL_line_617, sL_line_620, sL_line_621, sL_line_622, sL_line_624, sL_line_627, sL_line_630, sL_line_631, sL_line_633, sL_line_635, sL_line_638i, sL_line_638r, sL_line_638z, sL_line_638o, sL_line_640, sL_line_642, sL_line_643, sL_line_645, sL_line_647, sL_line_650, sL_line_651i, sL_line_651r, sL_line_651z, sL_line_651o, sL_line_653, sL_line_655, sL_line_657, sL_line_659, sL_line_660, sL_line_663, sL_line_665, sL_line_667, sL_line_670, sL_line_671, sL_line_672, sL_line_674, sL_line_677, sL_line_679, sL_line_681, sL_line_684, sL_line_685, sL_line_688, sL_line_689i, sL_line_689r, sL_line_689z, sL_line_689o, sL_line_691i, sL_line_691r, sL_line_691z, sL_line_691o, sL_line_694, zpush_v, zpush_n, gCk, gAi, gSi, gLi, gLq, ↓if_pos, ↓if_neg, ↓reduceIte, eq_self, not_true_eq_false, not_false_eq_true, r_ck hr, x_lines hr, r_ab1 hr hw, r_ab10 hr hw, r_ab9 hr hw, r_ab8 hr hw, d3, nI_add]
            exact e _ _ _
          · simp (disch := (first | omega | assumption | (simp (disch := omega) only [Int32.lt_iff_toInt_lt, Int32.le_iff_toInt_le, ← Int32.toInt_inj, nI_toInt, zi_m1, zi_m2, zi_m3, zi_m9]; omega) | decide)) only [sL_line_554, sL_line_555, sL_line_558, F, bI_t d1, sL_line_596, sL_line_598, sL_line_601, sL_line_602, sL_line_604, sL_line_605, sL_line_608, sL_line_609, sL_line_612, sL_line_613, sL_line_615, sL_line_617, sL_line_620, sL_line_621, sL_line_622, sL_line_624, sL_line_627, sL_line_630, sL_line_631, sL_line_633, sL_line_635, sL_line_638i, sL_line_638r, sL_line_638z, sL_line_638o, sL_line_640, sL_line_642, sL_line_643, sL_line_645, sL_line_647, sL_line_650, sL_line_651i, sL_line_651r, sL_line_651z, sL_line_651o, sL_line_653, sL_line_655, sL_line_657, sL_line_659, sL_line_660, sL_line_663, sL_line_665, sL_line_667, sL_line_670, sL_line_671, sL_line_672, sL_line_674, sL_line_677, sL_line_679, sL_line_681, sL_line_684, sL_line_685, sL_line_688, sL_line_689i, sL_line_689r, sL_line_689z, sL_line_689o, sL_line_691i, sL_line_691r, sL_line_691z, sL_line_691o, sL_line_694, zpush_v, zpush_n, gCk, gAi, gSi, gLi, gLq, ↓if_pos, ↓if_neg, ↓reduceIte, eq_self, not_true_eq_false, not_false_eq_true, r_ck hr, x_lines hr, r_ab1 hr hw, r_ab10 hr hw, r_ab9 hr hw, r_ab8 hr hw, d3, nI_add]
            exact e _ _ _
    · have eb : blB p.1.1 p.1.2.1 n (j + 1) = blB p.1.1 p.1.2.1 n j := by
        simp only [blB]
        rw [decide_eq_false (fun q => c q.1), Bool.or_false]
      rw [eb] at e
      by_cases d1 : (lnA p.1.2.1 j).1 < (lnA p.1.2.1 n).1 ∨ ((lnA p.1.2.1 j).1 = (lnA p.1.2.1 n).1 ∧ j < n)
      · by_cases d2 : (lnA p.1.2.1 n).1 < (lnA p.1.2.1 j).2.1
        · have d3 : ¬ valS p.1.1 4 (lnA p.1.2.1 j).2.2.1 = valS p.1.1 4 (lnA p.1.2.1 n).2.2.1 := fun q => c ⟨d1, d2, q⟩
          simp (disch := (first | omega | assumption | (simp (disch := omega) only [Int32.lt_iff_toInt_lt, Int32.le_iff_toInt_le, ← Int32.toInt_inj, nI_toInt, zi_m1, zi_m2, zi_m3, zi_m9]; omega) | decide)) only [sL_line_554, sL_line_555, sL_line_558, F, bI_t d1, sL_line_596, sL_line_598, sL_line_601, sL_line_602, sL_line_604, sL_line_605, sL_line_608, sL_line_609, sL_line_612, sL_line_613, sL_line_615, sL_line_617, sL_line_620, sL_line_621, sL_line_622, sL_line_624, sL_line_627, sL_line_630, sL_line_631, sL_line_633, sL_line_635, sL_line_638i, sL_line_638r, sL_line_638z, sL_line_638o, sL_line_640, sL_line_642, sL_line_643, sL_line_645, sL_line_647, sL_line_650, sL_line_651i, sL_line_651r, sL_line_651z, sL_line_651o, sL_line_653, sL_line_655, sL_line_657, sL_line_659, sL_line_660, sL_line_663, sL_line_665, sL_line_667, sL_line_670, sL_line_671, sL_line_672, sL_line_674, sL_line_677, sL_line_679, sL_line_681, sL_line_684, sL_line_685, sL_line_688, sL_line_689i, sL_line_689r, sL_line_689z, sL_line_689o, sL_line_691i, sL_line_691r, sL_line_691z, sL_line_691o, sL_line_694, zpush_v, zpush_n, gCk, gAi, gSi, gLi, gLq, ↓if_pos, ↓if_neg, ↓reduceIte, eq_self, not_true_eq_false, not_false_eq_true, r_ck hr, x_lines hr, r_ab1 hr hw, r_ab10 hr hw, r_ab9 hr hw, r_ab8 hr hw, nI_add]
          exact e _ _ _
        · simp (disch := (first | omega | assumption | (simp (disch := omega) only [Int32.lt_iff_toInt_lt, Int32.le_iff_toInt_le, ← Int32.toInt_inj, nI_toInt, zi_m1, zi_m2, zi_m3, zi_m9]; omega) | decide)) only [sL_line_554, sL_line_555, sL_line_558, F, bI_t d1, sL_line_596, sL_line_598, sL_line_601, sL_line_602, sL_line_604, sL_line_605, sL_line_608, sL_line_609, sL_line_612, sL_line_613, sL_line_615, sL_line_617, sL_line_620, sL_line_621, sL_line_622, sL_line_624, sL_line_627, sL_line_630, sL_line_631, sL_line_633, sL_line_635, sL_line_638i, sL_line_638r, sL_line_638z, sL_line_638o, sL_line_640, sL_line_642, sL_line_643, sL_line_645, sL_line_647, sL_line_650, sL_line_651i, sL_line_651r, sL_line_651z, sL_line_651o, sL_line_653, sL_line_655, sL_line_657, sL_line_659, sL_line_660, sL_line_663, sL_line_665, sL_line_667, sL_line_670, sL_line_671, sL_line_672, sL_line_674, sL_line_677, sL_line_679, sL_line_681, sL_line_684, sL_line_685, sL_line_688, sL_line_689i, sL_line_689r, sL_line_689z, sL_line_689o, sL_line_691i, sL_line_691r, sL_line_691z, sL_line_691o, sL_line_694, zpush_v, zpush_n, gCk, gAi, gSi, gLi, gLq, ↓if_pos, ↓if_neg, ↓reduceIte, eq_self, not_true_eq_false, not_false_eq_true, r_ck hr, x_lines hr, r_ab1 hr hw, r_ab10 hr hw, r_ab9 hr hw, r_ab8 hr hw, nI_add]
          exact e _ _ _
      · simp (disch := (first | omega | assumption | (simp (disch := omega) only [Int32.lt_iff_toInt_lt, Int32.le_iff_toInt_le, ← Int32.toInt_inj, nI_toInt, zi_m1, zi_m2, zi_m3, zi_m9]; omega) | decide)) only [sL_line_554, sL_line_555, sL_line_558, F, bI_f d1, sL_line_596, sL_line_598, sL_line_601, sL_line_602, sL_line_604, sL_line_605, sL_line_608, sL_line_609, sL_line_612, sL_line_613, sL_line_615, sL_line_617, sL_line_620, sL_line_621, sL_line_622, sL_line_624, sL_line_627, sL_line_630, sL_line_631, sL_line_633, sL_line_635, sL_line_638i, sL_line_638r, sL_line_638z, sL_line_638o, sL_line_640, sL_line_642, sL_line_643, sL_line_645, sL_line_647, sL_line_650, sL_line_651i, sL_line_651r, sL_line_651z, sL_line_651o, sL_line_653, sL_line_655, sL_line_657, sL_line_659, sL_line_660, sL_line_663, sL_line_665, sL_line_667, sL_line_670, sL_line_671, sL_line_672, sL_line_674, sL_line_677, sL_line_679, sL_line_681, sL_line_684, sL_line_685, sL_line_688, sL_line_689i, sL_line_689r, sL_line_689z, sL_line_689o, sL_line_691i, sL_line_691r, sL_line_691z, sL_line_691o, sL_line_694, zpush_v, zpush_n, gCk, gAi, gSi, gLi, gLq, ↓if_pos, ↓if_neg, ↓reduceIte, eq_self, not_true_eq_false, not_false_eq_true, r_ck hr, x_lines hr, r_ab1 hr hw, r_ab10 hr hw, r_ab9 hr hw, r_ab8 hr hw, nI_add]
        exact e _ _ _
end LO
