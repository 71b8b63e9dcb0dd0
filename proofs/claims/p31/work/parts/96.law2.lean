/-! law(): the lines -/
section LW2
variable {hb : Hp} {X B b L n : Nat} {xs : Nat → Int32} {Q : Option Value → Hp → Prop}
/-- so many styles and lines, nothing typed; no line ends behind e -/
def lst (p : PS) (n l e : Nat) : Prop := p.1.1.1 = n ∧ p.1.2.1.length = l ∧ p.2.2 = [] ∧ ∀ x ∈ p.1.2.1, noBr x.2.2.2.2 ∧ x.2.1 ≤ e
theorem l_lwL (hs : hb.1 b = some (.inl (1, L, .inl xs))) (hbX : b < X) (hL : L < 2147483648) (hn : n < 8) {l : Nat} (hl : l ≤ 7) : ∀ m k h p kb l5 l6 l7, m + k = l → FrK kb X hb h → rP h X B p → WfP p → lst p n k 150 →
    (∀ h' p' l5 l6 l7, FrK (kb + 44 * m) X hb h' → rP h' X B p' → WfP p' → lst p' n l 150 → WP 116 383 [some (.ref b), some (.ref X), some (.int (nI n)), some (.int (nI l)), some (.int (nI l)), l5, l6, l7, none, none, none, none, none, none, none, none, none] [] h' Q) →
    WP 116 284 [some (.ref b), some (.ref X), some (.int (nI n)), some (.int (nI l)), some (.int (nI k)), l5, l6, l7, none, none, none, none, none, none, none, none, none] [] h Q := by
  intro m
  induction m with
  | zero =>
    intro k h p kb l5 l6 l7 hk F hr hw hS K
    have hk : k = l := by omega
    subst hk
    have e := K h p l5 l6 l7 F hr hw hS
    rw [sL_law_284]
    simp (disch := (first | omega | assumption | (simp (disch := omega) only [Int32.lt_iff_toInt_lt, Int32.le_iff_toInt_le, ← Int32.toInt_inj, nI_toInt, zi_m1, zi_m2, zi_m3, zi_m9]; omega) | decide)) only [sL_law_286, sL_law_287, zpush_v, zpush_n, gCk, gAi, gSi, gLi, gLq, ↓if_pos, ↓if_neg, ↓reduceIte, eq_self, not_true_eq_false, not_false_eq_true]
    exact e
  | succ m ih =>
    intro k h p kb l5 l6 l7 hk F hr hw hS K
    have hc1 := m_L_cell (scrK hs hbX F) hL (k := 9 + k) (by omega)
    have hc2 := m_L_cell (scrK hs hbX F) hL (k := 17 + k) (by omega)
    generalize cellV L xs (9 + k) = q at hc1
    generalize cellV L xs (17 + k) = q2 at hc2
    obtain ⟨S1, S2, S3, S4⟩ := hS
    rw [sL_law_284]
    simp (disch := (first | omega | assumption | (simp (disch := omega) only [Int32.lt_iff_toInt_lt, Int32.le_iff_toInt_le, ← Int32.toInt_inj, nI_toInt, zi_m1, zi_m2, zi_m3, zi_m9]; omega) | decide)) only [sL_law_286, sL_law_287, sL_law_290, sL_law_291, sL_law_293, sL_law_295, sL_law_296, sL_law_299i, sL_law_299r, sL_law_299z, sL_law_299o, sL_law_301, sL_law_302, sL_law_304, sL_law_305, sL_law_307, sL_law_309, sL_law_310, sL_law_313, zpush_v, zpush_n, gCk, gAi, gSi, gLi, gLq, ↓if_pos, ↓if_neg, ↓reduceIte, eq_self, not_true_eq_false, not_false_eq_true, hc1, hc2, nI_add]
    refine y_types hr hw S3 q q2 (fun h2 txt l3 F2 hr2 hw2 ht => ?_)
    have h10 := hw.1.1.1
    obtain ⟨t1, t2⟩ := ht.err
    generalize hd1 : q >>> (nI 3 &&& 31) = c1
    generalize hd2 : q >>> (nI 9 &&& 31) = c2
    generalize hd3 : q >>> (nI 16 &&& 31) = c3
    have u1 := upN_lt c1 (m := 60) (by omega)
    have u2 := upN_lt c2 (m := 90) (by omega)
    have u3 := upN_lt c3 (m := n + 1) (by omega)
    have eo := op_line (p := (p.1, p.2.1, txt)) (b := upN c1 60) (e := upN c1 60 + 1 + upN c2 90) (o := prO (upN c3 (n + 1))) h10 (by omega) (by omega) (by omega) (by show ∀ s, _ → s < p.1.1.1; rw [S1]; exact prO_lt (by omega)) (by show p.1.2.1.length < 16; omega) t1
    simp (disch := (first | omega | assumption | (simp (disch := omega) only [Int32.lt_iff_toInt_lt, Int32.le_iff_toInt_le, ← Int32.toInt_inj, nI_toInt, zi_m1, zi_m2, zi_m3, zi_m9]; omega) | decide)) only [sL_law_316i, sL_law_316r, sL_law_316z, sL_law_316o, sL_law_318, sL_law_320, sL_law_321, sL_law_322, sL_law_324, sL_law_327i, sL_law_327r, sL_law_327z, sL_law_327o, sL_law_329, sL_law_330, sL_law_332, sL_law_334, sL_law_335, sL_law_336, sL_law_338, sL_law_340, sL_law_341, sL_law_343, sL_law_346, sL_law_347, sL_law_349, sL_law_351, sL_law_352, sL_law_353, sL_law_354, sL_law_355, sL_law_358, sL_law_359, sL_law_360, zpush_v, zpush_n, gCk, gAi, gSi, gLi, gLq, ↓if_pos, ↓if_neg, ↓reduceIte, eq_self, not_true_eq_false, not_false_eq_true, hd1, hd2, hd3, m_L_up, nI_add, prO_eq, r_ck hr2]
    refine k_line hr2 hw2 eo (fun h3 F3 hr3 hw3 => ?_)
    have ek : (p.1, p.2.1, txt).1.2.1.length = k := S2
    rw [ek]
    simp (disch := (first | omega | assumption | (simp (disch := omega) only [Int32.lt_iff_toInt_lt, Int32.le_iff_toInt_le, ← Int32.toInt_inj, nI_toInt, zi_m1, zi_m2, zi_m3, zi_m9]; omega) | decide)) only [sL_law_363, sL_law_365, sL_law_368, sL_law_369, zpush_v, zpush_n, gCk, gAi, gSi, gLi, gLq, ↓if_pos, ↓if_neg, ↓reduceIte, eq_self, not_true_eq_false, not_false_eq_true, r_ck hr3]
    refine k_clear hr3 hw3 rfl (fun h4 F4 hr4 hw4 => ?_)
    have z0 : ([] : List Nat).length = 0 := rfl
    have e := ih (k + 1) h4 _ (kb + 44) (some (.int q)) (some (.int l3)) (some (.int (nI (upN c1 60)))) (by omega) (((F.tr F2).tr (F3.tr F4)).wd (by omega)) hr4 hw4 ⟨S1, by show (p.1.2.1 ++ [_]).length = k + 1; rw [List.length_append, S2]; rfl, rfl, fun x hx => by
      have hx : x ∈ p.1.2.1 ++ [(upN c1 60, upN c1 60 + 1 + upN c2 90, prO (upN c3 (n + 1)), none, pIts txt)] := hx
      rcases List.mem_append.mp hx with hx | hx
      · exact S4 x hx
      · rw [List.mem_singleton.mp hx]
        exact ⟨t2, by show upN c1 60 + 1 + upN c2 90 ≤ 150; omega⟩⟩ (fun h' p' l5 l6 l7 F5 => K h' p' l5 l6 l7 (F5.wd (by omega)))
    simp (disch := (first | omega | assumption | (simp (disch := omega) only [Int32.lt_iff_toInt_lt, Int32.le_iff_toInt_le, ← Int32.toInt_inj, nI_toInt, zi_m1, zi_m2, zi_m3, zi_m9]; omega) | decide)) only [sL_law_372, sL_law_375, sL_law_376, sL_law_377i, sL_law_377r, sL_law_377z, sL_law_377o, sL_law_380, zpush_v, zpush_n, gCk, gAi, gSi, gLi, gLq, ↓if_pos, ↓if_neg, ↓reduceIte, eq_self, not_true_eq_false, not_false_eq_true, z0, nI_add]
    exact e
end LW2
