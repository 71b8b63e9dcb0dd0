/-! law(): the styles -/
section LW1
variable {hb : Hp} {X B b L n : Nat} {xs : Nat → Int32} {Q : Option Value → Hp → Prop}
/-- what is kept of the heap hb since the law made its object -/
theorem scrK (hs : hb.1 b = some (.inl (1, L, .inl xs))) (hbX : b < X) {h : Hp} {k : Nat} (F : FrK k X hb h) : h.1 b = some (.inl (1, L, .inl xs)) := (F.2 b (Or.inl hbX)).trans hs
theorem l_lwX {h : Hp} {pp : Nat} (hp : pp < 6) (q : Int32) : ∃ v, (loP pp ≤ v ∧ v ≤ hiP pp) ∧ ∀ (l0 l1 l2 l3 l6 : Option Value) (Q : Option Value → Hp → Prop),
    WP 116 151 [l0, l1, l2, l3, some (.int (nI pp)), some (.int q), l6, none, none, none, none, none, none, none, none, none, none] [] h Q = WP 116 231 [l0, l1, l2, l3, some (.int (nI pp)), some (.int q), some (.int (nI v)), none, none, none, none, none, none, none, none, none, none] [] h Q := by
  generalize hq : q >>> (nI 1 &&& 31) = c
  have g : pp = 0 ∨ pp = 1 ∨ pp = 2 ∨ pp = 3 ∨ pp = 4 ∨ pp = 5 := by omega
  rcases g with rfl | rfl | rfl | rfl | rfl | rfl
  · have u := upN_lt c (m := 99) (by omega)
    refine ⟨1 + upN c 99, ⟨by show 1 ≤ _; omega, by show _ ≤ 99; omega⟩, fun l0 l1 l2 l3 l6 Q => ?_⟩
    simp (disch := (first | omega | assumption | (simp (disch := omega) only [Int32.lt_iff_toInt_lt, Int32.le_iff_toInt_le, ← Int32.toInt_inj, nI_toInt, zi_m1, zi_m2, zi_m3, zi_m9]; omega) | decide)) only [sL_law_151, sL_law_153, sL_law_156, sL_law_157, sL_law_159, sL_law_160, sL_law_161, sL_law_163, sL_law_166, sL_law_167, sL_law_170, sL_law_172, sL_law_173, sL_law_176, sL_law_178, sL_law_179, sL_law_180, sL_law_182, sL_law_185, sL_law_188, sL_law_190, sL_law_191, sL_law_194, sL_law_196, sL_law_197, sL_law_198, sL_law_199, sL_law_200, sL_law_203, sL_law_205, sL_law_206, sL_law_209, sL_law_211, sL_law_212, sL_law_213, sL_law_214, sL_law_217, sL_law_220, sL_law_222, sL_law_223, sL_law_224, sL_law_226, sL_law_229i, sL_law_229r, sL_law_229z, sL_law_229o, zpush_v, zpush_n, gCk, gAi, gSi, gLi, gLq, ↓if_pos, ↓if_neg, ↓reduceIte, eq_self, not_true_eq_false, not_false_eq_true, m_L_up, hq, nI_add]
  · have u := upN_lt c (m := 8) (by omega)
    refine ⟨upN c 8, ⟨by show 0 ≤ _; omega, by show _ ≤ 7; omega⟩, fun l0 l1 l2 l3 l6 Q => ?_⟩
    simp (disch := (first | omega | assumption | (simp (disch := omega) only [Int32.lt_iff_toInt_lt, Int32.le_iff_toInt_le, ← Int32.toInt_inj, nI_toInt, zi_m1, zi_m2, zi_m3, zi_m9]; omega) | decide)) only [sL_law_151, sL_law_153, sL_law_156, sL_law_157, sL_law_159, sL_law_160, sL_law_161, sL_law_163, sL_law_166, sL_law_167, sL_law_170, sL_law_172, sL_law_173, sL_law_176, sL_law_178, sL_law_179, sL_law_180, sL_law_182, sL_law_185, sL_law_188, sL_law_190, sL_law_191, sL_law_194, sL_law_196, sL_law_197, sL_law_198, sL_law_199, sL_law_200, sL_law_203, sL_law_205, sL_law_206, sL_law_209, sL_law_211, sL_law_212, sL_law_213, sL_law_214, sL_law_217, sL_law_220, sL_law_222, sL_law_223, sL_law_224, sL_law_226, sL_law_229i, sL_law_229r, sL_law_229z, sL_law_229o, zpush_v, zpush_n, gCk, gAi, gSi, gLi, gLq, ↓if_pos, ↓if_neg, ↓reduceIte, eq_self, not_true_eq_false, not_false_eq_true, m_L_up, hq, nI_add]
  · have u := upN_lt c (m := 8) (by omega)
    refine ⟨upN c 8, ⟨by show 0 ≤ _; omega, by show _ ≤ 7; omega⟩, fun l0 l1 l2 l3 l6 Q => ?_⟩
    simp (disch := (first | omega | assumption | (simp (disch := omega) only [Int32.lt_iff_toInt_lt, Int32.le_iff_toInt_le, ← Int32.toInt_inj, nI_toInt, zi_m1, zi_m2, zi_m3, zi_m9]; omega) | decide)) only [sL_law_151, sL_law_153, sL_law_156, sL_law_157, sL_law_159, sL_law_160, sL_law_161, sL_law_163, sL_law_166, sL_law_167, sL_law_170, sL_law_172, sL_law_173, sL_law_176, sL_law_178, sL_law_179, sL_law_180, sL_law_182, sL_law_185, sL_law_188, sL_law_190, sL_law_191, sL_law_194, sL_law_196, sL_law_197, sL_law_198, sL_law_199, sL_law_200, sL_law_203, sL_law_205, sL_law_206, sL_law_209, sL_law_211, sL_law_212, sL_law_213, sL_law_214, sL_law_217, sL_law_220, sL_law_222, sL_law_223, sL_law_224, sL_law_226, sL_law_229i, sL_law_229r, sL_law_229z, sL_law_229o, zpush_v, zpush_n, gCk, gAi, gSi, gLi, gLq, ↓if_pos, ↓if_neg, ↓reduceIte, eq_self, not_true_eq_false, not_false_eq_true, m_L_up, hq, nI_add]
  · have u := pk_and c (m := nI 1) 1 (by decide)
    have u2 : c.toBitVec.toNat % 2 ^ 1 < 2 := Nat.mod_lt _ (by decide)
    refine ⟨c.toBitVec.toNat % 2 ^ 1, ⟨by show 0 ≤ _; omega, by show _ ≤ 1; omega⟩, fun l0 l1 l2 l3 l6 Q => ?_⟩
    simp (disch := (first | omega | assumption | (simp (disch := omega) only [Int32.lt_iff_toInt_lt, Int32.le_iff_toInt_le, ← Int32.toInt_inj, nI_toInt, zi_m1, zi_m2, zi_m3, zi_m9]; omega) | decide)) only [sL_law_151, sL_law_153, sL_law_156, sL_law_157, sL_law_159, sL_law_160, sL_law_161, sL_law_163, sL_law_166, sL_law_167, sL_law_170, sL_law_172, sL_law_173, sL_law_176, sL_law_178, sL_law_179, sL_law_180, sL_law_182, sL_law_185, sL_law_188, sL_law_190, sL_law_191, sL_law_194, sL_law_196, sL_law_197, sL_law_198, sL_law_199, sL_law_200, sL_law_203, sL_law_205, sL_law_206, sL_law_209, sL_law_211, sL_law_212, sL_law_213, sL_law_214, sL_law_217, sL_law_220, sL_law_222, sL_law_223, sL_law_224, sL_law_226, sL_law_229i, sL_law_229r, sL_law_229z, sL_law_229o, zpush_v, zpush_n, gCk, gAi, gSi, gLi, gLq, ↓if_pos, ↓if_neg, ↓reduceIte, eq_self, not_true_eq_false, not_false_eq_true, m_L_up, hq, u, nI_add]
  · have u := upN_lt c (m := 3) (by omega)
    refine ⟨upN c 3, ⟨by show 0 ≤ _; omega, by show _ ≤ 2; omega⟩, fun l0 l1 l2 l3 l6 Q => ?_⟩
    simp (disch := (first | omega | assumption | (simp (disch := omega) only [Int32.lt_iff_toInt_lt, Int32.le_iff_toInt_le, ← Int32.toInt_inj, nI_toInt, zi_m1, zi_m2, zi_m3, zi_m9]; omega) | decide)) only [sL_law_151, sL_law_153, sL_law_156, sL_law_157, sL_law_159, sL_law_160, sL_law_161, sL_law_163, sL_law_166, sL_law_167, sL_law_170, sL_law_172, sL_law_173, sL_law_176, sL_law_178, sL_law_179, sL_law_180, sL_law_182, sL_law_185, sL_law_188, sL_law_190, sL_law_191, sL_law_194, sL_law_196, sL_law_197, sL_law_198, sL_law_199, sL_law_200, sL_law_203, sL_law_205, sL_law_206, sL_law_209, sL_law_211, sL_law_212, sL_law_213, sL_law_214, sL_law_217, sL_law_220, sL_law_222, sL_law_223, sL_law_224, sL_law_226, sL_law_229i, sL_law_229r, sL_law_229z, sL_law_229o, zpush_v, zpush_n, gCk, gAi, gSi, gLi, gLq, ↓if_pos, ↓if_neg, ↓reduceIte, eq_self, not_true_eq_false, not_false_eq_true, m_L_up, hq, nI_add]
  · have u := upN_lt c (m := 60) (by omega)
    refine ⟨upN c 60, ⟨by show 0 ≤ _; omega, by show _ ≤ 200; omega⟩, fun l0 l1 l2 l3 l6 Q => ?_⟩
    simp (disch := (first | omega | assumption | (simp (disch := omega) only [Int32.lt_iff_toInt_lt, Int32.le_iff_toInt_le, ← Int32.toInt_inj, nI_toInt, zi_m1, zi_m2, zi_m3, zi_m9]; omega) | decide)) only [sL_law_151, sL_law_153, sL_law_156, sL_law_157, sL_law_159, sL_law_160, sL_law_161, sL_law_163, sL_law_166, sL_law_167, sL_law_170, sL_law_172, sL_law_173, sL_law_176, sL_law_178, sL_law_179, sL_law_180, sL_law_182, sL_law_185, sL_law_188, sL_law_190, sL_law_191, sL_law_194, sL_law_196, sL_law_197, sL_law_198, sL_law_199, sL_law_200, sL_law_203, sL_law_205, sL_law_206, sL_law_209, sL_law_211, sL_law_212, sL_law_213, sL_law_214, sL_law_217, sL_law_220, sL_law_222, sL_law_223, sL_law_224, sL_law_226, sL_law_229i, sL_law_229r, sL_law_229z, sL_law_229o, zpush_v, zpush_n, gCk, gAi, gSi, gLi, gLq, ↓if_pos, ↓if_neg, ↓reduceIte, eq_self, not_true_eq_false, not_false_eq_true, m_L_up, hq, nI_add]
/-- so many styles, no lines, nothing typed -/
def sty (p : PS) (k : Nat) : Prop := p.1.1.1 = k ∧ p.1.2.1 = [] ∧ p.2.2 = []
theorem l_lwP (hs : hb.1 b = some (.inl (1, L, .inl xs))) (hbX : b < X) (hL : L < 2147483648) {k : Nat} (hk : k < 8) : ∀ m pp h p kb l5 l6, m + pp = 6 → FrK kb X hb h → rP h X B p → WfP p → sty p (k + 1) → (∀ q, pp ≤ q → q < 6 → p.1.1.2.2 k q = none) →
    (∀ h' p' l5 l6, FrK (kb + m) X hb h' → rP h' X B p' → WfP p' → sty p' (k + 1) → WP 116 260 [some (.ref b), some (.ref X), some (.int (nI n)), some (.int (nI k)), some (.int (nI 6)), l5, l6, none, none, none, none, none, none, none, none, none, none] [] h' Q) →
    WP 116 128 [some (.ref b), some (.ref X), some (.int (nI n)), some (.int (nI k)), some (.int (nI pp)), l5, l6, none, none, none, none, none, none, none, none, none, none] [] h Q := by
  intro m
  induction m with
  | zero =>
    intro pp h p kb l5 l6 hp F hr hw hS hN K
    have hp : pp = 6 := by omega
    subst hp
    have e := K h p l5 l6 F hr hw hS
    rw [sL_law_128]
    simp (disch := (first | omega | assumption | (simp (disch := omega) only [Int32.lt_iff_toInt_lt, Int32.le_iff_toInt_le, ← Int32.toInt_inj, nI_toInt, zi_m1, zi_m2, zi_m3, zi_m9]; omega) | decide)) only [sL_law_130, sL_law_132, zpush_v, zpush_n, gCk, gAi, gSi, gLi, gLq, ↓if_pos, ↓if_neg, ↓reduceIte, eq_self, not_true_eq_false, not_false_eq_true]
    exact e
  | succ m ih =>
    intro pp h p kb l5 l6 hp F hr hw hS hN K
    have hc := m_L_cell (scrK hs hbX F) hL (k := 1 + k) (by omega)
    have hp6 : pp < 6 := by omega
    generalize hq : cellV L xs (1 + k) >>> (nI (3 + 4 * pp) &&& 31) = q at *
    obtain ⟨v, ⟨v1, v2⟩, eq⟩ := l_lwX (h := h) hp6 q
    have hv := hiP_le pp
    have hb1 := pk_and q (m := nI 1) 1 (by decide)
    rw [sL_law_128]
    simp (disch := (first | omega | assumption | (simp (disch := omega) only [Int32.lt_iff_toInt_lt, Int32.le_iff_toInt_le, ← Int32.toInt_inj, nI_toInt, zi_m1, zi_m2, zi_m3, zi_m9]; omega) | decide)) only [sL_law_130, sL_law_132, sL_law_135, sL_law_136, sL_law_137, sL_law_138, sL_law_139, sL_law_142, sL_law_143, sL_law_144, sL_law_146, sL_law_147, sL_law_148, sL_law_149i, sL_law_149r, sL_law_149z, sL_law_149o, zpush_v, zpush_n, gCk, gAi, gSi, gLi, gLq, ↓if_pos, ↓if_neg, ↓reduceIte, eq_self, not_true_eq_false, not_false_eq_true, hc, nI_add, nI_mul, hq]
    rw [eq]
    by_cases c : q.toBitVec.toNat % 2 ^ 1 = 1
    · rw [c] at hb1
      have hs1 := hS.1
      have h10 := hw.1.1.1
      have eo := op_setStyle (p := p) (s := k) h10 (by omega) hp6 v1 v2
      rw [hN pp (Nat.le_refl _) hp6, eN_n] at eo
      simp (disch := (first | omega | assumption | (simp (disch := omega) only [Int32.lt_iff_toInt_lt, Int32.le_iff_toInt_le, ← Int32.toInt_inj, nI_toInt, zi_m1, zi_m2, zi_m3, zi_m9]; omega) | decide)) only [sL_law_231, sL_law_233, sL_law_234, sL_law_235, sL_law_236, sL_law_239, sL_law_240, sL_law_241, sL_law_243, sL_law_245, zpush_v, zpush_n, gCk, gAi, gSi, gLi, gLq, ↓if_pos, ↓if_neg, ↓reduceIte, eq_self, not_true_eq_false, not_false_eq_true, hb1, r_ck hr]
      refine k_setStyle hr hw eo (fun h' F2 hr2 hw2 => ?_)
      have e := ih (pp + 1) h' _ (kb + 1) (some (.int q)) (some (.int (nI v))) (by omega) (F.tr F2) hr2 hw2 ⟨hS.1, hS.2.1, hS.2.2⟩ (fun q' q1 q2 => by
        show (if k = k ∧ q' = pp then some v else p.1.1.2.2 k q') = none
        rw [if_neg (by omega)]
        exact hN q' (by omega) q2) (fun h' p' l5 l6 F3 => K h' p' l5 l6 (F3.wd (by omega)))
      simp (disch := (first | omega | assumption | (simp (disch := omega) only [Int32.lt_iff_toInt_lt, Int32.le_iff_toInt_le, ← Int32.toInt_inj, nI_toInt, zi_m1, zi_m2, zi_m3, zi_m9]; omega) | decide)) only [sL_law_248, sL_law_249, sL_law_252, sL_law_253, sL_law_254i, sL_law_254r, sL_law_254z, sL_law_254o, sL_law_257, zpush_v, zpush_n, gCk, gAi, gSi, gLi, gLq, ↓if_pos, ↓if_neg, ↓reduceIte, eq_self, not_true_eq_false, not_false_eq_true, nI_add]
      exact e
    · have e := ih (pp + 1) h p (kb + 1) (some (.int q)) (some (.int (nI v))) (by omega) (F.wd (by omega)) hr hw hS (fun q' q1 q2 => hN q' (by omega) q2) (fun h' p' l5 l6 F3 => K h' p' l5 l6 (F3.wd (by omega)))
      have c2 : q.toBitVec.toNat % 2 ^ 1 < 2 := Nat.mod_lt _ (by decide)
      simp (disch := (first | omega | assumption | (simp (disch := omega) only [Int32.lt_iff_toInt_lt, Int32.le_iff_toInt_le, ← Int32.toInt_inj, nI_toInt, zi_m1, zi_m2, zi_m3, zi_m9]; omega) | decide)) only [sL_law_231, sL_law_233, sL_law_234, sL_law_235, sL_law_236, sL_law_254i, sL_law_254r, sL_law_254z, sL_law_254o, sL_law_257, zpush_v, zpush_n, gCk, gAi, gSi, gLi, gLq, ↓if_pos, ↓if_neg, ↓reduceIte, eq_self, not_true_eq_false, not_false_eq_true, hb1, nI_add]
      exact e
theorem l_lwS (hs : hb.1 b = some (.inl (1, L, .inl xs))) (hbX : b < X) (hL : L < 2147483648) (hn : n < 8) : ∀ m k h p kb l4 l5 l6, m + k = n → FrK kb X hb h → rP h X B p → WfP p → sty p k →
    (∀ h' p' l3 l4 l5 l6, FrK (kb + 7 * m) X hb h' → rP h' X B p' → WfP p' → sty p' n → WP 116 266 [some (.ref b), some (.ref X), some (.int (nI n)), l3, l4, l5, l6, none, none, none, none, none, none, none, none, none, none] [] h' Q) →
    WP 116 95 [some (.ref b), some (.ref X), some (.int (nI n)), some (.int (nI k)), l4, l5, l6, none, none, none, none, none, none, none, none, none, none] [] h Q := by
  intro m
  induction m with
  | zero =>
    intro k h p kb l4 l5 l6 hk F hr hw hS K
    have hk : k = n := by omega
    subst hk
    have e := K h p (some (.int (nI k))) l4 l5 l6 F hr hw hS
    rw [sL_law_95]
    simp (disch := (first | omega | assumption | (simp (disch := omega) only [Int32.lt_iff_toInt_lt, Int32.le_iff_toInt_le, ← Int32.toInt_inj, nI_toInt, zi_m1, zi_m2, zi_m3, zi_m9]; omega) | decide)) only [sL_law_96, sL_law_97, zpush_v, zpush_n, gCk, gAi, gSi, gLi, gLq, ↓if_pos, ↓if_neg, ↓reduceIte, eq_self, not_true_eq_false, not_false_eq_true]
    exact e
  | succ m ih =>
    intro k h p kb l4 l5 l6 hk F hr hw hS K
    have hc := m_L_cell (scrK hs hbX F) hL (k := 1 + k) (by omega)
    have n1 := upN_lt (cellV L xs (1 + k)) (m := k + 1) (by omega)
    have eo := op_style (p := p) hS.1 (by omega) (u := upN (cellV L xs (1 + k)) (k + 1)) (by omega)
    rw [sL_law_95]
    simp (disch := (first | omega | assumption | (simp (disch := omega) only [Int32.lt_iff_toInt_lt, Int32.le_iff_toInt_le, ← Int32.toInt_inj, nI_toInt, zi_m1, zi_m2, zi_m3, zi_m9]; omega) | decide)) only [sL_law_96, sL_law_97, sL_law_100, sL_law_101, sL_law_102, sL_law_103, sL_law_104, sL_law_105, sL_law_108, sL_law_109, sL_law_110, sL_law_111, sL_law_114, sL_law_115, sL_law_116, zpush_v, zpush_n, gCk, gAi, gSi, gLi, gLq, ↓if_pos, ↓if_neg, ↓reduceIte, eq_self, not_true_eq_false, not_false_eq_true, hc, m_L_up, nI_add, prO_eq, r_ck hr]
    refine k_style hr hw eo (fun h' F2 hr2 hw2 => ?_)
    have hk8 : k < 8 := by omega
    have e := l_lwP (Q := Q) (n := n) hs hbX hL hk8 6 0 h' _ (kb + 1) l5 l6 rfl (F.tr F2) hr2 hw2 ⟨by show p.1.1.1 + 1 = k + 1; rw [hS.1], hS.2.1, hS.2.2⟩ (fun q _ _ => by
      show (if k = p.1.1.1 then none else p.1.1.2.2 k q) = none
      rw [hS.1, if_pos rfl]) (fun h3 p3 l5 l6 F3 hr3 hw3 hS3 => by
        have e := ih (k + 1) h3 p3 (kb + 1 + 6) (some (.int (nI 6))) l5 l6 (by omega) F3 hr3 hw3 hS3 (fun h' p' l3 l4 l5 l6 F4 => K h' p' l3 l4 l5 l6 (F4.wd (by omega)))
        simp (disch := (first | omega | assumption | (simp (disch := omega) only [Int32.lt_iff_toInt_lt, Int32.le_iff_toInt_le, ← Int32.toInt_inj, nI_toInt, zi_m1, zi_m2, zi_m3, zi_m9]; omega) | decide)) only [sL_law_260i, sL_law_260r, sL_law_260z, sL_law_260o, sL_law_263, zpush_v, zpush_n, gCk, gAi, gSi, gLi, gLq, ↓if_pos, ↓if_neg, ↓reduceIte, eq_self, not_true_eq_false, not_false_eq_true, nI_add]
        exact e)
    simp (disch := (first | omega | assumption | (simp (disch := omega) only [Int32.lt_iff_toInt_lt, Int32.le_iff_toInt_le, ← Int32.toInt_inj, nI_toInt, zi_m1, zi_m2, zi_m3, zi_m9]; omega) | decide)) only [sL_law_119, sL_law_120, sL_law_123, sL_law_124, sL_law_125, sL_law_126i, sL_law_126r, sL_law_126z, sL_law_126o, zpush_v, zpush_n, gCk, gAi, gSi, gLi, gLq, ↓if_pos, ↓if_neg, ↓reduceIte, eq_self, not_true_eq_false, not_false_eq_true]
    exact e
end LW1
