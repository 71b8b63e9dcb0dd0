/-! the law's styles(): what a style takes from its parents -/
section LS
variable {h : Hp} {X B : Nat} {p : PS}
theorem l_stA (hr : rP h X B p) (hw : WfP p) {s : Nat} (hs : s < p.1.1.1) (x : Int32) (l5 l6 l7 : Option Value) (Q : Option Value → Hp → Prop) : ∀ m t, m + t = p.1.1.1 →
    WP 111 23 [some (.ref X), some (.int (nI s)), some (.int x), some (.int (nI (chl p.1.1 s t))), some (.int (nI t)), l5, l6, l7] [] h Q = WP 111 58 [some (.ref X), some (.int (nI s)), some (.int x), some (.int (nI (chl p.1.1 s p.1.1.1))), some (.int (nI p.1.1.1)), l5, l6, l7] [] h Q := by
  have h10 := hw.1.1.1
  have k := r_ck hr
  intro m
  induction m with
  | zero =>
    intro t ht
    have ht : t = p.1.1.1 := by omega
    subst ht
    rw [sL_styles_23]
    simp (disch := (first | omega | assumption | (simp (disch := omega) only [Int32.lt_iff_toInt_lt, Int32.le_iff_toInt_le, ← Int32.toInt_inj, nI_toInt, zi_m1, zi_m2, zi_m3, zi_m9]; omega) | decide)) only [sL_styles_25, sL_styles_26, sL_styles_29, zpush_v, zpush_n, gCk, gAi, gSi, gLi, gLq, ↓if_pos, ↓if_neg, ↓reduceIte, eq_self, not_true_eq_false, not_false_eq_true, k, x_styles hr]
  | succ m ih =>
    intro t ht
    have hc := chl_le p.1.1 s t
    rw [← ih (t + 1) (by omega), sL_styles_23]
    cases hp : p.1.1.2.1 t with
    | none =>
      have e : chl p.1.1 s (t + 1) = chl p.1.1 s t := by simp [chl, hp]
      rw [e]
      simp (disch := (first | omega | assumption | (simp (disch := omega) only [Int32.lt_iff_toInt_lt, Int32.le_iff_toInt_le, ← Int32.toInt_inj, nI_toInt, zi_m1, zi_m2, zi_m3, zi_m9]; omega) | decide)) only [sL_styles_25, sL_styles_26, sL_styles_29, sL_styles_32, sL_styles_33, sL_styles_34, sL_styles_36, sL_styles_38, sL_styles_41, sL_styles_42, sL_styles_45, sL_styles_46, sL_styles_49, sL_styles_50, sL_styles_51i, sL_styles_51r, sL_styles_51z, sL_styles_51o, sL_styles_52i, sL_styles_52r, sL_styles_52z, sL_styles_52o, sL_styles_55, zpush_v, zpush_n, gCk, gAi, gSi, gLi, gLq, ↓if_pos, ↓if_neg, ↓reduceIte, eq_self, not_true_eq_false, not_false_eq_true, k, x_styles hr, r_par hr hw, hp, eN_n, nI_add, Nat.add_zero]
    | some q =>
      have hq := hw.1.1.2.1 t (by omega) q hp
      by_cases c : q = s
      · subst c
        have e : chl p.1.1 q (t + 1) = chl p.1.1 q t + 1 := by simp [chl, hp]
        rw [e]
        simp (disch := (first | omega | assumption | (simp (disch := omega) only [Int32.lt_iff_toInt_lt, Int32.le_iff_toInt_le, ← Int32.toInt_inj, nI_toInt, zi_m1, zi_m2, zi_m3, zi_m9]; omega) | decide)) only [sL_styles_25, sL_styles_26, sL_styles_29, sL_styles_32, sL_styles_33, sL_styles_34, sL_styles_36, sL_styles_38, sL_styles_41, sL_styles_42, sL_styles_45, sL_styles_46, sL_styles_49, sL_styles_50, sL_styles_51i, sL_styles_51r, sL_styles_51z, sL_styles_51o, sL_styles_52i, sL_styles_52r, sL_styles_52z, sL_styles_52o, sL_styles_55, zpush_v, zpush_n, gCk, gAi, gSi, gLi, gLq, ↓if_pos, ↓if_neg, ↓reduceIte, eq_self, not_true_eq_false, not_false_eq_true, k, x_styles hr, r_par hr hw, hp, eN_s, nI_add]
      · have e : chl p.1.1 s (t + 1) = chl p.1.1 s t := by simp [chl, hp, c]
        rw [e]
        simp (disch := (first | omega | assumption | (simp (disch := omega) only [Int32.lt_iff_toInt_lt, Int32.le_iff_toInt_le, ← Int32.toInt_inj, nI_toInt, zi_m1, zi_m2, zi_m3, zi_m9]; omega) | decide)) only [sL_styles_25, sL_styles_26, sL_styles_29, sL_styles_32, sL_styles_33, sL_styles_34, sL_styles_36, sL_styles_38, sL_styles_41, sL_styles_42, sL_styles_45, sL_styles_46, sL_styles_49, sL_styles_50, sL_styles_51i, sL_styles_51r, sL_styles_51z, sL_styles_51o, sL_styles_52i, sL_styles_52r, sL_styles_52z, sL_styles_52o, sL_styles_55, zpush_v, zpush_n, gCk, gAi, gSi, gLi, gLq, ↓if_pos, ↓if_neg, ↓reduceIte, eq_self, not_true_eq_false, not_false_eq_true, k, x_styles hr, r_par hr hw, hp, eN_s, nI_add, Nat.add_zero]
theorem l_stP (hr : rP h X B p) (hw : WfP p) {s : Nat} (hs : s < p.1.1.1) (x3 : Int32) (Q : Option Value → Hp → Prop) (K : ∀ l5 l6 l7, WP 111 240 [some (.ref X), some (.int (nI s)), some (.int (eN (p.1.1.2.1 s))), some (.int x3), some (.int (nI 6)), l5, l6, l7] [] h Q) : ∀ m j l5 l6 l7, m + j = 6 →
    WP 111 113 [some (.ref X), some (.int (nI s)), some (.int (eN (p.1.1.2.1 s))), some (.int x3), some (.int (nI j)), l5, l6, l7] [] h Q := by
  have h10 := hw.1.1.1
  have k := r_ck hr
  intro m
  induction m with
  | zero =>
    intro j l5 l6 l7 hj
    have hj : j = 6 := by omega
    subst hj
    rw [sL_styles_113]
    simp (disch := (first | omega | assumption | (simp (disch := omega) only [Int32.lt_iff_toInt_lt, Int32.le_iff_toInt_le, ← Int32.toInt_inj, nI_toInt, zi_m1, zi_m2, zi_m3, zi_m9]; omega) | decide)) only [sL_styles_115, sL_styles_117, zpush_v, zpush_n, gCk, gAi, gSi, gLi, gLq, ↓if_pos, ↓if_neg, ↓reduceIte, eq_self, not_true_eq_false, not_false_eq_true]
    exact K _ _ _
  | succ m ih =>
    intro j l5 l6 l7 hj
    have hj6 : j < 6 := by omega
    have b1 := m_L_basic (h := h) hj6
    have vs := valS_le hw.1.1 hj6 (some s)
    cases ho : p.1.1.2.2 s j with
    | some v =>
      have hv := hw.1.1.2.2.2 s hs j hj6 v ho
      have hv2 := hiP_le j
      have e1 := valS_own hs ho
      have e2 := wk_own hs ho
      have e := ih (j + 1) (some (.int (nI v))) (some (.int (nI v))) (some (.int (nI s))) (by omega)
      rw [sL_styles_113]
      simp (disch := (first | omega | assumption | (simp (disch := omega) only [Int32.lt_iff_toInt_lt, Int32.le_iff_toInt_le, ← Int32.toInt_inj, nI_toInt, zi_m1, zi_m2, zi_m3, zi_m9]; omega) | decide)) only [sL_styles_115, sL_styles_117, sL_styles_120, sL_styles_121, sL_styles_122, sL_styles_124, sL_styles_127i, sL_styles_127r, sL_styles_127z, sL_styles_127o, sL_styles_129, sL_styles_131, sL_styles_134, sL_styles_136, sL_styles_139, sL_styles_140, sL_styles_141, sL_styles_143, sL_styles_146i, sL_styles_146r, sL_styles_146z, sL_styles_146o, sL_styles_148, sL_styles_150, sL_styles_153, sL_styles_154, sL_styles_157, sL_styles_158, sL_styles_161, sL_styles_163, sL_styles_166, sL_styles_167, sL_styles_168, sL_styles_170, sL_styles_173i, sL_styles_173r, sL_styles_173z, sL_styles_173o, sL_styles_175, sL_styles_176, sL_styles_177, sL_styles_179, sL_styles_182, sL_styles_184, sL_styles_187, sL_styles_188, sL_styles_189, sL_styles_191, sL_styles_194, sL_styles_196, sL_styles_199, sL_styles_200, sL_styles_201, sL_styles_203, sL_styles_206, sL_styles_208, sL_styles_211, sL_styles_214, sL_styles_216, sL_styles_219, sL_styles_220, sL_styles_222, sL_styles_224, sL_styles_227, sL_styles_229, sL_styles_232, sL_styles_233, sL_styles_234i, sL_styles_234r, sL_styles_234z, sL_styles_234o, sL_styles_237, zpush_v, zpush_n, gCk, gAi, gSi, gLi, gLq, ↓if_pos, ↓if_neg, ↓reduceIte, eq_self, not_true_eq_false, not_false_eq_true, k, r_own hr hw, r_valS hr hw, r_valN hr hw, r_from hr hw, ho, e1, e2, eN_s, eS, b1, nI_add]
      exact e
    | none =>
      have e1 := valS_par hw.1.1 hs ho
      have e2 := wk_par hw.1.1 hs ho
      cases hp : p.1.1.2.1 s with
      | none =>
        rw [hp] at e1 e2 ih
        have e := ih (j + 1) (some (.int (-1))) (some (.int (nI (basicN j)))) (some (.int (-9))) (by omega)
        have e3 : wk p.1.1 j 10 none = none := rfl
        rw [e3] at e2
        rw [valS_none] at e1
        rw [sL_styles_113]
        simp (disch := (first | omega | assumption | (simp (disch := omega) only [Int32.lt_iff_toInt_lt, Int32.le_iff_toInt_le, ← Int32.toInt_inj, nI_toInt, zi_m1, zi_m2, zi_m3, zi_m9]; omega) | decide)) only [sL_styles_115, sL_styles_117, sL_styles_120, sL_styles_121, sL_styles_122, sL_styles_124, sL_styles_127i, sL_styles_127r, sL_styles_127z, sL_styles_127o, sL_styles_129, sL_styles_131, sL_styles_134, sL_styles_136, sL_styles_139, sL_styles_140, sL_styles_141, sL_styles_143, sL_styles_146i, sL_styles_146r, sL_styles_146z, sL_styles_146o, sL_styles_148, sL_styles_150, sL_styles_153, sL_styles_154, sL_styles_157, sL_styles_158, sL_styles_161, sL_styles_163, sL_styles_166, sL_styles_167, sL_styles_168, sL_styles_170, sL_styles_173i, sL_styles_173r, sL_styles_173z, sL_styles_173o, sL_styles_175, sL_styles_176, sL_styles_177, sL_styles_179, sL_styles_182, sL_styles_184, sL_styles_187, sL_styles_188, sL_styles_189, sL_styles_191, sL_styles_194, sL_styles_196, sL_styles_199, sL_styles_200, sL_styles_201, sL_styles_203, sL_styles_206, sL_styles_208, sL_styles_211, sL_styles_214, sL_styles_216, sL_styles_219, sL_styles_220, sL_styles_222, sL_styles_224, sL_styles_227, sL_styles_229, sL_styles_232, sL_styles_233, sL_styles_234i, sL_styles_234r, sL_styles_234z, sL_styles_234o, sL_styles_237, zpush_v, zpush_n, gCk, gAi, gSi, gLi, gLq, ↓if_pos, ↓if_neg, ↓reduceIte, eq_self, not_true_eq_false, not_false_eq_true, k, r_own hr hw, r_valS hr hw, r_valN hr hw, r_from hr hw, ho, e1, e2, eN_n, eS, b1, nI_add]
        exact e
      | some q =>
        have hq := hw.1.1.2.1 s hs q hp
        rw [hp] at e1 e2 ih
        have vq := valS_le hw.1.1 hj6 (some q)
        rw [eN_s] at ih ⊢
        cases hf : wk p.1.1 j 10 (some q) with
        | none =>
          rw [hf] at e2
          have e := ih (j + 1) (some (.int (-1))) (some (.int (nI (valS p.1.1 j (some q))))) (some (.int (-9))) (by omega)
          rw [sL_styles_113]
          simp (disch := (first | omega | assumption | (simp (disch := omega) only [Int32.lt_iff_toInt_lt, Int32.le_iff_toInt_le, ← Int32.toInt_inj, nI_toInt, zi_m1, zi_m2, zi_m3, zi_m9]; omega) | decide)) only [sL_styles_115, sL_styles_117, sL_styles_120, sL_styles_121, sL_styles_122, sL_styles_124, sL_styles_127i, sL_styles_127r, sL_styles_127z, sL_styles_127o, sL_styles_129, sL_styles_131, sL_styles_134, sL_styles_136, sL_styles_139, sL_styles_140, sL_styles_141, sL_styles_143, sL_styles_146i, sL_styles_146r, sL_styles_146z, sL_styles_146o, sL_styles_148, sL_styles_150, sL_styles_153, sL_styles_154, sL_styles_157, sL_styles_158, sL_styles_161, sL_styles_163, sL_styles_166, sL_styles_167, sL_styles_168, sL_styles_170, sL_styles_173i, sL_styles_173r, sL_styles_173z, sL_styles_173o, sL_styles_175, sL_styles_176, sL_styles_177, sL_styles_179, sL_styles_182, sL_styles_184, sL_styles_187, sL_styles_188, sL_styles_189, sL_styles_191, sL_styles_194, sL_styles_196, sL_styles_199, sL_styles_200, sL_styles_201, sL_styles_203, sL_styles_206, sL_styles_208, sL_styles_211, sL_styles_214, sL_styles_216, sL_styles_219, sL_styles_220, sL_styles_222, sL_styles_224, sL_styles_227, sL_styles_229, sL_styles_232, sL_styles_233, sL_styles_234i, sL_styles_234r, sL_styles_234z, sL_styles_234o, sL_styles_237, zpush_v, zpush_n, gCk, gAi, gSi, gLi, gLq, ↓if_pos, ↓if_neg, ↓reduceIte, eq_self, not_true_eq_false, not_false_eq_true, k, r_own hr hw, r_valS hr hw, r_valN hr hw, r_from hr hw, ho, e1, e2, hf, eN_n, eS, b1, nI_add]
          exact e
        | some f =>
          rw [hf] at e2
          obtain ⟨f1, f2⟩ := wk_at hf
          have e := ih (j + 1) (some (.int (-1))) (some (.int (nI (valS p.1.1 j (some q))))) (some (.int (nI f))) (by omega)
          rw [sL_styles_113]
          simp (disch := (first | omega | assumption | (simp (disch := omega) only [Int32.lt_iff_toInt_lt, Int32.le_iff_toInt_le, ← Int32.toInt_inj, nI_toInt, zi_m1, zi_m2, zi_m3, zi_m9]; omega) | decide)) only [sL_styles_115, sL_styles_117, sL_styles_120, sL_styles_121, sL_styles_122, sL_styles_124, sL_styles_127i, sL_styles_127r, sL_styles_127z, sL_styles_127o, sL_styles_129, sL_styles_131, sL_styles_134, sL_styles_136, sL_styles_139, sL_styles_140, sL_styles_141, sL_styles_143, sL_styles_146i, sL_styles_146r, sL_styles_146z, sL_styles_146o, sL_styles_148, sL_styles_150, sL_styles_153, sL_styles_154, sL_styles_157, sL_styles_158, sL_styles_161, sL_styles_163, sL_styles_166, sL_styles_167, sL_styles_168, sL_styles_170, sL_styles_173i, sL_styles_173r, sL_styles_173z, sL_styles_173o, sL_styles_175, sL_styles_176, sL_styles_177, sL_styles_179, sL_styles_182, sL_styles_184, sL_styles_187, sL_styles_188, sL_styles_189, sL_styles_191, sL_styles_194, sL_styles_196, sL_styles_199, sL_styles_200, sL_styles_201, sL_styles_203, sL_styles_206, sL_styles_208, sL_styles_211, sL_styles_214, sL_styles_216, sL_styles_219, sL_styles_220, sL_styles_222, sL_styles_224, sL_styles_227, sL_styles_229, sL_styles_232, sL_styles_233, sL_styles_234i, sL_styles_234r, sL_styles_234z, sL_styles_234o, sL_styles_237, zpush_v, zpush_n, gCk, gAi, gSi, gLi, gLq, ↓if_pos, ↓if_neg, ↓reduceIte, eq_self, not_true_eq_false, not_false_eq_true, k, r_own hr hw, r_valS hr hw, r_valN hr hw, r_from hr hw, ho, e1, e2, hf, f2, eN_n, eN_s, eS, b1, nI_add]
          exact e
theorem l_stM (hr : rP h X B p) (hw : WfP p) (Q : Option Value → Hp → Prop) (K : Q (some (.int (nI 1))) h) : ∀ m s l2 l3 l4 l5 l6 l7, m + s = p.1.1.1 →
    WP 111 2 [some (.ref X), some (.int (nI s)), l2, l3, l4, l5, l6, l7] [] h Q := by
  have h10 := hw.1.1.1
  have k := r_ck hr
  intro m
  induction m with
  | zero =>
    intro s l2 l3 l4 l5 l6 l7 hs
    have hs : s = p.1.1.1 := by omega
    subst hs
    rw [sL_styles_2]
    simp (disch := (first | omega | assumption | (simp (disch := omega) only [Int32.lt_iff_toInt_lt, Int32.le_iff_toInt_le, ← Int32.toInt_inj, nI_toInt, zi_m1, zi_m2, zi_m3, zi_m9]; omega) | decide)) only [sL_styles_3, sL_styles_4, sL_styles_7, sL_styles_246, sL_styles_247, zpush_v, zpush_n, gCk, gAi, gSi, gLi, gLq, ↓if_pos, ↓if_neg, ↓reduceIte, eq_self, not_true_eq_false, not_false_eq_true, k, x_styles hr]
    exact K
  | succ m ih =>
    intro s l2 l3 l4 l5 l6 l7 hs
    have hs1 : s < p.1.1.1 := by omega
    have P := l_stP hr hw hs1 (nI (chl p.1.1 s p.1.1.1)) Q (fun l5 l6 l7 => by
      have e := ih (s + 1) (some (.int (eN (p.1.1.2.1 s)))) (some (.int (nI (chl p.1.1 s p.1.1.1)))) (some (.int (nI 6))) l5 l6 l7 (by omega)
      simp (disch := (first | omega | assumption | (simp (disch := omega) only [Int32.lt_iff_toInt_lt, Int32.le_iff_toInt_le, ← Int32.toInt_inj, nI_toInt, zi_m1, zi_m2, zi_m3, zi_m9]; omega) | decide)) only [sL_styles_240i, sL_styles_240r, sL_styles_240z, sL_styles_240o, sL_styles_243, zpush_v, zpush_n, gCk, gAi, gSi, gLi, gLq, ↓if_pos, ↓if_neg, ↓reduceIte, eq_self, not_true_eq_false, not_false_eq_true, nI_add]
      exact e) 6 0
    have A := l_stA hr hw hs1
    have e0 : chl p.1.1 s 0 = 0 := rfl
    have A0 := fun x l5 l6 l7 => A x l5 l6 l7 Q p.1.1.1 0 rfl
    rw [e0] at A0
    have hc := chl_le p.1.1 s p.1.1.1
    have h9 := cnt_9 hw.1.1 hs1
    rw [sL_styles_2]
    cases hp : p.1.1.2.1 s with
    | none =>
      have e1 : cntA p.1.1 10 none = 0 := rfl
      rw [hp] at P
      rw [eN_n] at P
      simp (disch := (first | omega | assumption | (simp (disch := omega) only [Int32.lt_iff_toInt_lt, Int32.le_iff_toInt_le, ← Int32.toInt_inj, nI_toInt, zi_m1, zi_m2, zi_m3, zi_m9]; omega) | decide)) only [sL_styles_3, sL_styles_4, sL_styles_7, sL_styles_10, sL_styles_11, sL_styles_12, sL_styles_14, sL_styles_17i, sL_styles_17r, sL_styles_17z, sL_styles_17o, sL_styles_18, sL_styles_19i, sL_styles_19r, sL_styles_19z, sL_styles_19o, sL_styles_20, sL_styles_21i, sL_styles_21r, sL_styles_21z, sL_styles_21o, sL_styles_58, sL_styles_59, sL_styles_60, sL_styles_62, sL_styles_65, sL_styles_66, sL_styles_69, sL_styles_70, sL_styles_71, sL_styles_73, sL_styles_76, sL_styles_77, sL_styles_80, sL_styles_81, sL_styles_84, sL_styles_85, sL_styles_86, sL_styles_87, sL_styles_89, sL_styles_92, sL_styles_93, sL_styles_96, sL_styles_97, sL_styles_98, sL_styles_100, sL_styles_103, sL_styles_105, sL_styles_108, sL_styles_109, sL_styles_110, sL_styles_111i, sL_styles_111r, sL_styles_111z, sL_styles_111o, zpush_v, zpush_n, gCk, gAi, gSi, gLi, gLq, ↓if_pos, ↓if_neg, ↓reduceIte, eq_self, not_true_eq_false, not_false_eq_true, k, x_styles hr, r_par hr hw, r_chl hr hw, r_anc hr hw, A0, hp, e1, eN_n]
      exact P _ _ _ rfl
    | some q =>
      have hq := hw.1.1.2.1 s hs1 q hp
      have e1 := cnt_par hw.1.1 hq
      rw [hp] at P h9
      rw [eN_s] at P
      simp (disch := (first | omega | assumption | (simp (disch := omega) only [Int32.lt_iff_toInt_lt, Int32.le_iff_toInt_le, ← Int32.toInt_inj, nI_toInt, zi_m1, zi_m2, zi_m3, zi_m9]; omega) | decide)) only [sL_styles_3, sL_styles_4, sL_styles_7, sL_styles_10, sL_styles_11, sL_styles_12, sL_styles_14, sL_styles_17i, sL_styles_17r, sL_styles_17z, sL_styles_17o, sL_styles_18, sL_styles_19i, sL_styles_19r, sL_styles_19z, sL_styles_19o, sL_styles_20, sL_styles_21i, sL_styles_21r, sL_styles_21z, sL_styles_21o, sL_styles_58, sL_styles_59, sL_styles_60, sL_styles_62, sL_styles_65, sL_styles_66, sL_styles_69, sL_styles_70, sL_styles_71, sL_styles_73, sL_styles_76, sL_styles_77, sL_styles_80, sL_styles_81, sL_styles_84, sL_styles_85, sL_styles_86, sL_styles_87, sL_styles_89, sL_styles_92, sL_styles_93, sL_styles_96, sL_styles_97, sL_styles_98, sL_styles_100, sL_styles_103, sL_styles_105, sL_styles_108, sL_styles_109, sL_styles_110, sL_styles_111i, sL_styles_111r, sL_styles_111z, sL_styles_111o, zpush_v, zpush_n, gCk, gAi, gSi, gLi, gLq, ↓if_pos, ↓if_neg, ↓reduceIte, eq_self, not_true_eq_false, not_false_eq_true, k, x_styles hr, r_par hr hw, r_chl hr hw, r_anc hr hw, A0, hp, e1, eN_s, nI_add]
      exact P _ _ _ rfl
theorem y_styles (hr : rP h X B p) (hw : WfP p) (Q : Option Value → Hp → Prop) (K : Q (some (.int (nI 1))) h) : WPm 111 [.ref X] h Q := by
  have e := l_stM hr hw Q K p.1.1.1 0 none none none none none none rfl
  rw [eL_styles]
  simp (disch := (first | omega | assumption | (simp (disch := omega) only [Int32.lt_iff_toInt_lt, Int32.le_iff_toInt_le, ← Int32.toInt_inj, nI_toInt, zi_m1, zi_m2, zi_m3, zi_m9]; omega) | decide)) only [sL_styles_0, sL_styles_1i, sL_styles_1r, sL_styles_1z, sL_styles_1o, zpush_v, zpush_n, gCk, gAi, gSi, gLi, gLq, ↓if_pos, ↓if_neg, ↓reduceIte, eq_self, not_true_eq_false, not_false_eq_true]
  exact e
end LS
