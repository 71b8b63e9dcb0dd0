/-! the law's types(): its body -/
section LTY
variable {h : Hp} {X B : Nat} {p : PS} {Q : Option Value → Hp → Prop}
abbrev tp (p : PS) (c : Nat) : PS := (p.1, p.2.1, p.2.2 ++ [c])
theorem tp_len (p : PS) (c : Nat) : (tp p c).2.2.length = p.2.2.length + 1 := by
  show (p.2.2 ++ [c]).length = _
  rw [List.length_append]
  rfl
theorem k_ty (hr : rP h X B p) (hw : WfP p) {c n : Nat} (hc : 32 ≤ c ∧ c ≤ 126) (hn : p.2.2.length = n) (hl : n < 80) (K : ∀ h', FrK 1 X h h' → rP h' X B (tp p c) → WfP (tp p c) → (tp p c).2.2.length = n + 1 → Q (some (.int (nI (n + 1)))) h') : WPm 80 [.ref X, .int (nI c)] h Q := by
  subst hn
  refine k_type hr hw (p' := tp p c) (v := nI (p.2.2.length + 1)) ?_ (fun h' F hr' hw' => K h' F hr' hw' (tp_len p c))
  unfold opType
  have e : dR 32 126 (nI c) = some c := by
    rcases dR_cases 32 126 (nI c) (by omega) (by omega) with ⟨k, hk, e1, e2⟩ | ⟨g, -⟩
    · rw [nI_eq (by omega) (by omega)] at e1
      subst e1
      exact e2
    · exfalso
      rcases g with g | g
      · rw [Int32.lt_iff_toInt_lt, nI_toInt (by omega), nI_toInt (by omega)] at g
        omega
      · rw [Int32.lt_iff_toInt_lt, nI_toInt (by omega), nI_toInt (by omega)] at g
        omega
  rw [e]
  exact if_neg (by omega)
theorem l_tyA (hr : rP h X B p) (hw : WfP p) {n how x : Nat} (hl : p.2.2.length = n) (h42 : n ≤ 60) (hx : x < 10) (hh : how < 3) (q pp l3 mn kk cc : Int32)
    (K : ∀ h' l3, FrK 6 X h h' → rP h' X B (p.1, p.2.1, p.2.2 ++ chT how x) → WfP (p.1, p.2.1, p.2.2 ++ chT how x) → WP 115 297 [some (.ref X), some (.int q), some (.int pp), some (.int l3), some (.int mn), some (.int kk), some (.int cc), some (.int (nI how)), some (.int (nI x))] [] h' Q) :
    WP 115 48 [some (.ref X), some (.int q), some (.int pp), some (.int l3), some (.int mn), some (.int kk), some (.int cc), some (.int (nI how)), some (.int (nI x))] [] h Q := by
  have e : chT how x = [65 + x] := by
    unfold chT
    simp [hh]
  rw [e] at K
  have F : FrK 0 X h h := FrK.rf
  simp (disch := (first | omega | assumption | (simp (disch := omega) only [Int32.lt_iff_toInt_lt, Int32.le_iff_toInt_le, ← Int32.toInt_inj, nI_toInt, zi_m1, zi_m2, zi_m3, zi_m9]; omega) | decide)) only [sL_types_48, sL_types_50, sL_types_51, sL_types_54, sL_types_55, sL_types_57, sL_types_59, sL_types_60, zpush_v, zpush_n, gCk, gAi, gSi, gLi, gLq, ↓if_pos, ↓if_neg, ↓reduceIte, eq_self, not_true_eq_false, not_false_eq_true, r_ck hr, nI_add, pk_rem]
  refine k_ty hr hw (c := 65 + x) (by omega) hl (by omega) (fun h F2 hr hw hl => ?_)
  replace F := F.tr F2
  clear F2
  simp (disch := (first | omega | assumption | (simp (disch := omega) only [Int32.lt_iff_toInt_lt, Int32.le_iff_toInt_le, ← Int32.toInt_inj, nI_toInt, zi_m1, zi_m2, zi_m3, zi_m9]; omega) | decide)) only [sL_types_63i, sL_types_63r, sL_types_63z, sL_types_63o, sL_types_64, sL_types_67, sL_types_69, sL_types_71, sL_types_74, sL_types_75, sL_types_77, sL_types_80, sL_types_81, sL_types_83, sL_types_86, sL_types_87, sL_types_88, sL_types_90, sL_types_92, sL_types_93, sL_types_96, sL_types_97, sL_types_98, sL_types_100, sL_types_103, sL_types_104, sL_types_105, sL_types_107, sL_types_110, sL_types_111, sL_types_112, sL_types_114, sL_types_116, sL_types_117, sL_types_120, sL_types_121i, sL_types_121r, sL_types_121z, sL_types_121o, sL_types_122, sL_types_125, sL_types_127, sL_types_129, sL_types_132, sL_types_133, sL_types_135, sL_types_138, sL_types_139, sL_types_141, sL_types_144, sL_types_145, sL_types_146, sL_types_148, sL_types_150, sL_types_152, sL_types_153, sL_types_154, sL_types_157, sL_types_158, sL_types_159, sL_types_161, sL_types_163, sL_types_164, sL_types_167, sL_types_168, sL_types_169, sL_types_171, sL_types_174, sL_types_175, sL_types_176, sL_types_178, sL_types_181, sL_types_182i, sL_types_182r, sL_types_182z, sL_types_182o, sL_types_183, sL_types_186, sL_types_188, sL_types_190, sL_types_193, sL_types_194, sL_types_196, sL_types_199, sL_types_200, sL_types_202, sL_types_203, sL_types_204, sL_types_207, sL_types_209, sL_types_212, sL_types_214, sL_types_217, sL_types_218, sL_types_219, sL_types_221, sL_types_223, sL_types_225, sL_types_226, sL_types_227, sL_types_230, sL_types_231, sL_types_232, sL_types_234, sL_types_237, sL_types_238, sL_types_239, sL_types_241, sL_types_244, sL_types_245i, sL_types_245r, sL_types_245z, sL_types_245o, sL_types_246, sL_types_249, sL_types_250, sL_types_252, sL_types_255, sL_types_256, sL_types_258, sL_types_261, sL_types_262i, sL_types_262r, sL_types_262z, sL_types_262o, sL_types_263, sL_types_265, sL_types_266, sL_types_269, sL_types_270, sL_types_272, sL_types_274, sL_types_275, sL_types_278, sL_types_281, sL_types_282i, sL_types_282r, sL_types_282z, sL_types_282o, sL_types_283, sL_types_284, sL_types_286, sL_types_289, sL_types_290, sL_types_292, sL_types_295, sL_types_296i, sL_types_296r, sL_types_296z, sL_types_296o, zpush_v, zpush_n, gCk, gAi, gSi, gLi, gLq, ↓if_pos, ↓if_neg, ↓reduceIte, eq_self, not_true_eq_false, not_false_eq_true, nI_add]
  have ee : tp (p) (65 + x) = (p.1, p.2.1, p.2.2 ++ [65 + x]) := by simp [tp]
  rw [ee] at hr hw
  exact K _ _ (F.wd (by omega)) hr hw
theorem l_tyB (hr : rP h X B p) (hw : WfP p) {n how x : Nat} (hl : p.2.2.length = n) (h42 : n ≤ 60) (hx : x < 10) (hh : ¬ how < 3) (h2 : how < 6) (q pp l3 mn kk cc : Int32)
    (K : ∀ h' l3, FrK 6 X h h' → rP h' X B (p.1, p.2.1, p.2.2 ++ chT how x) → WfP (p.1, p.2.1, p.2.2 ++ chT how x) → WP 115 297 [some (.ref X), some (.int q), some (.int pp), some (.int l3), some (.int mn), some (.int kk), some (.int cc), some (.int (nI how)), some (.int (nI x))] [] h' Q) :
    WP 115 48 [some (.ref X), some (.int q), some (.int pp), some (.int l3), some (.int mn), some (.int kk), some (.int cc), some (.int (nI how)), some (.int (nI x))] [] h Q := by
  have e : chT how x = [123, 107, 48 + x, 48, 125, 97 + x] := by
    unfold chT
    simp [hh, h2]
  rw [e] at K
  have F : FrK 0 X h h := FrK.rf
  simp (disch := (first | omega | assumption | (simp (disch := omega) only [Int32.lt_iff_toInt_lt, Int32.le_iff_toInt_le, ← Int32.toInt_inj, nI_toInt, zi_m1, zi_m2, zi_m3, zi_m9]; omega) | decide)) only [sL_types_48, sL_types_50, sL_types_51, sL_types_54, sL_types_55, sL_types_57, sL_types_59, sL_types_60, sL_types_63i, sL_types_63r, sL_types_63z, sL_types_63o, sL_types_64, sL_types_67, sL_types_69, sL_types_71, sL_types_74, sL_types_75, sL_types_77, zpush_v, zpush_n, gCk, gAi, gSi, gLi, gLq, ↓if_pos, ↓if_neg, ↓reduceIte, eq_self, not_true_eq_false, not_false_eq_true, r_ck hr, nI_add, pk_rem]
  refine k_ty hr hw (c := 123) (by omega) hl (by omega) (fun h F2 hr hw hl => ?_)
  replace F := F.tr F2
  clear F2
  simp (disch := (first | omega | assumption | (simp (disch := omega) only [Int32.lt_iff_toInt_lt, Int32.le_iff_toInt_le, ← Int32.toInt_inj, nI_toInt, zi_m1, zi_m2, zi_m3, zi_m9]; omega) | decide)) only [sL_types_80, sL_types_81, sL_types_83, zpush_v, zpush_n, gCk, gAi, gSi, gLi, gLq, ↓if_pos, ↓if_neg, ↓reduceIte, eq_self, not_true_eq_false, not_false_eq_true, r_ck hr, nI_add, pk_rem]
  refine k_ty hr hw (c := 107) (by omega) hl (by omega) (fun h F2 hr hw hl => ?_)
  replace F := F.tr F2
  clear F2
  simp (disch := (first | omega | assumption | (simp (disch := omega) only [Int32.lt_iff_toInt_lt, Int32.le_iff_toInt_le, ← Int32.toInt_inj, nI_toInt, zi_m1, zi_m2, zi_m3, zi_m9]; omega) | decide)) only [sL_types_86, sL_types_87, sL_types_88, sL_types_90, sL_types_92, sL_types_93, zpush_v, zpush_n, gCk, gAi, gSi, gLi, gLq, ↓if_pos, ↓if_neg, ↓reduceIte, eq_self, not_true_eq_false, not_false_eq_true, r_ck hr, nI_add, pk_rem]
  refine k_ty hr hw (c := 48 + x) (by omega) hl (by omega) (fun h F2 hr hw hl => ?_)
  replace F := F.tr F2
  clear F2
  simp (disch := (first | omega | assumption | (simp (disch := omega) only [Int32.lt_iff_toInt_lt, Int32.le_iff_toInt_le, ← Int32.toInt_inj, nI_toInt, zi_m1, zi_m2, zi_m3, zi_m9]; omega) | decide)) only [sL_types_96, sL_types_97, sL_types_98, sL_types_100, zpush_v, zpush_n, gCk, gAi, gSi, gLi, gLq, ↓if_pos, ↓if_neg, ↓reduceIte, eq_self, not_true_eq_false, not_false_eq_true, r_ck hr, nI_add, pk_rem]
  refine k_ty hr hw (c := 48) (by omega) hl (by omega) (fun h F2 hr hw hl => ?_)
  replace F := F.tr F2
  clear F2
  simp (disch := (first | omega | assumption | (simp (disch := omega) only [Int32.lt_iff_toInt_lt, Int32.le_iff_toInt_le, ← Int32.toInt_inj, nI_toInt, zi_m1, zi_m2, zi_m3, zi_m9]; omega) | decide)) only [sL_types_103, sL_types_104, sL_types_105, sL_types_107, zpush_v, zpush_n, gCk, gAi, gSi, gLi, gLq, ↓if_pos, ↓if_neg, ↓reduceIte, eq_self, not_true_eq_false, not_false_eq_true, r_ck hr, nI_add, pk_rem]
  refine k_ty hr hw (c := 125) (by omega) hl (by omega) (fun h F2 hr hw hl => ?_)
  replace F := F.tr F2
  clear F2
  simp (disch := (first | omega | assumption | (simp (disch := omega) only [Int32.lt_iff_toInt_lt, Int32.le_iff_toInt_le, ← Int32.toInt_inj, nI_toInt, zi_m1, zi_m2, zi_m3, zi_m9]; omega) | decide)) only [sL_types_110, sL_types_111, sL_types_112, sL_types_114, sL_types_116, sL_types_117, zpush_v, zpush_n, gCk, gAi, gSi, gLi, gLq, ↓if_pos, ↓if_neg, ↓reduceIte, eq_self, not_true_eq_false, not_false_eq_true, r_ck hr, nI_add, pk_rem]
  refine k_ty hr hw (c := 97 + x) (by omega) hl (by omega) (fun h F2 hr hw hl => ?_)
  replace F := F.tr F2
  clear F2
  simp (disch := (first | omega | assumption | (simp (disch := omega) only [Int32.lt_iff_toInt_lt, Int32.le_iff_toInt_le, ← Int32.toInt_inj, nI_toInt, zi_m1, zi_m2, zi_m3, zi_m9]; omega) | decide)) only [sL_types_120, sL_types_121i, sL_types_121r, sL_types_121z, sL_types_121o, sL_types_122, sL_types_125, sL_types_127, sL_types_129, sL_types_132, sL_types_133, sL_types_135, sL_types_138, sL_types_139, sL_types_141, sL_types_144, sL_types_145, sL_types_146, sL_types_148, sL_types_150, sL_types_152, sL_types_153, sL_types_154, sL_types_157, sL_types_158, sL_types_159, sL_types_161, sL_types_163, sL_types_164, sL_types_167, sL_types_168, sL_types_169, sL_types_171, sL_types_174, sL_types_175, sL_types_176, sL_types_178, sL_types_181, sL_types_182i, sL_types_182r, sL_types_182z, sL_types_182o, sL_types_183, sL_types_186, sL_types_188, sL_types_190, sL_types_193, sL_types_194, sL_types_196, sL_types_199, sL_types_200, sL_types_202, sL_types_203, sL_types_204, sL_types_207, sL_types_209, sL_types_212, sL_types_214, sL_types_217, sL_types_218, sL_types_219, sL_types_221, sL_types_223, sL_types_225, sL_types_226, sL_types_227, sL_types_230, sL_types_231, sL_types_232, sL_types_234, sL_types_237, sL_types_238, sL_types_239, sL_types_241, sL_types_244, sL_types_245i, sL_types_245r, sL_types_245z, sL_types_245o, sL_types_246, sL_types_249, sL_types_250, sL_types_252, sL_types_255, sL_types_256, sL_types_258, sL_types_261, sL_types_262i, sL_types_262r, sL_types_262z, sL_types_262o, sL_types_263, sL_types_265, sL_types_266, sL_types_269, sL_types_270, sL_types_272, sL_types_274, sL_types_275, sL_types_278, sL_types_281, sL_types_282i, sL_types_282r, sL_types_282z, sL_types_282o, sL_types_283, sL_types_284, sL_types_286, sL_types_289, sL_types_290, sL_types_292, sL_types_295, sL_types_296i, sL_types_296r, sL_types_296z, sL_types_296o, zpush_v, zpush_n, gCk, gAi, gSi, gLi, gLq, ↓if_pos, ↓if_neg, ↓reduceIte, eq_self, not_true_eq_false, not_false_eq_true, nI_add]
  have ee : tp (tp (tp (tp (tp (tp (p) (123)) (107)) (48 + x)) (48)) (125)) (97 + x) = (p.1, p.2.1, p.2.2 ++ [123, 107, 48 + x, 48, 125, 97 + x]) := by simp [tp]
  rw [ee] at hr hw
  exact K _ _ (F.wd (by omega)) hr hw
theorem l_tyC (hr : rP h X B p) (hw : WfP p) {n how x : Nat} (hl : p.2.2.length = n) (h42 : n ≤ 60) (hx : x < 10) (hh : how = 6) (q pp l3 mn kk cc : Int32)
    (K : ∀ h' l3, FrK 6 X h h' → rP h' X B (p.1, p.2.1, p.2.2 ++ chT how x) → WfP (p.1, p.2.1, p.2.2 ++ chT how x) → WP 115 297 [some (.ref X), some (.int q), some (.int pp), some (.int l3), some (.int mn), some (.int kk), some (.int cc), some (.int (nI how)), some (.int (nI x))] [] h' Q) :
    WP 115 48 [some (.ref X), some (.int q), some (.int pp), some (.int l3), some (.int mn), some (.int kk), some (.int cc), some (.int (nI how)), some (.int (nI x))] [] h Q := by
  have e : chT how x = [123, 115, 49 + x % 9, 48 + x, 125, 125] := by
    unfold chT
    simp [hh]
  rw [e] at K
  have F : FrK 0 X h h := FrK.rf
  simp (disch := (first | omega | assumption | (simp (disch := omega) only [Int32.lt_iff_toInt_lt, Int32.le_iff_toInt_le, ← Int32.toInt_inj, nI_toInt, zi_m1, zi_m2, zi_m3, zi_m9]; omega) | decide)) only [sL_types_48, sL_types_50, sL_types_51, sL_types_54, sL_types_55, sL_types_57, sL_types_59, sL_types_60, sL_types_63i, sL_types_63r, sL_types_63z, sL_types_63o, sL_types_64, sL_types_67, sL_types_69, sL_types_71, sL_types_74, sL_types_75, sL_types_77, sL_types_80, sL_types_81, sL_types_83, sL_types_86, sL_types_87, sL_types_88, sL_types_90, sL_types_92, sL_types_93, sL_types_96, sL_types_97, sL_types_98, sL_types_100, sL_types_103, sL_types_104, sL_types_105, sL_types_107, sL_types_110, sL_types_111, sL_types_112, sL_types_114, sL_types_116, sL_types_117, sL_types_120, sL_types_121i, sL_types_121r, sL_types_121z, sL_types_121o, sL_types_122, sL_types_125, sL_types_127, sL_types_129, sL_types_132, sL_types_133, sL_types_135, zpush_v, zpush_n, gCk, gAi, gSi, gLi, gLq, ↓if_pos, ↓if_neg, ↓reduceIte, eq_self, not_true_eq_false, not_false_eq_true, r_ck hr, nI_add, pk_rem]
  refine k_ty hr hw (c := 123) (by omega) hl (by omega) (fun h F2 hr hw hl => ?_)
  replace F := F.tr F2
  clear F2
  simp (disch := (first | omega | assumption | (simp (disch := omega) only [Int32.lt_iff_toInt_lt, Int32.le_iff_toInt_le, ← Int32.toInt_inj, nI_toInt, zi_m1, zi_m2, zi_m3, zi_m9]; omega) | decide)) only [sL_types_138, sL_types_139, sL_types_141, zpush_v, zpush_n, gCk, gAi, gSi, gLi, gLq, ↓if_pos, ↓if_neg, ↓reduceIte, eq_self, not_true_eq_false, not_false_eq_true, r_ck hr, nI_add, pk_rem]
  refine k_ty hr hw (c := 115) (by omega) hl (by omega) (fun h F2 hr hw hl => ?_)
  replace F := F.tr F2
  clear F2
  simp (disch := (first | omega | assumption | (simp (disch := omega) only [Int32.lt_iff_toInt_lt, Int32.le_iff_toInt_le, ← Int32.toInt_inj, nI_toInt, zi_m1, zi_m2, zi_m3, zi_m9]; omega) | decide)) only [sL_types_144, sL_types_145, sL_types_146, sL_types_148, sL_types_150, sL_types_152, sL_types_153, sL_types_154, zpush_v, zpush_n, gCk, gAi, gSi, gLi, gLq, ↓if_pos, ↓if_neg, ↓reduceIte, eq_self, not_true_eq_false, not_false_eq_true, r_ck hr, nI_add, pk_rem]
  refine k_ty hr hw (c := 49 + x % 9) (by omega) hl (by omega) (fun h F2 hr hw hl => ?_)
  replace F := F.tr F2
  clear F2
  simp (disch := (first | omega | assumption | (simp (disch := omega) only [Int32.lt_iff_toInt_lt, Int32.le_iff_toInt_le, ← Int32.toInt_inj, nI_toInt, zi_m1, zi_m2, zi_m3, zi_m9]; omega) | decide)) only [sL_types_157, sL_types_158, sL_types_159, sL_types_161, sL_types_163, sL_types_164, zpush_v, zpush_n, gCk, gAi, gSi, gLi, gLq, ↓if_pos, ↓if_neg, ↓reduceIte, eq_self, not_true_eq_false, not_false_eq_true, r_ck hr, nI_add, pk_rem]
  refine k_ty hr hw (c := 48 + x) (by omega) hl (by omega) (fun h F2 hr hw hl => ?_)
  replace F := F.tr F2
  clear F2
  simp (disch := (first | omega | assumption | (simp (disch := omega) only [Int32.lt_iff_toInt_lt, Int32.le_iff_toInt_le, ← Int32.toInt_inj, nI_toInt, zi_m1, zi_m2, zi_m3, zi_m9]; omega) | decide)) only [sL_types_167, sL_types_168, sL_types_169, sL_types_171, zpush_v, zpush_n, gCk, gAi, gSi, gLi, gLq, ↓if_pos, ↓if_neg, ↓reduceIte, eq_self, not_true_eq_false, not_false_eq_true, r_ck hr, nI_add, pk_rem]
  refine k_ty hr hw (c := 125) (by omega) hl (by omega) (fun h F2 hr hw hl => ?_)
  replace F := F.tr F2
  clear F2
  simp (disch := (first | omega | assumption | (simp (disch := omega) only [Int32.lt_iff_toInt_lt, Int32.le_iff_toInt_le, ← Int32.toInt_inj, nI_toInt, zi_m1, zi_m2, zi_m3, zi_m9]; omega) | decide)) only [sL_types_174, sL_types_175, sL_types_176, sL_types_178, zpush_v, zpush_n, gCk, gAi, gSi, gLi, gLq, ↓if_pos, ↓if_neg, ↓reduceIte, eq_self, not_true_eq_false, not_false_eq_true, r_ck hr, nI_add, pk_rem]
  refine k_ty hr hw (c := 125) (by omega) hl (by omega) (fun h F2 hr hw hl => ?_)
  replace F := F.tr F2
  clear F2
  simp (disch := (first | omega | assumption | (simp (disch := omega) only [Int32.lt_iff_toInt_lt, Int32.le_iff_toInt_le, ← Int32.toInt_inj, nI_toInt, zi_m1, zi_m2, zi_m3, zi_m9]; omega) | decide)) only [sL_types_181, sL_types_182i, sL_types_182r, sL_types_182z, sL_types_182o, sL_types_183, sL_types_186, sL_types_188, sL_types_190, sL_types_193, sL_types_194, sL_types_196, sL_types_199, sL_types_200, sL_types_202, sL_types_203, sL_types_204, sL_types_207, sL_types_209, sL_types_212, sL_types_214, sL_types_217, sL_types_218, sL_types_219, sL_types_221, sL_types_223, sL_types_225, sL_types_226, sL_types_227, sL_types_230, sL_types_231, sL_types_232, sL_types_234, sL_types_237, sL_types_238, sL_types_239, sL_types_241, sL_types_244, sL_types_245i, sL_types_245r, sL_types_245z, sL_types_245o, sL_types_246, sL_types_249, sL_types_250, sL_types_252, sL_types_255, sL_types_256, sL_types_258, sL_types_261, sL_types_262i, sL_types_262r, sL_types_262z, sL_types_262o, sL_types_263, sL_types_265, sL_types_266, sL_types_269, sL_types_270, sL_types_272, sL_types_274, sL_types_275, sL_types_278, sL_types_281, sL_types_282i, sL_types_282r, sL_types_282z, sL_types_282o, sL_types_283, sL_types_284, sL_types_286, sL_types_289, sL_types_290, sL_types_292, sL_types_295, sL_types_296i, sL_types_296r, sL_types_296z, sL_types_296o, zpush_v, zpush_n, gCk, gAi, gSi, gLi, gLq, ↓if_pos, ↓if_neg, ↓reduceIte, eq_self, not_true_eq_false, not_false_eq_true, nI_add]
  have ee : tp (tp (tp (tp (tp (tp (p) (123)) (115)) (49 + x % 9)) (48 + x)) (125)) (125) = (p.1, p.2.1, p.2.2 ++ [123, 115, 49 + x % 9, 48 + x, 125, 125]) := by simp [tp]
  rw [ee] at hr hw
  exact K _ _ (F.wd (by omega)) hr hw
theorem l_tyD (hr : rP h X B p) (hw : WfP p) {n how x : Nat} (hl : p.2.2.length = n) (h42 : n ≤ 60) (hx : x < 10) (hh : how = 7) (h2 : x % 2 = 0) (q pp l3 mn kk cc : Int32)
    (K : ∀ h' l3, FrK 6 X h h' → rP h' X B (p.1, p.2.1, p.2.2 ++ chT how x) → WfP (p.1, p.2.1, p.2.2 ++ chT how x) → WP 115 297 [some (.ref X), some (.int q), some (.int pp), some (.int l3), some (.int mn), some (.int kk), some (.int cc), some (.int (nI how)), some (.int (nI x))] [] h' Q) :
    WP 115 48 [some (.ref X), some (.int q), some (.int pp), some (.int l3), some (.int mn), some (.int kk), some (.int cc), some (.int (nI how)), some (.int (nI x))] [] h Q := by
  have e : chT how x = [123, 99, 48 + x % 8, 125, 35] := by
    unfold chT
    simp [hh, h2]
  rw [e] at K
  have F : FrK 0 X h h := FrK.rf
  simp (disch := (first | omega | assumption | (simp (disch := omega) only [Int32.lt_iff_toInt_lt, Int32.le_iff_toInt_le, ← Int32.toInt_inj, nI_toInt, zi_m1, zi_m2, zi_m3, zi_m9]; omega) | decide)) only [sL_types_48, sL_types_50, sL_types_51, sL_types_54, sL_types_55, sL_types_57, sL_types_59, sL_types_60, sL_types_63i, sL_types_63r, sL_types_63z, sL_types_63o, sL_types_64, sL_types_67, sL_types_69, sL_types_71, sL_types_74, sL_types_75, sL_types_77, sL_types_80, sL_types_81, sL_types_83, sL_types_86, sL_types_87, sL_types_88, sL_types_90, sL_types_92, sL_types_93, sL_types_96, sL_types_97, sL_types_98, sL_types_100, sL_types_103, sL_types_104, sL_types_105, sL_types_107, sL_types_110, sL_types_111, sL_types_112, sL_types_114, sL_types_116, sL_types_117, sL_types_120, sL_types_121i, sL_types_121r, sL_types_121z, sL_types_121o, sL_types_122, sL_types_125, sL_types_127, sL_types_129, sL_types_132, sL_types_133, sL_types_135, sL_types_138, sL_types_139, sL_types_141, sL_types_144, sL_types_145, sL_types_146, sL_types_148, sL_types_150, sL_types_152, sL_types_153, sL_types_154, sL_types_157, sL_types_158, sL_types_159, sL_types_161, sL_types_163, sL_types_164, sL_types_167, sL_types_168, sL_types_169, sL_types_171, sL_types_174, sL_types_175, sL_types_176, sL_types_178, sL_types_181, sL_types_182i, sL_types_182r, sL_types_182z, sL_types_182o, sL_types_183, sL_types_186, sL_types_188, sL_types_190, sL_types_193, sL_types_194, sL_types_196, zpush_v, zpush_n, gCk, gAi, gSi, gLi, gLq, ↓if_pos, ↓if_neg, ↓reduceIte, eq_self, not_true_eq_false, not_false_eq_true, r_ck hr, nI_add, pk_rem]
  refine k_ty hr hw (c := 123) (by omega) hl (by omega) (fun h F2 hr hw hl => ?_)
  replace F := F.tr F2
  clear F2
  simp (disch := (first | omega | assumption | (simp (disch := omega) only [Int32.lt_iff_toInt_lt, Int32.le_iff_toInt_le, ← Int32.toInt_inj, nI_toInt, zi_m1, zi_m2, zi_m3, zi_m9]; omega) | decide)) only [sL_types_199, sL_types_200, sL_types_202, sL_types_203, sL_types_204, sL_types_207, sL_types_209, sL_types_212, sL_types_214, zpush_v, zpush_n, gCk, gAi, gSi, gLi, gLq, ↓if_pos, ↓if_neg, ↓reduceIte, eq_self, not_true_eq_false, not_false_eq_true, r_ck hr, nI_add, pk_rem, h2]
  refine k_ty hr hw (c := 99) (by omega) hl (by omega) (fun h F2 hr hw hl => ?_)
  replace F := F.tr F2
  clear F2
  simp (disch := (first | omega | assumption | (simp (disch := omega) only [Int32.lt_iff_toInt_lt, Int32.le_iff_toInt_le, ← Int32.toInt_inj, nI_toInt, zi_m1, zi_m2, zi_m3, zi_m9]; omega) | decide)) only [sL_types_217, sL_types_218, sL_types_219, sL_types_221, sL_types_223, sL_types_225, sL_types_226, sL_types_227, zpush_v, zpush_n, gCk, gAi, gSi, gLi, gLq, ↓if_pos, ↓if_neg, ↓reduceIte, eq_self, not_true_eq_false, not_false_eq_true, r_ck hr, nI_add, pk_rem]
  refine k_ty hr hw (c := 48 + x % 8) (by omega) hl (by omega) (fun h F2 hr hw hl => ?_)
  replace F := F.tr F2
  clear F2
  simp (disch := (first | omega | assumption | (simp (disch := omega) only [Int32.lt_iff_toInt_lt, Int32.le_iff_toInt_le, ← Int32.toInt_inj, nI_toInt, zi_m1, zi_m2, zi_m3, zi_m9]; omega) | decide)) only [sL_types_230, sL_types_231, sL_types_232, sL_types_234, zpush_v, zpush_n, gCk, gAi, gSi, gLi, gLq, ↓if_pos, ↓if_neg, ↓reduceIte, eq_self, not_true_eq_false, not_false_eq_true, r_ck hr, nI_add, pk_rem]
  refine k_ty hr hw (c := 125) (by omega) hl (by omega) (fun h F2 hr hw hl => ?_)
  replace F := F.tr F2
  clear F2
  simp (disch := (first | omega | assumption | (simp (disch := omega) only [Int32.lt_iff_toInt_lt, Int32.le_iff_toInt_le, ← Int32.toInt_inj, nI_toInt, zi_m1, zi_m2, zi_m3, zi_m9]; omega) | decide)) only [sL_types_237, sL_types_238, sL_types_239, sL_types_241, zpush_v, zpush_n, gCk, gAi, gSi, gLi, gLq, ↓if_pos, ↓if_neg, ↓reduceIte, eq_self, not_true_eq_false, not_false_eq_true, r_ck hr, nI_add, pk_rem]
  refine k_ty hr hw (c := 35) (by omega) hl (by omega) (fun h F2 hr hw hl => ?_)
  replace F := F.tr F2
  clear F2
  simp (disch := (first | omega | assumption | (simp (disch := omega) only [Int32.lt_iff_toInt_lt, Int32.le_iff_toInt_le, ← Int32.toInt_inj, nI_toInt, zi_m1, zi_m2, zi_m3, zi_m9]; omega) | decide)) only [sL_types_244, sL_types_245i, sL_types_245r, sL_types_245z, sL_types_245o, sL_types_246, sL_types_249, sL_types_250, sL_types_252, sL_types_255, sL_types_256, sL_types_258, sL_types_261, sL_types_262i, sL_types_262r, sL_types_262z, sL_types_262o, sL_types_263, sL_types_265, sL_types_266, sL_types_269, sL_types_270, sL_types_272, sL_types_274, sL_types_275, sL_types_278, sL_types_281, sL_types_282i, sL_types_282r, sL_types_282z, sL_types_282o, sL_types_283, sL_types_284, sL_types_286, sL_types_289, sL_types_290, sL_types_292, sL_types_295, sL_types_296i, sL_types_296r, sL_types_296z, sL_types_296o, zpush_v, zpush_n, gCk, gAi, gSi, gLi, gLq, ↓if_pos, ↓if_neg, ↓reduceIte, eq_self, not_true_eq_false, not_false_eq_true, nI_add]
  have ee : tp (tp (tp (tp (tp (p) (123)) (99)) (48 + x % 8)) (125)) (35) = (p.1, p.2.1, p.2.2 ++ [123, 99, 48 + x % 8, 125, 35]) := by simp [tp]
  rw [ee] at hr hw
  exact K _ _ (F.wd (by omega)) hr hw
theorem l_tyE (hr : rP h X B p) (hw : WfP p) {n how x : Nat} (hl : p.2.2.length = n) (h42 : n ≤ 60) (hx : x < 10) (hh : how = 7) (h2 : ¬ x % 2 = 0) (q pp l3 mn kk cc : Int32)
    (K : ∀ h' l3, FrK 6 X h h' → rP h' X B (p.1, p.2.1, p.2.2 ++ chT how x) → WfP (p.1, p.2.1, p.2.2 ++ chT how x) → WP 115 297 [some (.ref X), some (.int q), some (.int pp), some (.int l3), some (.int mn), some (.int kk), some (.int cc), some (.int (nI how)), some (.int (nI x))] [] h' Q) :
    WP 115 48 [some (.ref X), some (.int q), some (.int pp), some (.int l3), some (.int mn), some (.int kk), some (.int cc), some (.int (nI how)), some (.int (nI x))] [] h Q := by
  have e : chT how x = [123, 116, 48 + x % 8, 125, 35] := by
    unfold chT
    simp [hh, h2]
  rw [e] at K
  have F : FrK 0 X h h := FrK.rf
  simp (disch := (first | omega | assumption | (simp (disch := omega) only [Int32.lt_iff_toInt_lt, Int32.le_iff_toInt_le, ← Int32.toInt_inj, nI_toInt, zi_m1, zi_m2, zi_m3, zi_m9]; omega) | decide)) only [sL_types_48, sL_types_50, sL_types_51, sL_types_54, sL_types_55, sL_types_57, sL_types_59, sL_types_60, sL_types_63i, sL_types_63r, sL_types_63z, sL_types_63o, sL_types_64, sL_types_67, sL_types_69, sL_types_71, sL_types_74, sL_types_75, sL_types_77, sL_types_80, sL_types_81, sL_types_83, sL_types_86, sL_types_87, sL_types_88, sL_types_90, sL_types_92, sL_types_93, sL_types_96, sL_types_97, sL_types_98, sL_types_100, sL_types_103, sL_types_104, sL_types_105, sL_types_107, sL_types_110, sL_types_111, sL_types_112, sL_types_114, sL_types_116, sL_types_117, sL_types_120, sL_types_121i, sL_types_121r, sL_types_121z, sL_types_121o, sL_types_122, sL_types_125, sL_types_127, sL_types_129, sL_types_132, sL_types_133, sL_types_135, sL_types_138, sL_types_139, sL_types_141, sL_types_144, sL_types_145, sL_types_146, sL_types_148, sL_types_150, sL_types_152, sL_types_153, sL_types_154, sL_types_157, sL_types_158, sL_types_159, sL_types_161, sL_types_163, sL_types_164, sL_types_167, sL_types_168, sL_types_169, sL_types_171, sL_types_174, sL_types_175, sL_types_176, sL_types_178, sL_types_181, sL_types_182i, sL_types_182r, sL_types_182z, sL_types_182o, sL_types_183, sL_types_186, sL_types_188, sL_types_190, sL_types_193, sL_types_194, sL_types_196, zpush_v, zpush_n, gCk, gAi, gSi, gLi, gLq, ↓if_pos, ↓if_neg, ↓reduceIte, eq_self, not_true_eq_false, not_false_eq_true, r_ck hr, nI_add, pk_rem]
  refine k_ty hr hw (c := 123) (by omega) hl (by omega) (fun h F2 hr hw hl => ?_)
  replace F := F.tr F2
  clear F2
  simp (disch := (first | omega | assumption | (simp (disch := omega) only [Int32.lt_iff_toInt_lt, Int32.le_iff_toInt_le, ← Int32.toInt_inj, nI_toInt, zi_m1, zi_m2, zi_m3, zi_m9]; omega) | decide)) only [sL_types_199, sL_types_200, sL_types_202, sL_types_203, sL_types_204, sL_types_207, sL_types_209, sL_types_212, sL_types_214, zpush_v, zpush_n, gCk, gAi, gSi, gLi, gLq, ↓if_pos, ↓if_neg, ↓reduceIte, eq_self, not_true_eq_false, not_false_eq_true, r_ck hr, nI_add, pk_rem]
  refine k_ty hr hw (c := 116) (by omega) hl (by omega) (fun h F2 hr hw hl => ?_)
  replace F := F.tr F2
  clear F2
  simp (disch := (first | omega | assumption | (simp (disch := omega) only [Int32.lt_iff_toInt_lt, Int32.le_iff_toInt_le, ← Int32.toInt_inj, nI_toInt, zi_m1, zi_m2, zi_m3, zi_m9]; omega) | decide)) only [sL_types_217, sL_types_218, sL_types_219, sL_types_221, sL_types_223, sL_types_225, sL_types_226, sL_types_227, zpush_v, zpush_n, gCk, gAi, gSi, gLi, gLq, ↓if_pos, ↓if_neg, ↓reduceIte, eq_self, not_true_eq_false, not_false_eq_true, r_ck hr, nI_add, pk_rem]
  refine k_ty hr hw (c := 48 + x % 8) (by omega) hl (by omega) (fun h F2 hr hw hl => ?_)
  replace F := F.tr F2
  clear F2
  simp (disch := (first | omega | assumption | (simp (disch := omega) only [Int32.lt_iff_toInt_lt, Int32.le_iff_toInt_le, ← Int32.toInt_inj, nI_toInt, zi_m1, zi_m2, zi_m3, zi_m9]; omega) | decide)) only [sL_types_230, sL_types_231, sL_types_232, sL_types_234, zpush_v, zpush_n, gCk, gAi, gSi, gLi, gLq, ↓if_pos, ↓if_neg, ↓reduceIte, eq_self, not_true_eq_false, not_false_eq_true, r_ck hr, nI_add, pk_rem]
  refine k_ty hr hw (c := 125) (by omega) hl (by omega) (fun h F2 hr hw hl => ?_)
  replace F := F.tr F2
  clear F2
  simp (disch := (first | omega | assumption | (simp (disch := omega) only [Int32.lt_iff_toInt_lt, Int32.le_iff_toInt_le, ← Int32.toInt_inj, nI_toInt, zi_m1, zi_m2, zi_m3, zi_m9]; omega) | decide)) only [sL_types_237, sL_types_238, sL_types_239, sL_types_241, zpush_v, zpush_n, gCk, gAi, gSi, gLi, gLq, ↓if_pos, ↓if_neg, ↓reduceIte, eq_self, not_true_eq_false, not_false_eq_true, r_ck hr, nI_add, pk_rem]
  refine k_ty hr hw (c := 35) (by omega) hl (by omega) (fun h F2 hr hw hl => ?_)
  replace F := F.tr F2
  clear F2
  simp (disch := (first | omega | assumption | (simp (disch := omega) only [Int32.lt_iff_toInt_lt, Int32.le_iff_toInt_le, ← Int32.toInt_inj, nI_toInt, zi_m1, zi_m2, zi_m3, zi_m9]; omega) | decide)) only [sL_types_244, sL_types_245i, sL_types_245r, sL_types_245z, sL_types_245o, sL_types_246, sL_types_249, sL_types_250, sL_types_252, sL_types_255, sL_types_256, sL_types_258, sL_types_261, sL_types_262i, sL_types_262r, sL_types_262z, sL_types_262o, sL_types_263, sL_types_265, sL_types_266, sL_types_269, sL_types_270, sL_types_272, sL_types_274, sL_types_275, sL_types_278, sL_types_281, sL_types_282i, sL_types_282r, sL_types_282z, sL_types_282o, sL_types_283, sL_types_284, sL_types_286, sL_types_289, sL_types_290, sL_types_292, sL_types_295, sL_types_296i, sL_types_296r, sL_types_296z, sL_types_296o, zpush_v, zpush_n, gCk, gAi, gSi, gLi, gLq, ↓if_pos, ↓if_neg, ↓reduceIte, eq_self, not_true_eq_false, not_false_eq_true, nI_add]
  have ee : tp (tp (tp (tp (tp (p) (123)) (116)) (48 + x % 8)) (125)) (35) = (p.1, p.2.1, p.2.2 ++ [123, 116, 48 + x % 8, 125, 35]) := by simp [tp]
  rw [ee] at hr hw
  exact K _ _ (F.wd (by omega)) hr hw
theorem l_tyF (hr : rP h X B p) (hw : WfP p) {n how x : Nat} (hl : p.2.2.length = n) (h42 : n ≤ 60) (hx : x < 10) (hh : how = 8) (h2 : 4 < x) (q pp l3 mn kk cc : Int32)
    (K : ∀ h' l3, FrK 6 X h h' → rP h' X B (p.1, p.2.1, p.2.2 ++ chT how x) → WfP (p.1, p.2.1, p.2.2 ++ chT how x) → WP 115 297 [some (.ref X), some (.int q), some (.int pp), some (.int l3), some (.int mn), some (.int kk), some (.int cc), some (.int (nI how)), some (.int (nI x))] [] h' Q) :
    WP 115 48 [some (.ref X), some (.int q), some (.int pp), some (.int l3), some (.int mn), some (.int kk), some (.int cc), some (.int (nI how)), some (.int (nI x))] [] h Q := by
  have e : chT how x = [123, 114, 48 + x, 125, 33] := by
    unfold chT
    simp [hh, h2]
  rw [e] at K
  have F : FrK 0 X h h := FrK.rf
  simp (disch := (first | omega | assumption | (simp (disch := omega) only [Int32.lt_iff_toInt_lt, Int32.le_iff_toInt_le, ← Int32.toInt_inj, nI_toInt, zi_m1, zi_m2, zi_m3, zi_m9]; omega) | decide)) only [sL_types_48, sL_types_50, sL_types_51, sL_types_54, sL_types_55, sL_types_57, sL_types_59, sL_types_60, sL_types_63i, sL_types_63r, sL_types_63z, sL_types_63o, sL_types_64, sL_types_67, sL_types_69, sL_types_71, sL_types_74, sL_types_75, sL_types_77, sL_types_80, sL_types_81, sL_types_83, sL_types_86, sL_types_87, sL_types_88, sL_types_90, sL_types_92, sL_types_93, sL_types_96, sL_types_97, sL_types_98, sL_types_100, sL_types_103, sL_types_104, sL_types_105, sL_types_107, sL_types_110, sL_types_111, sL_types_112, sL_types_114, sL_types_116, sL_types_117, sL_types_120, sL_types_121i, sL_types_121r, sL_types_121z, sL_types_121o, sL_types_122, sL_types_125, sL_types_127, sL_types_129, sL_types_132, sL_types_133, sL_types_135, sL_types_138, sL_types_139, sL_types_141, sL_types_144, sL_types_145, sL_types_146, sL_types_148, sL_types_150, sL_types_152, sL_types_153, sL_types_154, sL_types_157, sL_types_158, sL_types_159, sL_types_161, sL_types_163, sL_types_164, sL_types_167, sL_types_168, sL_types_169, sL_types_171, sL_types_174, sL_types_175, sL_types_176, sL_types_178, sL_types_181, sL_types_182i, sL_types_182r, sL_types_182z, sL_types_182o, sL_types_183, sL_types_186, sL_types_188, sL_types_190, sL_types_193, sL_types_194, sL_types_196, sL_types_199, sL_types_200, sL_types_202, sL_types_203, sL_types_204, sL_types_207, sL_types_209, sL_types_212, sL_types_214, sL_types_217, sL_types_218, sL_types_219, sL_types_221, sL_types_223, sL_types_225, sL_types_226, sL_types_227, sL_types_230, sL_types_231, sL_types_232, sL_types_234, sL_types_237, sL_types_238, sL_types_239, sL_types_241, sL_types_244, sL_types_245i, sL_types_245r, sL_types_245z, sL_types_245o, sL_types_246, sL_types_249, sL_types_250, sL_types_252, zpush_v, zpush_n, gCk, gAi, gSi, gLi, gLq, ↓if_pos, ↓if_neg, ↓reduceIte, eq_self, not_true_eq_false, not_false_eq_true, r_ck hr, nI_add, pk_rem]
  refine k_ty hr hw (c := 123) (by omega) hl (by omega) (fun h F2 hr hw hl => ?_)
  replace F := F.tr F2
  clear F2
  simp (disch := (first | omega | assumption | (simp (disch := omega) only [Int32.lt_iff_toInt_lt, Int32.le_iff_toInt_le, ← Int32.toInt_inj, nI_toInt, zi_m1, zi_m2, zi_m3, zi_m9]; omega) | decide)) only [sL_types_255, sL_types_256, sL_types_258, zpush_v, zpush_n, gCk, gAi, gSi, gLi, gLq, ↓if_pos, ↓if_neg, ↓reduceIte, eq_self, not_true_eq_false, not_false_eq_true, r_ck hr, nI_add, pk_rem]
  refine k_ty hr hw (c := 114) (by omega) hl (by omega) (fun h F2 hr hw hl => ?_)
  replace F := F.tr F2
  clear F2
  simp (disch := (first | omega | assumption | (simp (disch := omega) only [Int32.lt_iff_toInt_lt, Int32.le_iff_toInt_le, ← Int32.toInt_inj, nI_toInt, zi_m1, zi_m2, zi_m3, zi_m9]; omega) | decide)) only [sL_types_261, sL_types_262i, sL_types_262r, sL_types_262z, sL_types_262o, sL_types_263, sL_types_265, sL_types_266, sL_types_269, sL_types_270, sL_types_272, sL_types_274, sL_types_275, zpush_v, zpush_n, gCk, gAi, gSi, gLi, gLq, ↓if_pos, ↓if_neg, ↓reduceIte, eq_self, not_true_eq_false, not_false_eq_true, r_ck hr, nI_add, pk_rem]
  refine k_ty hr hw (c := 48 + x) (by omega) hl (by omega) (fun h F2 hr hw hl => ?_)
  replace F := F.tr F2
  clear F2
  simp (disch := (first | omega | assumption | (simp (disch := omega) only [Int32.lt_iff_toInt_lt, Int32.le_iff_toInt_le, ← Int32.toInt_inj, nI_toInt, zi_m1, zi_m2, zi_m3, zi_m9]; omega) | decide)) only [sL_types_278, sL_types_281, sL_types_282i, sL_types_282r, sL_types_282z, sL_types_282o, sL_types_283, sL_types_284, sL_types_286, zpush_v, zpush_n, gCk, gAi, gSi, gLi, gLq, ↓if_pos, ↓if_neg, ↓reduceIte, eq_self, not_true_eq_false, not_false_eq_true, r_ck hr, nI_add, pk_rem]
  refine k_ty hr hw (c := 125) (by omega) hl (by omega) (fun h F2 hr hw hl => ?_)
  replace F := F.tr F2
  clear F2
  simp (disch := (first | omega | assumption | (simp (disch := omega) only [Int32.lt_iff_toInt_lt, Int32.le_iff_toInt_le, ← Int32.toInt_inj, nI_toInt, zi_m1, zi_m2, zi_m3, zi_m9]; omega) | decide)) only [sL_types_289, sL_types_290, sL_types_292, zpush_v, zpush_n, gCk, gAi, gSi, gLi, gLq, ↓if_pos, ↓if_neg, ↓reduceIte, eq_self, not_true_eq_false, not_false_eq_true, r_ck hr, nI_add, pk_rem]
  refine k_ty hr hw (c := 33) (by omega) hl (by omega) (fun h F2 hr hw hl => ?_)
  replace F := F.tr F2
  clear F2
  simp (disch := (first | omega | assumption | (simp (disch := omega) only [Int32.lt_iff_toInt_lt, Int32.le_iff_toInt_le, ← Int32.toInt_inj, nI_toInt, zi_m1, zi_m2, zi_m3, zi_m9]; omega) | decide)) only [sL_types_295, sL_types_296i, sL_types_296r, sL_types_296z, sL_types_296o, zpush_v, zpush_n, gCk, gAi, gSi, gLi, gLq, ↓if_pos, ↓if_neg, ↓reduceIte, eq_self, not_true_eq_false, not_false_eq_true, nI_add]
  have ee : tp (tp (tp (tp (tp (p) (123)) (114)) (48 + x)) (125)) (33) = (p.1, p.2.1, p.2.2 ++ [123, 114, 48 + x, 125, 33]) := by simp [tp]
  rw [ee] at hr hw
  exact K _ _ (F.wd (by omega)) hr hw
theorem l_tyG (hr : rP h X B p) (hw : WfP p) {n how x : Nat} (hl : p.2.2.length = n) (h42 : n ≤ 60) (hx : x < 10) (hh : how = 8) (h2 : ¬ 4 < x) (q pp l3 mn kk cc : Int32)
    (K : ∀ h' l3, FrK 6 X h h' → rP h' X B (p.1, p.2.1, p.2.2 ++ chT how x) → WfP (p.1, p.2.1, p.2.2 ++ chT how x) → WP 115 297 [some (.ref X), some (.int q), some (.int pp), some (.int l3), some (.int mn), some (.int kk), some (.int cc), some (.int (nI how)), some (.int (nI x))] [] h' Q) :
    WP 115 48 [some (.ref X), some (.int q), some (.int pp), some (.int l3), some (.int mn), some (.int kk), some (.int cc), some (.int (nI how)), some (.int (nI x))] [] h Q := by
  have e : chT how x = [123, 114, 125, 33] := by
    unfold chT
    simp [hh, h2]
  rw [e] at K
  have F : FrK 0 X h h := FrK.rf
  simp (disch := (first | omega | assumption | (simp (disch := omega) only [Int32.lt_iff_toInt_lt, Int32.le_iff_toInt_le, ← Int32.toInt_inj, nI_toInt, zi_m1, zi_m2, zi_m3, zi_m9]; omega) | decide)) only [sL_types_48, sL_types_50, sL_types_51, sL_types_54, sL_types_55, sL_types_57, sL_types_59, sL_types_60, sL_types_63i, sL_types_63r, sL_types_63z, sL_types_63o, sL_types_64, sL_types_67, sL_types_69, sL_types_71, sL_types_74, sL_types_75, sL_types_77, sL_types_80, sL_types_81, sL_types_83, sL_types_86, sL_types_87, sL_types_88, sL_types_90, sL_types_92, sL_types_93, sL_types_96, sL_types_97, sL_types_98, sL_types_100, sL_types_103, sL_types_104, sL_types_105, sL_types_107, sL_types_110, sL_types_111, sL_types_112, sL_types_114, sL_types_116, sL_types_117, sL_types_120, sL_types_121i, sL_types_121r, sL_types_121z, sL_types_121o, sL_types_122, sL_types_125, sL_types_127, sL_types_129, sL_types_132, sL_types_133, sL_types_135, sL_types_138, sL_types_139, sL_types_141, sL_types_144, sL_types_145, sL_types_146, sL_types_148, sL_types_150, sL_types_152, sL_types_153, sL_types_154, sL_types_157, sL_types_158, sL_types_159, sL_types_161, sL_types_163, sL_types_164, sL_types_167, sL_types_168, sL_types_169, sL_types_171, sL_types_174, sL_types_175, sL_types_176, sL_types_178, sL_types_181, sL_types_182i, sL_types_182r, sL_types_182z, sL_types_182o, sL_types_183, sL_types_186, sL_types_188, sL_types_190, sL_types_193, sL_types_194, sL_types_196, sL_types_199, sL_types_200, sL_types_202, sL_types_203, sL_types_204, sL_types_207, sL_types_209, sL_types_212, sL_types_214, sL_types_217, sL_types_218, sL_types_219, sL_types_221, sL_types_223, sL_types_225, sL_types_226, sL_types_227, sL_types_230, sL_types_231, sL_types_232, sL_types_234, sL_types_237, sL_types_238, sL_types_239, sL_types_241, sL_types_244, sL_types_245i, sL_types_245r, sL_types_245z, sL_types_245o, sL_types_246, sL_types_249, sL_types_250, sL_types_252, zpush_v, zpush_n, gCk, gAi, gSi, gLi, gLq, ↓if_pos, ↓if_neg, ↓reduceIte, eq_self, not_true_eq_false, not_false_eq_true, r_ck hr, nI_add, pk_rem]
  refine k_ty hr hw (c := 123) (by omega) hl (by omega) (fun h F2 hr hw hl => ?_)
  replace F := F.tr F2
  clear F2
  simp (disch := (first | omega | assumption | (simp (disch := omega) only [Int32.lt_iff_toInt_lt, Int32.le_iff_toInt_le, ← Int32.toInt_inj, nI_toInt, zi_m1, zi_m2, zi_m3, zi_m9]; omega) | decide)) only [sL_types_255, sL_types_256, sL_types_258, zpush_v, zpush_n, gCk, gAi, gSi, gLi, gLq, ↓if_pos, ↓if_neg, ↓reduceIte, eq_self, not_true_eq_false, not_false_eq_true, r_ck hr, nI_add, pk_rem]
  refine k_ty hr hw (c := 114) (by omega) hl (by omega) (fun h F2 hr hw hl => ?_)
  replace F := F.tr F2
  clear F2
  simp (disch := (first | omega | assumption | (simp (disch := omega) only [Int32.lt_iff_toInt_lt, Int32.le_iff_toInt_le, ← Int32.toInt_inj, nI_toInt, zi_m1, zi_m2, zi_m3, zi_m9]; omega) | decide)) only [sL_types_261, sL_types_262i, sL_types_262r, sL_types_262z, sL_types_262o, sL_types_263, sL_types_265, sL_types_266, sL_types_269, sL_types_270, sL_types_272, sL_types_274, sL_types_275, sL_types_278, sL_types_281, sL_types_282i, sL_types_282r, sL_types_282z, sL_types_282o, sL_types_283, sL_types_284, sL_types_286, zpush_v, zpush_n, gCk, gAi, gSi, gLi, gLq, ↓if_pos, ↓if_neg, ↓reduceIte, eq_self, not_true_eq_false, not_false_eq_true, r_ck hr, nI_add, pk_rem]
  refine k_ty hr hw (c := 125) (by omega) hl (by omega) (fun h F2 hr hw hl => ?_)
  replace F := F.tr F2
  clear F2
  simp (disch := (first | omega | assumption | (simp (disch := omega) only [Int32.lt_iff_toInt_lt, Int32.le_iff_toInt_le, ← Int32.toInt_inj, nI_toInt, zi_m1, zi_m2, zi_m3, zi_m9]; omega) | decide)) only [sL_types_289, sL_types_290, sL_types_292, zpush_v, zpush_n, gCk, gAi, gSi, gLi, gLq, ↓if_pos, ↓if_neg, ↓reduceIte, eq_self, not_true_eq_false, not_false_eq_true, r_ck hr, nI_add, pk_rem]
  refine k_ty hr hw (c := 33) (by omega) hl (by omega) (fun h F2 hr hw hl => ?_)
  replace F := F.tr F2
  clear F2
  simp (disch := (first | omega | assumption | (simp (disch := omega) only [Int32.lt_iff_toInt_lt, Int32.le_iff_toInt_le, ← Int32.toInt_inj, nI_toInt, zi_m1, zi_m2, zi_m3, zi_m9]; omega) | decide)) only [sL_types_295, sL_types_296i, sL_types_296r, sL_types_296z, sL_types_296o, zpush_v, zpush_n, gCk, gAi, gSi, gLi, gLq, ↓if_pos, ↓if_neg, ↓reduceIte, eq_self, not_true_eq_false, not_false_eq_true, nI_add]
  have ee : tp (tp (tp (tp (p) (123)) (114)) (125)) (33) = (p.1, p.2.1, p.2.2 ++ [123, 114, 125, 33]) := by simp [tp]
  rw [ee] at hr hw
  exact K _ _ (F.wd (by omega)) hr hw
theorem chT_len (how x : Nat) : (chT how x).length ≤ 6 := by
  unfold chT
  split
  · show 1 ≤ 6; omega
  · split
    · show 6 ≤ 6; omega
    · split
      · show 6 ≤ 6; omega
      · split
        · show 5 ≤ 6; omega
        · split
          · show 5 ≤ 6; omega
          · show 4 ≤ 6; omega
theorem l_tyM (q pp mn : Int32) {many : Nat} (hm : mn = nI many) (h7 : many ≤ 7) (st : Stt) (hist : List Stt) {h0 : Hp} (K : ∀ h' txt l3, FrK 42 X h0 h' → rP h' X B (st, hist, txt) → WfP (st, hist, txt) → txtOk txt → Q (some (.int l3)) h') : ∀ m k h l3 txt l6 l7 l8, m + k = many → FrK (6 * k) X h0 h → rP h X B (st, hist, txt) → WfP (st, hist, txt) → txtOk txt → txt.length ≤ 6 * k →
    WP 115 13 [some (.ref X), some (.int q), some (.int pp), some (.int l3), some (.int mn), some (.int (nI k)), l6, l7, l8] [] h Q := by
  subst hm
  intro m
  induction m with
  | zero =>
    intro k h l3 txt l6 l7 l8 hk F hr hw ht hl
    have hk : k = many := by omega
    subst hk
    rw [sL_types_13]
    simp (disch := (first | omega | assumption | (simp (disch := omega) only [Int32.lt_iff_toInt_lt, Int32.le_iff_toInt_le, ← Int32.toInt_inj, nI_toInt, zi_m1, zi_m2, zi_m3, zi_m9]; omega) | decide)) only [sL_types_15, sL_types_17, sL_types_303, sL_types_304, zpush_v, zpush_n, gCk, gAi, gSi, gLi, gLq, ↓if_pos, ↓if_neg, ↓reduceIte, eq_self, not_true_eq_false, not_false_eq_true]
    exact K _ _ _ (F.wd (by omega)) hr hw ht
  | succ m ih =>
    intro k h l3 txt l6 l7 l8 hk F hr hw ht hl
    generalize hc : pp >>> (nI (4 * k) &&& 31) = cc
    have n1 := upN_lt cc (m := 9) (by omega)
    generalize hd : upN cc 9 = how at n1
    have n2 := upN_lt (cc >>> (nI 3 &&& 31)) (m := 10) (by omega)
    generalize he : upN (cc >>> (nI 3 &&& 31)) 10 = x at n2
    have K2 : ∀ h' l3, FrK 6 X h h' → rP h' X B (st, hist, txt ++ chT how x) → WfP (st, hist, txt ++ chT how x) → WP 115 297 [some (.ref X), some (.int q), some (.int pp), some (.int l3), some (.int (nI many)), some (.int (nI k)), some (.int cc), some (.int (nI how)), some (.int (nI x))] [] h' Q := by
      intro h' l3 F2 hr hw
      have e := ih (k + 1) h' l3 (txt ++ chT how x) (some (.int cc)) (some (.int (nI how))) (some (.int (nI x))) (by omega) ((F.tr F2).wd (by omega)) hr hw (ht.more n1 n2) (by rw [List.length_append]; have := chT_len how x; omega)
      simp (disch := (first | omega | assumption | (simp (disch := omega) only [Int32.lt_iff_toInt_lt, Int32.le_iff_toInt_le, ← Int32.toInt_inj, nI_toInt, zi_m1, zi_m2, zi_m3, zi_m9]; omega) | decide)) only [sL_types_297i, sL_types_297r, sL_types_297z, sL_types_297o, sL_types_300, zpush_v, zpush_n, gCk, gAi, gSi, gLi, gLq, ↓if_pos, ↓if_neg, ↓reduceIte, eq_self, not_true_eq_false, not_false_eq_true, nI_add]
      exact e
    rw [sL_types_13]
    simp (disch := (first | omega | assumption | (simp (disch := omega) only [Int32.lt_iff_toInt_lt, Int32.le_iff_toInt_le, ← Int32.toInt_inj, nI_toInt, zi_m1, zi_m2, zi_m3, zi_m9]; omega) | decide)) only [sL_types_15, sL_types_17, sL_types_20, sL_types_21, sL_types_22, sL_types_24, sL_types_25, sL_types_26i, sL_types_26r, sL_types_26z, sL_types_26o, sL_types_28, sL_types_30, sL_types_32, sL_types_35i, sL_types_35r, sL_types_35z, sL_types_35o, sL_types_37, sL_types_39, sL_types_40, sL_types_41, sL_types_43, sL_types_46i, sL_types_46r, sL_types_46z, sL_types_46o, zpush_v, zpush_n, gCk, gAi, gSi, gLi, gLq, ↓if_pos, ↓if_neg, ↓reduceIte, eq_self, not_true_eq_false, not_false_eq_true, m_L_up, nI_mul, hc, hd, he]
    by_cases c1 : how < 3
    · exact l_tyA (p := (st, hist, txt)) hr hw rfl (by show txt.length ≤ 60; omega) n2 c1 _ _ _ _ _ _ K2
    · by_cases c2 : how < 6
      · exact l_tyB (p := (st, hist, txt)) hr hw rfl (by show txt.length ≤ 60; omega) n2 c1 c2 _ _ _ _ _ _ K2
      · by_cases c3 : how = 6
        · exact l_tyC (p := (st, hist, txt)) hr hw rfl (by show txt.length ≤ 60; omega) n2 c3 _ _ _ _ _ _ K2
        · by_cases c4 : how = 7
          · by_cases c5 : x % 2 = 0
            · exact l_tyD (p := (st, hist, txt)) hr hw rfl (by show txt.length ≤ 60; omega) n2 c4 c5 _ _ _ _ _ _ K2
            · exact l_tyE (p := (st, hist, txt)) hr hw rfl (by show txt.length ≤ 60; omega) n2 c4 c5 _ _ _ _ _ _ K2
          · by_cases c5 : 4 < x
            · exact l_tyF (p := (st, hist, txt)) hr hw rfl (by show txt.length ≤ 60; omega) n2 (by omega) c5 _ _ _ _ _ _ K2
            · exact l_tyG (p := (st, hist, txt)) hr hw rfl (by show txt.length ≤ 60; omega) n2 (by omega) c5 _ _ _ _ _ _ K2
theorem y_types (hr : rP h X B p) (hw : WfP p) (h0 : p.2.2 = []) (q pp : Int32) (K : ∀ h' txt l3, FrK 42 X h h' → rP h' X B (p.1, p.2.1, txt) → WfP (p.1, p.2.1, txt) → txtOk txt → Q (some (.int l3)) h') : WPm 115 [.ref X, .int q, .int pp] h Q := by
  have e : p = (p.1, p.2.1, []) := by rw [← h0]
  have hu := upN_lt q (m := 7) (by omega)
  rw [e] at hr hw
  have M := l_tyM (Q := Q) q pp (nI (upN q 7)) rfl (by omega) p.1 p.2.1 K (upN q 7) 0 h (nI 0) [] none none none rfl FrK.rf hr hw txtOk_0 (Nat.le_refl _)
  rw [eL_types]
  simp (disch := (first | omega | assumption | (simp (disch := omega) only [Int32.lt_iff_toInt_lt, Int32.le_iff_toInt_le, ← Int32.toInt_inj, nI_toInt, zi_m1, zi_m2, zi_m3, zi_m9]; omega) | decide)) only [sL_types_0, sL_types_1i, sL_types_1r, sL_types_1z, sL_types_1o, sL_types_2, sL_types_3, sL_types_5, sL_types_8i, sL_types_8r, sL_types_8z, sL_types_8o, sL_types_10, sL_types_11i, sL_types_11r, sL_types_11z, sL_types_11o, zpush_v, zpush_n, gCk, gAi, gSi, gLi, gLq, ↓if_pos, ↓if_neg, ↓reduceIte, eq_self, not_true_eq_false, not_false_eq_true, m_L_up]
  exact M
end LTY
