/-! the model: its reader -/
def encI (it : Nat → Int32) (its : List Itm) : Prop := ∀ j x, its[j]? = some x → it (2 * j) = jK x ∧ it (2 * j + 1) = jN x
theorem encI.add {it : Nat → Int32} {its : List Itm} {x : Itm} (h : encI it its) : encI (upd (upd it (2 * its.length) (jK x)) (2 * its.length + 1) (jN x)) (its ++ [x]) := by
  intro j y hy
  have hl := (List.getElem?_eq_some_iff.mp hy).1
  rw [List.length_append] at hl
  have hl : j < its.length + 1 := hl
  by_cases c : j = its.length
  · subst c
    rw [List.getElem?_append_right (Nat.le_refl _), Nat.sub_self] at hy
    cases hy
    exact ⟨by rw [upd_off (by omega), upd_at], upd_at⟩
  · rw [List.getElem?_append_left (by omega)] at hy
    rw [upd_off (by omega), upd_off (by omega), upd_off (by omega), upd_off (by omega)]
    exact h j y hy
/-- the place of the error, out of what the reading came to -/
def pRes (n : Nat) : Nat ⊕ PSt → Option Nat
  | .inl i => some i
  | .inr s => if s.2.2.1 = 0 then s.2.1 else some n
section MF
variable {h0 : Hp} {M : Nat} {v pa fl tx it sg lat hat nw os hgh pl asd lks : Nat → Int32} {pm ty ct wr im sm sy : Int32}
variable {txt : List Nat}
theorem m_nextT (ht : encT tx txt) (hn : txt.length ≤ 80) {i c : Nat} (hi : txt[i]? = some c) (Q : Option Value → Hp → Prop) : WPm 131 [.ref M] (mkM h0 M v pa pm fl tx (nI txt.length) (nI i) wr it im sg sm lat hat sy nw os hgh pl asd lks) Q = Q (some (.int (nI c))) (mkM h0 M v pa pm fl tx (nI txt.length) (nI i) wr it im sg sm lat hat sy nw os hgh pl asd lks) := by
  have hl := (List.getElem?_eq_some_iff.mp hi).1
  have e := ht i c hi
  rw [eX10_next]
  simp (disch := (first | omega | assumption | (simp (disch := omega) only [Int32.lt_iff_toInt_lt, Int32.le_iff_toInt_le, ← Int32.toInt_inj, nI_toInt, zi_m1, zi_m2, zi_m3, zi_m9]; omega) | decide)) only [sX10_next_0, sX10_next_1, sX10_next_4, sX10_next_5, sX10_next_8, sX10_next_11, sX10_next_12, sX10_next_15, sX10_next_16, sX10_next_19, sX10_next_20, sX10_next_23, sX10_next_24, mCk, mG0, mG1, mG2, mG3, mG4, mG5, mG6, mG7, mG8, mG9, mG10, mG11, mG12, mG13, mG14, mG15, mG16, mG17, mG18, mG19, mG20, mP2, mP5, mP6, mP7, mP9, mP11, mP14, mA1, mS1, mA2, mS2, mA3, mS3, mA4, mS4, mA5, mS5, mA6, mS6, mA7, mS7, mA8, mS8, mA9, mS9, mA10, mS10, mA11, mS11, mA12, mS12, mA13, mS13, mA14, mS14, zpush_v, zpush_n, gCk, gAi, gSi, gSz, gLi, gLq, ↓if_pos, ↓if_neg, e]
theorem m_nextF {n i : Nat} (hi : n ≤ i) (h1 : i < 1000) (Q : Option Value → Hp → Prop) : WPm 131 [.ref M] (mkM h0 M v pa pm fl tx (nI n) (nI i) wr it im sg sm lat hat sy nw os hgh pl asd lks) Q = Q (some (.int (-1))) (mkM h0 M v pa pm fl tx (nI n) (nI i) wr it im sg sm lat hat sy nw os hgh pl asd lks) := by
  rw [eX10_next]
  simp (disch := (first | omega | assumption | (simp (disch := omega) only [Int32.lt_iff_toInt_lt, Int32.le_iff_toInt_le, ← Int32.toInt_inj, nI_toInt, zi_m1, zi_m2, zi_m3, zi_m9]; omega) | decide)) only [sX10_next_0, sX10_next_1, sX10_next_4, sX10_next_5, sX10_next_8, sX10_next_11, sX10_next_12, sX10_next_15, sX10_next_16, sX10_next_19, sX10_next_20, sX10_next_23, sX10_next_24, mCk, mG0, mG1, mG2, mG3, mG4, mG5, mG6, mG7, mG8, mG9, mG10, mG11, mG12, mG13, mG14, mG15, mG16, mG17, mG18, mG19, mG20, mP2, mP5, mP6, mP7, mP9, mP11, mP14, mA1, mS1, mA2, mS2, mA3, mS3, mA4, mS4, mA5, mS5, mA6, mS6, mA7, mS7, mA8, mS8, mA9, mS9, mA10, mS10, mA11, mS11, mA12, mS12, mA13, mS13, mA14, mS14, zpush_v, zpush_n, gCk, gAi, gSi, gSz, gLi, gLq, ↓if_pos, ↓if_neg]
theorem m_reads {n : Nat} (hn : n < 80) (x y : Int32) (Q : Option Value → Hp → Prop) : WPm 132 [.ref M, .int x, .int y] (mkM h0 M v pa pm fl tx ty ct wr it (nI n) sg sm lat hat sy nw os hgh pl asd lks) Q = Q none (mkM h0 M v pa pm fl tx ty ct wr (upd (upd it (2 * n) x) (2 * n + 1) y) (nI (n + 1)) sg sm lat hat sy nw os hgh pl asd lks) := by
  rw [eX10_reads]
  simp (disch := (first | omega | assumption | (simp (disch := omega) only [Int32.lt_iff_toInt_lt, Int32.le_iff_toInt_le, ← Int32.toInt_inj, nI_toInt, zi_m1, zi_m2, zi_m3, zi_m9]; omega) | decide)) only [sX10_reads_0, sX10_reads_1, sX10_reads_4, sX10_reads_5, sX10_reads_6, sX10_reads_9, sX10_reads_10, sX10_reads_11, sX10_reads_12, sX10_reads_13, sX10_reads_16, sX10_reads_17, sX10_reads_18, sX10_reads_21, sX10_reads_22, sX10_reads_23, sX10_reads_24, sX10_reads_25, sX10_reads_26, sX10_reads_27, sX10_reads_27i, sX10_reads_28, sX10_reads_31, sX10_reads_32, sX10_reads_33, sX10_reads_36, mCk, mG0, mG1, mG2, mG3, mG4, mG5, mG6, mG7, mG8, mG9, mG10, mG11, mG12, mG13, mG14, mG15, mG16, mG17, mG18, mG19, mG20, mP2, mP5, mP6, mP7, mP9, mP11, mP14, mA1, mS1, mA2, mS2, mA3, mS3, mA4, mS4, mA5, mS5, mA6, mS6, mA7, mS7, mA8, mS8, mA9, mS9, mA10, mS10, mA11, mS11, mA12, mS12, mA13, mS13, mA14, mS14, zpush_v, zpush_n, gCk, gAi, gSi, gSz, gLi, gLq, ↓if_pos, ↓if_neg, nI_mul, nI_add]
theorem m_isRange {h : Hp} {l x : Nat} (hl : isLt l) (hx : x ≤ 9999) (Q : Option Value → Hp → Prop) : WPm 133 [.int (nI l), .int (nI x)] h Q = Q (some (.int (bI (inRg l x)))) h := by
  rw [eX10_isRange]
  rcases hl with rfl | rfl | rfl | rfl | rfl | rfl
  · by_cases c : x < 10
    · rw [bI_t (p := inRg 114 x) c]
      simp (disch := (first | omega | assumption | (simp (disch := omega) only [Int32.lt_iff_toInt_lt, Int32.le_iff_toInt_le, ← Int32.toInt_inj, nI_toInt, zi_m1, zi_m2, zi_m3, zi_m9]; omega) | decide)) only [sX10_isRange_0, sX10_isRange_1, sX10_isRange_3, sX10_isRange_6, sX10_isRange_7, sX10_isRange_8, sX10_isRange_10, sX10_isRange_13, sX10_isRange_16, sX10_isRange_17, sX10_isRange_19, sX10_isRange_22, sX10_isRange_23, sX10_isRange_25, sX10_isRange_28, sX10_isRange_29, sX10_isRange_31, sX10_isRange_34, sX10_isRange_35, sX10_isRange_38, sX10_isRange_39, sX10_isRange_42, sX10_isRange_43, sX10_isRange_45, sX10_isRange_48, sX10_isRange_49, sX10_isRange_50, sX10_isRange_53, sX10_isRange_54, sX10_isRange_57, sX10_isRange_58, sX10_isRange_61, sX10_isRange_62, sX10_isRange_64, sX10_isRange_67, sX10_isRange_68, sX10_isRange_70, sX10_isRange_73, sX10_isRange_74, sX10_isRange_77, sX10_isRange_78, zpush_v, zpush_n, gCk, gAi, gSi, gSz, gLi, gLq, ↓if_pos, ↓if_neg]
    · rw [bI_f (p := inRg 114 x) c]
      simp (disch := (first | omega | assumption | (simp (disch := omega) only [Int32.lt_iff_toInt_lt, Int32.le_iff_toInt_le, ← Int32.toInt_inj, nI_toInt, zi_m1, zi_m2, zi_m3, zi_m9]; omega) | decide)) only [sX10_isRange_0, sX10_isRange_1, sX10_isRange_3, sX10_isRange_6, sX10_isRange_7, sX10_isRange_8, sX10_isRange_10, sX10_isRange_13, sX10_isRange_16, sX10_isRange_17, sX10_isRange_19, sX10_isRange_22, sX10_isRange_23, sX10_isRange_25, sX10_isRange_28, sX10_isRange_29, sX10_isRange_31, sX10_isRange_34, sX10_isRange_35, sX10_isRange_38, sX10_isRange_39, sX10_isRange_42, sX10_isRange_43, sX10_isRange_45, sX10_isRange_48, sX10_isRange_49, sX10_isRange_50, sX10_isRange_53, sX10_isRange_54, sX10_isRange_57, sX10_isRange_58, sX10_isRange_61, sX10_isRange_62, sX10_isRange_64, sX10_isRange_67, sX10_isRange_68, sX10_isRange_70, sX10_isRange_73, sX10_isRange_74, sX10_isRange_77, sX10_isRange_78, zpush_v, zpush_n, gCk, gAi, gSi, gSz, gLi, gLq, ↓if_pos, ↓if_neg]
  · rw [bI_t (p := inRg 107 x) hx]
    simp (disch := (first | omega | assumption | (simp (disch := omega) only [Int32.lt_iff_toInt_lt, Int32.le_iff_toInt_le, ← Int32.toInt_inj, nI_toInt, zi_m1, zi_m2, zi_m3, zi_m9]; omega) | decide)) only [sX10_isRange_0, sX10_isRange_1, sX10_isRange_3, sX10_isRange_6, sX10_isRange_7, sX10_isRange_8, sX10_isRange_10, sX10_isRange_13, sX10_isRange_16, sX10_isRange_17, sX10_isRange_19, sX10_isRange_22, sX10_isRange_23, sX10_isRange_25, sX10_isRange_28, sX10_isRange_29, sX10_isRange_31, sX10_isRange_34, sX10_isRange_35, sX10_isRange_38, sX10_isRange_39, sX10_isRange_42, sX10_isRange_43, sX10_isRange_45, sX10_isRange_48, sX10_isRange_49, sX10_isRange_50, sX10_isRange_53, sX10_isRange_54, sX10_isRange_57, sX10_isRange_58, sX10_isRange_61, sX10_isRange_62, sX10_isRange_64, sX10_isRange_67, sX10_isRange_68, sX10_isRange_70, sX10_isRange_73, sX10_isRange_74, sX10_isRange_77, sX10_isRange_78, zpush_v, zpush_n, gCk, gAi, gSi, gSz, gLi, gLq, ↓if_pos, ↓if_neg]
  · have i := in_n (h := h) (k := x) (a := 1) (b := 99) (by omega) (by omega) (by omega)
    rw [show bI (inRg 115 x) = bI (1 ≤ x ∧ x ≤ 99) from rfl]
    by_cases c : 1 ≤ x ∧ x ≤ 99
    · rw [bI_t c] at i ⊢
      simp (disch := (first | omega | assumption | (simp (disch := omega) only [Int32.lt_iff_toInt_lt, Int32.le_iff_toInt_le, ← Int32.toInt_inj, nI_toInt, zi_m1, zi_m2, zi_m3, zi_m9]; omega) | decide)) only [sX10_isRange_0, sX10_isRange_1, sX10_isRange_3, sX10_isRange_6, sX10_isRange_7, sX10_isRange_8, sX10_isRange_10, sX10_isRange_13, sX10_isRange_16, sX10_isRange_17, sX10_isRange_19, sX10_isRange_22, sX10_isRange_23, sX10_isRange_25, sX10_isRange_28, sX10_isRange_29, sX10_isRange_31, sX10_isRange_34, sX10_isRange_35, sX10_isRange_38, sX10_isRange_39, sX10_isRange_42, sX10_isRange_43, sX10_isRange_45, sX10_isRange_48, sX10_isRange_49, sX10_isRange_50, sX10_isRange_53, sX10_isRange_54, sX10_isRange_57, sX10_isRange_58, sX10_isRange_61, sX10_isRange_62, sX10_isRange_64, sX10_isRange_67, sX10_isRange_68, sX10_isRange_70, sX10_isRange_73, sX10_isRange_74, sX10_isRange_77, sX10_isRange_78, zpush_v, zpush_n, gCk, gAi, gSi, gSz, gLi, gLq, ↓if_pos, ↓if_neg, i]
    · rw [bI_f c] at i ⊢
      simp (disch := (first | omega | assumption | (simp (disch := omega) only [Int32.lt_iff_toInt_lt, Int32.le_iff_toInt_le, ← Int32.toInt_inj, nI_toInt, zi_m1, zi_m2, zi_m3, zi_m9]; omega) | decide)) only [sX10_isRange_0, sX10_isRange_1, sX10_isRange_3, sX10_isRange_6, sX10_isRange_7, sX10_isRange_8, sX10_isRange_10, sX10_isRange_13, sX10_isRange_16, sX10_isRange_17, sX10_isRange_19, sX10_isRange_22, sX10_isRange_23, sX10_isRange_25, sX10_isRange_28, sX10_isRange_29, sX10_isRange_31, sX10_isRange_34, sX10_isRange_35, sX10_isRange_38, sX10_isRange_39, sX10_isRange_42, sX10_isRange_43, sX10_isRange_45, sX10_isRange_48, sX10_isRange_49, sX10_isRange_50, sX10_isRange_53, sX10_isRange_54, sX10_isRange_57, sX10_isRange_58, sX10_isRange_61, sX10_isRange_62, sX10_isRange_64, sX10_isRange_67, sX10_isRange_68, sX10_isRange_70, sX10_isRange_73, sX10_isRange_74, sX10_isRange_77, sX10_isRange_78, zpush_v, zpush_n, gCk, gAi, gSi, gSz, gLi, gLq, ↓if_pos, ↓if_neg, i]
  · rw [show bI (inRg 99 x) = bI (0 ≤ x ∧ x ≤ 7) from rfl]
    by_cases c : x ≤ 7
    · rw [bI_t (by omega)]
      simp (disch := (first | omega | assumption | (simp (disch := omega) only [Int32.lt_iff_toInt_lt, Int32.le_iff_toInt_le, ← Int32.toInt_inj, nI_toInt, zi_m1, zi_m2, zi_m3, zi_m9]; omega) | decide)) only [sX10_isRange_0, sX10_isRange_1, sX10_isRange_3, sX10_isRange_6, sX10_isRange_7, sX10_isRange_8, sX10_isRange_10, sX10_isRange_13, sX10_isRange_16, sX10_isRange_17, sX10_isRange_19, sX10_isRange_22, sX10_isRange_23, sX10_isRange_25, sX10_isRange_28, sX10_isRange_29, sX10_isRange_31, sX10_isRange_34, sX10_isRange_35, sX10_isRange_38, sX10_isRange_39, sX10_isRange_42, sX10_isRange_43, sX10_isRange_45, sX10_isRange_48, sX10_isRange_49, sX10_isRange_50, sX10_isRange_53, sX10_isRange_54, sX10_isRange_57, sX10_isRange_58, sX10_isRange_61, sX10_isRange_62, sX10_isRange_64, sX10_isRange_67, sX10_isRange_68, sX10_isRange_70, sX10_isRange_73, sX10_isRange_74, sX10_isRange_77, sX10_isRange_78, zpush_v, zpush_n, gCk, gAi, gSi, gSz, gLi, gLq, ↓if_pos, ↓if_neg]
    · rw [bI_f (by omega)]
      simp (disch := (first | omega | assumption | (simp (disch := omega) only [Int32.lt_iff_toInt_lt, Int32.le_iff_toInt_le, ← Int32.toInt_inj, nI_toInt, zi_m1, zi_m2, zi_m3, zi_m9]; omega) | decide)) only [sX10_isRange_0, sX10_isRange_1, sX10_isRange_3, sX10_isRange_6, sX10_isRange_7, sX10_isRange_8, sX10_isRange_10, sX10_isRange_13, sX10_isRange_16, sX10_isRange_17, sX10_isRange_19, sX10_isRange_22, sX10_isRange_23, sX10_isRange_25, sX10_isRange_28, sX10_isRange_29, sX10_isRange_31, sX10_isRange_34, sX10_isRange_35, sX10_isRange_38, sX10_isRange_39, sX10_isRange_42, sX10_isRange_43, sX10_isRange_45, sX10_isRange_48, sX10_isRange_49, sX10_isRange_50, sX10_isRange_53, sX10_isRange_54, sX10_isRange_57, sX10_isRange_58, sX10_isRange_61, sX10_isRange_62, sX10_isRange_64, sX10_isRange_67, sX10_isRange_68, sX10_isRange_70, sX10_isRange_73, sX10_isRange_74, sX10_isRange_77, sX10_isRange_78, zpush_v, zpush_n, gCk, gAi, gSi, gSz, gLi, gLq, ↓if_pos, ↓if_neg]
  · rw [show bI (inRg 116 x) = bI (0 ≤ x ∧ x ≤ 7) from rfl]
    by_cases c : x ≤ 7
    · rw [bI_t (by omega)]
      simp (disch := (first | omega | assumption | (simp (disch := omega) only [Int32.lt_iff_toInt_lt, Int32.le_iff_toInt_le, ← Int32.toInt_inj, nI_toInt, zi_m1, zi_m2, zi_m3, zi_m9]; omega) | decide)) only [sX10_isRange_0, sX10_isRange_1, sX10_isRange_3, sX10_isRange_6, sX10_isRange_7, sX10_isRange_8, sX10_isRange_10, sX10_isRange_13, sX10_isRange_16, sX10_isRange_17, sX10_isRange_19, sX10_isRange_22, sX10_isRange_23, sX10_isRange_25, sX10_isRange_28, sX10_isRange_29, sX10_isRange_31, sX10_isRange_34, sX10_isRange_35, sX10_isRange_38, sX10_isRange_39, sX10_isRange_42, sX10_isRange_43, sX10_isRange_45, sX10_isRange_48, sX10_isRange_49, sX10_isRange_50, sX10_isRange_53, sX10_isRange_54, sX10_isRange_57, sX10_isRange_58, sX10_isRange_61, sX10_isRange_62, sX10_isRange_64, sX10_isRange_67, sX10_isRange_68, sX10_isRange_70, sX10_isRange_73, sX10_isRange_74, sX10_isRange_77, sX10_isRange_78, zpush_v, zpush_n, gCk, gAi, gSi, gSz, gLi, gLq, ↓if_pos, ↓if_neg]
    · rw [bI_f (by omega)]
      simp (disch := (first | omega | assumption | (simp (disch := omega) only [Int32.lt_iff_toInt_lt, Int32.le_iff_toInt_le, ← Int32.toInt_inj, nI_toInt, zi_m1, zi_m2, zi_m3, zi_m9]; omega) | decide)) only [sX10_isRange_0, sX10_isRange_1, sX10_isRange_3, sX10_isRange_6, sX10_isRange_7, sX10_isRange_8, sX10_isRange_10, sX10_isRange_13, sX10_isRange_16, sX10_isRange_17, sX10_isRange_19, sX10_isRange_22, sX10_isRange_23, sX10_isRange_25, sX10_isRange_28, sX10_isRange_29, sX10_isRange_31, sX10_isRange_34, sX10_isRange_35, sX10_isRange_38, sX10_isRange_39, sX10_isRange_42, sX10_isRange_43, sX10_isRange_45, sX10_isRange_48, sX10_isRange_49, sX10_isRange_50, sX10_isRange_53, sX10_isRange_54, sX10_isRange_57, sX10_isRange_58, sX10_isRange_61, sX10_isRange_62, sX10_isRange_64, sX10_isRange_67, sX10_isRange_68, sX10_isRange_70, sX10_isRange_73, sX10_isRange_74, sX10_isRange_77, sX10_isRange_78, zpush_v, zpush_n, gCk, gAi, gSi, gSz, gLi, gLq, ↓if_pos, ↓if_neg]
  · rw [show bI (inRg 98 x) = bI (0 ≤ x ∧ x ≤ 1) from rfl]
    by_cases c : x ≤ 1
    · rw [bI_t (by omega)]
      simp (disch := (first | omega | assumption | (simp (disch := omega) only [Int32.lt_iff_toInt_lt, Int32.le_iff_toInt_le, ← Int32.toInt_inj, nI_toInt, zi_m1, zi_m2, zi_m3, zi_m9]; omega) | decide)) only [sX10_isRange_0, sX10_isRange_1, sX10_isRange_3, sX10_isRange_6, sX10_isRange_7, sX10_isRange_8, sX10_isRange_10, sX10_isRange_13, sX10_isRange_16, sX10_isRange_17, sX10_isRange_19, sX10_isRange_22, sX10_isRange_23, sX10_isRange_25, sX10_isRange_28, sX10_isRange_29, sX10_isRange_31, sX10_isRange_34, sX10_isRange_35, sX10_isRange_38, sX10_isRange_39, sX10_isRange_42, sX10_isRange_43, sX10_isRange_45, sX10_isRange_48, sX10_isRange_49, sX10_isRange_50, sX10_isRange_53, sX10_isRange_54, sX10_isRange_57, sX10_isRange_58, sX10_isRange_61, sX10_isRange_62, sX10_isRange_64, sX10_isRange_67, sX10_isRange_68, sX10_isRange_70, sX10_isRange_73, sX10_isRange_74, sX10_isRange_77, sX10_isRange_78, zpush_v, zpush_n, gCk, gAi, gSi, gSz, gLi, gLq, ↓if_pos, ↓if_neg]
    · rw [bI_f (by omega)]
      simp (disch := (first | omega | assumption | (simp (disch := omega) only [Int32.lt_iff_toInt_lt, Int32.le_iff_toInt_le, ← Int32.toInt_inj, nI_toInt, zi_m1, zi_m2, zi_m3, zi_m9]; omega) | decide)) only [sX10_isRange_0, sX10_isRange_1, sX10_isRange_3, sX10_isRange_6, sX10_isRange_7, sX10_isRange_8, sX10_isRange_10, sX10_isRange_13, sX10_isRange_16, sX10_isRange_17, sX10_isRange_19, sX10_isRange_22, sX10_isRange_23, sX10_isRange_25, sX10_isRange_28, sX10_isRange_29, sX10_isRange_31, sX10_isRange_34, sX10_isRange_35, sX10_isRange_38, sX10_isRange_39, sX10_isRange_42, sX10_isRange_43, sX10_isRange_45, sX10_isRange_48, sX10_isRange_49, sX10_isRange_50, sX10_isRange_53, sX10_isRange_54, sX10_isRange_57, sX10_isRange_58, sX10_isRange_61, sX10_isRange_62, sX10_isRange_64, sX10_isRange_67, sX10_isRange_68, sX10_isRange_70, sX10_isRange_73, sX10_isRange_74, sX10_isRange_77, sX10_isRange_78, zpush_v, zpush_n, gCk, gAi, gSi, gSz, gLi, gLq, ↓if_pos, ↓if_neg]
/-- the digits -/
theorem l_dig (ht : encT tx txt) (hn : txt.length ≤ 80) (hc : ∀ c ∈ txt, 32 ≤ c ∧ c ≤ 126) {l : Nat} (hl : isLt l) {fr : Nat} (its : List Itm) (oor : Option Nat) : ∀ (m d nu : Nat) (rest : List Nat), m + d = 4 → nu < 10 ^ d → txt.drop (fr + d) = rest → fr + d ≤ txt.length →
    ∃ d' nu', d' ≤ 4 ∧ nu' < 10 ^ d' ∧ fr + d' ≤ txt.length ∧ pGo rest (fr + d) (its, oor, l, d, nu) = pGo (txt.drop (fr + d')) (fr + d') (its, oor, l, d', nu') ∧ (d' = 4 ∨ ∀ c, txt[fr + d']? = some c → ¬ (48 ≤ c ∧ c ≤ 57)) ∧ ∀ (l4 : Option Value) (Q : Option Value → Hp → Prop),
    WP 134 60 [some (.ref M), some (.int (nI l)), some (.int (nI fr)), some (.int (nI nu)), l4] [] (mkM h0 M v pa pm fl tx (nI txt.length) (nI (fr + d)) wr it im sg sm lat hat sy nw os hgh pl asd lks) Q = WP 134 110 [some (.ref M), some (.int (nI l)), some (.int (nI fr)), some (.int (nI nu')), l4] [] (mkM h0 M v pa pm fl tx (nI txt.length) (nI (fr + d')) wr it im sg sm lat hat sy nw os hgh pl asd lks) Q := by
  intro m
  induction m with
  | zero =>
    intro d nu rest hd hnu hr hle
    have hd : d = 4 := by omega
    subst hd
    refine ⟨4, nu, by omega, hnu, hle, by rw [← hr], Or.inl rfl, fun l4 Q => ?_⟩
    rw [sX10_readsTag_60]
    simp (disch := (first | omega | assumption | (simp (disch := omega) only [Int32.lt_iff_toInt_lt, Int32.le_iff_toInt_le, ← Int32.toInt_inj, nI_toInt, zi_m1, zi_m2, zi_m3, zi_m9]; omega) | decide)) only [sX10_readsTag_61, sX10_readsTag_64, sX10_readsTag_65, sX10_readsTag_66, sX10_readsTag_67, mCk, mG0, mG1, mG2, mG3, mG4, mG5, mG6, mG7, mG8, mG9, mG10, mG11, mG12, mG13, mG14, mG15, mG16, mG17, mG18, mG19, mG20, mP2, mP5, mP6, mP7, mP9, mP11, mP14, mA1, mS1, mA2, mS2, mA3, mS3, mA4, mS4, mA5, mS5, mA6, mS6, mA7, mS7, mA8, mS8, mA9, mS9, mA10, mS10, mA11, mS11, mA12, mS12, mA13, mS13, mA14, mS14, zpush_v, zpush_n, gCk, gAi, gSi, gSz, gLi, gLq, ↓if_pos, ↓if_neg, nI_add]
  | succ m ih =>
    intro d nu rest hd hnu hr hle
    have hp := pOk.pow (d := d) (by omega)
    cases hx : txt[fr + d]? with
    | none =>
      have hlen : txt.length ≤ fr + d := by
        rcases Nat.lt_or_ge (fr + d) txt.length with z | z
        · rw [List.getElem?_eq_getElem z] at hx; cases hx
        · exact z
      refine ⟨d, nu, by omega, hnu, hle, by rw [← hr], Or.inr (fun c hcc => by rw [hx] at hcc; cases hcc), fun l4 Q => ?_⟩
      have i := in_f (h := (mkM h0 M v pa pm fl tx (nI txt.length) (nI (fr + d)) wr it im sg sm lat hat sy nw os hgh pl asd lks)) (x := -1) (lo := nI 48) (hi := nI 57) (Or.inl (by decide))
      rw [sX10_readsTag_60]
      simp (disch := (first | omega | assumption | (simp (disch := omega) only [Int32.lt_iff_toInt_lt, Int32.le_iff_toInt_le, ← Int32.toInt_inj, nI_toInt, zi_m1, zi_m2, zi_m3, zi_m9]; omega) | decide)) only [sX10_readsTag_61, sX10_readsTag_64, sX10_readsTag_65, sX10_readsTag_66, sX10_readsTag_67, sX10_readsTag_70, sX10_readsTag_71, sX10_readsTag_74, sX10_readsTag_76, sX10_readsTag_78, sX10_readsTag_81, mCk, mG0, mG1, mG2, mG3, mG4, mG5, mG6, mG7, mG8, mG9, mG10, mG11, mG12, mG13, mG14, mG15, mG16, mG17, mG18, mG19, mG20, mP2, mP5, mP6, mP7, mP9, mP11, mP14, mA1, mS1, mA2, mS2, mA3, mS3, mA4, mS4, mA5, mS5, mA6, mS6, mA7, mS7, mA8, mS8, mA9, mS9, mA10, mS10, mA11, mS11, mA12, mS12, mA13, mS13, mA14, mS14, zpush_v, zpush_n, gCk, gAi, gSi, gSz, gLi, gLq, ↓if_pos, ↓if_neg, nI_add, m_nextF hlen (by omega), i]
    | some c =>
      have hcc := hc c (List.mem_of_getElem? hx)
      have hlt := (List.getElem?_eq_some_iff.mp hx).1
      have i := in_n (h := (mkM h0 M v pa pm fl tx (nI txt.length) (nI (fr + d)) wr it im sg sm lat hat sy nw os hgh pl asd lks)) (k := c) (a := 48) (b := 57) (by omega) (by omega) (by omega)
      by_cases cd : 48 ≤ c ∧ c ≤ 57
      · rw [bI_t cd] at i
        have hdr : rest = c :: txt.drop (fr + d + 1) := by
          rw [← hr, List.drop_eq_getElem_cons hlt]
          rw [List.getElem?_eq_getElem hlt] at hx
          cases hx
          rfl
        have tk : pTake (its, oor, l, d, nu) (fr + d) c = some (its, oor, l, d + 1, nu * 10 + (c - 48)) := by
          have l0 : ¬ l = 0 := by unfold isLt at hl; omega
          have l1 : ¬ l = 1 := by unfold isLt at hl; omega
          unfold pTake
          simp only [l0, l1, if_false]
          rw [if_pos ⟨cd, by omega⟩]
        obtain ⟨d', nu', a1, a2, a3, a4, a5, a6⟩ := ih (d + 1) (nu * 10 + (c - 48)) (txt.drop (fr + d + 1)) (by omega) (by rw [Nat.pow_succ]; omega) rfl (by omega)
        refine ⟨d', nu', a1, a2, a3, ?_, a5, fun l4 Q => ?_⟩
        · rw [hdr, ← a4]
          simp only [pGo, tk]
          rfl
        · have e : nI 10 * nI nu + nI c - nI 48 = nI (nu * 10 + (c - 48)) := by
            rw [nI_mul, nI_add, nI_sub (by omega) (by omega)]
            congr 1
            omega
          rw [← a6 l4 Q, sX10_readsTag_60]
          simp (disch := (first | omega | assumption | (simp (disch := omega) only [Int32.lt_iff_toInt_lt, Int32.le_iff_toInt_le, ← Int32.toInt_inj, nI_toInt, zi_m1, zi_m2, zi_m3, zi_m9]; omega) | decide)) only [sX10_readsTag_61, sX10_readsTag_64, sX10_readsTag_65, sX10_readsTag_66, sX10_readsTag_67, sX10_readsTag_70, sX10_readsTag_71, sX10_readsTag_74, sX10_readsTag_76, sX10_readsTag_78, sX10_readsTag_81, sX10_readsTag_84, sX10_readsTag_86, sX10_readsTag_87, sX10_readsTag_88, sX10_readsTag_89, sX10_readsTag_92, sX10_readsTag_93, sX10_readsTag_95, sX10_readsTag_96i, sX10_readsTag_96r, sX10_readsTag_96z, sX10_readsTag_96o, sX10_readsTag_97, sX10_readsTag_98, sX10_readsTag_98i, sX10_readsTag_99, sX10_readsTag_102, sX10_readsTag_103, sX10_readsTag_104, sX10_readsTag_107, mCk, mG0, mG1, mG2, mG3, mG4, mG5, mG6, mG7, mG8, mG9, mG10, mG11, mG12, mG13, mG14, mG15, mG16, mG17, mG18, mG19, mG20, mP2, mP5, mP6, mP7, mP9, mP11, mP14, mA1, mS1, mA2, mS2, mA3, mS3, mA4, mS4, mA5, mS5, mA6, mS6, mA7, mS7, mA8, mS8, mA9, mS9, mA10, mS10, mA11, mS11, mA12, mS12, mA13, mS13, mA14, mS14, zpush_v, zpush_n, gCk, gAi, gSi, gSz, gLi, gLq, ↓if_pos, ↓if_neg, nI_add, m_nextT ht hn hx, i, e]
          rfl
      · rw [bI_f cd] at i
        refine ⟨d, nu, by omega, hnu, hle, by rw [← hr], Or.inr (fun c' hc' => by rw [hx] at hc'; cases hc'; exact cd), fun l4 Q => ?_⟩
        rw [sX10_readsTag_60]
        simp (disch := (first | omega | assumption | (simp (disch := omega) only [Int32.lt_iff_toInt_lt, Int32.le_iff_toInt_le, ← Int32.toInt_inj, nI_toInt, zi_m1, zi_m2, zi_m3, zi_m9]; omega) | decide)) only [sX10_readsTag_61, sX10_readsTag_64, sX10_readsTag_65, sX10_readsTag_66, sX10_readsTag_67, sX10_readsTag_70, sX10_readsTag_71, sX10_readsTag_74, sX10_readsTag_76, sX10_readsTag_78, sX10_readsTag_81, mCk, mG0, mG1, mG2, mG3, mG4, mG5, mG6, mG7, mG8, mG9, mG10, mG11, mG12, mG13, mG14, mG15, mG16, mG17, mG18, mG19, mG20, mP2, mP5, mP6, mP7, mP9, mP11, mP14, mA1, mS1, mA2, mS2, mA3, mS3, mA4, mS4, mA5, mS5, mA6, mS6, mA7, mS7, mA8, mS8, mA9, mS9, mA10, mS10, mA11, mS11, mA12, mS12, mA13, mS13, mA14, mS14, zpush_v, zpush_n, gCk, gAi, gSi, gSz, gLi, gLq, ↓if_pos, ↓if_neg, nI_add, m_nextT ht hn hx, i]
theorem drop_cons {txt : List Nat} {i c : Nat} (hx : txt[i]? = some c) : txt.drop i = c :: txt.drop (i + 1) := by
  have hlt := (List.getElem?_eq_some_iff.mp hx).1
  rw [List.drop_eq_getElem_cons hlt]
  rw [List.getElem?_eq_getElem hlt] at hx
  cases hx
  rfl
theorem m_readsTag (ht : encT tx txt) (hn : txt.length ≤ 80) (hc : ∀ c ∈ txt, 32 ≤ c ∧ c ≤ 126) {i : Nat} (hi : i ≤ txt.length) {its : List Itm} {oor : Option Nat} (hI : encI it its) (hil : its.length < i) (ho : ∀ q, oor = some q → q < 1000) :
    (∃ j wr', j ≤ 80 ∧ pRes txt.length (pGo (txt.drop i) i (its, oor, 1, 0, 0)) = some j ∧ ∀ Q : Option Value → Hp → Prop, WPm 134 [.ref M] (mkM h0 M v pa pm fl tx (nI txt.length) (nI i) (eN oor) it (nI its.length) sg sm lat hat sy nw os hgh pl asd lks) Q = Q (some (.int (nI 0))) (mkM h0 M v pa pm fl tx (nI txt.length) (nI j) wr' it (nI its.length) sg sm lat hat sy nw os hgh pl asd lks)) ∨
    (∃ i' its' oor' it', i < i' ∧ i' ≤ txt.length ∧ pGo (txt.drop i) i (its, oor, 1, 0, 0) = pGo (txt.drop i') i' (its', oor', 0, 0, 0) ∧ encI it' its' ∧ its'.length = its.length + 1 ∧ (∀ q, oor' = some q → q < 1000) ∧ ∀ Q : Option Value → Hp → Prop, WPm 134 [.ref M] (mkM h0 M v pa pm fl tx (nI txt.length) (nI i) (eN oor) it (nI its.length) sg sm lat hat sy nw os hgh pl asd lks) Q = Q (some (.int (nI 1))) (mkM h0 M v pa pm fl tx (nI txt.length) (nI i') (eN oor') it' (nI its'.length) sg sm lat hat sy nw os hgh pl asd lks)) := by
  cases hx : txt[i]? with
  | none =>
    have hlen : txt.length ≤ i := by
      rcases Nat.lt_or_ge i txt.length with z | z
      · rw [List.getElem?_eq_getElem z] at hx; cases hx
      · exact z
    refine Or.inl ⟨i, eN oor, by omega, ?_, fun Q => ?_⟩
    · rw [List.drop_eq_nil_of_le hlen]
      have : i = txt.length := by omega
      rw [this]
      rfl
    · rw [eX10_readsTag]
      simp (disch := (first | omega | assumption | (simp (disch := omega) only [Int32.lt_iff_toInt_lt, Int32.le_iff_toInt_le, ← Int32.toInt_inj, nI_toInt, zi_m1, zi_m2, zi_m3, zi_m9]; omega) | decide)) only [sX10_readsTag_0, sX10_readsTag_1, sX10_readsTag_4i, sX10_readsTag_4r, sX10_readsTag_4z, sX10_readsTag_4o, sX10_readsTag_5, sX10_readsTag_6, sX10_readsTag_8, sX10_readsTag_11, sX10_readsTag_12, sX10_readsTag_14, sX10_readsTag_17, sX10_readsTag_18, sX10_readsTag_20, sX10_readsTag_23, sX10_readsTag_24, sX10_readsTag_26, sX10_readsTag_29, sX10_readsTag_30, sX10_readsTag_32, sX10_readsTag_35, sX10_readsTag_36, sX10_readsTag_38, sX10_readsTag_41, sX10_readsTag_42, mCk, mG0, mG1, mG2, mG3, mG4, mG5, mG6, mG7, mG8, mG9, mG10, mG11, mG12, mG13, mG14, mG15, mG16, mG17, mG18, mG19, mG20, mP2, mP5, mP6, mP7, mP9, mP11, mP14, mA1, mS1, mA2, mS2, mA3, mS3, mA4, mS4, mA5, mS5, mA6, mS6, mA7, mS7, mA8, mS8, mA9, mS9, mA10, mS10, mA11, mS11, mA12, mS12, mA13, mS13, mA14, mS14, zpush_v, zpush_n, gCk, gAi, gSi, gSz, gLi, gLq, ↓if_pos, ↓if_neg, m_nextF hlen (by omega)]
  | some c =>
    have hcc := hc c (List.mem_of_getElem? hx)
    have hlt := (List.getElem?_eq_some_iff.mp hx).1
    have hdr := drop_cons hx
    by_cases hl : isLt c
    · have tk : pTake (its, oor, 1, 0, 0) i c = some (its, oor, c, 0, 0) := by
        unfold pTake
        simp only [show ¬ (1 : Nat) = 0 by omega, if_false, if_true]
        rw [if_pos hl]
      have c0 : ¬ c = 0 := by omega
      have c1 : ¬ c = 1 := by omega
      have go1 : pGo (txt.drop i) i (its, oor, 1, 0, 0) = pGo (txt.drop (i + 1)) (i + 1) (its, oor, c, 0, 0) := by
        rw [hdr]
        simp only [pGo, tk]
      obtain ⟨d, nu, a1, a2, a3, a4, a5, a6⟩ := l_dig (h0 := h0) (M := M) (v := v) (pa := pa) (pm := pm) (fl := fl) (tx := tx) (wr := eN oor) (it := it) (im := nI its.length) (sg := sg) (sm := sm) (lat := lat) (hat := hat) (sy := sy) (nw := nw) (os := os) (hgh := hgh) (pl := pl) (asd := asd) (lks := lks) ht hn hc hl (fr := i + 1) its oor 4 0 0 _ rfl (by decide) rfl (by omega)
      have hp := pOk.pow a1
      rw [Nat.add_zero] at a4 a6
      have W : ∀ Q : Option Value → Hp → Prop, WPm 134 [.ref M] (mkM h0 M v pa pm fl tx (nI txt.length) (nI i) (eN oor) it (nI its.length) sg sm lat hat sy nw os hgh pl asd lks) Q = WP 134 110 [some (.ref M), some (.int (nI c)), some (.int (nI (i + 1))), some (.int (nI nu)), none] [] (mkM h0 M v pa pm fl tx (nI txt.length) (nI (i + 1 + d)) (eN oor) it (nI its.length) sg sm lat hat sy nw os hgh pl asd lks) Q := by
        intro Q
        rw [eX10_readsTag, ← a6 none Q]
        rcases id hl with rfl | rfl | rfl | rfl | rfl | rfl
        all_goals simp (disch := (first | omega | assumption | (simp (disch := omega) only [Int32.lt_iff_toInt_lt, Int32.le_iff_toInt_le, ← Int32.toInt_inj, nI_toInt, zi_m1, zi_m2, zi_m3, zi_m9]; omega) | decide)) only [sX10_readsTag_0, sX10_readsTag_1, sX10_readsTag_4i, sX10_readsTag_4r, sX10_readsTag_4z, sX10_readsTag_4o, sX10_readsTag_5, sX10_readsTag_6, sX10_readsTag_8, sX10_readsTag_11, sX10_readsTag_12, sX10_readsTag_14, sX10_readsTag_17, sX10_readsTag_18, sX10_readsTag_20, sX10_readsTag_23, sX10_readsTag_24, sX10_readsTag_26, sX10_readsTag_29, sX10_readsTag_30, sX10_readsTag_32, sX10_readsTag_35, sX10_readsTag_36, sX10_readsTag_38, sX10_readsTag_41, sX10_readsTag_42, sX10_readsTag_43, sX10_readsTag_44, sX10_readsTag_44i, sX10_readsTag_45, sX10_readsTag_48, sX10_readsTag_49, sX10_readsTag_50, sX10_readsTag_53, sX10_readsTag_54, sX10_readsTag_57i, sX10_readsTag_57r, sX10_readsTag_57z, sX10_readsTag_57o, sX10_readsTag_58, sX10_readsTag_59i, sX10_readsTag_59r, sX10_readsTag_59z, sX10_readsTag_59o, mCk, mG0, mG1, mG2, mG3, mG4, mG5, mG6, mG7, mG8, mG9, mG10, mG11, mG12, mG13, mG14, mG15, mG16, mG17, mG18, mG19, mG20, mP2, mP5, mP6, mP7, mP9, mP11, mP14, mA1, mS1, mA2, mS2, mA3, mS3, mA4, mS4, mA5, mS5, mA6, mS6, mA7, mS7, mA8, mS8, mA9, mS9, mA10, mS10, mA11, mS11, mA12, mS12, mA13, mS13, mA14, mS14, zpush_v, zpush_n, gCk, gAi, gSi, gSz, gLi, gLq, ↓if_pos, ↓if_neg, m_nextT ht hn hx, nI_add]
      have bad : ¬ (txt[i + 1 + d]? = some 125 ∧ (0 < d ∨ c = 114)) → (∃ j wr', j ≤ 80 ∧ pRes txt.length (pGo (txt.drop i) i (its, oor, 1, 0, 0)) = some j ∧ ∀ Q : Option Value → Hp → Prop, WPm 134 [.ref M] (mkM h0 M v pa pm fl tx (nI txt.length) (nI i) (eN oor) it (nI its.length) sg sm lat hat sy nw os hgh pl asd lks) Q = Q (some (.int (nI 0))) (mkM h0 M v pa pm fl tx (nI txt.length) (nI j) wr' it (nI its.length) sg sm lat hat sy nw os hgh pl asd lks)) := by
        intro hb
        refine ⟨i + 1 + d, eN oor, by omega, ?_, fun Q => ?_⟩
        · rw [go1, a4]
          cases hy : txt[i + 1 + d]? with
          | none =>
            have hlen : txt.length ≤ i + 1 + d := by
              rcases Nat.lt_or_ge (i + 1 + d) txt.length with z | z
              · rw [List.getElem?_eq_getElem z] at hy; cases hy
              · exact z
            rw [List.drop_eq_nil_of_le hlen]
            show (if c = 0 then oor else some txt.length) = _
            rw [if_neg c0]
            congr 1
            omega
          | some e =>
            have tk2 : pTake (its, oor, c, d, nu) (i + 1 + d) e = none := by
              unfold pTake
              simp only [c0, c1, if_false]
              rw [if_neg (by
                rintro ⟨q1, q2⟩
                rcases a5 with z | z
                · omega
                · exact z e hy q1), if_neg (by
                rintro ⟨q1, q2⟩
                rw [q1] at hy
                exact hb ⟨hy, q2⟩)]
            rw [drop_cons hy]
            simp only [pGo, tk2]
            rfl
        · rw [W]
          have tail : ∀ l4, ¬ txt[i + 1 + d]? = some 125 → WP 134 136 [some (.ref M), some (.int (nI c)), some (.int (nI (i + 1))), some (.int (nI nu)), l4] [] (mkM h0 M v pa pm fl tx (nI txt.length) (nI (i + 1 + d)) (eN oor) it (nI its.length) sg sm lat hat sy nw os hgh pl asd lks) Q = Q (some (.int (nI 0))) (mkM h0 M v pa pm fl tx (nI txt.length) (nI (i + 1 + d)) (eN oor) it (nI its.length) sg sm lat hat sy nw os hgh pl asd lks) := by
            intro l4 hne
            cases hy : txt[i + 1 + d]? with
            | none =>
              have hlen : txt.length ≤ i + 1 + d := by
                rcases Nat.lt_or_ge (i + 1 + d) txt.length with z | z
                · rw [List.getElem?_eq_getElem z] at hy; cases hy
                · exact z
              simp (disch := (first | omega | assumption | (simp (disch := omega) only [Int32.lt_iff_toInt_lt, Int32.le_iff_toInt_le, ← Int32.toInt_inj, nI_toInt, zi_m1, zi_m2, zi_m3, zi_m9]; omega) | decide)) only [sX10_readsTag_136, sX10_readsTag_137, sX10_readsTag_140, sX10_readsTag_142, sX10_readsTag_145, sX10_readsTag_146, mCk, mG0, mG1, mG2, mG3, mG4, mG5, mG6, mG7, mG8, mG9, mG10, mG11, mG12, mG13, mG14, mG15, mG16, mG17, mG18, mG19, mG20, mP2, mP5, mP6, mP7, mP9, mP11, mP14, mA1, mS1, mA2, mS2, mA3, mS3, mA4, mS4, mA5, mS5, mA6, mS6, mA7, mS7, mA8, mS8, mA9, mS9, mA10, mS10, mA11, mS11, mA12, mS12, mA13, mS13, mA14, mS14, zpush_v, zpush_n, gCk, gAi, gSi, gSz, gLi, gLq, ↓if_pos, ↓if_neg, m_nextF hlen (by omega)]
            | some e =>
              have hee := hc e (List.mem_of_getElem? hy)
              have he : ¬ e = 125 := fun q => hne (by rw [hy, q])
              simp (disch := (first | omega | assumption | (simp (disch := omega) only [Int32.lt_iff_toInt_lt, Int32.le_iff_toInt_le, ← Int32.toInt_inj, nI_toInt, zi_m1, zi_m2, zi_m3, zi_m9]; omega) | decide)) only [sX10_readsTag_136, sX10_readsTag_137, sX10_readsTag_140, sX10_readsTag_142, sX10_readsTag_145, sX10_readsTag_146, mCk, mG0, mG1, mG2, mG3, mG4, mG5, mG6, mG7, mG8, mG9, mG10, mG11, mG12, mG13, mG14, mG15, mG16, mG17, mG18, mG19, mG20, mP2, mP5, mP6, mP7, mP9, mP11, mP14, mA1, mS1, mA2, mS2, mA3, mS3, mA4, mS4, mA5, mS5, mA6, mS6, mA7, mS7, mA8, mS8, mA9, mS9, mA10, mS10, mA11, mS11, mA12, mS12, mA13, mS13, mA14, mS14, zpush_v, zpush_n, gCk, gAi, gSi, gSz, gLi, gLq, ↓if_pos, ↓if_neg, m_nextT ht hn hy]
          by_cases d0 : d = 0
          · subst d0
            by_cases c114 : c = 114
            · have := tail (some (.int (nI 1))) (fun q => hb ⟨q, Or.inr c114⟩)
              simp (disch := (first | omega | assumption | (simp (disch := omega) only [Int32.lt_iff_toInt_lt, Int32.le_iff_toInt_le, ← Int32.toInt_inj, nI_toInt, zi_m1, zi_m2, zi_m3, zi_m9]; omega) | decide)) only [sX10_readsTag_110, sX10_readsTag_111, sX10_readsTag_114, sX10_readsTag_115, sX10_readsTag_118, sX10_readsTag_119, sX10_readsTag_122, sX10_readsTag_123i, sX10_readsTag_123r, sX10_readsTag_123z, sX10_readsTag_123o, sX10_readsTag_125, sX10_readsTag_127, sX10_readsTag_130, sX10_readsTag_131, sX10_readsTag_133, mCk, mG0, mG1, mG2, mG3, mG4, mG5, mG6, mG7, mG8, mG9, mG10, mG11, mG12, mG13, mG14, mG15, mG16, mG17, mG18, mG19, mG20, mP2, mP5, mP6, mP7, mP9, mP11, mP14, mA1, mS1, mA2, mS2, mA3, mS3, mA4, mS4, mA5, mS5, mA6, mS6, mA7, mS7, mA8, mS8, mA9, mS9, mA10, mS10, mA11, mS11, mA12, mS12, mA13, mS13, mA14, mS14, zpush_v, zpush_n, gCk, gAi, gSi, gSz, gLi, gLq, ↓if_pos, ↓if_neg, Nat.add_zero]
              exact this
            · simp (disch := (first | omega | assumption | (simp (disch := omega) only [Int32.lt_iff_toInt_lt, Int32.le_iff_toInt_le, ← Int32.toInt_inj, nI_toInt, zi_m1, zi_m2, zi_m3, zi_m9]; omega) | decide)) only [sX10_readsTag_110, sX10_readsTag_111, sX10_readsTag_114, sX10_readsTag_115, sX10_readsTag_118, sX10_readsTag_119, sX10_readsTag_122, sX10_readsTag_123i, sX10_readsTag_123r, sX10_readsTag_123z, sX10_readsTag_123o, sX10_readsTag_125, sX10_readsTag_127, sX10_readsTag_130, sX10_readsTag_131, sX10_readsTag_133, sX10_readsTag_136, sX10_readsTag_137, sX10_readsTag_140, sX10_readsTag_142, sX10_readsTag_145, sX10_readsTag_146, mCk, mG0, mG1, mG2, mG3, mG4, mG5, mG6, mG7, mG8, mG9, mG10, mG11, mG12, mG13, mG14, mG15, mG16, mG17, mG18, mG19, mG20, mP2, mP5, mP6, mP7, mP9, mP11, mP14, mA1, mS1, mA2, mS2, mA3, mS3, mA4, mS4, mA5, mS5, mA6, mS6, mA7, mS7, mA8, mS8, mA9, mS9, mA10, mS10, mA11, mS11, mA12, mS12, mA13, mS13, mA14, mS14, zpush_v, zpush_n, gCk, gAi, gSi, gSz, gLi, gLq, ↓if_pos, ↓if_neg, Nat.add_zero]
          · have := tail (some (.int (nI 0))) (fun q => hb ⟨q, Or.inl (by omega)⟩)
            simp (disch := (first | omega | assumption | (simp (disch := omega) only [Int32.lt_iff_toInt_lt, Int32.le_iff_toInt_le, ← Int32.toInt_inj, nI_toInt, zi_m1, zi_m2, zi_m3, zi_m9]; omega) | decide)) only [sX10_readsTag_110, sX10_readsTag_111, sX10_readsTag_114, sX10_readsTag_115, sX10_readsTag_118, sX10_readsTag_119, sX10_readsTag_122, sX10_readsTag_123i, sX10_readsTag_123r, sX10_readsTag_123z, sX10_readsTag_123o, sX10_readsTag_125, sX10_readsTag_127, sX10_readsTag_130, sX10_readsTag_131, sX10_readsTag_133, mCk, mG0, mG1, mG2, mG3, mG4, mG5, mG6, mG7, mG8, mG9, mG10, mG11, mG12, mG13, mG14, mG15, mG16, mG17, mG18, mG19, mG20, mP2, mP5, mP6, mP7, mP9, mP11, mP14, mA1, mS1, mA2, mS2, mA3, mS3, mA4, mS4, mA5, mS5, mA6, mS6, mA7, mS7, mA8, mS8, mA9, mS9, mA10, mS10, mA11, mS11, mA12, mS12, mA13, mS13, mA14, mS14, zpush_v, zpush_n, gCk, gAi, gSi, gSz, gLi, gLq, ↓if_pos, ↓if_neg]
            exact this
      by_cases hb : txt[i + 1 + d]? = some 125 ∧ (0 < d ∨ c = 114)
      · obtain ⟨hy, hdc⟩ := hb
        have hlt2 := (List.getElem?_eq_some_iff.mp hy).1
        have tk2 : pTake (its, oor, c, d, nu) (i + 1 + d) 125 = some (its ++ [.inr (c, if 0 < d then some nu else none)], (if (0 < d ∧ ¬ inRg c nu) ∧ oor = none then some (i + 1 + d - d) else oor), 0, 0, 0) := by
          unfold pTake
          simp only [c0, c1, if_false]
          rw [if_neg (by omega), if_pos ⟨trivial, hdc⟩]
        have el : (its ++ [(.inr (c, if 0 < d then some nu else none) : Itm)]).length = its.length + 1 := by rw [List.length_append]; rfl
        refine Or.inr ⟨i + 1 + d + 1, its ++ [.inr (c, if 0 < d then some nu else none)], (if (0 < d ∧ ¬ inRg c nu) ∧ oor = none then some (i + 1 + d - d) else oor), _, by omega, by omega, ?_, hI.add, el, fun q hq => ?_, fun Q => ?_⟩
        · rw [go1, a4, drop_cons hy]
          simp only [pGo, tk2]
        · split at hq
          · cases hq; omega
          · exact ho q hq
        · rw [W, el]
          have nx := fun Q => m_nextT (h0 := h0) (M := M) (v := v) (pa := pa) (pm := pm) (fl := fl) (tx := tx) (wr := eN oor) (it := it) (im := nI its.length) (sg := sg) (sm := sm) (lat := lat) (hat := hat) (sy := sy) (nw := nw) (os := os) (hgh := hgh) (pl := pl) (asd := asd) (lks := lks) ht hn hy Q
          by_cases d0 : d = 0
          · subst d0
            have c114 : c = 114 := by omega
            subst c114
            rw [Nat.add_zero] at nx
            rw [if_neg (show ¬ 0 < 0 by omega), if_neg (show ¬ ((0 < 0 ∧ ¬ inRg 114 nu) ∧ oor = none) by omega)]
            cases hor : oor with
            | none =>
              rw [hor, eN_n] at nx
              simp (disch := (first | omega | assumption | (simp (disch := omega) only [Int32.lt_iff_toInt_lt, Int32.le_iff_toInt_le, ← Int32.toInt_inj, nI_toInt, zi_m1, zi_m2, zi_m3, zi_m9]; omega) | decide)) only [sX10_readsTag_110, sX10_readsTag_111, sX10_readsTag_114, sX10_readsTag_115, sX10_readsTag_118, sX10_readsTag_119, sX10_readsTag_122, sX10_readsTag_123i, sX10_readsTag_123r, sX10_readsTag_123z, sX10_readsTag_123o, sX10_readsTag_125, sX10_readsTag_127, sX10_readsTag_130, sX10_readsTag_131, sX10_readsTag_133, sX10_readsTag_136, sX10_readsTag_137, sX10_readsTag_140, sX10_readsTag_142, sX10_readsTag_145, sX10_readsTag_146, sX10_readsTag_147, sX10_readsTag_148, sX10_readsTag_148i, sX10_readsTag_149, sX10_readsTag_152, sX10_readsTag_153, sX10_readsTag_154, sX10_readsTag_157, sX10_readsTag_158, sX10_readsTag_159, sX10_readsTag_162, sX10_readsTag_165, sX10_readsTag_167, sX10_readsTag_170, sX10_readsTag_171, sX10_readsTag_172, sX10_readsTag_175, sX10_readsTag_178, sX10_readsTag_179, sX10_readsTag_182, sX10_readsTag_183, sX10_readsTag_186, sX10_readsTag_189, sX10_readsTag_190, sX10_readsTag_191, sX10_readsTag_193, sX10_readsTag_196, sX10_readsTag_197, sX10_readsTag_200, sX10_readsTag_201, sX10_readsTag_204, sX10_readsTag_205, mCk, mG0, mG1, mG2, mG3, mG4, mG5, mG6, mG7, mG8, mG9, mG10, mG11, mG12, mG13, mG14, mG15, mG16, mG17, mG18, mG19, mG20, mP2, mP5, mP6, mP7, mP9, mP11, mP14, mA1, mS1, mA2, mS2, mA3, mS3, mA4, mS4, mA5, mS5, mA6, mS6, mA7, mS7, mA8, mS8, mA9, mS9, mA10, mS10, mA11, mS11, mA12, mS12, mA13, mS13, mA14, mS14, zpush_v, zpush_n, gCk, gAi, gSi, gSz, gLi, gLq, ↓if_pos, ↓if_neg, Nat.add_zero, nx, nI_add, m_reads (show its.length < 80 by omega), eN_n]
              rfl
            | some w =>
              have := ho w hor
              rw [hor, eN_s] at nx
              simp (disch := (first | omega | assumption | (simp (disch := omega) only [Int32.lt_iff_toInt_lt, Int32.le_iff_toInt_le, ← Int32.toInt_inj, nI_toInt, zi_m1, zi_m2, zi_m3, zi_m9]; omega) | decide)) only [sX10_readsTag_110, sX10_readsTag_111, sX10_readsTag_114, sX10_readsTag_115, sX10_readsTag_118, sX10_readsTag_119, sX10_readsTag_122, sX10_readsTag_123i, sX10_readsTag_123r, sX10_readsTag_123z, sX10_readsTag_123o, sX10_readsTag_125, sX10_readsTag_127, sX10_readsTag_130, sX10_readsTag_131, sX10_readsTag_133, sX10_readsTag_136, sX10_readsTag_137, sX10_readsTag_140, sX10_readsTag_142, sX10_readsTag_145, sX10_readsTag_146, sX10_readsTag_147, sX10_readsTag_148, sX10_readsTag_148i, sX10_readsTag_149, sX10_readsTag_152, sX10_readsTag_153, sX10_readsTag_154, sX10_readsTag_157, sX10_readsTag_158, sX10_readsTag_159, sX10_readsTag_162, sX10_readsTag_165, sX10_readsTag_167, sX10_readsTag_170, sX10_readsTag_171, sX10_readsTag_172, sX10_readsTag_175, sX10_readsTag_178, sX10_readsTag_179, sX10_readsTag_182, sX10_readsTag_183, sX10_readsTag_186, sX10_readsTag_189, sX10_readsTag_190, sX10_readsTag_191, sX10_readsTag_193, sX10_readsTag_196, sX10_readsTag_197, sX10_readsTag_200, sX10_readsTag_201, sX10_readsTag_204, sX10_readsTag_205, mCk, mG0, mG1, mG2, mG3, mG4, mG5, mG6, mG7, mG8, mG9, mG10, mG11, mG12, mG13, mG14, mG15, mG16, mG17, mG18, mG19, mG20, mP2, mP5, mP6, mP7, mP9, mP11, mP14, mA1, mS1, mA2, mS2, mA3, mS3, mA4, mS4, mA5, mS5, mA6, mS6, mA7, mS7, mA8, mS8, mA9, mS9, mA10, mS10, mA11, mS11, mA12, mS12, mA13, mS13, mA14, mS14, zpush_v, zpush_n, gCk, gAi, gSi, gSz, gLi, gLq, ↓if_pos, ↓if_neg, Nat.add_zero, nx, nI_add, m_reads (show its.length < 80 by omega), eN_s]
              rfl
          · rw [if_pos (show 0 < d by omega)]
            have ir := fun (h : Hp) Q => m_isRange (h := h) hl (show nu ≤ 9999 by omega) Q
            cases hor : oor with
            | some w =>
              have := ho w hor
              rw [hor, eN_s] at nx
              rw [if_neg (show ¬ ((0 < d ∧ ¬ inRg c nu) ∧ some w = none) by rintro ⟨-, q⟩; cases q)]
              simp (disch := (first | omega | assumption | (simp (disch := omega) only [Int32.lt_iff_toInt_lt, Int32.le_iff_toInt_le, ← Int32.toInt_inj, nI_toInt, zi_m1, zi_m2, zi_m3, zi_m9]; omega) | decide)) only [sX10_readsTag_110, sX10_readsTag_111, sX10_readsTag_114, sX10_readsTag_115, sX10_readsTag_118, sX10_readsTag_119, sX10_readsTag_122, sX10_readsTag_123i, sX10_readsTag_123r, sX10_readsTag_123z, sX10_readsTag_123o, sX10_readsTag_125, sX10_readsTag_127, sX10_readsTag_130, sX10_readsTag_131, sX10_readsTag_133, sX10_readsTag_136, sX10_readsTag_137, sX10_readsTag_140, sX10_readsTag_142, sX10_readsTag_145, sX10_readsTag_146, sX10_readsTag_147, sX10_readsTag_148, sX10_readsTag_148i, sX10_readsTag_149, sX10_readsTag_152, sX10_readsTag_153, sX10_readsTag_154, sX10_readsTag_157, sX10_readsTag_158, sX10_readsTag_159, sX10_readsTag_162, sX10_readsTag_165, sX10_readsTag_167, sX10_readsTag_170, sX10_readsTag_171, sX10_readsTag_172, sX10_readsTag_175, sX10_readsTag_178, sX10_readsTag_179, sX10_readsTag_182, sX10_readsTag_183, sX10_readsTag_186, sX10_readsTag_189, sX10_readsTag_190, sX10_readsTag_191, sX10_readsTag_193, sX10_readsTag_196, sX10_readsTag_197, sX10_readsTag_200, sX10_readsTag_201, sX10_readsTag_204, sX10_readsTag_205, mCk, mG0, mG1, mG2, mG3, mG4, mG5, mG6, mG7, mG8, mG9, mG10, mG11, mG12, mG13, mG14, mG15, mG16, mG17, mG18, mG19, mG20, mP2, mP5, mP6, mP7, mP9, mP11, mP14, mA1, mS1, mA2, mS2, mA3, mS3, mA4, mS4, mA5, mS5, mA6, mS6, mA7, mS7, mA8, mS8, mA9, mS9, mA10, mS10, mA11, mS11, mA12, mS12, mA13, mS13, mA14, mS14, zpush_v, zpush_n, gCk, gAi, gSi, gSz, gLi, gLq, ↓if_pos, ↓if_neg, nx, nI_add, m_reads (show its.length < 80 by omega), eN_s]
              rfl
            | none =>
              rw [hor, eN_n] at nx
              by_cases g : inRg c nu
              · rw [bI_t g] at ir
                rw [if_neg (fun q => q.1.2 g)]
                simp (disch := (first | omega | assumption | (simp (disch := omega) only [Int32.lt_iff_toInt_lt, Int32.le_iff_toInt_le, ← Int32.toInt_inj, nI_toInt, zi_m1, zi_m2, zi_m3, zi_m9]; omega) | decide)) only [sX10_readsTag_110, sX10_readsTag_111, sX10_readsTag_114, sX10_readsTag_115, sX10_readsTag_118, sX10_readsTag_119, sX10_readsTag_122, sX10_readsTag_123i, sX10_readsTag_123r, sX10_readsTag_123z, sX10_readsTag_123o, sX10_readsTag_125, sX10_readsTag_127, sX10_readsTag_130, sX10_readsTag_131, sX10_readsTag_133, sX10_readsTag_136, sX10_readsTag_137, sX10_readsTag_140, sX10_readsTag_142, sX10_readsTag_145, sX10_readsTag_146, sX10_readsTag_147, sX10_readsTag_148, sX10_readsTag_148i, sX10_readsTag_149, sX10_readsTag_152, sX10_readsTag_153, sX10_readsTag_154, sX10_readsTag_157, sX10_readsTag_158, sX10_readsTag_159, sX10_readsTag_162, sX10_readsTag_165, sX10_readsTag_167, sX10_readsTag_170, sX10_readsTag_171, sX10_readsTag_172, sX10_readsTag_175, sX10_readsTag_178, sX10_readsTag_179, sX10_readsTag_182, sX10_readsTag_183, sX10_readsTag_186, sX10_readsTag_189, sX10_readsTag_190, sX10_readsTag_191, sX10_readsTag_193, sX10_readsTag_196, sX10_readsTag_197, sX10_readsTag_200, sX10_readsTag_201, sX10_readsTag_204, sX10_readsTag_205, mCk, mG0, mG1, mG2, mG3, mG4, mG5, mG6, mG7, mG8, mG9, mG10, mG11, mG12, mG13, mG14, mG15, mG16, mG17, mG18, mG19, mG20, mP2, mP5, mP6, mP7, mP9, mP11, mP14, mA1, mS1, mA2, mS2, mA3, mS3, mA4, mS4, mA5, mS5, mA6, mS6, mA7, mS7, mA8, mS8, mA9, mS9, mA10, mS10, mA11, mS11, mA12, mS12, mA13, mS13, mA14, mS14, zpush_v, zpush_n, gCk, gAi, gSi, gSz, gLi, gLq, ↓if_pos, ↓if_neg, nx, ir, nI_add, m_reads (show its.length < 80 by omega), eN_n]
                rfl
              · rw [bI_f g] at ir
                rw [if_pos ⟨⟨by omega, g⟩, rfl⟩, Nat.add_sub_cancel]
                simp (disch := (first | omega | assumption | (simp (disch := omega) only [Int32.lt_iff_toInt_lt, Int32.le_iff_toInt_le, ← Int32.toInt_inj, nI_toInt, zi_m1, zi_m2, zi_m3, zi_m9]; omega) | decide)) only [sX10_readsTag_110, sX10_readsTag_111, sX10_readsTag_114, sX10_readsTag_115, sX10_readsTag_118, sX10_readsTag_119, sX10_readsTag_122, sX10_readsTag_123i, sX10_readsTag_123r, sX10_readsTag_123z, sX10_readsTag_123o, sX10_readsTag_125, sX10_readsTag_127, sX10_readsTag_130, sX10_readsTag_131, sX10_readsTag_133, sX10_readsTag_136, sX10_readsTag_137, sX10_readsTag_140, sX10_readsTag_142, sX10_readsTag_145, sX10_readsTag_146, sX10_readsTag_147, sX10_readsTag_148, sX10_readsTag_148i, sX10_readsTag_149, sX10_readsTag_152, sX10_readsTag_153, sX10_readsTag_154, sX10_readsTag_157, sX10_readsTag_158, sX10_readsTag_159, sX10_readsTag_162, sX10_readsTag_165, sX10_readsTag_167, sX10_readsTag_170, sX10_readsTag_171, sX10_readsTag_172, sX10_readsTag_175, sX10_readsTag_178, sX10_readsTag_179, sX10_readsTag_182, sX10_readsTag_183, sX10_readsTag_186, sX10_readsTag_189, sX10_readsTag_190, sX10_readsTag_191, sX10_readsTag_193, sX10_readsTag_196, sX10_readsTag_197, sX10_readsTag_200, sX10_readsTag_201, sX10_readsTag_204, sX10_readsTag_205, mCk, mG0, mG1, mG2, mG3, mG4, mG5, mG6, mG7, mG8, mG9, mG10, mG11, mG12, mG13, mG14, mG15, mG16, mG17, mG18, mG19, mG20, mP2, mP5, mP6, mP7, mP9, mP11, mP14, mA1, mS1, mA2, mS2, mA3, mS3, mA4, mS4, mA5, mS5, mA6, mS6, mA7, mS7, mA8, mS8, mA9, mS9, mA10, mS10, mA11, mS11, mA12, mS12, mA13, mS13, mA14, mS14, zpush_v, zpush_n, gCk, gAi, gSi, gSz, gLi, gLq, ↓if_pos, ↓if_neg, nx, ir, nI_add, m_reads (show its.length < 80 by omega), eN_n]
                rfl
      · exact Or.inl (bad hb)
    · have tk : pTake (its, oor, 1, 0, 0) i c = none := by
        unfold pTake
        simp only [show ¬ (1 : Nat) = 0 by omega, if_false, if_true]
        rw [if_neg hl]
      refine Or.inl ⟨i, eN oor, by omega, ?_, fun Q => ?_⟩
      · rw [hdr]
        simp only [pGo, tk]
        rfl
      · unfold isLt at hl
        rw [eX10_readsTag]
        simp (disch := (first | omega | assumption | (simp (disch := omega) only [Int32.lt_iff_toInt_lt, Int32.le_iff_toInt_le, ← Int32.toInt_inj, nI_toInt, zi_m1, zi_m2, zi_m3, zi_m9]; omega) | decide)) only [sX10_readsTag_0, sX10_readsTag_1, sX10_readsTag_4i, sX10_readsTag_4r, sX10_readsTag_4z, sX10_readsTag_4o, sX10_readsTag_5, sX10_readsTag_6, sX10_readsTag_8, sX10_readsTag_11, sX10_readsTag_12, sX10_readsTag_14, sX10_readsTag_17, sX10_readsTag_18, sX10_readsTag_20, sX10_readsTag_23, sX10_readsTag_24, sX10_readsTag_26, sX10_readsTag_29, sX10_readsTag_30, sX10_readsTag_32, sX10_readsTag_35, sX10_readsTag_36, sX10_readsTag_38, sX10_readsTag_41, sX10_readsTag_42, mCk, mG0, mG1, mG2, mG3, mG4, mG5, mG6, mG7, mG8, mG9, mG10, mG11, mG12, mG13, mG14, mG15, mG16, mG17, mG18, mG19, mG20, mP2, mP5, mP6, mP7, mP9, mP11, mP14, mA1, mS1, mA2, mS2, mA3, mS3, mA4, mS4, mA5, mS5, mA6, mS6, mA7, mS7, mA8, mS8, mA9, mS9, mA10, mS10, mA11, mS11, mA12, mS12, mA13, mS13, mA14, mS14, zpush_v, zpush_n, gCk, gAi, gSi, gSz, gLi, gLq, ↓if_pos, ↓if_neg, m_nextT ht hn hx]
theorem l_wrongAt (ht : encT tx txt) (hn : txt.length ≤ 80) (hc : ∀ c ∈ txt, 32 ≤ c ∧ c ≤ 126) : ∀ (m i : Nat) (its : List Itm) (oor : Option Nat) (it : Nat → Int32), m + i = txt.length → encI it its → its.length ≤ i → (∀ q, oor = some q → q < 1000) →
    ∃ ct' wr' it' im', (pRes txt.length (pGo (txt.drop i) i (its, oor, 0, 0, 0)) = none → im' = nI (match pGo (txt.drop i) i (its, oor, 0, 0, 0) with | .inl _ => [] | .inr s => s.1).length ∧ encI it' (match pGo (txt.drop i) i (its, oor, 0, 0, 0) with | .inl _ => [] | .inr s => s.1)) ∧ ∀ (l1 : Option Value) (Q : Option Value → Hp → Prop),
      WP 135 15 [some (.ref M), l1] [] (mkM h0 M v pa pm fl tx (nI txt.length) (nI i) (eN oor) it (nI its.length) sg sm lat hat sy nw os hgh pl asd lks) Q = Q (some (.int (eN (pRes txt.length (pGo (txt.drop i) i (its, oor, 0, 0, 0)))))) (mkM h0 M v pa pm fl tx (nI txt.length) ct' wr' it' im' sg sm lat hat sy nw os hgh pl asd lks) := by
  intro m
  induction m using Nat.strongRecOn with
  | _ m ih =>
    intro i its oor it hm hI hil ho
    cases hx : txt[i]? with
    | none =>
      have hlen : txt.length ≤ i := by
        rcases Nat.lt_or_ge i txt.length with z | z
        · rw [List.getElem?_eq_getElem z] at hx; cases hx
        · exact z
      rw [List.drop_eq_nil_of_le hlen]
      refine ⟨nI i, eN oor, it, nI its.length, fun _ => ⟨rfl, hI⟩, fun l1 Q => ?_⟩
      rw [sX10_wrongAt_15]
      simp (disch := (first | omega | assumption | (simp (disch := omega) only [Int32.lt_iff_toInt_lt, Int32.le_iff_toInt_le, ← Int32.toInt_inj, nI_toInt, zi_m1, zi_m2, zi_m3, zi_m9]; omega) | decide)) only [sX10_wrongAt_16, sX10_wrongAt_19, sX10_wrongAt_20, sX10_wrongAt_23, sX10_wrongAt_72, sX10_wrongAt_73, sX10_wrongAt_76, mCk, mG0, mG1, mG2, mG3, mG4, mG5, mG6, mG7, mG8, mG9, mG10, mG11, mG12, mG13, mG14, mG15, mG16, mG17, mG18, mG19, mG20, mP2, mP5, mP6, mP7, mP9, mP11, mP14, mA1, mS1, mA2, mS2, mA3, mS3, mA4, mS4, mA5, mS5, mA6, mS6, mA7, mS7, mA8, mS8, mA9, mS9, mA10, mS10, mA11, mS11, mA12, mS12, mA13, mS13, mA14, mS14, zpush_v, zpush_n, gCk, gAi, gSi, gSz, gLi, gLq, ↓if_pos, ↓if_neg]
      rfl
    | some c =>
      have hcc := hc c (List.mem_of_getElem? hx)
      have hlt := (List.getElem?_eq_some_iff.mp hx).1
      have nx := fun Q => m_nextT (h0 := h0) (M := M) (v := v) (pa := pa) (pm := pm) (fl := fl) (tx := tx) (wr := eN oor) (it := it) (im := nI its.length) (sg := sg) (sm := sm) (lat := lat) (hat := hat) (sy := sy) (nw := nw) (os := os) (hgh := hgh) (pl := pl) (asd := asd) (lks := lks) ht hn hx Q
      rw [drop_cons hx]
      by_cases cb : c = 123
      · subst cb
        have tk : pGo (123 :: txt.drop (i + 1)) i (its, oor, 0, 0, 0) = pGo (txt.drop (i + 1)) (i + 1) (its, oor, 1, 0, 0) := by
          simp only [pGo, pTake, if_true]
        rw [tk]
        rcases m_readsTag (h0 := h0) (M := M) (v := v) (pa := pa) (pm := pm) (fl := fl) (tx := tx) (it := it) (sg := sg) (sm := sm) (lat := lat) (hat := hat) (sy := sy) (nw := nw) (os := os) (hgh := hgh) (pl := pl) (asd := asd) (lks := lks) ht hn hc (i := i + 1) (by omega) hI (by omega) ho with ⟨j, wr', j80, q1, q2⟩ | ⟨i', its', oor', it', q1, q2, q3, q4, q5, q6, q7⟩
        · rw [q1]
          refine ⟨nI j, wr', it, nI its.length, fun q => (by cases q), fun l1 Q => ?_⟩
          rw [sX10_wrongAt_15]
          simp (disch := (first | omega | assumption | (simp (disch := omega) only [Int32.lt_iff_toInt_lt, Int32.le_iff_toInt_le, ← Int32.toInt_inj, nI_toInt, zi_m1, zi_m2, zi_m3, zi_m9]; omega) | decide)) only [sX10_wrongAt_16, sX10_wrongAt_19, sX10_wrongAt_20, sX10_wrongAt_23, sX10_wrongAt_26, sX10_wrongAt_27, sX10_wrongAt_30i, sX10_wrongAt_30r, sX10_wrongAt_30z, sX10_wrongAt_30o, sX10_wrongAt_31, sX10_wrongAt_32, sX10_wrongAt_32i, sX10_wrongAt_33, sX10_wrongAt_36, sX10_wrongAt_37, sX10_wrongAt_38, sX10_wrongAt_41, sX10_wrongAt_42, sX10_wrongAt_44, sX10_wrongAt_47, sX10_wrongAt_48, sX10_wrongAt_49, sX10_wrongAt_51, sX10_wrongAt_54, sX10_wrongAt_57, sX10_wrongAt_58, sX10_wrongAt_61, sX10_wrongAt_64, sX10_wrongAt_65, sX10_wrongAt_68, mCk, mG0, mG1, mG2, mG3, mG4, mG5, mG6, mG7, mG8, mG9, mG10, mG11, mG12, mG13, mG14, mG15, mG16, mG17, mG18, mG19, mG20, mP2, mP5, mP6, mP7, mP9, mP11, mP14, mA1, mS1, mA2, mS2, mA3, mS3, mA4, mS4, mA5, mS5, mA6, mS6, mA7, mS7, mA8, mS8, mA9, mS9, mA10, mS10, mA11, mS11, mA12, mS12, mA13, mS13, mA14, mS14, zpush_v, zpush_n, gCk, gAi, gSi, gSz, gLi, gLq, ↓if_pos, ↓if_neg, nx, nI_add, q2]
          rfl
        · obtain ⟨ct', wr2, it2, im2, r1, r2⟩ := ih (txt.length - i') (by omega) i' its' oor' it' (by omega) q4 (by omega) q6
          rw [← q3] at r1 r2
          refine ⟨ct', wr2, it2, im2, r1, fun l1 Q => ?_⟩
          rw [← r2 (some (.int (nI 123))) Q, sX10_wrongAt_15]
          simp (disch := (first | omega | assumption | (simp (disch := omega) only [Int32.lt_iff_toInt_lt, Int32.le_iff_toInt_le, ← Int32.toInt_inj, nI_toInt, zi_m1, zi_m2, zi_m3, zi_m9]; omega) | decide)) only [sX10_wrongAt_16, sX10_wrongAt_19, sX10_wrongAt_20, sX10_wrongAt_23, sX10_wrongAt_26, sX10_wrongAt_27, sX10_wrongAt_30i, sX10_wrongAt_30r, sX10_wrongAt_30z, sX10_wrongAt_30o, sX10_wrongAt_31, sX10_wrongAt_32, sX10_wrongAt_32i, sX10_wrongAt_33, sX10_wrongAt_36, sX10_wrongAt_37, sX10_wrongAt_38, sX10_wrongAt_41, sX10_wrongAt_42, sX10_wrongAt_44, sX10_wrongAt_47, sX10_wrongAt_48, sX10_wrongAt_49, sX10_wrongAt_51, sX10_wrongAt_54, sX10_wrongAt_57, sX10_wrongAt_58, sX10_wrongAt_61, sX10_wrongAt_64, sX10_wrongAt_65, sX10_wrongAt_68, sX10_wrongAt_69, mCk, mG0, mG1, mG2, mG3, mG4, mG5, mG6, mG7, mG8, mG9, mG10, mG11, mG12, mG13, mG14, mG15, mG16, mG17, mG18, mG19, mG20, mP2, mP5, mP6, mP7, mP9, mP11, mP14, mA1, mS1, mA2, mS2, mA3, mS3, mA4, mS4, mA5, mS5, mA6, mS6, mA7, mS7, mA8, mS8, mA9, mS9, mA10, mS10, mA11, mS11, mA12, mS12, mA13, mS13, mA14, mS14, zpush_v, zpush_n, gCk, gAi, gSi, gSz, gLi, gLq, ↓if_pos, ↓if_neg, nx, nI_add, q7]
      · have tk : pGo (c :: txt.drop (i + 1)) i (its, oor, 0, 0, 0) = pGo (txt.drop (i + 1)) (i + 1) (its ++ [.inl c], oor, 0, 0, 0) := by
          simp only [pGo, pTake, if_true, cb, if_false]
        have el : (its ++ [(.inl c : Itm)]).length = its.length + 1 := by rw [List.length_append]; rfl
        obtain ⟨ct', wr2, it2, im2, r1, r2⟩ := ih (txt.length - (i + 1)) (by omega) (i + 1) (its ++ [.inl c]) oor _ (by omega) (hI.add (x := .inl c)) (by omega) ho
        rw [← tk] at r1 r2
        refine ⟨ct', wr2, it2, im2, r1, fun l1 Q => ?_⟩
        rw [← r2 (some (.int (nI c))) Q, el, sX10_wrongAt_15]
        simp (disch := (first | omega | assumption | (simp (disch := omega) only [Int32.lt_iff_toInt_lt, Int32.le_iff_toInt_le, ← Int32.toInt_inj, nI_toInt, zi_m1, zi_m2, zi_m3, zi_m9]; omega) | decide)) only [sX10_wrongAt_16, sX10_wrongAt_19, sX10_wrongAt_20, sX10_wrongAt_23, sX10_wrongAt_26, sX10_wrongAt_27, sX10_wrongAt_30i, sX10_wrongAt_30r, sX10_wrongAt_30z, sX10_wrongAt_30o, sX10_wrongAt_31, sX10_wrongAt_32, sX10_wrongAt_32i, sX10_wrongAt_33, sX10_wrongAt_36, sX10_wrongAt_37, sX10_wrongAt_38, sX10_wrongAt_41, sX10_wrongAt_42, sX10_wrongAt_44, sX10_wrongAt_47, sX10_wrongAt_48, sX10_wrongAt_49, sX10_wrongAt_51, sX10_wrongAt_54, sX10_wrongAt_69, mCk, mG0, mG1, mG2, mG3, mG4, mG5, mG6, mG7, mG8, mG9, mG10, mG11, mG12, mG13, mG14, mG15, mG16, mG17, mG18, mG19, mG20, mP2, mP5, mP6, mP7, mP9, mP11, mP14, mA1, mS1, mA2, mS2, mA3, mS3, mA4, mS4, mA5, mS5, mA6, mS6, mA7, mS7, mA8, mS8, mA9, mS9, mA10, mS10, mA11, mS11, mA12, mS12, mA13, mS13, mA14, mS14, zpush_v, zpush_n, gCk, gAi, gSi, gSz, gLi, gLq, ↓if_pos, ↓if_neg, nx, nI_add, m_reads (show its.length < 80 by omega)]
        rfl
theorem m_wrongAt (ht : encT tx txt) (hn : txt.length ≤ 80) (hc : ∀ c ∈ txt, 32 ≤ c ∧ c ≤ 126) :
    ∃ ct' wr' it' im', (pErr txt = none → im' = nI (pIts txt).length ∧ encI it' (pIts txt)) ∧ ∀ Q : Option Value → Hp → Prop, WPm 135 [.ref M] (mkM h0 M v pa pm fl tx (nI txt.length) ct wr it im sg sm lat hat sy nw os hgh pl asd lks) Q = Q (some (.int (eN (pErr txt)))) (mkM h0 M v pa pm fl tx (nI txt.length) ct' wr' it' im' sg sm lat hat sy nw os hgh pl asd lks) := by
  obtain ⟨ct', wr', it', im', r1, r2⟩ := l_wrongAt (h0 := h0) (M := M) (v := v) (pa := pa) (pm := pm) (fl := fl) (tx := tx) (sg := sg) (sm := sm) (lat := lat) (hat := hat) (sy := sy) (nw := nw) (os := os) (hgh := hgh) (pl := pl) (asd := asd) (lks := lks) ht hn hc txt.length 0 [] none it rfl (fun j x hx => by cases hx) (Nat.le_refl _) (fun q hq => by cases hq)
  refine ⟨ct', wr', it', im', r1, fun Q => ?_⟩
  have r2 := r2 none Q
  rw [eX10_wrongAt]
  simp (disch := (first | omega | assumption | (simp (disch := omega) only [Int32.lt_iff_toInt_lt, Int32.le_iff_toInt_le, ← Int32.toInt_inj, nI_toInt, zi_m1, zi_m2, zi_m3, zi_m9]; omega) | decide)) only [sX10_wrongAt_0, sX10_wrongAt_1, sX10_wrongAt_2, sX10_wrongAt_5, sX10_wrongAt_6, sX10_wrongAt_7, sX10_wrongAt_10, sX10_wrongAt_11, sX10_wrongAt_12, mCk, mG0, mG1, mG2, mG3, mG4, mG5, mG6, mG7, mG8, mG9, mG10, mG11, mG12, mG13, mG14, mG15, mG16, mG17, mG18, mG19, mG20, mP2, mP5, mP6, mP7, mP9, mP11, mP14, mA1, mS1, mA2, mS2, mA3, mS3, mA4, mS4, mA5, mS5, mA6, mS6, mA7, mS7, mA8, mS8, mA9, mS9, mA10, mS10, mA11, mS11, mA12, mS12, mA13, mS13, mA14, mS14, zpush_v, zpush_n, gCk, gAi, gSi, gSz, gLi, gLq, ↓if_pos, ↓if_neg]
  exact r2
end MF
