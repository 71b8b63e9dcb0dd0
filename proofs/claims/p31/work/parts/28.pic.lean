/-! Look: blocks, isAheadOf; Picture -/
theorem hgL_le {S : Sh} {ln : Ln} (hw : WfS S) (hok : WfL ln) : hgL S ln ≤ 200 := by
  unfold hgL
  split
  · exact valS_le hw (by omega) _
  · exact hgS_le (fun x hx => ((rdL_ok hw hok).2.2.2.1 x hx).1 0 (by omega))
theorem mrg_le {S : Sh} {ln : Ln} (hw : WfS S) (hok : WfL ln) : mrg S ln ≤ 200 := by
  unfold mrg
  split
  · rename_i v hv
    exact hok.2.2.2.1 v hv
  · exact valS_le hw (by omega) _
def ln0 : Ln := (0, 1, none, none, [])
theorem WfL_0 : WfL ln0 := by
  refine ⟨Nat.zero_lt_one, by decide, ?_, ?_, by decide, ?_, by decide⟩
  · intro v h; cases h
  · intro v h; cases h
  · intro x h; cases h
def lnA (L : List Ln) (i : Nat) : Ln := L.getD i ln0
def WfLs (L : List Ln) : Prop := L.length ≤ 16 ∧ ∀ x ∈ L, WfL x
theorem lnA_wf {L : List Ln} (h : WfLs L) (i : Nat) : WfL (lnA L i) := by
  unfold lnA
  by_cases c : i < L.length
  · rw [List.getD_eq_getElem?_getD, List.getElem?_eq_getElem c]
    exact h.2 _ (List.getElem_mem c)
  · rw [List.getD_eq_getElem?_getD, List.getElem?_eq_none (by omega)]
    exact WfL_0
theorem lnA_at {L : List Ln} {i : Nat} {x : Ln} (h : L[i]? = some x) : lnA L i = x := by
  unfold lnA
  rw [List.getD_eq_getElem?_getD, h]
  rfl
theorem lnA_get {L : List Ln} {i : Nat} (h : i < L.length) : L[i]? = some (lnA L i) := by
  unfold lnA
  rw [List.getD_eq_getElem?_getD, List.getElem?_eq_getElem h]
  rfl
def pdL (S : Sh) (L : List Ln) : PD := (L.length, (fun i => (lnA L i).1), (fun i => (lnA L i).2.1), (fun i => valS S 4 (lnA L i).2.2.1), (fun i => hgL S (lnA L i)), (fun i => mrg S (lnA L i)))
section PI
variable {h : Hp} {k k2 P n : Nat} {S : Sh} {L : List Ln} {a b : Nat} {o o2 : Int32} {ln ln2 : Ln}
theorem m_X2_blocks {off : Nat → Nat} {i j : Nat} (hf : fLook h k S (lnA L j) (nI (off j))) (hf2 : fLook h k2 S (lnA L i) o2) (hw : WfS S) (hL : WfLs L) {p : Nat} (hp : p ≤ 10000) (ho : off j ≤ 10000) (Q : Option Value → Hp → Prop) : WPm 23 [.ref k, .ref k2, .int (nI p)] h Q = Q (some (.int (bI (pHit (pdL S L) off j i p)))) h := by
  have c := hf.cell.1
  have c2 := hf2.cell.1
  have l1 := valS_le hw (show 4 < 6 by omega) (lnA L j).2.2.1
  have l2 := valS_le hw (show 4 < 6 by omega) (lnA L i).2.2.1
  have l3 := hgL_le hw (lnA_wf hL j)
  have l4 := hgL_le hw (lnA_wf hL i)
  have l5 := (lnA_wf hL j).1
  have l6 := (lnA_wf hL j).2.1
  have l7 := (lnA_wf hL i).1
  have l8 := (lnA_wf hL i).2.1
  rw [eX2_blocks]
  by_cases c1 : valS S 4 (lnA L j).2.2.1 = valS S 4 (lnA L i).2.2.1
  · by_cases d2 : (lnA L i).1 < (lnA L j).2.1
    · by_cases d3 : p < off j + hgL S (lnA L j)
      · by_cases d4 : off j < p + hgL S (lnA L i)
        · have e : bI (pHit (pdL S L) off j i p) = nI 1 := if_pos ⟨c1, d2, d3, d4⟩
          rw [e]
          simp (disch := (first | omega | assumption | (simp (disch := omega) only [Int32.lt_iff_toInt_lt, Int32.le_iff_toInt_le, ← Int32.toInt_inj, nI_toInt, zi_m1, zi_m2, zi_m3, zi_m9]; omega) | decide)) only [sX2_blocks_0, sX2_blocks_1, sX2_blocks_4, sX2_blocks_4n, sX2_blocks_5, sX2_blocks_8, sX2_blocks_11, sX2_blocks_11n, sX2_blocks_12, sX2_blocks_15, sX2_blocks_16, sX2_blocks_19, sX2_blocks_22, sX2_blocks_23, sX2_blocks_24, sX2_blocks_27, sX2_blocks_28, sX2_blocks_31, sX2_blocks_32, sX2_blocks_35, sX2_blocks_36, sX2_blocks_39, sX2_blocks_40, sX2_blocks_40n, sX2_blocks_41, sX2_blocks_44, sX2_blocks_45, sX2_blocks_48, sX2_blocks_49, sX2_blocks_52, sX2_blocks_53, gG2_0, gG2_1, gG2_2, gG2_3, gG2_4, gG2_5, gG2_6, gG2_7, gG2_8, gG2_9, gG2_10, gG2_11, gP2_0, gP2_1, gP2_2, gP2_3, gP2_4, gP2_5, gP2_6, gP2_7, gP2_8, gP2_9, gP2_10, gP2_11, zpush_v, zpush_n, gCk, gAi, gSi, gLi, gLq, ↓if_pos, ↓if_neg, c, c2, nI_add, ↓if_neg]
        · have e : bI (pHit (pdL S L) off j i p) = nI 0 := if_neg (fun z => d4 z.2.2.2)
          rw [e]
          simp (disch := (first | omega | assumption | (simp (disch := omega) only [Int32.lt_iff_toInt_lt, Int32.le_iff_toInt_le, ← Int32.toInt_inj, nI_toInt, zi_m1, zi_m2, zi_m3, zi_m9]; omega) | decide)) only [sX2_blocks_0, sX2_blocks_1, sX2_blocks_4, sX2_blocks_4n, sX2_blocks_5, sX2_blocks_8, sX2_blocks_11, sX2_blocks_11n, sX2_blocks_12, sX2_blocks_15, sX2_blocks_16, sX2_blocks_19, sX2_blocks_22, sX2_blocks_23, sX2_blocks_24, sX2_blocks_27, sX2_blocks_28, sX2_blocks_31, sX2_blocks_32, sX2_blocks_35, sX2_blocks_36, sX2_blocks_39, sX2_blocks_40, sX2_blocks_40n, sX2_blocks_41, sX2_blocks_44, sX2_blocks_45, sX2_blocks_48, sX2_blocks_49, sX2_blocks_52, sX2_blocks_53, gG2_0, gG2_1, gG2_2, gG2_3, gG2_4, gG2_5, gG2_6, gG2_7, gG2_8, gG2_9, gG2_10, gG2_11, gP2_0, gP2_1, gP2_2, gP2_3, gP2_4, gP2_5, gP2_6, gP2_7, gP2_8, gP2_9, gP2_10, gP2_11, zpush_v, zpush_n, gCk, gAi, gSi, gLi, gLq, ↓if_pos, ↓if_neg, c, c2, nI_add]
      · have e : bI (pHit (pdL S L) off j i p) = nI 0 := if_neg (fun z => d3 z.2.2.1)
        rw [e]
        simp (disch := (first | omega | assumption | (simp (disch := omega) only [Int32.lt_iff_toInt_lt, Int32.le_iff_toInt_le, ← Int32.toInt_inj, nI_toInt, zi_m1, zi_m2, zi_m3, zi_m9]; omega) | decide)) only [sX2_blocks_0, sX2_blocks_1, sX2_blocks_4, sX2_blocks_4n, sX2_blocks_5, sX2_blocks_8, sX2_blocks_11, sX2_blocks_11n, sX2_blocks_12, sX2_blocks_15, sX2_blocks_16, sX2_blocks_19, sX2_blocks_22, sX2_blocks_23, sX2_blocks_24, sX2_blocks_27, sX2_blocks_28, sX2_blocks_31, sX2_blocks_32, sX2_blocks_35, sX2_blocks_36, sX2_blocks_39, sX2_blocks_40, sX2_blocks_40n, sX2_blocks_41, sX2_blocks_44, sX2_blocks_45, sX2_blocks_48, sX2_blocks_49, sX2_blocks_52, sX2_blocks_53, gG2_0, gG2_1, gG2_2, gG2_3, gG2_4, gG2_5, gG2_6, gG2_7, gG2_8, gG2_9, gG2_10, gG2_11, gP2_0, gP2_1, gP2_2, gP2_3, gP2_4, gP2_5, gP2_6, gP2_7, gP2_8, gP2_9, gP2_10, gP2_11, zpush_v, zpush_n, gCk, gAi, gSi, gLi, gLq, ↓if_pos, ↓if_neg, c, c2, nI_add]
    · have e : bI (pHit (pdL S L) off j i p) = nI 0 := if_neg (fun z => d2 z.2.1)
      rw [e]
      simp (disch := (first | omega | assumption | (simp (disch := omega) only [Int32.lt_iff_toInt_lt, Int32.le_iff_toInt_le, ← Int32.toInt_inj, nI_toInt, zi_m1, zi_m2, zi_m3, zi_m9]; omega) | decide)) only [sX2_blocks_0, sX2_blocks_1, sX2_blocks_4, sX2_blocks_4n, sX2_blocks_5, sX2_blocks_8, sX2_blocks_11, sX2_blocks_11n, sX2_blocks_12, sX2_blocks_15, sX2_blocks_16, sX2_blocks_19, sX2_blocks_22, sX2_blocks_23, sX2_blocks_24, sX2_blocks_27, sX2_blocks_28, sX2_blocks_31, sX2_blocks_32, sX2_blocks_35, sX2_blocks_36, sX2_blocks_39, sX2_blocks_40, sX2_blocks_40n, sX2_blocks_41, sX2_blocks_44, sX2_blocks_45, sX2_blocks_48, sX2_blocks_49, sX2_blocks_52, sX2_blocks_53, gG2_0, gG2_1, gG2_2, gG2_3, gG2_4, gG2_5, gG2_6, gG2_7, gG2_8, gG2_9, gG2_10, gG2_11, gP2_0, gP2_1, gP2_2, gP2_3, gP2_4, gP2_5, gP2_6, gP2_7, gP2_8, gP2_9, gP2_10, gP2_11, zpush_v, zpush_n, gCk, gAi, gSi, gLi, gLq, ↓if_pos, ↓if_neg, c, c2, nI_add]
  · have e : bI (pHit (pdL S L) off j i p) = nI 0 := if_neg (fun z => c1 z.1)
    rw [e]
    simp (disch := (first | omega | assumption | (simp (disch := omega) only [Int32.lt_iff_toInt_lt, Int32.le_iff_toInt_le, ← Int32.toInt_inj, nI_toInt, zi_m1, zi_m2, zi_m3, zi_m9]; omega) | decide)) only [sX2_blocks_0, sX2_blocks_1, sX2_blocks_4, sX2_blocks_4n, sX2_blocks_5, sX2_blocks_8, sX2_blocks_11, sX2_blocks_11n, sX2_blocks_12, sX2_blocks_15, sX2_blocks_16, sX2_blocks_19, sX2_blocks_22, sX2_blocks_23, sX2_blocks_24, sX2_blocks_27, sX2_blocks_28, sX2_blocks_31, sX2_blocks_32, sX2_blocks_35, sX2_blocks_36, sX2_blocks_39, sX2_blocks_40, sX2_blocks_40n, sX2_blocks_41, sX2_blocks_44, sX2_blocks_45, sX2_blocks_48, sX2_blocks_49, sX2_blocks_52, sX2_blocks_53, gG2_0, gG2_1, gG2_2, gG2_3, gG2_4, gG2_5, gG2_6, gG2_7, gG2_8, gG2_9, gG2_10, gG2_11, gP2_0, gP2_1, gP2_2, gP2_3, gP2_4, gP2_5, gP2_6, gP2_7, gP2_8, gP2_9, gP2_10, gP2_11, zpush_v, zpush_n, gCk, gAi, gSi, gLi, gLq, ↓if_pos, ↓if_neg, c, c2]
abbrev pAh (g1 o1 g2 o2 : Nat) : Prop := g1 < g2 ∨ (g1 = g2 ∧ o1 < o2)
theorem m_X2_isAheadOf {p q : Nat} (hf : fLook h k S ln (nI p)) (hf2 : fLook h k2 S ln2 (nI q)) (hw : WfS S) (hp : p ≤ 10000) (hq : q ≤ 10000) (Q : Option Value → Hp → Prop) : WPm 24 [.ref k, .ref k2] h Q = Q (some (.int (bI (pAh (valS S 4 ln.2.2.1) p (valS S 4 ln2.2.2.1) q)))) h := by
  have c := hf.cell.1
  have c2 := hf2.cell.1
  have l1 := valS_le hw (show 4 < 6 by omega) ln.2.2.1
  have l2 := valS_le hw (show 4 < 6 by omega) ln2.2.2.1
  rw [eX2_isAheadOf]
  by_cases c1 : valS S 4 ln.2.2.1 < valS S 4 ln2.2.2.1
  · rw [show bI (pAh (valS S 4 ln.2.2.1) p (valS S 4 ln2.2.2.1) q) = nI 1 from if_pos (Or.inl c1)]
    simp (disch := (first | omega | assumption | (simp (disch := omega) only [Int32.lt_iff_toInt_lt, Int32.le_iff_toInt_le, ← Int32.toInt_inj, nI_toInt, zi_m1, zi_m2, zi_m3, zi_m9]; omega) | decide)) only [sX2_isAheadOf_0, sX2_isAheadOf_1, sX2_isAheadOf_4, sX2_isAheadOf_4n, sX2_isAheadOf_5, sX2_isAheadOf_8, sX2_isAheadOf_11, sX2_isAheadOf_12, sX2_isAheadOf_15, sX2_isAheadOf_15n, sX2_isAheadOf_16, sX2_isAheadOf_19, sX2_isAheadOf_22, sX2_isAheadOf_23, sX2_isAheadOf_26, sX2_isAheadOf_26n, sX2_isAheadOf_27, sX2_isAheadOf_30, sX2_isAheadOf_33, sX2_isAheadOf_34, sX2_isAheadOf_37, sX2_isAheadOf_38, gG2_0, gG2_1, gG2_2, gG2_3, gG2_4, gG2_5, gG2_6, gG2_7, gG2_8, gG2_9, gG2_10, gG2_11, gP2_0, gP2_1, gP2_2, gP2_3, gP2_4, gP2_5, gP2_6, gP2_7, gP2_8, gP2_9, gP2_10, gP2_11, zpush_v, zpush_n, gCk, gAi, gSi, gLi, gLq, ↓if_pos, ↓if_neg, c, c2]
  · by_cases d2 : valS S 4 ln.2.2.1 = valS S 4 ln2.2.2.1
    · by_cases d3 : p < q
      · rw [show bI (pAh (valS S 4 ln.2.2.1) p (valS S 4 ln2.2.2.1) q) = nI 1 from if_pos (Or.inr ⟨d2, d3⟩)]
        simp (disch := (first | omega | assumption | (simp (disch := omega) only [Int32.lt_iff_toInt_lt, Int32.le_iff_toInt_le, ← Int32.toInt_inj, nI_toInt, zi_m1, zi_m2, zi_m3, zi_m9]; omega) | decide)) only [sX2_isAheadOf_0, sX2_isAheadOf_1, sX2_isAheadOf_4, sX2_isAheadOf_4n, sX2_isAheadOf_5, sX2_isAheadOf_8, sX2_isAheadOf_11, sX2_isAheadOf_12, sX2_isAheadOf_15, sX2_isAheadOf_15n, sX2_isAheadOf_16, sX2_isAheadOf_19, sX2_isAheadOf_22, sX2_isAheadOf_23, sX2_isAheadOf_26, sX2_isAheadOf_26n, sX2_isAheadOf_27, sX2_isAheadOf_30, sX2_isAheadOf_33, sX2_isAheadOf_34, sX2_isAheadOf_37, sX2_isAheadOf_38, gG2_0, gG2_1, gG2_2, gG2_3, gG2_4, gG2_5, gG2_6, gG2_7, gG2_8, gG2_9, gG2_10, gG2_11, gP2_0, gP2_1, gP2_2, gP2_3, gP2_4, gP2_5, gP2_6, gP2_7, gP2_8, gP2_9, gP2_10, gP2_11, zpush_v, zpush_n, gCk, gAi, gSi, gLi, gLq, ↓if_pos, ↓if_neg, c, c2]
      · rw [show bI (pAh (valS S 4 ln.2.2.1) p (valS S 4 ln2.2.2.1) q) = nI 0 from if_neg (fun z => z.elim c1 (fun y => d3 y.2))]
        simp (disch := (first | omega | assumption | (simp (disch := omega) only [Int32.lt_iff_toInt_lt, Int32.le_iff_toInt_le, ← Int32.toInt_inj, nI_toInt, zi_m1, zi_m2, zi_m3, zi_m9]; omega) | decide)) only [sX2_isAheadOf_0, sX2_isAheadOf_1, sX2_isAheadOf_4, sX2_isAheadOf_4n, sX2_isAheadOf_5, sX2_isAheadOf_8, sX2_isAheadOf_11, sX2_isAheadOf_12, sX2_isAheadOf_15, sX2_isAheadOf_15n, sX2_isAheadOf_16, sX2_isAheadOf_19, sX2_isAheadOf_22, sX2_isAheadOf_23, sX2_isAheadOf_26, sX2_isAheadOf_26n, sX2_isAheadOf_27, sX2_isAheadOf_30, sX2_isAheadOf_33, sX2_isAheadOf_34, sX2_isAheadOf_37, sX2_isAheadOf_38, gG2_0, gG2_1, gG2_2, gG2_3, gG2_4, gG2_5, gG2_6, gG2_7, gG2_8, gG2_9, gG2_10, gG2_11, gP2_0, gP2_1, gP2_2, gP2_3, gP2_4, gP2_5, gP2_6, gP2_7, gP2_8, gP2_9, gP2_10, gP2_11, zpush_v, zpush_n, gCk, gAi, gSi, gLi, gLq, ↓if_pos, ↓if_neg, c, c2]
    · rw [show bI (pAh (valS S 4 ln.2.2.1) p (valS S 4 ln2.2.2.1) q) = nI 0 from if_neg (fun z => z.elim c1 (fun y => d2 y.1))]
      simp (disch := (first | omega | assumption | (simp (disch := omega) only [Int32.lt_iff_toInt_lt, Int32.le_iff_toInt_le, ← Int32.toInt_inj, nI_toInt, zi_m1, zi_m2, zi_m3, zi_m9]; omega) | decide)) only [sX2_isAheadOf_0, sX2_isAheadOf_1, sX2_isAheadOf_4, sX2_isAheadOf_4n, sX2_isAheadOf_5, sX2_isAheadOf_8, sX2_isAheadOf_11, sX2_isAheadOf_12, sX2_isAheadOf_15, sX2_isAheadOf_15n, sX2_isAheadOf_16, sX2_isAheadOf_19, sX2_isAheadOf_22, sX2_isAheadOf_23, sX2_isAheadOf_26, sX2_isAheadOf_26n, sX2_isAheadOf_27, sX2_isAheadOf_30, sX2_isAheadOf_33, sX2_isAheadOf_34, sX2_isAheadOf_37, sX2_isAheadOf_38, gG2_0, gG2_1, gG2_2, gG2_3, gG2_4, gG2_5, gG2_6, gG2_7, gG2_8, gG2_9, gG2_10, gG2_11, gP2_0, gP2_1, gP2_2, gP2_3, gP2_4, gP2_5, gP2_6, gP2_7, gP2_8, gP2_9, gP2_10, gP2_11, zpush_v, zpush_n, gCk, gAi, gSi, gLi, gLq, ↓if_pos, ↓if_neg, c, c2]
def picC (P : Nat) : va_E := .inl (4, 16, .inr (.inr (.inr (.inr (fun i => if i < 16 then some (P + 2 + 7 * i) else none)))))
def oPic (h : Hp) (P n : Nat) (f : Nat → Int32) : Prop := h.1 P = some (.inr (3, [.ref (P + 1), .int (nI n), .ref (P + 114)])) ∧ h.1 (P + 1) = some (picC P) ∧ oRow h (P + 114) 16 f
theorem oPic.off {h' : Hp} {f : Nat → Int32} {lo m : Nat} (hr : oPic h P n f) (hs : Same h h' lo m) (hq : (P + 116 ≤ lo ∨ lo + m ≤ P) ∨ (P + 2 ≤ lo ∧ lo + m ≤ P + 114)) : oPic h' P n f :=
  ⟨by rw [hs.at (by omega)]; exact hr.1, by rw [hs.at (by omega)]; exact hr.2.1, hr.2.2.off hs (by omega)⟩
variable {f : Nat → Int32}
theorem m_X3_lookAtT (hO : oPic h P n f) (hn : n ≤ 16) {i : Nat} (hi : i < n) (Q : Option Value → Hp → Prop) : WPm 27 [.ref P, .int (nI i)] h Q = Q (some (.ref (P + 2 + 7 * i))) h := by
  obtain ⟨c1, c2, -⟩ := hO
  unfold picC at c2
  rw [eX3_lookAt]
  simp (disch := (first | omega | assumption | (simp (disch := omega) only [Int32.lt_iff_toInt_lt, Int32.le_iff_toInt_le, ← Int32.toInt_inj, nI_toInt, zi_m1, zi_m2, zi_m3, zi_m9]; omega) | decide)) only [sX3_lookAt_0, sX3_lookAt_1, sX3_lookAt_4, sX3_lookAt_5, sX3_lookAt_6, sX3_lookAt_9, sX3_lookAt_12, sX3_lookAt_13, sX3_lookAt_14, sX3_lookAt_17, sX3_lookAt_18, sX3_lookAt_21, sX3_lookAt_22, sX3_lookAt_25, sX3_lookAt_26, sX3_lookAt_27, sX3_lookAt_30, sX3_lookAt_31, sX3_lookAt_31n, gG3_0, gG3_1, gG3_2, gP3_0, gP3_1, gP3_2, zpush_v, zpush_n, gCk, gAi, gSi, gLi, gLq, ↓if_pos, ↓if_neg, gAq, c1, c2, va_rf_s]
theorem m_X3_lookAtF (hO : oPic h P n f) {x : Int32} (hx : x < nI 0 ∨ nI n ≤ x) (Q : Option Value → Hp → Prop) : WPm 27 [.ref P, .int x] h Q = Q (some .null) h := by
  obtain ⟨c1, c2, -⟩ := hO
  rw [eX3_lookAt]
  by_cases d1 : x < nI 0
  · simp (disch := (first | omega | assumption | (simp (disch := omega) only [Int32.lt_iff_toInt_lt, Int32.le_iff_toInt_le, ← Int32.toInt_inj, nI_toInt, zi_m1, zi_m2, zi_m3, zi_m9]; omega) | decide)) only [sX3_lookAt_0, sX3_lookAt_1, sX3_lookAt_4, sX3_lookAt_5, sX3_lookAt_6, sX3_lookAt_9, sX3_lookAt_12, sX3_lookAt_13, sX3_lookAt_14, sX3_lookAt_17, sX3_lookAt_18, sX3_lookAt_21, sX3_lookAt_22, sX3_lookAt_25, sX3_lookAt_26, sX3_lookAt_27, sX3_lookAt_30, sX3_lookAt_31, sX3_lookAt_31n, gG3_0, gG3_1, gG3_2, gP3_0, gP3_1, gP3_2, zpush_v, zpush_n, gCk, gAi, gSi, gLi, gLq, ↓if_pos, ↓if_neg, c1]
  · have d2 := hx.resolve_left d1
    simp (disch := (first | omega | assumption | (simp (disch := omega) only [Int32.lt_iff_toInt_lt, Int32.le_iff_toInt_le, ← Int32.toInt_inj, nI_toInt, zi_m1, zi_m2, zi_m3, zi_m9]; omega) | decide)) only [sX3_lookAt_0, sX3_lookAt_1, sX3_lookAt_4, sX3_lookAt_5, sX3_lookAt_6, sX3_lookAt_9, sX3_lookAt_12, sX3_lookAt_13, sX3_lookAt_14, sX3_lookAt_17, sX3_lookAt_18, sX3_lookAt_21, sX3_lookAt_22, sX3_lookAt_25, sX3_lookAt_26, sX3_lookAt_27, sX3_lookAt_30, sX3_lookAt_31, sX3_lookAt_31n, gG3_0, gG3_1, gG3_2, gP3_0, gP3_1, gP3_2, zpush_v, zpush_n, gCk, gAi, gSi, gLi, gLq, ↓if_pos, ↓if_neg, c1]
/-- the looks that are read, with their offsets -/
def rLooks (h : Hp) (P : Nat) (S : Sh) (L : List Ln) (of : Nat → Int32) : Prop := ∀ i, i < L.length → fLook h (P + 2 + 7 * i) S (lnA L i) (of i)
theorem m_X3_beginOf {of : Nat → Int32} (hO : oPic h P L.length f) (hL : WfLs L) (hR : rLooks h P S L of) {i : Nat} (hi : i < L.length) (Q : Option Value → Hp → Prop) : WPm 28 [.ref P, .int (nI i)] h Q = Q (some (.int (nI (lnA L i).1))) h := by
  have c := (hR i hi).cell.1
  rw [eX3_beginOf]
  simp (disch := (first | omega | assumption | (simp (disch := omega) only [Int32.lt_iff_toInt_lt, Int32.le_iff_toInt_le, ← Int32.toInt_inj, nI_toInt, zi_m1, zi_m2, zi_m3, zi_m9]; omega) | decide)) only [sX3_beginOf_0, sX3_beginOf_1, sX3_beginOf_2, sX3_beginOf_5i, sX3_beginOf_5iN, sX3_beginOf_5r, sX3_beginOf_5rN, sX3_beginOf_5z, sX3_beginOf_5zN, sX3_beginOf_5o, sX3_beginOf_5oN, sX3_beginOf_6, sX3_beginOf_6n, sX3_beginOf_7, sX3_beginOf_7n, sX3_beginOf_10, sX3_beginOf_11, sX3_beginOf_14, sX3_beginOf_14n, sX3_beginOf_15, sX3_beginOf_18, gG2_0, gG2_1, gG2_2, gG2_3, gG2_4, gG2_5, gG2_6, gG2_7, gG2_8, gG2_9, gG2_10, gG2_11, gP2_0, gP2_1, gP2_2, gP2_3, gP2_4, gP2_5, gP2_6, gP2_7, gP2_8, gP2_9, gP2_10, gP2_11, zpush_v, zpush_n, gCk, gAi, gSi, gLi, gLq, ↓if_pos, ↓if_neg, hO.1, m_X3_lookAtT hO hL.1 hi, c]
theorem rLooks.off {h' : Hp} {of : Nat → Int32} {lo m : Nat} (hR : rLooks h P S L of) (hn : L.length ≤ 16) (hs : Same h h' lo m) (hq : P + 114 ≤ lo ∨ lo + m ≤ P + 2) : rLooks h' P S L of :=
  fun i hi => (hR i hi).off hs (by omega)
abbrev ordC (g : Nat → Int32) : va_E := .inl (0, 16, .inl g)
theorem oPic.setO {g : Nat → Int32} (hO : oPic h P n f) : oPic (hset h (P + 115) (ordC g)) P n g :=
  ⟨by rw [hset_ne (by omega)]; exact hO.1, by rw [hset_ne (by omega)]; exact hO.2.1, hO.2.2.set⟩
theorem l_X3_sortIn {of : Nat → Int32} {g0 : Nat → Int32} (hO : oPic h P L.length g0) (hL : WfLs L) (hR : rLooks h P S L of) {f : Nat → Nat} {l : Nat} (hl : l < L.length) (hS : pSrt (fun i => (lnA L i).1) l f) : ∀ (a : Nat) (g : Nat → Int32), a ≤ l → (∀ i, i < a → g i = nI (f i)) → (∀ i, a < i → i ≤ l → g i = nI (f (i - 1))) → (∀ i, a ≤ i → i < l → (lnA L l).1 < (lnA L (f i)).1) →
    ∃ g' a', a' ≤ l ∧ (∀ i, i ≤ l → g' i = nI (pIns f l a' i)) ∧ (∀ i, i < a' → (lnA L (f i)).1 ≤ (lnA L l).1) ∧ (∀ i, a' ≤ i → i < l → (lnA L l).1 < (lnA L (f i)).1) ∧
      ∀ Q : Option Value → Hp → Prop, WP 29 12 [some (.ref P), some (.int (nI l)), some (.int (nI a))] [] (hset h (P + 115) (ordC g)) Q = WP 29 2 [some (.ref P), some (.int (nI (l + 1))), some (.int (nI a'))] [] (hset h (P + 115) (ordC g')) Q := by
  have h16 := hL.1
  have fin : ∀ (a : Nat) (g : Nat → Int32), a ≤ l → (∀ i, i < a → g i = nI (f i)) → (∀ i, a < i → i ≤ l → g i = nI (f (i - 1))) → ∀ i, i ≤ l → upd g a (nI l) i = nI (pIns f l a i) := by
    intro a g ha h1 h2 i hi
    unfold pIns
    by_cases c : i < a
    · rw [if_pos c, upd_off (by omega)]
      exact h1 i c
    · by_cases c2 : i = a
      · rw [if_neg c, if_pos c2, upd_is c2]
      · rw [if_neg c, if_neg c2, upd_off (by omega)]
        exact h2 i (by omega) hi
  intro a
  induction a with
  | zero =>
    intro g ha h1 h2 h3
    have o1 := hO.setO (g := g)
    refine ⟨upd g 0 (nI l), 0, by omega, fin 0 g ha h1 h2, fun i hi => by omega, fun i _ hi => h3 i (by omega) hi, fun Q => ?_⟩
    rw [sX3_sortByBeginnings_12]
    simp (disch := (first | omega | assumption | (simp (disch := omega) only [Int32.lt_iff_toInt_lt, Int32.le_iff_toInt_le, ← Int32.toInt_inj, nI_toInt, zi_m1, zi_m2, zi_m3, zi_m9]; omega) | decide)) only [sX3_sortByBeginnings_12, sX3_sortByBeginnings_13, sX3_sortByBeginnings_16, sX3_sortByBeginnings_17, sX3_sortByBeginnings_18, sX3_sortByBeginnings_21, sX3_sortByBeginnings_22, sX3_sortByBeginnings_23, sX3_sortByBeginnings_24, sX3_sortByBeginnings_27, sX3_sortByBeginnings_30, sX3_sortByBeginnings_31, sX3_sortByBeginnings_32, sX3_sortByBeginnings_35, sX3_sortByBeginnings_38, sX3_sortByBeginnings_39, sX3_sortByBeginnings_42, sX3_sortByBeginnings_43, sX3_sortByBeginnings_44, sX3_sortByBeginnings_47, sX3_sortByBeginnings_48, sX3_sortByBeginnings_49, sX3_sortByBeginnings_50, sX3_sortByBeginnings_53, sX3_sortByBeginnings_56i, sX3_sortByBeginnings_56r, sX3_sortByBeginnings_56z, sX3_sortByBeginnings_56o, sX3_sortByBeginnings_59, sX3_sortByBeginnings_62, sX3_sortByBeginnings_63, sX3_sortByBeginnings_66, sX3_sortByBeginnings_67, sX3_sortByBeginnings_68, sX3_sortByBeginnings_71i, sX3_sortByBeginnings_71r, sX3_sortByBeginnings_71z, sX3_sortByBeginnings_71o, sX3_sortByBeginnings_74, gG3_0, gG3_1, gG3_2, gP3_0, gP3_1, gP3_2, gG5_0, gP5_0, zpush_v, zpush_n, gCk, gAi, gSi, gLi, gLq, ↓if_pos, ↓if_neg, o1.1, o1.2.2.1, m_X5_set o1.2.2, nI_add, hset_hset]
  | succ a ih =>
    intro g ha h1 h2 h3
    have o1 := hO.setO (g := g)
    have R1 := hR.off h16 (Same.set (h := h) (a := P + 115) (e := ordC g) (lo := P + 114) (n := 2) (by omega) (by omega)) (by omega)
    have fa := hS.1 a (by omega)
    have ga := h1 a (by omega)
    have b1 := m_X3_beginOf o1 hL R1 (show f a < L.length by omega)
    have b2 := m_X3_beginOf o1 hL R1 hl
    have w1 := (lnA_wf hL (f a)).1
    have w2 := (lnA_wf hL (f a)).2.1
    have w3 := (lnA_wf hL l).1
    have w4 := (lnA_wf hL l).2.1
    have gg := m_X5_get o1.2.2 (k := a) (by omega) (by omega)
    rw [ga] at gg
    by_cases c : (lnA L (f a)).1 ≤ (lnA L l).1
    · refine ⟨upd g (a + 1) (nI l), a + 1, ha, fin _ g ha h1 h2, fun i hi => ?_, fun i h5 h6 => h3 i h5 h6, fun Q => ?_⟩
      · by_cases e : i = a
        · subst e; exact c
        · have := hS.2.2 i a (by omega) (by omega)
          have : (lnA L (f i)).1 ≤ (lnA L (f a)).1 := by
            rcases this with z | z
            · exact Nat.le_of_lt z
            · exact Nat.le_of_eq z.1
          omega
      · rw [sX3_sortByBeginnings_12]
        simp (disch := (first | omega | assumption | (simp (disch := omega) only [Int32.lt_iff_toInt_lt, Int32.le_iff_toInt_le, ← Int32.toInt_inj, nI_toInt, zi_m1, zi_m2, zi_m3, zi_m9]; omega) | decide)) only [sX3_sortByBeginnings_12, sX3_sortByBeginnings_13, sX3_sortByBeginnings_16, sX3_sortByBeginnings_17, sX3_sortByBeginnings_18, sX3_sortByBeginnings_21, sX3_sortByBeginnings_22, sX3_sortByBeginnings_23, sX3_sortByBeginnings_24, sX3_sortByBeginnings_27, sX3_sortByBeginnings_30, sX3_sortByBeginnings_31, sX3_sortByBeginnings_32, sX3_sortByBeginnings_35, sX3_sortByBeginnings_38, sX3_sortByBeginnings_39, sX3_sortByBeginnings_42, sX3_sortByBeginnings_43, sX3_sortByBeginnings_44, sX3_sortByBeginnings_47, sX3_sortByBeginnings_48, sX3_sortByBeginnings_49, sX3_sortByBeginnings_50, sX3_sortByBeginnings_53, sX3_sortByBeginnings_56i, sX3_sortByBeginnings_56r, sX3_sortByBeginnings_56z, sX3_sortByBeginnings_56o, sX3_sortByBeginnings_59, sX3_sortByBeginnings_62, sX3_sortByBeginnings_63, sX3_sortByBeginnings_66, sX3_sortByBeginnings_67, sX3_sortByBeginnings_68, sX3_sortByBeginnings_71i, sX3_sortByBeginnings_71r, sX3_sortByBeginnings_71z, sX3_sortByBeginnings_71o, sX3_sortByBeginnings_74, gG3_0, gG3_1, gG3_2, gP3_0, gP3_1, gP3_2, gG5_0, gP5_0, zpush_v, zpush_n, gCk, gAi, gSi, gLi, gLq, ↓if_pos, ↓if_neg, o1.1, o1.2.2.1, m_X5_set o1.2.2, nI_add, hset_hset, nI_sub, Nat.add_sub_cancel, gg, b1, b2]
    · have o2 := hO.setO (g := upd g (a + 1) (nI (f a)))
      obtain ⟨g', a', q1, q2, q3, q4, q5⟩ := ih (upd g (a + 1) (nI (f a))) (by omega) (fun i hi => by rw [upd_off (by omega)]; exact h1 i (by omega)) (fun i i1 i2 => by
        by_cases e : i = a + 1
        · rw [upd_is e, e, Nat.add_sub_cancel]
        · rw [upd_off (by omega)]
          exact h2 i (by omega) i2) (fun i i1 i2 => by
        by_cases e : i = a
        · subst e; omega
        · exact h3 i (by omega) i2)
      refine ⟨g', a', q1, q2, q3, q4, fun Q => ?_⟩
      rw [← q5 Q, sX3_sortByBeginnings_12]
      simp (disch := (first | omega | assumption | (simp (disch := omega) only [Int32.lt_iff_toInt_lt, Int32.le_iff_toInt_le, ← Int32.toInt_inj, nI_toInt, zi_m1, zi_m2, zi_m3, zi_m9]; omega) | decide)) only [sX3_sortByBeginnings_0, sX3_sortByBeginnings_1i, sX3_sortByBeginnings_1r, sX3_sortByBeginnings_1z, sX3_sortByBeginnings_1o, sX3_sortByBeginnings_2, sX3_sortByBeginnings_3, sX3_sortByBeginnings_4, sX3_sortByBeginnings_7, sX3_sortByBeginnings_10, sX3_sortByBeginnings_11i, sX3_sortByBeginnings_11r, sX3_sortByBeginnings_11z, sX3_sortByBeginnings_11o, sX3_sortByBeginnings_13, sX3_sortByBeginnings_16, sX3_sortByBeginnings_17, sX3_sortByBeginnings_18, sX3_sortByBeginnings_21, sX3_sortByBeginnings_22, sX3_sortByBeginnings_23, sX3_sortByBeginnings_24, sX3_sortByBeginnings_27, sX3_sortByBeginnings_30, sX3_sortByBeginnings_31, sX3_sortByBeginnings_32, sX3_sortByBeginnings_35, sX3_sortByBeginnings_38, sX3_sortByBeginnings_39, sX3_sortByBeginnings_42, sX3_sortByBeginnings_43, sX3_sortByBeginnings_44, sX3_sortByBeginnings_47, sX3_sortByBeginnings_48, sX3_sortByBeginnings_49, sX3_sortByBeginnings_50, sX3_sortByBeginnings_53, sX3_sortByBeginnings_56i, sX3_sortByBeginnings_56r, sX3_sortByBeginnings_56z, sX3_sortByBeginnings_56o, sX3_sortByBeginnings_59, sX3_sortByBeginnings_62, sX3_sortByBeginnings_63, sX3_sortByBeginnings_66, sX3_sortByBeginnings_67, sX3_sortByBeginnings_68, sX3_sortByBeginnings_71i, sX3_sortByBeginnings_71r, sX3_sortByBeginnings_71z, sX3_sortByBeginnings_71o, sX3_sortByBeginnings_74, sX3_sortByBeginnings_77, gG3_0, gG3_1, gG3_2, gP3_0, gP3_1, gP3_2, gG5_0, gP5_0, zpush_v, zpush_n, gCk, gAi, gSi, gLi, gLq, ↓if_pos, ↓if_neg, o1.1, o1.2.2.1, m_X5_set o1.2.2, nI_m1, hset_hset, nI_sub, Nat.add_sub_cancel, gg, b1, b2]
theorem l_X3_sort {of : Nat → Int32} {g0 : Nat → Int32} (hO : oPic h P L.length g0) (hL : WfLs L) (hR : rLooks h P S L of) : ∀ (m l : Nat) (g : Nat → Int32) (f : Nat → Nat) (a : Option Value), m + l = L.length → (∀ i, i < l → g i = nI (f i)) → pSrt (fun i => (lnA L i).1) l f → (a = none ∨ ∃ y, a = some (.int y)) →
    ∃ (g' : Nat → Int32) (f' : Nat → Nat), (∀ i, i < L.length → g' i = nI (f' i)) ∧ pSrt (fun i => (lnA L i).1) L.length f' ∧ ∀ Q : Option Value → Hp → Prop, WP 29 2 [some (.ref P), some (.int (nI l)), a] [] (hset h (P + 115) (ordC g)) Q = Q none (hset h (P + 115) (ordC g')) := by
  have h16 := hL.1
  intro m
  induction m with
  | zero =>
    intro l g f a hm hg hS ha
    have hm : l = L.length := by omega
    subst hm
    have o1 := hO.setO (g := g)
    refine ⟨g, f, hg, hS, fun Q => ?_⟩
    rw [sX3_sortByBeginnings_2]
    simp (disch := (first | omega | assumption | (simp (disch := omega) only [Int32.lt_iff_toInt_lt, Int32.le_iff_toInt_le, ← Int32.toInt_inj, nI_toInt, zi_m1, zi_m2, zi_m3, zi_m9]; omega) | decide)) only [sX3_sortByBeginnings_3, sX3_sortByBeginnings_4, sX3_sortByBeginnings_7, sX3_sortByBeginnings_10, sX3_sortByBeginnings_11i, sX3_sortByBeginnings_11r, sX3_sortByBeginnings_11z, sX3_sortByBeginnings_11o, sX3_sortByBeginnings_77, gG3_0, gG3_1, gG3_2, gP3_0, gP3_1, gP3_2, zpush_v, zpush_n, gCk, gAi, gSi, gLi, gLq, ↓if_pos, ↓if_neg, o1.1]
  | succ m ih =>
    intro l g f a hm hg hS ha
    have o1 := hO.setO (g := g)
    obtain ⟨g1, a1, q1, q2, q3, q4, q5⟩ := l_X3_sortIn hO hL hR (show l < L.length by omega) hS l g (Nat.le_refl l) hg (fun i i1 i2 => by omega) (fun i i1 i2 => by omega)
    obtain ⟨g2, f2, r1, r2, r3⟩ := ih (l + 1) g1 (pIns f l a1) (some (.int (nI a1))) (by omega) (fun i hi => q2 i (by omega)) (hS.ins q1 q3 q4) (Or.inr ⟨_, rfl⟩)
    refine ⟨g2, f2, r1, r2, fun Q => ?_⟩
    rw [← r3 Q, ← q5 Q, sX3_sortByBeginnings_2]
    rcases ha with rfl | ⟨y, rfl⟩
    all_goals simp (disch := (first | omega | assumption | (simp (disch := omega) only [Int32.lt_iff_toInt_lt, Int32.le_iff_toInt_le, ← Int32.toInt_inj, nI_toInt, zi_m1, zi_m2, zi_m3, zi_m9]; omega) | decide)) only [sX3_sortByBeginnings_3, sX3_sortByBeginnings_4, sX3_sortByBeginnings_7, sX3_sortByBeginnings_10, sX3_sortByBeginnings_11i, sX3_sortByBeginnings_11r, sX3_sortByBeginnings_11z, sX3_sortByBeginnings_11o, gG3_0, gG3_1, gG3_2, gP3_0, gP3_1, gP3_2, zpush_v, zpush_n, gCk, gAi, gSi, gLi, gLq, ↓if_pos, ↓if_neg, o1.1]
theorem m_X3_sort {of : Nat → Int32} {g0 : Nat → Int32} (hO : oPic h P L.length g0) (hL : WfLs L) (hR : rLooks h P S L of) :
    ∃ (g' : Nat → Int32) (f' : Nat → Nat), (∀ i, i < L.length → g' i = nI (f' i)) ∧ pSrt (fun i => (lnA L i).1) L.length f' ∧ ∀ Q : Option Value → Hp → Prop, WPm 29 [.ref P] h Q = Q none (hset h (P + 115) (ordC g')) := by
  obtain ⟨g2, f2, r1, r2, r3⟩ := l_X3_sort hO hL hR L.length 0 g0 (fun _ => 0) none (by omega) (fun i hi => by omega) (pSrt_0 _ _) (Or.inl rfl)
  refine ⟨g2, f2, r1, r2, fun Q => ?_⟩
  have := r3 Q
  rw [hset_id (h := h) (a := P + 115) (e := ordC g0) hO.2.2.2] at this
  rw [eX3_sortByBeginnings]
  simp (disch := (first | omega | assumption | (simp (disch := omega) only [Int32.lt_iff_toInt_lt, Int32.le_iff_toInt_le, ← Int32.toInt_inj, nI_toInt, zi_m1, zi_m2, zi_m3, zi_m9]; omega) | decide)) only [sX3_sortByBeginnings_0, sX3_sortByBeginnings_1i, sX3_sortByBeginnings_1r, sX3_sortByBeginnings_1z, sX3_sortByBeginnings_1o]
  exact this
end PI
