/-! Picture: freeOffset, draw -/
section PJ
variable {h : Hp} {k P : Nat} {S : Sh} {L : List Ln} {g : Nat → Int32} {f off : Nat → Nat} {b : Nat} {o2 : Int32}
def okLc (o : Option Value) : Prop := o = none ∨ o = some .null ∨ ∃ y, o = some (.ref y)
theorem l_X3_freeIn (hO : oPic h P L.length g) (hw : WfS S) (hL : WfLs L) (hb : b < L.length) (hg : ∀ i, i < L.length → g i = nI (f i)) (hf : ∀ i, i < L.length → f i < L.length) (hk : k = P + 2 + 7 * f b) (h2 : fLook h k S (lnA L (f b)) o2) (hR : ∀ j, j < b → fLook h (P + 2 + 7 * f j) S (lnA L (f j)) (nI (off (f j)))) (hB : ∀ j, j < b → pE (pdL S L) off (f j) ≤ 5000) {p r : Nat} (hp : p ≤ 5000) (Q : Option Value → Hp → Prop) (R : Prop) (K : ∀ o, okLc o → WP 30 71 [some (.ref P), some (.ref k), some (.int (nI b)), some (.int (nI (pR1 (pdL S L) off f (f b) b p))), some (.int (nI r)), some (.int (nI b)), o] [] h Q = R) : ∀ (m j : Nat) (o : Option Value), m + j = b → okLc o →
    WP 30 17 [some (.ref P), some (.ref k), some (.int (nI b)), some (.int (nI (pR1 (pdL S L) off f (f b) j p))), some (.int (nI r)), some (.int (nI j)), o] [] h Q = R := by
  have h16 := hL.1
  intro m
  induction m with
  | zero =>
    intro j o hj ho
    have hj : j = b := by omega
    subst hj
    rw [sX3_freeOffset_17]
    simp (disch := (first | omega | assumption | (simp (disch := omega) only [Int32.lt_iff_toInt_lt, Int32.le_iff_toInt_le, ← Int32.toInt_inj, nI_toInt, zi_m1, zi_m2, zi_m3, zi_m9]; omega) | decide)) only [sX3_freeOffset_19, sX3_freeOffset_20, zpush_v, zpush_n, gCk, gAi, gSi, gSz, gLi, gLq, ↓if_pos, ↓if_neg]
    exact K o ho
  | succ m ih =>
    intro j o hj ho
    have e0 := hg j (by omega)
    have e1 := hf j (by omega)
    have gg := m_X5_get hO.2.2 (k := j) (by omega) (by omega)
    rw [e0] at gg
    have lk := m_X3_lookAtT hO h16 e1
    have hj1 := hR j (by omega)
    have c3 := hj1.cell.1
    have hq : pR1 (pdL S L) off f (f b) j p ≤ 5000 := pR1_le hp j (fun i hi => hB i (by omega))
    have hE := hB j (by omega)
    have hE2 : off (f j) ≤ 10000 := by simp only [pE] at hE; omega
    have bl := m_X2_blocks (k := P + 2 + 7 * f j) (off := off) hj1 h2 hw hL (show pR1 (pdL S L) off f (f b) j p ≤ 10000 by omega) hE2
    have c4 := h2.cell.1
    by_cases c : pHit (pdL S L) off (f j) (f b) (pR1 (pdL S L) off f (f b) j p)
    · have e5 : pR1 (pdL S L) off f (f b) (j + 1) p = off (f j) + hgL S (lnA L (f j)) := by
        simp only [pR1]
        rw [if_pos c]
        rfl
      have := ih (j + 1) (some (.ref (P + 2 + 7 * f j))) (by omega) (Or.inr (Or.inr ⟨_, rfl⟩))
      rw [e5] at this
      rw [show bI (pHit (pdL S L) off (f j) (f b) (pR1 (pdL S L) off f (f b) j p)) = nI 1 from if_pos c] at bl
      rw [← this, sX3_freeOffset_17]
      rcases ho with rfl | rfl | ⟨y, rfl⟩
      all_goals simp (disch := (first | omega | assumption | (simp (disch := omega) only [Int32.lt_iff_toInt_lt, Int32.le_iff_toInt_le, ← Int32.toInt_inj, nI_toInt, zi_m1, zi_m2, zi_m3, zi_m9]; omega) | decide)) only [sX3_freeOffset_19, sX3_freeOffset_20, sX3_freeOffset_23, sX3_freeOffset_24, sX3_freeOffset_25, sX3_freeOffset_28, sX3_freeOffset_30, sX3_freeOffset_33, sX3_freeOffset_36i, sX3_freeOffset_36iN, sX3_freeOffset_36r, sX3_freeOffset_36rN, sX3_freeOffset_36z, sX3_freeOffset_36zN, sX3_freeOffset_36o, sX3_freeOffset_36oN, sX3_freeOffset_38, sX3_freeOffset_38n, sX3_freeOffset_40, sX3_freeOffset_40n, sX3_freeOffset_43, sX3_freeOffset_43n, sX3_freeOffset_45, sX3_freeOffset_45n, sX3_freeOffset_46, sX3_freeOffset_47, sX3_freeOffset_50, sX3_freeOffset_53, sX3_freeOffset_53n, sX3_freeOffset_55, sX3_freeOffset_58, sX3_freeOffset_58n, sX3_freeOffset_60, sX3_freeOffset_63, sX3_freeOffset_64i, sX3_freeOffset_64r, sX3_freeOffset_64z, sX3_freeOffset_64o, sX3_freeOffset_65i, sX3_freeOffset_65r, sX3_freeOffset_65z, sX3_freeOffset_65o, sX3_freeOffset_68, gG2_0, gG2_1, gG2_2, gG2_3, gG2_4, gG2_5, gG2_6, gG2_7, gG2_8, gG2_9, gG2_10, gG2_11, gP2_0, gP2_1, gP2_2, gP2_3, gP2_4, gP2_5, gP2_6, gP2_7, gP2_8, gP2_9, gP2_10, gP2_11, gG3_0, gG3_1, gG3_2, gP3_0, gP3_1, gP3_2, gG5_0, gP5_0, zpush_v, zpush_n, gCk, gAi, gSi, gSz, gLi, gLq, ↓if_pos, ↓if_neg, hO.1, hO.2.2.1, gg, lk, c3, bl, nI_add]
    · have e5 : pR1 (pdL S L) off f (f b) (j + 1) p = pR1 (pdL S L) off f (f b) j p := by
        simp only [pR1]
        rw [if_neg c]
      have := ih (j + 1) (some (.ref (P + 2 + 7 * f j))) (by omega) (Or.inr (Or.inr ⟨_, rfl⟩))
      rw [e5] at this
      rw [show bI (pHit (pdL S L) off (f j) (f b) (pR1 (pdL S L) off f (f b) j p)) = nI 0 from if_neg c] at bl
      rw [← this, sX3_freeOffset_17]
      rcases ho with rfl | rfl | ⟨y, rfl⟩
      all_goals simp (disch := (first | omega | assumption | (simp (disch := omega) only [Int32.lt_iff_toInt_lt, Int32.le_iff_toInt_le, ← Int32.toInt_inj, nI_toInt, zi_m1, zi_m2, zi_m3, zi_m9]; omega) | decide)) only [sX3_freeOffset_19, sX3_freeOffset_20, sX3_freeOffset_23, sX3_freeOffset_24, sX3_freeOffset_25, sX3_freeOffset_28, sX3_freeOffset_30, sX3_freeOffset_33, sX3_freeOffset_36i, sX3_freeOffset_36iN, sX3_freeOffset_36r, sX3_freeOffset_36rN, sX3_freeOffset_36z, sX3_freeOffset_36zN, sX3_freeOffset_36o, sX3_freeOffset_36oN, sX3_freeOffset_38, sX3_freeOffset_38n, sX3_freeOffset_40, sX3_freeOffset_40n, sX3_freeOffset_43, sX3_freeOffset_43n, sX3_freeOffset_45, sX3_freeOffset_45n, sX3_freeOffset_46, sX3_freeOffset_47, sX3_freeOffset_50, sX3_freeOffset_53, sX3_freeOffset_53n, sX3_freeOffset_55, sX3_freeOffset_58, sX3_freeOffset_58n, sX3_freeOffset_60, sX3_freeOffset_63, sX3_freeOffset_64i, sX3_freeOffset_64r, sX3_freeOffset_64z, sX3_freeOffset_64o, sX3_freeOffset_65i, sX3_freeOffset_65r, sX3_freeOffset_65z, sX3_freeOffset_65o, sX3_freeOffset_68, gG2_0, gG2_1, gG2_2, gG2_3, gG2_4, gG2_5, gG2_6, gG2_7, gG2_8, gG2_9, gG2_10, gG2_11, gP2_0, gP2_1, gP2_2, gP2_3, gP2_4, gP2_5, gP2_6, gP2_7, gP2_8, gP2_9, gP2_10, gP2_11, gG3_0, gG3_1, gG3_2, gP3_0, gP3_1, gP3_2, gG5_0, gP5_0, zpush_v, zpush_n, gCk, gAi, gSi, gSz, gLi, gLq, ↓if_pos, ↓if_neg, hO.1, hO.2.2.1, gg, lk, c3, bl, nI_add]
theorem l_X3_free (hO : oPic h P L.length g) (hw : WfS S) (hL : WfLs L) (hb : b < L.length) (hg : ∀ i, i < L.length → g i = nI (f i)) (hf : ∀ i, i < L.length → f i < L.length) (hk : k = P + 2 + 7 * f b) (h2 : fLook h k S (lnA L (f b)) o2) (hR : ∀ j, j < b → fLook h (P + 2 + 7 * f j) S (lnA L (f j)) (nI (off (f j)))) (hB : ∀ j, j < b → pE (pdL S L) off (f j) ≤ 5000) {p : Nat} (hp : p ≤ 5000) (Q : Option Value → Hp → Prop) : ∀ (m r : Nat) (i o : Option Value), m + r = b → (i = none ∨ ∃ y, i = some (.int y)) → okLc o →
    WP 30 8 [some (.ref P), some (.ref k), some (.int (nI b)), some (.int (nI (pRN (pdL S L) off f (f b) b r p))), some (.int (nI r)), i, o] [] h Q = Q (some (.int (nI (pRN (pdL S L) off f (f b) b b p)))) h := by
  have h16 := hL.1
  intro m
  induction m with
  | zero =>
    intro r i o hr hi ho
    have hr : r = b := by omega
    subst hr
    rw [sX3_freeOffset_8]
    simp (disch := (first | omega | assumption | (simp (disch := omega) only [Int32.lt_iff_toInt_lt, Int32.le_iff_toInt_le, ← Int32.toInt_inj, nI_toInt, zi_m1, zi_m2, zi_m3, zi_m9]; omega) | decide)) only [sX3_freeOffset_10, sX3_freeOffset_11, sX3_freeOffset_14, sX3_freeOffset_15i, sX3_freeOffset_15r, sX3_freeOffset_15z, sX3_freeOffset_15o, sX3_freeOffset_77, sX3_freeOffset_78, zpush_v, zpush_n, gCk, gAi, gSi, gSz, gLi, gLq, ↓if_pos, ↓if_neg]
  | succ m ih =>
    intro r i o hr hi ho
    have hq : pRN (pdL S L) off f (f b) b r p ≤ 5000 := pRN_le hp hB r
    have key := l_X3_freeIn hO hw hL hb hg hf hk h2 hR hB hq (r := r) Q (Q (some (.int (nI (pRN (pdL S L) off f (f b) b b p)))) h) (fun o' ho' => by
      rw [← ih (r + 1) (some (.int (nI b))) o' (by omega) (Or.inr ⟨_, rfl⟩) ho']
      simp (disch := (first | omega | assumption | (simp (disch := omega) only [Int32.lt_iff_toInt_lt, Int32.le_iff_toInt_le, ← Int32.toInt_inj, nI_toInt, zi_m1, zi_m2, zi_m3, zi_m9]; omega) | decide)) only [sX3_freeOffset_71i, sX3_freeOffset_71r, sX3_freeOffset_71z, sX3_freeOffset_71o, sX3_freeOffset_74, zpush_v, zpush_n, gCk, gAi, gSi, gSz, gLi, gLq, ↓if_pos, ↓if_neg, nI_add]
      rfl) b 0 o (by omega) ho
    rw [sX3_freeOffset_8]
    have key : WP 30 17 [some (.ref P), some (.ref k), some (.int (nI b)), some (.int (nI (pRN (pdL S L) off f (f b) b r p))), some (.int (nI r)), some (.int (nI 0)), o] [] h Q = _ := key
    rcases hi with rfl | ⟨y, rfl⟩
    all_goals
      simp (disch := (first | omega | assumption | (simp (disch := omega) only [Int32.lt_iff_toInt_lt, Int32.le_iff_toInt_le, ← Int32.toInt_inj, nI_toInt, zi_m1, zi_m2, zi_m3, zi_m9]; omega) | decide)) only [sX3_freeOffset_10, sX3_freeOffset_11, sX3_freeOffset_14, sX3_freeOffset_15i, sX3_freeOffset_15r, sX3_freeOffset_15z, sX3_freeOffset_15o, zpush_v, zpush_n, gCk, gAi, gSi, gSz, gLi, gLq, ↓if_pos, ↓if_neg]
      exact key
theorem m_X3_free (hO : oPic h P L.length g) (hw : WfS S) (hL : WfLs L) (hb : b < L.length) (hg : ∀ i, i < L.length → g i = nI (f i)) (hf : ∀ i, i < L.length → f i < L.length) (hk : k = P + 2 + 7 * f b) (h2 : fLook h k S (lnA L (f b)) o2) (hR : ∀ j, j < b → fLook h (P + 2 + 7 * f j) S (lnA L (f j)) (nI (off (f j)))) (hB : ∀ j, j < b → pE (pdL S L) off (f j) ≤ 5000) (Q : Option Value → Hp → Prop) :
    WPm 30 [.ref P, .ref k, .int (nI b)] h Q = Q (some (.int (nI (pRN (pdL S L) off f (f b) b b (mrg S (lnA L (f b))))))) h := by
  have c := h2.cell.1
  have := l_X3_free hO hw hL hb hg hf hk h2 hR hB (show mrg S (lnA L (f b)) ≤ 5000 from Nat.le_trans (mrg_le hw (lnA_wf hL _)) (by omega)) Q b 0 none none (by omega) (Or.inl rfl) (Or.inl rfl)
  rw [← this, eX3_freeOffset]
  simp (disch := (first | omega | assumption | (simp (disch := omega) only [Int32.lt_iff_toInt_lt, Int32.le_iff_toInt_le, ← Int32.toInt_inj, nI_toInt, zi_m1, zi_m2, zi_m3, zi_m9]; omega) | decide)) only [sX3_freeOffset_0, sX3_freeOffset_0n, sX3_freeOffset_1, sX3_freeOffset_4i, sX3_freeOffset_4r, sX3_freeOffset_4z, sX3_freeOffset_4o, sX3_freeOffset_5, sX3_freeOffset_6i, sX3_freeOffset_6r, sX3_freeOffset_6z, sX3_freeOffset_6o, gG2_0, gG2_1, gG2_2, gG2_3, gG2_4, gG2_5, gG2_6, gG2_7, gG2_8, gG2_9, gG2_10, gG2_11, gP2_0, gP2_1, gP2_2, gP2_3, gP2_4, gP2_5, gP2_6, gP2_7, gP2_8, gP2_9, gP2_10, gP2_11, zpush_v, zpush_n, gCk, gAi, gSi, gSz, gLi, gLq, ↓if_pos, ↓if_neg, c]
  rfl
end PJ
