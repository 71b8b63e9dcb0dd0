/-! Picture: freeOffset, draw -/
def anyL (h : Hp) (k : Nat) : Prop := ∃ b e g m ht o ns ny la sg sy hd, oLook h k b e g m ht o ns ny la sg sy hd
theorem anyL.off {h h' : Hp} {k lo n : Nat} (hr : anyL h k) (hs : Same h h' lo n) (hq : k + 7 ≤ lo ∨ lo + n ≤ k) : anyL h' k := by
  obtain ⟨b, e, g, m, ht, o, ns, ny, la, sg, sy, hd, hO⟩ := hr
  exact ⟨b, e, g, m, ht, o, ns, ny, la, sg, sy, hd, hO.off hs hq⟩
section PJ
variable {h : Hp} {k P : Nat} {S : Sh} {L : List Ln} {g : Nat → Int32} {f off : Nat → Nat} {b : Nat} {o2 : Int32}
def okLc (o : Option Value) : Prop := o = none ∨ o = some .null ∨ ∃ y, o = some (.ref y)
theorem l_X3_freeIn (hO : oPic h P L.length g) (hw : WfS S) (hL : WfLs L) (hb : b < L.length) (hg : ∀ i, i < L.length → g i = nI (f i)) (hf : ∀ i, i < L.length → f i < L.length) (hk : k = P + 2 + 7 * f b) (h2 : fLook h k S (lnA L (f b)) o2) (hR : ∀ j, j < b → fLook h (P + 2 + 7 * f j) S (lnA L (f j)) (nI (off (f j)))) (hB : ∀ j, j < b → pE (pdL S L) off (f j) ≤ 5000) {p r : Nat} (hp : p ≤ 5000) (Q : Option Value → Hp → Prop) (R : Prop) (K : ∀ o, okLc o → WP 30 71 [some (.ref P), some (.ref k), some (.int (nI b)), some (.int (nI (pR1 (pdL S L) off f (f b) b p))), some (.int (nI r)), some (.int (nI b)), o] [] h Q = R) : ∀ (m j : Nat) (o : Option Value), m + j = b → okLc o →
    WP 30 17 [some (.ref P), some (.ref k), some (.int (nI b)), some (.int (nI (pR1 (pdL S L) off f (f b) j p))), some (.int (nI r)), some (.int (nI j)), o] [] h Q = R := by
  have h16 := hL.1
  intro m
  induction m with
  | zero =>
    intro j o hj ho
    have hj : j = b := by omega
    subst hj
    rw [sX3_freeOffset_17]
    simp (disch := (first | omega | assumption | (simp (disch := omega) only [Int32.lt_iff_toInt_lt, Int32.le_iff_toInt_le, ← Int32.toInt_inj, nI_toInt, zi_m1, zi_m2, zi_m3, zi_m9]; omega) | decide)) only [sX3_freeOffset_19, sX3_freeOffset_20, zpush_v, zpush_n, gCk, gAi, gSi, gLi, gLq, ↓if_pos, ↓if_neg]
    exact K o ho
  | succ m ih =>
    intro j o hj ho
    have e0 := hg j (by omega)
    have e1 := hf j (by omega)
    have gg := m_X5_get hO.2.2 (k := j) (by omega) (by omega)
    rw [e0] at gg
    have lk := m_X3_lookAtT hO h16 e1
    have hj1 := hR j (by omega)
    have c3 := hj1.cell.1
    have hq : pR1 (pdL S L) off f (f b) j p ≤ 5000 := pR1_le hp j (fun i hi => hB i (by omega))
    have hE := hB j (by omega)
    have hE2 : off (f j) ≤ 10000 := by simp only [pE] at hE; omega
    have bl := m_X2_blocks (k := P + 2 + 7 * f j) (off := off) hj1 h2 hw hL (show pR1 (pdL S L) off f (f b) j p ≤ 10000 by omega) hE2
    have c4 := h2.cell.1
    by_cases c : pHit (pdL S L) off (f j) (f b) (pR1 (pdL S L) off f (f b) j p)
    · have e5 : pR1 (pdL S L) off f (f b) (j + 1) p = off (f j) + hgL S (lnA L (f j)) := by
        simp only [pR1]
        rw [if_pos c]
        rfl
      have := ih (j + 1) (some (.ref (P + 2 + 7 * f j))) (by omega) (Or.inr (Or.inr ⟨_, rfl⟩))
      rw [e5] at this
      rw [show bI (pHit (pdL S L) off (f j) (f b) (pR1 (pdL S L) off f (f b) j p)) = nI 1 from if_pos c] at bl
      rw [← this, sX3_freeOffset_17]
      rcases ho with rfl | rfl | ⟨y, rfl⟩
      all_goals simp (disch := (first | omega | assumption | (simp (disch := omega) only [Int32.lt_iff_toInt_lt, Int32.le_iff_toInt_le, ← Int32.toInt_inj, nI_toInt, zi_m1, zi_m2, zi_m3, zi_m9]; omega) | decide)) only [sX3_freeOffset_19, sX3_freeOffset_20, sX3_freeOffset_23, sX3_freeOffset_24, sX3_freeOffset_25, sX3_freeOffset_28, sX3_freeOffset_30, sX3_freeOffset_33, sX3_freeOffset_36i, sX3_freeOffset_36iN, sX3_freeOffset_36r, sX3_freeOffset_36rN, sX3_freeOffset_36z, sX3_freeOffset_36zN, sX3_freeOffset_36o, sX3_freeOffset_36oN, sX3_freeOffset_38, sX3_freeOffset_38n, sX3_freeOffset_40, sX3_freeOffset_40n, sX3_freeOffset_43, sX3_freeOffset_43n, sX3_freeOffset_45, sX3_freeOffset_45n, sX3_freeOffset_46, sX3_freeOffset_47, sX3_freeOffset_50, sX3_freeOffset_53, sX3_freeOffset_53n, sX3_freeOffset_55, sX3_freeOffset_58, sX3_freeOffset_58n, sX3_freeOffset_60, sX3_freeOffset_63, sX3_freeOffset_64i, sX3_freeOffset_64r, sX3_freeOffset_64z, sX3_freeOffset_64o, sX3_freeOffset_65i, sX3_freeOffset_65r, sX3_freeOffset_65z, sX3_freeOffset_65o, sX3_freeOffset_68, gG2_0, gG2_1, gG2_2, gG2_3, gG2_4, gG2_5, gG2_6, gG2_7, gG2_8, gG2_9, gG2_10, gG2_11, gP2_0, gP2_1, gP2_2, gP2_3, gP2_4, gP2_5, gP2_6, gP2_7, gP2_8, gP2_9, gP2_10, gP2_11, gG3_0, gG3_1, gG3_2, gP3_0, gP3_1, gP3_2, gG5_0, gP5_0, zpush_v, zpush_n, gCk, gAi, gSi, gLi, gLq, ↓if_pos, ↓if_neg, hO.1, hO.2.2.1, gg, lk, c3, bl, nI_add]
    · have e5 : pR1 (pdL S L) off f (f b) (j + 1) p = pR1 (pdL S L) off f (f b) j p := by
        simp only [pR1]
        rw [if_neg c]
      have := ih (j + 1) (some (.ref (P + 2 + 7 * f j))) (by omega) (Or.inr (Or.inr ⟨_, rfl⟩))
      rw [e5] at this
      rw [show bI (pHit (pdL S L) off (f j) (f b) (pR1 (pdL S L) off f (f b) j p)) = nI 0 from if_neg c] at bl
      rw [← this, sX3_freeOffset_17]
      rcases ho with rfl | rfl | ⟨y, rfl⟩
      all_goals simp (disch := (first | omega | assumption | (simp (disch := omega) only [Int32.lt_iff_toInt_lt, Int32.le_iff_toInt_le, ← Int32.toInt_inj, nI_toInt, zi_m1, zi_m2, zi_m3, zi_m9]; omega) | decide)) only [sX3_freeOffset_19, sX3_freeOffset_20, sX3_freeOffset_23, sX3_freeOffset_24, sX3_freeOffset_25, sX3_freeOffset_28, sX3_freeOffset_30, sX3_freeOffset_33, sX3_freeOffset_36i, sX3_freeOffset_36iN, sX3_freeOffset_36r, sX3_freeOffset_36rN, sX3_freeOffset_36z, sX3_freeOffset_36zN, sX3_freeOffset_36o, sX3_freeOffset_36oN, sX3_freeOffset_38, sX3_freeOffset_38n, sX3_freeOffset_40, sX3_freeOffset_40n, sX3_freeOffset_43, sX3_freeOffset_43n, sX3_freeOffset_45, sX3_freeOffset_45n, sX3_freeOffset_46, sX3_freeOffset_47, sX3_freeOffset_50, sX3_freeOffset_53, sX3_freeOffset_53n, sX3_freeOffset_55, sX3_freeOffset_58, sX3_freeOffset_58n, sX3_freeOffset_60, sX3_freeOffset_63, sX3_freeOffset_64i, sX3_freeOffset_64r, sX3_freeOffset_64z, sX3_freeOffset_64o, sX3_freeOffset_65i, sX3_freeOffset_65r, sX3_freeOffset_65z, sX3_freeOffset_65o, sX3_freeOffset_68, gG2_0, gG2_1, gG2_2, gG2_3, gG2_4, gG2_5, gG2_6, gG2_7, gG2_8, gG2_9, gG2_10, gG2_11, gP2_0, gP2_1, gP2_2, gP2_3, gP2_4, gP2_5, gP2_6, gP2_7, gP2_8, gP2_9, gP2_10, gP2_11, gG3_0, gG3_1, gG3_2, gP3_0, gP3_1, gP3_2, gG5_0, gP5_0, zpush_v, zpush_n, gCk, gAi, gSi, gLi, gLq, ↓if_pos, ↓if_neg, hO.1, hO.2.2.1, gg, lk, c3, bl, nI_add]
theorem l_X3_free (hO : oPic h P L.length g) (hw : WfS S) (hL : WfLs L) (hb : b < L.length) (hg : ∀ i, i < L.length → g i = nI (f i)) (hf : ∀ i, i < L.length → f i < L.length) (hk : k = P + 2 + 7 * f b) (h2 : fLook h k S (lnA L (f b)) o2) (hR : ∀ j, j < b → fLook h (P + 2 + 7 * f j) S (lnA L (f j)) (nI (off (f j)))) (hB : ∀ j, j < b → pE (pdL S L) off (f j) ≤ 5000) {p : Nat} (hp : p ≤ 5000) (Q : Option Value → Hp → Prop) : ∀ (m r : Nat) (i o : Option Value), m + r = b → (i = none ∨ ∃ y, i = some (.int y)) → okLc o →
    WP 30 8 [some (.ref P), some (.ref k), some (.int (nI b)), some (.int (nI (pRN (pdL S L) off f (f b) b r p))), some (.int (nI r)), i, o] [] h Q = Q (some (.int (nI (pRN (pdL S L) off f (f b) b b p)))) h := by
  have h16 := hL.1
  intro m
  induction m with
  | zero =>
    intro r i o hr hi ho
    have hr : r = b := by omega
    subst hr
    rw [sX3_freeOffset_8]
    simp (disch := (first | omega | assumption | (simp (disch := omega) only [Int32.lt_iff_toInt_lt, Int32.le_iff_toInt_le, ← Int32.toInt_inj, nI_toInt, zi_m1, zi_m2, zi_m3, zi_m9]; omega) | decide)) only [sX3_freeOffset_10, sX3_freeOffset_11, sX3_freeOffset_14, sX3_freeOffset_15i, sX3_freeOffset_15r, sX3_freeOffset_15z, sX3_freeOffset_15o, sX3_freeOffset_77, sX3_freeOffset_78, zpush_v, zpush_n, gCk, gAi, gSi, gLi, gLq, ↓if_pos, ↓if_neg]
  | succ m ih =>
    intro r i o hr hi ho
    have hq : pRN (pdL S L) off f (f b) b r p ≤ 5000 := pRN_le hp hB r
    have key := l_X3_freeIn hO hw hL hb hg hf hk h2 hR hB hq (r := r) Q (Q (some (.int (nI (pRN (pdL S L) off f (f b) b b p)))) h) (fun o' ho' => by
      rw [← ih (r + 1) (some (.int (nI b))) o' (by omega) (Or.inr ⟨_, rfl⟩) ho']
      simp (disch := (first | omega | assumption | (simp (disch := omega) only [Int32.lt_iff_toInt_lt, Int32.le_iff_toInt_le, ← Int32.toInt_inj, nI_toInt, zi_m1, zi_m2, zi_m3, zi_m9]; omega) | decide)) only [sX3_freeOffset_71i, sX3_freeOffset_71r, sX3_freeOffset_71z, sX3_freeOffset_71o, sX3_freeOffset_74, zpush_v, zpush_n, gCk, gAi, gSi, gLi, gLq, ↓if_pos, ↓if_neg, nI_add]
      rfl) b 0 o (by omega) ho
    rw [sX3_freeOffset_8]
    have key : WP 30 17 [some (.ref P), some (.ref k), some (.int (nI b)), some (.int (nI (pRN (pdL S L) off f (f b) b r p))), some (.int (nI r)), some (.int (nI 0)), o] [] h Q = _ := key
    rcases hi with rfl | ⟨y, rfl⟩
    all_goals
      simp (disch := (first | omega | assumption | (simp (disch := omega) only [Int32.lt_iff_toInt_lt, Int32.le_iff_toInt_le, ← Int32.toInt_inj, nI_toInt, zi_m1, zi_m2, zi_m3, zi_m9]; omega) | decide)) only [sX3_freeOffset_10, sX3_freeOffset_11, sX3_freeOffset_14, sX3_freeOffset_15i, sX3_freeOffset_15r, sX3_freeOffset_15z, sX3_freeOffset_15o, zpush_v, zpush_n, gCk, gAi, gSi, gLi, gLq, ↓if_pos, ↓if_neg]
      exact key
theorem m_X3_free (hO : oPic h P L.length g) (hw : WfS S) (hL : WfLs L) (hb : b < L.length) (hg : ∀ i, i < L.length → g i = nI (f i)) (hf : ∀ i, i < L.length → f i < L.length) (hk : k = P + 2 + 7 * f b) (h2 : fLook h k S (lnA L (f b)) o2) (hR : ∀ j, j < b → fLook h (P + 2 + 7 * f j) S (lnA L (f j)) (nI (off (f j)))) (hB : ∀ j, j < b → pE (pdL S L) off (f j) ≤ 5000) (Q : Option Value → Hp → Prop) :
    WPm 30 [.ref P, .ref k, .int (nI b)] h Q = Q (some (.int (nI (pRN (pdL S L) off f (f b) b b (mrg S (lnA L (f b))))))) h := by
  have c := h2.cell.1
  have := l_X3_free hO hw hL hb hg hf hk h2 hR hB (show mrg S (lnA L (f b)) ≤ 5000 from Nat.le_trans (mrg_le hw (lnA_wf hL _)) (by omega)) Q b 0 none none (by omega) (Or.inl rfl) (Or.inl rfl)
  rw [← this, eX3_freeOffset]
  simp (disch := (first | omega | assumption | (simp (disch := omega) only [Int32.lt_iff_toInt_lt, Int32.le_iff_toInt_le, ← Int32.toInt_inj, nI_toInt, zi_m1, zi_m2, zi_m3, zi_m9]; omega) | decide)) only [sX3_freeOffset_0, sX3_freeOffset_0n, sX3_freeOffset_1, sX3_freeOffset_4i, sX3_freeOffset_4r, sX3_freeOffset_4z, sX3_freeOffset_4o, sX3_freeOffset_5, sX3_freeOffset_6i, sX3_freeOffset_6r, sX3_freeOffset_6z, sX3_freeOffset_6o, gG2_0, gG2_1, gG2_2, gG2_3, gG2_4, gG2_5, gG2_6, gG2_7, gG2_8, gG2_9, gG2_10, gG2_11, gP2_0, gP2_1, gP2_2, gP2_3, gP2_4, gP2_5, gP2_6, gP2_7, gP2_8, gP2_9, gP2_10, gP2_11, zpush_v, zpush_n, gCk, gAi, gSi, gLi, gLq, ↓if_pos, ↓if_neg, c]
  rfl
theorem fLook.any {ln : Ln} {o : Int32} (hr : fLook h k S ln o) : anyL h k := by
  obtain ⟨sg, sy, hd, hO, -, -⟩ := hr
  exact ⟨_, _, _, _, _, _, _, _, _, _, _, _, hO⟩
theorem fLook.setF {ln : Ln} {o o' : Int32} (hr : fLook h k S ln o) : fLook (hset h k (.inr (2, [.int (nI ln.1), .int (nI ln.2.1), .int (nI (valS S 4 ln.2.2.1)), .int (nI (mrg S ln)), .int (nI (hgL S ln)), .int o', .int (nI (rdL S ln).2.1.length), .ref (k + 1), .int (nI (rdL S ln).2.2.length), .ref (k + 3), .int (nI (rdL S ln).2.2.sum), .ref (k + 5)]))) k S ln o' := by
  obtain ⟨sg, sy, hd, hO, h1, h2⟩ := hr
  exact ⟨sg, sy, hd, hO.setK, h1, h2⟩
/-- a picture, before and after it is drawn -/
def rPicA (h : Hp) (P : Nat) : Prop := (∃ n g, n ≤ 16 ∧ oPic h P n g) ∧ ∀ i, i < 16 → anyL h (P + 2 + 7 * i)
def rPic (h : Hp) (P : Nat) (S : Sh) (L : List Ln) (off : Nat → Nat) : Prop := (∃ g, oPic h P L.length g) ∧ rLooks h P S L (fun i => nI (off i)) ∧ (∀ i, L.length ≤ i → i < 16 → anyL h (P + 2 + 7 * i)) ∧ pOff (pdL S L) off ∧ ∀ i, i < L.length → off i ≤ 3400
theorem rPic.rest (hL : L.length ≤ 16) (hr : rPic h P S L off) : rPicA h P := by
  obtain ⟨⟨g, h1⟩, h2, h3, -⟩ := hr
  refine ⟨⟨_, g, hL, h1⟩, fun i hi => ?_⟩
  by_cases c : i < L.length
  · exact (h2 i c).any
  · exact h3 i (by omega) hi
variable {B s : Nat} {st : Stt}
theorem l_X3_drawA (hT : rScr h B s st) (hw : WfS st.1) (hL : WfLs st.2.1) (hsP : s + 7 ≤ P ∨ P + 116 ≤ s) (hB : P + 116 ≤ B) {n0 : Nat} (h0 : oPic h P st.2.1.length g) : ∀ (m i : Nat) (h1 : Hp) (of : Nat → Int32) (l3 l4 : Option Value), m + i = st.2.1.length → Same h h1 P 116 → oPic h1 P st.2.1.length g → (∀ j, j < i → fLook h1 (P + 2 + 7 * j) st.1 (lnA st.2.1 j) (of j)) → (∀ j, i ≤ j → j < 16 → anyL h1 (P + 2 + 7 * j)) → okLc l3 → okLc l4 →
    ∃ h2 of' l3' l4', Same h h2 P 116 ∧ oPic h2 P st.2.1.length g ∧ rLooks h2 P st.1 st.2.1 of' ∧ (∀ j, st.2.1.length ≤ j → j < 16 → anyL h2 (P + 2 + 7 * j)) ∧ okLc l3' ∧ okLc l4' ∧
      ∀ Q : Option Value → Hp → Prop, WP 26 10 [some (.ref P), some (.ref s), some (.int (nI i)), l3, l4] [] h1 Q = WP 26 56 [some (.ref P), some (.ref s), some (.int (nI st.2.1.length)), l3', l4'] [] h2 Q := by
  have h16 := hL.1
  intro m
  induction m with
  | zero =>
    intro i h1 of l3 l4 hm hs hO hR hA a3 a4
    have hm : i = st.2.1.length := by omega
    subst hm
    refine ⟨h1, of, l3, l4, hs, hO, hR, hA, a3, a4, fun Q => ?_⟩
    rw [sX3_draw_10]
    simp (disch := (first | omega | assumption | (simp (disch := omega) only [Int32.lt_iff_toInt_lt, Int32.le_iff_toInt_le, ← Int32.toInt_inj, nI_toInt, zi_m1, zi_m2, zi_m3, zi_m9]; omega) | decide)) only [sX3_draw_11, sX3_draw_12, sX3_draw_15, gG3_0, gG3_1, gG3_2, gP3_0, gP3_1, gP3_2, zpush_v, zpush_n, gCk, gAi, gSi, gLi, gLq, ↓if_pos, ↓if_neg, hO.1]
  | succ m ih =>
    intro i h1 of l3 l4 hm hs hO hR hA a3 a4
    have hi : i < st.2.1.length := by omega
    have hT1 := hT.off hs (by omega) (by omega)
    obtain ⟨q, q1, q2⟩ := m_X6_lineAtT hT1 h16 (lnA_get hi)
    obtain ⟨b1, t, b2, c1, c2⟩ := q1
    obtain ⟨b', e', g', m', ht', o', ns', ny', la', sg', sy', hd', hK⟩ := hA i (Nat.le_refl i) (by omega)
    obtain ⟨cs, hSh⟩ := hT1.cell
    obtain ⟨h2, s2, f2, r2⟩ := m_X2_read (q := q) (a := s + 1) (t := t) hK hw (lnA_wf hL i) hSh (by omega) (by omega) (fun h' hs' => ⟨by rw [hs'.at (by omega)]; exact c1, c2.off hs' (by omega)⟩)
    have lk := m_X3_lookAtT hO h16 hi
    obtain ⟨h3, of', l3', l4', z1, z2, z3, z4, z5, z6, z7⟩ := ih (i + 1) h2 (upd of i o') (some (.ref q)) (some (.ref (P + 2 + 7 * i))) (by omega) (hs.tr (s2.wide (by omega) (by omega))) (hO.off s2 (by omega)) (fun j hj => by
      by_cases e : j = i
      · subst e
        rw [upd_at]
        exact f2
      · rw [upd_off e]
        exact (hR j (by omega)).off s2 (by omega)) (fun j hj hj2 => (hA j (by omega) hj2).off s2 (by omega)) (Or.inr (Or.inr ⟨_, rfl⟩)) (Or.inr (Or.inr ⟨_, rfl⟩))
    refine ⟨h3, of', l3', l4', z1, z2, z3, z4, z5, z6, fun Q => ?_⟩
    rw [← z7 Q, sX3_draw_10]
    rcases a3 with rfl | rfl | ⟨y3, rfl⟩
    all_goals
      rcases a4 with rfl | rfl | ⟨y4, rfl⟩
      all_goals simp (disch := (first | omega | assumption | (simp (disch := omega) only [Int32.lt_iff_toInt_lt, Int32.le_iff_toInt_le, ← Int32.toInt_inj, nI_toInt, zi_m1, zi_m2, zi_m3, zi_m9]; omega) | decide)) only [sX3_draw_11, sX3_draw_12, sX3_draw_15, sX3_draw_18, sX3_draw_18n, sX3_draw_19, sX3_draw_20, sX3_draw_23i, sX3_draw_23iN, sX3_draw_23r, sX3_draw_23rN, sX3_draw_23z, sX3_draw_23zN, sX3_draw_23o, sX3_draw_23oN, sX3_draw_24, sX3_draw_25, sX3_draw_26, sX3_draw_29i, sX3_draw_29iN, sX3_draw_29r, sX3_draw_29rN, sX3_draw_29z, sX3_draw_29zN, sX3_draw_29o, sX3_draw_29oN, sX3_draw_31, sX3_draw_31n, sX3_draw_32, sX3_draw_32n, sX3_draw_35, sX3_draw_35n, sX3_draw_37, sX3_draw_37n, sX3_draw_40, sX3_draw_40n, sX3_draw_42, sX3_draw_42n, sX3_draw_43, sX3_draw_43n, sX3_draw_44, sX3_draw_47, sX3_draw_50i, sX3_draw_50r, sX3_draw_50z, sX3_draw_50o, sX3_draw_53, gG3_0, gG3_1, gG3_2, gP3_0, gP3_1, gP3_2, gG6_0, gG6_1, gG6_2, gG6_3, gP6_0, gP6_1, gP6_2, gP6_3, gG2_0, gG2_1, gG2_2, gG2_3, gG2_4, gG2_5, gG2_6, gG2_7, gG2_8, gG2_9, gG2_10, gG2_11, gP2_0, gP2_1, gP2_2, gP2_3, gP2_4, gP2_5, gP2_6, gP2_7, gP2_8, gP2_9, gP2_10, gP2_11, zpush_v, zpush_n, gCk, gAi, gSi, gLi, gLq, ↓if_pos, ↓if_neg, hO.1, cs, q2, lk, hK.1, r2, nI_add]
theorem upN_at {f : Nat → Nat} {k x : Nat} : updN f k x k = x := if_pos rfl
theorem upN_ne {f : Nat → Nat} {k x j : Nat} (h : ¬ j = k) : updN f k x j = f j := if_neg h
theorem pSrt.inj {bg : Nat → Nat} {n i j : Nat} (hS : pSrt bg n f) (hi : i < n) (hj : j < n) (h : f i = f j) : i = j := by
  rcases Nat.lt_trichotomy i j with c | c | c
  · have := hS.2.2 i j c hj
    rw [h] at this
    unfold pBef at this
    omega
  · exact c
  · have := hS.2.2 j i c hi
    rw [h] at this
    unfold pBef at this
    omega
theorem l_X3_drawB (hw : WfS S) (hL : WfLs L) (hg : ∀ i, i < L.length → g i = nI (f i)) (hS : pSrt (fun i => (lnA L i).1) L.length f) {h : Hp} : ∀ (m b : Nat) (h1 : Hp) (of : Nat → Int32) (off : Nat → Nat) (l3 l4 : Option Value), m + b = L.length → Same h h1 P 116 → oPic h1 P L.length g → rLooks h1 P S L of → (∀ j, L.length ≤ j → j < 16 → anyL h1 (P + 2 + 7 * j)) → (∀ j, j < b → of (f j) = nI (off (f j)) ∧ pOne (pdL S L) off (f j) ∧ off (f j) ≤ 200 + 200 * j) → okLc l3 → okLc l4 →
    ∃ h2 off', Same h h2 P 116 ∧ rPic h2 P S L off' ∧
      ∀ Q : Option Value → Hp → Prop, WP 26 62 [some (.ref P), some (.ref s), some (.int (nI b)), l3, l4] [] h1 Q = Q none h2 := by
  have h16 := hL.1
  intro m
  induction m with
  | zero =>
    intro b h1 of off l3 l4 hm hs hO hR hA hF a3 a4
    have hm : b = L.length := by omega
    subst hm
    have hall : ∀ i, i < L.length → of i = nI (off i) ∧ pOne (pdL S L) off i ∧ off i ≤ 3400 := by
      intro i hi
      obtain ⟨j, j1, j2⟩ := hS.2.1 i hi
      obtain ⟨u1, u2, u3⟩ := hF j j1
      rw [j2] at u1 u2 u3
      exact ⟨u1, u2, by omega⟩
    refine ⟨h1, off, hs, ⟨⟨g, hO⟩, fun i hi => ?_, hA, fun i hi => (hall i hi).2.1, fun i hi => (hall i hi).2.2⟩, fun Q => ?_⟩
    · have := hR i hi
      rw [(hall i hi).1] at this
      exact this
    · rw [sX3_draw_62]
      simp (disch := (first | omega | assumption | (simp (disch := omega) only [Int32.lt_iff_toInt_lt, Int32.le_iff_toInt_le, ← Int32.toInt_inj, nI_toInt, zi_m1, zi_m2, zi_m3, zi_m9]; omega) | decide)) only [sX3_draw_63, sX3_draw_64, sX3_draw_67, sX3_draw_103, gG3_0, gG3_1, gG3_2, gP3_0, gP3_1, gP3_2, zpush_v, zpush_n, gCk, gAi, gSi, gLi, gLq, ↓if_pos, ↓if_neg, hO.1]
  | succ m ih =>
    intro b h1 of off l3 l4 hm hs hO hR hA hF a3 a4
    have hb : b < L.length := by omega
    have e1 := hS.1 b hb
    have e0 := hg b hb
    have gg := m_X5_get hO.2.2 (k := b) (by omega) (by omega)
    rw [e0] at gg
    have lk := m_X3_lookAtT hO h16 e1
    have h2 := hR (f b) e1
    have hgt : ∀ j, hgL S (lnA L j) ≤ 200 := fun j => hgL_le hw (lnA_wf hL j)
    have hEb : ∀ j, j < b → pE (pdL S L) off (f j) ≤ 200 + 200 * b := by
      intro j hj
      have u1 := (hF j hj).2.2
      have u2 := hgt (f j)
      show off (f j) + hgL S (lnA L (f j)) ≤ _
      omega
    have fr := m_X3_free hO hw hL hb hg hS.1 rfl h2 (fun j hj => by rw [← (hF j hj).1]; exact hR _ (hS.1 j (by omega))) (fun j hj => by have := hEb j hj; omega)
    have hr : pRN (pdL S L) off f (f b) b b (mrg S (lnA L (f b))) ≤ 200 + 200 * b := pRN_le (Nat.le_trans (mrg_le hw (lnA_wf hL _)) (by omega)) hEb b
    have sK : ∀ E, Same h1 (hset h1 (P + 2 + 7 * f b) E) (P + 2 + 7 * f b) 7 := fun E => Same.set (by omega) (by omega)
    have hne : ∀ j, j < b → ¬ f j = f b := fun j hj e => by have := hS.inj (by omega) hb e; omega
    obtain ⟨h3, off', z1, z2, z3⟩ := ih (b + 1) _ (upd of (f b) (nI (pRN (pdL S L) off f (f b) b b (mrg S (lnA L (f b)))))) (updN off (f b) (pRN (pdL S L) off f (f b) b b (mrg S (lnA L (f b))))) (some (.ref (P + 2 + 7 * f b))) l4 (by omega) (hs.tr ((sK _).wide (by omega) (by omega))) (hO.off (sK _) (by omega)) (fun i hi => by
      by_cases e : i = f b
      · subst e
        rw [upd_at]
        exact h2.setF
      · rw [upd_off e]
        exact (hR i hi).off (sK _) (by omega)) (fun j j1 j2 => (hA j j1 j2).off (sK _) (by omega)) (fun j hj => by
      by_cases e : j = b
      · subst e
        refine ⟨by rw [upd_at, upN_at], ?_, by rw [upN_at]; exact hr⟩
        exact pOne_of (D := pdL S L) hS hb upN_at (fun i hi => upN_ne (hne i hi))
      · obtain ⟨u1, u2, u3⟩ := hF j (by omega)
        have nj := hne j (by omega)
        refine ⟨by rw [upd_off nj, upN_ne nj]; exact u1, pOne_congr (fun x hx hxb => ?_) (upN_ne nj).symm u2, by rw [upN_ne nj]; exact u3⟩
        obtain ⟨j', i1, i2⟩ := (hS.before (show j < L.length by omega) hx).mp hxb
        subst i2
        exact (upN_ne (hne j' (by omega))).symm) (Or.inr (Or.inr ⟨_, rfl⟩)) a4
    refine ⟨h3, off', z1, z2, fun Q => ?_⟩
    have c := h2.cell.1
    rw [← z3 Q, sX3_draw_62]
    rcases a3 with rfl | rfl | ⟨y3, rfl⟩
    all_goals simp (disch := (first | omega | assumption | (simp (disch := omega) only [Int32.lt_iff_toInt_lt, Int32.le_iff_toInt_le, ← Int32.toInt_inj, nI_toInt, zi_m1, zi_m2, zi_m3, zi_m9]; omega) | decide)) only [sX3_draw_63, sX3_draw_64, sX3_draw_67, sX3_draw_70, sX3_draw_71, sX3_draw_72, sX3_draw_75, sX3_draw_76, sX3_draw_79, sX3_draw_82i, sX3_draw_82iN, sX3_draw_82r, sX3_draw_82rN, sX3_draw_82z, sX3_draw_82zN, sX3_draw_82o, sX3_draw_82oN, sX3_draw_83, sX3_draw_83n, sX3_draw_84, sX3_draw_84n, sX3_draw_87, sX3_draw_87n, sX3_draw_88, sX3_draw_89, sX3_draw_89n, sX3_draw_90, sX3_draw_91, sX3_draw_94, sX3_draw_97i, sX3_draw_97r, sX3_draw_97z, sX3_draw_97o, sX3_draw_100, gG3_0, gG3_1, gG3_2, gP3_0, gP3_1, gP3_2, gG5_0, gP5_0, gG2_0, gG2_1, gG2_2, gG2_3, gG2_4, gG2_5, gG2_6, gG2_7, gG2_8, gG2_9, gG2_10, gG2_11, gP2_0, gP2_1, gP2_2, gP2_3, gP2_4, gP2_5, gP2_6, gP2_7, gP2_8, gP2_9, gP2_10, gP2_11, zpush_v, zpush_n, gCk, gAi, gSi, gLi, gLq, ↓if_pos, ↓if_neg, hO.1, hO.2.2.1, gg, lk, fr, c, nI_add]
theorem m_X3_draw (hA : rPicA h P) (hT : rScr h B s st) (hw : WfS st.1) (hL : WfLs st.2.1) (hsP : s + 7 ≤ P ∨ P + 116 ≤ s) (hB : P + 116 ≤ B) :
    ∃ h2 off, Same h h2 P 116 ∧ rPic h2 P st.1 st.2.1 off ∧ ∀ Q : Option Value → Hp → Prop, WPm 26 [.ref P, .ref s] h Q = Q none h2 := by
  obtain ⟨⟨n, g, hn, hO⟩, hK⟩ := hA
  have cs := hT.cell.1
  have s1 : Same h (hset h P (.inr (3, [.ref (P + 1), .int (nI st.2.1.length), .ref (P + 114)]))) P 1 := Same.set (by omega) (by omega)
  have hO1 : oPic (hset h P (.inr (3, [.ref (P + 1), .int (nI st.2.1.length), .ref (P + 114)]))) P st.2.1.length g := ⟨hset_same, by rw [hset_ne (by omega)]; exact hO.2.1, hO.2.2.off s1 (by omega)⟩
  have hT1 := hT.off s1 (by omega) (by omega)
  obtain ⟨h2, of, l3, l4, y1, y2, y3, y4, y5, y6, y7⟩ := l_X3_drawA (n0 := 0) hT1 hw hL hsP hB hO1 _ 0 _ (fun _ => 0) none none rfl Same.rf hO1 (fun j hj => by omega) (fun j _ hj => (hK j hj).off s1 (by omega)) (Or.inl rfl) (Or.inl rfl)
  obtain ⟨g3, f, w1, w2, w3⟩ := m_X3_sort y2 hL y3
  have s3 : Same h2 (hset h2 (P + 115) (ordC g3)) P 116 := Same.set (by omega) (by omega)
  have s3' : Same h2 (hset h2 (P + 115) (ordC g3)) (P + 115) 1 := Same.set (by omega) (by omega)
  obtain ⟨h4, off, x1, x2, x3⟩ := l_X3_drawB (s := s) hw hL w1 w2 (h := h) _ 0 _ of (fun _ => 0) l3 l4 rfl (((s1.wide (lo' := P) (n' := 116) (by omega) (by omega)).tr y1).tr s3) y2.setO (y3.off hL.1 s3' (by omega)) (fun j j1 j2 => (y4 j j1 j2).off s3' (by omega)) (fun j hj => by omega) y5 y6
  refine ⟨h4, off, x1, x2, fun Q => ?_⟩
  have e1 := y7 Q
  have e2 := x3 Q
  rw [← e2, eX3_draw]
  simp (disch := (first | omega | assumption | (simp (disch := omega) only [Int32.lt_iff_toInt_lt, Int32.le_iff_toInt_le, ← Int32.toInt_inj, nI_toInt, zi_m1, zi_m2, zi_m3, zi_m9]; omega) | decide)) only [sX3_draw_0, sX3_draw_1, sX3_draw_1n, sX3_draw_2, sX3_draw_5, sX3_draw_8, sX3_draw_9i, sX3_draw_9r, sX3_draw_9z, sX3_draw_9o, gG3_0, gG3_1, gG3_2, gP3_0, gP3_1, gP3_2, gG6_0, gG6_1, gG6_2, gG6_3, gP6_0, gP6_1, gP6_2, gP6_3, zpush_v, zpush_n, gCk, gAi, gSi, gLi, gLq, ↓if_pos, ↓if_neg, hO.1, cs]
  refine e1.trans ?_
  simp (disch := (first | omega | assumption | (simp (disch := omega) only [Int32.lt_iff_toInt_lt, Int32.le_iff_toInt_le, ← Int32.toInt_inj, nI_toInt, zi_m1, zi_m2, zi_m3, zi_m9]; omega) | decide)) only [sX3_draw_56, sX3_draw_57, sX3_draw_60, sX3_draw_61i, sX3_draw_61r, sX3_draw_61z, sX3_draw_61o, gG3_0, gG3_1, gG3_2, gP3_0, gP3_1, gP3_2, zpush_v, zpush_n, gCk, gAi, gSi, gLi, gLq, ↓if_pos, ↓if_neg, y2.1, w3]
end PJ
