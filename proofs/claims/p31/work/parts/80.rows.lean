/-! the law's own methods: what the class answers, decoded -/
section RO
variable {h : Hp} {X B : Nat} {p : PS}
theorem r_ck (hr : rP h X B p) (P : Prop) : zCk (h.1 X) 9 P = P := by
  rw [hr.facts.1, gCk]
theorem dO_m1 {n : Nat} : dO n (-1) = some none := if_pos rfl
theorem r_styleAt (hr : rP h X B p) (hw : WfP p) {s j : Nat} (hs : s < p.1.1.1) (hj : j < 9) (Q : Option Value → Hp → Prop) : WPm 76 [.ref X, .int (nI s), .int (nI j)] h Q = Q (some (.int (styleNum p.1.1 s j))) h := by
  have h10 := hw.1.1.1
  rw [x_styleAt hr hw]
  unfold qStyleAt
  rw [dN_nI (by omega) hs]
  simp only
  rw [dN_nI (by omega) hj]
theorem r_own (hr : rP h X B p) (hw : WfP p) {s j : Nat} (hs : s < p.1.1.1) (hj : j < 6) (Q : Option Value → Hp → Prop) : WPm 76 [.ref X, .int (nI s), .int (nI j)] h Q = Q (some (.int (eN (p.1.1.2.2 s j)))) h := by
  rw [r_styleAt hr hw hs (by omega)]
  unfold styleNum
  rw [if_pos hj]
theorem r_par (hr : rP h X B p) (hw : WfP p) {s : Nat} (hs : s < p.1.1.1) (Q : Option Value → Hp → Prop) : WPm 76 [.ref X, .int (nI s), .int (nI 6)] h Q = Q (some (.int (eN (p.1.1.2.1 s)))) h := by
  rw [r_styleAt hr hw hs (by omega)]
  rfl
theorem r_anc (hr : rP h X B p) (hw : WfP p) {s : Nat} (hs : s < p.1.1.1) (Q : Option Value → Hp → Prop) : WPm 76 [.ref X, .int (nI s), .int (nI 7)] h Q = Q (some (.int (nI (cntA p.1.1 10 (p.1.1.2.1 s))))) h := by
  rw [r_styleAt hr hw hs (by omega)]
  rfl
theorem r_chl (hr : rP h X B p) (hw : WfP p) {s : Nat} (hs : s < p.1.1.1) (Q : Option Value → Hp → Prop) : WPm 76 [.ref X, .int (nI s), .int (nI 8)] h Q = Q (some (.int (nI (chl p.1.1 s p.1.1.1)))) h := by
  rw [r_styleAt hr hw hs (by omega)]
  rfl
theorem r_val (hr : rP h X B p) (hw : WfP p) {o : Option Nat} {j : Nat} (ho : ∀ s, o = some s → s < p.1.1.1) (hj : j < 6) (Q : Option Value → Hp → Prop) : WPm 77 [.ref X, .int (eN o), .int (nI j)] h Q = Q (some (.int (nI (valS p.1.1 j o)))) h := by
  have h10 := hw.1.1.1
  rw [x_valueOf hr hw]
  unfold qValueOf
  cases o with
  | none =>
    rw [eN_n, dO_m1]
    simp only
    rw [dN_nI (by omega) hj]
  | some s =>
    rw [eN_s, dO_nI (by omega) (ho s rfl)]
    simp only
    rw [dN_nI (by omega) hj]
theorem r_valS (hr : rP h X B p) (hw : WfP p) {s j : Nat} (hs : s < p.1.1.1) (hj : j < 6) (Q : Option Value → Hp → Prop) : WPm 77 [.ref X, .int (nI s), .int (nI j)] h Q = Q (some (.int (nI (valS p.1.1 j (some s))))) h := r_val (o := some s) hr hw (fun q hq => by cases hq; exact hs) hj Q
theorem r_valN (hr : rP h X B p) (hw : WfP p) {j : Nat} (hj : j < 6) (Q : Option Value → Hp → Prop) : WPm 77 [.ref X, .int (-1), .int (nI j)] h Q = Q (some (.int (nI (basicN j)))) h := r_val (o := none) hr hw (fun q hq => by cases hq) hj Q
theorem r_from (hr : rP h X B p) (hw : WfP p) {s j : Nat} (hs : s < p.1.1.1) (hj : j < 6) (Q : Option Value → Hp → Prop) : WPm 78 [.ref X, .int (nI s), .int (nI j)] h Q = Q (some (.int (eS (wk p.1.1 j 10 (some s))))) h := by
  have h10 := hw.1.1.1
  rw [x_from hr hw]
  unfold qFrom
  rw [dN_nI (by omega) hs]
  simp only
  rw [dN_nI (by omega) hj]
theorem r_about (hr : rP h X B p) (hw : WfP p) {i j : Nat} (hi : i < p.1.2.1.length) (hj : j < 12) (Q : Option Value → Hp → Prop) : WPm 88 [.ref X, .int (nI i), .int (nI j)] h Q = Q (some (.int (lineNum p.1 i j))) h := by
  rw [x_about hr hw, qAbout_nI hw hi hj]
theorem r_sign (hr : rP h X B p) (hw : WfP p) {i k j : Nat} (hi : i < p.1.2.1.length) (hk : k < (rdL p.1.1 (lnA p.1.2.1 i)).2.1.length) (hj : j < 6) (Q : Option Value → Hp → Prop) : WPm 90 [.ref X, .int (nI i), .int (nI k), .int (nI j)] h Q = Q (some (.int (sgW ((rdL p.1.1 (lnA p.1.2.1 i)).2.1.getD k (0, (fun _ => 0), none)) j))) h := by
  rw [x_sign hr hw, qSign_nI hw hi hk hj]
theorem r_syl (hr : rP h X B p) (hw : WfP p) {i k j : Nat} (hi : i < p.1.2.1.length) (hk : k < (rdL p.1.1 (lnA p.1.2.1 i)).2.2.length) (hj : j < 3) (Q : Option Value → Hp → Prop) : WPm 91 [.ref X, .int (nI i), .int (nI k), .int (nI j)] h Q = Q (some (.int (syW (lnA p.1.2.1 i).1 (rdL p.1.1 (lnA p.1.2.1 i)) k j))) h := by
  rw [x_syllable hr hw, qSyl_nI hw hi hk hj]
theorem r_shows (hr : rP h X B p) (hw : WfP p) {i k : Nat} (hi : i < p.1.2.1.length) (hk : k < (rdL p.1.1 (lnA p.1.2.1 i)).2.1.length) (t : Int32) (Q : Option Value → Hp → Prop) : WPm 93 [.ref X, .int (nI i), .int (nI k), .int t] h Q = Q (some (.int (if shownP (lnA p.1.2.1 i) t = true then sgW ((rdL p.1.1 (lnA p.1.2.1 i)).2.1.getD k (0, (fun _ => 0), none)) (if sungP (lnA p.1.2.1 i).1 (rdL p.1.1 (lnA p.1.2.1 i)).2.2 ((rdL p.1.1 (lnA p.1.2.1 i)).2.1.getD k (0, (fun _ => 0), none)).2.2 t = true then 3 else 2) else -9))) h := by
  have h16 := hw.1.2.1.1
  have r1 := (rdL_ok hw.1.1 (hw.1.2.1.2 _ (lnA_mem hi))).1
  rw [x_shows hr hw]
  unfold qShows
  rw [dN_nI (by omega) hi]
  simp only
  rw [dN_nI (by omega) hk]
theorem cntA_more {S : Sh} : ∀ (k d : Nat) (o : Option Nat), anc S k o = none → k ≤ d → cntA S d o = cntA S k o := by
  intro k
  induction k with
  | zero =>
    intro d o ho _
    have ho : o = none := ho
    subst ho
    cases d <;> rfl
  | succ k ih =>
    intro d o ho hd
    obtain ⟨d, rfl⟩ : ∃ e, d = e + 1 := ⟨d - 1, by omega⟩
    cases o with
    | none => rfl
    | some s =>
      simp only [cntA]
      rw [ih d (S.2.1 s) ho (by omega)]
theorem anc9 {S : Sh} (hw : WfS S) {s : Nat} (hs : s < S.1) : anc S 9 (S.2.1 s) = none := anc_more (k := S.1) (d := 10) (anc_end hw hs) hw.1
theorem cnt_par {S : Sh} (hw : WfS S) {q : Nat} (hq : q < S.1) : cntA S 10 (some q) = 1 + cntA S 10 (S.2.1 q) := by
  have e : cntA S 10 (some q) = cntA S 9 (S.2.1 q) + 1 := by
    show (if q < S.1 then cntA S 9 (S.2.1 q) + 1 else 0) = _
    rw [if_pos hq]
  rw [e, cntA_more 9 10 _ (anc9 hw hq) (by omega)]
  omega
theorem cnt_9 {S : Sh} (hw : WfS S) {q : Nat} (hq : q < S.1) : cntA S 10 (S.2.1 q) ≤ 9 := by
  rw [cntA_more 9 10 _ (anc9 hw hq) (by omega)]
  exact cntA_le S 9 _
theorem wk_own {S : Sh} {j s v : Nat} (hs : s < S.1) (hv : S.2.2 s j = some v) : wk S j 10 (some s) = some s := by
  simp only [wk, if_pos hs, hv]
theorem wk_par {S : Sh} (hw : WfS S) {j s : Nat} (hs : s < S.1) (hv : S.2.2 s j = none) : wk S j 10 (some s) = wk S j 10 (S.2.1 s) := by
  have e : wk S j 10 (some s) = wk S j 9 (S.2.1 s) := by
    show (if s < S.1 then (match S.2.2 s j with
      | some _ => some s
      | none => wk S j 9 (S.2.1 s)) else none) = _
    rw [if_pos hs, hv]
  rw [e, wk_more 9 10 _ (anc9 hw hs) (by omega)]
theorem wk_at {S : Sh} {j f : Nat} {o : Option Nat} (hf : wk S j 10 o = some f) : f < S.1 ∧ S.2.2 f j = some (valS S j o) := by
  obtain ⟨h1, h2⟩ := wk_lt hf
  refine ⟨h1, ?_⟩
  unfold valS
  rw [hf]
  cases hq : S.2.2 f j with
  | none => rw [hq] at h2; cases h2
  | some v => simp [hq]
end RO
section LB
variable {h : Hp}
theorem m_L_basic {q : Nat} (hq : q < 6) (Q : Option Value → Hp → Prop) : WPm 110 [.int (nI q)] h Q = Q (some (.int (nI (basicN q)))) h := by
  rw [eL_basic]
  match q, hq with
  | 0, _ => simp (disch := (first | omega | assumption | (simp (disch := omega) only [Int32.lt_iff_toInt_lt, Int32.le_iff_toInt_le, ← Int32.toInt_inj, nI_toInt, zi_m1, zi_m2, zi_m3, zi_m9]; omega) | decide)) only [sL_basic_0, sL_basic_1, sL_basic_4, sL_basic_6, sL_basic_9, sL_basic_10, sL_basic_11, sL_basic_14, sL_basic_16, sL_basic_19, sL_basic_20, sL_basic_21, sL_basic_24, sL_basic_25, sL_basic_28, sL_basic_29, sL_basic_30, sL_basic_33, sL_basic_35, sL_basic_38, sL_basic_39, zpush_v, zpush_n, gCk, gAi, gSi, gLi, gLq, ↓if_pos, ↓if_neg]; rfl
  | 1, _ => simp (disch := (first | omega | assumption | (simp (disch := omega) only [Int32.lt_iff_toInt_lt, Int32.le_iff_toInt_le, ← Int32.toInt_inj, nI_toInt, zi_m1, zi_m2, zi_m3, zi_m9]; omega) | decide)) only [sL_basic_0, sL_basic_1, sL_basic_4, sL_basic_6, sL_basic_9, sL_basic_10, sL_basic_11, sL_basic_14, sL_basic_16, sL_basic_19, sL_basic_20, sL_basic_21, sL_basic_24, sL_basic_25, sL_basic_28, sL_basic_29, sL_basic_30, sL_basic_33, sL_basic_35, sL_basic_38, sL_basic_39, zpush_v, zpush_n, gCk, gAi, gSi, gLi, gLq, ↓if_pos, ↓if_neg]; rfl
  | 2, _ => simp (disch := (first | omega | assumption | (simp (disch := omega) only [Int32.lt_iff_toInt_lt, Int32.le_iff_toInt_le, ← Int32.toInt_inj, nI_toInt, zi_m1, zi_m2, zi_m3, zi_m9]; omega) | decide)) only [sL_basic_0, sL_basic_1, sL_basic_4, sL_basic_6, sL_basic_9, sL_basic_10, sL_basic_11, sL_basic_14, sL_basic_16, sL_basic_19, sL_basic_20, sL_basic_21, sL_basic_24, sL_basic_25, sL_basic_28, sL_basic_29, sL_basic_30, sL_basic_33, sL_basic_35, sL_basic_38, sL_basic_39, zpush_v, zpush_n, gCk, gAi, gSi, gLi, gLq, ↓if_pos, ↓if_neg]; rfl
  | 3, _ => simp (disch := (first | omega | assumption | (simp (disch := omega) only [Int32.lt_iff_toInt_lt, Int32.le_iff_toInt_le, ← Int32.toInt_inj, nI_toInt, zi_m1, zi_m2, zi_m3, zi_m9]; omega) | decide)) only [sL_basic_0, sL_basic_1, sL_basic_4, sL_basic_6, sL_basic_9, sL_basic_10, sL_basic_11, sL_basic_14, sL_basic_16, sL_basic_19, sL_basic_20, sL_basic_21, sL_basic_24, sL_basic_25, sL_basic_28, sL_basic_29, sL_basic_30, sL_basic_33, sL_basic_35, sL_basic_38, sL_basic_39, zpush_v, zpush_n, gCk, gAi, gSi, gLi, gLq, ↓if_pos, ↓if_neg]; rfl
  | 4, _ => simp (disch := (first | omega | assumption | (simp (disch := omega) only [Int32.lt_iff_toInt_lt, Int32.le_iff_toInt_le, ← Int32.toInt_inj, nI_toInt, zi_m1, zi_m2, zi_m3, zi_m9]; omega) | decide)) only [sL_basic_0, sL_basic_1, sL_basic_4, sL_basic_6, sL_basic_9, sL_basic_10, sL_basic_11, sL_basic_14, sL_basic_16, sL_basic_19, sL_basic_20, sL_basic_21, sL_basic_24, sL_basic_25, sL_basic_28, sL_basic_29, sL_basic_30, sL_basic_33, sL_basic_35, sL_basic_38, sL_basic_39, zpush_v, zpush_n, gCk, gAi, gSi, gLi, gLq, ↓if_pos, ↓if_neg]; rfl
  | 5, _ => simp (disch := (first | omega | assumption | (simp (disch := omega) only [Int32.lt_iff_toInt_lt, Int32.le_iff_toInt_le, ← Int32.toInt_inj, nI_toInt, zi_m1, zi_m2, zi_m3, zi_m9]; omega) | decide)) only [sL_basic_0, sL_basic_1, sL_basic_4, sL_basic_6, sL_basic_9, sL_basic_10, sL_basic_11, sL_basic_14, sL_basic_16, sL_basic_19, sL_basic_20, sL_basic_21, sL_basic_24, sL_basic_25, sL_basic_28, sL_basic_29, sL_basic_30, sL_basic_33, sL_basic_35, sL_basic_38, sL_basic_39, zpush_v, zpush_n, gCk, gAi, gSi, gLi, gLq, ↓if_pos, ↓if_neg]; rfl
  | n + 6, h => exact absurd h (by omega)
end LB
