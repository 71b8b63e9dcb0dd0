/-! SubtitleStyles: fingerprint, whole -/
section XN
variable {h h' : Hp} {X B : Nat} {p : PS}
theorem qAbout_nI (hw : WfP p) {i j : Nat} (hi : i < p.1.2.1.length) (hj : j < 12) : qAbout p (nI i) (nI j) = lineNum p.1 i j := by
  have h16 := hw.1.2.1.1
  unfold qAbout
  rw [dN_nI (by omega) hi]
  simp only
  rw [dN_nI (by omega) hj]
theorem qSign_nI (hw : WfP p) {i k j : Nat} (hi : i < p.1.2.1.length) (hk : k < (rdL p.1.1 (lnA p.1.2.1 i)).2.1.length) (hj : j < 6) : qSign p (nI i) (nI k) (nI j) = sgW ((rdL p.1.1 (lnA p.1.2.1 i)).2.1.getD k (0, (fun _ => 0), none)) j := by
  have h16 := hw.1.2.1.1
  have r1 := (rdL_ok hw.1.1 (hw.1.2.1.2 _ (lnA_mem hi))).1
  unfold qSign
  rw [dN_nI (by omega) hi]
  simp only
  rw [dN_nI (by omega) hj]
  simp only
  rw [dN_nI (by omega) hk]
theorem qSyl_nI (hw : WfP p) {i k j : Nat} (hi : i < p.1.2.1.length) (hk : k < (rdL p.1.1 (lnA p.1.2.1 i)).2.2.length) (hj : j < 3) : qSyllable p (nI i) (nI k) (nI j) = syW (lnA p.1.2.1 i).1 (rdL p.1.1 (lnA p.1.2.1 i)) k j := by
  have h16 := hw.1.2.1.1
  have r1 := (rdL_ok hw.1.1 (hw.1.2.1.2 _ (lnA_mem hi))).2.1
  unfold qSyllable
  rw [dN_nI (by omega) hi]
  simp only
  rw [dN_nI (by omega) hj]
  simp only
  rw [dN_nI (by omega) hk]
theorem l_mlA (hr : rP h X B p) (hw : WfP p) {i : Nat} (hi : i < p.1.2.1.length) (s0 s : Int64) (l7 l8 l9 : Option Value) (Q : Option Value → Hp → Prop) : ∀ (m j : Nat), m + j = 12 →
    WP 102 6 [some (.ref X), some (.long s0), none, some (.int (nI i)), some (.long (fpG (fun w s => fpN s (lineNum p.1 i w)) j s)), none, some (.int (nI j)), l7, l8, l9] [] h Q = WP 102 33 [some (.ref X), some (.long s0), none, some (.int (nI i)), some (.long (fpG (fun w s => fpN s (lineNum p.1 i w)) 12 s)), none, some (.int (nI 12)), l7, l8, l9] [] h Q := by
  obtain ⟨c1, c2, hS⟩ := hr.facts
  intro m
  induction m with
  | zero =>
    intro j hj
    have hj : j = 12 := by omega
    subst hj
    rw [sX9_mixLine_6]
    simp (disch := (first | omega | assumption | (simp (disch := omega) only [Int32.lt_iff_toInt_lt, Int32.le_iff_toInt_le, ← Int32.toInt_inj, nI_toInt, zi_m1, zi_m2, zi_m3, zi_m9]; omega) | decide)) only [sX9_mixLine_8, sX9_mixLine_10, zpush_v, zpush_n, gCk, gAi, gSi, gLi, gLq, ↓if_pos, ↓if_neg]
  | succ m ih =>
    intro j hj
    have a := x_about hr hw (nI i) (nI j)
    rw [qAbout_nI hw hi (by omega)] at a
    rw [← ih (j + 1) (by omega), sX9_mixLine_6]
    simp (disch := (first | omega | assumption | (simp (disch := omega) only [Int32.lt_iff_toInt_lt, Int32.le_iff_toInt_le, ← Int32.toInt_inj, nI_toInt, zi_m1, zi_m2, zi_m3, zi_m9]; omega) | decide)) only [sX9_mixLine_8, sX9_mixLine_10, sX9_mixLine_13, sX9_mixLine_15, sX9_mixLine_16, sX9_mixLine_17, sX9_mixLine_19, sX9_mixLine_22, sX9_mixLine_25i, sX9_mixLine_25r, sX9_mixLine_25z, sX9_mixLine_25o, sX9_mixLine_27i, sX9_mixLine_27r, sX9_mixLine_27z, sX9_mixLine_27o, sX9_mixLine_30, zpush_v, zpush_n, gCk, gAi, gSi, gLi, gLq, ↓if_pos, ↓if_neg, c1, a, m_X9_mix, nI_add]
    rfl
theorem l_mlB2 (hr : rP h X B p) (hw : WfP p) {i k : Nat} (hi : i < p.1.2.1.length) (hk : k < (rdL p.1.1 (lnA p.1.2.1 i)).2.1.length) (s0 s : Int64) (l6 l9 : Option Value) (Q : Option Value → Hp → Prop) : ∀ (m j : Nat), m + j = 6 →
    WP 102 54 [some (.ref X), some (.long s0), none, some (.int (nI i)), some (.long (fpG (fun w s => fpN s (sgW ((rdL p.1.1 (lnA p.1.2.1 i)).2.1.getD k (0, (fun _ => 0), none)) w)) j s)), none, l6, some (.int (nI k)), some (.int (nI j)), l9] [] h Q = WP 102 83 [some (.ref X), some (.long s0), none, some (.int (nI i)), some (.long (fpG (fun w s => fpN s (sgW ((rdL p.1.1 (lnA p.1.2.1 i)).2.1.getD k (0, (fun _ => 0), none)) w)) 6 s)), none, l6, some (.int (nI k)), some (.int (nI 6)), l9] [] h Q := by
  obtain ⟨c1, c2, hS⟩ := hr.facts
  intro m
  induction m with
  | zero =>
    intro j hj
    have hj : j = 6 := by omega
    subst hj
    rw [sX9_mixLine_54]
    simp (disch := (first | omega | assumption | (simp (disch := omega) only [Int32.lt_iff_toInt_lt, Int32.le_iff_toInt_le, ← Int32.toInt_inj, nI_toInt, zi_m1, zi_m2, zi_m3, zi_m9]; omega) | decide)) only [sX9_mixLine_56, sX9_mixLine_58, zpush_v, zpush_n, gCk, gAi, gSi, gLi, gLq, ↓if_pos, ↓if_neg]
  | succ m ih =>
    intro j hj
    have a := x_sign hr hw (nI i) (nI k) (nI j)
    rw [qSign_nI hw hi hk (by omega)] at a
    rw [← ih (j + 1) (by omega), sX9_mixLine_54]
    simp (disch := (first | omega | assumption | (simp (disch := omega) only [Int32.lt_iff_toInt_lt, Int32.le_iff_toInt_le, ← Int32.toInt_inj, nI_toInt, zi_m1, zi_m2, zi_m3, zi_m9]; omega) | decide)) only [sX9_mixLine_56, sX9_mixLine_58, sX9_mixLine_61, sX9_mixLine_63, sX9_mixLine_64, sX9_mixLine_65, sX9_mixLine_67, sX9_mixLine_69, sX9_mixLine_72, sX9_mixLine_75i, sX9_mixLine_75r, sX9_mixLine_75z, sX9_mixLine_75o, sX9_mixLine_77i, sX9_mixLine_77r, sX9_mixLine_77z, sX9_mixLine_77o, sX9_mixLine_80, zpush_v, zpush_n, gCk, gAi, gSi, gLi, gLq, ↓if_pos, ↓if_neg, c1, a, m_X9_mix, nI_add]
    rfl
theorem l_mlC2 (hr : rP h X B p) (hw : WfP p) {i k : Nat} (hi : i < p.1.2.1.length) (hk : k < (rdL p.1.1 (lnA p.1.2.1 i)).2.2.length) (s0 s : Int64) (l6 l7 : Option Value) (Q : Option Value → Hp → Prop) : ∀ (m j : Nat), m + j = 3 →
    WP 102 110 [some (.ref X), some (.long s0), none, some (.int (nI i)), some (.long (fpG (fun w s => fpN s (syW (lnA p.1.2.1 i).1 (rdL p.1.1 (lnA p.1.2.1 i)) k w)) j s)), none, l6, l7, some (.int (nI k)), some (.int (nI j))] [] h Q = WP 102 138 [some (.ref X), some (.long s0), none, some (.int (nI i)), some (.long (fpG (fun w s => fpN s (syW (lnA p.1.2.1 i).1 (rdL p.1.1 (lnA p.1.2.1 i)) k w)) 3 s)), none, l6, l7, some (.int (nI k)), some (.int (nI 3))] [] h Q := by
  obtain ⟨c1, c2, hS⟩ := hr.facts
  intro m
  induction m with
  | zero =>
    intro j hj
    have hj : j = 3 := by omega
    subst hj
    rw [sX9_mixLine_110]
    simp (disch := (first | omega | assumption | (simp (disch := omega) only [Int32.lt_iff_toInt_lt, Int32.le_iff_toInt_le, ← Int32.toInt_inj, nI_toInt, zi_m1, zi_m2, zi_m3, zi_m9]; omega) | decide)) only [sX9_mixLine_112, sX9_mixLine_113, zpush_v, zpush_n, gCk, gAi, gSi, gLi, gLq, ↓if_pos, ↓if_neg]
  | succ m ih =>
    intro j hj
    have a := x_syllable hr hw (nI i) (nI k) (nI j)
    rw [qSyl_nI hw hi hk (by omega)] at a
    rw [← ih (j + 1) (by omega), sX9_mixLine_110]
    simp (disch := (first | omega | assumption | (simp (disch := omega) only [Int32.lt_iff_toInt_lt, Int32.le_iff_toInt_le, ← Int32.toInt_inj, nI_toInt, zi_m1, zi_m2, zi_m3, zi_m9]; omega) | decide)) only [sX9_mixLine_112, sX9_mixLine_113, sX9_mixLine_116, sX9_mixLine_118, sX9_mixLine_119, sX9_mixLine_120, sX9_mixLine_122, sX9_mixLine_124, sX9_mixLine_127, sX9_mixLine_130i, sX9_mixLine_130r, sX9_mixLine_130z, sX9_mixLine_130o, sX9_mixLine_132i, sX9_mixLine_132r, sX9_mixLine_132z, sX9_mixLine_132o, sX9_mixLine_135, zpush_v, zpush_n, gCk, gAi, gSi, gLi, gLq, ↓if_pos, ↓if_neg, c1, a, m_X9_mix, nI_add]
    rfl
theorem l_mlB (hr : rP h X B p) (hw : WfP p) {i : Nat} (hi : i < p.1.2.1.length) (s0 s : Int64) (l9 : Option Value) (Q : Option Value → Hp → Prop) (R : Prop)
    (K : ∀ l8, WP 102 89 [some (.ref X), some (.long s0), none, some (.int (nI i)), some (.long (fpG (fun y s => fpG (fun w s => fpN s (sgW ((rdL p.1.1 (lnA p.1.2.1 i)).2.1.getD y (0, (fun _ => 0), none)) w)) 6 s) (rdL p.1.1 (lnA p.1.2.1 i)).2.1.length s)), none, some (.int (nI (rdL p.1.1 (lnA p.1.2.1 i)).2.1.length)), some (.int (nI (rdL p.1.1 (lnA p.1.2.1 i)).2.1.length)), l8, l9] [] h Q = R) : ∀ (m j : Nat) (l8 : Option Value), m + j = (rdL p.1.1 (lnA p.1.2.1 i)).2.1.length →
    WP 102 44 [some (.ref X), some (.long s0), none, some (.int (nI i)), some (.long (fpG (fun y s => fpG (fun w s => fpN s (sgW ((rdL p.1.1 (lnA p.1.2.1 i)).2.1.getD y (0, (fun _ => 0), none)) w)) 6 s) j s)), none, some (.int (nI (rdL p.1.1 (lnA p.1.2.1 i)).2.1.length)), some (.int (nI j)), l8, l9] [] h Q = R := by
  have r1 := (rdL_ok hw.1.1 (hw.1.2.1.2 _ (lnA_mem hi))).1
  intro m
  induction m with
  | zero =>
    intro j l8 hj
    have hj : j = (rdL p.1.1 (lnA p.1.2.1 i)).2.1.length := by omega
    subst hj
    rw [sX9_mixLine_44]
    simp (disch := (first | omega | assumption | (simp (disch := omega) only [Int32.lt_iff_toInt_lt, Int32.le_iff_toInt_le, ← Int32.toInt_inj, nI_toInt, zi_m1, zi_m2, zi_m3, zi_m9]; omega) | decide)) only [sX9_mixLine_46, sX9_mixLine_48, zpush_v, zpush_n, gCk, gAi, gSi, gLi, gLq, ↓if_pos, ↓if_neg]
    exact K l8
  | succ m ih =>
    intro j l8 hj
    have a := l_mlB2 hr hw hi (show j < (rdL p.1.1 (lnA p.1.2.1 i)).2.1.length by omega) s0 (fpG (fun y s => fpG (fun w s => fpN s (sgW ((rdL p.1.1 (lnA p.1.2.1 i)).2.1.getD y (0, (fun _ => 0), none)) w)) 6 s) j s) (some (.int (nI (rdL p.1.1 (lnA p.1.2.1 i)).2.1.length))) l9 Q 6 0 (by omega)
    rw [← ih (j + 1) (some (.int (nI 6))) (by omega), sX9_mixLine_44]
    simp (disch := (first | omega | assumption | (simp (disch := omega) only [Int32.lt_iff_toInt_lt, Int32.le_iff_toInt_le, ← Int32.toInt_inj, nI_toInt, zi_m1, zi_m2, zi_m3, zi_m9]; omega) | decide)) only [sX9_mixLine_46, sX9_mixLine_48, sX9_mixLine_51, sX9_mixLine_52i, sX9_mixLine_52r, sX9_mixLine_52z, sX9_mixLine_52o, zpush_v, zpush_n, gCk, gAi, gSi, gLi, gLq, ↓if_pos, ↓if_neg]
    refine (Eq.trans (by rfl) a).trans ?_
    simp (disch := (first | omega | assumption | (simp (disch := omega) only [Int32.lt_iff_toInt_lt, Int32.le_iff_toInt_le, ← Int32.toInt_inj, nI_toInt, zi_m1, zi_m2, zi_m3, zi_m9]; omega) | decide)) only [sX9_mixLine_83i, sX9_mixLine_83r, sX9_mixLine_83z, sX9_mixLine_83o, sX9_mixLine_86, zpush_v, zpush_n, gCk, gAi, gSi, gLi, gLq, ↓if_pos, ↓if_neg, nI_add]
    rfl
theorem l_mlC (hr : rP h X B p) (hw : WfP p) {i : Nat} (hi : i < p.1.2.1.length) (s0 s : Int64) (l6 : Option Value) (Q : Option Value → Hp → Prop) : ∀ (m j : Nat) (l9 : Option Value), m + j = (rdL p.1.1 (lnA p.1.2.1 i)).2.2.length →
    WP 102 100 [some (.ref X), some (.long s0), none, some (.int (nI i)), some (.long (fpG (fun y s => fpG (fun w s => fpN s (syW (lnA p.1.2.1 i).1 (rdL p.1.1 (lnA p.1.2.1 i)) y w)) 3 s) j s)), none, l6, some (.int (nI (rdL p.1.1 (lnA p.1.2.1 i)).2.2.length)), some (.int (nI j)), l9] [] h Q = Q (some (.long (fpG (fun y s => fpG (fun w s => fpN s (syW (lnA p.1.2.1 i).1 (rdL p.1.1 (lnA p.1.2.1 i)) y w)) 3 s) (rdL p.1.1 (lnA p.1.2.1 i)).2.2.length s))) h := by
  have r1 := (rdL_ok hw.1.1 (hw.1.2.1.2 _ (lnA_mem hi))).2.1
  intro m
  induction m with
  | zero =>
    intro j l9 hj
    have hj : j = (rdL p.1.1 (lnA p.1.2.1 i)).2.2.length := by omega
    subst hj
    rw [sX9_mixLine_100]
    simp (disch := (first | omega | assumption | (simp (disch := omega) only [Int32.lt_iff_toInt_lt, Int32.le_iff_toInt_le, ← Int32.toInt_inj, nI_toInt, zi_m1, zi_m2, zi_m3, zi_m9]; omega) | decide)) only [sX9_mixLine_102, sX9_mixLine_104, sX9_mixLine_144, sX9_mixLine_146, zpush_v, zpush_n, gCk, gAi, gSi, gLi, gLq, ↓if_pos, ↓if_neg]
  | succ m ih =>
    intro j l9 hj
    have a := l_mlC2 hr hw hi (show j < (rdL p.1.1 (lnA p.1.2.1 i)).2.2.length by omega) s0 (fpG (fun y s => fpG (fun w s => fpN s (syW (lnA p.1.2.1 i).1 (rdL p.1.1 (lnA p.1.2.1 i)) y w)) 3 s) j s) l6 (some (.int (nI (rdL p.1.1 (lnA p.1.2.1 i)).2.2.length))) Q 3 0 (by omega)
    rw [← ih (j + 1) (some (.int (nI 3))) (by omega), sX9_mixLine_100]
    simp (disch := (first | omega | assumption | (simp (disch := omega) only [Int32.lt_iff_toInt_lt, Int32.le_iff_toInt_le, ← Int32.toInt_inj, nI_toInt, zi_m1, zi_m2, zi_m3, zi_m9]; omega) | decide)) only [sX9_mixLine_102, sX9_mixLine_104, sX9_mixLine_107, sX9_mixLine_108i, sX9_mixLine_108r, sX9_mixLine_108z, sX9_mixLine_108o, zpush_v, zpush_n, gCk, gAi, gSi, gLi, gLq, ↓if_pos, ↓if_neg]
    refine (Eq.trans (by rfl) a).trans ?_
    simp (disch := (first | omega | assumption | (simp (disch := omega) only [Int32.lt_iff_toInt_lt, Int32.le_iff_toInt_le, ← Int32.toInt_inj, nI_toInt, zi_m1, zi_m2, zi_m3, zi_m9]; omega) | decide)) only [sX9_mixLine_138i, sX9_mixLine_138r, sX9_mixLine_138z, sX9_mixLine_138o, sX9_mixLine_141, zpush_v, zpush_n, gCk, gAi, gSi, gLi, gLq, ↓if_pos, ↓if_neg, nI_add]
    rfl
theorem m_X9_mixLine (hr : rP h X B p) (hw : WfP p) {i : Nat} (hi : i < p.1.2.1.length) (s : Int64) (Q : Option Value → Hp → Prop) : WPm 102 [.ref X, .long s, .int (nI i)] h Q = Q (some (.long (fpLn p.1 i s))) h := by
  have a := l_mlA hr hw hi s s none none none Q 12 0 (by omega)
  have a4 := x_about hr hw (nI i) (nI 4)
  rw [qAbout_nI hw hi (by omega), show lineNum p.1 i 4 = nI (rdL p.1.1 (lnA p.1.2.1 i)).2.1.length from rfl] at a4
  have a5 := x_about hr hw (nI i) (nI 5)
  rw [qAbout_nI hw hi (by omega), show lineNum p.1 i 5 = nI (rdL p.1.1 (lnA p.1.2.1 i)).2.2.length from rfl] at a5
  obtain ⟨c1, c2, hS⟩ := hr.facts
  have b := l_mlB hr hw hi s (fpG (fun w s => fpN s (lineNum p.1 i w)) 12 s) none Q (Q (some (.long (fpLn p.1 i s))) h) (fun l8 => by
    have cc := l_mlC hr hw hi s (fpG (fun y s => fpG (fun w s => fpN s (sgW ((rdL p.1.1 (lnA p.1.2.1 i)).2.1.getD y (0, (fun _ => 0), none)) w)) 6 s) (rdL p.1.1 (lnA p.1.2.1 i)).2.1.length (fpG (fun w s => fpN s (lineNum p.1 i w)) 12 s)) (some (.int (nI (rdL p.1.1 (lnA p.1.2.1 i)).2.1.length))) Q _ 0 none rfl
    simp (disch := (first | omega | assumption | (simp (disch := omega) only [Int32.lt_iff_toInt_lt, Int32.le_iff_toInt_le, ← Int32.toInt_inj, nI_toInt, zi_m1, zi_m2, zi_m3, zi_m9]; omega) | decide)) only [sX9_mixLine_89, sX9_mixLine_90, sX9_mixLine_91, sX9_mixLine_92, sX9_mixLine_95i, sX9_mixLine_95r, sX9_mixLine_95z, sX9_mixLine_95o, sX9_mixLine_97, sX9_mixLine_98i, sX9_mixLine_98r, sX9_mixLine_98z, sX9_mixLine_98o, zpush_v, zpush_n, gCk, gAi, gSi, gLi, gLq, ↓if_pos, ↓if_neg, c1, a5]
    exact cc) _ 0 none rfl
  rw [eX9_mixLine]
  simp (disch := (first | omega | assumption | (simp (disch := omega) only [Int32.lt_iff_toInt_lt, Int32.le_iff_toInt_le, ← Int32.toInt_inj, nI_toInt, zi_m1, zi_m2, zi_m3, zi_m9]; omega) | decide)) only [sX9_mixLine_0, sX9_mixLine_1i, sX9_mixLine_1r, sX9_mixLine_1z, sX9_mixLine_1o, sX9_mixLine_3, sX9_mixLine_4i, sX9_mixLine_4r, sX9_mixLine_4z, sX9_mixLine_4o, zpush_v, zpush_n, gCk, gAi, gSi, gLi, gLq, ↓if_pos, ↓if_neg]
  refine (Eq.trans (by rfl) a).trans ?_
  simp (disch := (first | omega | assumption | (simp (disch := omega) only [Int32.lt_iff_toInt_lt, Int32.le_iff_toInt_le, ← Int32.toInt_inj, nI_toInt, zi_m1, zi_m2, zi_m3, zi_m9]; omega) | decide)) only [sX9_mixLine_33, sX9_mixLine_34, sX9_mixLine_35, sX9_mixLine_36, sX9_mixLine_39i, sX9_mixLine_39r, sX9_mixLine_39z, sX9_mixLine_39o, sX9_mixLine_41, sX9_mixLine_42i, sX9_mixLine_42r, sX9_mixLine_42z, sX9_mixLine_42o, zpush_v, zpush_n, gCk, gAi, gSi, gLi, gLq, ↓if_pos, ↓if_neg, c1, a4]
  exact b
theorem l_fpA (hr : rP h X B p) (hw : WfP p) (s : Int64) (Q : Option Value → Hp → Prop) : ∀ (m j : Nat), m + j = p.1.1.1 →
    WP 99 13 [some (.ref X), some (.long (fpG (fpS p.1.1) j s)), none, some (.int (nI j))] [] h Q = WP 99 40 [some (.ref X), some (.long (fpG (fpS p.1.1) p.1.1.1 s)), none, some (.int (nI p.1.1.1))] [] h Q := by
  obtain ⟨c1, c2, hS⟩ := hr.facts
  have h10 := hw.1.1.1
  have c3 := hS.cell.1
  intro m
  induction m with
  | zero =>
    intro j hj
    have hj : j = p.1.1.1 := by omega
    subst hj
    rw [sX9_fingerprint_13]
    simp (disch := (first | omega | assumption | (simp (disch := omega) only [Int32.lt_iff_toInt_lt, Int32.le_iff_toInt_le, ← Int32.toInt_inj, nI_toInt, zi_m1, zi_m2, zi_m3, zi_m9]; omega) | decide)) only [sX9_fingerprint_14, sX9_fingerprint_15, sX9_fingerprint_18, sX9_fingerprint_21, sX9_fingerprint_24, gG9_0, gG9_1, gG9_2, gG9_3, gG9_4, gG9_5, gG9_6, gG9_7, gP9_0, gP9_1, gP9_2, gP9_3, gP9_4, gP9_5, gP9_6, gP9_7, gG6_0, gG6_1, gG6_2, gG6_3, gP6_0, gP6_1, gP6_2, gP6_3, gG7_0, gG7_1, gG7_2, gP7_0, gP7_1, gP7_2, zpush_v, zpush_n, gCk, gAi, gSi, gLi, gLq, ↓if_pos, ↓if_neg, c1, c2, c3]
  | succ m ih =>
    intro j hj
    have a := m_X9_mixStyle hr hw (show j < p.1.1.1 by omega)
    rw [← ih (j + 1) (by omega), sX9_fingerprint_13]
    simp (disch := (first | omega | assumption | (simp (disch := omega) only [Int32.lt_iff_toInt_lt, Int32.le_iff_toInt_le, ← Int32.toInt_inj, nI_toInt, zi_m1, zi_m2, zi_m3, zi_m9]; omega) | decide)) only [sX9_fingerprint_14, sX9_fingerprint_15, sX9_fingerprint_18, sX9_fingerprint_21, sX9_fingerprint_24, sX9_fingerprint_27, sX9_fingerprint_28, sX9_fingerprint_29, sX9_fingerprint_30, sX9_fingerprint_33i, sX9_fingerprint_33r, sX9_fingerprint_33z, sX9_fingerprint_33o, sX9_fingerprint_34i, sX9_fingerprint_34r, sX9_fingerprint_34z, sX9_fingerprint_34o, sX9_fingerprint_37, gG9_0, gG9_1, gG9_2, gG9_3, gG9_4, gG9_5, gG9_6, gG9_7, gP9_0, gP9_1, gP9_2, gP9_3, gP9_4, gP9_5, gP9_6, gP9_7, gG6_0, gG6_1, gG6_2, gG6_3, gP6_0, gP6_1, gP6_2, gP6_3, gG7_0, gG7_1, gG7_2, gP7_0, gP7_1, gP7_2, zpush_v, zpush_n, gCk, gAi, gSi, gLi, gLq, ↓if_pos, ↓if_neg, c1, c2, c3, a, nI_add]
    rfl
theorem l_fpB (hr : rP h X B p) (hw : WfP p) (s : Int64) (Q : Option Value → Hp → Prop) : ∀ (m j : Nat), m + j = p.1.2.1.length →
    WP 99 51 [some (.ref X), some (.long (fpG (fpLn p.1) j s)), none, some (.int (nI j))] [] h Q = WP 99 75 [some (.ref X), some (.long (fpG (fpLn p.1) p.1.2.1.length s)), none, some (.int (nI p.1.2.1.length))] [] h Q := by
  obtain ⟨c1, c2, hS⟩ := hr.facts
  have h16 := hw.1.2.1.1
  intro m
  induction m with
  | zero =>
    intro j hj
    have hj : j = p.1.2.1.length := by omega
    subst hj
    rw [sX9_fingerprint_51]
    simp (disch := (first | omega | assumption | (simp (disch := omega) only [Int32.lt_iff_toInt_lt, Int32.le_iff_toInt_le, ← Int32.toInt_inj, nI_toInt, zi_m1, zi_m2, zi_m3, zi_m9]; omega) | decide)) only [sX9_fingerprint_52, sX9_fingerprint_53, sX9_fingerprint_56, sX9_fingerprint_59, gG9_0, gG9_1, gG9_2, gG9_3, gG9_4, gG9_5, gG9_6, gG9_7, gP9_0, gP9_1, gP9_2, gP9_3, gP9_4, gP9_5, gP9_6, gP9_7, gG6_0, gG6_1, gG6_2, gG6_3, gP6_0, gP6_1, gP6_2, gP6_3, zpush_v, zpush_n, gCk, gAi, gSi, gLi, gLq, ↓if_pos, ↓if_neg, c1, c2]
  | succ m ih =>
    intro j hj
    have a := m_X9_mixLine hr hw (show j < p.1.2.1.length by omega)
    rw [← ih (j + 1) (by omega), sX9_fingerprint_51]
    simp (disch := (first | omega | assumption | (simp (disch := omega) only [Int32.lt_iff_toInt_lt, Int32.le_iff_toInt_le, ← Int32.toInt_inj, nI_toInt, zi_m1, zi_m2, zi_m3, zi_m9]; omega) | decide)) only [sX9_fingerprint_52, sX9_fingerprint_53, sX9_fingerprint_56, sX9_fingerprint_59, sX9_fingerprint_62, sX9_fingerprint_63, sX9_fingerprint_64, sX9_fingerprint_65, sX9_fingerprint_68i, sX9_fingerprint_68r, sX9_fingerprint_68z, sX9_fingerprint_68o, sX9_fingerprint_69i, sX9_fingerprint_69r, sX9_fingerprint_69z, sX9_fingerprint_69o, sX9_fingerprint_72, gG9_0, gG9_1, gG9_2, gG9_3, gG9_4, gG9_5, gG9_6, gG9_7, gP9_0, gP9_1, gP9_2, gP9_3, gP9_4, gP9_5, gP9_6, gP9_7, gG6_0, gG6_1, gG6_2, gG6_3, gP6_0, gP6_1, gP6_2, gP6_3, zpush_v, zpush_n, gCk, gAi, gSi, gLi, gLq, ↓if_pos, ↓if_neg, c1, c2, a, nI_add]
    rfl
theorem x_fingerprint (hr : rP h X B p) (hw : WfP p) : ∃ h', Fr X h h' ∧ rP h' X B p ∧ ∀ Q : Option Value → Hp → Prop, WPm 99 [.ref X] h Q = Q (some (.long (qFp p))) h' := by
  obtain ⟨h', f, r, w⟩ := x_unlike hr hw
  obtain ⟨c1, c2, hS⟩ := hr.facts
  refine ⟨h', f, r, fun Q => ?_⟩
  have a := l_fpA hr hw (fpN 233 (nI p.1.1.1)) Q _ 0 rfl
  have b := l_fpB hr hw (fpN (fpG (fpS p.1.1) p.1.1.1 (fpN 233 (nI p.1.1.1))) (nI p.1.2.1.length)) Q _ 0 rfl
  rw [eX9_fingerprint]
  simp (disch := (first | omega | assumption | (simp (disch := omega) only [Int32.lt_iff_toInt_lt, Int32.le_iff_toInt_le, ← Int32.toInt_inj, nI_toInt, zi_m1, zi_m2, zi_m3, zi_m9]; omega) | decide)) only [sX9_fingerprint_0, sX9_fingerprint_3, sX9_fingerprint_4, sX9_fingerprint_7, sX9_fingerprint_10i, sX9_fingerprint_10r, sX9_fingerprint_10z, sX9_fingerprint_10o, sX9_fingerprint_11, sX9_fingerprint_12i, sX9_fingerprint_12r, sX9_fingerprint_12z, sX9_fingerprint_12o, zpush_v, zpush_n, gCk, gAi, gSi, gLi, gLq, ↓if_pos, ↓if_neg, c1, x_styles hr, m_X9_mix]
  refine (Eq.trans (by rfl) a).trans ?_
  simp (disch := (first | omega | assumption | (simp (disch := omega) only [Int32.lt_iff_toInt_lt, Int32.le_iff_toInt_le, ← Int32.toInt_inj, nI_toInt, zi_m1, zi_m2, zi_m3, zi_m9]; omega) | decide)) only [sX9_fingerprint_40, sX9_fingerprint_41, sX9_fingerprint_42, sX9_fingerprint_45, sX9_fingerprint_48i, sX9_fingerprint_48r, sX9_fingerprint_48z, sX9_fingerprint_48o, sX9_fingerprint_49, sX9_fingerprint_50i, sX9_fingerprint_50r, sX9_fingerprint_50z, sX9_fingerprint_50o, zpush_v, zpush_n, gCk, gAi, gSi, gLi, gLq, ↓if_pos, ↓if_neg, c1, x_lines hr, m_X9_mix]
  refine (Eq.trans (by rfl) b).trans ?_
  simp (disch := (first | omega | assumption | (simp (disch := omega) only [Int32.lt_iff_toInt_lt, Int32.le_iff_toInt_le, ← Int32.toInt_inj, nI_toInt, zi_m1, zi_m2, zi_m3, zi_m9]; omega) | decide)) only [sX9_fingerprint_75, sX9_fingerprint_76, sX9_fingerprint_77, sX9_fingerprint_80, sX9_fingerprint_83i, sX9_fingerprint_83r, sX9_fingerprint_83z, sX9_fingerprint_83o, sX9_fingerprint_84, sX9_fingerprint_85, sX9_fingerprint_86, sX9_fingerprint_89, sX9_fingerprint_92, zpush_v, zpush_n, gCk, gAi, gSi, gLi, gLq, ↓if_pos, ↓if_neg, c1, x_crowd hr hw, w, m_X9_mix]
  rfl
end XN
