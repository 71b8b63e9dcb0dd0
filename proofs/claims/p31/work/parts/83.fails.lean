/-! the law's fails(): calls that are refused change nothing -/
section LF
variable {h h0 : Hp} {X B : Nat} {p : PS} {Q : Option Value → Hp → Prop}
theorem cAh_lt {S : Sh} {L : List Ln} {off : Nat → Nat} {line : Nat} (time : Int32) : ∀ i, line < i → cAh S L off line time i < i := by
  intro i
  induction i with
  | zero => intro q; omega
  | succ i ih =>
    intro q
    simp only [cAh]
    by_cases c : i = line
    · subst c
      rw [if_neg (fun q => q.1.1 rfl)]
      have := cAh_le (S := S) (L := L) (off := off) i time i
      omega
    · have := ih (by omega)
      split <;> omega
theorem e_shown16 (hw : WfP p) : qShown p (nI 0) (nI 16) = -9 := by
  have h16 := hw.1.2.1.1
  unfold qShown
  rw [if_neg (by decide)]
  have g : ∀ m i, m + i = p.1.2.1.length → fShown p.1 (nI 0) (nI 16) m i = -9 := by
    intro m
    induction m with
    | zero => intro i _; rfl
    | succ m ih =>
      intro i hi
      simp only [fShown]
      rw [if_neg, ih (i + 1) (by omega)]
      rintro ⟨a, b⟩
      have c := cAh_lt (S := p.1.1) (L := p.1.2.1) (off := offC p.1.1 p.1.2.1) (line := i) (nI 0) p.1.2.1.length (by omega)
      have d := congrArg Int32.toInt b
      rw [nI_toInt (by omega), nI_toInt (by omega)] at d
      omega
  exact g _ 0 rfl
theorem f_e1 (hw : WfP p) : opStyle p (nI p.1.1.1) = (p, -1) := by
  have h10 := hw.1.1.1
  have h16 := hw.1.2.1.1
  unfold opStyle
  rw [dO_big (by omega)]
theorem f_e2 (hw : WfP p) : opStyle p (-2) = (p, -1) := by
  have h10 := hw.1.1.1
  have h16 := hw.1.2.1.1
  unfold opStyle
  rw [dO_m2]
theorem f_e3 (hw : WfP p) : opSetParent p (nI p.1.1.1) (-1) = (p, -1) := by
  have h10 := hw.1.1.1
  have h16 := hw.1.2.1.1
  unfold opSetParent
  rw [dN_big (by omega)]
theorem f_e4 (hw : WfP p) : opSetStyle p (nI p.1.1.1) (nI 0) (nI 1) = (p, -1) := by
  have h10 := hw.1.1.1
  have h16 := hw.1.2.1.1
  unfold opSetStyle
  rw [dN_big (by omega)]
theorem f_e5 (hw : WfP p) : qStyleAt p (nI p.1.1.1) (nI 0) = -1 := by
  have h10 := hw.1.1.1
  have h16 := hw.1.2.1.1
  unfold qStyleAt
  rw [dN_big (by omega)]
theorem f_e6 (hw : WfP p) : qValueOf p (nI p.1.1.1) (nI 0) = -1 := by
  have h10 := hw.1.1.1
  have h16 := hw.1.2.1.1
  unfold qValueOf
  rw [dO_big (by omega)]
theorem f_e7 (hw : WfP p) : qValueOf p (-1) (nI 6) = -1 := by
  have h10 := hw.1.1.1
  have h16 := hw.1.2.1.1
  unfold qValueOf
  rw [dO_m1]
  simp only
  rw [show dN 6 (nI 6) = none by decide]
theorem f_e8 (hw : WfP p) : qFrom p (nI p.1.1.1) (nI 0) = -1 := by
  have h10 := hw.1.1.1
  have h16 := hw.1.2.1.1
  unfold qFrom
  rw [dN_big (by omega)]
theorem f_e9 (hw : WfP p) : opType p (nI 31) = (p, -1) := by
  have h10 := hw.1.1.1
  have h16 := hw.1.2.1.1
  unfold opType
  rw [show dR 32 126 (nI 31) = none by decide]
theorem f_e10 (hw : WfP p) : opLine p (nI 0) (nI 0) (-1) = (p, -1) := by
  have h10 := hw.1.1.1
  have h16 := hw.1.2.1.1
  unfold opLine
  rw [show dR 0 99999 (nI 0) = some 0 by decide]
  simp only
  rw [show dR 0 100000 (nI 0) = some 0 by decide]
  simp only
  exact if_pos (Nat.le_refl 0)
theorem f_e11 (hw : WfP p) : opLine p (-1) (nI 5) (-1) = (p, -1) := by
  have h10 := hw.1.1.1
  have h16 := hw.1.2.1.1
  unfold opLine
  rw [show dR 0 99999 (-1) = none by decide]
theorem f_e12 (hw : WfP p) : opLine p (nI 5) (nI 100001) (-1) = (p, -1) := by
  have h10 := hw.1.1.1
  have h16 := hw.1.2.1.1
  unfold opLine
  rw [show dR 0 99999 (nI 5) = some 5 by decide]
  simp only
  rw [show dR 0 100000 (nI 100001) = none by decide]
theorem f_e13 (hw : WfP p) : opLine p (nI 0) (nI 1) (nI p.1.1.1) = (p, -1) := by
  have h10 := hw.1.1.1
  have h16 := hw.1.2.1.1
  unfold opLine
  rw [show dR 0 99999 (nI 0) = some 0 by decide]
  simp only
  rw [show dR 0 100000 (nI 1) = some 1 by decide]
  simp only
  rw [if_neg (by omega), dO_big (by omega)]
theorem f_e14 (hw : WfP p) : opRemove p (nI p.1.2.1.length) = (p, -1) := by
  have h10 := hw.1.1.1
  have h16 := hw.1.2.1.1
  unfold opRemove
  rw [dN_big (by omega)]
theorem f_e15 (hw : WfP p) : opChange p (nI p.1.2.1.length) (nI 0) (-1) = (p, -1) := by
  have h10 := hw.1.1.1
  have h16 := hw.1.2.1.1
  unfold opChange
  rw [dN_big (by omega)]
theorem f_e16 (hw : WfP p) : opShift p (nI p.1.2.1.length) (nI 0) = (p, -1) := by
  have h10 := hw.1.1.1
  have h16 := hw.1.2.1.1
  unfold opShift
  rw [dN_big (by omega)]
theorem f_e17 (hw : WfP p) : opSetHeight p (nI 49) = (p, -1) := by
  have h10 := hw.1.1.1
  have h16 := hw.1.2.1.1
  unfold opSetHeight
  rw [show dR 50 2000 (nI 49) = none by decide]
theorem f_e18 (hw : WfP p) : opSetHeight p (nI 2001) = (p, -1) := by
  have h10 := hw.1.1.1
  have h16 := hw.1.2.1.1
  unfold opSetHeight
  rw [show dR 50 2000 (nI 2001) = none by decide]
theorem f_e19 (hw : WfP p) : qAbout p (nI p.1.2.1.length) (nI 0) = -1 := by
  have h10 := hw.1.1.1
  have h16 := hw.1.2.1.1
  unfold qAbout
  rw [dN_big (by omega)]
theorem f_e20 (hw : WfP p) : qSign p (nI p.1.2.1.length) (nI 0) (nI 0) = -1 := by
  have h10 := hw.1.1.1
  have h16 := hw.1.2.1.1
  unfold qSign
  rw [dN_big (by omega)]
theorem f_e21 (hw : WfP p) : qSyllable p (nI p.1.2.1.length) (nI 0) (nI 0) = -1 := by
  have h10 := hw.1.1.1
  have h16 := hw.1.2.1.1
  unfold qSyllable
  rw [dN_big (by omega)]
theorem f_e22 (hw : WfP p) : opFit p (nI p.1.2.1.length) = (p, -1) := by
  have h10 := hw.1.1.1
  have h16 := hw.1.2.1.1
  unfold opFit
  rw [dN_big (by omega)]
theorem f_e23 (hw : WfP p) : qShows p (nI p.1.2.1.length) (nI 0) (nI 0) = -1 := by
  have h10 := hw.1.1.1
  have h16 := hw.1.2.1.1
  unfold qShows
  rw [dN_big (by omega)]
theorem f_e24 (hw : WfP p) : qShown p (nI 0) (-1) = -1 := by
  have h10 := hw.1.1.1
  have h16 := hw.1.2.1.1
  unfold qShown
  exact if_pos (by decide)
theorem f_e30 (hw : WfP p) (hn : 0 < p.1.1.1) : opSetParent p (nI 0) (nI p.1.1.1) = (p, -1) := by
  have h10 := hw.1.1.1
  have h16 := hw.1.2.1.1
  unfold opSetParent
  rw [dN_nI (by omega) hn]
  simp only
  rw [dO_big (by omega)]
theorem f_e31 (hw : WfP p) (hn : 0 < p.1.1.1) : opSetParent p (nI 0) (nI 0) = (p, -2) := by
  have h10 := hw.1.1.1
  have h16 := hw.1.2.1.1
  unfold opSetParent
  rw [dN_nI (by omega) hn]
  simp only
  rw [dO_nI (by omega) hn]
  simp only
  exact if_pos (by simp [ldT, hn])
theorem f_e32 (hw : WfP p) (hn : 0 < p.1.1.1) : opSetStyle p (nI 0) (nI 0) (nI 0) = (p, -1) := by
  have h10 := hw.1.1.1
  have h16 := hw.1.2.1.1
  unfold opSetStyle
  rw [dN_nI (by omega) hn]
  simp only
  rw [show dN 6 (nI 0) = some 0 by decide]
  simp only
  rw [show dV 0 (nI 0) = none by decide]
theorem f_e33 (hw : WfP p) (hn : 0 < p.1.1.1) : opSetStyle p (nI 0) (nI 1) (nI 8) = (p, -1) := by
  have h10 := hw.1.1.1
  have h16 := hw.1.2.1.1
  unfold opSetStyle
  rw [dN_nI (by omega) hn]
  simp only
  rw [show dN 6 (nI 1) = some 1 by decide]
  simp only
  rw [show dV 1 (nI 8) = none by decide]
theorem f_e34 (hw : WfP p) (hn : 0 < p.1.1.1) : opSetStyle p (nI 0) (nI 3) (nI 2) = (p, -1) := by
  have h10 := hw.1.1.1
  have h16 := hw.1.2.1.1
  unfold opSetStyle
  rw [dN_nI (by omega) hn]
  simp only
  rw [show dN 6 (nI 3) = some 3 by decide]
  simp only
  rw [show dV 3 (nI 2) = none by decide]
theorem f_e35 (hw : WfP p) (hn : 0 < p.1.1.1) : opSetStyle p (nI 0) (nI 5) (nI 201) = (p, -1) := by
  have h10 := hw.1.1.1
  have h16 := hw.1.2.1.1
  unfold opSetStyle
  rw [dN_nI (by omega) hn]
  simp only
  rw [show dN 6 (nI 5) = some 5 by decide]
  simp only
  rw [show dV 5 (nI 201) = none by decide]
theorem f_e36 (hw : WfP p) (hn : 0 < p.1.1.1) : opSetStyle p (nI 0) (nI 6) (nI 0) = (p, -1) := by
  have h10 := hw.1.1.1
  have h16 := hw.1.2.1.1
  unfold opSetStyle
  rw [dN_nI (by omega) hn]
  simp only
  rw [show dN 6 (nI 6) = none by decide]
theorem f_e37 (hw : WfP p) (hn : 0 < p.1.1.1) : opSetStyle p (nI 0) (nI 2) (-2) = (p, -1) := by
  have h10 := hw.1.1.1
  have h16 := hw.1.2.1.1
  unfold opSetStyle
  rw [dN_nI (by omega) hn]
  simp only
  rw [show dN 6 (nI 2) = some 2 by decide]
  simp only
  rw [show dV 2 (-2) = none by decide]
theorem f_e38 (hw : WfP p) (hn : 0 < p.1.1.1) : qStyleAt p (nI 0) (nI 9) = -1 := by
  have h10 := hw.1.1.1
  have h16 := hw.1.2.1.1
  unfold qStyleAt
  rw [dN_nI (by omega) hn]
  simp only
  rw [show dN 9 (nI 9) = none by decide]
theorem f_e40 (hw : WfP p) (hl : 0 < p.1.2.1.length) : opChange p (nI 0) (nI 0) (nI p.1.1.1) = (p, -1) := by
  have h10 := hw.1.1.1
  have h16 := hw.1.2.1.1
  unfold opChange
  rw [dN_nI (by omega) hl]
  simp only
  rw [show dN 2 (nI 0) = some 0 by decide]
  simp only
  rw [dO_big (by omega)]
theorem f_e41 (hw : WfP p) (hl : 0 < p.1.2.1.length) : opChange p (nI 0) (nI 1) (nI 201) = (p, -1) := by
  have h10 := hw.1.1.1
  have h16 := hw.1.2.1.1
  unfold opChange
  rw [dN_nI (by omega) hl]
  simp only
  rw [show dN 2 (nI 1) = some 1 by decide]
  simp only
  rw [show dV 5 (nI 201) = none by decide]
theorem f_e42 (hw : WfP p) (hl : 0 < p.1.2.1.length) : opChange p (nI 0) (nI 2) (nI 0) = (p, -1) := by
  have h10 := hw.1.1.1
  have h16 := hw.1.2.1.1
  unfold opChange
  rw [dN_nI (by omega) hl]
  simp only
  rw [show dN 2 (nI 2) = none by decide]
theorem f_e43 (hw : WfP p) (hl : 0 < p.1.2.1.length) : opShift p (nI 0) (nI 100001) = (p, -1) := by
  have h10 := hw.1.1.1
  have h16 := hw.1.2.1.1
  unfold opShift
  rw [dN_nI (by omega) hl]
  simp only
  exact if_pos (by decide)
theorem f_e44 (hw : WfP p) (hl : 0 < p.1.2.1.length) : opShift p (nI 0) (-100000) = (p, -2) := by
  have h10 := hw.1.1.1
  have h16 := hw.1.2.1.1
  unfold opShift
  rw [dN_nI (by omega) hl]
  simp only
  have g := lnA_wf hw.1.2.1 0
  have g1 := g.1
  have g2 := g.2.1
  rw [if_neg (by decide), show (-100000 : Int32).toInt = -100000 by decide]
  exact if_pos (by omega)
theorem f_e45 (hw : WfP p) (hl : 0 < p.1.2.1.length) : qAbout p (nI 0) (nI 12) = -1 := by
  have h10 := hw.1.1.1
  have h16 := hw.1.2.1.1
  unfold qAbout
  rw [dN_nI (by omega) hl]
  simp only
  rw [show dN 12 (nI 12) = none by decide]
theorem f_e46 (hw : WfP p) (hl : 0 < p.1.2.1.length) : qSign p (nI 0) (nI (rdL p.1.1 (lnA p.1.2.1 0)).2.1.length) (nI 0) = -1 := by
  have h10 := hw.1.1.1
  have h16 := hw.1.2.1.1
  have r1 := (rdL_ok hw.1.1 (lnA_wf hw.1.2.1 0)).1
  unfold qSign
  rw [dN_nI (by omega) hl]
  simp only
  rw [show dN 6 (nI 0) = some 0 by decide]
  simp only
  rw [dN_big (by omega)]
theorem f_e48 (hw : WfP p) (hl : 0 < p.1.2.1.length) : qSyllable p (nI 0) (nI (rdL p.1.1 (lnA p.1.2.1 0)).2.2.length) (nI 0) = -1 := by
  have h10 := hw.1.1.1
  have h16 := hw.1.2.1.1
  have r1 := (rdL_ok hw.1.1 (lnA_wf hw.1.2.1 0)).2.1
  unfold qSyllable
  rw [dN_nI (by omega) hl]
  simp only
  rw [show dN 3 (nI 0) = some 0 by decide]
  simp only
  rw [dN_big (by omega)]
theorem f_e49 (hw : WfP p) (hl : 0 < p.1.2.1.length) : qShows p (nI 0) (-1) (nI 0) = -1 := by
  have h10 := hw.1.1.1
  have h16 := hw.1.2.1.1
  unfold qShows
  rw [dN_nI (by omega) hl]
  simp only
  rw [dN_m (by decide)]
theorem f_e50 (hw : WfP p) (hn : p.1.1.1 = 0) : opUnstyle p = (p, -2) := by
  have h10 := hw.1.1.1
  have h16 := hw.1.2.1.1
  unfold opUnstyle
  exact if_pos hn
theorem f_e51 (hw : WfP p) (hl : p.1.2.1.length = 0) : qCrowd p = -9 := by
  have h10 := hw.1.1.1
  have h16 := hw.1.2.1.1
  unfold qCrowd
  rw [hl]
  rfl
theorem f_len4 (hw : WfP p) (hl : 0 < p.1.2.1.length) : qAbout p (nI 0) (nI 4) = nI (rdL p.1.1 (lnA p.1.2.1 0)).2.1.length := by
  rw [qAbout_nI hw hl (by omega)]
  rfl
theorem f_len5 (hw : WfP p) (hl : 0 < p.1.2.1.length) : qAbout p (nI 0) (nI 5) = nI (rdL p.1.1 (lnA p.1.2.1 0)).2.2.length := by
  rw [qAbout_nI hw hl (by omega)]
  rfl
theorem l_fA (hr : rP h X B p) (hw : WfP p) (K : ∀ h', FrK 20 X h h' → rP h' X B p → WP 109 304 [some (.ref X), some (.long (qFp p)), none, some (.int (nI p.1.1.1)), some (.int (nI p.1.2.1.length)), some (.int (nI 1))] [] h' Q) : WPm 109 [.ref X] h Q := by
  have h10 := hw.1.1.1
  have h16 := hw.1.2.1.1
  have F : FrK 0 X h h := FrK.rf
  rw [eL_fails]
  simp (disch := (first | omega | assumption | (simp (disch := omega) only [Int32.lt_iff_toInt_lt, Int32.le_iff_toInt_le, ← Int32.toInt_inj, nI_toInt, zi_m1, zi_m2, zi_m3, zi_m9]; omega) | decide)) only [sL_fails_0, sL_fails_1, zpush_v, zpush_n, gCk, gAi, gSi, gLi, gLq, ↓if_pos, ↓if_neg, ↓reduceIte, eq_self, not_true_eq_false, not_false_eq_true, r_ck hr]
  refine k_fp hr hw (fun h F2 hr => ?_)
  replace F := F.tr F2
  clear F2
  simp (disch := (first | omega | assumption | (simp (disch := omega) only [Int32.lt_iff_toInt_lt, Int32.le_iff_toInt_le, ← Int32.toInt_inj, nI_toInt, zi_m1, zi_m2, zi_m3, zi_m9]; omega) | decide)) only [sL_fails_4i, sL_fails_4r, sL_fails_4z, sL_fails_4o, sL_fails_5, sL_fails_6, sL_fails_9i, sL_fails_9r, sL_fails_9z, sL_fails_9o, sL_fails_10, sL_fails_11, sL_fails_14i, sL_fails_14r, sL_fails_14z, sL_fails_14o, sL_fails_16, sL_fails_17, sL_fails_18, zpush_v, zpush_n, gCk, gAi, gSi, gLi, gLq, ↓if_pos, ↓if_neg, ↓reduceIte, eq_self, not_true_eq_false, not_false_eq_true, r_ck hr, x_styles hr, x_lines hr]
  refine k_style hr hw (f_e1 hw) (fun h F2 hr _ => ?_)
  replace F := F.tr F2
  clear F2
  simp (disch := (first | omega | assumption | (simp (disch := omega) only [Int32.lt_iff_toInt_lt, Int32.le_iff_toInt_le, ← Int32.toInt_inj, nI_toInt, zi_m1, zi_m2, zi_m3, zi_m9]; omega) | decide)) only [sL_fails_21, sL_fails_22, sL_fails_25, sL_fails_26, sL_fails_28, zpush_v, zpush_n, gCk, gAi, gSi, gLi, gLq, ↓if_pos, ↓if_neg, ↓reduceIte, eq_self, not_true_eq_false, not_false_eq_true, r_ck hr]
  refine k_style hr hw (f_e2 hw) (fun h F2 hr _ => ?_)
  replace F := F.tr F2
  clear F2
  simp (disch := (first | omega | assumption | (simp (disch := omega) only [Int32.lt_iff_toInt_lt, Int32.le_iff_toInt_le, ← Int32.toInt_inj, nI_toInt, zi_m1, zi_m2, zi_m3, zi_m9]; omega) | decide)) only [sL_fails_31, sL_fails_32, sL_fails_35, sL_fails_36, sL_fails_37, sL_fails_38, zpush_v, zpush_n, gCk, gAi, gSi, gLi, gLq, ↓if_pos, ↓if_neg, ↓reduceIte, eq_self, not_true_eq_false, not_false_eq_true, r_ck hr]
  refine k_setParent hr hw (f_e3 hw) (fun h F2 hr _ => ?_)
  replace F := F.tr F2
  clear F2
  simp (disch := (first | omega | assumption | (simp (disch := omega) only [Int32.lt_iff_toInt_lt, Int32.le_iff_toInt_le, ← Int32.toInt_inj, nI_toInt, zi_m1, zi_m2, zi_m3, zi_m9]; omega) | decide)) only [sL_fails_41, sL_fails_42, sL_fails_45, sL_fails_46, sL_fails_47, sL_fails_48, sL_fails_49, zpush_v, zpush_n, gCk, gAi, gSi, gLi, gLq, ↓if_pos, ↓if_neg, ↓reduceIte, eq_self, not_true_eq_false, not_false_eq_true, r_ck hr]
  refine k_setStyle hr hw (f_e4 hw) (fun h F2 hr _ => ?_)
  replace F := F.tr F2
  clear F2
  simp (disch := (first | omega | assumption | (simp (disch := omega) only [Int32.lt_iff_toInt_lt, Int32.le_iff_toInt_le, ← Int32.toInt_inj, nI_toInt, zi_m1, zi_m2, zi_m3, zi_m9]; omega) | decide)) only [sL_fails_52, sL_fails_53, sL_fails_56, sL_fails_57, sL_fails_58, sL_fails_59, sL_fails_62, sL_fails_63, sL_fails_66, sL_fails_67, sL_fails_68, sL_fails_69, sL_fails_72, sL_fails_73, sL_fails_76, sL_fails_77, sL_fails_78, sL_fails_80, sL_fails_83, sL_fails_84, sL_fails_87, sL_fails_88, sL_fails_89, sL_fails_90, sL_fails_93, sL_fails_94, sL_fails_97, sL_fails_98, sL_fails_100, zpush_v, zpush_n, gCk, gAi, gSi, gLi, gLq, ↓if_pos, ↓if_neg, ↓reduceIte, eq_self, not_true_eq_false, not_false_eq_true, r_ck hr, x_styleAt hr hw, f_e5 hw, x_valueOf hr hw, f_e6 hw, f_e7 hw, x_from hr hw, f_e8 hw]
  refine k_type hr hw (f_e9 hw) (fun h F2 hr _ => ?_)
  replace F := F.tr F2
  clear F2
  simp (disch := (first | omega | assumption | (simp (disch := omega) only [Int32.lt_iff_toInt_lt, Int32.le_iff_toInt_le, ← Int32.toInt_inj, nI_toInt, zi_m1, zi_m2, zi_m3, zi_m9]; omega) | decide)) only [sL_fails_103, sL_fails_104, sL_fails_107, sL_fails_108, sL_fails_109, sL_fails_110, sL_fails_111, zpush_v, zpush_n, gCk, gAi, gSi, gLi, gLq, ↓if_pos, ↓if_neg, ↓reduceIte, eq_self, not_true_eq_false, not_false_eq_true, r_ck hr]
  refine k_line hr hw (f_e10 hw) (fun h F2 hr _ => ?_)
  replace F := F.tr F2
  clear F2
  simp (disch := (first | omega | assumption | (simp (disch := omega) only [Int32.lt_iff_toInt_lt, Int32.le_iff_toInt_le, ← Int32.toInt_inj, nI_toInt, zi_m1, zi_m2, zi_m3, zi_m9]; omega) | decide)) only [sL_fails_114, sL_fails_115, sL_fails_118, sL_fails_119, sL_fails_120, sL_fails_121, sL_fails_122, zpush_v, zpush_n, gCk, gAi, gSi, gLi, gLq, ↓if_pos, ↓if_neg, ↓reduceIte, eq_self, not_true_eq_false, not_false_eq_true, r_ck hr]
  refine k_line hr hw (f_e11 hw) (fun h F2 hr _ => ?_)
  replace F := F.tr F2
  clear F2
  simp (disch := (first | omega | assumption | (simp (disch := omega) only [Int32.lt_iff_toInt_lt, Int32.le_iff_toInt_le, ← Int32.toInt_inj, nI_toInt, zi_m1, zi_m2, zi_m3, zi_m9]; omega) | decide)) only [sL_fails_125, sL_fails_126, sL_fails_129, sL_fails_130, sL_fails_131, sL_fails_133, sL_fails_134, zpush_v, zpush_n, gCk, gAi, gSi, gLi, gLq, ↓if_pos, ↓if_neg, ↓reduceIte, eq_self, not_true_eq_false, not_false_eq_true, r_ck hr]
  refine k_line hr hw (f_e12 hw) (fun h F2 hr _ => ?_)
  replace F := F.tr F2
  clear F2
  simp (disch := (first | omega | assumption | (simp (disch := omega) only [Int32.lt_iff_toInt_lt, Int32.le_iff_toInt_le, ← Int32.toInt_inj, nI_toInt, zi_m1, zi_m2, zi_m3, zi_m9]; omega) | decide)) only [sL_fails_137, sL_fails_138, sL_fails_141, sL_fails_142, sL_fails_143, sL_fails_144, sL_fails_145, zpush_v, zpush_n, gCk, gAi, gSi, gLi, gLq, ↓if_pos, ↓if_neg, ↓reduceIte, eq_self, not_true_eq_false, not_false_eq_true, r_ck hr]
  refine k_line hr hw (f_e13 hw) (fun h F2 hr _ => ?_)
  replace F := F.tr F2
  clear F2
  simp (disch := (first | omega | assumption | (simp (disch := omega) only [Int32.lt_iff_toInt_lt, Int32.le_iff_toInt_le, ← Int32.toInt_inj, nI_toInt, zi_m1, zi_m2, zi_m3, zi_m9]; omega) | decide)) only [sL_fails_148, sL_fails_149, sL_fails_152, sL_fails_153, sL_fails_155, zpush_v, zpush_n, gCk, gAi, gSi, gLi, gLq, ↓if_pos, ↓if_neg, ↓reduceIte, eq_self, not_true_eq_false, not_false_eq_true, r_ck hr]
  refine k_remove hr hw (f_e14 hw) (fun h F2 hr _ => ?_)
  replace F := F.tr F2
  clear F2
  simp (disch := (first | omega | assumption | (simp (disch := omega) only [Int32.lt_iff_toInt_lt, Int32.le_iff_toInt_le, ← Int32.toInt_inj, nI_toInt, zi_m1, zi_m2, zi_m3, zi_m9]; omega) | decide)) only [sL_fails_158, sL_fails_159, sL_fails_162, sL_fails_163, sL_fails_165, sL_fails_166, sL_fails_167, zpush_v, zpush_n, gCk, gAi, gSi, gLi, gLq, ↓if_pos, ↓if_neg, ↓reduceIte, eq_self, not_true_eq_false, not_false_eq_true, r_ck hr]
  refine k_change hr hw (f_e15 hw) (fun h F2 hr _ => ?_)
  replace F := F.tr F2
  clear F2
  simp (disch := (first | omega | assumption | (simp (disch := omega) only [Int32.lt_iff_toInt_lt, Int32.le_iff_toInt_le, ← Int32.toInt_inj, nI_toInt, zi_m1, zi_m2, zi_m3, zi_m9]; omega) | decide)) only [sL_fails_170, sL_fails_171, sL_fails_174, sL_fails_175, sL_fails_177, sL_fails_178, zpush_v, zpush_n, gCk, gAi, gSi, gLi, gLq, ↓if_pos, ↓if_neg, ↓reduceIte, eq_self, not_true_eq_false, not_false_eq_true, r_ck hr]
  refine k_shift hr hw (f_e16 hw) (fun h F2 hr _ => ?_)
  replace F := F.tr F2
  clear F2
  simp (disch := (first | omega | assumption | (simp (disch := omega) only [Int32.lt_iff_toInt_lt, Int32.le_iff_toInt_le, ← Int32.toInt_inj, nI_toInt, zi_m1, zi_m2, zi_m3, zi_m9]; omega) | decide)) only [sL_fails_181, sL_fails_182, sL_fails_185, sL_fails_186, sL_fails_188, zpush_v, zpush_n, gCk, gAi, gSi, gLi, gLq, ↓if_pos, ↓if_neg, ↓reduceIte, eq_self, not_true_eq_false, not_false_eq_true, r_ck hr]
  refine k_setHeight hr hw (f_e17 hw) (fun h F2 hr _ => ?_)
  replace F := F.tr F2
  clear F2
  simp (disch := (first | omega | assumption | (simp (disch := omega) only [Int32.lt_iff_toInt_lt, Int32.le_iff_toInt_le, ← Int32.toInt_inj, nI_toInt, zi_m1, zi_m2, zi_m3, zi_m9]; omega) | decide)) only [sL_fails_191, sL_fails_192, sL_fails_195, sL_fails_196, sL_fails_199, zpush_v, zpush_n, gCk, gAi, gSi, gLi, gLq, ↓if_pos, ↓if_neg, ↓reduceIte, eq_self, not_true_eq_false, not_false_eq_true, r_ck hr]
  refine k_setHeight hr hw (f_e18 hw) (fun h F2 hr _ => ?_)
  replace F := F.tr F2
  clear F2
  simp (disch := (first | omega | assumption | (simp (disch := omega) only [Int32.lt_iff_toInt_lt, Int32.le_iff_toInt_le, ← Int32.toInt_inj, nI_toInt, zi_m1, zi_m2, zi_m3, zi_m9]; omega) | decide)) only [sL_fails_202, sL_fails_203, sL_fails_206, sL_fails_207, sL_fails_210, sL_fails_211i, sL_fails_211r, sL_fails_211z, sL_fails_211o, sL_fails_213, sL_fails_215, sL_fails_218, sL_fails_219, sL_fails_221, sL_fails_222, sL_fails_225, sL_fails_226, sL_fails_229, sL_fails_230, sL_fails_232, sL_fails_233, sL_fails_234, sL_fails_237, sL_fails_238, sL_fails_241, sL_fails_242, sL_fails_244, sL_fails_245, sL_fails_246, sL_fails_249, sL_fails_250, sL_fails_253, sL_fails_254, sL_fails_256, zpush_v, zpush_n, gCk, gAi, gSi, gLi, gLq, ↓if_pos, ↓if_neg, ↓reduceIte, eq_self, not_true_eq_false, not_false_eq_true, r_ck hr, x_about hr hw, f_e19 hw, x_sign hr hw, f_e20 hw, x_syllable hr hw, f_e21 hw]
  refine k_fit hr hw (f_e22 hw) (fun h F2 hr _ => ?_)
  replace F := F.tr F2
  clear F2
  simp (disch := (first | omega | assumption | (simp (disch := omega) only [Int32.lt_iff_toInt_lt, Int32.le_iff_toInt_le, ← Int32.toInt_inj, nI_toInt, zi_m1, zi_m2, zi_m3, zi_m9]; omega) | decide)) only [sL_fails_259, sL_fails_260, sL_fails_263, sL_fails_264, sL_fails_266, sL_fails_267, sL_fails_268, sL_fails_271, sL_fails_272, sL_fails_275, sL_fails_276, sL_fails_277, sL_fails_278, sL_fails_281, sL_fails_282, sL_fails_285, sL_fails_286, sL_fails_287, sL_fails_289, sL_fails_292, sL_fails_294, sL_fails_297, sL_fails_298, sL_fails_301, sL_fails_302i, sL_fails_302r, sL_fails_302z, sL_fails_302o, zpush_v, zpush_n, gCk, gAi, gSi, gLi, gLq, ↓if_pos, ↓if_neg, ↓reduceIte, eq_self, not_true_eq_false, not_false_eq_true, r_ck hr, x_shows hr hw, f_e23 hw, x_shown hr hw, f_e24 hw, e_shown16 hw]
  exact K _ (F.wd (by omega)) hr
theorem l_fB (hr : rP h X B p) (hw : WfP p) (hn : 0 < p.1.1.1) (K : ∀ h', FrK 10 X h h' → rP h' X B p → WP 109 423 [some (.ref X), some (.long (qFp p)), none, some (.int (nI p.1.1.1)), some (.int (nI p.1.2.1.length)), some (.int (nI 1))] [] h' Q) : WP 109 304 [some (.ref X), some (.long (qFp p)), none, some (.int (nI p.1.1.1)), some (.int (nI p.1.2.1.length)), some (.int (nI 1))] [] h Q := by
  have h10 := hw.1.1.1
  have h16 := hw.1.2.1.1
  have F : FrK 0 X h h := FrK.rf
  simp (disch := (first | omega | assumption | (simp (disch := omega) only [Int32.lt_iff_toInt_lt, Int32.le_iff_toInt_le, ← Int32.toInt_inj, nI_toInt, zi_m1, zi_m2, zi_m3, zi_m9]; omega) | decide)) only [sL_fails_304, sL_fails_305, sL_fails_308, sL_fails_310, sL_fails_313, sL_fails_314, sL_fails_315, sL_fails_316, zpush_v, zpush_n, gCk, gAi, gSi, gLi, gLq, ↓if_pos, ↓if_neg, ↓reduceIte, eq_self, not_true_eq_false, not_false_eq_true, r_ck hr]
  refine k_setParent hr hw (f_e30 hw hn) (fun h F2 hr _ => ?_)
  replace F := F.tr F2
  clear F2
  simp (disch := (first | omega | assumption | (simp (disch := omega) only [Int32.lt_iff_toInt_lt, Int32.le_iff_toInt_le, ← Int32.toInt_inj, nI_toInt, zi_m1, zi_m2, zi_m3, zi_m9]; omega) | decide)) only [sL_fails_319, sL_fails_320, sL_fails_323, sL_fails_324, sL_fails_325, sL_fails_326, zpush_v, zpush_n, gCk, gAi, gSi, gLi, gLq, ↓if_pos, ↓if_neg, ↓reduceIte, eq_self, not_true_eq_false, not_false_eq_true, r_ck hr]
  refine k_setParent hr hw (f_e31 hw hn) (fun h F2 hr _ => ?_)
  replace F := F.tr F2
  clear F2
  simp (disch := (first | omega | assumption | (simp (disch := omega) only [Int32.lt_iff_toInt_lt, Int32.le_iff_toInt_le, ← Int32.toInt_inj, nI_toInt, zi_m1, zi_m2, zi_m3, zi_m9]; omega) | decide)) only [sL_fails_329, sL_fails_331, sL_fails_334, sL_fails_335, sL_fails_336, sL_fails_337, sL_fails_338, zpush_v, zpush_n, gCk, gAi, gSi, gLi, gLq, ↓if_pos, ↓if_neg, ↓reduceIte, eq_self, not_true_eq_false, not_false_eq_true, r_ck hr]
  refine k_setStyle hr hw (f_e32 hw hn) (fun h F2 hr _ => ?_)
  replace F := F.tr F2
  clear F2
  simp (disch := (first | omega | assumption | (simp (disch := omega) only [Int32.lt_iff_toInt_lt, Int32.le_iff_toInt_le, ← Int32.toInt_inj, nI_toInt, zi_m1, zi_m2, zi_m3, zi_m9]; omega) | decide)) only [sL_fails_341, sL_fails_342, sL_fails_345, sL_fails_346, sL_fails_347, sL_fails_348, sL_fails_350, zpush_v, zpush_n, gCk, gAi, gSi, gLi, gLq, ↓if_pos, ↓if_neg, ↓reduceIte, eq_self, not_true_eq_false, not_false_eq_true, r_ck hr]
  refine k_setStyle hr hw (f_e33 hw hn) (fun h F2 hr _ => ?_)
  replace F := F.tr F2
  clear F2
  simp (disch := (first | omega | assumption | (simp (disch := omega) only [Int32.lt_iff_toInt_lt, Int32.le_iff_toInt_le, ← Int32.toInt_inj, nI_toInt, zi_m1, zi_m2, zi_m3, zi_m9]; omega) | decide)) only [sL_fails_353, sL_fails_354, sL_fails_357, sL_fails_358, sL_fails_359, sL_fails_360, sL_fails_361, zpush_v, zpush_n, gCk, gAi, gSi, gLi, gLq, ↓if_pos, ↓if_neg, ↓reduceIte, eq_self, not_true_eq_false, not_false_eq_true, r_ck hr]
  refine k_setStyle hr hw (f_e34 hw hn) (fun h F2 hr _ => ?_)
  replace F := F.tr F2
  clear F2
  simp (disch := (first | omega | assumption | (simp (disch := omega) only [Int32.lt_iff_toInt_lt, Int32.le_iff_toInt_le, ← Int32.toInt_inj, nI_toInt, zi_m1, zi_m2, zi_m3, zi_m9]; omega) | decide)) only [sL_fails_364, sL_fails_365, sL_fails_368, sL_fails_369, sL_fails_370, sL_fails_371, sL_fails_374, zpush_v, zpush_n, gCk, gAi, gSi, gLi, gLq, ↓if_pos, ↓if_neg, ↓reduceIte, eq_self, not_true_eq_false, not_false_eq_true, r_ck hr]
  refine k_setStyle hr hw (f_e35 hw hn) (fun h F2 hr _ => ?_)
  replace F := F.tr F2
  clear F2
  simp (disch := (first | omega | assumption | (simp (disch := omega) only [Int32.lt_iff_toInt_lt, Int32.le_iff_toInt_le, ← Int32.toInt_inj, nI_toInt, zi_m1, zi_m2, zi_m3, zi_m9]; omega) | decide)) only [sL_fails_377, sL_fails_378, sL_fails_381, sL_fails_382, sL_fails_383, sL_fails_385, sL_fails_386, zpush_v, zpush_n, gCk, gAi, gSi, gLi, gLq, ↓if_pos, ↓if_neg, ↓reduceIte, eq_self, not_true_eq_false, not_false_eq_true, r_ck hr]
  refine k_setStyle hr hw (f_e36 hw hn) (fun h F2 hr _ => ?_)
  replace F := F.tr F2
  clear F2
  simp (disch := (first | omega | assumption | (simp (disch := omega) only [Int32.lt_iff_toInt_lt, Int32.le_iff_toInt_le, ← Int32.toInt_inj, nI_toInt, zi_m1, zi_m2, zi_m3, zi_m9]; omega) | decide)) only [sL_fails_389, sL_fails_390, sL_fails_393, sL_fails_394, sL_fails_395, sL_fails_396, sL_fails_398, zpush_v, zpush_n, gCk, gAi, gSi, gLi, gLq, ↓if_pos, ↓if_neg, ↓reduceIte, eq_self, not_true_eq_false, not_false_eq_true, r_ck hr]
  refine k_setStyle hr hw (f_e37 hw hn) (fun h F2 hr _ => ?_)
  replace F := F.tr F2
  clear F2
  simp (disch := (first | omega | assumption | (simp (disch := omega) only [Int32.lt_iff_toInt_lt, Int32.le_iff_toInt_le, ← Int32.toInt_inj, nI_toInt, zi_m1, zi_m2, zi_m3, zi_m9]; omega) | decide)) only [sL_fails_401, sL_fails_402, sL_fails_405, sL_fails_406, sL_fails_407, sL_fails_409, sL_fails_412, sL_fails_413, sL_fails_416, sL_fails_417, sL_fails_420, sL_fails_421i, sL_fails_421r, sL_fails_421z, sL_fails_421o, zpush_v, zpush_n, gCk, gAi, gSi, gLi, gLq, ↓if_pos, ↓if_neg, ↓reduceIte, eq_self, not_true_eq_false, not_false_eq_true, r_ck hr, x_styleAt hr hw, f_e38 hw hn]
  exact K _ (F.wd (by omega)) hr
theorem l_fC (hr : rP h X B p) (hw : WfP p) (hl : 0 < p.1.2.1.length) (K : ∀ h', FrK 10 X h h' → rP h' X B p → WP 109 552 [some (.ref X), some (.long (qFp p)), none, some (.int (nI p.1.1.1)), some (.int (nI p.1.2.1.length)), some (.int (nI 1))] [] h' Q) : WP 109 423 [some (.ref X), some (.long (qFp p)), none, some (.int (nI p.1.1.1)), some (.int (nI p.1.2.1.length)), some (.int (nI 1))] [] h Q := by
  have h10 := hw.1.1.1
  have h16 := hw.1.2.1.1
  have F : FrK 0 X h h := FrK.rf
  simp (disch := (first | omega | assumption | (simp (disch := omega) only [Int32.lt_iff_toInt_lt, Int32.le_iff_toInt_le, ← Int32.toInt_inj, nI_toInt, zi_m1, zi_m2, zi_m3, zi_m9]; omega) | decide)) only [sL_fails_423, sL_fails_425, sL_fails_428, sL_fails_430, sL_fails_433, sL_fails_434, sL_fails_435, sL_fails_436, sL_fails_437, zpush_v, zpush_n, gCk, gAi, gSi, gLi, gLq, ↓if_pos, ↓if_neg, ↓reduceIte, eq_self, not_true_eq_false, not_false_eq_true, r_ck hr]
  refine k_change hr hw (f_e40 hw hl) (fun h F2 hr _ => ?_)
  replace F := F.tr F2
  clear F2
  simp (disch := (first | omega | assumption | (simp (disch := omega) only [Int32.lt_iff_toInt_lt, Int32.le_iff_toInt_le, ← Int32.toInt_inj, nI_toInt, zi_m1, zi_m2, zi_m3, zi_m9]; omega) | decide)) only [sL_fails_440, sL_fails_441, sL_fails_444, sL_fails_445, sL_fails_446, sL_fails_447, sL_fails_450, zpush_v, zpush_n, gCk, gAi, gSi, gLi, gLq, ↓if_pos, ↓if_neg, ↓reduceIte, eq_self, not_true_eq_false, not_false_eq_true, r_ck hr]
  refine k_change hr hw (f_e41 hw hl) (fun h F2 hr _ => ?_)
  replace F := F.tr F2
  clear F2
  simp (disch := (first | omega | assumption | (simp (disch := omega) only [Int32.lt_iff_toInt_lt, Int32.le_iff_toInt_le, ← Int32.toInt_inj, nI_toInt, zi_m1, zi_m2, zi_m3, zi_m9]; omega) | decide)) only [sL_fails_453, sL_fails_454, sL_fails_457, sL_fails_458, sL_fails_459, sL_fails_460, sL_fails_461, zpush_v, zpush_n, gCk, gAi, gSi, gLi, gLq, ↓if_pos, ↓if_neg, ↓reduceIte, eq_self, not_true_eq_false, not_false_eq_true, r_ck hr]
  refine k_change hr hw (f_e42 hw hl) (fun h F2 hr _ => ?_)
  replace F := F.tr F2
  clear F2
  simp (disch := (first | omega | assumption | (simp (disch := omega) only [Int32.lt_iff_toInt_lt, Int32.le_iff_toInt_le, ← Int32.toInt_inj, nI_toInt, zi_m1, zi_m2, zi_m3, zi_m9]; omega) | decide)) only [sL_fails_464, sL_fails_465, sL_fails_468, sL_fails_469, sL_fails_470, sL_fails_472, zpush_v, zpush_n, gCk, gAi, gSi, gLi, gLq, ↓if_pos, ↓if_neg, ↓reduceIte, eq_self, not_true_eq_false, not_false_eq_true, r_ck hr]
  refine k_shift hr hw (f_e43 hw hl) (fun h F2 hr _ => ?_)
  replace F := F.tr F2
  clear F2
  simp (disch := (first | omega | assumption | (simp (disch := omega) only [Int32.lt_iff_toInt_lt, Int32.le_iff_toInt_le, ← Int32.toInt_inj, nI_toInt, zi_m1, zi_m2, zi_m3, zi_m9]; omega) | decide)) only [sL_fails_475, sL_fails_476, sL_fails_479, sL_fails_480, sL_fails_481, sL_fails_483, zpush_v, zpush_n, gCk, gAi, gSi, gLi, gLq, ↓if_pos, ↓if_neg, ↓reduceIte, eq_self, not_true_eq_false, not_false_eq_true, r_ck hr]
  refine k_shift hr hw (f_e44 hw hl) (fun h F2 hr _ => ?_)
  replace F := F.tr F2
  clear F2
  simp (disch := (first | omega | assumption | (simp (disch := omega) only [Int32.lt_iff_toInt_lt, Int32.le_iff_toInt_le, ← Int32.toInt_inj, nI_toInt, zi_m1, zi_m2, zi_m3, zi_m9]; omega) | decide)) only [sL_fails_486, sL_fails_488, sL_fails_491, sL_fails_492, sL_fails_493, sL_fails_495, sL_fails_498, sL_fails_499, sL_fails_502, sL_fails_503, sL_fails_504, sL_fails_505, sL_fails_506, sL_fails_507, sL_fails_510, sL_fails_511, sL_fails_514, sL_fails_515, sL_fails_518, sL_fails_519, sL_fails_520, sL_fails_521, sL_fails_522, sL_fails_523, sL_fails_526, sL_fails_527, sL_fails_530, sL_fails_531, sL_fails_534, sL_fails_535, sL_fails_536, sL_fails_537, sL_fails_538, sL_fails_541, sL_fails_542, sL_fails_545, sL_fails_546, sL_fails_549, sL_fails_550i, sL_fails_550r, sL_fails_550z, sL_fails_550o, zpush_v, zpush_n, gCk, gAi, gSi, gLi, gLq, ↓if_pos, ↓if_neg, ↓reduceIte, eq_self, not_true_eq_false, not_false_eq_true, r_ck hr, x_about hr hw, f_e45 hw hl, f_len4 hw hl, x_sign hr hw, f_e46 hw hl, x_syllable hr hw, f_len5 hw hl, f_e48 hw hl, x_shows hr hw, f_e49 hw hl]
  exact K _ (F.wd (by omega)) hr
theorem l_fD (hr : rP h X B p) (hw : WfP p) (K : ∀ h', FrK 1 X h h' → rP h' X B p → Q (some (.int (nI 1))) h') : WP 109 584 [some (.ref X), some (.long (qFp p)), none, some (.int (nI p.1.1.1)), some (.int (nI p.1.2.1.length)), some (.int (nI 1))] [] h Q := by
  simp (disch := (first | omega | assumption | (simp (disch := omega) only [Int32.lt_iff_toInt_lt, Int32.le_iff_toInt_le, ← Int32.toInt_inj, nI_toInt, zi_m1, zi_m2, zi_m3, zi_m9]; omega) | decide)) only [sL_fails_584, sL_fails_585, zpush_v, zpush_n, gCk, gAi, gSi, gLi, gLq, ↓if_pos, ↓if_neg, ↓reduceIte, eq_self, not_true_eq_false, not_false_eq_true, r_ck hr]
  refine k_fp hr hw (fun h F2 hr => ?_)
  simp (disch := (first | omega | assumption | (simp (disch := omega) only [Int32.lt_iff_toInt_lt, Int32.le_iff_toInt_le, ← Int32.toInt_inj, nI_toInt, zi_m1, zi_m2, zi_m3, zi_m9]; omega) | decide)) only [sL_fails_588, sL_fails_589, sL_fails_590, sL_fails_593, sL_fails_594, sL_fails_597, sL_fails_598, zpush_v, zpush_n, gCk, gAi, gSi, gLi, gLq, ↓if_pos, ↓if_neg, ↓reduceIte, eq_self, not_true_eq_false, not_false_eq_true, lg_self]
  try simp only [or_true, if_true]
  exact K _ F2 hr
theorem l_fE (hr : rP h X B p) (hw : WfP p) (K : ∀ h', FrK 1 X h h' → rP h' X B p → Q (some (.int (nI 1))) h') : WP 109 570 [some (.ref X), some (.long (qFp p)), none, some (.int (nI p.1.1.1)), some (.int (nI p.1.2.1.length)), some (.int (nI 1))] [] h Q := by
  have h16 := hw.1.2.1.1
  by_cases hl : 0 < p.1.2.1.length
  · simp (disch := (first | omega | assumption | (simp (disch := omega) only [Int32.lt_iff_toInt_lt, Int32.le_iff_toInt_le, ← Int32.toInt_inj, nI_toInt, zi_m1, zi_m2, zi_m3, zi_m9]; omega) | decide)) only [sL_fails_570, sL_fails_572, zpush_v, zpush_n, gCk, gAi, gSi, gLi, gLq, ↓if_pos, ↓if_neg, ↓reduceIte, eq_self, not_true_eq_false, not_false_eq_true]
    exact l_fD hr hw K
  · have hl0 : p.1.2.1.length = 0 := by omega
    have e := l_fD hr hw K
    rw [hl0] at e ⊢
    simp (disch := (first | omega | assumption | (simp (disch := omega) only [Int32.lt_iff_toInt_lt, Int32.le_iff_toInt_le, ← Int32.toInt_inj, nI_toInt, zi_m1, zi_m2, zi_m3, zi_m9]; omega) | decide)) only [sL_fails_570, sL_fails_572, sL_fails_575, sL_fails_576, sL_fails_579, sL_fails_581, zpush_v, zpush_n, gCk, gAi, gSi, gLi, gLq, ↓if_pos, ↓if_neg, ↓reduceIte, eq_self, not_true_eq_false, not_false_eq_true, r_ck hr, x_crowd hr hw, f_e51 hw hl0]
    exact e
theorem l_fG (hr : rP h X B p) (hw : WfP p) (K : ∀ h', FrK 2 X h h' → rP h' X B p → Q (some (.int (nI 1))) h') : WP 109 552 [some (.ref X), some (.long (qFp p)), none, some (.int (nI p.1.1.1)), some (.int (nI p.1.2.1.length)), some (.int (nI 1))] [] h Q := by
  have h10 := hw.1.1.1
  by_cases hn : 0 < p.1.1.1
  · simp (disch := (first | omega | assumption | (simp (disch := omega) only [Int32.lt_iff_toInt_lt, Int32.le_iff_toInt_le, ← Int32.toInt_inj, nI_toInt, zi_m1, zi_m2, zi_m3, zi_m9]; omega) | decide)) only [sL_fails_552, sL_fails_554, sL_fails_557, sL_fails_558, zpush_v, zpush_n, gCk, gAi, gSi, gLi, gLq, ↓if_pos, ↓if_neg, ↓reduceIte, eq_self, not_true_eq_false, not_false_eq_true]
    exact l_fE hr hw (fun h' F => K h' (F.wd (by omega)))
  · have hn0 : p.1.1.1 = 0 := by omega
    have e := fun (h' : Hp) (hr : rP h' X B p) K => l_fE (Q := Q) hr hw K
    rw [hn0] at e ⊢
    simp (disch := (first | omega | assumption | (simp (disch := omega) only [Int32.lt_iff_toInt_lt, Int32.le_iff_toInt_le, ← Int32.toInt_inj, nI_toInt, zi_m1, zi_m2, zi_m3, zi_m9]; omega) | decide)) only [sL_fails_552, sL_fails_554, sL_fails_557, sL_fails_558, sL_fails_561, sL_fails_562, zpush_v, zpush_n, gCk, gAi, gSi, gLi, gLq, ↓if_pos, ↓if_neg, ↓reduceIte, eq_self, not_true_eq_false, not_false_eq_true, r_ck hr]
    refine k_unstyle hr hw (f_e50 hw hn0) (fun h F2 hr _ => ?_)
    simp (disch := (first | omega | assumption | (simp (disch := omega) only [Int32.lt_iff_toInt_lt, Int32.le_iff_toInt_le, ← Int32.toInt_inj, nI_toInt, zi_m1, zi_m2, zi_m3, zi_m9]; omega) | decide)) only [sL_fails_565, sL_fails_567, zpush_v, zpush_n, gCk, gAi, gSi, gLi, gLq, ↓if_pos, ↓if_neg, ↓reduceIte, eq_self, not_true_eq_false, not_false_eq_true]
    exact e _ hr (fun h' F => K h' (F2.tr F))
theorem l_fH (hr : rP h X B p) (hw : WfP p) (K : ∀ h', FrK 12 X h h' → rP h' X B p → Q (some (.int (nI 1))) h') : WP 109 423 [some (.ref X), some (.long (qFp p)), none, some (.int (nI p.1.1.1)), some (.int (nI p.1.2.1.length)), some (.int (nI 1))] [] h Q := by
  have h16 := hw.1.2.1.1
  by_cases hl : 0 < p.1.2.1.length
  · exact l_fC hr hw hl (fun h1 F1 hr => l_fG hr hw (fun h2 F2 hr => K h2 (F1.tr F2) hr))
  · have hl0 : p.1.2.1.length = 0 := by omega
    have e := l_fG (Q := Q) hr hw (fun h2 F2 hr => K h2 (F2.wd (by omega)) hr)
    rw [hl0] at e ⊢
    simp (disch := (first | omega | assumption | (simp (disch := omega) only [Int32.lt_iff_toInt_lt, Int32.le_iff_toInt_le, ← Int32.toInt_inj, nI_toInt, zi_m1, zi_m2, zi_m3, zi_m9]; omega) | decide)) only [sL_fails_423, sL_fails_425, zpush_v, zpush_n, gCk, gAi, gSi, gLi, gLq, ↓if_pos, ↓if_neg, ↓reduceIte, eq_self, not_true_eq_false, not_false_eq_true]
    exact e
theorem y_fails (hr : rP h X B p) (hw : WfP p) (K : ∀ h', FrK 42 X h h' → rP h' X B p → Q (some (.int (nI 1))) h') : WPm 109 [.ref X] h Q := by
  have h10 := hw.1.1.1
  refine l_fA hr hw (fun h1 F1 hr => ?_)
  by_cases hn : 0 < p.1.1.1
  · exact l_fB hr hw hn (fun h2 F2 hr => l_fH hr hw (fun h3 F3 hr => K h3 ((F1.tr F2).tr F3) hr))
  · have hn0 : p.1.1.1 = 0 := by omega
    have e := l_fH (Q := Q) hr hw (fun h2 F2 hr => K h2 ((F1.tr F2).wd (by omega)) hr)
    rw [hn0] at e ⊢
    simp (disch := (first | omega | assumption | (simp (disch := omega) only [Int32.lt_iff_toInt_lt, Int32.le_iff_toInt_le, ← Int32.toInt_inj, nI_toInt, zi_m1, zi_m2, zi_m3, zi_m9]; omega) | decide)) only [sL_fails_304, sL_fails_305, zpush_v, zpush_n, gCk, gAi, gSi, gLi, gLq, ↓if_pos, ↓if_neg, ↓reduceIte, eq_self, not_true_eq_false, not_false_eq_true]
    exact e
end LF
