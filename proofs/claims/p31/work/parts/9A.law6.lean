/-! law(): fit, the loop of acts -/
section LW4
variable {h : Hp} {X B n l e i : Nat} {p : PS} {Q : Option Value → Hp → Prop}

theorem l_ac4 (hr : rP h X B p) (hw : WfP p) (hS : lst p n l e) (hi : i < l) (he : e ≤ 1000) (a : Int32) (l0 l3 l4 l5 l12 l13 l14 l15 l16 : Option Value)
    (K : ∀ h' p' l12 l13 l14 l15 l16, FrK 12 X h h' → rP h' X B p' → WfP p' → lst p' n l (e + 40) → WP 116 1039 [l0, some (.ref X), some (.int (nI n)), l3, l4, l5, some (.int a), some (.int (nI i)), some (.long (qFp p)), none, some (.int (nI 1)), some (.int (nI 4)), l12, l13, l14, l15, l16] [] h' Q) :
    WP 116 439 [l0, some (.ref X), some (.int (nI n)), l3, l4, l5, some (.int a), some (.int (nI i)), some (.long (qFp p)), none, some (.int (nI 1)), some (.int (nI 4)), l12, l13, l14, l15, l16] [] h Q := by
  have h10 := hw.1.1.1
  have h16 := hw.1.2.1.1
  obtain ⟨S1, S2, S3, S4⟩ := id hS
  have hi2 : i < p.1.2.1.length := by omega
  have wl := lnA_wf hw.1.2.1 i
  have w1 := wl.1
  have w2 := wl.2.1
  have he1 := (S4 _ (lnA_mem hi2)).2
  have heb := nI_sub (a := (lnA p.1.2.1 i).2.1) (b := (lnA p.1.2.1 i).1) (by omega) (by omega)
  have ok := rdL_ok hw.1.1 wl
  have hsum := okR_sum ok
  by_cases c0 : (rdL p.1.1 (lnA p.1.2.1 i)).2.2.length = 0
  · have eo : opFit p (nI i) = (p, -2) := by
      unfold opFit
      rw [dN_nI (by omega) hi2]
      exact if_pos c0
    simp (disch := (first | omega | assumption | (simp (disch := omega) only [Int32.lt_iff_toInt_lt, Int32.le_iff_toInt_le, ← Int32.toInt_inj, nI_toInt, zi_m1, zi_m2, zi_m3, zi_m9]; omega) | decide)) only [sL_law_439, sL_law_441, sL_law_540, sL_law_542, sL_law_543, sL_law_589, sL_law_591, sL_law_592, sL_law_653, sL_law_655, sL_law_656, sL_law_769, sL_law_771, sL_law_772, sL_law_775, sL_law_776, sL_law_778, sL_law_779, sL_law_782i, sL_law_782r, sL_law_782z, sL_law_782o, sL_law_784, sL_law_785, sL_law_787, sL_law_789, sL_law_792i, sL_law_792r, sL_law_792z, sL_law_792o, sL_law_794, sL_law_796, sL_law_799, sL_law_800, sL_law_803, sL_law_804, sL_law_806, sL_law_808, sL_law_809, sL_law_810, sL_law_811, sL_law_814i, sL_law_814r, sL_law_814z, sL_law_814o, sL_law_816, sL_law_817, sL_law_819, sL_law_820, sL_law_823, sL_law_824, sL_law_826, sL_law_827, sL_law_830, sL_law_831, sL_law_833, sL_law_834, sL_law_836, sL_law_837i, sL_law_837r, sL_law_837z, sL_law_837o, sL_law_839, sL_law_840, sL_law_842, zpush_v, zpush_n, gCk, gAi, gSi, gLi, gLq, ↓if_pos, ↓if_neg, ↓reduceIte, eq_self, not_true_eq_false, not_false_eq_true, r_ck hr, r_ab5 hr hw, r_ab6 hr hw, r_ab1 hr hw, r_ab0 hr hw, c0]
    refine k_fit hr hw eo (fun h1 F1 hr1 hw1 => ?_)
    simp (disch := (first | omega | assumption | (simp (disch := omega) only [Int32.lt_iff_toInt_lt, Int32.le_iff_toInt_le, ← Int32.toInt_inj, nI_toInt, zi_m1, zi_m2, zi_m3, zi_m9]; omega) | decide)) only [sL_law_845i, sL_law_845r, sL_law_845z, sL_law_845o, sL_law_847, sL_law_849, sL_law_865, sL_law_867, sL_law_869, sL_law_872, sL_law_873, zpush_v, zpush_n, gCk, gAi, gSi, gLi, gLq, ↓if_pos, ↓if_neg, ↓reduceIte, eq_self, not_true_eq_false, not_false_eq_true, r_ck hr1]
    refine k_fp hr1 hw1 (fun h2 F2 hr2 => ?_)
    simp (disch := (first | omega | assumption | (simp (disch := omega) only [Int32.lt_iff_toInt_lt, Int32.le_iff_toInt_le, ← Int32.toInt_inj, nI_toInt, zi_m1, zi_m2, zi_m3, zi_m9]; omega) | decide)) only [sL_law_876, sL_law_878, sL_law_879, sL_law_882, sL_law_883, sL_law_956i, sL_law_956r, sL_law_956z, sL_law_956o, sL_law_958, zpush_v, zpush_n, gCk, gAi, gSi, gLi, gLq, ↓if_pos, ↓if_neg, ↓reduceIte, eq_self, not_true_eq_false, not_false_eq_true, lg_self]
    exact K _ _ _ _ _ _ _ ((F1.tr F2).wd (by omega)) hr2 hw1 (hS.mono (by omega))
  · obtain ⟨A, x, hA, hA2⟩ := setK_kV (its := (lnA p.1.2.1 i).2.2.2.2) (by
      rw [← rdL_kV (S := p.1.1)]
      intro q
      exact c0 (by rw [q]; rfl))
    rw [← rdL_kV (S := p.1.1)] at hA
    have hlen : (rdL p.1.1 (lnA p.1.2.1 i)).2.2.length = A.length + 1 := by rw [hA, List.length_append]; rfl
    have hs2 : (rdL p.1.1 (lnA p.1.2.1 i)).2.2.sum = A.sum + x := by rw [hA, List.sum_append]; simp
    have gd : (rdL p.1.1 (lnA p.1.2.1 i)).2.2.getD A.length 0 = x := by rw [hA]; exact getD_last
    have hn1 : nI (A.length + 1) - nI 1 = nI A.length := nI_sub (by omega) (by have := ok.2.1; omega)
    have l20 := ok.2.1
    have hdue : dueOf p.1.1 (lnA p.1.2.1 i) = ((lnA p.1.2.1 i).2.1 : Int) - (lnA p.1.2.1 i).1 - A.sum := by
      unfold dueOf
      rw [hs2, show (rdL p.1.1 (lnA p.1.2.1 i)).2.2.length - 1 = A.length by omega, gd]
      omega
    have x99 : x ≤ 9999 := ok.2.2.2.2 x (by rw [hA]; simp)
    have hy : (nI ((lnA p.1.2.1 i).2.1 - (lnA p.1.2.1 i).1) - nI (A.sum + x) + nI x).toInt = ((lnA p.1.2.1 i).2.1 : Int) - (lnA p.1.2.1 i).1 - A.sum := by
      have h1 : (nI ((lnA p.1.2.1 i).2.1 - (lnA p.1.2.1 i).1) - nI (A.sum + x)).toInt = (((lnA p.1.2.1 i).2.1 - (lnA p.1.2.1 i).1 : Nat) : Int) - ((A.sum + x : Nat) : Int) := by
        rw [Int32.toInt_sub, nI_toInt (by omega), nI_toInt (by omega)]
        exact Int.bmod_eq_of_le (by omega) (by omega)
      rw [Int32.toInt_add, h1, nI_toInt (by omega), Int.bmod_eq_of_le (by omega) (by omega)]
      omega
    simp (disch := (first | omega | assumption | (simp (disch := omega) only [Int32.lt_iff_toInt_lt, Int32.le_iff_toInt_le, ← Int32.toInt_inj, nI_toInt, zi_m1, zi_m2, zi_m3, zi_m9]; omega) | decide)) only [sL_law_439, sL_law_441, sL_law_540, sL_law_542, sL_law_543, sL_law_589, sL_law_591, sL_law_592, sL_law_653, sL_law_655, sL_law_656, sL_law_769, sL_law_771, sL_law_772, sL_law_775, sL_law_776, sL_law_778, sL_law_779, sL_law_782i, sL_law_782r, sL_law_782z, sL_law_782o, sL_law_784, sL_law_785, sL_law_787, sL_law_789, sL_law_792i, sL_law_792r, sL_law_792z, sL_law_792o, sL_law_794, sL_law_796, sL_law_799, sL_law_800, sL_law_803, sL_law_804, sL_law_806, sL_law_808, sL_law_809, sL_law_810, sL_law_811, sL_law_814i, sL_law_814r, sL_law_814z, sL_law_814o, sL_law_816, sL_law_817, sL_law_819, sL_law_820, sL_law_823, sL_law_824, sL_law_826, sL_law_827, sL_law_830, sL_law_831, sL_law_833, sL_law_834, sL_law_836, sL_law_837i, sL_law_837r, sL_law_837z, sL_law_837o, sL_law_839, sL_law_840, sL_law_842, zpush_v, zpush_n, gCk, gAi, gSi, gLi, gLq, ↓if_pos, ↓if_neg, ↓reduceIte, eq_self, not_true_eq_false, not_false_eq_true, r_ck hr, r_ab5 hr hw, r_ab6 hr hw, r_ab1 hr hw, r_ab0 hr hw, r_syl hr hw, syW1, hlen, hs2, hn1, gd, heb]
    generalize nI ((lnA p.1.2.1 i).2.1 - (lnA p.1.2.1 i).1) - nI (A.sum + x) + nI x = y at hy
    by_cases c1 : dueOf p.1.1 (lnA p.1.2.1 i) < 0 ∨ 9999 < dueOf p.1.1 (lnA p.1.2.1 i)
    · have eo : opFit p (nI i) = (p, -2) := by
        unfold opFit
        rw [dN_nI (by omega) hi2]
        simp only
        rw [if_neg c0]
        exact if_pos c1
      rw [hdue] at c1
      refine k_fit hr hw eo (fun h1 F1 hr1 hw1 => ?_)
      have fin : ∀ l12 l13 l14 l15, WP 116 865 [l0, some (.ref X), some (.int (nI n)), l3, l4, l5, some (.int a), some (.int (nI i)), some (.long (qFp p)), none, some (.int (nI 1)), some (.int (nI 4)), l12, l13, l14, l15, some (.int (-2))] [] h1 Q := by
        intro l12 l13 l14 l15
        simp (disch := (first | omega | assumption | (simp (disch := omega) only [Int32.lt_iff_toInt_lt, Int32.le_iff_toInt_le, ← Int32.toInt_inj, nI_toInt, zi_m1, zi_m2, zi_m3, zi_m9]; omega) | decide)) only [sL_law_865, sL_law_867, sL_law_869, sL_law_872, sL_law_873, zpush_v, zpush_n, gCk, gAi, gSi, gLi, gLq, ↓if_pos, ↓if_neg, ↓reduceIte, eq_self, not_true_eq_false, not_false_eq_true, r_ck hr1]
        refine k_fp hr1 hw1 (fun h2 F2 hr2 => ?_)
        simp (disch := (first | omega | assumption | (simp (disch := omega) only [Int32.lt_iff_toInt_lt, Int32.le_iff_toInt_le, ← Int32.toInt_inj, nI_toInt, zi_m1, zi_m2, zi_m3, zi_m9]; omega) | decide)) only [sL_law_876, sL_law_878, sL_law_879, sL_law_882, sL_law_883, sL_law_956i, sL_law_956r, sL_law_956z, sL_law_956o, sL_law_958, zpush_v, zpush_n, gCk, gAi, gSi, gLi, gLq, ↓if_pos, ↓if_neg, ↓reduceIte, eq_self, not_true_eq_false, not_false_eq_true, lg_self]
        exact K _ _ _ _ _ _ _ ((F1.tr F2).wd (by omega)) hr2 hw1 (hS.mono (by omega))
      rcases c1 with c1 | c1
      · have cl : y < nI 0 := by
          rw [Int32.lt_iff_toInt_lt, hy, nI_toInt (by omega)]
          omega
        simp (disch := (first | omega | assumption | (simp (disch := omega) only [Int32.lt_iff_toInt_lt, Int32.le_iff_toInt_le, ← Int32.toInt_inj, nI_toInt, zi_m1, zi_m2, zi_m3, zi_m9]; omega) | decide)) only [sL_law_845i, sL_law_845r, sL_law_845z, sL_law_845o, sL_law_847, sL_law_849, sL_law_852, sL_law_854, sL_law_857, sL_law_859, sL_law_862, zpush_v, zpush_n, gCk, gAi, gSi, gLi, gLq, ↓if_pos, ↓if_neg, ↓reduceIte, eq_self, not_true_eq_false, not_false_eq_true]
        exact fin _ _ _ _
      · have cl : ¬ y < nI 0 := by
          rw [Int32.lt_iff_toInt_lt, hy, nI_toInt (by omega)]
          omega
        have cl2 : ¬ y ≤ nI 9999 := by
          rw [Int32.le_iff_toInt_le, hy, nI_toInt (by omega)]
          omega
        simp (disch := (first | omega | assumption | (simp (disch := omega) only [Int32.lt_iff_toInt_lt, Int32.le_iff_toInt_le, ← Int32.toInt_inj, nI_toInt, zi_m1, zi_m2, zi_m3, zi_m9]; omega) | decide)) only [sL_law_845i, sL_law_845r, sL_law_845z, sL_law_845o, sL_law_847, sL_law_849, sL_law_852, sL_law_854, sL_law_857, sL_law_859, sL_law_862, zpush_v, zpush_n, gCk, gAi, gSi, gLi, gLq, ↓if_pos, ↓if_neg, ↓reduceIte, eq_self, not_true_eq_false, not_false_eq_true]
        exact fin _ _ _ _
    · generalize hv : (dueOf p.1.1 (lnA p.1.2.1 i)).toNat = v
      have eo : opFit p (nI i) = (kp p (putL p.1 i ((lnA p.1.2.1 i).1, (lnA p.1.2.1 i).2.1, (lnA p.1.2.1 i).2.2.1, (lnA p.1.2.1 i).2.2.2.1, setK (lnA p.1.2.1 i).2.2.2.2 v)), nI v) := by
        unfold opFit
        rw [dN_nI (by omega) hi2]
        simp only
        rw [if_neg c0, if_neg c1, hv]
      rw [hdue] at c1 hv
      have ye : y = nI v := by
        rw [← Int32.toInt_inj, hy, nI_toInt (by omega)]
        omega
      subst ye
      refine k_fit hr hw eo (fun h1 F1 hr1 hw1 => ?_)
      have hi1 : i < (kp p (putL p.1 i ((lnA p.1.2.1 i).1, (lnA p.1.2.1 i).2.1, (lnA p.1.2.1 i).2.2.1, (lnA p.1.2.1 i).2.2.2.1, setK (lnA p.1.2.1 i).2.2.2.2 v))).1.2.1.length := by show i < (putL p.1 i _).2.1.length; rw [putL_len]; exact hi2
      have el : lnA (kp p (putL p.1 i ((lnA p.1.2.1 i).1, (lnA p.1.2.1 i).2.1, (lnA p.1.2.1 i).2.2.1, (lnA p.1.2.1 i).2.2.2.1, setK (lnA p.1.2.1 i).2.2.2.2 v))).1.2.1 i = _ := putL_at hi2
      have er : (rdL (kp p (putL p.1 i ((lnA p.1.2.1 i).1, (lnA p.1.2.1 i).2.1, (lnA p.1.2.1 i).2.2.1, (lnA p.1.2.1 i).2.2.2.1, setK (lnA p.1.2.1 i).2.2.2.2 v))).1.1 (lnA (kp p (putL p.1 i ((lnA p.1.2.1 i).1, (lnA p.1.2.1 i).2.1, (lnA p.1.2.1 i).2.2.1, (lnA p.1.2.1 i).2.2.2.1, setK (lnA p.1.2.1 i).2.2.2.2 v))).1.2.1 i)).2.2 = A ++ [v] := by
        rw [rdL_kV, el]
        exact hA2 v
      have esum : (A ++ [v]).sum = (lnA p.1.2.1 i).2.1 - (lnA p.1.2.1 i).1 := by
        rw [List.sum_append]
        show A.sum + [v].sum = _
        have : [v].sum = v := by simp
        omega
      have ra6 := r_ab6 hr1 hw1 hi1
      have ra7 := r_ab7 hr1 hw1 hi1
      have ra1 := r_ab1 hr1 hw1 hi1
      have ra0 := r_ab0 hr1 hw1 hi1
      have rsy := r_syl hr1 hw1 (k := A.length) (j := 1) hi1 (by rw [er, List.length_append]; exact Nat.lt_succ_self _) (by omega)
      rw [syW1] at rsy
      rw [er] at ra6 ra7 rsy
      rw [getD_last] at rsy
      rw [esum] at ra6 ra7
      rw [el] at ra1 ra0 ra7
      rw [bI_t (Nat.le_refl _)] at ra7
      have cl : ¬ nI v < nI 0 := by
        rw [Int32.lt_iff_toInt_lt, hy, nI_toInt (by omega)]
        omega
      have cl2 : nI v ≤ nI 9999 := by
        rw [Int32.le_iff_toInt_le, hy, nI_toInt (by omega)]
        omega
      simp (disch := (first | omega | assumption | (simp (disch := omega) only [Int32.lt_iff_toInt_lt, Int32.le_iff_toInt_le, ← Int32.toInt_inj, nI_toInt, zi_m1, zi_m2, zi_m3, zi_m9]; omega) | decide)) only [sL_law_845i, sL_law_845r, sL_law_845z, sL_law_845o, sL_law_847, sL_law_849, sL_law_852, sL_law_854, sL_law_857, sL_law_859, sL_law_862, sL_law_890, sL_law_892, sL_law_894, sL_law_897, sL_law_898, sL_law_900, sL_law_902, sL_law_905, sL_law_906, sL_law_908, sL_law_909, sL_law_912, sL_law_913, sL_law_915, sL_law_916, sL_law_919, sL_law_920, sL_law_923, sL_law_924, sL_law_926, sL_law_928, sL_law_931, sL_law_932, sL_law_935, sL_law_936, sL_law_938, sL_law_940, sL_law_941, sL_law_942, sL_law_943, sL_law_946, sL_law_948, sL_law_951, sL_law_952, sL_law_956i, sL_law_956r, sL_law_956z, sL_law_956o, sL_law_958, zpush_v, zpush_n, gCk, gAi, gSi, gLi, gLq, ↓if_pos, ↓if_neg, ↓reduceIte, eq_self, not_true_eq_false, not_false_eq_true, r_ck hr1, ra6, ra7, ra1, ra0, rsy, hn1, heb]
      exact K _ _ _ _ _ _ _ (F1.wd (by omega)) hr1 hw1 ((hS.mono (Nat.le_add_right e 40)).put rfl (noBr_setK (S4 _ (lnA_mem hi2)).1 v) (by show (lnA p.1.2.1 i).2.1 ≤ e + 40; omega))
end LW4
