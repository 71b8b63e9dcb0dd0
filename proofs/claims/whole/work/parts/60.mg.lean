/-! the model: lines are changed -/
theorem encV.ln {v w : Nat → Int32} {st : Stt} {i : Nat} {ln : Ln} (h : encV v st) (hw : WfSt st) (hl : encL w (100 + 166 * i) ln) (e : ∀ q, (q < 100 + 166 * i ∨ 100 + 166 * i + 166 ≤ q) → w q = v q) : encV w (putL st i ln) := by
  obtain ⟨h1, h2, h3, h4⟩ := h
  refine ⟨h1.of hw.1.1 (fun q hq => e q (by omega)), by rw [e _ (by omega)]; show v 1 = nI (st.2.1.set i ln).length; rw [List.length_set]; exact h2, by rw [e _ (by omega)]; exact h3, fun j x hx => ?_⟩
  have hx : (st.2.1.set i ln)[j]? = some x := hx
  have hl2 := (List.getElem?_eq_some_iff.mp hx).1
  rw [List.length_set] at hl2
  by_cases c : j = i
  · subst c
    rw [List.getElem?_set_self hl2] at hx
    cases hx
    exact hl
  · rw [List.getElem?_set_ne (Ne.symm c)] at hx
    exact (h4 j x hx).of (hw.2.1.2 x (List.mem_of_getElem? hx)).2.2.2.2.1 (fun q q1 q2 => e q (by omega))
section MG
variable {h0 : Hp} {M : Nat} {v pa fl tx it sg lat hat nw os hgh pl asd lks : Nat → Int32} {pm ty ct wr im sm sy : Int32}
variable {p : PS} {h : Hp}
theorem y_setHeight (hr : rM h M p) (hw : WfP p) (x : Int32) : ∃ h', Same h h' M 15 ∧ rM h' M (opSetHeight p x).1 ∧ ∀ Q : Option Value → Hp → Prop, WPm 142 [.ref M, .int x] h Q = Q (some (.int (opSetHeight p x).2)) h' := by
  obtain ⟨h0, v, pa, fl, tx, it, sg, lat, hat, nw, os, hgh, pl, asd, lks, ct, wr, im, sm, sy, rfl, hv, hp, ht⟩ := id hr
  have h5 := hw.2.2.1
  have h16 := hw.1.2.1.1
  unfold opSetHeight
  rcases dR_cases 50 2000 x (by omega) (by omega) with ⟨k, hk, rfl, e⟩ | ⟨g, e⟩
  · rw [e]
    simp only
    have i := fun (h : Hp) => in_n (h := h) (k := k) (a := 50) (b := 2000) (by omega) (by omega) (by omega)
    rw [bI_t hk] at i
    have hv2 := hv.2.2.1
    refine ⟨(mkM h0 M (upd v 2 (nI k)) (actP pa v p.2.1.length) (nI (actN p.2.1.length)) fl tx (nI p.2.2.length) ct wr it im sg sm lat hat sy nw os hgh pl asd lks), mkM_same, rM.kp hv hp ht hw ⟨hv.1.of hw.1.1.1 (fun q hq => upd_off (by omega)), by rw [upd_off (by omega)]; exact hv.2.1, upd_at, fun i x hx => ?_⟩, fun Q => ?_⟩
    · have := (List.getElem?_eq_some_iff.mp hx).1
      exact (hv.2.2.2 i x hx).of (hw.1.2.1.2 x (List.mem_of_getElem? hx)).2.2.2.2.1 (fun q q1 q2 => upd_off (by omega))
    · rw [eX10_setHeight]
      simp (disch := (first | omega | assumption | (simp (disch := omega) only [Int32.lt_iff_toInt_lt, Int32.le_iff_toInt_le, ← Int32.toInt_inj, nI_toInt, zi_m1, zi_m2, zi_m3, zi_m9]; omega) | decide)) only [sX10_setHeight_0, sX10_setHeight_1, sX10_setHeight_3, sX10_setHeight_6, sX10_setHeight_9, sX10_setHeight_12, sX10_setHeight_13, sX10_setHeight_14, sX10_setHeight_15, sX10_setHeight_18, sX10_setHeight_21, sX10_setHeight_22, mCk, mG0, mG1, mG2, mG3, mG4, mG5, mG6, mG7, mG8, mG9, mG10, mG11, mG12, mG13, mG14, mG15, mG16, mG17, mG18, mG19, mG20, mP2, mP5, mP6, mP7, mP9, mP11, mP14, mA1, mS1, mA2, mS2, mA3, mS3, mA4, mS4, mA5, mS5, mA6, mS6, mA7, mS7, mA8, mS8, mA9, mS9, mA10, mS10, mA11, mS11, mA12, mS12, mA13, mS13, mA14, mS14, zpush_v, zpush_n, gCk, gAi, gSi, gSz, gLi, gLq, ↓if_pos, ↓if_neg, i, m_sets h5, hv2]
  · rw [e]
    refine ⟨_, Same.rf, hr, fun Q => ?_⟩
    rw [eX10_setHeight]
    simp (disch := (first | omega | assumption | (simp (disch := omega) only [Int32.lt_iff_toInt_lt, Int32.le_iff_toInt_le, ← Int32.toInt_inj, nI_toInt, zi_m1, zi_m2, zi_m3, zi_m9]; omega) | decide)) only [sX10_setHeight_0, sX10_setHeight_1, sX10_setHeight_3, sX10_setHeight_6, sX10_setHeight_9, sX10_setHeight_12, sX10_setHeight_13, sX10_setHeight_14, sX10_setHeight_15, sX10_setHeight_18, sX10_setHeight_21, sX10_setHeight_22, mCk, mG0, mG1, mG2, mG3, mG4, mG5, mG6, mG7, mG8, mG9, mG10, mG11, mG12, mG13, mG14, mG15, mG16, mG17, mG18, mG19, mG20, mP2, mP5, mP6, mP7, mP9, mP11, mP14, mA1, mS1, mA2, mS2, mA3, mS3, mA4, mS4, mA5, mS5, mA6, mS6, mA7, mS7, mA8, mS8, mA9, mS9, mA10, mS10, mA11, mS11, mA12, mS12, mA13, mS13, mA14, mS14, zpush_v, zpush_n, gCk, gAi, gSi, gSz, gLi, gLq, ↓if_pos, ↓if_neg, in_f g]
theorem l_undo {n : Nat} (hn : n < 5) (Q : Option Value → Hp → Prop) : ∀ (m i : Nat), m + i = 2760 → WP 170 22 [some (.ref M), some (.int (nI i))] [] (mkM h0 M (pst v (fun q => pa (2760 * n + q)) 0 i) pa (nI n) fl tx ty ct wr it im sg sm lat hat sy nw os hgh pl asd lks) Q = Q (some (.int (nI n))) (mkM h0 M (pst v (fun q => pa (2760 * n + q)) 0 2760) pa (nI n) fl tx ty ct wr it im sg sm lat hat sy nw os hgh pl asd lks) := by
  intro m
  induction m with
  | zero =>
    intro i hi
    have hi : i = 2760 := by omega
    subst hi
    rw [sX10_undo_22]
    simp (disch := (first | omega | assumption | (simp (disch := omega) only [Int32.lt_iff_toInt_lt, Int32.le_iff_toInt_le, ← Int32.toInt_inj, nI_toInt, zi_m1, zi_m2, zi_m3, zi_m9]; omega) | decide)) only [sX10_undo_23, sX10_undo_26, sX10_undo_56, sX10_undo_57, sX10_undo_60, mCk, mG0, mG1, mG2, mG3, mG4, mG5, mG6, mG7, mG8, mG9, mG10, mG11, mG12, mG13, mG14, mG15, mG16, mG17, mG18, mG19, mG20, mP2, mP5, mP6, mP7, mP9, mP11, mP14, mA1, mS1, mA2, mS2, mA3, mS3, mA4, mS4, mA5, mS5, mA6, mS6, mA7, mS7, mA8, mS8, mA9, mS9, mA10, mS10, mA11, mS11, mA12, mS12, mA13, mS13, mA14, mS14, zpush_v, zpush_n, gCk, gAi, gSi, gSz, gLi, gLq, ↓if_pos, ↓if_neg]
  | succ m ih =>
    intro i hi
    have e := pst_step v (fun q => pa (2760 * n + q)) 0 i
    rw [Nat.zero_add] at e
    rw [← ih (i + 1) (by omega), sX10_undo_22]
    simp (disch := (first | omega | assumption | (simp (disch := omega) only [Int32.lt_iff_toInt_lt, Int32.le_iff_toInt_le, ← Int32.toInt_inj, nI_toInt, zi_m1, zi_m2, zi_m3, zi_m9]; omega) | decide)) only [sX10_undo_23, sX10_undo_26, sX10_undo_29, sX10_undo_30, sX10_undo_33, sX10_undo_34, sX10_undo_35, sX10_undo_38, sX10_undo_41, sX10_undo_42, sX10_undo_45, sX10_undo_46, sX10_undo_47, sX10_undo_48, sX10_undo_49, sX10_undo_50i, sX10_undo_50r, sX10_undo_50z, sX10_undo_50o, sX10_undo_53, mCk, mG0, mG1, mG2, mG3, mG4, mG5, mG6, mG7, mG8, mG9, mG10, mG11, mG12, mG13, mG14, mG15, mG16, mG17, mG18, mG19, mG20, mP2, mP5, mP6, mP7, mP9, mP11, mP14, mA1, mS1, mA2, mS2, mA3, mS3, mA4, mS4, mA5, mS5, mA6, mS6, mA7, mS7, mA8, mS8, mA9, mS9, mA10, mS10, mA11, mS11, mA12, mS12, mA13, mS13, mA14, mS14, zpush_v, zpush_n, gCk, gAi, gSi, gSz, gLi, gLq, ↓if_pos, ↓if_neg, nI_add, nI_mul, e]
theorem y_undo (hr : rM h M p) (hw : WfP p) : ∃ h', Same h h' M 15 ∧ rM h' M (opUndo p).1 ∧ ∀ Q : Option Value → Hp → Prop, WPm 170 [.ref M] h Q = Q (some (.int (opUndo p).2)) h' := by
  obtain ⟨h0, v, pa, fl, tx, it, sg, lat, hat, nw, os, hgh, pl, asd, lks, ct, wr, im, sm, sy, rfl, hv, hp, ht⟩ := id hr
  have h5 := hw.2.2.1
  unfold opUndo
  cases hl : p.2.1.getLast? with
  | none =>
    have e : p.2.1 = [] := List.getLast?_eq_none_iff.mp hl
    have e2 : p.2.1.length = 0 := by rw [e]; rfl
    refine ⟨_, Same.rf, hr, fun Q => ?_⟩
    rw [e2, eX10_undo]
    simp (disch := (first | omega | assumption | (simp (disch := omega) only [Int32.lt_iff_toInt_lt, Int32.le_iff_toInt_le, ← Int32.toInt_inj, nI_toInt, zi_m1, zi_m2, zi_m3, zi_m9]; omega) | decide)) only [sX10_undo_0, sX10_undo_1, sX10_undo_4, sX10_undo_7, sX10_undo_9, mCk, mG0, mG1, mG2, mG3, mG4, mG5, mG6, mG7, mG8, mG9, mG10, mG11, mG12, mG13, mG14, mG15, mG16, mG17, mG18, mG19, mG20, mP2, mP5, mP6, mP7, mP9, mP11, mP14, mA1, mS1, mA2, mS2, mA3, mS3, mA4, mS4, mA5, mS5, mA6, mS6, mA7, mS7, mA8, mS8, mA9, mS9, mA10, mS10, mA11, mS11, mA12, mS12, mA13, mS13, mA14, mS14, zpush_v, zpush_n, gCk, gAi, gSi, gSz, gLi, gLq, ↓if_pos, ↓if_neg]
  | some st =>
    have hne : p.2.1 ≠ [] := fun q => by rw [q] at hl; cases hl
    have e : p.2.1 = p.2.1.dropLast ++ [st] := by
      have a := List.dropLast_concat_getLast hne
      rw [List.getLast?_eq_some_getLast hne] at hl
      cases hl
      exact a.symm
    have el : p.2.1.length = p.2.1.dropLast.length + 1 := by
      have := congrArg List.length e
      rw [List.length_append] at this
      exact this
    have hms : st ∈ p.2.1 := by rw [e]; exact List.mem_append_right _ (List.mem_singleton_self _)
    have wst := hw.2.1 st hms
    have hlast : p.2.1[p.2.1.dropLast.length]? = some st := by
      rw [e, List.getElem?_append_right (by rw [List.dropLast_concat]; exact Nat.le_refl _), List.dropLast_concat, Nat.sub_self]
      rfl
    simp only
    refine ⟨(mkM h0 M (pst v (fun q => pa (2760 * p.2.1.dropLast.length + q)) 0 2760) pa (nI p.2.1.dropLast.length) fl tx (nI p.2.2.length) ct wr it im sg sm lat hat sy nw os hgh pl asd lks), mkM_same, rM.mk (p := (st, p.2.1.dropLast, p.2.2)) ?_ ?_ ht, fun Q => ?_⟩
    · refine (hp _ st hlast).of wst (fun q hq => ?_)
      unfold pst
      rw [if_pos (by omega), Nat.sub_zero]
    · intro k x hx
      have hk := (List.getElem?_eq_some_iff.mp hx).1
      refine hp k x ?_
      rw [e, List.getElem?_append_left hk]
      exact hx
    · have L := fun Q => l_undo (h0 := h0) (M := M) (v := v) (pa := pa) (fl := fl) (tx := tx) (ty := nI p.2.2.length) (ct := ct) (wr := wr) (it := it) (im := im) (sg := sg) (sm := sm) (lat := lat) (hat := hat) (sy := sy) (nw := nw) (os := os) (hgh := hgh) (pl := pl) (asd := asd) (lks := lks) (n := p.2.1.dropLast.length) (by omega) Q 2760 0 rfl
      rw [pst_0] at L
      rw [el, Nat.add_sub_cancel, eX10_undo]
      simp (disch := (first | omega | assumption | (simp (disch := omega) only [Int32.lt_iff_toInt_lt, Int32.le_iff_toInt_le, ← Int32.toInt_inj, nI_toInt, zi_m1, zi_m2, zi_m3, zi_m9]; omega) | decide)) only [sX10_undo_0, sX10_undo_1, sX10_undo_4, sX10_undo_7, sX10_undo_9, sX10_undo_10, sX10_undo_11, sX10_undo_11i, sX10_undo_12, sX10_undo_15, sX10_undo_16, sX10_undo_17, sX10_undo_20, sX10_undo_21i, sX10_undo_21r, sX10_undo_21z, sX10_undo_21o, mCk, mG0, mG1, mG2, mG3, mG4, mG5, mG6, mG7, mG8, mG9, mG10, mG11, mG12, mG13, mG14, mG15, mG16, mG17, mG18, mG19, mG20, mP2, mP5, mP6, mP7, mP9, mP11, mP14, mA1, mS1, mA2, mS2, mA3, mS3, mA4, mS4, mA5, mS5, mA6, mS6, mA7, mS7, mA8, mS8, mA9, mS9, mA10, mS10, mA11, mS11, mA12, mS12, mA13, mS13, mA14, mS14, zpush_v, zpush_n, gCk, gAi, gSi, gSz, gLi, gLq, ↓if_pos, ↓if_neg, nI_sub, Nat.add_sub_cancel]
      exact L Q
theorem y_change (hr : rM h M p) (hw : WfP p) (l w x : Int32) : ∃ h', Same h h' M 15 ∧ rM h' M (opChange p l w x).1 ∧ ∀ Q : Option Value → Hp → Prop, WPm 140 [.ref M, .int l, .int w, .int x] h Q = Q (some (.int (opChange p l w x).2)) h' := by
  obtain ⟨h0, v, pa, fl, tx, it, sg, lat, hat, nw, os, hgh, pl, asd, lks, ct, wr, im, sm, sy, rfl, hv, hp, ht⟩ := id hr
  have hws := hw.1.1
  have h10 := hws.1
  have hS := hv.1
  have h5 := hw.2.2.1
  have h16 := hw.1.2.1.1
  have hv1 := hv.2.1
  unfold opChange
  have inF : ∀ (h : Hp) (x : Int32), ¬ x = -1 → (x < nI 0 ∨ nI 200 < x) → ∀ Q : Option Value → Hp → Prop, WPm 108 [.int x, .int (-1), .int (nI 200)] h Q = Q (some (.int (nI 0))) h := by
    intro h x hx g Q
    refine in_f ?_ Q
    rcases g with g | g
    · left
      have hx : ¬ x.toInt = -1 := fun q => hx (Int32.toInt_inj.mp (by rw [q, zi_m1]))
      rw [Int32.lt_iff_toInt_lt, nI_toInt (by omega)] at g
      rw [Int32.lt_iff_toInt_lt, zi_m1]
      omega
    · exact Or.inr g
  have inN : ∀ (h : Hp) (Q : Option Value → Hp → Prop), WPm 108 [.int (-1), .int (-1), .int (nI 200)] h Q = Q (some (.int (nI 1))) h := fun h Q => in_t ⟨by decide, by decide⟩ Q
  have inT : ∀ (h : Hp) (k : Nat), k ≤ 200 → ∀ Q : Option Value → Hp → Prop, WPm 108 [.int (nI k), .int (-1), .int (nI 200)] h Q = Q (some (.int (nI 1))) h := by
    intro h k hk Q
    refine in_t ⟨?_, nI_le hk (by omega)⟩ Q
    rw [Int32.le_iff_toInt_le, nI_toInt (by omega), zi_m1]
    omega
  rcases dN_cases p.1.2.1.length l (by omega) with ⟨i, hi, rfl, e⟩ | ⟨g, e⟩
  · rw [e]
    simp only
    have eL := encL.at hv.2.2.2 hi
    have wl := hw.1.mem _ (lnA_mem hi)
    have i80 := wl.1.2.2.2.2.1
    rcases dN_cases 2 w (by omega) with ⟨k, hk, rfl, e2⟩ | ⟨g2, e2⟩
    · rw [e2]
      have : k = 0 ∨ k = 1 := by omega
      rcases this with rfl | rfl
      · simp only
        have a2 := eL.2.2.1
        have good : ∀ o : Option Nat, encV (upd v (100 + 166 * i + 2) (eN o)) (putL p.1 i ((lnA p.1.2.1 i).1, (lnA p.1.2.1 i).2.1, o, (lnA p.1.2.1 i).2.2.2.1, (lnA p.1.2.1 i).2.2.2.2)) := by
          intro o
          refine hv.ln hw.1 ?_ (fun q hq => upd_off (by omega))
          obtain ⟨b1, b2, b3, b4, b5, b6⟩ := eL
          refine ⟨by rw [upd_off (by omega)]; exact b1, by rw [upd_off (by omega)]; exact b2, upd_at, by rw [upd_off (by omega)]; exact b4, by rw [upd_off (by omega)]; exact b5, fun j x hx => by rw [upd_off (by omega), upd_off (by omega)]; exact b6 j x hx⟩
        rcases dO_cases p.1.1.1 x (by omega) with ⟨rfl, e3⟩ | ⟨k2, hk2, rfl, e3⟩ | ⟨⟨g1, g2⟩, e3⟩
        · rw [e3]
          refine ⟨(mkM h0 M (upd v (100 + 166 * i + 2) (eN none)) (actP pa v p.2.1.length) (nI (actN p.2.1.length)) fl tx (nI p.2.2.length) ct wr it im sg sm lat hat sy nw os hgh pl asd lks), mkM_same, rM.kp hv hp ht hw (good none), fun Q => ?_⟩
          rw [eX10_change]
          simp (disch := (first | omega | assumption | (simp (disch := omega) only [Int32.lt_iff_toInt_lt, Int32.le_iff_toInt_le, ← Int32.toInt_inj, nI_toInt, zi_m1, zi_m2, zi_m3, zi_m9]; omega) | decide)) only [sX10_change_0, sX10_change_1, sX10_change_4, sX10_change_5, sX10_change_6, sX10_change_9, sX10_change_12, sX10_change_13, sX10_change_14, sX10_change_17, sX10_change_18, sX10_change_19, sX10_change_22, sX10_change_25, sX10_change_28, sX10_change_29, sX10_change_32, sX10_change_33i, sX10_change_33r, sX10_change_33z, sX10_change_33o, sX10_change_35, sX10_change_36, sX10_change_37, sX10_change_40, sX10_change_43, sX10_change_45, sX10_change_48, sX10_change_49, sX10_change_50, sX10_change_53, sX10_change_54, sX10_change_55, sX10_change_56, sX10_change_57, sX10_change_58, sX10_change_61, sX10_change_64, sX10_change_65, mCk, mG0, mG1, mG2, mG3, mG4, mG5, mG6, mG7, mG8, mG9, mG10, mG11, mG12, mG13, mG14, mG15, mG16, mG17, mG18, mG19, mG20, mP2, mP5, mP6, mP7, mP9, mP11, mP14, mA1, mS1, mA2, mS2, mA3, mS3, mA4, mS4, mA5, mS5, mA6, mS6, mA7, mS7, mA8, mS8, mA9, mS9, mA10, mS10, mA11, mS11, mA12, mS12, mA13, mS13, mA14, mS14, zpush_v, zpush_n, gCk, gAi, gSi, gSz, gLi, gLq, ↓if_pos, ↓if_neg, isLn_t hv1 h16 hi, isSN_n, m_lineAt, nI_add, Nat.add_zero, m_sets h5, a2, eN_n]
        · rw [e3]
          refine ⟨(mkM h0 M (upd v (100 + 166 * i + 2) (eN (some k2))) (actP pa v p.2.1.length) (nI (actN p.2.1.length)) fl tx (nI p.2.2.length) ct wr it im sg sm lat hat sy nw os hgh pl asd lks), mkM_same, rM.kp hv hp ht hw (good (some k2)), fun Q => ?_⟩
          rw [eX10_change]
          simp (disch := (first | omega | assumption | (simp (disch := omega) only [Int32.lt_iff_toInt_lt, Int32.le_iff_toInt_le, ← Int32.toInt_inj, nI_toInt, zi_m1, zi_m2, zi_m3, zi_m9]; omega) | decide)) only [sX10_change_0, sX10_change_1, sX10_change_4, sX10_change_5, sX10_change_6, sX10_change_9, sX10_change_12, sX10_change_13, sX10_change_14, sX10_change_17, sX10_change_18, sX10_change_19, sX10_change_22, sX10_change_25, sX10_change_28, sX10_change_29, sX10_change_32, sX10_change_33i, sX10_change_33r, sX10_change_33z, sX10_change_33o, sX10_change_35, sX10_change_36, sX10_change_37, sX10_change_40, sX10_change_43, sX10_change_45, sX10_change_48, sX10_change_49, sX10_change_50, sX10_change_53, sX10_change_54, sX10_change_55, sX10_change_56, sX10_change_57, sX10_change_58, sX10_change_61, sX10_change_64, sX10_change_65, mCk, mG0, mG1, mG2, mG3, mG4, mG5, mG6, mG7, mG8, mG9, mG10, mG11, mG12, mG13, mG14, mG15, mG16, mG17, mG18, mG19, mG20, mP2, mP5, mP6, mP7, mP9, mP11, mP14, mA1, mS1, mA2, mS2, mA3, mS3, mA4, mS4, mA5, mS5, mA6, mS6, mA7, mS7, mA8, mS8, mA9, mS9, mA10, mS10, mA11, mS11, mA12, mS12, mA13, mS13, mA14, mS14, zpush_v, zpush_n, gCk, gAi, gSi, gSz, gLi, gLq, ↓if_pos, ↓if_neg, isLn_t hv1 h16 hi, isSN_t hS.1 h10 hk2, m_lineAt, nI_add, Nat.add_zero, m_sets h5, a2, eN_s]
        · rw [e3]
          refine ⟨_, Same.rf, hr, fun Q => ?_⟩
          rw [eX10_change]
          simp (disch := (first | omega | assumption | (simp (disch := omega) only [Int32.lt_iff_toInt_lt, Int32.le_iff_toInt_le, ← Int32.toInt_inj, nI_toInt, zi_m1, zi_m2, zi_m3, zi_m9]; omega) | decide)) only [sX10_change_0, sX10_change_1, sX10_change_4, sX10_change_5, sX10_change_6, sX10_change_9, sX10_change_12, sX10_change_13, sX10_change_14, sX10_change_17, sX10_change_18, sX10_change_19, sX10_change_22, sX10_change_25, sX10_change_28, sX10_change_29, sX10_change_32, sX10_change_33i, sX10_change_33r, sX10_change_33z, sX10_change_33o, sX10_change_35, sX10_change_36, sX10_change_37, sX10_change_40, sX10_change_43, sX10_change_45, sX10_change_48, sX10_change_49, sX10_change_50, sX10_change_53, sX10_change_54, sX10_change_55, sX10_change_56, sX10_change_57, sX10_change_58, sX10_change_61, sX10_change_64, sX10_change_65, mCk, mG0, mG1, mG2, mG3, mG4, mG5, mG6, mG7, mG8, mG9, mG10, mG11, mG12, mG13, mG14, mG15, mG16, mG17, mG18, mG19, mG20, mP2, mP5, mP6, mP7, mP9, mP11, mP14, mA1, mS1, mA2, mS2, mA3, mS3, mA4, mS4, mA5, mS5, mA6, mS6, mA7, mS7, mA8, mS8, mA9, mS9, mA10, mS10, mA11, mS11, mA12, mS12, mA13, mS13, mA14, mS14, zpush_v, zpush_n, gCk, gAi, gSi, gSz, gLi, gLq, ↓if_pos, ↓if_neg, isLn_t hv1 h16 hi, isSN_f hS.1 h10 g2 g1]
      · simp only
        have a2 : v (100 + 166 * i + 2 + 1) = _ := eL.2.2.2.1
        have good : ∀ o : Option Nat, encV (upd v (100 + 166 * i + 3) (eN o)) (putL p.1 i ((lnA p.1.2.1 i).1, (lnA p.1.2.1 i).2.1, (lnA p.1.2.1 i).2.2.1, o, (lnA p.1.2.1 i).2.2.2.2)) := by
          intro o
          refine hv.ln hw.1 ?_ (fun q hq => upd_off (by omega))
          obtain ⟨b1, b2, b3, b4, b5, b6⟩ := eL
          refine ⟨by rw [upd_off (by omega)]; exact b1, by rw [upd_off (by omega)]; exact b2, by rw [upd_off (by omega)]; exact b3, upd_at, by rw [upd_off (by omega)]; exact b5, fun j x hx => by rw [upd_off (by omega), upd_off (by omega)]; exact b6 j x hx⟩
        rcases dV_cases 5 x with ⟨rfl, e3⟩ | ⟨k2, hk2, rfl, e3⟩ | ⟨⟨g1, g2⟩, e3⟩
        · rw [e3]
          refine ⟨(mkM h0 M (upd v (100 + 166 * i + 2 + 1) (eN none)) (actP pa v p.2.1.length) (nI (actN p.2.1.length)) fl tx (nI p.2.2.length) ct wr it im sg sm lat hat sy nw os hgh pl asd lks), mkM_same, rM.kp hv hp ht hw (good none), fun Q => ?_⟩
          rw [eX10_change]
          simp (disch := (first | omega | assumption | (simp (disch := omega) only [Int32.lt_iff_toInt_lt, Int32.le_iff_toInt_le, ← Int32.toInt_inj, nI_toInt, zi_m1, zi_m2, zi_m3, zi_m9]; omega) | decide)) only [sX10_change_0, sX10_change_1, sX10_change_4, sX10_change_5, sX10_change_6, sX10_change_9, sX10_change_12, sX10_change_13, sX10_change_14, sX10_change_17, sX10_change_18, sX10_change_19, sX10_change_22, sX10_change_25, sX10_change_28, sX10_change_29, sX10_change_32, sX10_change_33i, sX10_change_33r, sX10_change_33z, sX10_change_33o, sX10_change_35, sX10_change_36, sX10_change_37, sX10_change_40, sX10_change_43, sX10_change_45, sX10_change_48, sX10_change_49, sX10_change_50, sX10_change_53, sX10_change_54, sX10_change_55, sX10_change_56, sX10_change_57, sX10_change_58, sX10_change_61, sX10_change_64, sX10_change_65, mCk, mG0, mG1, mG2, mG3, mG4, mG5, mG6, mG7, mG8, mG9, mG10, mG11, mG12, mG13, mG14, mG15, mG16, mG17, mG18, mG19, mG20, mP2, mP5, mP6, mP7, mP9, mP11, mP14, mA1, mS1, mA2, mS2, mA3, mS3, mA4, mS4, mA5, mS5, mA6, mS6, mA7, mS7, mA8, mS8, mA9, mS9, mA10, mS10, mA11, mS11, mA12, mS12, mA13, mS13, mA14, mS14, zpush_v, zpush_n, gCk, gAi, gSi, gSz, gLi, gLq, ↓if_pos, ↓if_neg, isLn_t hv1 h16 hi, inN, m_lineAt, nI_add, m_sets h5, a2, eN_n]
        · rw [e3]
          have hk2 : 0 ≤ k2 ∧ k2 ≤ 200 := hk2
          refine ⟨(mkM h0 M (upd v (100 + 166 * i + 2 + 1) (eN (some k2))) (actP pa v p.2.1.length) (nI (actN p.2.1.length)) fl tx (nI p.2.2.length) ct wr it im sg sm lat hat sy nw os hgh pl asd lks), mkM_same, rM.kp hv hp ht hw (good (some k2)), fun Q => ?_⟩
          rw [eX10_change]
          simp (disch := (first | omega | assumption | (simp (disch := omega) only [Int32.lt_iff_toInt_lt, Int32.le_iff_toInt_le, ← Int32.toInt_inj, nI_toInt, zi_m1, zi_m2, zi_m3, zi_m9]; omega) | decide)) only [sX10_change_0, sX10_change_1, sX10_change_4, sX10_change_5, sX10_change_6, sX10_change_9, sX10_change_12, sX10_change_13, sX10_change_14, sX10_change_17, sX10_change_18, sX10_change_19, sX10_change_22, sX10_change_25, sX10_change_28, sX10_change_29, sX10_change_32, sX10_change_33i, sX10_change_33r, sX10_change_33z, sX10_change_33o, sX10_change_35, sX10_change_36, sX10_change_37, sX10_change_40, sX10_change_43, sX10_change_45, sX10_change_48, sX10_change_49, sX10_change_50, sX10_change_53, sX10_change_54, sX10_change_55, sX10_change_56, sX10_change_57, sX10_change_58, sX10_change_61, sX10_change_64, sX10_change_65, mCk, mG0, mG1, mG2, mG3, mG4, mG5, mG6, mG7, mG8, mG9, mG10, mG11, mG12, mG13, mG14, mG15, mG16, mG17, mG18, mG19, mG20, mP2, mP5, mP6, mP7, mP9, mP11, mP14, mA1, mS1, mA2, mS2, mA3, mS3, mA4, mS4, mA5, mS5, mA6, mS6, mA7, mS7, mA8, mS8, mA9, mS9, mA10, mS10, mA11, mS11, mA12, mS12, mA13, mS13, mA14, mS14, zpush_v, zpush_n, gCk, gAi, gSi, gSz, gLi, gLq, ↓if_pos, ↓if_neg, isLn_t hv1 h16 hi, inT, m_lineAt, nI_add, m_sets h5, a2, eN_s]
        · rw [e3]
          refine ⟨_, Same.rf, hr, fun Q => ?_⟩
          have g2 : x < nI 0 ∨ nI 200 < x := g2
          rw [eX10_change]
          simp (disch := (first | omega | assumption | (simp (disch := omega) only [Int32.lt_iff_toInt_lt, Int32.le_iff_toInt_le, ← Int32.toInt_inj, nI_toInt, zi_m1, zi_m2, zi_m3, zi_m9]; omega) | decide)) only [sX10_change_0, sX10_change_1, sX10_change_4, sX10_change_5, sX10_change_6, sX10_change_9, sX10_change_12, sX10_change_13, sX10_change_14, sX10_change_17, sX10_change_18, sX10_change_19, sX10_change_22, sX10_change_25, sX10_change_28, sX10_change_29, sX10_change_32, sX10_change_33i, sX10_change_33r, sX10_change_33z, sX10_change_33o, sX10_change_35, sX10_change_36, sX10_change_37, sX10_change_40, sX10_change_43, sX10_change_45, sX10_change_48, sX10_change_49, sX10_change_50, sX10_change_53, sX10_change_54, sX10_change_55, sX10_change_56, sX10_change_57, sX10_change_58, sX10_change_61, sX10_change_64, sX10_change_65, mCk, mG0, mG1, mG2, mG3, mG4, mG5, mG6, mG7, mG8, mG9, mG10, mG11, mG12, mG13, mG14, mG15, mG16, mG17, mG18, mG19, mG20, mP2, mP5, mP6, mP7, mP9, mP11, mP14, mA1, mS1, mA2, mS2, mA3, mS3, mA4, mS4, mA5, mS5, mA6, mS6, mA7, mS7, mA8, mS8, mA9, mS9, mA10, mS10, mA11, mS11, mA12, mS12, mA13, mS13, mA14, mS14, zpush_v, zpush_n, gCk, gAi, gSi, gSz, gLi, gLq, ↓if_pos, ↓if_neg, isLn_t hv1 h16 hi, inF _ x g1 g2]
    · rw [e2]
      have n0 : ¬ w = nI 0 := nI_not (by omega) (by omega) g2
      have n1 : ¬ w = nI 1 := nI_not (by omega) (by omega) g2
      refine ⟨_, Same.rf, hr, fun Q => ?_⟩
      rw [eX10_change]
      simp (disch := (first | omega | assumption | (simp (disch := omega) only [Int32.lt_iff_toInt_lt, Int32.le_iff_toInt_le, ← Int32.toInt_inj, nI_toInt, zi_m1, zi_m2, zi_m3, zi_m9]; omega) | decide)) only [sX10_change_0, sX10_change_1, sX10_change_4, sX10_change_5, sX10_change_6, sX10_change_9, sX10_change_12, sX10_change_13, sX10_change_14, sX10_change_17, sX10_change_18, sX10_change_19, sX10_change_22, sX10_change_25, sX10_change_28, sX10_change_29, sX10_change_32, sX10_change_33i, sX10_change_33r, sX10_change_33z, sX10_change_33o, sX10_change_35, sX10_change_36, sX10_change_37, sX10_change_40, sX10_change_43, sX10_change_45, sX10_change_48, sX10_change_49, sX10_change_50, sX10_change_53, sX10_change_54, sX10_change_55, sX10_change_56, sX10_change_57, sX10_change_58, sX10_change_61, sX10_change_64, sX10_change_65, mCk, mG0, mG1, mG2, mG3, mG4, mG5, mG6, mG7, mG8, mG9, mG10, mG11, mG12, mG13, mG14, mG15, mG16, mG17, mG18, mG19, mG20, mP2, mP5, mP6, mP7, mP9, mP11, mP14, mA1, mS1, mA2, mS2, mA3, mS3, mA4, mS4, mA5, mS5, mA6, mS6, mA7, mS7, mA8, mS8, mA9, mS9, mA10, mS10, mA11, mS11, mA12, mS12, mA13, mS13, mA14, mS14, zpush_v, zpush_n, gCk, gAi, gSi, gSz, gLi, gLq, ↓if_pos, ↓if_neg, isLn_t hv1 h16 hi, n0, n1]
  · rw [e]
    refine ⟨_, Same.rf, hr, fun Q => ?_⟩
    rw [eX10_change]
    have F := fun Q => isLn_f (h0 := h0) (M := M) (v := v) (pa := pa) (pm := nI p.2.1.length) (fl := fl) (tx := tx) (ty := nI p.2.2.length) (ct := ct) (wr := wr) (it := it) (im := im) (sg := sg) (sm := sm) (lat := lat) (hat := hat) (sy := sy) (nw := nw) (os := os) (hgh := hgh) (pl := pl) (asd := asd) (lks := lks) hv1 h16 g Q
    by_cases n0 : w = nI 0
    · subst n0
      rcases dO_cases p.1.1.1 x (by omega) with ⟨rfl, e3⟩ | ⟨k2, hk2, rfl, e3⟩ | ⟨⟨g1, g2⟩, e3⟩
      · simp (disch := (first | omega | assumption | (simp (disch := omega) only [Int32.lt_iff_toInt_lt, Int32.le_iff_toInt_le, ← Int32.toInt_inj, nI_toInt, zi_m1, zi_m2, zi_m3, zi_m9]; omega) | decide)) only [sX10_change_0, sX10_change_1, sX10_change_4, sX10_change_5, sX10_change_6, sX10_change_9, sX10_change_12, sX10_change_13, sX10_change_14, sX10_change_17, sX10_change_18, sX10_change_19, sX10_change_22, sX10_change_25, sX10_change_28, sX10_change_29, sX10_change_32, sX10_change_33i, sX10_change_33r, sX10_change_33z, sX10_change_33o, sX10_change_35, sX10_change_36, sX10_change_37, sX10_change_40, sX10_change_43, sX10_change_45, sX10_change_48, sX10_change_49, sX10_change_50, sX10_change_53, sX10_change_54, sX10_change_55, sX10_change_56, sX10_change_57, sX10_change_58, sX10_change_61, sX10_change_64, sX10_change_65, mCk, mG0, mG1, mG2, mG3, mG4, mG5, mG6, mG7, mG8, mG9, mG10, mG11, mG12, mG13, mG14, mG15, mG16, mG17, mG18, mG19, mG20, mP2, mP5, mP6, mP7, mP9, mP11, mP14, mA1, mS1, mA2, mS2, mA3, mS3, mA4, mS4, mA5, mS5, mA6, mS6, mA7, mS7, mA8, mS8, mA9, mS9, mA10, mS10, mA11, mS11, mA12, mS12, mA13, mS13, mA14, mS14, zpush_v, zpush_n, gCk, gAi, gSi, gSz, gLi, gLq, ↓if_pos, ↓if_neg, F, isSN_n]
      · simp (disch := (first | omega | assumption | (simp (disch := omega) only [Int32.lt_iff_toInt_lt, Int32.le_iff_toInt_le, ← Int32.toInt_inj, nI_toInt, zi_m1, zi_m2, zi_m3, zi_m9]; omega) | decide)) only [sX10_change_0, sX10_change_1, sX10_change_4, sX10_change_5, sX10_change_6, sX10_change_9, sX10_change_12, sX10_change_13, sX10_change_14, sX10_change_17, sX10_change_18, sX10_change_19, sX10_change_22, sX10_change_25, sX10_change_28, sX10_change_29, sX10_change_32, sX10_change_33i, sX10_change_33r, sX10_change_33z, sX10_change_33o, sX10_change_35, sX10_change_36, sX10_change_37, sX10_change_40, sX10_change_43, sX10_change_45, sX10_change_48, sX10_change_49, sX10_change_50, sX10_change_53, sX10_change_54, sX10_change_55, sX10_change_56, sX10_change_57, sX10_change_58, sX10_change_61, sX10_change_64, sX10_change_65, mCk, mG0, mG1, mG2, mG3, mG4, mG5, mG6, mG7, mG8, mG9, mG10, mG11, mG12, mG13, mG14, mG15, mG16, mG17, mG18, mG19, mG20, mP2, mP5, mP6, mP7, mP9, mP11, mP14, mA1, mS1, mA2, mS2, mA3, mS3, mA4, mS4, mA5, mS5, mA6, mS6, mA7, mS7, mA8, mS8, mA9, mS9, mA10, mS10, mA11, mS11, mA12, mS12, mA13, mS13, mA14, mS14, zpush_v, zpush_n, gCk, gAi, gSi, gSz, gLi, gLq, ↓if_pos, ↓if_neg, F, isSN_t hS.1 h10 hk2]
      · simp (disch := (first | omega | assumption | (simp (disch := omega) only [Int32.lt_iff_toInt_lt, Int32.le_iff_toInt_le, ← Int32.toInt_inj, nI_toInt, zi_m1, zi_m2, zi_m3, zi_m9]; omega) | decide)) only [sX10_change_0, sX10_change_1, sX10_change_4, sX10_change_5, sX10_change_6, sX10_change_9, sX10_change_12, sX10_change_13, sX10_change_14, sX10_change_17, sX10_change_18, sX10_change_19, sX10_change_22, sX10_change_25, sX10_change_28, sX10_change_29, sX10_change_32, sX10_change_33i, sX10_change_33r, sX10_change_33z, sX10_change_33o, sX10_change_35, sX10_change_36, sX10_change_37, sX10_change_40, sX10_change_43, sX10_change_45, sX10_change_48, sX10_change_49, sX10_change_50, sX10_change_53, sX10_change_54, sX10_change_55, sX10_change_56, sX10_change_57, sX10_change_58, sX10_change_61, sX10_change_64, sX10_change_65, mCk, mG0, mG1, mG2, mG3, mG4, mG5, mG6, mG7, mG8, mG9, mG10, mG11, mG12, mG13, mG14, mG15, mG16, mG17, mG18, mG19, mG20, mP2, mP5, mP6, mP7, mP9, mP11, mP14, mA1, mS1, mA2, mS2, mA3, mS3, mA4, mS4, mA5, mS5, mA6, mS6, mA7, mS7, mA8, mS8, mA9, mS9, mA10, mS10, mA11, mS11, mA12, mS12, mA13, mS13, mA14, mS14, zpush_v, zpush_n, gCk, gAi, gSi, gSz, gLi, gLq, ↓if_pos, ↓if_neg, F, isSN_f hS.1 h10 g2 g1]
    · by_cases n1 : w = nI 1
      · subst n1
        rcases dV_cases 5 x with ⟨rfl, e3⟩ | ⟨k2, hk2, rfl, e3⟩ | ⟨⟨g1, g2⟩, e3⟩
        · simp (disch := (first | omega | assumption | (simp (disch := omega) only [Int32.lt_iff_toInt_lt, Int32.le_iff_toInt_le, ← Int32.toInt_inj, nI_toInt, zi_m1, zi_m2, zi_m3, zi_m9]; omega) | decide)) only [sX10_change_0, sX10_change_1, sX10_change_4, sX10_change_5, sX10_change_6, sX10_change_9, sX10_change_12, sX10_change_13, sX10_change_14, sX10_change_17, sX10_change_18, sX10_change_19, sX10_change_22, sX10_change_25, sX10_change_28, sX10_change_29, sX10_change_32, sX10_change_33i, sX10_change_33r, sX10_change_33z, sX10_change_33o, sX10_change_35, sX10_change_36, sX10_change_37, sX10_change_40, sX10_change_43, sX10_change_45, sX10_change_48, sX10_change_49, sX10_change_50, sX10_change_53, sX10_change_54, sX10_change_55, sX10_change_56, sX10_change_57, sX10_change_58, sX10_change_61, sX10_change_64, sX10_change_65, mCk, mG0, mG1, mG2, mG3, mG4, mG5, mG6, mG7, mG8, mG9, mG10, mG11, mG12, mG13, mG14, mG15, mG16, mG17, mG18, mG19, mG20, mP2, mP5, mP6, mP7, mP9, mP11, mP14, mA1, mS1, mA2, mS2, mA3, mS3, mA4, mS4, mA5, mS5, mA6, mS6, mA7, mS7, mA8, mS8, mA9, mS9, mA10, mS10, mA11, mS11, mA12, mS12, mA13, mS13, mA14, mS14, zpush_v, zpush_n, gCk, gAi, gSi, gSz, gLi, gLq, ↓if_pos, ↓if_neg, F, inN]
        · have hk2 : 0 ≤ k2 ∧ k2 ≤ 200 := hk2
          simp (disch := (first | omega | assumption | (simp (disch := omega) only [Int32.lt_iff_toInt_lt, Int32.le_iff_toInt_le, ← Int32.toInt_inj, nI_toInt, zi_m1, zi_m2, zi_m3, zi_m9]; omega) | decide)) only [sX10_change_0, sX10_change_1, sX10_change_4, sX10_change_5, sX10_change_6, sX10_change_9, sX10_change_12, sX10_change_13, sX10_change_14, sX10_change_17, sX10_change_18, sX10_change_19, sX10_change_22, sX10_change_25, sX10_change_28, sX10_change_29, sX10_change_32, sX10_change_33i, sX10_change_33r, sX10_change_33z, sX10_change_33o, sX10_change_35, sX10_change_36, sX10_change_37, sX10_change_40, sX10_change_43, sX10_change_45, sX10_change_48, sX10_change_49, sX10_change_50, sX10_change_53, sX10_change_54, sX10_change_55, sX10_change_56, sX10_change_57, sX10_change_58, sX10_change_61, sX10_change_64, sX10_change_65, mCk, mG0, mG1, mG2, mG3, mG4, mG5, mG6, mG7, mG8, mG9, mG10, mG11, mG12, mG13, mG14, mG15, mG16, mG17, mG18, mG19, mG20, mP2, mP5, mP6, mP7, mP9, mP11, mP14, mA1, mS1, mA2, mS2, mA3, mS3, mA4, mS4, mA5, mS5, mA6, mS6, mA7, mS7, mA8, mS8, mA9, mS9, mA10, mS10, mA11, mS11, mA12, mS12, mA13, mS13, mA14, mS14, zpush_v, zpush_n, gCk, gAi, gSi, gSz, gLi, gLq, ↓if_pos, ↓if_neg, F, inT _ k2 hk2.2]
        · have g2 : x < nI 0 ∨ nI 200 < x := g2
          simp (disch := (first | omega | assumption | (simp (disch := omega) only [Int32.lt_iff_toInt_lt, Int32.le_iff_toInt_le, ← Int32.toInt_inj, nI_toInt, zi_m1, zi_m2, zi_m3, zi_m9]; omega) | decide)) only [sX10_change_0, sX10_change_1, sX10_change_4, sX10_change_5, sX10_change_6, sX10_change_9, sX10_change_12, sX10_change_13, sX10_change_14, sX10_change_17, sX10_change_18, sX10_change_19, sX10_change_22, sX10_change_25, sX10_change_28, sX10_change_29, sX10_change_32, sX10_change_33i, sX10_change_33r, sX10_change_33z, sX10_change_33o, sX10_change_35, sX10_change_36, sX10_change_37, sX10_change_40, sX10_change_43, sX10_change_45, sX10_change_48, sX10_change_49, sX10_change_50, sX10_change_53, sX10_change_54, sX10_change_55, sX10_change_56, sX10_change_57, sX10_change_58, sX10_change_61, sX10_change_64, sX10_change_65, mCk, mG0, mG1, mG2, mG3, mG4, mG5, mG6, mG7, mG8, mG9, mG10, mG11, mG12, mG13, mG14, mG15, mG16, mG17, mG18, mG19, mG20, mP2, mP5, mP6, mP7, mP9, mP11, mP14, mA1, mS1, mA2, mS2, mA3, mS3, mA4, mS4, mA5, mS5, mA6, mS6, mA7, mS7, mA8, mS8, mA9, mS9, mA10, mS10, mA11, mS11, mA12, mS12, mA13, mS13, mA14, mS14, zpush_v, zpush_n, gCk, gAi, gSi, gSz, gLi, gLq, ↓if_pos, ↓if_neg, F, inF _ x g1 g2]
      · simp (disch := (first | omega | assumption | (simp (disch := omega) only [Int32.lt_iff_toInt_lt, Int32.le_iff_toInt_le, ← Int32.toInt_inj, nI_toInt, zi_m1, zi_m2, zi_m3, zi_m9]; omega) | decide)) only [sX10_change_0, sX10_change_1, sX10_change_4, sX10_change_5, sX10_change_6, sX10_change_9, sX10_change_12, sX10_change_13, sX10_change_14, sX10_change_17, sX10_change_18, sX10_change_19, sX10_change_22, sX10_change_25, sX10_change_28, sX10_change_29, sX10_change_32, sX10_change_33i, sX10_change_33r, sX10_change_33z, sX10_change_33o, sX10_change_35, sX10_change_36, sX10_change_37, sX10_change_40, sX10_change_43, sX10_change_45, sX10_change_48, sX10_change_49, sX10_change_50, sX10_change_53, sX10_change_54, sX10_change_55, sX10_change_56, sX10_change_57, sX10_change_58, sX10_change_61, sX10_change_64, sX10_change_65, mCk, mG0, mG1, mG2, mG3, mG4, mG5, mG6, mG7, mG8, mG9, mG10, mG11, mG12, mG13, mG14, mG15, mG16, mG17, mG18, mG19, mG20, mP2, mP5, mP6, mP7, mP9, mP11, mP14, mA1, mS1, mA2, mS2, mA3, mS3, mA4, mS4, mA5, mS5, mA6, mS6, mA7, mS7, mA8, mS8, mA9, mS9, mA10, mS10, mA11, mS11, mA12, mS12, mA13, mS13, mA14, mS14, zpush_v, zpush_n, gCk, gAi, gSi, gSz, gLi, gLq, ↓if_pos, ↓if_neg, F, n0, n1]
def rmF (v : Nat → Int32) (a i : Nat) : Nat → Int32 := fun q => if a ≤ q ∧ q < i then v (q + 166) else v q
theorem rmF_0 (v : Nat → Int32) (a : Nat) : rmF v a a = v := by funext q; exact if_neg (by omega)
theorem rmF_step (v : Nat → Int32) (a i : Nat) (h : a ≤ i) : upd (rmF v a i) i (rmF v a i (i + 166)) = rmF v a (i + 1) := by
  funext q
  simp only [rmF, upd]
  rw [if_neg (show ¬ (a ≤ i + 166 ∧ i + 166 < i) by omega)]
  by_cases c : q = i
  · subst c
    rw [if_pos rfl, if_pos (by omega)]
  · rw [if_neg c]
    by_cases d : a ≤ q ∧ q < i
    · rw [if_pos d, if_pos (by omega)]
    · rw [if_neg d, if_neg (by omega)]
theorem l_remove {n a : Nat} (hn : n ≤ 15) (hv1 : v 1 = nI n) (x : Int32) (ha : 100 ≤ a) (Q : Option Value → Hp → Prop) : ∀ (m i : Nat), a ≤ i → m + i = 100 + 166 * n → WP 139 29 [some (.ref M), some (.int x), some (.int (nI i))] [] (mkM h0 M (rmF v a i) pa pm fl tx ty ct wr it im sg sm lat hat sy nw os hgh pl asd lks) Q = Q (some (.int (nI n))) (mkM h0 M (rmF v a (100 + 166 * n)) pa pm fl tx ty ct wr it im sg sm lat hat sy nw os hgh pl asd lks) := by
  have hv1' : ∀ i, rmF v a i 1 = nI n := fun i => by
    unfold rmF
    rw [if_neg (by omega)]
    exact hv1
  intro m
  induction m with
  | zero =>
    intro i hai hi
    have hi : i = 100 + 166 * n := by omega
    subst hi
    rw [sX10_remove_29]
    simp (disch := (first | omega | assumption | (simp (disch := omega) only [Int32.lt_iff_toInt_lt, Int32.le_iff_toInt_le, ← Int32.toInt_inj, nI_toInt, zi_m1, zi_m2, zi_m3, zi_m9]; omega) | decide)) only [sX10_remove_30, sX10_remove_31, sX10_remove_34, sX10_remove_35, sX10_remove_36, sX10_remove_39, sX10_remove_64, sX10_remove_65, sX10_remove_68, sX10_remove_69, sX10_remove_70, mCk, mG0, mG1, mG2, mG3, mG4, mG5, mG6, mG7, mG8, mG9, mG10, mG11, mG12, mG13, mG14, mG15, mG16, mG17, mG18, mG19, mG20, mP2, mP5, mP6, mP7, mP9, mP11, mP14, mA1, mS1, mA2, mS2, mA3, mS3, mA4, mS4, mA5, mS5, mA6, mS6, mA7, mS7, mA8, mS8, mA9, mS9, mA10, mS10, mA11, mS11, mA12, mS12, mA13, mS13, mA14, mS14, zpush_v, zpush_n, gCk, gAi, gSi, gSz, gLi, gLq, ↓if_pos, ↓if_neg, hv1', m_lineAt]
  | succ m ih =>
    intro i hai hi
    rw [← ih (i + 1) (by omega) (by omega), sX10_remove_29]
    simp (disch := (first | omega | assumption | (simp (disch := omega) only [Int32.lt_iff_toInt_lt, Int32.le_iff_toInt_le, ← Int32.toInt_inj, nI_toInt, zi_m1, zi_m2, zi_m3, zi_m9]; omega) | decide)) only [sX10_remove_30, sX10_remove_31, sX10_remove_34, sX10_remove_35, sX10_remove_36, sX10_remove_39, sX10_remove_42, sX10_remove_43, sX10_remove_46, sX10_remove_47, sX10_remove_48, sX10_remove_51, sX10_remove_52, sX10_remove_55, sX10_remove_56, sX10_remove_57, sX10_remove_58i, sX10_remove_58r, sX10_remove_58z, sX10_remove_58o, sX10_remove_61, mCk, mG0, mG1, mG2, mG3, mG4, mG5, mG6, mG7, mG8, mG9, mG10, mG11, mG12, mG13, mG14, mG15, mG16, mG17, mG18, mG19, mG20, mP2, mP5, mP6, mP7, mP9, mP11, mP14, mA1, mS1, mA2, mS2, mA3, mS3, mA4, mS4, mA5, mS5, mA6, mS6, mA7, mS7, mA8, mS8, mA9, mS9, mA10, mS10, mA11, mS11, mA12, mS12, mA13, mS13, mA14, mS14, zpush_v, zpush_n, gCk, gAi, gSi, gSz, gLi, gLq, ↓if_pos, ↓if_neg, hv1', m_lineAt, nI_add, rmF_step v a i hai]
theorem y_remove (hr : rM h M p) (hw : WfP p) (l : Int32) : ∃ h', Same h h' M 15 ∧ rM h' M (opRemove p l).1 ∧ ∀ Q : Option Value → Hp → Prop, WPm 139 [.ref M, .int l] h Q = Q (some (.int (opRemove p l).2)) h' := by
  obtain ⟨h0, v, pa, fl, tx, it, sg, lat, hat, nw, os, hgh, pl, asd, lks, ct, wr, im, sm, sy, rfl, hv, hp, ht⟩ := id hr
  have h5 := hw.2.2.1
  have h16 := hw.1.2.1.1
  have hv1 := hv.2.1
  unfold opRemove
  rcases dN_cases p.1.2.1.length l (by omega) with ⟨i, hi, rfl, e⟩ | ⟨g, e⟩
  · rw [e]
    simp only
    have L := fun Q => l_remove (h0 := h0) (M := M) (v := upd v 1 (nI (p.1.2.1.length - 1))) (pa := actP pa v p.2.1.length) (pm := nI (actN p.2.1.length)) (fl := fl) (tx := tx) (ty := nI p.2.2.length) (ct := ct) (wr := wr) (it := it) (im := im) (sg := sg) (sm := sm) (lat := lat) (hat := hat) (sy := sy) (nw := nw) (os := os) (hgh := hgh) (pl := pl) (asd := asd) (lks := lks) (n := p.1.2.1.length - 1) (a := 100 + 166 * i) (by omega) upd_at (nI i) (by omega) Q (100 + 166 * (p.1.2.1.length - 1) - (100 + 166 * i)) (100 + 166 * i) (Nat.le_refl _) (by omega)
    rw [rmF_0] at L
    refine ⟨(mkM h0 M (rmF (upd v 1 (nI (p.1.2.1.length - 1))) (100 + 166 * i) (100 + 166 * (p.1.2.1.length - 1))) (actP pa v p.2.1.length) (nI (actN p.2.1.length)) fl tx (nI p.2.2.length) ct wr it im sg sm lat hat sy nw os hgh pl asd lks), mkM_same, rM.kp hv hp ht hw ?_, fun Q => ?_⟩
    · have low : ∀ q, q < 100 + 166 * i → rmF (upd v 1 (nI (p.1.2.1.length - 1))) (100 + 166 * i) (100 + 166 * (p.1.2.1.length - 1)) q = upd v 1 (nI (p.1.2.1.length - 1)) q := fun q hq => by
        unfold rmF
        rw [if_neg (by omega)]
      refine ⟨hv.1.of hw.1.1.1 (fun q hq => by rw [low q (by omega), upd_off (by omega)]), ?_, by rw [low 2 (by omega), upd_off (by omega)]; exact hv.2.2.1, fun j x hx => ?_⟩
      · rw [low 1 (by omega), upd_at]
        show _ = nI (p.1.2.1.eraseIdx i).length
        rw [List.length_eraseIdx, if_pos hi]
      · have hx : (p.1.2.1.eraseIdx i)[j]? = some x := hx
        rw [List.getElem?_eraseIdx] at hx
        by_cases c : j < i
        · rw [if_pos c] at hx
          exact (hv.2.2.2 j x hx).of (hw.1.2.1.2 x (List.mem_of_getElem? hx)).2.2.2.2.1 (fun q q1 q2 => by rw [low q (by omega), upd_off (by omega)])
        · rw [if_neg c] at hx
          have hl := (List.getElem?_eq_some_iff.mp hx).1
          have el := hv.2.2.2 (j + 1) x hx
          have i80 := (hw.1.2.1.2 x (List.mem_of_getElem? hx)).2.2.2.2.1
          have up : ∀ q, q < 166 → rmF (upd v 1 (nI (p.1.2.1.length - 1))) (100 + 166 * i) (100 + 166 * (p.1.2.1.length - 1)) (100 + 166 * j + q) = v (100 + 166 * (j + 1) + q) := fun q hq => by
            unfold rmF
            rw [if_pos (by omega), upd_off (by omega)]
            congr 1
            omega
          obtain ⟨b1, b2, b3, b4, b5, b6⟩ := el
          refine ⟨by rw [up _ (by omega)]; exact b1, by rw [up _ (by omega)]; exact b2, by rw [up _ (by omega)]; exact b3, by rw [up _ (by omega)]; exact b4, by rw [up _ (by omega)]; exact b5, fun z y hy => ?_⟩
          have hz := (List.getElem?_eq_some_iff.mp hy).1
          rw [Nat.add_assoc (100 + 166 * j) 5, Nat.add_assoc (100 + 166 * j) (5 + 2 * z), up _ (by omega), up _ (by omega)]
          have := b6 z y hy
          rw [Nat.add_assoc (100 + 166 * (j + 1)) 5, Nat.add_assoc (100 + 166 * (j + 1)) (5 + 2 * z)] at this
          exact this
    · rw [eX10_remove]
      simp (disch := (first | omega | assumption | (simp (disch := omega) only [Int32.lt_iff_toInt_lt, Int32.le_iff_toInt_le, ← Int32.toInt_inj, nI_toInt, zi_m1, zi_m2, zi_m3, zi_m9]; omega) | decide)) only [sX10_remove_0, sX10_remove_1, sX10_remove_2, sX10_remove_5, sX10_remove_8, sX10_remove_9, sX10_remove_10, sX10_remove_11, sX10_remove_14, sX10_remove_15, sX10_remove_18, sX10_remove_19, sX10_remove_20, sX10_remove_21, sX10_remove_22, sX10_remove_23, sX10_remove_24, sX10_remove_25, sX10_remove_28i, sX10_remove_28r, sX10_remove_28z, sX10_remove_28o, mCk, mG0, mG1, mG2, mG3, mG4, mG5, mG6, mG7, mG8, mG9, mG10, mG11, mG12, mG13, mG14, mG15, mG16, mG17, mG18, mG19, mG20, mP2, mP5, mP6, mP7, mP9, mP11, mP14, mA1, mS1, mA2, mS2, mA3, mS3, mA4, mS4, mA5, mS5, mA6, mS6, mA7, mS7, mA8, mS8, mA9, mS9, mA10, mS10, mA11, mS11, mA12, mS12, mA13, mS13, mA14, mS14, zpush_v, zpush_n, gCk, gAi, gSi, gSz, gLi, gLq, ↓if_pos, ↓if_neg, isLn_t hv1 h16 hi, m_act h5, hv1, nI_sub, m_lineAt]
      exact L Q
  · rw [e]
    refine ⟨_, Same.rf, hr, fun Q => ?_⟩
    rw [eX10_remove]
    simp (disch := (first | omega | assumption | (simp (disch := omega) only [Int32.lt_iff_toInt_lt, Int32.le_iff_toInt_le, ← Int32.toInt_inj, nI_toInt, zi_m1, zi_m2, zi_m3, zi_m9]; omega) | decide)) only [sX10_remove_0, sX10_remove_1, sX10_remove_2, sX10_remove_5, sX10_remove_8, sX10_remove_9, mCk, mG0, mG1, mG2, mG3, mG4, mG5, mG6, mG7, mG8, mG9, mG10, mG11, mG12, mG13, mG14, mG15, mG16, mG17, mG18, mG19, mG20, mP2, mP5, mP6, mP7, mP9, mP11, mP14, mA1, mS1, mA2, mS2, mA3, mS3, mA4, mS4, mA5, mS5, mA6, mS6, mA7, mS7, mA8, mS8, mA9, mS9, mA10, mS10, mA11, mS11, mA12, mS12, mA13, mS13, mA14, mS14, zpush_v, zpush_n, gCk, gAi, gSi, gSz, gLi, gLq, ↓if_pos, ↓if_neg, isLn_f hv1 h16 g]
theorem y_shift (hr : rM h M p) (hw : WfP p) (l w : Int32) : ∃ h', Same h h' M 15 ∧ rM h' M (opShift p l w).1 ∧ ∀ Q : Option Value → Hp → Prop, WPm 141 [.ref M, .int l, .int w] h Q = Q (some (.int (opShift p l w).2)) h' := by
  obtain ⟨h0, v, pa, fl, tx, it, sg, lat, hat, nw, os, hgh, pl, asd, lks, ct, wr, im, sm, sy, rfl, hv, hp, ht⟩ := id hr
  have h5 := hw.2.2.1
  have h16 := hw.1.2.1.1
  have hv1 := hv.2.1
  have m1 : (-100000 : Int32).toInt = -100000 := by decide
  unfold opShift
  rcases dN_cases p.1.2.1.length l (by omega) with ⟨i, hi, rfl, e⟩ | ⟨g, e⟩
  · rw [e]
    simp only
    have eL := encL.at hv.2.2.2 hi
    obtain ⟨b1, b2, b3, b4, b5, b6⟩ := id eL
    have wl := hw.1.mem _ (lnA_mem hi)
    have w1 := wl.1.1
    have w2 := wl.1.2.1
    have i80 := wl.1.2.2.2.2.1
    by_cases k1 : w.toInt < -100000 ∨ 100000 < w.toInt
    · rw [if_pos k1]
      have F := fun (h : Hp) => in_f (h := h) (x := w) (lo := -100000) (hi := nI 100000) (by
        rw [Int32.lt_iff_toInt_lt, Int32.lt_iff_toInt_lt, m1, nI_toInt (by omega)]
        exact k1)
      refine ⟨_, Same.rf, hr, fun Q => ?_⟩
      rw [eX10_shift]
      simp (disch := (first | omega | assumption | (simp (disch := omega) only [Int32.lt_iff_toInt_lt, Int32.le_iff_toInt_le, ← Int32.toInt_inj, nI_toInt, zi_m1, zi_m2, zi_m3, zi_m9]; omega) | decide)) only [sX10_shift_0, sX10_shift_1, sX10_shift_2, sX10_shift_5, sX10_shift_8, sX10_shift_9, sX10_shift_11, sX10_shift_13, sX10_shift_16, sX10_shift_19, sX10_shift_20, mCk, mG0, mG1, mG2, mG3, mG4, mG5, mG6, mG7, mG8, mG9, mG10, mG11, mG12, mG13, mG14, mG15, mG16, mG17, mG18, mG19, mG20, mP2, mP5, mP6, mP7, mP9, mP11, mP14, mA1, mS1, mA2, mS2, mA3, mS3, mA4, mS4, mA5, mS5, mA6, mS6, mA7, mS7, mA8, mS8, mA9, mS9, mA10, mS10, mA11, mS11, mA12, mS12, mA13, mS13, mA14, mS14, zpush_v, zpush_n, gCk, gAi, gSi, gSz, gLi, gLq, ↓if_pos, ↓if_neg, isLn_t hv1 h16 hi, F]
    · rw [if_neg k1]
      have T := fun (h : Hp) => in_t (h := h) (x := w) (lo := -100000) (hi := nI 100000) (by
        rw [Int32.le_iff_toInt_le, Int32.le_iff_toInt_le, m1, nI_toInt (by omega)]
        omega)
      have u1 := nI_addT (b := (lnA p.1.2.1 i).1) (x := w) (by omega) (by omega) (by omega)
      have u2 := nI_addT (b := (lnA p.1.2.1 i).2.1) (x := w) (by omega) (by omega) (by omega)
      have m3 : (nI 0).toInt = 0 := by decide
      have m2 : (nI 100000).toInt = 100000 := by decide
      by_cases k2 : ((lnA p.1.2.1 i).1 : Int) + w.toInt < 0 ∨ 100000 < ((lnA p.1.2.1 i).2.1 : Int) + w.toInt
      · rw [if_pos k2]
        refine ⟨_, Same.rf, hr, fun Q => ?_⟩
        rw [eX10_shift]
        by_cases k3 : ((lnA p.1.2.1 i).1 : Int) + w.toInt < 0
        · have d3 : nI (lnA p.1.2.1 i).1 + w < nI 0 := by rw [Int32.lt_iff_toInt_lt, u1, m3]; exact k3
          simp (disch := (first | omega | assumption | (simp (disch := omega) only [Int32.lt_iff_toInt_lt, Int32.le_iff_toInt_le, ← Int32.toInt_inj, nI_toInt, zi_m1, zi_m2, zi_m3, zi_m9]; omega) | decide)) only [sX10_shift_0, sX10_shift_1, sX10_shift_2, sX10_shift_5, sX10_shift_8, sX10_shift_9, sX10_shift_11, sX10_shift_13, sX10_shift_16, sX10_shift_19, sX10_shift_20, sX10_shift_21, sX10_shift_22, sX10_shift_25i, sX10_shift_25r, sX10_shift_25z, sX10_shift_25o, sX10_shift_26, sX10_shift_27, sX10_shift_30, sX10_shift_31, sX10_shift_32, sX10_shift_33, sX10_shift_34, sX10_shift_35, sX10_shift_36, sX10_shift_39, sX10_shift_40, sX10_shift_43, sX10_shift_44, sX10_shift_45, sX10_shift_46, sX10_shift_47, sX10_shift_48, sX10_shift_49, sX10_shift_51, sX10_shift_54, sX10_shift_56, mCk, mG0, mG1, mG2, mG3, mG4, mG5, mG6, mG7, mG8, mG9, mG10, mG11, mG12, mG13, mG14, mG15, mG16, mG17, mG18, mG19, mG20, mP2, mP5, mP6, mP7, mP9, mP11, mP14, mA1, mS1, mA2, mS2, mA3, mS3, mA4, mS4, mA5, mS5, mA6, mS6, mA7, mS7, mA8, mS8, mA9, mS9, mA10, mS10, mA11, mS11, mA12, mS12, mA13, mS13, mA14, mS14, zpush_v, zpush_n, gCk, gAi, gSi, gSz, gLi, gLq, ↓if_pos, ↓if_neg, isLn_t hv1 h16 hi, T, m_lineAt, nI_add, b1]
        · have d3 : ¬ nI (lnA p.1.2.1 i).1 + w < nI 0 := by rw [Int32.lt_iff_toInt_lt, u1, m3]; exact k3
          have d4 : ¬ nI (lnA p.1.2.1 i).2.1 + w ≤ nI 100000 := by rw [Int32.le_iff_toInt_le, u2, m2]; omega
          simp (disch := (first | omega | assumption | (simp (disch := omega) only [Int32.lt_iff_toInt_lt, Int32.le_iff_toInt_le, ← Int32.toInt_inj, nI_toInt, zi_m1, zi_m2, zi_m3, zi_m9]; omega) | decide)) only [sX10_shift_0, sX10_shift_1, sX10_shift_2, sX10_shift_5, sX10_shift_8, sX10_shift_9, sX10_shift_11, sX10_shift_13, sX10_shift_16, sX10_shift_19, sX10_shift_20, sX10_shift_21, sX10_shift_22, sX10_shift_25i, sX10_shift_25r, sX10_shift_25z, sX10_shift_25o, sX10_shift_26, sX10_shift_27, sX10_shift_30, sX10_shift_31, sX10_shift_32, sX10_shift_33, sX10_shift_34, sX10_shift_35, sX10_shift_36, sX10_shift_39, sX10_shift_40, sX10_shift_43, sX10_shift_44, sX10_shift_45, sX10_shift_46, sX10_shift_47, sX10_shift_48, sX10_shift_49, sX10_shift_51, sX10_shift_54, sX10_shift_56, mCk, mG0, mG1, mG2, mG3, mG4, mG5, mG6, mG7, mG8, mG9, mG10, mG11, mG12, mG13, mG14, mG15, mG16, mG17, mG18, mG19, mG20, mP2, mP5, mP6, mP7, mP9, mP11, mP14, mA1, mS1, mA2, mS2, mA3, mS3, mA4, mS4, mA5, mS5, mA6, mS6, mA7, mS7, mA8, mS8, mA9, mS9, mA10, mS10, mA11, mS11, mA12, mS12, mA13, mS13, mA14, mS14, zpush_v, zpush_n, gCk, gAi, gSi, gSz, gLi, gLq, ↓if_pos, ↓if_neg, isLn_t hv1 h16 hi, T, m_lineAt, nI_add, b1, b2]
      · rw [if_neg k2]
        have d3 : ¬ nI (lnA p.1.2.1 i).1 + w < nI 0 := by rw [Int32.lt_iff_toInt_lt, u1, m3]; omega
        have d4 : nI (lnA p.1.2.1 i).2.1 + w ≤ nI 100000 := by rw [Int32.le_iff_toInt_le, u2, m2]; omega
        have v1 : nI (lnA p.1.2.1 i).1 + w = nI (((lnA p.1.2.1 i).1 : Int) + w.toInt).toNat := eq_nI (by rw [u1]; omega) (by omega)
        have v2 : nI (lnA p.1.2.1 i).2.1 + w = nI (((lnA p.1.2.1 i).2.1 : Int) + w.toInt).toNat := eq_nI (by rw [u2]; omega) (by omega)
        have b2' : upd v (100 + 166 * i + 0) (nI (lnA p.1.2.1 i).1 + w) (100 + 166 * i + 1) = nI (lnA p.1.2.1 i).2.1 := by rw [upd_off (by omega)]; exact b2
        have b3' : upd (upd v (100 + 166 * i + 0) (nI (lnA p.1.2.1 i).1 + w)) (100 + 166 * i + 1) (nI (lnA p.1.2.1 i).2.1 + w) (100 + 166 * i + 0) = nI (lnA p.1.2.1 i).1 + w := by rw [upd_off (by omega), upd_at]
        refine ⟨(mkM h0 M (upd (upd v (100 + 166 * i + 0) (nI (lnA p.1.2.1 i).1 + w)) (100 + 166 * i + 1) (nI (lnA p.1.2.1 i).2.1 + w)) (actP pa v p.2.1.length) (nI (actN p.2.1.length)) fl tx (nI p.2.2.length) ct wr it im sg sm lat hat sy nw os hgh pl asd lks), mkM_same, rM.kp hv hp ht hw (hv.ln hw.1 ?_ (fun q hq => by rw [upd_off (by omega), upd_off (by omega)])), fun Q => ?_⟩
        · refine ⟨by rw [b3', v1], by rw [upd_at, v2], by rw [upd_off (by omega), upd_off (by omega)]; exact b3, by rw [upd_off (by omega), upd_off (by omega)]; exact b4, by rw [upd_off (by omega), upd_off (by omega)]; exact b5, fun j x hx => by rw [upd_off (by omega), upd_off (by omega), upd_off (by omega), upd_off (by omega)]; exact b6 j x hx⟩
        · rw [eX10_shift]
          simp (disch := (first | omega | assumption | (simp (disch := omega) only [Int32.lt_iff_toInt_lt, Int32.le_iff_toInt_le, ← Int32.toInt_inj, nI_toInt, zi_m1, zi_m2, zi_m3, zi_m9]; omega) | decide)) only [sX10_shift_0, sX10_shift_1, sX10_shift_2, sX10_shift_5, sX10_shift_8, sX10_shift_9, sX10_shift_11, sX10_shift_13, sX10_shift_16, sX10_shift_19, sX10_shift_20, sX10_shift_21, sX10_shift_22, sX10_shift_25i, sX10_shift_25r, sX10_shift_25z, sX10_shift_25o, sX10_shift_26, sX10_shift_27, sX10_shift_30, sX10_shift_31, sX10_shift_32, sX10_shift_33, sX10_shift_34, sX10_shift_35, sX10_shift_36, sX10_shift_39, sX10_shift_40, sX10_shift_43, sX10_shift_44, sX10_shift_45, sX10_shift_46, sX10_shift_47, sX10_shift_48, sX10_shift_49, sX10_shift_51, sX10_shift_54, sX10_shift_56, sX10_shift_57, sX10_shift_58, sX10_shift_61, sX10_shift_62, sX10_shift_65, sX10_shift_66, sX10_shift_67, sX10_shift_68, sX10_shift_69, sX10_shift_70, sX10_shift_71, sX10_shift_72, sX10_shift_73, sX10_shift_74, sX10_shift_77, sX10_shift_78, sX10_shift_79, sX10_shift_80, sX10_shift_81, sX10_shift_82, sX10_shift_83, sX10_shift_84, sX10_shift_85, sX10_shift_86, sX10_shift_89, sX10_shift_90, sX10_shift_91, sX10_shift_92, sX10_shift_93, mCk, mG0, mG1, mG2, mG3, mG4, mG5, mG6, mG7, mG8, mG9, mG10, mG11, mG12, mG13, mG14, mG15, mG16, mG17, mG18, mG19, mG20, mP2, mP5, mP6, mP7, mP9, mP11, mP14, mA1, mS1, mA2, mS2, mA3, mS3, mA4, mS4, mA5, mS5, mA6, mS6, mA7, mS7, mA8, mS8, mA9, mS9, mA10, mS10, mA11, mS11, mA12, mS12, mA13, mS13, mA14, mS14, zpush_v, zpush_n, gCk, gAi, gSi, gSz, gLi, gLq, ↓if_pos, ↓if_neg, isLn_t hv1 h16 hi, T, m_lineAt, nI_add, b1, b2, m_act h5, b2', b3']
          rw [v1]
  · rw [e]
    refine ⟨_, Same.rf, hr, fun Q => ?_⟩
    rw [eX10_shift]
    simp (disch := (first | omega | assumption | (simp (disch := omega) only [Int32.lt_iff_toInt_lt, Int32.le_iff_toInt_le, ← Int32.toInt_inj, nI_toInt, zi_m1, zi_m2, zi_m3, zi_m9]; omega) | decide)) only [sX10_shift_0, sX10_shift_1, sX10_shift_2, sX10_shift_5, sX10_shift_8, sX10_shift_9, sX10_shift_11, sX10_shift_13, sX10_shift_16, sX10_shift_19, sX10_shift_20, mCk, mG0, mG1, mG2, mG3, mG4, mG5, mG6, mG7, mG8, mG9, mG10, mG11, mG12, mG13, mG14, mG15, mG16, mG17, mG18, mG19, mG20, mP2, mP5, mP6, mP7, mP9, mP11, mP14, mA1, mS1, mA2, mS2, mA3, mS3, mA4, mS4, mA5, mS5, mA6, mS6, mA7, mS7, mA8, mS8, mA9, mS9, mA10, mS10, mA11, mS11, mA12, mS12, mA13, mS13, mA14, mS14, zpush_v, zpush_n, gCk, gAi, gSi, gSz, gLi, gLq, ↓if_pos, ↓if_neg, isLn_f hv1 h16 g]
theorem l_line {n k : Nat} (hn : n ≤ 80) (hk : k + 166 ≤ 2760) (x1 x2 x3 x4 : Int32) (Q : Option Value → Hp → Prop) : ∀ (m i : Nat), m + i = 2 * n → WP 138 133 [some (.ref M), some (.int x1), some (.int x2), some (.int x3), some (.int x4), some (.int (nI k)), some (.int (nI i))] [] (mkM h0 M (pst v it (k + 5) i) pa pm fl tx ty ct wr it (nI n) sg sm lat hat sy nw os hgh pl asd lks) Q = WP 138 169 [some (.ref M), some (.int x1), some (.int x2), some (.int x3), some (.int x4), some (.int (nI k)), some (.int (nI (2 * n)))] [] (mkM h0 M (pst v it (k + 5) (2 * n)) pa pm fl tx ty ct wr it (nI n) sg sm lat hat sy nw os hgh pl asd lks) Q := by
  intro m
  induction m with
  | zero =>
    intro i hi
    have hi : i = 2 * n := by omega
    subst hi
    rw [sX10_line_133]
    simp (disch := (first | omega | assumption | (simp (disch := omega) only [Int32.lt_iff_toInt_lt, Int32.le_iff_toInt_le, ← Int32.toInt_inj, nI_toInt, zi_m1, zi_m2, zi_m3, zi_m9]; omega) | decide)) only [sX10_line_135, sX10_line_136, sX10_line_137, sX10_line_140, sX10_line_141, mCk, mG0, mG1, mG2, mG3, mG4, mG5, mG6, mG7, mG8, mG9, mG10, mG11, mG12, mG13, mG14, mG15, mG16, mG17, mG18, mG19, mG20, mP2, mP5, mP6, mP7, mP9, mP11, mP14, mA1, mS1, mA2, mS2, mA3, mS3, mA4, mS4, mA5, mS5, mA6, mS6, mA7, mS7, mA8, mS8, mA9, mS9, mA10, mS10, mA11, mS11, mA12, mS12, mA13, mS13, mA14, mS14, zpush_v, zpush_n, gCk, gAi, gSi, gSz, gLi, gLq, ↓if_pos, ↓if_neg, nI_mul]
  | succ m ih =>
    intro i hi
    rw [← ih (i + 1) (by omega), sX10_line_133]
    simp (disch := (first | omega | assumption | (simp (disch := omega) only [Int32.lt_iff_toInt_lt, Int32.le_iff_toInt_le, ← Int32.toInt_inj, nI_toInt, zi_m1, zi_m2, zi_m3, zi_m9]; omega) | decide)) only [sX10_line_135, sX10_line_136, sX10_line_137, sX10_line_140, sX10_line_141, sX10_line_144, sX10_line_145, sX10_line_148, sX10_line_150, sX10_line_151, sX10_line_152, sX10_line_154, sX10_line_155, sX10_line_156, sX10_line_159, sX10_line_161, sX10_line_162, sX10_line_163i, sX10_line_163r, sX10_line_163z, sX10_line_163o, sX10_line_166, mCk, mG0, mG1, mG2, mG3, mG4, mG5, mG6, mG7, mG8, mG9, mG10, mG11, mG12, mG13, mG14, mG15, mG16, mG17, mG18, mG19, mG20, mP2, mP5, mP6, mP7, mP9, mP11, mP14, mA1, mS1, mA2, mS2, mA3, mS3, mA4, mS4, mA5, mS5, mA6, mS6, mA7, mS7, mA8, mS8, mA9, mS9, mA10, mS10, mA11, mS11, mA12, mS12, mA13, mS13, mA14, mS14, zpush_v, zpush_n, gCk, gAi, gSi, gSz, gLi, gLq, ↓if_pos, ↓if_neg, nI_mul, nI_add, pst_step]
theorem l_line0 {n k : Nat} (hn : n ≤ 80) (hk : k + 166 ≤ 2760) (x1 x2 x3 x4 : Int32) (Q : Option Value → Hp → Prop) : WP 138 133 [some (.ref M), some (.int x1), some (.int x2), some (.int x3), some (.int x4), some (.int (nI k)), some (.int (nI 0))] [] (mkM h0 M v pa pm fl tx ty ct wr it (nI n) sg sm lat hat sy nw os hgh pl asd lks) Q = WP 138 169 [some (.ref M), some (.int x1), some (.int x2), some (.int x3), some (.int x4), some (.int (nI k)), some (.int (nI (2 * n)))] [] (mkM h0 M (pst v it (k + 5) (2 * n)) pa pm fl tx ty ct wr it (nI n) sg sm lat hat sy nw os hgh pl asd lks) Q := by
  rw [← l_line hn hk x1 x2 x3 x4 Q (2 * n) 0 rfl, pst_0]
/-- the row with a new line -/
def lnF (v it : Nat → Int32) (k n : Nat) (b e s : Int32) : Nat → Int32 := pst (upd (upd (upd (upd (upd v (k + 0) b) (k + 1) e) (k + 2) s) (k + 3) (-1)) (k + 4) (nI n)) it (k + 5) (2 * n)
theorem lnF_out {v it : Nat → Int32} {k n : Nat} {b e s : Int32} {q : Nat} (hn : n ≤ 80) (hq : q < k ∨ k + 166 ≤ q) : lnF v it k n b e s q = v q := by
  unfold lnF pst
  rw [if_neg (by omega), upd_off (by omega), upd_off (by omega), upd_off (by omega), upd_off (by omega), upd_off (by omega)]
theorem lnF_enc {v it : Nat → Int32} {k i j : Nat} {o : Option Nat} {its : List Itm} (hI : encI it its) : encL (lnF v it k its.length (nI i) (nI j) (eN o)) k (i, j, o, none, its) := by
  unfold lnF pst
  refine ⟨?_, ?_, ?_, ?_, ?_, fun z x hx => ?_⟩
  · simp only
    rw [if_neg (by omega), upd_off (by omega), upd_off (by omega), upd_off (by omega), upd_off (by omega), upd_at]
  · simp only
    rw [if_neg (by omega), upd_off (by omega), upd_off (by omega), upd_off (by omega), upd_at]
  · simp only
    rw [if_neg (by omega), upd_off (by omega), upd_off (by omega), upd_at]
  · simp only
    rw [if_neg (by omega), upd_off (by omega), upd_at]
    rfl
  · simp only
    rw [if_neg (by omega), upd_at]
  · have hz := (List.getElem?_eq_some_iff.mp hx).1
    have hz : z < its.length := hz
    obtain ⟨a, b⟩ := hI z x hx
    simp only
    rw [if_pos (by omega), if_pos (by omega), show k + 5 + 2 * z - (k + 5) = 2 * z by omega, show k + 5 + 2 * z + 1 - (k + 5) = 2 * z + 1 by omega]
    exact ⟨a, b⟩
theorem pErr_le {txt : List Nat} (hn : txt.length ≤ 80) (hc : ∀ c ∈ txt, 32 ≤ c ∧ c ≤ 126) {z : Nat} (hE : pErr txt = some z) : z ≤ 80 := by
  have key : ∀ (txt : List Nat) (i : Nat) (s : PSt), pOk i s → (∀ c ∈ txt, 32 ≤ c ∧ c ≤ 126) → ∀ j, pGo txt i s = .inl j → j ≤ i + txt.length := by
    intro txt
    induction txt with
    | nil => intro i s _ _ j q; cases q
    | cons c r ih =>
      intro i s hp hc j q
      simp only [pGo] at q
      split at q
      · cases q; omega
      · rename_i s1 hs1
        have := ih (i + 1) s1 (hp.take (hc c (List.mem_cons_self ..)) hs1) (fun x hx => hc x (List.mem_cons_of_mem _ hx)) j q
        rw [List.length_cons]
        omega
  unfold pErr at hE
  cases hg : pGo txt 0 ps0 with
  | inl jj =>
    rw [hg] at hE
    cases hE
    have := key txt 0 ps0 pOk_0 hc _ hg
    omega
  | inr s' =>
    rw [hg] at hE
    have hp := pOk_go txt 0 ps0 s' pOk_0 hc hg
    simp only at hE
    split at hE
    · have := hp.2.2.2.2.2.2.1 z hE
      omega
    · cases hE
      exact hn
theorem y_line (hr : rM h M p) (hw : WfP p) (b e s : Int32) : ∃ h', Same h h' M 15 ∧ rM h' M (opLine p b e s).1 ∧ ∀ Q : Option Value → Hp → Prop, WPm 138 [.ref M, .int b, .int e, .int s] h Q = Q (some (.int (opLine p b e s).2)) h' := by
  obtain ⟨h0, v, pa, fl, tx, it, sg, lat, hat, nw, os, hgh, pl, asd, lks, ct, wr, im, sm, sy, rfl, hv, hp, ht⟩ := id hr
  have h5 := hw.2.2.1
  have h16 := hw.1.2.1.1
  have h10 := hw.1.1.1
  have hS := hv.1
  have hv1 := hv.2.1
  unfold opLine
  have bad : (∀ Q : Option Value → Hp → Prop, WPm 138 [.ref M, .int b, .int e, .int s] (mkM h0 M v pa (nI p.2.1.length) fl tx (nI p.2.2.length) ct wr it im sg sm lat hat sy nw os hgh pl asd lks) Q = Q (some (.int (-1))) (mkM h0 M v pa (nI p.2.1.length) fl tx (nI p.2.2.length) ct wr it im sg sm lat hat sy nw os hgh pl asd lks)) → ∃ h', Same (mkM h0 M v pa (nI p.2.1.length) fl tx (nI p.2.2.length) ct wr it im sg sm lat hat sy nw os hgh pl asd lks) h' M 15 ∧ rM h' M p ∧ ∀ Q : Option Value → Hp → Prop, WPm 138 [.ref M, .int b, .int e, .int s] (mkM h0 M v pa (nI p.2.1.length) fl tx (nI p.2.2.length) ct wr it im sg sm lat hat sy nw os hgh pl asd lks) Q = Q (some (.int (-1))) h' := fun q => ⟨_, Same.rf, hr, q⟩
  rcases dR_cases 0 99999 b (by omega) (by omega) with ⟨i, hi, rfl, e1⟩ | ⟨g, e1⟩
  · rw [e1]
    simp only
    have I := fun (h : Hp) => in_n (h := h) (k := i) (a := 0) (b := 99999) (by omega) (by omega) (by omega)
    rw [bI_t hi] at I
    rcases dR_cases 0 100000 e (by omega) (by omega) with ⟨j, hj, rfl, e2⟩ | ⟨g, e2⟩
    · rw [e2]
      simp only
      by_cases hji : j ≤ i
      · rw [if_pos hji]
        refine bad (fun Q => ?_)
        rw [eX10_line]
        simp (disch := (first | omega | assumption | (simp (disch := omega) only [Int32.lt_iff_toInt_lt, Int32.le_iff_toInt_le, ← Int32.toInt_inj, nI_toInt, zi_m1, zi_m2, zi_m3, zi_m9]; omega) | decide)) only [sX10_line_0, sX10_line_1, sX10_line_2, sX10_line_4, sX10_line_7, sX10_line_10, sX10_line_11, sX10_line_12, sX10_line_15, sX10_line_16, sX10_line_18, sX10_line_21, sX10_line_22, sX10_line_23, sX10_line_26, sX10_line_29, sX10_line_30, mCk, mG0, mG1, mG2, mG3, mG4, mG5, mG6, mG7, mG8, mG9, mG10, mG11, mG12, mG13, mG14, mG15, mG16, mG17, mG18, mG19, mG20, mP2, mP5, mP6, mP7, mP9, mP11, mP14, mA1, mS1, mA2, mS2, mA3, mS3, mA4, mS4, mA5, mS5, mA6, mS6, mA7, mS7, mA8, mS8, mA9, mS9, mA10, mS10, mA11, mS11, mA12, mS12, mA13, mS13, mA14, mS14, zpush_v, zpush_n, gCk, gAi, gSi, gSz, gLi, gLq, ↓if_pos, ↓if_neg, I]
      · rw [if_neg hji]
        have good : ∀ (o : Option Nat), s = eN o → (∀ q, o = some q → q < p.1.1.1) → (∀ Q : Option Value → Hp → Prop, WPm 113 [.ref M, .int s] (mkM h0 M v pa (nI p.2.1.length) fl tx (nI p.2.2.length) ct wr it im sg sm lat hat sy nw os hgh pl asd lks) Q = Q (some (.int (nI 1))) (mkM h0 M v pa (nI p.2.1.length) fl tx (nI p.2.2.length) ct wr it im sg sm lat hat sy nw os hgh pl asd lks)) → ∃ h', Same (mkM h0 M v pa (nI p.2.1.length) fl tx (nI p.2.2.length) ct wr it im sg sm lat hat sy nw os hgh pl asd lks) h' M 15 ∧ rM h' M (if 16 ≤ p.1.2.1.length then (p, (-3 : Int32)) else match pErr p.2.2 with | some z => (p, -100 - nI z) | none => (((p.1.1, p.1.2.1 ++ [(i, j, o, none, pIts p.2.2)], p.1.2.2), kept p.2.1 p.1, []), nI p.1.2.1.length)).1 ∧ ∀ Q : Option Value → Hp → Prop, WPm 138 [.ref M, .int (nI i), .int (nI j), .int s] (mkM h0 M v pa (nI p.2.1.length) fl tx (nI p.2.2.length) ct wr it im sg sm lat hat sy nw os hgh pl asd lks) Q = Q (some (.int (if 16 ≤ p.1.2.1.length then (p, (-3 : Int32)) else match pErr p.2.2 with | some z => (p, -100 - nI z) | none => (((p.1.1, p.1.2.1 ++ [(i, j, o, none, pIts p.2.2)], p.1.2.2), kept p.2.1 p.1, []), nI p.1.2.1.length)).2)) h' := by
          intro o hs ho wv
          subst hs
          by_cases hf : 16 ≤ p.1.2.1.length
          · rw [if_pos hf]
            have hf' : p.1.2.1.length = 16 := by omega
            rw [hf'] at hv1
            refine ⟨_, Same.rf, hr, fun Q => ?_⟩
            rw [eX10_line]
            simp (disch := (first | omega | assumption | (simp (disch := omega) only [Int32.lt_iff_toInt_lt, Int32.le_iff_toInt_le, ← Int32.toInt_inj, nI_toInt, zi_m1, zi_m2, zi_m3, zi_m9]; omega) | decide)) only [sX10_line_0, sX10_line_1, sX10_line_2, sX10_line_4, sX10_line_7, sX10_line_10, sX10_line_11, sX10_line_12, sX10_line_15, sX10_line_16, sX10_line_18, sX10_line_21, sX10_line_22, sX10_line_23, sX10_line_26, sX10_line_29, sX10_line_30, sX10_line_31, sX10_line_32, sX10_line_35, sX10_line_36, sX10_line_37, sX10_line_39, sX10_line_42, sX10_line_44, mCk, mG0, mG1, mG2, mG3, mG4, mG5, mG6, mG7, mG8, mG9, mG10, mG11, mG12, mG13, mG14, mG15, mG16, mG17, mG18, mG19, mG20, mP2, mP5, mP6, mP7, mP9, mP11, mP14, mA1, mS1, mA2, mS2, mA3, mS3, mA4, mS4, mA5, mS5, mA6, mS6, mA7, mS7, mA8, mS8, mA9, mS9, mA10, mS10, mA11, mS11, mA12, mS12, mA13, mS13, mA14, mS14, zpush_v, zpush_n, gCk, gAi, gSi, gSz, gLi, gLq, ↓if_pos, ↓if_neg, I, wv, hv1]
          · rw [if_neg hf]
            obtain ⟨ct', wr', it', im', r1, r2⟩ := m_wrongAt (h0 := h0) (M := M) (v := v) (pa := pa) (pm := nI p.2.1.length) (fl := fl) (tx := tx) (ct := ct) (wr := wr) (it := it) (im := im) (sg := sg) (sm := sm) (lat := lat) (hat := hat) (sy := sy) (nw := nw) (os := os) (hgh := hgh) (pl := pl) (asd := asd) (lks := lks) ht hw.2.2.2.1 hw.2.2.2.2
            cases hE : pErr p.2.2 with
            | some z =>
              have hz := pErr_le hw.2.2.2.1 hw.2.2.2.2 hE
              rw [hE, eN_s] at r2
              refine ⟨(mkM h0 M v pa (nI p.2.1.length) fl tx (nI p.2.2.length) ct' wr' it' im' sg sm lat hat sy nw os hgh pl asd lks), mkM_same, rM.mk hv hp ht, fun Q => ?_⟩
              rw [eX10_line]
              simp (disch := (first | omega | assumption | (simp (disch := omega) only [Int32.lt_iff_toInt_lt, Int32.le_iff_toInt_le, ← Int32.toInt_inj, nI_toInt, zi_m1, zi_m2, zi_m3, zi_m9]; omega) | decide)) only [sX10_line_0, sX10_line_1, sX10_line_2, sX10_line_4, sX10_line_7, sX10_line_10, sX10_line_11, sX10_line_12, sX10_line_15, sX10_line_16, sX10_line_18, sX10_line_21, sX10_line_22, sX10_line_23, sX10_line_26, sX10_line_29, sX10_line_30, sX10_line_31, sX10_line_32, sX10_line_35, sX10_line_36, sX10_line_37, sX10_line_39, sX10_line_42, sX10_line_44, sX10_line_45, sX10_line_46, sX10_line_49i, sX10_line_49r, sX10_line_49z, sX10_line_49o, sX10_line_51, sX10_line_53, sX10_line_56, sX10_line_58, sX10_line_60, sX10_line_61, mCk, mG0, mG1, mG2, mG3, mG4, mG5, mG6, mG7, mG8, mG9, mG10, mG11, mG12, mG13, mG14, mG15, mG16, mG17, mG18, mG19, mG20, mP2, mP5, mP6, mP7, mP9, mP11, mP14, mA1, mS1, mA2, mS2, mA3, mS3, mA4, mS4, mA5, mS5, mA6, mS6, mA7, mS7, mA8, mS8, mA9, mS9, mA10, mS10, mA11, mS11, mA12, mS12, mA13, mS13, mA14, mS14, zpush_v, zpush_n, gCk, gAi, gSi, gSz, gLi, gLq, ↓if_pos, ↓if_neg, I, wv, hv1, r2]
            | none =>
              rw [hE, eN_n] at r2
              obtain ⟨r3, r4⟩ := r1 hE
              subst r3
              obtain ⟨i80, iok, i20⟩ := pIts_ok hw.2.2.2.1 hw.2.2.2.2 hE
              have out : ∀ q, q < 100 + 166 * p.1.2.1.length → lnF v it' (100 + 166 * p.1.2.1.length) (pIts p.2.2).length (nI i) (nI j) (eN o) q = v q := fun q hq => lnF_out i80 (Or.inl hq)
              have hv1' : lnF v it' (100 + 166 * p.1.2.1.length) (pIts p.2.2).length (nI i) (nI j) (eN o) 1 = nI p.1.2.1.length := by rw [out 1 (by omega)]; exact hv1
              have el : (p.1.2.1 ++ [((i, j, o, none, pIts p.2.2) : Ln)]).length = p.1.2.1.length + 1 := by rw [List.length_append]; rfl
              have eA : actN p.2.1.length = (kept p.2.1 p.1).length := kept_len2.symm
              refine ⟨(mkM h0 M (upd (lnF v it' (100 + 166 * p.1.2.1.length) (pIts p.2.2).length (nI i) (nI j) (eN o)) 1 (nI (p.1.2.1.length + 1))) (actP pa v p.2.1.length) (nI (actN p.2.1.length)) fl tx (nI 0) ct' wr' it' (nI (pIts p.2.2).length) sg sm lat hat sy nw os hgh pl asd lks), mkM_same, ?_, fun Q => ?_⟩
              · rw [eA]
                refine rM.mk (p := ((p.1.1, p.1.2.1 ++ [(i, j, o, none, pIts p.2.2)], p.1.2.2), kept p.2.1 p.1, [])) ⟨hS.of h10 (fun q hq => by rw [upd_off (by omega), out q (by omega)]), by rw [upd_at, ← el], by rw [upd_off (by omega), out 2 (by omega)]; exact hv.2.2.1, fun z x hx => ?_⟩ (hp.act hv hw.1 hw.2.1 hw.2.2.1) (fun i c hc => by cases hc)
                have hx : (p.1.2.1 ++ [((i, j, o, none, pIts p.2.2) : Ln)])[z]? = some x := hx
                have hzl := (List.getElem?_eq_some_iff.mp hx).1
                rw [el] at hzl
                by_cases c : z = p.1.2.1.length
                · subst c
                  rw [List.getElem?_append_right (Nat.le_refl _), Nat.sub_self] at hx
                  cases hx
                  exact (lnF_enc r4).of i80 (fun q q1 q2 => upd_off (by omega))
                · rw [List.getElem?_append_left (by omega)] at hx
                  exact (hv.2.2.2 z x hx).of (hw.1.2.1.2 x (List.mem_of_getElem? hx)).2.2.2.2.1 (fun q q1 q2 => by rw [upd_off (by omega), out q (by omega)])
              · have hv1' : pst (upd (upd (upd (upd (upd v (100 + 166 * p.1.2.1.length + 0) (nI i)) (100 + 166 * p.1.2.1.length + 1) (nI j)) (100 + 166 * p.1.2.1.length + 2) (eN o)) (100 + 166 * p.1.2.1.length + 3) (-1)) (100 + 166 * p.1.2.1.length + 4) (nI (pIts p.2.2).length)) it' (100 + 166 * p.1.2.1.length + 5) (2 * (pIts p.2.2).length) 1 = nI p.1.2.1.length := hv1'
                rw [eX10_line]
                simp (disch := (first | omega | assumption | (simp (disch := omega) only [Int32.lt_iff_toInt_lt, Int32.le_iff_toInt_le, ← Int32.toInt_inj, nI_toInt, zi_m1, zi_m2, zi_m3, zi_m9]; omega) | decide)) only [sX10_line_0, sX10_line_1, sX10_line_2, sX10_line_4, sX10_line_7, sX10_line_10, sX10_line_11, sX10_line_12, sX10_line_15, sX10_line_16, sX10_line_18, sX10_line_21, sX10_line_22, sX10_line_23, sX10_line_26, sX10_line_29, sX10_line_30, sX10_line_31, sX10_line_32, sX10_line_35, sX10_line_36, sX10_line_37, sX10_line_39, sX10_line_42, sX10_line_44, sX10_line_45, sX10_line_46, sX10_line_49i, sX10_line_49r, sX10_line_49z, sX10_line_49o, sX10_line_51, sX10_line_53, sX10_line_56, sX10_line_58, sX10_line_60, sX10_line_61, sX10_line_62, sX10_line_63, sX10_line_66, sX10_line_67, sX10_line_70, sX10_line_71, sX10_line_72, sX10_line_75i, sX10_line_75r, sX10_line_75z, sX10_line_75o, sX10_line_77, sX10_line_78, sX10_line_81, sX10_line_83, sX10_line_84, sX10_line_85, sX10_line_86, sX10_line_87, sX10_line_88, sX10_line_91, sX10_line_93, sX10_line_94, sX10_line_95, sX10_line_96, sX10_line_97, sX10_line_98, sX10_line_101, sX10_line_103, sX10_line_104, sX10_line_105, sX10_line_106, sX10_line_107, sX10_line_108, sX10_line_111, sX10_line_113, sX10_line_114, sX10_line_115, sX10_line_116, sX10_line_117, sX10_line_118, sX10_line_121, sX10_line_123, sX10_line_124, sX10_line_125, sX10_line_126, sX10_line_129, sX10_line_130, sX10_line_131i, sX10_line_131r, sX10_line_131z, sX10_line_131o, sX10_line_169, sX10_line_170, sX10_line_173, sX10_line_174, sX10_line_175, sX10_line_176, sX10_line_177, sX10_line_178, sX10_line_179, sX10_line_180, sX10_line_181, sX10_line_184, sX10_line_185, sX10_line_188, sX10_line_189, sX10_line_190, sX10_line_191, sX10_line_192, mCk, mG0, mG1, mG2, mG3, mG4, mG5, mG6, mG7, mG8, mG9, mG10, mG11, mG12, mG13, mG14, mG15, mG16, mG17, mG18, mG19, mG20, mP2, mP5, mP6, mP7, mP9, mP11, mP14, mA1, mS1, mA2, mS2, mA3, mS3, mA4, mS4, mA5, mS5, mA6, mS6, mA7, mS7, mA8, mS8, mA9, mS9, mA10, mS10, mA11, mS11, mA12, mS12, mA13, mS13, mA14, mS14, zpush_v, zpush_n, gCk, gAi, gSi, gSz, gLi, gLq, ↓if_pos, ↓if_neg, I, wv, hv1, r2, m_act h5, m_lineAt, nI_add, l_line0 i80 (show 100 + 166 * p.1.2.1.length + 166 ≤ 2760 by omega), hv1', upd_at, nI_sub, Nat.add_sub_cancel]
                rfl
        rcases dO_cases p.1.1.1 s (by omega) with ⟨rfl, e3⟩ | ⟨k2, hk2, rfl, e3⟩ | ⟨⟨g1, g2⟩, e3⟩
        · rw [e3]
          exact good none rfl (fun q hq => by cases hq) (fun Q => isSN_n Q)
        · rw [e3]
          exact good (some k2) rfl (fun q hq => by cases hq; exact hk2) (fun Q => isSN_t hS.1 h10 hk2 Q)
        · rw [e3]
          refine bad (fun Q => ?_)
          rw [eX10_line]
          simp (disch := (first | omega | assumption | (simp (disch := omega) only [Int32.lt_iff_toInt_lt, Int32.le_iff_toInt_le, ← Int32.toInt_inj, nI_toInt, zi_m1, zi_m2, zi_m3, zi_m9]; omega) | decide)) only [sX10_line_0, sX10_line_1, sX10_line_2, sX10_line_4, sX10_line_7, sX10_line_10, sX10_line_11, sX10_line_12, sX10_line_15, sX10_line_16, sX10_line_18, sX10_line_21, sX10_line_22, sX10_line_23, sX10_line_26, sX10_line_29, sX10_line_30, mCk, mG0, mG1, mG2, mG3, mG4, mG5, mG6, mG7, mG8, mG9, mG10, mG11, mG12, mG13, mG14, mG15, mG16, mG17, mG18, mG19, mG20, mP2, mP5, mP6, mP7, mP9, mP11, mP14, mA1, mS1, mA2, mS2, mA3, mS3, mA4, mS4, mA5, mS5, mA6, mS6, mA7, mS7, mA8, mS8, mA9, mS9, mA10, mS10, mA11, mS11, mA12, mS12, mA13, mS13, mA14, mS14, zpush_v, zpush_n, gCk, gAi, gSi, gSz, gLi, gLq, ↓if_pos, ↓if_neg, I, isSN_f hS.1 h10 g2 g1]
    · rw [e2]
      refine bad (fun Q => ?_)
      rw [eX10_line]
      by_cases k1 : e ≤ nI i
      · simp (disch := (first | omega | assumption | (simp (disch := omega) only [Int32.lt_iff_toInt_lt, Int32.le_iff_toInt_le, ← Int32.toInt_inj, nI_toInt, zi_m1, zi_m2, zi_m3, zi_m9]; omega) | decide)) only [sX10_line_0, sX10_line_1, sX10_line_2, sX10_line_4, sX10_line_7, sX10_line_10, sX10_line_11, sX10_line_12, sX10_line_15, sX10_line_16, sX10_line_18, sX10_line_21, sX10_line_22, sX10_line_23, sX10_line_26, sX10_line_29, sX10_line_30, mCk, mG0, mG1, mG2, mG3, mG4, mG5, mG6, mG7, mG8, mG9, mG10, mG11, mG12, mG13, mG14, mG15, mG16, mG17, mG18, mG19, mG20, mP2, mP5, mP6, mP7, mP9, mP11, mP14, mA1, mS1, mA2, mS2, mA3, mS3, mA4, mS4, mA5, mS5, mA6, mS6, mA7, mS7, mA8, mS8, mA9, mS9, mA10, mS10, mA11, mS11, mA12, mS12, mA13, mS13, mA14, mS14, zpush_v, zpush_n, gCk, gAi, gSi, gSz, gLi, gLq, ↓if_pos, ↓if_neg, I]
      · have k2 : nI 100000 < e := by
          rcases g with g | g
          · exfalso
            apply k1
            refine Int32.le_trans (Int32.le_of_lt g) (nI_le (by omega) (by omega))
          · exact g
        simp (disch := (first | omega | assumption | (simp (disch := omega) only [Int32.lt_iff_toInt_lt, Int32.le_iff_toInt_le, ← Int32.toInt_inj, nI_toInt, zi_m1, zi_m2, zi_m3, zi_m9]; omega) | decide)) only [sX10_line_0, sX10_line_1, sX10_line_2, sX10_line_4, sX10_line_7, sX10_line_10, sX10_line_11, sX10_line_12, sX10_line_15, sX10_line_16, sX10_line_18, sX10_line_21, sX10_line_22, sX10_line_23, sX10_line_26, sX10_line_29, sX10_line_30, mCk, mG0, mG1, mG2, mG3, mG4, mG5, mG6, mG7, mG8, mG9, mG10, mG11, mG12, mG13, mG14, mG15, mG16, mG17, mG18, mG19, mG20, mP2, mP5, mP6, mP7, mP9, mP11, mP14, mA1, mS1, mA2, mS2, mA3, mS3, mA4, mS4, mA5, mS5, mA6, mS6, mA7, mS7, mA8, mS8, mA9, mS9, mA10, mS10, mA11, mS11, mA12, mS12, mA13, mS13, mA14, mS14, zpush_v, zpush_n, gCk, gAi, gSi, gSz, gLi, gLq, ↓if_pos, ↓if_neg, I]
  · rw [e1]
    refine bad (fun Q => ?_)
    rw [eX10_line]
    simp (disch := (first | omega | assumption | (simp (disch := omega) only [Int32.lt_iff_toInt_lt, Int32.le_iff_toInt_le, ← Int32.toInt_inj, nI_toInt, zi_m1, zi_m2, zi_m3, zi_m9]; omega) | decide)) only [sX10_line_0, sX10_line_1, sX10_line_2, sX10_line_4, sX10_line_7, sX10_line_10, sX10_line_11, sX10_line_12, sX10_line_15, sX10_line_16, sX10_line_18, sX10_line_21, sX10_line_22, sX10_line_23, sX10_line_26, sX10_line_29, sX10_line_30, mCk, mG0, mG1, mG2, mG3, mG4, mG5, mG6, mG7, mG8, mG9, mG10, mG11, mG12, mG13, mG14, mG15, mG16, mG17, mG18, mG19, mG20, mP2, mP5, mP6, mP7, mP9, mP11, mP14, mA1, mS1, mA2, mS2, mA3, mS3, mA4, mS4, mA5, mS5, mA6, mS6, mA7, mS7, mA8, mS8, mA9, mS9, mA10, mS10, mA11, mS11, mA12, mS12, mA13, mS13, mA14, mS14, zpush_v, zpush_n, gCk, gAi, gSi, gSz, gLi, gLq, ↓if_pos, ↓if_neg, in_f g]
end MG
