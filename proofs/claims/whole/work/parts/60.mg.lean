/-! the model: lines are changed -/
theorem encV.ln {v w : Nat → Int32} {st : Stt} {i : Nat} {ln : Ln} (h : encV v st) (hw : WfSt st) (hl : encL w (100 + 166 * i) ln) (e : ∀ q, (q < 100 + 166 * i ∨ 100 + 166 * i + 166 ≤ q) → w q = v q) : encV w (putL st i ln) := by
  obtain ⟨h1, h2, h3, h4⟩ := h
  refine ⟨h1.of hw.1.1 (fun q hq => e q (by omega)), by rw [e _ (by omega)]; show v 1 = nI (st.2.1.set i ln).length; rw [List.length_set]; exact h2, by rw [e _ (by omega)]; exact h3, fun j x hx => ?_⟩
  have hx : (st.2.1.set i ln)[j]? = some x := hx
  have hl2 := (List.getElem?_eq_some_iff.mp hx).1
  rw [List.length_set] at hl2
  by_cases c : j = i
  · subst c
    rw [List.getElem?_set_self hl2] at hx
    cases hx
    exact hl
  · rw [List.getElem?_set_ne (Ne.symm c)] at hx
    exact (h4 j x hx).of (hw.2.1.2 x (List.mem_of_getElem? hx)).2.2.2.2.1 (fun q q1 q2 => e q (by omega))
section MG
variable {h0 : Hp} {M : Nat} {v pa fl tx it sg lat hat nw os hgh pl asd lks : Nat → Int32} {pm ty ct wr im sm sy : Int32}
variable {p : PS} {h : Hp}
theorem y_setHeight (hr : rM h M p) (hw : WfP p) (x : Int32) : ∃ h', Same h h' M 15 ∧ rM h' M (opSetHeight p x).1 ∧ ∀ Q : Option Value → Hp → Prop, WPm 142 [.ref M, .int x] h Q = Q (some (.int (opSetHeight p x).2)) h' := by
  obtain ⟨h0, v, pa, fl, tx, it, sg, lat, hat, nw, os, hgh, pl, asd, lks, ct, wr, im, sm, sy, rfl, hv, hp, ht⟩ := id hr
  have h5 := hw.2.2.1
  have h16 := hw.1.2.1.1
  unfold opSetHeight
  rcases dR_cases 50 2000 x (by omega) (by omega) with ⟨k, hk, rfl, e⟩ | ⟨g, e⟩
  · rw [e]
    simp only
    have i := fun (h : Hp) => in_n (h := h) (k := k) (a := 50) (b := 2000) (by omega) (by omega) (by omega)
    rw [bI_t hk] at i
    have hv2 := hv.2.2.1
    refine ⟨(mkM h0 M (upd v 2 (nI k)) (actP pa v p.2.1.length) (nI (actN p.2.1.length)) fl tx (nI p.2.2.length) ct wr it im sg sm lat hat sy nw os hgh pl asd lks), mkM_same, rM.kp hv hp ht hw ⟨hv.1.of hw.1.1.1 (fun q hq => upd_off (by omega)), by rw [upd_off (by omega)]; exact hv.2.1, upd_at, fun i x hx => ?_⟩, fun Q => ?_⟩
    · have := (List.getElem?_eq_some_iff.mp hx).1
      exact (hv.2.2.2 i x hx).of (hw.1.2.1.2 x (List.mem_of_getElem? hx)).2.2.2.2.1 (fun q q1 q2 => upd_off (by omega))
    · rw [eX10_setHeight]
      simp (disch := (first | omega | assumption | (simp (disch := omega) only [Int32.lt_iff_toInt_lt, Int32.le_iff_toInt_le, ← Int32.toInt_inj, nI_toInt, zi_m1, zi_m2, zi_m3, zi_m9]; omega) | decide)) only [sX10_setHeight_0, sX10_setHeight_1, sX10_setHeight_3, sX10_setHeight_6, sX10_setHeight_9, sX10_setHeight_12, sX10_setHeight_13, sX10_setHeight_14, sX10_setHeight_15, sX10_setHeight_18, sX10_setHeight_21, sX10_setHeight_22, mCk, mG0, mG1, mG2, mG3, mG4, mG5, mG6, mG7, mG8, mG9, mG10, mG11, mG12, mG13, mG14, mG15, mG16, mG17, mG18, mG19, mG20, mP2, mP5, mP6, mP7, mP9, mP11, mP14, mA1, mS1, mA2, mS2, mA3, mS3, mA4, mS4, mA5, mS5, mA6, mS6, mA7, mS7, mA8, mS8, mA9, mS9, mA10, mS10, mA11, mS11, mA12, mS12, mA13, mS13, mA14, mS14, zpush_v, zpush_n, gCk, gAi, gSi, gSz, gLi, gLq, ↓if_pos, ↓if_neg, i, m_sets h5, hv2]
  · rw [e]
    refine ⟨_, Same.rf, hr, fun Q => ?_⟩
    rw [eX10_setHeight]
    simp (disch := (first | omega | assumption | (simp (disch := omega) only [Int32.lt_iff_toInt_lt, Int32.le_iff_toInt_le, ← Int32.toInt_inj, nI_toInt, zi_m1, zi_m2, zi_m3, zi_m9]; omega) | decide)) only [sX10_setHeight_0, sX10_setHeight_1, sX10_setHeight_3, sX10_setHeight_6, sX10_setHeight_9, sX10_setHeight_12, sX10_setHeight_13, sX10_setHeight_14, sX10_setHeight_15, sX10_setHeight_18, sX10_setHeight_21, sX10_setHeight_22, mCk, mG0, mG1, mG2, mG3, mG4, mG5, mG6, mG7, mG8, mG9, mG10, mG11, mG12, mG13, mG14, mG15, mG16, mG17, mG18, mG19, mG20, mP2, mP5, mP6, mP7, mP9, mP11, mP14, mA1, mS1, mA2, mS2, mA3, mS3, mA4, mS4, mA5, mS5, mA6, mS6, mA7, mS7, mA8, mS8, mA9, mS9, mA10, mS10, mA11, mS11, mA12, mS12, mA13, mS13, mA14, mS14, zpush_v, zpush_n, gCk, gAi, gSi, gSz, gLi, gLq, ↓if_pos, ↓if_neg, in_f g]
theorem l_undo {n : Nat} (hn : n < 5) (Q : Option Value → Hp → Prop) : ∀ (m i : Nat), m + i = 2760 → WP 170 22 [some (.ref M), some (.int (nI i))] [] (mkM h0 M (pst v (fun q => pa (2760 * n + q)) 0 i) pa (nI n) fl tx ty ct wr it im sg sm lat hat sy nw os hgh pl asd lks) Q = Q (some (.int (nI n))) (mkM h0 M (pst v (fun q => pa (2760 * n + q)) 0 2760) pa (nI n) fl tx ty ct wr it im sg sm lat hat sy nw os hgh pl asd lks) := by
  intro m
  induction m with
  | zero =>
    intro i hi
    have hi : i = 2760 := by omega
    subst hi
    rw [sX10_undo_22]
    simp (disch := (first | omega | assumption | (simp (disch := omega) only [Int32.lt_iff_toInt_lt, Int32.le_iff_toInt_le, ← Int32.toInt_inj, nI_toInt, zi_m1, zi_m2, zi_m3, zi_m9]; omega) | decide)) only [sX10_undo_23, sX10_undo_26, sX10_undo_56, sX10_undo_57, sX10_undo_60, mCk, mG0, mG1, mG2, mG3, mG4, mG5, mG6, mG7, mG8, mG9, mG10, mG11, mG12, mG13, mG14, mG15, mG16, mG17, mG18, mG19, mG20, mP2, mP5, mP6, mP7, mP9, mP11, mP14, mA1, mS1, mA2, mS2, mA3, mS3, mA4, mS4, mA5, mS5, mA6, mS6, mA7, mS7, mA8, mS8, mA9, mS9, mA10, mS10, mA11, mS11, mA12, mS12, mA13, mS13, mA14, mS14, zpush_v, zpush_n, gCk, gAi, gSi, gSz, gLi, gLq, ↓if_pos, ↓if_neg]
  | succ m ih =>
    intro i hi
    have e := pst_step v (fun q => pa (2760 * n + q)) 0 i
    rw [Nat.zero_add] at e
    rw [← ih (i + 1) (by omega), sX10_undo_22]
    simp (disch := (first | omega | assumption | (simp (disch := omega) only [Int32.lt_iff_toInt_lt, Int32.le_iff_toInt_le, ← Int32.toInt_inj, nI_toInt, zi_m1, zi_m2, zi_m3, zi_m9]; omega) | decide)) only [sX10_undo_23, sX10_undo_26, sX10_undo_29, sX10_undo_30, sX10_undo_33, sX10_undo_34, sX10_undo_35, sX10_undo_38, sX10_undo_41, sX10_undo_42, sX10_undo_45, sX10_undo_46, sX10_undo_47, sX10_undo_48, sX10_undo_49, sX10_undo_50i, sX10_undo_50r, sX10_undo_50z, sX10_undo_50o, sX10_undo_53, mCk, mG0, mG1, mG2, mG3, mG4, mG5, mG6, mG7, mG8, mG9, mG10, mG11, mG12, mG13, mG14, mG15, mG16, mG17, mG18, mG19, mG20, mP2, mP5, mP6, mP7, mP9, mP11, mP14, mA1, mS1, mA2, mS2, mA3, mS3, mA4, mS4, mA5, mS5, mA6, mS6, mA7, mS7, mA8, mS8, mA9, mS9, mA10, mS10, mA11, mS11, mA12, mS12, mA13, mS13, mA14, mS14, zpush_v, zpush_n, gCk, gAi, gSi, gSz, gLi, gLq, ↓if_pos, ↓if_neg, nI_add, nI_mul, e]
theorem y_undo (hr : rM h M p) (hw : WfP p) : ∃ h', Same h h' M 15 ∧ rM h' M (opUndo p).1 ∧ ∀ Q : Option Value → Hp → Prop, WPm 170 [.ref M] h Q = Q (some (.int (opUndo p).2)) h' := by
  obtain ⟨h0, v, pa, fl, tx, it, sg, lat, hat, nw, os, hgh, pl, asd, lks, ct, wr, im, sm, sy, rfl, hv, hp, ht⟩ := id hr
  have h5 := hw.2.2.1
  unfold opUndo
  cases hl : p.2.1.getLast? with
  | none =>
    have e : p.2.1 = [] := List.getLast?_eq_none_iff.mp hl
    have e2 : p.2.1.length = 0 := by rw [e]; rfl
    refine ⟨_, Same.rf, hr, fun Q => ?_⟩
    rw [e2, eX10_undo]
    simp (disch := (first | omega | assumption | (simp (disch := omega) only [Int32.lt_iff_toInt_lt, Int32.le_iff_toInt_le, ← Int32.toInt_inj, nI_toInt, zi_m1, zi_m2, zi_m3, zi_m9]; omega) | decide)) only [sX10_undo_0, sX10_undo_1, sX10_undo_4, sX10_undo_7, sX10_undo_9, mCk, mG0, mG1, mG2, mG3, mG4, mG5, mG6, mG7, mG8, mG9, mG10, mG11, mG12, mG13, mG14, mG15, mG16, mG17, mG18, mG19, mG20, mP2, mP5, mP6, mP7, mP9, mP11, mP14, mA1, mS1, mA2, mS2, mA3, mS3, mA4, mS4, mA5, mS5, mA6, mS6, mA7, mS7, mA8, mS8, mA9, mS9, mA10, mS10, mA11, mS11, mA12, mS12, mA13, mS13, mA14, mS14, zpush_v, zpush_n, gCk, gAi, gSi, gSz, gLi, gLq, ↓if_pos, ↓if_neg]
  | some st =>
    have hne : p.2.1 ≠ [] := fun q => by rw [q] at hl; cases hl
    have e : p.2.1 = p.2.1.dropLast ++ [st] := by
      have a := List.dropLast_concat_getLast hne
      rw [List.getLast?_eq_some_getLast hne] at hl
      cases hl
      exact a.symm
    have el : p.2.1.length = p.2.1.dropLast.length + 1 := by
      have := congrArg List.length e
      rw [List.length_append] at this
      exact this
    have hms : st ∈ p.2.1 := by rw [e]; exact List.mem_append_right _ (List.mem_singleton_self _)
    have wst := hw.2.1 st hms
    have hlast : p.2.1[p.2.1.dropLast.length]? = some st := by
      rw [e, List.getElem?_append_right (by rw [List.dropLast_concat]; exact Nat.le_refl _), List.dropLast_concat, Nat.sub_self]
      rfl
    simp only
    refine ⟨(mkM h0 M (pst v (fun q => pa (2760 * p.2.1.dropLast.length + q)) 0 2760) pa (nI p.2.1.dropLast.length) fl tx (nI p.2.2.length) ct wr it im sg sm lat hat sy nw os hgh pl asd lks), mkM_same, rM.mk (p := (st, p.2.1.dropLast, p.2.2)) ?_ ?_ ht, fun Q => ?_⟩
    · refine (hp _ st hlast).of wst (fun q hq => ?_)
      unfold pst
      rw [if_pos (by omega), Nat.sub_zero]
    · intro k x hx
      have hk := (List.getElem?_eq_some_iff.mp hx).1
      refine hp k x ?_
      rw [e, List.getElem?_append_left hk]
      exact hx
    · have L := fun Q => l_undo (h0 := h0) (M := M) (v := v) (pa := pa) (pm := pm) (fl := fl) (tx := tx) (ty := nI p.2.2.length) (ct := ct) (wr := wr) (it := it) (im := im) (sg := sg) (sm := sm) (lat := lat) (hat := hat) (sy := sy) (nw := nw) (os := os) (hgh := hgh) (pl := pl) (asd := asd) (lks := lks) (n := p.2.1.dropLast.length) (by omega) Q 2760 0 rfl
      rw [pst_0] at L
      rw [el, Nat.add_sub_cancel, eX10_undo]
      simp (disch := (first | omega | assumption | (simp (disch := omega) only [Int32.lt_iff_toInt_lt, Int32.le_iff_toInt_le, ← Int32.toInt_inj, nI_toInt, zi_m1, zi_m2, zi_m3, zi_m9]; omega) | decide)) only [sX10_undo_0, sX10_undo_1, sX10_undo_4, sX10_undo_7, sX10_undo_9, sX10_undo_10, sX10_undo_11, sX10_undo_11i, sX10_undo_12, sX10_undo_15, sX10_undo_16, sX10_undo_17, sX10_undo_20, sX10_undo_21i, sX10_undo_21r, sX10_undo_21z, sX10_undo_21o, mCk, mG0, mG1, mG2, mG3, mG4, mG5, mG6, mG7, mG8, mG9, mG10, mG11, mG12, mG13, mG14, mG15, mG16, mG17, mG18, mG19, mG20, mP2, mP5, mP6, mP7, mP9, mP11, mP14, mA1, mS1, mA2, mS2, mA3, mS3, mA4, mS4, mA5, mS5, mA6, mS6, mA7, mS7, mA8, mS8, mA9, mS9, mA10, mS10, mA11, mS11, mA12, mS12, mA13, mS13, mA14, mS14, zpush_v, zpush_n, gCk, gAi, gSi, gSz, gLi, gLq, ↓if_pos, ↓if_neg, nI_sub, Nat.add_sub_cancel]
      exact L Q
theorem y_change (hr : rM h M p) (hw : WfP p) (l w x : Int32) : ∃ h', Same h h' M 15 ∧ rM h' M (opChange p l w x).1 ∧ ∀ Q : Option Value → Hp → Prop, WPm 140 [.ref M, .int l, .int w, .int x] h Q = Q (some (.int (opChange p l w x).2)) h' := by
  obtain ⟨h0, v, pa, fl, tx, it, sg, lat, hat, nw, os, hgh, pl, asd, lks, ct, wr, im, sm, sy, rfl, hv, hp, ht⟩ := id hr
  have hws := hw.1.1
  have h10 := hws.1
  have hS := hv.1
  have h5 := hw.2.2.1
  have h16 := hw.1.2.1.1
  have hv1 := hv.2.1
  unfold opChange
  have inF : ∀ (h : Hp) (x : Int32), ¬ x = -1 → (x < nI 0 ∨ nI 200 < x) → ∀ Q : Option Value → Hp → Prop, WPm 108 [.int x, .int (-1), .int (nI 200)] h Q = Q (some (.int (nI 0))) h := by
    intro h x hx g Q
    refine in_f ?_ Q
    rcases g with g | g
    · left
      have hx : ¬ x.toInt = -1 := fun q => hx (Int32.toInt_inj.mp (by rw [q, zi_m1]))
      rw [Int32.lt_iff_toInt_lt, nI_toInt (by omega)] at g
      rw [Int32.lt_iff_toInt_lt, zi_m1]
      omega
    · exact Or.inr g
  have inN : ∀ (h : Hp) (Q : Option Value → Hp → Prop), WPm 108 [.int (-1), .int (-1), .int (nI 200)] h Q = Q (some (.int (nI 1))) h := fun h Q => in_t ⟨by decide, by decide⟩ Q
  have inT : ∀ (h : Hp) (k : Nat), k ≤ 200 → ∀ Q : Option Value → Hp → Prop, WPm 108 [.int (nI k), .int (-1), .int (nI 200)] h Q = Q (some (.int (nI 1))) h := by
    intro h k hk Q
    refine in_t ⟨?_, nI_le hk (by omega)⟩ Q
    rw [Int32.le_iff_toInt_le, nI_toInt (by omega), zi_m1]
    omega
  rcases dN_cases p.1.2.1.length l (by omega) with ⟨i, hi, rfl, e⟩ | ⟨g, e⟩
  · rw [e]
    simp only
    have eL := encL.at hv.2.2.2 hi
    have wl := hw.1.mem _ (lnA_mem hi)
    have i80 := wl.1.2.2.2.2.1
    rcases dN_cases 2 w (by omega) with ⟨k, hk, rfl, e2⟩ | ⟨g2, e2⟩
    · rw [e2]
      have : k = 0 ∨ k = 1 := by omega
      rcases this with rfl | rfl
      · simp only
        have a2 := eL.2.2.1
        have good : ∀ o : Option Nat, encV (upd v (100 + 166 * i + 2) (eN o)) (putL p.1 i ((lnA p.1.2.1 i).1, (lnA p.1.2.1 i).2.1, o, (lnA p.1.2.1 i).2.2.2.1, (lnA p.1.2.1 i).2.2.2.2)) := by
          intro o
          refine hv.ln hw.1 ?_ (fun q hq => upd_off (by omega))
          obtain ⟨b1, b2, b3, b4, b5, b6⟩ := eL
          refine ⟨by rw [upd_off (by omega)]; exact b1, by rw [upd_off (by omega)]; exact b2, upd_at, by rw [upd_off (by omega)]; exact b4, by rw [upd_off (by omega)]; exact b5, fun j x hx => by rw [upd_off (by omega), upd_off (by omega)]; exact b6 j x hx⟩
        rcases dO_cases p.1.1.1 x (by omega) with ⟨rfl, e3⟩ | ⟨k2, hk2, rfl, e3⟩ | ⟨⟨g1, g2⟩, e3⟩
        · rw [e3]
          refine ⟨(mkM h0 M (upd v (100 + 166 * i + 2) (eN none)) (actP pa v p.2.1.length) (nI (actN p.2.1.length)) fl tx (nI p.2.2.length) ct wr it im sg sm lat hat sy nw os hgh pl asd lks), mkM_same, rM.kp hv hp ht hw (good none), fun Q => ?_⟩
          rw [eX10_change]
          simp (disch := (first | omega | assumption | (simp (disch := omega) only [Int32.lt_iff_toInt_lt, Int32.le_iff_toInt_le, ← Int32.toInt_inj, nI_toInt, zi_m1, zi_m2, zi_m3, zi_m9]; omega) | decide)) only [sX10_change_0, sX10_change_1, sX10_change_4, sX10_change_5, sX10_change_6, sX10_change_9, sX10_change_12, sX10_change_13, sX10_change_14, sX10_change_17, sX10_change_18, sX10_change_19, sX10_change_22, sX10_change_25, sX10_change_28, sX10_change_29, sX10_change_32, sX10_change_33i, sX10_change_33r, sX10_change_33z, sX10_change_33o, sX10_change_35, sX10_change_36, sX10_change_37, sX10_change_40, sX10_change_43, sX10_change_45, sX10_change_48, sX10_change_49, sX10_change_50, sX10_change_53, sX10_change_54, sX10_change_55, sX10_change_56, sX10_change_57, sX10_change_58, sX10_change_61, sX10_change_64, sX10_change_65, mCk, mG0, mG1, mG2, mG3, mG4, mG5, mG6, mG7, mG8, mG9, mG10, mG11, mG12, mG13, mG14, mG15, mG16, mG17, mG18, mG19, mG20, mP2, mP5, mP6, mP7, mP9, mP11, mP14, mA1, mS1, mA2, mS2, mA3, mS3, mA4, mS4, mA5, mS5, mA6, mS6, mA7, mS7, mA8, mS8, mA9, mS9, mA10, mS10, mA11, mS11, mA12, mS12, mA13, mS13, mA14, mS14, zpush_v, zpush_n, gCk, gAi, gSi, gSz, gLi, gLq, ↓if_pos, ↓if_neg, isLn_t hv1 h16 hi, isSN_n, m_lineAt, nI_add, Nat.add_zero, m_sets h5, a2, eN_n]
        · rw [e3]
          refine ⟨(mkM h0 M (upd v (100 + 166 * i + 2) (eN (some k2))) (actP pa v p.2.1.length) (nI (actN p.2.1.length)) fl tx (nI p.2.2.length) ct wr it im sg sm lat hat sy nw os hgh pl asd lks), mkM_same, rM.kp hv hp ht hw (good (some k2)), fun Q => ?_⟩
          rw [eX10_change]
          simp (disch := (first | omega | assumption | (simp (disch := omega) only [Int32.lt_iff_toInt_lt, Int32.le_iff_toInt_le, ← Int32.toInt_inj, nI_toInt, zi_m1, zi_m2, zi_m3, zi_m9]; omega) | decide)) only [sX10_change_0, sX10_change_1, sX10_change_4, sX10_change_5, sX10_change_6, sX10_change_9, sX10_change_12, sX10_change_13, sX10_change_14, sX10_change_17, sX10_change_18, sX10_change_19, sX10_change_22, sX10_change_25, sX10_change_28, sX10_change_29, sX10_change_32, sX10_change_33i, sX10_change_33r, sX10_change_33z, sX10_change_33o, sX10_change_35, sX10_change_36, sX10_change_37, sX10_change_40, sX10_change_43, sX10_change_45, sX10_change_48, sX10_change_49, sX10_change_50, sX10_change_53, sX10_change_54, sX10_change_55, sX10_change_56, sX10_change_57, sX10_change_58, sX10_change_61, sX10_change_64, sX10_change_65, mCk, mG0, mG1, mG2, mG3, mG4, mG5, mG6, mG7, mG8, mG9, mG10, mG11, mG12, mG13, mG14, mG15, mG16, mG17, mG18, mG19, mG20, mP2, mP5, mP6, mP7, mP9, mP11, mP14, mA1, mS1, mA2, mS2, mA3, mS3, mA4, mS4, mA5, mS5, mA6, mS6, mA7, mS7, mA8, mS8, mA9, mS9, mA10, mS10, mA11, mS11, mA12, mS12, mA13, mS13, mA14, mS14, zpush_v, zpush_n, gCk, gAi, gSi, gSz, gLi, gLq, ↓if_pos, ↓if_neg, isLn_t hv1 h16 hi, isSN_t hS.1 h10 hk2, m_lineAt, nI_add, Nat.add_zero, m_sets h5, a2, eN_s]
        · rw [e3]
          refine ⟨_, Same.rf, hr, fun Q => ?_⟩
          rw [eX10_change]
          simp (disch := (first | omega | assumption | (simp (disch := omega) only [Int32.lt_iff_toInt_lt, Int32.le_iff_toInt_le, ← Int32.toInt_inj, nI_toInt, zi_m1, zi_m2, zi_m3, zi_m9]; omega) | decide)) only [sX10_change_0, sX10_change_1, sX10_change_4, sX10_change_5, sX10_change_6, sX10_change_9, sX10_change_12, sX10_change_13, sX10_change_14, sX10_change_17, sX10_change_18, sX10_change_19, sX10_change_22, sX10_change_25, sX10_change_28, sX10_change_29, sX10_change_32, sX10_change_33i, sX10_change_33r, sX10_change_33z, sX10_change_33o, sX10_change_35, sX10_change_36, sX10_change_37, sX10_change_40, sX10_change_43, sX10_change_45, sX10_change_48, sX10_change_49, sX10_change_50, sX10_change_53, sX10_change_54, sX10_change_55, sX10_change_56, sX10_change_57, sX10_change_58, sX10_change_61, sX10_change_64, sX10_change_65, mCk, mG0, mG1, mG2, mG3, mG4, mG5, mG6, mG7, mG8, mG9, mG10, mG11, mG12, mG13, mG14, mG15, mG16, mG17, mG18, mG19, mG20, mP2, mP5, mP6, mP7, mP9, mP11, mP14, mA1, mS1, mA2, mS2, mA3, mS3, mA4, mS4, mA5, mS5, mA6, mS6, mA7, mS7, mA8, mS8, mA9, mS9, mA10, mS10, mA11, mS11, mA12, mS12, mA13, mS13, mA14, mS14, zpush_v, zpush_n, gCk, gAi, gSi, gSz, gLi, gLq, ↓if_pos, ↓if_neg, isLn_t hv1 h16 hi, isSN_f hS.1 h10 g2 g1]
      · simp only
        have a2 := eL.2.2.2.1
        have good : ∀ o : Option Nat, encV (upd v (100 + 166 * i + 3) (eN o)) (putL p.1 i ((lnA p.1.2.1 i).1, (lnA p.1.2.1 i).2.1, (lnA p.1.2.1 i).2.2.1, o, (lnA p.1.2.1 i).2.2.2.2)) := by
          intro o
          refine hv.ln hw.1 ?_ (fun q hq => upd_off (by omega))
          obtain ⟨b1, b2, b3, b4, b5, b6⟩ := eL
          refine ⟨by rw [upd_off (by omega)]; exact b1, by rw [upd_off (by omega)]; exact b2, by rw [upd_off (by omega)]; exact b3, upd_at, by rw [upd_off (by omega)]; exact b5, fun j x hx => by rw [upd_off (by omega), upd_off (by omega)]; exact b6 j x hx⟩
        rcases dV_cases 5 x with ⟨rfl, e3⟩ | ⟨k2, hk2, rfl, e3⟩ | ⟨⟨g1, g2⟩, e3⟩
        · rw [e3]
          refine ⟨(mkM h0 M (upd v (100 + 166 * i + 3) (eN none)) (actP pa v p.2.1.length) (nI (actN p.2.1.length)) fl tx (nI p.2.2.length) ct wr it im sg sm lat hat sy nw os hgh pl asd lks), mkM_same, rM.kp hv hp ht hw (good none), fun Q => ?_⟩
          rw [eX10_change]
          simp (disch := (first | omega | assumption | (simp (disch := omega) only [Int32.lt_iff_toInt_lt, Int32.le_iff_toInt_le, ← Int32.toInt_inj, nI_toInt, zi_m1, zi_m2, zi_m3, zi_m9]; omega) | decide)) only [sX10_change_0, sX10_change_1, sX10_change_4, sX10_change_5, sX10_change_6, sX10_change_9, sX10_change_12, sX10_change_13, sX10_change_14, sX10_change_17, sX10_change_18, sX10_change_19, sX10_change_22, sX10_change_25, sX10_change_28, sX10_change_29, sX10_change_32, sX10_change_33i, sX10_change_33r, sX10_change_33z, sX10_change_33o, sX10_change_35, sX10_change_36, sX10_change_37, sX10_change_40, sX10_change_43, sX10_change_45, sX10_change_48, sX10_change_49, sX10_change_50, sX10_change_53, sX10_change_54, sX10_change_55, sX10_change_56, sX10_change_57, sX10_change_58, sX10_change_61, sX10_change_64, sX10_change_65, mCk, mG0, mG1, mG2, mG3, mG4, mG5, mG6, mG7, mG8, mG9, mG10, mG11, mG12, mG13, mG14, mG15, mG16, mG17, mG18, mG19, mG20, mP2, mP5, mP6, mP7, mP9, mP11, mP14, mA1, mS1, mA2, mS2, mA3, mS3, mA4, mS4, mA5, mS5, mA6, mS6, mA7, mS7, mA8, mS8, mA9, mS9, mA10, mS10, mA11, mS11, mA12, mS12, mA13, mS13, mA14, mS14, zpush_v, zpush_n, gCk, gAi, gSi, gSz, gLi, gLq, ↓if_pos, ↓if_neg, isLn_t hv1 h16 hi, inN, m_lineAt, nI_add, Nat.add_assoc, Nat.reduceAdd, m_sets h5, a2, eN_n]
          sorry
        · rw [e3]
          have hk2 : 0 ≤ k2 ∧ k2 ≤ 200 := hk2
          refine ⟨(mkM h0 M (upd v (100 + 166 * i + 3) (eN (some k2))) (actP pa v p.2.1.length) (nI (actN p.2.1.length)) fl tx (nI p.2.2.length) ct wr it im sg sm lat hat sy nw os hgh pl asd lks), mkM_same, rM.kp hv hp ht hw (good (some k2)), fun Q => ?_⟩
          rw [eX10_change]
          simp (disch := (first | omega | assumption | (simp (disch := omega) only [Int32.lt_iff_toInt_lt, Int32.le_iff_toInt_le, ← Int32.toInt_inj, nI_toInt, zi_m1, zi_m2, zi_m3, zi_m9]; omega) | decide)) only [sX10_change_0, sX10_change_1, sX10_change_4, sX10_change_5, sX10_change_6, sX10_change_9, sX10_change_12, sX10_change_13, sX10_change_14, sX10_change_17, sX10_change_18, sX10_change_19, sX10_change_22, sX10_change_25, sX10_change_28, sX10_change_29, sX10_change_32, sX10_change_33i, sX10_change_33r, sX10_change_33z, sX10_change_33o, sX10_change_35, sX10_change_36, sX10_change_37, sX10_change_40, sX10_change_43, sX10_change_45, sX10_change_48, sX10_change_49, sX10_change_50, sX10_change_53, sX10_change_54, sX10_change_55, sX10_change_56, sX10_change_57, sX10_change_58, sX10_change_61, sX10_change_64, sX10_change_65, mCk, mG0, mG1, mG2, mG3, mG4, mG5, mG6, mG7, mG8, mG9, mG10, mG11, mG12, mG13, mG14, mG15, mG16, mG17, mG18, mG19, mG20, mP2, mP5, mP6, mP7, mP9, mP11, mP14, mA1, mS1, mA2, mS2, mA3, mS3, mA4, mS4, mA5, mS5, mA6, mS6, mA7, mS7, mA8, mS8, mA9, mS9, mA10, mS10, mA11, mS11, mA12, mS12, mA13, mS13, mA14, mS14, zpush_v, zpush_n, gCk, gAi, gSi, gSz, gLi, gLq, ↓if_pos, ↓if_neg, isLn_t hv1 h16 hi, inT, m_lineAt, nI_add, Nat.add_assoc, Nat.reduceAdd, m_sets h5, a2, eN_s]
          sorry
        · rw [e3]
          refine ⟨_, Same.rf, hr, fun Q => ?_⟩
          have g2 : x < nI 0 ∨ nI 200 < x := g2
          rw [eX10_change]
          simp (disch := (first | omega | assumption | (simp (disch := omega) only [Int32.lt_iff_toInt_lt, Int32.le_iff_toInt_le, ← Int32.toInt_inj, nI_toInt, zi_m1, zi_m2, zi_m3, zi_m9]; omega) | decide)) only [sX10_change_0, sX10_change_1, sX10_change_4, sX10_change_5, sX10_change_6, sX10_change_9, sX10_change_12, sX10_change_13, sX10_change_14, sX10_change_17, sX10_change_18, sX10_change_19, sX10_change_22, sX10_change_25, sX10_change_28, sX10_change_29, sX10_change_32, sX10_change_33i, sX10_change_33r, sX10_change_33z, sX10_change_33o, sX10_change_35, sX10_change_36, sX10_change_37, sX10_change_40, sX10_change_43, sX10_change_45, sX10_change_48, sX10_change_49, sX10_change_50, sX10_change_53, sX10_change_54, sX10_change_55, sX10_change_56, sX10_change_57, sX10_change_58, sX10_change_61, sX10_change_64, sX10_change_65, mCk, mG0, mG1, mG2, mG3, mG4, mG5, mG6, mG7, mG8, mG9, mG10, mG11, mG12, mG13, mG14, mG15, mG16, mG17, mG18, mG19, mG20, mP2, mP5, mP6, mP7, mP9, mP11, mP14, mA1, mS1, mA2, mS2, mA3, mS3, mA4, mS4, mA5, mS5, mA6, mS6, mA7, mS7, mA8, mS8, mA9, mS9, mA10, mS10, mA11, mS11, mA12, mS12, mA13, mS13, mA14, mS14, zpush_v, zpush_n, gCk, gAi, gSi, gSz, gLi, gLq, ↓if_pos, ↓if_neg, isLn_t hv1 h16 hi, inF _ x g1 g2]
    · rw [e2]
      have n0 : ¬ w = nI 0 := nI_not (by omega) (by omega) g2
      have n1 : ¬ w = nI 1 := nI_not (by omega) (by omega) g2
      refine ⟨_, Same.rf, hr, fun Q => ?_⟩
      rw [eX10_change]
      simp (disch := (first | omega | assumption | (simp (disch := omega) only [Int32.lt_iff_toInt_lt, Int32.le_iff_toInt_le, ← Int32.toInt_inj, nI_toInt, zi_m1, zi_m2, zi_m3, zi_m9]; omega) | decide)) only [sX10_change_0, sX10_change_1, sX10_change_4, sX10_change_5, sX10_change_6, sX10_change_9, sX10_change_12, sX10_change_13, sX10_change_14, sX10_change_17, sX10_change_18, sX10_change_19, sX10_change_22, sX10_change_25, sX10_change_28, sX10_change_29, sX10_change_32, sX10_change_33i, sX10_change_33r, sX10_change_33z, sX10_change_33o, sX10_change_35, sX10_change_36, sX10_change_37, sX10_change_40, sX10_change_43, sX10_change_45, sX10_change_48, sX10_change_49, sX10_change_50, sX10_change_53, sX10_change_54, sX10_change_55, sX10_change_56, sX10_change_57, sX10_change_58, sX10_change_61, sX10_change_64, sX10_change_65, mCk, mG0, mG1, mG2, mG3, mG4, mG5, mG6, mG7, mG8, mG9, mG10, mG11, mG12, mG13, mG14, mG15, mG16, mG17, mG18, mG19, mG20, mP2, mP5, mP6, mP7, mP9, mP11, mP14, mA1, mS1, mA2, mS2, mA3, mS3, mA4, mS4, mA5, mS5, mA6, mS6, mA7, mS7, mA8, mS8, mA9, mS9, mA10, mS10, mA11, mS11, mA12, mS12, mA13, mS13, mA14, mS14, zpush_v, zpush_n, gCk, gAi, gSi, gSz, gLi, gLq, ↓if_pos, ↓if_neg, isLn_t hv1 h16 hi, n0, n1]
  · rw [e]
    refine ⟨_, Same.rf, hr, fun Q => ?_⟩
    rw [eX10_change]
    have F := fun Q => isLn_f (h0 := h0) (M := M) (v := v) (pa := pa) (pm := nI p.2.1.length) (fl := fl) (tx := tx) (ty := nI p.2.2.length) (ct := ct) (wr := wr) (it := it) (im := im) (sg := sg) (sm := sm) (lat := lat) (hat := hat) (sy := sy) (nw := nw) (os := os) (hgh := hgh) (pl := pl) (asd := asd) (lks := lks) hv1 h16 g Q
    by_cases n0 : w = nI 0
    · subst n0
      rcases dO_cases p.1.1.1 x (by omega) with ⟨rfl, e3⟩ | ⟨k2, hk2, rfl, e3⟩ | ⟨⟨g1, g2⟩, e3⟩
      · simp (disch := (first | omega | assumption | (simp (disch := omega) only [Int32.lt_iff_toInt_lt, Int32.le_iff_toInt_le, ← Int32.toInt_inj, nI_toInt, zi_m1, zi_m2, zi_m3, zi_m9]; omega) | decide)) only [sX10_change_0, sX10_change_1, sX10_change_4, sX10_change_5, sX10_change_6, sX10_change_9, sX10_change_12, sX10_change_13, sX10_change_14, sX10_change_17, sX10_change_18, sX10_change_19, sX10_change_22, sX10_change_25, sX10_change_28, sX10_change_29, sX10_change_32, sX10_change_33i, sX10_change_33r, sX10_change_33z, sX10_change_33o, sX10_change_35, sX10_change_36, sX10_change_37, sX10_change_40, sX10_change_43, sX10_change_45, sX10_change_48, sX10_change_49, sX10_change_50, sX10_change_53, sX10_change_54, sX10_change_55, sX10_change_56, sX10_change_57, sX10_change_58, sX10_change_61, sX10_change_64, sX10_change_65, mCk, mG0, mG1, mG2, mG3, mG4, mG5, mG6, mG7, mG8, mG9, mG10, mG11, mG12, mG13, mG14, mG15, mG16, mG17, mG18, mG19, mG20, mP2, mP5, mP6, mP7, mP9, mP11, mP14, mA1, mS1, mA2, mS2, mA3, mS3, mA4, mS4, mA5, mS5, mA6, mS6, mA7, mS7, mA8, mS8, mA9, mS9, mA10, mS10, mA11, mS11, mA12, mS12, mA13, mS13, mA14, mS14, zpush_v, zpush_n, gCk, gAi, gSi, gSz, gLi, gLq, ↓if_pos, ↓if_neg, F, isSN_n]
      · simp (disch := (first | omega | assumption | (simp (disch := omega) only [Int32.lt_iff_toInt_lt, Int32.le_iff_toInt_le, ← Int32.toInt_inj, nI_toInt, zi_m1, zi_m2, zi_m3, zi_m9]; omega) | decide)) only [sX10_change_0, sX10_change_1, sX10_change_4, sX10_change_5, sX10_change_6, sX10_change_9, sX10_change_12, sX10_change_13, sX10_change_14, sX10_change_17, sX10_change_18, sX10_change_19, sX10_change_22, sX10_change_25, sX10_change_28, sX10_change_29, sX10_change_32, sX10_change_33i, sX10_change_33r, sX10_change_33z, sX10_change_33o, sX10_change_35, sX10_change_36, sX10_change_37, sX10_change_40, sX10_change_43, sX10_change_45, sX10_change_48, sX10_change_49, sX10_change_50, sX10_change_53, sX10_change_54, sX10_change_55, sX10_change_56, sX10_change_57, sX10_change_58, sX10_change_61, sX10_change_64, sX10_change_65, mCk, mG0, mG1, mG2, mG3, mG4, mG5, mG6, mG7, mG8, mG9, mG10, mG11, mG12, mG13, mG14, mG15, mG16, mG17, mG18, mG19, mG20, mP2, mP5, mP6, mP7, mP9, mP11, mP14, mA1, mS1, mA2, mS2, mA3, mS3, mA4, mS4, mA5, mS5, mA6, mS6, mA7, mS7, mA8, mS8, mA9, mS9, mA10, mS10, mA11, mS11, mA12, mS12, mA13, mS13, mA14, mS14, zpush_v, zpush_n, gCk, gAi, gSi, gSz, gLi, gLq, ↓if_pos, ↓if_neg, F, isSN_t hS.1 h10 hk2]
      · simp (disch := (first | omega | assumption | (simp (disch := omega) only [Int32.lt_iff_toInt_lt, Int32.le_iff_toInt_le, ← Int32.toInt_inj, nI_toInt, zi_m1, zi_m2, zi_m3, zi_m9]; omega) | decide)) only [sX10_change_0, sX10_change_1, sX10_change_4, sX10_change_5, sX10_change_6, sX10_change_9, sX10_change_12, sX10_change_13, sX10_change_14, sX10_change_17, sX10_change_18, sX10_change_19, sX10_change_22, sX10_change_25, sX10_change_28, sX10_change_29, sX10_change_32, sX10_change_33i, sX10_change_33r, sX10_change_33z, sX10_change_33o, sX10_change_35, sX10_change_36, sX10_change_37, sX10_change_40, sX10_change_43, sX10_change_45, sX10_change_48, sX10_change_49, sX10_change_50, sX10_change_53, sX10_change_54, sX10_change_55, sX10_change_56, sX10_change_57, sX10_change_58, sX10_change_61, sX10_change_64, sX10_change_65, mCk, mG0, mG1, mG2, mG3, mG4, mG5, mG6, mG7, mG8, mG9, mG10, mG11, mG12, mG13, mG14, mG15, mG16, mG17, mG18, mG19, mG20, mP2, mP5, mP6, mP7, mP9, mP11, mP14, mA1, mS1, mA2, mS2, mA3, mS3, mA4, mS4, mA5, mS5, mA6, mS6, mA7, mS7, mA8, mS8, mA9, mS9, mA10, mS10, mA11, mS11, mA12, mS12, mA13, mS13, mA14, mS14, zpush_v, zpush_n, gCk, gAi, gSi, gSz, gLi, gLq, ↓if_pos, ↓if_neg, F, isSN_f hS.1 h10 g2 g1]
    · by_cases n1 : w = nI 1
      · subst n1
        rcases dV_cases 5 x with ⟨rfl, e3⟩ | ⟨k2, hk2, rfl, e3⟩ | ⟨⟨g1, g2⟩, e3⟩
        · simp (disch := (first | omega | assumption | (simp (disch := omega) only [Int32.lt_iff_toInt_lt, Int32.le_iff_toInt_le, ← Int32.toInt_inj, nI_toInt, zi_m1, zi_m2, zi_m3, zi_m9]; omega) | decide)) only [sX10_change_0, sX10_change_1, sX10_change_4, sX10_change_5, sX10_change_6, sX10_change_9, sX10_change_12, sX10_change_13, sX10_change_14, sX10_change_17, sX10_change_18, sX10_change_19, sX10_change_22, sX10_change_25, sX10_change_28, sX10_change_29, sX10_change_32, sX10_change_33i, sX10_change_33r, sX10_change_33z, sX10_change_33o, sX10_change_35, sX10_change_36, sX10_change_37, sX10_change_40, sX10_change_43, sX10_change_45, sX10_change_48, sX10_change_49, sX10_change_50, sX10_change_53, sX10_change_54, sX10_change_55, sX10_change_56, sX10_change_57, sX10_change_58, sX10_change_61, sX10_change_64, sX10_change_65, mCk, mG0, mG1, mG2, mG3, mG4, mG5, mG6, mG7, mG8, mG9, mG10, mG11, mG12, mG13, mG14, mG15, mG16, mG17, mG18, mG19, mG20, mP2, mP5, mP6, mP7, mP9, mP11, mP14, mA1, mS1, mA2, mS2, mA3, mS3, mA4, mS4, mA5, mS5, mA6, mS6, mA7, mS7, mA8, mS8, mA9, mS9, mA10, mS10, mA11, mS11, mA12, mS12, mA13, mS13, mA14, mS14, zpush_v, zpush_n, gCk, gAi, gSi, gSz, gLi, gLq, ↓if_pos, ↓if_neg, F, inN]
        · have hk2 : 0 ≤ k2 ∧ k2 ≤ 200 := hk2
          simp (disch := (first | omega | assumption | (simp (disch := omega) only [Int32.lt_iff_toInt_lt, Int32.le_iff_toInt_le, ← Int32.toInt_inj, nI_toInt, zi_m1, zi_m2, zi_m3, zi_m9]; omega) | decide)) only [sX10_change_0, sX10_change_1, sX10_change_4, sX10_change_5, sX10_change_6, sX10_change_9, sX10_change_12, sX10_change_13, sX10_change_14, sX10_change_17, sX10_change_18, sX10_change_19, sX10_change_22, sX10_change_25, sX10_change_28, sX10_change_29, sX10_change_32, sX10_change_33i, sX10_change_33r, sX10_change_33z, sX10_change_33o, sX10_change_35, sX10_change_36, sX10_change_37, sX10_change_40, sX10_change_43, sX10_change_45, sX10_change_48, sX10_change_49, sX10_change_50, sX10_change_53, sX10_change_54, sX10_change_55, sX10_change_56, sX10_change_57, sX10_change_58, sX10_change_61, sX10_change_64, sX10_change_65, mCk, mG0, mG1, mG2, mG3, mG4, mG5, mG6, mG7, mG8, mG9, mG10, mG11, mG12, mG13, mG14, mG15, mG16, mG17, mG18, mG19, mG20, mP2, mP5, mP6, mP7, mP9, mP11, mP14, mA1, mS1, mA2, mS2, mA3, mS3, mA4, mS4, mA5, mS5, mA6, mS6, mA7, mS7, mA8, mS8, mA9, mS9, mA10, mS10, mA11, mS11, mA12, mS12, mA13, mS13, mA14, mS14, zpush_v, zpush_n, gCk, gAi, gSi, gSz, gLi, gLq, ↓if_pos, ↓if_neg, F, inT _ k2 hk2.2]
        · have g2 : x < nI 0 ∨ nI 200 < x := g2
          simp (disch := (first | omega | assumption | (simp (disch := omega) only [Int32.lt_iff_toInt_lt, Int32.le_iff_toInt_le, ← Int32.toInt_inj, nI_toInt, zi_m1, zi_m2, zi_m3, zi_m9]; omega) | decide)) only [sX10_change_0, sX10_change_1, sX10_change_4, sX10_change_5, sX10_change_6, sX10_change_9, sX10_change_12, sX10_change_13, sX10_change_14, sX10_change_17, sX10_change_18, sX10_change_19, sX10_change_22, sX10_change_25, sX10_change_28, sX10_change_29, sX10_change_32, sX10_change_33i, sX10_change_33r, sX10_change_33z, sX10_change_33o, sX10_change_35, sX10_change_36, sX10_change_37, sX10_change_40, sX10_change_43, sX10_change_45, sX10_change_48, sX10_change_49, sX10_change_50, sX10_change_53, sX10_change_54, sX10_change_55, sX10_change_56, sX10_change_57, sX10_change_58, sX10_change_61, sX10_change_64, sX10_change_65, mCk, mG0, mG1, mG2, mG3, mG4, mG5, mG6, mG7, mG8, mG9, mG10, mG11, mG12, mG13, mG14, mG15, mG16, mG17, mG18, mG19, mG20, mP2, mP5, mP6, mP7, mP9, mP11, mP14, mA1, mS1, mA2, mS2, mA3, mS3, mA4, mS4, mA5, mS5, mA6, mS6, mA7, mS7, mA8, mS8, mA9, mS9, mA10, mS10, mA11, mS11, mA12, mS12, mA13, mS13, mA14, mS14, zpush_v, zpush_n, gCk, gAi, gSi, gSz, gLi, gLq, ↓if_pos, ↓if_neg, F, inF _ x g1 g2]
      · simp (disch := (first | omega | assumption | (simp (disch := omega) only [Int32.lt_iff_toInt_lt, Int32.le_iff_toInt_le, ← Int32.toInt_inj, nI_toInt, zi_m1, zi_m2, zi_m3, zi_m9]; omega) | decide)) only [sX10_change_0, sX10_change_1, sX10_change_4, sX10_change_5, sX10_change_6, sX10_change_9, sX10_change_12, sX10_change_13, sX10_change_14, sX10_change_17, sX10_change_18, sX10_change_19, sX10_change_22, sX10_change_25, sX10_change_28, sX10_change_29, sX10_change_32, sX10_change_33i, sX10_change_33r, sX10_change_33z, sX10_change_33o, sX10_change_35, sX10_change_36, sX10_change_37, sX10_change_40, sX10_change_43, sX10_change_45, sX10_change_48, sX10_change_49, sX10_change_50, sX10_change_53, sX10_change_54, sX10_change_55, sX10_change_56, sX10_change_57, sX10_change_58, sX10_change_61, sX10_change_64, sX10_change_65, mCk, mG0, mG1, mG2, mG3, mG4, mG5, mG6, mG7, mG8, mG9, mG10, mG11, mG12, mG13, mG14, mG15, mG16, mG17, mG18, mG19, mG20, mP2, mP5, mP6, mP7, mP9, mP11, mP14, mA1, mS1, mA2, mS2, mA3, mS3, mA4, mS4, mA5, mS5, mA6, mS6, mA7, mS7, mA8, mS8, mA9, mS9, mA10, mS10, mA11, mS11, mA12, mS12, mA13, mS13, mA14, mS14, zpush_v, zpush_n, gCk, gAi, gSi, gSz, gLi, gLq, ↓if_pos, ↓if_neg, F, n0, n1]
end MG
