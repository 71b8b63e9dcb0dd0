/-! the model: fit -/
theorem runI_len {S : Sh} {st : Option Nat} {r : Rd} {x : Itm} (hx : okI x) : (runI S st r x).2.2.length = r.2.2.length + (if isK x = true then 1 else 0) := by
  cases x with
  | inl c => rfl
  | inr y =>
    obtain ⟨l, o⟩ := y
    by_cases c : l = 107
    · subst c
      show (r.2.2 ++ [o.getD 0]).length = _
      rw [List.length_append]
      rfl
    · have : isK (.inr (l, o)) = false := by
        show Nat.beq l 107 = false
        cases h : Nat.beq l 107 with
        | false => rfl
        | true => exact absurd (Nat.eq_of_beq_eq_true h) c
      rw [this]
      simp only [runI, c, if_false]
      split <;> rfl
theorem lstK_none {its : List Itm} : ∀ i, lstK its i = none → ∀ j, j < i → isK (its.getD j (.inl 0)) = false := by
  intro i
  induction i with
  | zero => intro _ j hj; exact absurd hj (Nat.not_lt_zero _)
  | succ i ih =>
    intro h j hj
    simp only [lstK] at h
    split at h
    · cases h
    · rename_i c
      by_cases e : j = i
      · rw [e]
        cases q : isK (its.getD i (.inl 0)) with
        | false => rfl
        | true => exact absurd q c
      · exact ih h j (by omega)
theorem lstK_some {its : List Itm} {j : Nat} : ∀ i, lstK its i = some j → j < i ∧ isK (its.getD j (.inl 0)) = true := by
  intro i
  induction i with
  | zero => intro h; cases h
  | succ i ih =>
    intro h
    simp only [lstK] at h
    split at h
    · cases h
      exact ⟨Nat.lt_succ_self _, by assumption⟩
    · have := ih h
      exact ⟨by omega, this.2⟩
/-- a line with a syllable has a last one -/
theorem lstK_ex {S : Sh} {ln : Ln} (hl : WfL ln) (h : ¬ (rdL S ln).2.2.length = 0) : ∃ j, lstK ln.2.2.2.2 ln.2.2.2.2.length = some j := by
  cases hq : lstK ln.2.2.2.2 ln.2.2.2.2.length with
  | some j => exact ⟨j, rfl⟩
  | none =>
    exfalso
    apply h
    have hn := lstK_none _ hq
    have key : ∀ i, i ≤ ln.2.2.2.2.length → (runL S ln.2.2.1 (ln.2.2.2.2.take i)).2.2.length = 0 := by
      intro i
      induction i with
      | zero => intro _; rfl
      | succ i ih =>
        intro hi
        obtain ⟨x, hx⟩ : ∃ x, ln.2.2.2.2[i]? = some x := ⟨ln.2.2.2.2[i], List.getElem?_eq_getElem (by omega)⟩
        have hg : ln.2.2.2.2.getD i (.inl 0) = x := by
          rw [List.getD_eq_getElem?_getD, hx]
          rfl
        have := hn i (by omega)
        rw [hg] at this
        rw [runL_take hx, runI_len (hl.2.2.2.2.2.1 x (List.mem_of_getElem? hx)), this, ih (by omega)]
        rfl
    have := key _ (Nat.le_refl _)
    rw [List.take_length] at this
    exact this
section MN
variable {h0 : Hp} {M : Nat} {v pa fl tx it sg lat hat nw os hgh pl asd lks : Nat → Int32} {pm ty ct wr im sm sy : Int32}
variable {p : PS} {h : Hp}
theorem l_fit {k : Nat} (hk : k + 166 ≤ 2760) {ln : Ln} (hl : WfL ln) (eL : encL v k ln) {j : Nat} (x1 x3 : Int32) (Q : Option Value → Hp → Prop) : ∀ i, i < ln.2.2.2.2.length → lstK ln.2.2.2.2 (i + 1) = some j →
    WP 160 96 [some (.ref M), some (.int x1), some (.int (nI k)), some (.int x3), some (.int (nI i))] [] (mkM h0 M v pa pm fl tx ty ct wr it im sg sm lat hat sy nw os hgh pl asd lks) Q = WP 160 139 [some (.ref M), some (.int x1), some (.int (nI k)), some (.int x3), some (.int (nI j))] [] (mkM h0 M v pa pm fl tx ty ct wr it im sg sm lat hat sy nw os hgh pl asd lks) Q := by
  have h80 := hl.2.2.2.2.1
  intro i
  induction i with
  | zero =>
    intro hi hj
    obtain ⟨x, hx⟩ : ∃ x, ln.2.2.2.2[0]? = some x := ⟨ln.2.2.2.2[0], List.getElem?_eq_getElem hi⟩
    have hg : ln.2.2.2.2.getD 0 (.inl 0) = x := by
      rw [List.getD_eq_getElem?_getD, hx]
      rfl
    obtain ⟨c1, c2⟩ := eL.2.2.2.2.2 0 x hx
    simp only [lstK, hg] at hj
    split at hj
    · rename_i hk2
      cases hj
      cases x with
      | inl c => cases hk2
      | inr y =>
        obtain ⟨l, o⟩ := y
        have hl107 : l = 107 := Nat.eq_of_beq_eq_true hk2
        subst hl107
        have c1 : v (k + 5 + 2 * 0) = nI 107 := c1
        have c2 : v (k + 5 + 2 * 0 + 1) = eN o := c2
        have ge : -1 ≤ eN o := by
          cases o with
          | none => decide
          | some n =>
            have hoi := hl.2.2.2.2.2.1 _ (List.mem_of_getElem? hx)
            have hn : n ≤ 9999 := by
              simp only [okI] at hoi
              rcases hoi with ⟨a, b⟩ | ⟨a, n', b, c⟩ | ⟨a, n', b, c⟩ | ⟨a, n', b, c⟩ | ⟨a, n', b, c⟩ | ⟨a, n', b, c⟩
              · omega
              · cases b; exact c
              all_goals omega
            rw [eN_s, Int32.le_iff_toInt_le, nI_toInt (by omega), zi_m1]
            omega
        rw [sX10_fit_96]
        simp (disch := (first | omega | assumption | (simp (disch := omega) only [Int32.lt_iff_toInt_lt, Int32.le_iff_toInt_le, ← Int32.toInt_inj, nI_toInt, zi_m1, zi_m2, zi_m3, zi_m9]; omega) | decide)) only [sX10_fit_97, sX10_fit_100, sX10_fit_101, sX10_fit_102, sX10_fit_103, sX10_fit_104, sX10_fit_106, sX10_fit_107, sX10_fit_108, sX10_fit_109, sX10_fit_111, sX10_fit_114, sX10_fit_115, sX10_fit_118, sX10_fit_119, sX10_fit_120, sX10_fit_121, sX10_fit_122, sX10_fit_124, sX10_fit_125, sX10_fit_126, sX10_fit_127, sX10_fit_128, sX10_fit_129, sX10_fit_130, mCk, mG0, mG1, mG2, mG3, mG4, mG5, mG6, mG7, mG8, mG9, mG10, mG11, mG12, mG13, mG14, mG15, mG16, mG17, mG18, mG19, mG20, mP2, mP5, mP6, mP7, mP9, mP11, mP14, mA1, mS1, mA2, mS2, mA3, mS3, mA4, mS4, mA5, mS5, mA6, mS6, mA7, mS7, mA8, mS8, mA9, mS9, mA10, mS10, mA11, mS11, mA12, mS12, mA13, mS13, mA14, mS14, zpush_v, zpush_n, gCk, gAi, gSi, gSz, gLi, gLq, ↓if_pos, ↓if_neg, nI_add, nI_mul, c1, c2]
    · cases hj
  | succ i ih =>
    intro hi hj
    obtain ⟨x, hx⟩ : ∃ x, ln.2.2.2.2[i + 1]? = some x := ⟨ln.2.2.2.2[i + 1], List.getElem?_eq_getElem hi⟩
    have hg : ln.2.2.2.2.getD (i + 1) (.inl 0) = x := by
      rw [List.getD_eq_getElem?_getD, hx]
      rfl
    obtain ⟨c1, c2⟩ := eL.2.2.2.2.2 (i + 1) x hx
    have hoi := hl.2.2.2.2.2.1 _ (List.mem_of_getElem? hx)
    rw [lstK, hg] at hj
    cases x with
    | inl c =>
      replace c1 : v (k + 5 + 2 * (i + 1)) = nI c := c1
      replace c2 : v (k + 5 + 2 * (i + 1) + 1) = -2 := c2
      have hoi : 32 ≤ c ∧ c ≤ 126 := hoi
      rw [if_neg (fun q => by cases q)] at hj
      rw [← ih (by omega) hj, sX10_fit_96]
      by_cases e : c = 107
      · subst e
        simp (disch := (first | omega | assumption | (simp (disch := omega) only [Int32.lt_iff_toInt_lt, Int32.le_iff_toInt_le, ← Int32.toInt_inj, nI_toInt, zi_m1, zi_m2, zi_m3, zi_m9]; omega) | decide)) only [sX10_fit_97, sX10_fit_100, sX10_fit_101, sX10_fit_102, sX10_fit_103, sX10_fit_104, sX10_fit_106, sX10_fit_107, sX10_fit_108, sX10_fit_109, sX10_fit_111, sX10_fit_114, sX10_fit_115, sX10_fit_118, sX10_fit_119, sX10_fit_120, sX10_fit_121, sX10_fit_122, sX10_fit_124, sX10_fit_125, sX10_fit_126, sX10_fit_127, sX10_fit_128, sX10_fit_129, sX10_fit_130, sX10_fit_133i, sX10_fit_133r, sX10_fit_133z, sX10_fit_133o, sX10_fit_136, mCk, mG0, mG1, mG2, mG3, mG4, mG5, mG6, mG7, mG8, mG9, mG10, mG11, mG12, mG13, mG14, mG15, mG16, mG17, mG18, mG19, mG20, mP2, mP5, mP6, mP7, mP9, mP11, mP14, mA1, mS1, mA2, mS2, mA3, mS3, mA4, mS4, mA5, mS5, mA6, mS6, mA7, mS7, mA8, mS8, mA9, mS9, mA10, mS10, mA11, mS11, mA12, mS12, mA13, mS13, mA14, mS14, zpush_v, zpush_n, gCk, gAi, gSi, gSz, gLi, gLq, ↓if_pos, ↓if_neg, nI_add, nI_mul, c1, c2, nI_m1, Nat.add_sub_cancel]
      · simp (disch := (first | omega | assumption | (simp (disch := omega) only [Int32.lt_iff_toInt_lt, Int32.le_iff_toInt_le, ← Int32.toInt_inj, nI_toInt, zi_m1, zi_m2, zi_m3, zi_m9]; omega) | decide)) only [sX10_fit_97, sX10_fit_100, sX10_fit_101, sX10_fit_102, sX10_fit_103, sX10_fit_104, sX10_fit_106, sX10_fit_107, sX10_fit_108, sX10_fit_109, sX10_fit_111, sX10_fit_114, sX10_fit_115, sX10_fit_118, sX10_fit_119, sX10_fit_120, sX10_fit_121, sX10_fit_122, sX10_fit_124, sX10_fit_125, sX10_fit_126, sX10_fit_127, sX10_fit_128, sX10_fit_129, sX10_fit_130, sX10_fit_133i, sX10_fit_133r, sX10_fit_133z, sX10_fit_133o, sX10_fit_136, mCk, mG0, mG1, mG2, mG3, mG4, mG5, mG6, mG7, mG8, mG9, mG10, mG11, mG12, mG13, mG14, mG15, mG16, mG17, mG18, mG19, mG20, mP2, mP5, mP6, mP7, mP9, mP11, mP14, mA1, mS1, mA2, mS2, mA3, mS3, mA4, mS4, mA5, mS5, mA6, mS6, mA7, mS7, mA8, mS8, mA9, mS9, mA10, mS10, mA11, mS11, mA12, mS12, mA13, mS13, mA14, mS14, zpush_v, zpush_n, gCk, gAi, gSi, gSz, gLi, gLq, ↓if_pos, ↓if_neg, nI_add, nI_mul, c1, c2, nI_m1, Nat.add_sub_cancel]
    | inr y =>
      obtain ⟨l, o⟩ := y
      replace c1 : v (k + 5 + 2 * (i + 1)) = nI l := c1
      replace c2 : v (k + 5 + 2 * (i + 1) + 1) = eN o := c2
      have hl200 : l < 200 := by
        unfold okI at hoi
        omega
      by_cases e : l = 107
      · subst e
        rw [if_pos (show isK (.inr (107, o)) = true from rfl)] at hj
        cases hj
        have ge : -1 ≤ eN o := by
          cases o with
          | none => decide
          | some n =>
            have hn : n ≤ 9999 := by
              simp only [okI] at hoi
              rcases hoi with ⟨a, b⟩ | ⟨a, n', b, c⟩ | ⟨a, n', b, c⟩ | ⟨a, n', b, c⟩ | ⟨a, n', b, c⟩ | ⟨a, n', b, c⟩
              · omega
              · cases b; exact c
              all_goals omega
            rw [eN_s, Int32.le_iff_toInt_le, nI_toInt (by omega), zi_m1]
            omega
        rw [sX10_fit_96]
        simp (disch := (first | omega | assumption | (simp (disch := omega) only [Int32.lt_iff_toInt_lt, Int32.le_iff_toInt_le, ← Int32.toInt_inj, nI_toInt, zi_m1, zi_m2, zi_m3, zi_m9]; omega) | decide)) only [sX10_fit_97, sX10_fit_100, sX10_fit_101, sX10_fit_102, sX10_fit_103, sX10_fit_104, sX10_fit_106, sX10_fit_107, sX10_fit_108, sX10_fit_109, sX10_fit_111, sX10_fit_114, sX10_fit_115, sX10_fit_118, sX10_fit_119, sX10_fit_120, sX10_fit_121, sX10_fit_122, sX10_fit_124, sX10_fit_125, sX10_fit_126, sX10_fit_127, sX10_fit_128, sX10_fit_129, sX10_fit_130, mCk, mG0, mG1, mG2, mG3, mG4, mG5, mG6, mG7, mG8, mG9, mG10, mG11, mG12, mG13, mG14, mG15, mG16, mG17, mG18, mG19, mG20, mP2, mP5, mP6, mP7, mP9, mP11, mP14, mA1, mS1, mA2, mS2, mA3, mS3, mA4, mS4, mA5, mS5, mA6, mS6, mA7, mS7, mA8, mS8, mA9, mS9, mA10, mS10, mA11, mS11, mA12, mS12, mA13, mS13, mA14, mS14, zpush_v, zpush_n, gCk, gAi, gSi, gSz, gLi, gLq, ↓if_pos, ↓if_neg, nI_add, nI_mul, c1, c2]
      · rw [if_neg (show ¬ isK (.inr (l, o)) = true from fun q => e (Nat.eq_of_beq_eq_true q))] at hj
        rw [← ih (by omega) hj, sX10_fit_96]
        simp (disch := (first | omega | assumption | (simp (disch := omega) only [Int32.lt_iff_toInt_lt, Int32.le_iff_toInt_le, ← Int32.toInt_inj, nI_toInt, zi_m1, zi_m2, zi_m3, zi_m9]; omega) | decide)) only [sX10_fit_97, sX10_fit_100, sX10_fit_101, sX10_fit_102, sX10_fit_103, sX10_fit_104, sX10_fit_106, sX10_fit_107, sX10_fit_108, sX10_fit_109, sX10_fit_111, sX10_fit_114, sX10_fit_115, sX10_fit_118, sX10_fit_119, sX10_fit_120, sX10_fit_121, sX10_fit_122, sX10_fit_124, sX10_fit_125, sX10_fit_126, sX10_fit_127, sX10_fit_128, sX10_fit_129, sX10_fit_130, sX10_fit_133i, sX10_fit_133r, sX10_fit_133z, sX10_fit_133o, sX10_fit_136, mCk, mG0, mG1, mG2, mG3, mG4, mG5, mG6, mG7, mG8, mG9, mG10, mG11, mG12, mG13, mG14, mG15, mG16, mG17, mG18, mG19, mG20, mP2, mP5, mP6, mP7, mP9, mP11, mP14, mA1, mS1, mA2, mS2, mA3, mS3, mA4, mS4, mA5, mS5, mA6, mS6, mA7, mS7, mA8, mS8, mA9, mS9, mA10, mS10, mA11, mS11, mA12, mS12, mA13, mS13, mA14, mS14, zpush_v, zpush_n, gCk, gAi, gSi, gSz, gLi, gLq, ↓if_pos, ↓if_neg, nI_add, nI_mul, c1, c2, nI_m1, Nat.add_sub_cancel]
theorem setK_enc {k j d : Nat} {ln : Ln} (hl : WfL ln) (eL : encL v k ln) (hj : lstK ln.2.2.2.2 ln.2.2.2.2.length = some j) : encL (upd v (k + 5 + 2 * j + 1) (nI d)) k (ln.1, ln.2.1, ln.2.2.1, ln.2.2.2.1, setK ln.2.2.2.2 d) := by
  obtain ⟨b1, b2, b3, b4, b5, b6⟩ := eL
  obtain ⟨j1, j2⟩ := lstK_some _ hj
  have es : setK ln.2.2.2.2 d = ln.2.2.2.2.set j (.inr (107, some d)) := by
    unfold setK
    rw [hj]
  refine ⟨by rw [upd_off (by omega)]; exact b1, by rw [upd_off (by omega)]; exact b2, by rw [upd_off (by omega)]; exact b3, by rw [upd_off (by omega)]; exact b4, by rw [upd_off (by omega)]; show v (k + 4) = nI (setK ln.2.2.2.2 d).length; rw [setK_length]; exact b5, fun z x hx => ?_⟩
  have hx : (setK ln.2.2.2.2 d)[z]? = some x := hx
  rw [es] at hx
  have hzl := (List.getElem?_eq_some_iff.mp hx).1
  rw [List.length_set] at hzl
  by_cases c : z = j
  · subst c
    rw [List.getElem?_set_self hzl] at hx
    cases hx
    refine ⟨?_, upd_at⟩
    rw [upd_off (by omega)]
    have hy := List.getElem?_eq_getElem hzl
    have hg : ln.2.2.2.2.getD z (.inl 0) = ln.2.2.2.2[z] := by
      rw [List.getD_eq_getElem?_getD, hy]
      rfl
    rw [hg] at j2
    rw [(b6 z _ hy).1]
    cases hq : ln.2.2.2.2[z] with
    | inl c => rw [hq] at j2; cases j2
    | inr y =>
      obtain ⟨l, o⟩ := y
      rw [hq] at j2
      have : l = 107 := Nat.eq_of_beq_eq_true j2
      rw [this]
      rfl
  · rw [List.getElem?_set_ne (Ne.symm c)] at hx
    rw [upd_off (by omega), upd_off (by omega)]
    exact b6 z x hx
theorem y_fit (hr : rM h M p) (hw : WfP p) (l : Int32) : ∃ h', Same h h' M 15 ∧ rM h' M (opFit p l).1 ∧ ∀ Q : Option Value → Hp → Prop, WPm 160 [.ref M, .int l] h Q = Q (some (.int (opFit p l).2)) h' := by
  obtain ⟨h0, v, pa, fl, tx, it, sg, lat, hat, nw, os, hgh, pl, asd, lks, ct, wr, im, sm, sy, rfl, hv, hp, ht⟩ := id hr
  have h5 := hw.2.2.1
  have h16 := hw.1.2.1.1
  have hv1 := hv.2.1
  have m3 : (nI 0).toInt = 0 := by decide
  have m9 : (nI 9999).toInt = 9999 := by decide
  unfold opFit
  rcases dN_cases p.1.2.1.length l (by omega) with ⟨i, hi, rfl, e⟩ | ⟨g, e⟩
  · rw [e]
    simp only
    have wl := hw.1.mem _ (lnA_mem hi)
    have eL := encL.at hv.2.2.2 hi
    obtain ⟨b1, b2, b3, b4, b5, b6⟩ := id eL
    have w1 := wl.1.1
    have w2 := wl.1.2.1
    have l20 := (rdL_ok hw.1.1 wl.1).2.1
    have i80 := wl.1.2.2.2.2.1
    have sm' := rdL_sum hw.1.1 wl.1
    obtain ⟨sg', lat', hat', nw', q1, q2⟩ := m_goes (h0 := h0) (M := M) (v := v) (pa := pa) (pm := nI p.2.1.length) (fl := fl) (tx := tx) (ty := nI p.2.2.length) (ct := ct) (wr := wr) (it := it) (im := im) (sg := sg) (sm := sm) (lat := lat) (hat := hat) (sy := sy) (nw := nw) (os := os) (hgh := hgh) (pl := pl) (asd := asd) (lks := lks) hv hw.1 hi
    have la := fun Q => m_lasting (h0 := h0) (M := M) (v := v) (pa := pa) (pm := nI p.2.1.length) (fl := fl) (tx := tx) (ty := nI p.2.2.length) (ct := ct) (wr := wr) (it := it) (im := im) (sg := sg') (sm := nI (rdL p.1.1 (lnA p.1.2.1 i)).2.1.length) (lat := lat') (hat := hat') (nw := nw') (os := os) (hgh := hgh) (pl := pl) (asd := asd) (lks := lks) q1 l20 Q
    by_cases z0 : (rdL p.1.1 (lnA p.1.2.1 i)).2.2.length = 0
    · rw [if_pos z0]
      refine ⟨(mkM h0 M v pa (nI p.2.1.length) fl tx (nI p.2.2.length) ct wr it im sg' (nI (rdL p.1.1 (lnA p.1.2.1 i)).2.1.length) lat' hat' (nI (rdL p.1.1 (lnA p.1.2.1 i)).2.2.length) nw' os hgh pl asd lks), mkM_same, rM.mk hv hp ht, fun Q => ?_⟩
      have F := fun (h : Hp) => in_f (h := h) (x := -1) (lo := nI 0) (hi := nI 9999) (Or.inl (by decide))
      rw [z0] at q2 ⊢
      rw [eX10_fit]
      simp (disch := (first | omega | assumption | (simp (disch := omega) only [Int32.lt_iff_toInt_lt, Int32.le_iff_toInt_le, ← Int32.toInt_inj, nI_toInt, zi_m1, zi_m2, zi_m3, zi_m9]; omega) | decide)) only [sX10_fit_0, sX10_fit_1, sX10_fit_2, sX10_fit_5, sX10_fit_8, sX10_fit_9, sX10_fit_10, sX10_fit_11, sX10_fit_12, sX10_fit_15, sX10_fit_16, sX10_fit_19i, sX10_fit_19r, sX10_fit_19z, sX10_fit_19o, sX10_fit_20, sX10_fit_21, sX10_fit_24, sX10_fit_27, sX10_fit_28, sX10_fit_31, sX10_fit_32, sX10_fit_35, sX10_fit_36, sX10_fit_37, sX10_fit_38, sX10_fit_39, sX10_fit_40, sX10_fit_43, sX10_fit_44, sX10_fit_45, sX10_fit_46, sX10_fit_47, sX10_fit_48, sX10_fit_49, sX10_fit_52, sX10_fit_53, sX10_fit_54, sX10_fit_57, sX10_fit_58, sX10_fit_61, sX10_fit_62, sX10_fit_63, sX10_fit_64, sX10_fit_65i, sX10_fit_65r, sX10_fit_65z, sX10_fit_65o, sX10_fit_66, sX10_fit_67, sX10_fit_68, sX10_fit_71, sX10_fit_74, sX10_fit_77, sX10_fit_79, mCk, mG0, mG1, mG2, mG3, mG4, mG5, mG6, mG7, mG8, mG9, mG10, mG11, mG12, mG13, mG14, mG15, mG16, mG17, mG18, mG19, mG20, mP2, mP5, mP6, mP7, mP9, mP11, mP14, mA1, mS1, mA2, mS2, mA3, mS3, mA4, mS4, mA5, mS5, mA6, mS6, mA7, mS7, mA8, mS8, mA9, mS9, mA10, mS10, mA11, mS11, mA12, mS12, mA13, mS13, mA14, mS14, zpush_v, zpush_n, gCk, gAi, gSi, gSz, gLi, gLq, ↓if_pos, ↓if_neg, isLn_t hv1 h16 hi, q2, m_lineAt, F]
    · rw [if_neg z0]
      have el := (q1.2.1 ((rdL p.1.1 (lnA p.1.2.1 i)).2.2.length - 1) (by omega)).1
      have gd := getD_le (l := (rdL p.1.1 (lnA p.1.2.1 i)).2.2) (i := (rdL p.1.1 (lnA p.1.2.1 i)).2.2.length - 1)
      obtain ⟨lv, elv⟩ : ∃ v, v = (rdL p.1.1 (lnA p.1.2.1 i)).2.2.getD ((rdL p.1.1 (lnA p.1.2.1 i)).2.2.length - 1) 0 := ⟨_, rfl⟩
      rw [← elv] at el gd
      have dv : dueOf p.1.1 (lnA p.1.2.1 i) = ((lnA p.1.2.1 i).2.1 : Int) - (lnA p.1.2.1 i).1 - (((rdL p.1.1 (lnA p.1.2.1 i)).2.2.sum : Int) - lv) := by unfold dueOf; rw [← elv]
      obtain ⟨D, eD⟩ : ∃ D, D = nI ((lnA p.1.2.1 i).2.1 - (lnA p.1.2.1 i).1) - nI (rdL p.1.1 (lnA p.1.2.1 i)).2.2.sum + nI lv := ⟨_, rfl⟩
      have T2 : D.toInt = dueOf p.1.1 (lnA p.1.2.1 i) := by
        rw [eD, Int32.toInt_add, nI_subT (by omega) (by omega), nI_toInt (by omega), dv]
        have : (2 : Nat) ^ 32 = 4294967296 := rfl
        rw [this]
        unfold Int.bmod
        simp only
        omega
      by_cases z1 : dueOf p.1.1 (lnA p.1.2.1 i) < 0 ∨ 9999 < dueOf p.1.1 (lnA p.1.2.1 i)
      · rw [if_pos z1]
        have F := fun (h : Hp) => in_f (h := h) (x := D) (lo := nI 0) (hi := nI 9999) (by
          rw [Int32.lt_iff_toInt_lt, Int32.lt_iff_toInt_lt, m3, m9, T2]
          exact z1)
        refine ⟨(mkM h0 M v pa (nI p.2.1.length) fl tx (nI p.2.2.length) ct wr it im sg' (nI (rdL p.1.1 (lnA p.1.2.1 i)).2.1.length) lat' hat' (nI (rdL p.1.1 (lnA p.1.2.1 i)).2.2.length) nw' os hgh pl asd lks), mkM_same, rM.mk hv hp ht, fun Q => ?_⟩
        rw [eX10_fit]
        simp (disch := (first | omega | assumption | (simp (disch := omega) only [Int32.lt_iff_toInt_lt, Int32.le_iff_toInt_le, ← Int32.toInt_inj, nI_toInt, zi_m1, zi_m2, zi_m3, zi_m9]; omega) | decide)) only [sX10_fit_0, sX10_fit_1, sX10_fit_2, sX10_fit_5, sX10_fit_8, sX10_fit_9, sX10_fit_10, sX10_fit_11, sX10_fit_12, sX10_fit_15, sX10_fit_16, sX10_fit_19i, sX10_fit_19r, sX10_fit_19z, sX10_fit_19o, sX10_fit_20, sX10_fit_21, sX10_fit_24, sX10_fit_27, sX10_fit_28, sX10_fit_31, sX10_fit_32, sX10_fit_35, sX10_fit_36, sX10_fit_37, sX10_fit_38, sX10_fit_39, sX10_fit_40, sX10_fit_43, sX10_fit_44, sX10_fit_45, sX10_fit_46, sX10_fit_47, sX10_fit_48, sX10_fit_49, sX10_fit_52, sX10_fit_53, sX10_fit_54, sX10_fit_57, sX10_fit_58, sX10_fit_61, sX10_fit_62, sX10_fit_63, sX10_fit_64, sX10_fit_65i, sX10_fit_65r, sX10_fit_65z, sX10_fit_65o, sX10_fit_66, sX10_fit_67, sX10_fit_68, sX10_fit_71, sX10_fit_74, sX10_fit_77, sX10_fit_79, mCk, mG0, mG1, mG2, mG3, mG4, mG5, mG6, mG7, mG8, mG9, mG10, mG11, mG12, mG13, mG14, mG15, mG16, mG17, mG18, mG19, mG20, mP2, mP5, mP6, mP7, mP9, mP11, mP14, mA1, mS1, mA2, mS2, mA3, mS3, mA4, mS4, mA5, mS5, mA6, mS6, mA7, mS7, mA8, mS8, mA9, mS9, mA10, mS10, mA11, mS11, mA12, mS12, mA13, mS13, mA14, mS14, zpush_v, zpush_n, gCk, gAi, gSi, gSz, gLi, gLq, ↓if_pos, ↓if_neg, isLn_t hv1 h16 hi, q2, m_lineAt, nI_add, b1, b2, nI_sub, la, el, ← eD, F]
      · rw [if_neg z1]
        have T := fun (h : Hp) => in_t (h := h) (x := D) (lo := nI 0) (hi := nI 9999) (by
          rw [Int32.le_iff_toInt_le, Int32.le_iff_toInt_le, m3, m9, T2]
          omega)
        have dD : D = nI (dueOf p.1.1 (lnA p.1.2.1 i)).toNat := eq_nI (by rw [T2]; omega) (by omega)
        obtain ⟨d, ed⟩ : ∃ d, d = (dueOf p.1.1 (lnA p.1.2.1 i)).toNat := ⟨_, rfl⟩
        rw [← ed] at dD ⊢
        obtain ⟨j, hj⟩ := lstK_ex wl.1 z0
        obtain ⟨j1, j2⟩ := lstK_some _ hj
        have L := fun Q => l_fit (h0 := h0) (M := M) (v := v) (pa := actP pa v p.2.1.length) (pm := nI (actN p.2.1.length)) (fl := fl) (tx := tx) (ty := nI p.2.2.length) (ct := ct) (wr := wr) (it := it) (im := im) (sg := sg') (sm := nI (rdL p.1.1 (lnA p.1.2.1 i)).2.1.length) (lat := lat') (hat := hat') (sy := nI (rdL p.1.1 (lnA p.1.2.1 i)).2.2.length) (nw := nw') (os := os) (hgh := hgh) (pl := pl) (asd := asd) (lks := lks) (show 100 + 166 * i + 166 ≤ 2760 by omega) wl.1 eL (j := j) (nI i) D Q ((lnA p.1.2.1 i).2.2.2.2.length - 1) (by omega) (by rw [show (lnA p.1.2.1 i).2.2.2.2.length - 1 + 1 = (lnA p.1.2.1 i).2.2.2.2.length by omega]; exact hj)
        refine ⟨(mkM h0 M (upd v (100 + 166 * i + 5 + 2 * j + 1) (nI d)) (actP pa v p.2.1.length) (nI (actN p.2.1.length)) fl tx (nI p.2.2.length) ct wr it im sg' (nI (rdL p.1.1 (lnA p.1.2.1 i)).2.1.length) lat' hat' (nI (rdL p.1.1 (lnA p.1.2.1 i)).2.2.length) nw' os hgh pl asd lks), mkM_same, rM.kp hv hp ht hw (hv.ln hw.1 (setK_enc wl.1 eL hj) (fun q hq => upd_off (by omega))), fun Q => ?_⟩
        rw [eX10_fit]
        simp (disch := (first | omega | assumption | (simp (disch := omega) only [Int32.lt_iff_toInt_lt, Int32.le_iff_toInt_le, ← Int32.toInt_inj, nI_toInt, zi_m1, zi_m2, zi_m3, zi_m9]; omega) | decide)) only [sX10_fit_0, sX10_fit_1, sX10_fit_2, sX10_fit_5, sX10_fit_8, sX10_fit_9, sX10_fit_10, sX10_fit_11, sX10_fit_12, sX10_fit_15, sX10_fit_16, sX10_fit_19i, sX10_fit_19r, sX10_fit_19z, sX10_fit_19o, sX10_fit_20, sX10_fit_21, sX10_fit_24, sX10_fit_27, sX10_fit_28, sX10_fit_31, sX10_fit_32, sX10_fit_35, sX10_fit_36, sX10_fit_37, sX10_fit_38, sX10_fit_39, sX10_fit_40, sX10_fit_43, sX10_fit_44, sX10_fit_45, sX10_fit_46, sX10_fit_47, sX10_fit_48, sX10_fit_49, sX10_fit_52, sX10_fit_53, sX10_fit_54, sX10_fit_57, sX10_fit_58, sX10_fit_61, sX10_fit_62, sX10_fit_63, sX10_fit_64, sX10_fit_65i, sX10_fit_65r, sX10_fit_65z, sX10_fit_65o, sX10_fit_66, sX10_fit_67, sX10_fit_68, sX10_fit_71, sX10_fit_74, sX10_fit_77, sX10_fit_79, sX10_fit_80, sX10_fit_81, sX10_fit_84, sX10_fit_85, sX10_fit_88, sX10_fit_89, sX10_fit_90, sX10_fit_91, sX10_fit_92, sX10_fit_93, sX10_fit_94i, sX10_fit_94r, sX10_fit_94z, sX10_fit_94o, mCk, mG0, mG1, mG2, mG3, mG4, mG5, mG6, mG7, mG8, mG9, mG10, mG11, mG12, mG13, mG14, mG15, mG16, mG17, mG18, mG19, mG20, mP2, mP5, mP6, mP7, mP9, mP11, mP14, mA1, mS1, mA2, mS2, mA3, mS3, mA4, mS4, mA5, mS5, mA6, mS6, mA7, mS7, mA8, mS8, mA9, mS9, mA10, mS10, mA11, mS11, mA12, mS12, mA13, mS13, mA14, mS14, zpush_v, zpush_n, gCk, gAi, gSi, gSz, gLi, gLq, ↓if_pos, ↓if_neg, isLn_t hv1 h16 hi, q2, m_lineAt, nI_add, b1, b2, nI_sub, la, el, ← eD, T, m_act h5, b5, L]
        simp (disch := (first | omega | assumption | (simp (disch := omega) only [Int32.lt_iff_toInt_lt, Int32.le_iff_toInt_le, ← Int32.toInt_inj, nI_toInt, zi_m1, zi_m2, zi_m3, zi_m9]; omega) | decide)) only [sX10_fit_139, sX10_fit_140, sX10_fit_143, sX10_fit_144, sX10_fit_145, sX10_fit_146, sX10_fit_147, sX10_fit_149, sX10_fit_150, sX10_fit_151, sX10_fit_152, sX10_fit_153, sX10_fit_154, sX10_fit_155, sX10_fit_156, mCk, mG0, mG1, mG2, mG3, mG4, mG5, mG6, mG7, mG8, mG9, mG10, mG11, mG12, mG13, mG14, mG15, mG16, mG17, mG18, mG19, mG20, mP2, mP5, mP6, mP7, mP9, mP11, mP14, mA1, mS1, mA2, mS2, mA3, mS3, mA4, mS4, mA5, mS5, mA6, mS6, mA7, mS7, mA8, mS8, mA9, mS9, mA10, mS10, mA11, mS11, mA12, mS12, mA13, mS13, mA14, mS14, zpush_v, zpush_n, gCk, gAi, gSi, gSz, gLi, gLq, ↓if_pos, ↓if_neg, nI_add, nI_mul]
        rw [dD]
  · rw [e]
    refine ⟨_, Same.rf, hr, fun Q => ?_⟩
    rw [eX10_fit]
    simp (disch := (first | omega | assumption | (simp (disch := omega) only [Int32.lt_iff_toInt_lt, Int32.le_iff_toInt_le, ← Int32.toInt_inj, nI_toInt, zi_m1, zi_m2, zi_m3, zi_m9]; omega) | decide)) only [sX10_fit_0, sX10_fit_1, sX10_fit_2, sX10_fit_5, sX10_fit_8, sX10_fit_9, mCk, mG0, mG1, mG2, mG3, mG4, mG5, mG6, mG7, mG8, mG9, mG10, mG11, mG12, mG13, mG14, mG15, mG16, mG17, mG18, mG19, mG20, mP2, mP5, mP6, mP7, mP9, mP11, mP14, mA1, mS1, mA2, mS2, mA3, mS3, mA4, mS4, mA5, mS5, mA6, mS6, mA7, mS7, mA8, mS8, mA9, mS9, mA10, mS10, mA11, mS11, mA12, mS12, mA13, mS13, mA14, mS14, zpush_v, zpush_n, gCk, gAi, gSi, gSz, gLi, gLq, ↓if_pos, ↓if_neg, isLn_f hv1 h16 g]
end MN
