/-! the model: its state; styles are changed -/
def encT (tx : Nat → Int32) (txt : List Nat) : Prop := ∀ i c, txt[i]? = some c → tx i = nI c
def rM (h : Hp) (M : Nat) (p : PS) : Prop := ∃ (h0 : Hp) (v pa fl tx it sg lat hat nw os hgh pl asd lks : Nat → Int32) (ct wr im sm sy : Int32), h = (mkM h0 M v pa (nI p.2.1.length) fl tx (nI p.2.2.length) ct wr it im sg sm lat hat sy nw os hgh pl asd lks) ∧ encV v p.1 ∧ encH pa p.2.1 ∧ encT tx p.2.2
section MD0
variable {h0 : Hp} {M : Nat} {v pa fl tx it sg lat hat nw os hgh pl asd lks : Nat → Int32} {pm ty ct wr im sm sy : Int32}
theorem mkM_out {q : Nat} (hq : q < M ∨ M + 15 ≤ q) : (mkM h0 M v pa pm fl tx ty ct wr it im sg sm lat hat sy nw os hgh pl asd lks).1 q = h0.1 q := if_neg (by omega)
theorem mkM_same {v' pa' fl' tx' it' sg' lat' hat' nw' os' hgh' pl' asd' lks' : Nat → Int32} {pm' ty' ct' wr' im' sm' sy' : Int32} : Same (mkM h0 M v pa pm fl tx ty ct wr it im sg sm lat hat sy nw os hgh pl asd lks) (mkM h0 M v' pa' pm' fl' tx' ty' ct' wr' it' im' sg' sm' lat' hat' sy' nw' os' hgh' pl' asd' lks') M 15 := ⟨rfl, fun q hq => by rw [mkM_out hq, mkM_out hq]⟩
variable {p : PS}
theorem rM.mk (hv : encV v p.1) (hp : encH pa p.2.1) (ht : encT tx p.2.2) : rM (mkM h0 M v pa (nI p.2.1.length) fl tx (nI p.2.2.length) ct wr it im sg sm lat hat sy nw os hgh pl asd lks) M p := ⟨h0, v, pa, fl, tx, it, sg, lat, hat, nw, os, hgh, pl, asd, lks, ct, wr, im, sm, sy, rfl, hv, hp, ht⟩
theorem rM.kp {v' : Nat → Int32} {st' : Stt} (hv : encV v p.1) (hp : encH pa p.2.1) (ht : encT tx p.2.2) (hw : WfP p) (hv' : encV v' st') : rM (mkM h0 M v' (actP pa v p.2.1.length) (nI (actN p.2.1.length)) fl tx (nI p.2.2.length) ct wr it im sg sm lat hat sy nw os hgh pl asd lks) M (kp p st') := by
  have e : actN p.2.1.length = (kept p.2.1 p.1).length := kept_len2.symm
  rw [e]
  exact rM.mk (p := (st', kept p.2.1 p.1, p.2.2)) hv' (hp.act hv hw.1 hw.2.1 hw.2.2.1) ht
end MD0
def fil (v : Nat → Int32) (b i : Nat) : Nat → Int32 := fun q => if b ≤ q ∧ q < b + i then -1 else v q
theorem fil_0 (v : Nat → Int32) (b : Nat) : fil v b 0 = v := by funext q; exact if_neg (by omega)
theorem fil_step (v : Nat → Int32) (b i : Nat) : upd (fil v b i) (b + i) (-1) = fil v b (i + 1) := by
  funext q
  simp only [fil, upd]
  by_cases c : q = b + i
  · subst c
    rw [if_pos rfl, if_pos (by omega)]
  · rw [if_neg c]
    by_cases d : b ≤ q ∧ q < b + i
    · rw [if_pos d, if_pos (by omega)]
    · rw [if_neg d, if_neg (by omega)]
theorem encS.add {v : Nat → Int32} {S : Sh} {o : Option Nat} (h : encS v S) (hn : S.1 < 10) : encS (upd (upd (fil v (10 + 7 * S.1) 6) (10 + 7 * S.1 + 6) (eN o)) 0 (nI (S.1 + 1))) (addS S o) := by
  refine ⟨upd_at, fun s hs => ?_⟩
  have hs : s < S.1 + 1 := hs
  show upd (upd (fil v (10 + 7 * S.1) 6) (10 + 7 * S.1 + 6) (eN o)) 0 (nI (S.1 + 1)) (10 + 7 * s + 6) = eN (if s = S.1 then o else S.2.1 s) ∧ ∀ p, p < 6 → upd (upd (fil v (10 + 7 * S.1) 6) (10 + 7 * S.1 + 6) (eN o)) 0 (nI (S.1 + 1)) (10 + 7 * s + p) = eN (if s = S.1 then none else S.2.2 s p)
  by_cases c : s = S.1
  · subst c
    refine ⟨?_, fun p hp => ?_⟩
    · rw [if_pos rfl, upd_off (by omega), upd_at]
    · rw [if_pos rfl, upd_off (by omega), upd_off (by omega)]
      exact if_pos (by omega)
  · rw [if_neg c]
    obtain ⟨e1, e2⟩ := h.2 s (by omega)
    refine ⟨?_, fun p hp => ?_⟩
    · rw [upd_off (by omega), upd_off (by omega)]
      unfold fil
      rw [if_neg (by omega)]
      exact e1
    · rw [if_neg c, upd_off (by omega), upd_off (by omega)]
      unfold fil
      rw [if_neg (by omega)]
      exact e2 p hp
/-- the sheet changes, the lines stay -/
theorem encV.sh {v w : Nat → Int32} {st : Stt} {S' : Sh} (h : encV v st) (hw : WfSt st) (hS : encS w S') (e : ∀ q, (80 ≤ q ∨ q = 1 ∨ q = 2) → w q = v q) : encV w (S', st.2) := by
  obtain ⟨h1, h2, h3, h4⟩ := h
  refine ⟨hS, by rw [e _ (by omega)]; exact h2, by rw [e _ (by omega)]; exact h3, fun i x hx => ?_⟩
  have := (List.getElem?_eq_some_iff.mp hx).1
  have := hw.2.1.1
  exact (h4 i x hx).of (hw.2.1.2 x (List.mem_of_getElem? hx)).2.2.2.2.1 (fun q q1 q2 => e q (by omega))
theorem encS.setP {v : Nat → Int32} {S : Sh} {o : Option Nat} {t : Nat} (h : encS v S) : encS (upd v (10 + 7 * t + 6) (eN o)) (setP S t o) := by
  refine ⟨by rw [upd_off (by omega)]; exact h.1, fun s hs => ?_⟩
  obtain ⟨e1, e2⟩ := h.2 s hs
  refine ⟨?_, fun p hp => by rw [upd_off (by omega)]; exact e2 p hp⟩
  show upd v (10 + 7 * t + 6) (eN o) (10 + 7 * s + 6) = eN (if s = t then o else S.2.1 s)
  by_cases c : s = t
  · subst c
    rw [if_pos rfl, upd_at]
  · rw [if_neg c, upd_off (by omega)]
    exact e1
theorem encS.setO {v : Nat → Int32} {S : Sh} {o : Option Nat} {t q : Nat} (hq : q < 6) (h : encS v S) : encS (upd v (10 + 7 * t + q) (eN o)) (setO S t q o) := by
  refine ⟨by rw [upd_off (by omega)]; exact h.1, fun s hs => ?_⟩
  obtain ⟨e1, e2⟩ := h.2 s hs
  refine ⟨by rw [upd_off (by omega)]; exact e1, fun p hp => ?_⟩
  show upd v (10 + 7 * t + q) (eN o) (10 + 7 * s + p) = eN (if s = t ∧ p = q then o else S.2.2 s p)
  by_cases c : s = t ∧ p = q
  · obtain ⟨rfl, rfl⟩ := c
    rw [if_pos ⟨rfl, rfl⟩, upd_at]
  · rw [if_neg c, upd_off (by omega)]
    exact e2 p hp
section MD
variable {h0 : Hp} {M : Nat} {v pa fl tx it sg lat hat nw os hgh pl asd lks : Nat → Int32} {pm ty ct wr im sm sy : Int32}
variable {p : PS} {h : Hp}
theorem l_style (x y : Int32) {n : Nat} (hn : n < 10) (Q : Option Value → Hp → Prop) : ∀ (m i : Nat), m + i = 6 → WP 116 37 [some (.ref M), some (.int x), some (.int (nI n)), some (.int (nI i))] [] (mkM h0 M (fil v (10 + 7 * n) i) pa pm fl tx ty ct wr it im sg sm lat hat sy nw os hgh pl asd lks) Q = WP 116 61 [some (.ref M), some (.int x), some (.int (nI n)), some (.int (nI 6))] [] (mkM h0 M (fil v (10 + 7 * n) 6) pa pm fl tx ty ct wr it im sg sm lat hat sy nw os hgh pl asd lks) Q := by
  intro m
  induction m with
  | zero =>
    intro i hi
    have hi : i = 6 := by omega
    subst hi
    rw [sX10_style_37]
    simp (disch := (first | omega | assumption | (simp (disch := omega) only [Int32.lt_iff_toInt_lt, Int32.le_iff_toInt_le, ← Int32.toInt_inj, nI_toInt, zi_m1, zi_m2, zi_m3, zi_m9]; omega) | decide)) only [sX10_style_38, sX10_style_40, zpush_v, zpush_n, gCk, gAi, gSi, gSz, gLi, gLq, ↓if_pos, ↓if_neg]
  | succ m ih =>
    intro i hi
    rw [← ih (i + 1) (by omega), sX10_style_37]
    simp (disch := (first | omega | assumption | (simp (disch := omega) only [Int32.lt_iff_toInt_lt, Int32.le_iff_toInt_le, ← Int32.toInt_inj, nI_toInt, zi_m1, zi_m2, zi_m3, zi_m9]; omega) | decide)) only [sX10_style_38, sX10_style_40, sX10_style_43, sX10_style_44, sX10_style_47, sX10_style_48, sX10_style_51, sX10_style_52, sX10_style_53, sX10_style_54, sX10_style_55i, sX10_style_55r, sX10_style_55z, sX10_style_55o, sX10_style_58, mCk, mG0, mG1, mG2, mG3, mG4, mG5, mG6, mG7, mG8, mG9, mG10, mG11, mG12, mG13, mG14, mG15, mG16, mG17, mG18, mG19, mG20, mP2, mP5, mP6, mP7, mP9, mP11, mP14, mA1, mS1, mA2, mS2, mA3, mS3, mA4, mS4, mA5, mS5, mA6, mS6, mA7, mS7, mA8, mS8, mA9, mS9, mA10, mS10, mA11, mS11, mA12, mS12, mA13, mS13, mA14, mS14, zpush_v, zpush_n, gCk, gAi, gSi, gSz, gLi, gLq, ↓if_pos, ↓if_neg, m_placeOf, nI_add, fil_step]
theorem l_style0 (x : Int32) {n : Nat} (hn : n < 10) (Q : Option Value → Hp → Prop) : WP 116 37 [some (.ref M), some (.int x), some (.int (nI n)), some (.int (nI 0))] [] (mkM h0 M v pa pm fl tx ty ct wr it im sg sm lat hat sy nw os hgh pl asd lks) Q = WP 116 61 [some (.ref M), some (.int x), some (.int (nI n)), some (.int (nI 6))] [] (mkM h0 M (fil v (10 + 7 * n) 6) pa pm fl tx ty ct wr it im sg sm lat hat sy nw os hgh pl asd lks) Q := by
  rw [← l_style x x hn Q 6 0 rfl, fil_0]
theorem y_style (hr : rM h M p) (hw : WfP p) (x : Int32) : ∃ h', Same h h' M 15 ∧ rM h' M (opStyle p x).1 ∧ ∀ Q : Option Value → Hp → Prop, WPm 116 [.ref M, .int x] h Q = Q (some (.int (opStyle p x).2)) h' := by
  obtain ⟨h0, v, pa, fl, tx, it, sg, lat, hat, nw, os, hgh, pl, asd, lks, ct, wr, im, sm, sy, rfl, hv, hp, ht⟩ := id hr
  have hws := hw.1.1
  have h10 := hws.1
  have hS := hv.1
  have hv0 := hS.1
  have h5 := hw.2.2.1
  have good : ∀ (o : Option Nat) (x : Int32), x = eN o → dO p.1.1.1 x = some o → (∀ Q : Option Value → Hp → Prop, WPm 113 [.ref M, .int x] (mkM h0 M v pa (nI p.2.1.length) fl tx (nI p.2.2.length) ct wr it im sg sm lat hat sy nw os hgh pl asd lks) Q = Q (some (.int (nI 1))) (mkM h0 M v pa (nI p.2.1.length) fl tx (nI p.2.2.length) ct wr it im sg sm lat hat sy nw os hgh pl asd lks)) → ∃ h', Same (mkM h0 M v pa (nI p.2.1.length) fl tx (nI p.2.2.length) ct wr it im sg sm lat hat sy nw os hgh pl asd lks) h' M 15 ∧ rM h' M (opStyle p x).1 ∧ ∀ Q : Option Value → Hp → Prop, WPm 116 [.ref M, .int x] (mkM h0 M v pa (nI p.2.1.length) fl tx (nI p.2.2.length) ct wr it im sg sm lat hat sy nw os hgh pl asd lks) Q = Q (some (.int (opStyle p x).2)) h' := by
    intro o x hx e w
    subst hx
    unfold opStyle
    rw [e]
    simp only
    by_cases hf : 10 ≤ p.1.1.1
    · rw [if_pos hf]
      have h10' : p.1.1.1 = 10 := by omega
      rw [h10'] at hv0
      refine ⟨_, Same.rf, hr, fun Q => ?_⟩
      rw [eX10_style]
      simp (disch := (first | omega | assumption | (simp (disch := omega) only [Int32.lt_iff_toInt_lt, Int32.le_iff_toInt_le, ← Int32.toInt_inj, nI_toInt, zi_m1, zi_m2, zi_m3, zi_m9]; omega) | decide)) only [sX10_style_0, sX10_style_1, sX10_style_2, sX10_style_5, sX10_style_8, sX10_style_9, sX10_style_10, sX10_style_11, sX10_style_14, sX10_style_15, sX10_style_16, sX10_style_18, sX10_style_21, sX10_style_23, mCk, mG0, mG1, mG2, mG3, mG4, mG5, mG6, mG7, mG8, mG9, mG10, mG11, mG12, mG13, mG14, mG15, mG16, mG17, mG18, mG19, mG20, mP2, mP5, mP6, mP7, mP9, mP11, mP14, mA1, mS1, mA2, mS2, mA3, mS3, mA4, mS4, mA5, mS5, mA6, mS6, mA7, mS7, mA8, mS8, mA9, mS9, mA10, mS10, mA11, mS11, mA12, mS12, mA13, mS13, mA14, mS14, zpush_v, zpush_n, gCk, gAi, gSi, gSz, gLi, gLq, ↓if_pos, ↓if_neg, w, hv0]
    · rw [if_neg hf]
      refine ⟨(mkM h0 M (upd (upd (fil v (10 + 7 * p.1.1.1) 6) (10 + 7 * p.1.1.1 + 6) (eN o)) 0 (nI (p.1.1.1 + 1))) (actP pa v p.2.1.length) (nI (actN p.2.1.length)) fl tx (nI p.2.2.length) ct wr it im sg sm lat hat sy nw os hgh pl asd lks), mkM_same, rM.kp hv hp ht hw (hv.sh hw.1 (hS.add (by omega)) (fun q hq => ?_)), fun Q => ?_⟩
      · rw [upd_off (by omega), upd_off (by omega)]
        unfold fil
        rw [if_neg (by omega)]
      · have u : upd (fil v (10 + 7 * p.1.1.1) 6) (10 + 7 * p.1.1.1 + 6) (eN o) 0 = nI p.1.1.1 := by
          rw [upd_off (by omega)]
          unfold fil
          rw [if_neg (by omega)]
          exact hv0
        rw [eX10_style]
        simp (disch := (first | omega | assumption | (simp (disch := omega) only [Int32.lt_iff_toInt_lt, Int32.le_iff_toInt_le, ← Int32.toInt_inj, nI_toInt, zi_m1, zi_m2, zi_m3, zi_m9]; omega) | decide)) only [sX10_style_0, sX10_style_1, sX10_style_2, sX10_style_5, sX10_style_8, sX10_style_9, sX10_style_10, sX10_style_11, sX10_style_14, sX10_style_15, sX10_style_16, sX10_style_18, sX10_style_21, sX10_style_23, sX10_style_24, sX10_style_25, sX10_style_28, sX10_style_29, sX10_style_32, sX10_style_33, sX10_style_34i, sX10_style_34r, sX10_style_34z, sX10_style_34o, sX10_style_35, sX10_style_36i, sX10_style_36r, sX10_style_36z, sX10_style_36o, sX10_style_61, sX10_style_62, sX10_style_65, sX10_style_66, sX10_style_69, sX10_style_71, sX10_style_72, sX10_style_73, sX10_style_74, sX10_style_75, sX10_style_78, sX10_style_79, sX10_style_80, sX10_style_81, sX10_style_82, sX10_style_83, sX10_style_84, sX10_style_85, mCk, mG0, mG1, mG2, mG3, mG4, mG5, mG6, mG7, mG8, mG9, mG10, mG11, mG12, mG13, mG14, mG15, mG16, mG17, mG18, mG19, mG20, mP2, mP5, mP6, mP7, mP9, mP11, mP14, mA1, mS1, mA2, mS2, mA3, mS3, mA4, mS4, mA5, mS5, mA6, mS6, mA7, mS7, mA8, mS8, mA9, mS9, mA10, mS10, mA11, mS11, mA12, mS12, mA13, mS13, mA14, mS14, zpush_v, zpush_n, gCk, gAi, gSi, gSz, gLi, gLq, ↓if_pos, ↓if_neg, w, hv0, m_act h5, l_style0 (eN o) (show p.1.1.1 < 10 by omega), m_placeOf, nI_add, u]
  rcases dO_cases p.1.1.1 x (by omega) with ⟨rfl, e⟩ | ⟨k, hk, rfl, e⟩ | ⟨⟨g1, g2⟩, e⟩
  · exact good none _ rfl e (fun Q => isSN_n Q)
  · exact good (some k) _ rfl e (fun Q => isSN_t hS.1 h10 hk Q)
  · unfold opStyle
    rw [e]
    refine ⟨_, Same.rf, hr, fun Q => ?_⟩
    rw [eX10_style]
    simp (disch := (first | omega | assumption | (simp (disch := omega) only [Int32.lt_iff_toInt_lt, Int32.le_iff_toInt_le, ← Int32.toInt_inj, nI_toInt, zi_m1, zi_m2, zi_m3, zi_m9]; omega) | decide)) only [sX10_style_0, sX10_style_1, sX10_style_2, sX10_style_5, sX10_style_8, sX10_style_9, sX10_style_10, sX10_style_11, sX10_style_14, sX10_style_15, sX10_style_16, sX10_style_18, sX10_style_21, sX10_style_23, mCk, mG0, mG1, mG2, mG3, mG4, mG5, mG6, mG7, mG8, mG9, mG10, mG11, mG12, mG13, mG14, mG15, mG16, mG17, mG18, mG19, mG20, mP2, mP5, mP6, mP7, mP9, mP11, mP14, mA1, mS1, mA2, mS2, mA3, mS3, mA4, mS4, mA5, mS5, mA6, mS6, mA7, mS7, mA8, mS8, mA9, mS9, mA10, mS10, mA11, mS11, mA12, mS12, mA13, mS13, mA14, mS14, zpush_v, zpush_n, gCk, gAi, gSi, gSz, gLi, gLq, ↓if_pos, ↓if_neg, isSN_f hS.1 h10 g2 g1]
theorem m_sets {n k : Nat} (hn : n ≤ 5) (hk : k < 2760) (x : Int32) (Q : Option Value → Hp → Prop) : WPm 110 [.ref M, .int (nI k), .int x] (mkM h0 M v pa (nI n) fl tx ty ct wr it im sg sm lat hat sy nw os hgh pl asd lks) Q = Q (some (.int (v k))) (mkM h0 M (upd v k x) (actP pa v n) (nI (actN n)) fl tx ty ct wr it im sg sm lat hat sy nw os hgh pl asd lks) := by
  rw [eX10_sets]
  simp (disch := (first | omega | assumption | (simp (disch := omega) only [Int32.lt_iff_toInt_lt, Int32.le_iff_toInt_le, ← Int32.toInt_inj, nI_toInt, zi_m1, zi_m2, zi_m3, zi_m9]; omega) | decide)) only [sX10_sets_0, sX10_sets_1, sX10_sets_4, sX10_sets_5, sX10_sets_8, sX10_sets_9, sX10_sets_10i, sX10_sets_10r, sX10_sets_10z, sX10_sets_10o, sX10_sets_11, sX10_sets_12, sX10_sets_15, sX10_sets_16, sX10_sets_17, sX10_sets_18, sX10_sets_19, mCk, mG0, mG1, mG2, mG3, mG4, mG5, mG6, mG7, mG8, mG9, mG10, mG11, mG12, mG13, mG14, mG15, mG16, mG17, mG18, mG19, mG20, mP2, mP5, mP6, mP7, mP9, mP11, mP14, mA1, mS1, mA2, mS2, mA3, mS3, mA4, mS4, mA5, mS5, mA6, mS6, mA7, mS7, mA8, mS8, mA9, mS9, mA10, mS10, mA11, mS11, mA12, mS12, mA13, mS13, mA14, mS14, zpush_v, zpush_n, gCk, gAi, gSi, gSz, gLi, gLq, ↓if_pos, ↓if_neg, m_act hn]
theorem l_setP {S : Sh} (hv : encS v S) (hw : WfS S) {t : Nat} (ht : t < S.1) (x : Int32) (Q : Option Value → Hp → Prop) : ∀ (k : Nat) (o : Option Nat), anc S k o = none → (∀ s, o = some s → s < S.1) →
    WP 117 20 [some (.ref M), some (.int (nI t)), some (.int x), some (.int (eN o))] [] (mkM h0 M v pa pm fl tx ty ct wr it im sg sm lat hat sy nw os hgh pl asd lks) Q = WP 117 45 [some (.ref M), some (.int (nI t)), some (.int x), some (.int (if ldT S t 10 o = true then nI t else -1))] [] (mkM h0 M v pa pm fl tx ty ct wr it im sg sm lat hat sy nw os hgh pl asd lks) Q := by
  have h10 := hw.1
  intro k
  induction k with
  | zero =>
    intro o ho _
    have ho : o = none := ho
    subst ho
    rw [sX10_setParent_20]
    simp (disch := (first | omega | assumption | (simp (disch := omega) only [Int32.lt_iff_toInt_lt, Int32.le_iff_toInt_le, ← Int32.toInt_inj, nI_toInt, zi_m1, zi_m2, zi_m3, zi_m9]; omega) | decide)) only [sX10_setParent_21, zpush_v, zpush_n, gCk, gAi, gSi, gSz, gLi, gLq, ↓if_pos, ↓if_neg, eN_n]
    rfl
  | succ k ih =>
    intro o ho hs
    cases o with
    | none =>
      rw [sX10_setParent_20]
      simp (disch := (first | omega | assumption | (simp (disch := omega) only [Int32.lt_iff_toInt_lt, Int32.le_iff_toInt_le, ← Int32.toInt_inj, nI_toInt, zi_m1, zi_m2, zi_m3, zi_m9]; omega) | decide)) only [sX10_setParent_21, zpush_v, zpush_n, gCk, gAi, gSi, gSz, gLi, gLq, ↓if_pos, ↓if_neg, eN_n]
      rfl
    | some s =>
      have hs := hs s rfl
      obtain ⟨e1, -⟩ := hv.2 s hs
      rw [sX10_setParent_20]
      by_cases c : s = t
      · subst c
        have e : ldT S s 10 (some s) = true := by simp [ldT, hs]
        rw [if_pos e]
        simp (disch := (first | omega | assumption | (simp (disch := omega) only [Int32.lt_iff_toInt_lt, Int32.le_iff_toInt_le, ← Int32.toInt_inj, nI_toInt, zi_m1, zi_m2, zi_m3, zi_m9]; omega) | decide)) only [sX10_setParent_21, sX10_setParent_24, sX10_setParent_25, sX10_setParent_26, zpush_v, zpush_n, gCk, gAi, gSi, gSz, gLi, gLq, ↓if_pos, ↓if_neg, eN_s]
      · have e : ldT S t 10 (some s) = ldT S t 10 (S.2.1 s) := by
          have h3 : anc S 9 (S.2.1 s) = none := anc_more (k := S.1) (d := 10) (anc_end hw hs) hw.1
          have key : ∀ (k d : Nat) (o : Option Nat), anc S k o = none → k ≤ d → ldT S t d o = ldT S t k o := by
            intro k
            induction k with
            | zero =>
              intro d o h hd
              have : o = none := h
              subst this
              cases d <;> rfl
            | succ k ih =>
              intro d o h hd
              obtain ⟨d, rfl⟩ : ∃ d', d = d' + 1 := ⟨d - 1, by omega⟩
              cases o with
              | none => rfl
              | some s =>
                simp only [ldT]
                have h : anc S k (S.2.1 s) = none := h
                rw [ih d _ h (by omega)]
          rw [key 9 10 _ h3 (by omega)]
          simp [ldT, hs, c]
        rw [e, ← ih (S.2.1 s) ho (fun q hq => hw.2.1 s hs q hq)]
        simp (disch := (first | omega | assumption | (simp (disch := omega) only [Int32.lt_iff_toInt_lt, Int32.le_iff_toInt_le, ← Int32.toInt_inj, nI_toInt, zi_m1, zi_m2, zi_m3, zi_m9]; omega) | decide)) only [sX10_setParent_21, sX10_setParent_24, sX10_setParent_25, sX10_setParent_26, sX10_setParent_29, sX10_setParent_30, sX10_setParent_33, sX10_setParent_34, sX10_setParent_37, sX10_setParent_39, sX10_setParent_40, sX10_setParent_41i, sX10_setParent_41r, sX10_setParent_41z, sX10_setParent_41o, sX10_setParent_42, mCk, mG0, mG1, mG2, mG3, mG4, mG5, mG6, mG7, mG8, mG9, mG10, mG11, mG12, mG13, mG14, mG15, mG16, mG17, mG18, mG19, mG20, mP2, mP5, mP6, mP7, mP9, mP11, mP14, mA1, mS1, mA2, mS2, mA3, mS3, mA4, mS4, mA5, mS5, mA6, mS6, mA7, mS7, mA8, mS8, mA9, mS9, mA10, mS10, mA11, mS11, mA12, mS12, mA13, mS13, mA14, mS14, zpush_v, zpush_n, gCk, gAi, gSi, gSz, gLi, gLq, ↓if_pos, ↓if_neg, eN_s, m_placeOf, nI_add, e1]
theorem y_setParent (hr : rM h M p) (hw : WfP p) (s x : Int32) : ∃ h', Same h h' M 15 ∧ rM h' M (opSetParent p s x).1 ∧ ∀ Q : Option Value → Hp → Prop, WPm 117 [.ref M, .int s, .int x] h Q = Q (some (.int (opSetParent p s x).2)) h' := by
  obtain ⟨h0, v, pa, fl, tx, it, sg, lat, hat, nw, os, hgh, pl, asd, lks, ct, wr, im, sm, sy, rfl, hv, hp, ht⟩ := id hr
  have hws := hw.1.1
  have h10 := hws.1
  have hS := hv.1
  have h5 := hw.2.2.1
  rcases dN_cases p.1.1.1 s (by omega) with ⟨k, hk, rfl, es⟩ | ⟨gs, es⟩
  · have good : ∀ (o : Option Nat) (x : Int32), x = eN o → dO p.1.1.1 x = some o → (∀ q, o = some q → q < p.1.1.1) → (∀ Q : Option Value → Hp → Prop, WPm 113 [.ref M, .int x] (mkM h0 M v pa (nI p.2.1.length) fl tx (nI p.2.2.length) ct wr it im sg sm lat hat sy nw os hgh pl asd lks) Q = Q (some (.int (nI 1))) (mkM h0 M v pa (nI p.2.1.length) fl tx (nI p.2.2.length) ct wr it im sg sm lat hat sy nw os hgh pl asd lks)) → ∃ h', Same (mkM h0 M v pa (nI p.2.1.length) fl tx (nI p.2.2.length) ct wr it im sg sm lat hat sy nw os hgh pl asd lks) h' M 15 ∧ rM h' M (opSetParent p (nI k) x).1 ∧ ∀ Q : Option Value → Hp → Prop, WPm 117 [.ref M, .int (nI k), .int x] (mkM h0 M v pa (nI p.2.1.length) fl tx (nI p.2.2.length) ct wr it im sg sm lat hat sy nw os hgh pl asd lks) Q = Q (some (.int (opSetParent p (nI k) x).2)) h' := by
      intro o x hx e ho w
      subst hx
      unfold opSetParent
      rw [es]
      simp only
      rw [e]
      simp only
      have ha : anc p.1.1 10 o = none := by
        cases ho2 : o with
        | none => exact anc_none _ 10
        | some s => exact anc_more (anc_end hws (ho s ho2)) h10
      have L := l_setP (h0 := h0) (M := M) (v := v) (pa := pa) (pm := nI p.2.1.length) (fl := fl) (tx := tx) (ty := nI p.2.2.length) (ct := ct) (wr := wr) (it := it) (im := im) (sg := sg) (sm := sm) (lat := lat) (hat := hat) (sy := sy) (nw := nw) (os := os) (hgh := hgh) (pl := pl) (asd := asd) (lks := lks) hS hws hk (eN o)
      by_cases hf : ldT p.1.1 k 10 o = true
      · rw [if_pos hf]
        refine ⟨_, Same.rf, hr, fun Q => ?_⟩
        have L := L Q 10 o ha ho
        rw [if_pos hf] at L
        rw [eX10_setParent]
        simp (disch := (first | omega | assumption | (simp (disch := omega) only [Int32.lt_iff_toInt_lt, Int32.le_iff_toInt_le, ← Int32.toInt_inj, nI_toInt, zi_m1, zi_m2, zi_m3, zi_m9]; omega) | decide)) only [sX10_setParent_0, sX10_setParent_1, sX10_setParent_2, sX10_setParent_5, sX10_setParent_8, sX10_setParent_9, sX10_setParent_10, sX10_setParent_13, sX10_setParent_16, sX10_setParent_17, sX10_setParent_18, sX10_setParent_19i, sX10_setParent_19r, sX10_setParent_19z, sX10_setParent_19o, sX10_setParent_45, sX10_setParent_46, sX10_setParent_47, sX10_setParent_50, sX10_setParent_52, sX10_setParent_55, sX10_setParent_56, sX10_setParent_57, sX10_setParent_60, sX10_setParent_62, sX10_setParent_63, sX10_setParent_64, sX10_setParent_67, mCk, mG0, mG1, mG2, mG3, mG4, mG5, mG6, mG7, mG8, mG9, mG10, mG11, mG12, mG13, mG14, mG15, mG16, mG17, mG18, mG19, mG20, mP2, mP5, mP6, mP7, mP9, mP11, mP14, mA1, mS1, mA2, mS2, mA3, mS3, mA4, mS4, mA5, mS5, mA6, mS6, mA7, mS7, mA8, mS8, mA9, mS9, mA10, mS10, mA11, mS11, mA12, mS12, mA13, mS13, mA14, mS14, zpush_v, zpush_n, gCk, gAi, gSi, gSz, gLi, gLq, ↓if_pos, ↓if_neg, isSt_t hS.1 h10 hk, w, L]
      · rw [if_neg hf]
        refine ⟨(mkM h0 M (upd v (10 + 7 * k + 6) (eN o)) (actP pa v p.2.1.length) (nI (actN p.2.1.length)) fl tx (nI p.2.2.length) ct wr it im sg sm lat hat sy nw os hgh pl asd lks), mkM_same, rM.kp hv hp ht hw (hv.sh hw.1 hS.setP (fun q hq => by rw [upd_off (by omega)])), fun Q => ?_⟩
        have L := L Q 10 o ha ho
        rw [if_neg hf] at L
        have e1 := (hS.2 k hk).1
        rw [eX10_setParent]
        simp (disch := (first | omega | assumption | (simp (disch := omega) only [Int32.lt_iff_toInt_lt, Int32.le_iff_toInt_le, ← Int32.toInt_inj, nI_toInt, zi_m1, zi_m2, zi_m3, zi_m9]; omega) | decide)) only [sX10_setParent_0, sX10_setParent_1, sX10_setParent_2, sX10_setParent_5, sX10_setParent_8, sX10_setParent_9, sX10_setParent_10, sX10_setParent_13, sX10_setParent_16, sX10_setParent_17, sX10_setParent_18, sX10_setParent_19i, sX10_setParent_19r, sX10_setParent_19z, sX10_setParent_19o, sX10_setParent_45, sX10_setParent_46, sX10_setParent_47, sX10_setParent_50, sX10_setParent_52, sX10_setParent_55, sX10_setParent_56, sX10_setParent_57, sX10_setParent_60, sX10_setParent_62, sX10_setParent_63, sX10_setParent_64, sX10_setParent_67, mCk, mG0, mG1, mG2, mG3, mG4, mG5, mG6, mG7, mG8, mG9, mG10, mG11, mG12, mG13, mG14, mG15, mG16, mG17, mG18, mG19, mG20, mP2, mP5, mP6, mP7, mP9, mP11, mP14, mA1, mS1, mA2, mS2, mA3, mS3, mA4, mS4, mA5, mS5, mA6, mS6, mA7, mS7, mA8, mS8, mA9, mS9, mA10, mS10, mA11, mS11, mA12, mS12, mA13, mS13, mA14, mS14, zpush_v, zpush_n, gCk, gAi, gSi, gSz, gLi, gLq, ↓if_pos, ↓if_neg, isSt_t hS.1 h10 hk, w, L, nI_nm1, m_placeOf, nI_add, m_sets h5, e1]
    rcases dO_cases p.1.1.1 x (by omega) with ⟨rfl, e⟩ | ⟨k2, hk2, rfl, e⟩ | ⟨⟨g1, g2⟩, e⟩
    · exact good none _ rfl e (fun q hq => by cases hq) (fun Q => isSN_n Q)
    · exact good (some k2) _ rfl e (fun q hq => by cases hq; exact hk2) (fun Q => isSN_t hS.1 h10 hk2 Q)
    · unfold opSetParent
      rw [es]
      simp only
      rw [e]
      refine ⟨_, Same.rf, hr, fun Q => ?_⟩
      rw [eX10_setParent]
      simp (disch := (first | omega | assumption | (simp (disch := omega) only [Int32.lt_iff_toInt_lt, Int32.le_iff_toInt_le, ← Int32.toInt_inj, nI_toInt, zi_m1, zi_m2, zi_m3, zi_m9]; omega) | decide)) only [sX10_setParent_0, sX10_setParent_1, sX10_setParent_2, sX10_setParent_5, sX10_setParent_8, sX10_setParent_9, sX10_setParent_10, sX10_setParent_13, sX10_setParent_16, sX10_setParent_17, sX10_setParent_18, sX10_setParent_19i, sX10_setParent_19r, sX10_setParent_19z, sX10_setParent_19o, mCk, mG0, mG1, mG2, mG3, mG4, mG5, mG6, mG7, mG8, mG9, mG10, mG11, mG12, mG13, mG14, mG15, mG16, mG17, mG18, mG19, mG20, mP2, mP5, mP6, mP7, mP9, mP11, mP14, mA1, mS1, mA2, mS2, mA3, mS3, mA4, mS4, mA5, mS5, mA6, mS6, mA7, mS7, mA8, mS8, mA9, mS9, mA10, mS10, mA11, mS11, mA12, mS12, mA13, mS13, mA14, mS14, zpush_v, zpush_n, gCk, gAi, gSi, gSz, gLi, gLq, ↓if_pos, ↓if_neg, isSt_t hS.1 h10 hk, isSN_f hS.1 h10 g2 g1]
  · unfold opSetParent
    rw [es]
    refine ⟨_, Same.rf, hr, fun Q => ?_⟩
    rw [eX10_setParent]
    simp (disch := (first | omega | assumption | (simp (disch := omega) only [Int32.lt_iff_toInt_lt, Int32.le_iff_toInt_le, ← Int32.toInt_inj, nI_toInt, zi_m1, zi_m2, zi_m3, zi_m9]; omega) | decide)) only [sX10_setParent_0, sX10_setParent_1, sX10_setParent_2, sX10_setParent_5, sX10_setParent_8, sX10_setParent_9, sX10_setParent_10, sX10_setParent_13, sX10_setParent_16, sX10_setParent_17, sX10_setParent_18, sX10_setParent_19i, sX10_setParent_19r, sX10_setParent_19z, sX10_setParent_19o, mCk, mG0, mG1, mG2, mG3, mG4, mG5, mG6, mG7, mG8, mG9, mG10, mG11, mG12, mG13, mG14, mG15, mG16, mG17, mG18, mG19, mG20, mP2, mP5, mP6, mP7, mP9, mP11, mP14, mA1, mS1, mA2, mS2, mA3, mS3, mA4, mS4, mA5, mS5, mA6, mS6, mA7, mS7, mA8, mS8, mA9, mS9, mA10, mS10, mA11, mS11, mA12, mS12, mA13, mS13, mA14, mS14, zpush_v, zpush_n, gCk, gAi, gSi, gSz, gLi, gLq, ↓if_pos, ↓if_neg, isSt_f hS.1 h10 gs]
theorem y_setStyle (hr : rM h M p) (hw : WfP p) (s pr x : Int32) : ∃ h', Same h h' M 15 ∧ rM h' M (opSetStyle p s pr x).1 ∧ ∀ Q : Option Value → Hp → Prop, WPm 118 [.ref M, .int s, .int pr, .int x] h Q = Q (some (.int (opSetStyle p s pr x).2)) h' := by
  obtain ⟨h0, v, pa, fl, tx, it, sg, lat, hat, nw, os, hgh, pl, asd, lks, ct, wr, im, sm, sy, rfl, hv, hp, ht⟩ := id hr
  have hws := hw.1.1
  have h10 := hws.1
  have hS := hv.1
  have h5 := hw.2.2.1
  unfold opSetStyle
  rcases dN_cases p.1.1.1 s (by omega) with ⟨k, hk, rfl, es⟩ | ⟨gs, es⟩
  · rw [es]
    simp only
    rcases dN_cases 6 pr (by omega) with ⟨q, hq, rfl, e2⟩ | ⟨g, e2⟩
    · rw [e2]
      simp only
      have e1 := (hS.2 k hk).2 q hq
      rcases dV_cases q x with ⟨rfl, e⟩ | ⟨w, hx, rfl, e⟩ | ⟨⟨g1, g2⟩, e⟩
      · rw [e]
        refine ⟨(mkM h0 M (upd v (10 + 7 * k + q) (eN none)) (actP pa v p.2.1.length) (nI (actN p.2.1.length)) fl tx (nI p.2.2.length) ct wr it im sg sm lat hat sy nw os hgh pl asd lks), mkM_same, rM.kp hv hp ht hw (hv.sh hw.1 (hS.setO hq) (fun q hq => by rw [upd_off (by omega)])), fun Q => ?_⟩
        rw [eX10_setStyle]
        simp (disch := (first | omega | assumption | (simp (disch := omega) only [Int32.lt_iff_toInt_lt, Int32.le_iff_toInt_le, ← Int32.toInt_inj, nI_toInt, zi_m1, zi_m2, zi_m3, zi_m9]; omega) | decide)) only [sX10_setStyle_0, sX10_setStyle_1, sX10_setStyle_2, sX10_setStyle_3, sX10_setStyle_6, sX10_setStyle_9, sX10_setStyle_10, sX10_setStyle_11, sX10_setStyle_14, sX10_setStyle_15, sX10_setStyle_16, sX10_setStyle_19, sX10_setStyle_22, sX10_setStyle_23, sX10_setStyle_26, sX10_setStyle_27i, sX10_setStyle_27r, sX10_setStyle_27z, sX10_setStyle_27o, sX10_setStyle_29, sX10_setStyle_30, sX10_setStyle_31, sX10_setStyle_34, sX10_setStyle_37, sX10_setStyle_39, sX10_setStyle_42, sX10_setStyle_43, sX10_setStyle_44, sX10_setStyle_47, sX10_setStyle_48, sX10_setStyle_49, sX10_setStyle_50, sX10_setStyle_53, sX10_setStyle_56, sX10_setStyle_57, mCk, mG0, mG1, mG2, mG3, mG4, mG5, mG6, mG7, mG8, mG9, mG10, mG11, mG12, mG13, mG14, mG15, mG16, mG17, mG18, mG19, mG20, mP2, mP5, mP6, mP7, mP9, mP11, mP14, mA1, mS1, mA2, mS2, mA3, mS3, mA4, mS4, mA5, mS5, mA6, mS6, mA7, mS7, mA8, mS8, mA9, mS9, mA10, mS10, mA11, mS11, mA12, mS12, mA13, mS13, mA14, mS14, zpush_v, zpush_n, gCk, gAi, gSi, gSz, gLi, gLq, ↓if_pos, ↓if_neg, isSt_t hS.1 h10 hk, in5_t hq, m_placeOf, nI_add, m_sets h5, e1, eN_n]
      · rw [e]
        have := hiP_le q
        refine ⟨(mkM h0 M (upd v (10 + 7 * k + q) (eN (some w))) (actP pa v p.2.1.length) (nI (actN p.2.1.length)) fl tx (nI p.2.2.length) ct wr it im sg sm lat hat sy nw os hgh pl asd lks), mkM_same, rM.kp hv hp ht hw (hv.sh hw.1 (hS.setO hq) (fun q hq => by rw [upd_off (by omega)])), fun Q => ?_⟩
        rw [eX10_setStyle]
        simp (disch := (first | omega | assumption | (simp (disch := omega) only [Int32.lt_iff_toInt_lt, Int32.le_iff_toInt_le, ← Int32.toInt_inj, nI_toInt, zi_m1, zi_m2, zi_m3, zi_m9]; omega) | decide)) only [sX10_setStyle_0, sX10_setStyle_1, sX10_setStyle_2, sX10_setStyle_3, sX10_setStyle_6, sX10_setStyle_9, sX10_setStyle_10, sX10_setStyle_11, sX10_setStyle_14, sX10_setStyle_15, sX10_setStyle_16, sX10_setStyle_19, sX10_setStyle_22, sX10_setStyle_23, sX10_setStyle_26, sX10_setStyle_27i, sX10_setStyle_27r, sX10_setStyle_27z, sX10_setStyle_27o, sX10_setStyle_29, sX10_setStyle_30, sX10_setStyle_31, sX10_setStyle_34, sX10_setStyle_37, sX10_setStyle_39, sX10_setStyle_42, sX10_setStyle_43, sX10_setStyle_44, sX10_setStyle_47, sX10_setStyle_48, sX10_setStyle_49, sX10_setStyle_50, sX10_setStyle_53, sX10_setStyle_56, sX10_setStyle_57, mCk, mG0, mG1, mG2, mG3, mG4, mG5, mG6, mG7, mG8, mG9, mG10, mG11, mG12, mG13, mG14, mG15, mG16, mG17, mG18, mG19, mG20, mP2, mP5, mP6, mP7, mP9, mP11, mP14, mA1, mS1, mA2, mS2, mA3, mS3, mA4, mS4, mA5, mS5, mA6, mS6, mA7, mS7, mA8, mS8, mA9, mS9, mA10, mS10, mA11, mS11, mA12, mS12, mA13, mS13, mA14, mS14, zpush_v, zpush_n, gCk, gAi, gSi, gSz, gLi, gLq, ↓if_pos, ↓if_neg, isSt_t hS.1 h10 hk, in5_t hq, isV_t hq hx, m_placeOf, nI_add, m_sets h5, e1, eN_s, nI_nm1]
      · rw [e]
        refine ⟨_, Same.rf, hr, fun Q => ?_⟩
        rw [eX10_setStyle]
        simp (disch := (first | omega | assumption | (simp (disch := omega) only [Int32.lt_iff_toInt_lt, Int32.le_iff_toInt_le, ← Int32.toInt_inj, nI_toInt, zi_m1, zi_m2, zi_m3, zi_m9]; omega) | decide)) only [sX10_setStyle_0, sX10_setStyle_1, sX10_setStyle_2, sX10_setStyle_3, sX10_setStyle_6, sX10_setStyle_9, sX10_setStyle_10, sX10_setStyle_11, sX10_setStyle_14, sX10_setStyle_15, sX10_setStyle_16, sX10_setStyle_19, sX10_setStyle_22, sX10_setStyle_23, sX10_setStyle_26, sX10_setStyle_27i, sX10_setStyle_27r, sX10_setStyle_27z, sX10_setStyle_27o, sX10_setStyle_29, sX10_setStyle_30, sX10_setStyle_31, sX10_setStyle_34, sX10_setStyle_37, sX10_setStyle_39, sX10_setStyle_42, sX10_setStyle_43, sX10_setStyle_44, sX10_setStyle_47, sX10_setStyle_48, sX10_setStyle_49, sX10_setStyle_50, sX10_setStyle_53, sX10_setStyle_56, sX10_setStyle_57, mCk, mG0, mG1, mG2, mG3, mG4, mG5, mG6, mG7, mG8, mG9, mG10, mG11, mG12, mG13, mG14, mG15, mG16, mG17, mG18, mG19, mG20, mP2, mP5, mP6, mP7, mP9, mP11, mP14, mA1, mS1, mA2, mS2, mA3, mS3, mA4, mS4, mA5, mS5, mA6, mS6, mA7, mS7, mA8, mS8, mA9, mS9, mA10, mS10, mA11, mS11, mA12, mS12, mA13, mS13, mA14, mS14, zpush_v, zpush_n, gCk, gAi, gSi, gSz, gLi, gLq, ↓if_pos, ↓if_neg, isSt_t hS.1 h10 hk, in5_t hq, isV_f hq g2]
    · rw [e2]
      refine ⟨_, Same.rf, hr, fun Q => ?_⟩
      rw [eX10_setStyle]
      simp (disch := (first | omega | assumption | (simp (disch := omega) only [Int32.lt_iff_toInt_lt, Int32.le_iff_toInt_le, ← Int32.toInt_inj, nI_toInt, zi_m1, zi_m2, zi_m3, zi_m9]; omega) | decide)) only [sX10_setStyle_0, sX10_setStyle_1, sX10_setStyle_2, sX10_setStyle_3, sX10_setStyle_6, sX10_setStyle_9, sX10_setStyle_10, sX10_setStyle_11, sX10_setStyle_14, sX10_setStyle_15, sX10_setStyle_16, sX10_setStyle_19, sX10_setStyle_22, sX10_setStyle_23, sX10_setStyle_26, sX10_setStyle_27i, sX10_setStyle_27r, sX10_setStyle_27z, sX10_setStyle_27o, sX10_setStyle_29, sX10_setStyle_30, sX10_setStyle_31, sX10_setStyle_34, sX10_setStyle_37, sX10_setStyle_39, sX10_setStyle_42, sX10_setStyle_43, sX10_setStyle_44, sX10_setStyle_47, sX10_setStyle_48, sX10_setStyle_49, sX10_setStyle_50, sX10_setStyle_53, sX10_setStyle_56, sX10_setStyle_57, mCk, mG0, mG1, mG2, mG3, mG4, mG5, mG6, mG7, mG8, mG9, mG10, mG11, mG12, mG13, mG14, mG15, mG16, mG17, mG18, mG19, mG20, mP2, mP5, mP6, mP7, mP9, mP11, mP14, mA1, mS1, mA2, mS2, mA3, mS3, mA4, mS4, mA5, mS5, mA6, mS6, mA7, mS7, mA8, mS8, mA9, mS9, mA10, mS10, mA11, mS11, mA12, mS12, mA13, mS13, mA14, mS14, zpush_v, zpush_n, gCk, gAi, gSi, gSz, gLi, gLq, ↓if_pos, ↓if_neg, isSt_t hS.1 h10 hk, in5_f g]
  · rw [es]
    refine ⟨_, Same.rf, hr, fun Q => ?_⟩
    rw [eX10_setStyle]
    rcases dN_cases 6 pr (by omega) with ⟨q, hq, rfl, e2⟩ | ⟨g, e2⟩
    · by_cases c : x = -1
      · simp (disch := (first | omega | assumption | (simp (disch := omega) only [Int32.lt_iff_toInt_lt, Int32.le_iff_toInt_le, ← Int32.toInt_inj, nI_toInt, zi_m1, zi_m2, zi_m3, zi_m9]; omega) | decide)) only [sX10_setStyle_0, sX10_setStyle_1, sX10_setStyle_2, sX10_setStyle_3, sX10_setStyle_6, sX10_setStyle_9, sX10_setStyle_10, sX10_setStyle_11, sX10_setStyle_14, sX10_setStyle_15, sX10_setStyle_16, sX10_setStyle_19, sX10_setStyle_22, sX10_setStyle_23, sX10_setStyle_26, sX10_setStyle_27i, sX10_setStyle_27r, sX10_setStyle_27z, sX10_setStyle_27o, sX10_setStyle_29, sX10_setStyle_30, sX10_setStyle_31, sX10_setStyle_34, sX10_setStyle_37, sX10_setStyle_39, sX10_setStyle_42, sX10_setStyle_43, sX10_setStyle_44, sX10_setStyle_47, sX10_setStyle_48, sX10_setStyle_49, sX10_setStyle_50, sX10_setStyle_53, sX10_setStyle_56, sX10_setStyle_57, mCk, mG0, mG1, mG2, mG3, mG4, mG5, mG6, mG7, mG8, mG9, mG10, mG11, mG12, mG13, mG14, mG15, mG16, mG17, mG18, mG19, mG20, mP2, mP5, mP6, mP7, mP9, mP11, mP14, mA1, mS1, mA2, mS2, mA3, mS3, mA4, mS4, mA5, mS5, mA6, mS6, mA7, mS7, mA8, mS8, mA9, mS9, mA10, mS10, mA11, mS11, mA12, mS12, mA13, mS13, mA14, mS14, zpush_v, zpush_n, gCk, gAi, gSi, gSz, gLi, gLq, ↓if_pos, ↓if_neg, isSt_f hS.1 h10 gs, in5_t hq]
      · rcases dV_cases q x with ⟨rfl, e⟩ | ⟨w, hx, rfl, e⟩ | ⟨⟨g1, g2⟩, e⟩
        · exact absurd rfl c
        · simp (disch := (first | omega | assumption | (simp (disch := omega) only [Int32.lt_iff_toInt_lt, Int32.le_iff_toInt_le, ← Int32.toInt_inj, nI_toInt, zi_m1, zi_m2, zi_m3, zi_m9]; omega) | decide)) only [sX10_setStyle_0, sX10_setStyle_1, sX10_setStyle_2, sX10_setStyle_3, sX10_setStyle_6, sX10_setStyle_9, sX10_setStyle_10, sX10_setStyle_11, sX10_setStyle_14, sX10_setStyle_15, sX10_setStyle_16, sX10_setStyle_19, sX10_setStyle_22, sX10_setStyle_23, sX10_setStyle_26, sX10_setStyle_27i, sX10_setStyle_27r, sX10_setStyle_27z, sX10_setStyle_27o, sX10_setStyle_29, sX10_setStyle_30, sX10_setStyle_31, sX10_setStyle_34, sX10_setStyle_37, sX10_setStyle_39, sX10_setStyle_42, sX10_setStyle_43, sX10_setStyle_44, sX10_setStyle_47, sX10_setStyle_48, sX10_setStyle_49, sX10_setStyle_50, sX10_setStyle_53, sX10_setStyle_56, sX10_setStyle_57, mCk, mG0, mG1, mG2, mG3, mG4, mG5, mG6, mG7, mG8, mG9, mG10, mG11, mG12, mG13, mG14, mG15, mG16, mG17, mG18, mG19, mG20, mP2, mP5, mP6, mP7, mP9, mP11, mP14, mA1, mS1, mA2, mS2, mA3, mS3, mA4, mS4, mA5, mS5, mA6, mS6, mA7, mS7, mA8, mS8, mA9, mS9, mA10, mS10, mA11, mS11, mA12, mS12, mA13, mS13, mA14, mS14, zpush_v, zpush_n, gCk, gAi, gSi, gSz, gLi, gLq, ↓if_pos, ↓if_neg, isSt_f hS.1 h10 gs, in5_t hq, isV_t hq hx]
        · simp (disch := (first | omega | assumption | (simp (disch := omega) only [Int32.lt_iff_toInt_lt, Int32.le_iff_toInt_le, ← Int32.toInt_inj, nI_toInt, zi_m1, zi_m2, zi_m3, zi_m9]; omega) | decide)) only [sX10_setStyle_0, sX10_setStyle_1, sX10_setStyle_2, sX10_setStyle_3, sX10_setStyle_6, sX10_setStyle_9, sX10_setStyle_10, sX10_setStyle_11, sX10_setStyle_14, sX10_setStyle_15, sX10_setStyle_16, sX10_setStyle_19, sX10_setStyle_22, sX10_setStyle_23, sX10_setStyle_26, sX10_setStyle_27i, sX10_setStyle_27r, sX10_setStyle_27z, sX10_setStyle_27o, sX10_setStyle_29, sX10_setStyle_30, sX10_setStyle_31, sX10_setStyle_34, sX10_setStyle_37, sX10_setStyle_39, sX10_setStyle_42, sX10_setStyle_43, sX10_setStyle_44, sX10_setStyle_47, sX10_setStyle_48, sX10_setStyle_49, sX10_setStyle_50, sX10_setStyle_53, sX10_setStyle_56, sX10_setStyle_57, mCk, mG0, mG1, mG2, mG3, mG4, mG5, mG6, mG7, mG8, mG9, mG10, mG11, mG12, mG13, mG14, mG15, mG16, mG17, mG18, mG19, mG20, mP2, mP5, mP6, mP7, mP9, mP11, mP14, mA1, mS1, mA2, mS2, mA3, mS3, mA4, mS4, mA5, mS5, mA6, mS6, mA7, mS7, mA8, mS8, mA9, mS9, mA10, mS10, mA11, mS11, mA12, mS12, mA13, mS13, mA14, mS14, zpush_v, zpush_n, gCk, gAi, gSi, gSz, gLi, gLq, ↓if_pos, ↓if_neg, isSt_f hS.1 h10 gs, in5_t hq, isV_f hq g2]
    · simp (disch := (first | omega | assumption | (simp (disch := omega) only [Int32.lt_iff_toInt_lt, Int32.le_iff_toInt_le, ← Int32.toInt_inj, nI_toInt, zi_m1, zi_m2, zi_m3, zi_m9]; omega) | decide)) only [sX10_setStyle_0, sX10_setStyle_1, sX10_setStyle_2, sX10_setStyle_3, sX10_setStyle_6, sX10_setStyle_9, sX10_setStyle_10, sX10_setStyle_11, sX10_setStyle_14, sX10_setStyle_15, sX10_setStyle_16, sX10_setStyle_19, sX10_setStyle_22, sX10_setStyle_23, sX10_setStyle_26, sX10_setStyle_27i, sX10_setStyle_27r, sX10_setStyle_27z, sX10_setStyle_27o, sX10_setStyle_29, sX10_setStyle_30, sX10_setStyle_31, sX10_setStyle_34, sX10_setStyle_37, sX10_setStyle_39, sX10_setStyle_42, sX10_setStyle_43, sX10_setStyle_44, sX10_setStyle_47, sX10_setStyle_48, sX10_setStyle_49, sX10_setStyle_50, sX10_setStyle_53, sX10_setStyle_56, sX10_setStyle_57, mCk, mG0, mG1, mG2, mG3, mG4, mG5, mG6, mG7, mG8, mG9, mG10, mG11, mG12, mG13, mG14, mG15, mG16, mG17, mG18, mG19, mG20, mP2, mP5, mP6, mP7, mP9, mP11, mP14, mA1, mS1, mA2, mS2, mA3, mS3, mA4, mS4, mA5, mS5, mA6, mS6, mA7, mS7, mA8, mS8, mA9, mS9, mA10, mS10, mA11, mS11, mA12, mS12, mA13, mS13, mA14, mS14, zpush_v, zpush_n, gCk, gAi, gSi, gSz, gLi, gLq, ↓if_pos, ↓if_neg, isSt_f hS.1 h10 gs, in5_f g]
end MD
