/-! the model: the places, whole -/
theorem z01 : nI 0 &&& 1 = nI 0 := by decide
theorem z11 : nI 1 &&& 1 = nI 1 := by decide
def hgF (hgh : Nat → Int32) (st : Stt) (i : Nat) : Nat → Int32 := fun q => if q < i then nI (hgL st.1 (lnA st.2.1 q)) else hgh q
theorem hgF_0 (hgh : Nat → Int32) (st : Stt) : hgF hgh st 0 = hgh := by funext q; exact if_neg (by omega)
theorem hgF_step (hgh : Nat → Int32) (st : Stt) (i : Nat) : upd (hgF hgh st i) i (nI (hgL st.1 (lnA st.2.1 i))) = hgF hgh st (i + 1) := by
  funext q
  simp only [hgF, upd]
  by_cases c : q = i
  · subst c
    rw [if_pos rfl, if_pos (by omega)]
  · rw [if_neg c]
    by_cases d : q < i
    · rw [if_pos d, if_pos (by omega)]
    · rw [if_neg d, if_neg (by omega)]
def zrF (pl : Nat → Int32) (i : Nat) : Nat → Int32 := fun q => if q < i then nI 0 else pl q
theorem zrF_0 (pl : Nat → Int32) : zrF pl 0 = pl := by funext q; exact if_neg (by omega)
theorem zrF_step (pl : Nat → Int32) (i : Nat) : upd (zrF pl i) i (nI 0) = zrF pl (i + 1) := by
  funext q
  simp only [zrF, upd]
  by_cases c : q = i
  · subst c
    rw [if_pos rfl, if_pos (by omega)]
  · rw [if_neg c]
    by_cases d : q < i
    · rw [if_pos d, if_pos (by omega)]
    · rw [if_neg d, if_neg (by omega)]
section MK
variable {h0 : Hp} {M : Nat} {v pa fl tx it sg lat hat nw os hgh pl asd lks : Nat → Int32} {pm ty ct wr im sm sy : Int32}
theorem l_places1 {st : Stt} (hv : encV v st) (hw : WfSt st) : ∀ (m i : Nat), m + i = st.2.1.length → ∀ (sg lat hat nw : Nat → Int32) (sm sy : Int32), ∃ sg' lat' hat' nw' sm' sy', ∀ (l2 l3 : Option Value) (Q : Option Value → Hp → Prop),
    WP 152 2 [some (.ref M), some (.int (nI i)), l2, l3] [] (mkM h0 M v pa pm fl tx ty ct wr it im sg sm lat hat sy nw os (hgF hgh st i) (zrF pl i) asd lks) Q = WP 152 41 [some (.ref M), some (.int (nI st.2.1.length)), l2, l3] [] (mkM h0 M v pa pm fl tx ty ct wr it im sg' sm' lat' hat' sy' nw' os (hgF hgh st st.2.1.length) (zrF pl st.2.1.length) asd lks) Q := by
  have h16 := hw.2.1.1
  have hv1 := hv.2.1
  intro m
  induction m with
  | zero =>
    intro i hi sg lat hat nw sm sy
    have hi : i = st.2.1.length := by omega
    subst hi
    refine ⟨sg, lat, hat, nw, sm, sy, fun l2 l3 Q => ?_⟩
    rw [sX10_places_2]
    simp (disch := (first | omega | assumption | (simp (disch := omega) only [Int32.lt_iff_toInt_lt, Int32.le_iff_toInt_le, ← Int32.toInt_inj, nI_toInt, zi_m1, zi_m2, zi_m3, zi_m9]; omega) | decide)) only [sX10_places_3, sX10_places_4, sX10_places_7, sX10_places_8, sX10_places_9, mCk, mG0, mG1, mG2, mG3, mG4, mG5, mG6, mG7, mG8, mG9, mG10, mG11, mG12, mG13, mG14, mG15, mG16, mG17, mG18, mG19, mG20, mP2, mP5, mP6, mP7, mP9, mP11, mP14, mA1, mS1, mA2, mS2, mA3, mS3, mA4, mS4, mA5, mS5, mA6, mS6, mA7, mS7, mA8, mS8, mA9, mS9, mA10, mS10, mA11, mS11, mA12, mS12, mA13, mS13, mA14, mS14, zpush_v, zpush_n, gCk, gAi, gSi, gSz, gLi, gLq, ↓if_pos, ↓if_neg, hv1]
  | succ m ih =>
    intro i hi sg lat hat nw sm sy
    have hi2 : i < st.2.1.length := by omega
    obtain ⟨sg1, lat1, hat1, nw1, g1, g2⟩ := m_goes (h0 := h0) (M := M) (v := v) (pa := pa) (pm := pm) (fl := fl) (tx := tx) (ty := ty) (ct := ct) (wr := wr) (it := it) (im := im) (sg := sg) (sm := sm) (lat := lat) (hat := hat) (sy := sy) (nw := nw) (os := os) (hgh := hgF hgh st i) (pl := zrF pl i) (asd := asd) (lks := lks) hv hw hi2
    have t := fun Q => m_tall (h0 := h0) (M := M) (v := v) (pa := pa) (pm := pm) (fl := fl) (tx := tx) (ty := ty) (ct := ct) (wr := wr) (it := it) (im := im) (sg := sg1) (lat := lat1) (hat := hat1) (sy := nI (rdL st.1 (lnA st.2.1 i)).2.2.length) (nw := nw1) (os := os) (hgh := hgF hgh st i) (pl := zrF pl i) (asd := asd) (lks := lks) hv hw hi2 g1 Q
    obtain ⟨sg', lat', hat', nw', sm', sy', q⟩ := ih (i + 1) (by omega) sg1 lat1 hat1 nw1 (nI (rdL st.1 (lnA st.2.1 i)).2.1.length) (nI (rdL st.1 (lnA st.2.1 i)).2.2.length)
    refine ⟨sg', lat', hat', nw', sm', sy', fun l2 l3 Q => ?_⟩
    rw [← q l2 l3 Q, sX10_places_2]
    simp (disch := (first | omega | assumption | (simp (disch := omega) only [Int32.lt_iff_toInt_lt, Int32.le_iff_toInt_le, ← Int32.toInt_inj, nI_toInt, zi_m1, zi_m2, zi_m3, zi_m9]; omega) | decide)) only [sX10_places_3, sX10_places_4, sX10_places_7, sX10_places_8, sX10_places_9, sX10_places_12, sX10_places_13, sX10_places_14, sX10_places_17, sX10_places_18, sX10_places_21, sX10_places_22, sX10_places_23, sX10_places_24, sX10_places_27, sX10_places_28, sX10_places_29, sX10_places_32, sX10_places_33, sX10_places_34, sX10_places_35i, sX10_places_35r, sX10_places_35z, sX10_places_35o, sX10_places_38, mCk, mG0, mG1, mG2, mG3, mG4, mG5, mG6, mG7, mG8, mG9, mG10, mG11, mG12, mG13, mG14, mG15, mG16, mG17, mG18, mG19, mG20, mP2, mP5, mP6, mP7, mP9, mP11, mP14, mA1, mS1, mA2, mS2, mA3, mS3, mA4, mS4, mA5, mS5, mA6, mS6, mA7, mS7, mA8, mS8, mA9, mS9, mA10, mS10, mA11, mS11, mA12, mS12, mA13, mS13, mA14, mS14, zpush_v, zpush_n, gCk, gAi, gSi, gSz, gLi, gLq, ↓if_pos, ↓if_neg, hv1, g2, t, z01, nI_add, hgF_step, zrF_step]
theorem l_places2 {st : Stt} (hv : encV v st) (hw : WfSt st) {u : Nat → Bool} (hu : ∀ n, n < st.2.1.length → pl n = bI (¬ u n = true)) (x : Int32) (Q : Option Value → Hp → Prop) : ∀ (m i : Nat), m + i = st.2.1.length →
    WP 152 58 [some (.ref M), some (.int x), some (.int (eS (bsM (fun i => (lnA st.2.1 i).1) u i))), some (.int (nI i))] [] (mkM h0 M v pa pm fl tx ty ct wr it im sg sm lat hat sy nw os hgh pl asd lks) Q = WP 152 118 [some (.ref M), some (.int x), some (.int (eS (bsM (fun i => (lnA st.2.1 i).1) u st.2.1.length))), some (.int (nI st.2.1.length))] [] (mkM h0 M v pa pm fl tx ty ct wr it im sg sm lat hat sy nw os hgh pl asd lks) Q := by
  have h16 := hw.2.1.1
  have hv1 := hv.2.1
  intro m
  induction m with
  | zero =>
    intro i hi
    have hi : i = st.2.1.length := by omega
    subst hi
    rw [sX10_places_58]
    simp (disch := (first | omega | assumption | (simp (disch := omega) only [Int32.lt_iff_toInt_lt, Int32.le_iff_toInt_le, ← Int32.toInt_inj, nI_toInt, zi_m1, zi_m2, zi_m3, zi_m9]; omega) | decide)) only [sX10_places_59, sX10_places_60, sX10_places_63, sX10_places_64, sX10_places_65, mCk, mG0, mG1, mG2, mG3, mG4, mG5, mG6, mG7, mG8, mG9, mG10, mG11, mG12, mG13, mG14, mG15, mG16, mG17, mG18, mG19, mG20, mP2, mP5, mP6, mP7, mP9, mP11, mP14, mA1, mS1, mA2, mS2, mA3, mS3, mA4, mS4, mA5, mS5, mA6, mS6, mA7, mS7, mA8, mS8, mA9, mS9, mA10, mS10, mA11, mS11, mA12, mS12, mA13, mS13, mA14, mS14, zpush_v, zpush_n, gCk, gAi, gSi, gSz, gLi, gLq, ↓if_pos, ↓if_neg, hv1]
  | succ m ih =>
    intro i hi
    have hi2 : i < st.2.1.length := by omega
    have ui := hu i hi2
    have ei := (encL.at hv.2.2.2 hi2).1
    have wi := lnA_wf hw.2.1 i
    have wi1 := wi.1
    have wi2 := wi.2.1
    have := ih (i + 1) (by omega)
    rw [← this, sX10_places_58]
    obtain ⟨b1, -⟩ := bsM_ok (fun i => (lnA st.2.1 i).1) u i
    by_cases c : u i = true
    · rw [bI_f (by simp [c])] at ui
      cases hq : bsM (fun i => (lnA st.2.1 i).1) u i with
      | none =>
        simp only [bsM, hq, c, if_true]
        rw [show eS none = -9 from rfl, show eS (some i) = nI i from rfl]
        simp (disch := (first | omega | assumption | (simp (disch := omega) only [Int32.lt_iff_toInt_lt, Int32.le_iff_toInt_le, ← Int32.toInt_inj, nI_toInt, zi_m1, zi_m2, zi_m3, zi_m9]; omega) | decide)) only [sX10_places_59, sX10_places_60, sX10_places_63, sX10_places_64, sX10_places_65, sX10_places_68, sX10_places_69, sX10_places_72, sX10_places_73, sX10_places_74, sX10_places_77, sX10_places_78, sX10_places_81, sX10_places_82, sX10_places_85, sX10_places_86, sX10_places_89, sX10_places_90, sX10_places_91, sX10_places_92, sX10_places_93, sX10_places_96, sX10_places_97, sX10_places_100, sX10_places_101, sX10_places_102, sX10_places_103, sX10_places_106, sX10_places_107, sX10_places_110, sX10_places_111i, sX10_places_111r, sX10_places_111z, sX10_places_111o, sX10_places_112i, sX10_places_112r, sX10_places_112z, sX10_places_112o, sX10_places_115, mCk, mG0, mG1, mG2, mG3, mG4, mG5, mG6, mG7, mG8, mG9, mG10, mG11, mG12, mG13, mG14, mG15, mG16, mG17, mG18, mG19, mG20, mP2, mP5, mP6, mP7, mP9, mP11, mP14, mA1, mS1, mA2, mS2, mA3, mS3, mA4, mS4, mA5, mS5, mA6, mS6, mA7, mS7, mA8, mS8, mA9, mS9, mA10, mS10, mA11, mS11, mA12, mS12, mA13, mS13, mA14, mS14, zpush_v, zpush_n, gCk, gAi, gSi, gSz, gLi, gLq, ↓if_pos, ↓if_neg, hv1, ui, nI_add]
      | some b =>
        have hb := (b1 b hq).1
        have eb := (encL.at hv.2.2.2 (show b < st.2.1.length by omega)).1
        have wb := lnA_wf hw.2.1 b
        have wb1 := wb.1
        have wb2 := wb.2.1
        by_cases d : (lnA st.2.1 i).1 < (lnA st.2.1 b).1
        · simp only [bsM, hq, c, d, and_self, if_true]
          rw [show eS (some b) = nI b from rfl, show eS (some i) = nI i from rfl]
          simp (disch := (first | omega | assumption | (simp (disch := omega) only [Int32.lt_iff_toInt_lt, Int32.le_iff_toInt_le, ← Int32.toInt_inj, nI_toInt, zi_m1, zi_m2, zi_m3, zi_m9]; omega) | decide)) only [sX10_places_59, sX10_places_60, sX10_places_63, sX10_places_64, sX10_places_65, sX10_places_68, sX10_places_69, sX10_places_72, sX10_places_73, sX10_places_74, sX10_places_77, sX10_places_78, sX10_places_81, sX10_places_82, sX10_places_85, sX10_places_86, sX10_places_89, sX10_places_90, sX10_places_91, sX10_places_92, sX10_places_93, sX10_places_96, sX10_places_97, sX10_places_100, sX10_places_101, sX10_places_102, sX10_places_103, sX10_places_106, sX10_places_107, sX10_places_110, sX10_places_111i, sX10_places_111r, sX10_places_111z, sX10_places_111o, sX10_places_112i, sX10_places_112r, sX10_places_112z, sX10_places_112o, sX10_places_115, mCk, mG0, mG1, mG2, mG3, mG4, mG5, mG6, mG7, mG8, mG9, mG10, mG11, mG12, mG13, mG14, mG15, mG16, mG17, mG18, mG19, mG20, mP2, mP5, mP6, mP7, mP9, mP11, mP14, mA1, mS1, mA2, mS2, mA3, mS3, mA4, mS4, mA5, mS5, mA6, mS6, mA7, mS7, mA8, mS8, mA9, mS9, mA10, mS10, mA11, mS11, mA12, mS12, mA13, mS13, mA14, mS14, zpush_v, zpush_n, gCk, gAi, gSi, gSz, gLi, gLq, ↓if_pos, ↓if_neg, hv1, ui, m_lineAt, ei, eb, nI_add]
        · simp only [bsM, hq, c, d, and_false, if_false]
          rw [show eS (some b) = nI b from rfl]
          simp (disch := (first | omega | assumption | (simp (disch := omega) only [Int32.lt_iff_toInt_lt, Int32.le_iff_toInt_le, ← Int32.toInt_inj, nI_toInt, zi_m1, zi_m2, zi_m3, zi_m9]; omega) | decide)) only [sX10_places_59, sX10_places_60, sX10_places_63, sX10_places_64, sX10_places_65, sX10_places_68, sX10_places_69, sX10_places_72, sX10_places_73, sX10_places_74, sX10_places_77, sX10_places_78, sX10_places_81, sX10_places_82, sX10_places_85, sX10_places_86, sX10_places_89, sX10_places_90, sX10_places_91, sX10_places_92, sX10_places_93, sX10_places_96, sX10_places_97, sX10_places_100, sX10_places_101, sX10_places_102, sX10_places_103, sX10_places_106, sX10_places_107, sX10_places_110, sX10_places_111i, sX10_places_111r, sX10_places_111z, sX10_places_111o, sX10_places_112i, sX10_places_112r, sX10_places_112z, sX10_places_112o, sX10_places_115, mCk, mG0, mG1, mG2, mG3, mG4, mG5, mG6, mG7, mG8, mG9, mG10, mG11, mG12, mG13, mG14, mG15, mG16, mG17, mG18, mG19, mG20, mP2, mP5, mP6, mP7, mP9, mP11, mP14, mA1, mS1, mA2, mS2, mA3, mS3, mA4, mS4, mA5, mS5, mA6, mS6, mA7, mS7, mA8, mS8, mA9, mS9, mA10, mS10, mA11, mS11, mA12, mS12, mA13, mS13, mA14, mS14, zpush_v, zpush_n, gCk, gAi, gSi, gSz, gLi, gLq, ↓if_pos, ↓if_neg, hv1, ui, m_lineAt, ei, eb, nI_add]
    · rw [bI_t c] at ui
      have e : bsM (fun i => (lnA st.2.1 i).1) u (i + 1) = bsM (fun i => (lnA st.2.1 i).1) u i := by
        simp only [bsM, c, false_and, if_false]
        split <;> simp_all
      rw [e]
      simp (disch := (first | omega | assumption | (simp (disch := omega) only [Int32.lt_iff_toInt_lt, Int32.le_iff_toInt_le, ← Int32.toInt_inj, nI_toInt, zi_m1, zi_m2, zi_m3, zi_m9]; omega) | decide)) only [sX10_places_59, sX10_places_60, sX10_places_63, sX10_places_64, sX10_places_65, sX10_places_68, sX10_places_69, sX10_places_72, sX10_places_73, sX10_places_74, sX10_places_77, sX10_places_78, sX10_places_81, sX10_places_82, sX10_places_85, sX10_places_86, sX10_places_89, sX10_places_90, sX10_places_91, sX10_places_92, sX10_places_93, sX10_places_96, sX10_places_97, sX10_places_100, sX10_places_101, sX10_places_102, sX10_places_103, sX10_places_106, sX10_places_107, sX10_places_110, sX10_places_111i, sX10_places_111r, sX10_places_111z, sX10_places_111o, sX10_places_112i, sX10_places_112r, sX10_places_112z, sX10_places_112o, sX10_places_115, mCk, mG0, mG1, mG2, mG3, mG4, mG5, mG6, mG7, mG8, mG9, mG10, mG11, mG12, mG13, mG14, mG15, mG16, mG17, mG18, mG19, mG20, mP2, mP5, mP6, mP7, mP9, mP11, mP14, mA1, mS1, mA2, mS2, mA3, mS3, mA4, mS4, mA5, mS5, mA6, mS6, mA7, mS7, mA8, mS8, mA9, mS9, mA10, mS10, mA11, mS11, mA12, mS12, mA13, mS13, mA14, mS14, zpush_v, zpush_n, gCk, gAi, gSi, gSz, gLi, gLq, ↓if_pos, ↓if_neg, hv1, ui, nI_add]
theorem l_places3 {st : Stt} (hv : encV v st) (hw : WfSt st) {f : Nat → Nat} {t : Nat} (hS : pSrt (fun i => (lnA st.2.1 i).1) st.2.1.length f) (ht : t < st.2.1.length) (hpl : ∀ n, n < st.2.1.length → pl n = bI (plB f t n = true)) (hos : ∀ n, n < st.2.1.length → plB f t n = true → os n = nI (offC st.1 st.2.1 n)) (hhg : ∀ n, n < st.2.1.length → hgh n = nI (hgL st.1 (lnA st.2.1 n))) (x : Int32) (Q : Option Value → Hp → Prop) : ∀ (m a : Nat), m + a = offC st.1 st.2.1 (f t) → mrg st.1 (lnA st.2.1 (f t)) ≤ a →
    WP 152 124 [some (.ref M), some (.int x), some (.int (nI (f t))), some (.int (nI a))] [] (mkM h0 M v pa pm fl tx ty ct wr it im sg sm lat hat sy nw os hgh pl asd lks) Q = WP 152 139 [some (.ref M), some (.int x), some (.int (nI (f t))), some (.int (nI (offC st.1 st.2.1 (f t))))] [] (mkM h0 M v pa pm fl tx ty ct wr it im sg sm lat hat sy nw os hgh pl asd lks) Q := by
  have hft := hS.1 t ht
  have hof : ∀ n, n < st.2.1.length → offC st.1 st.2.1 n ≤ 3400 := fun n hn => offC_le hw.1 hw.2.1 hn
  have ho := hof _ hft
  have one := offC_ok hw.1 hw.2.1 (f t) hft
  obtain ⟨o1, o2, o3⟩ := one
  have W := fun a (ha : a ≤ 3400) Q => m_inWay (h0 := h0) (M := M) (v := v) (pa := pa) (pm := pm) (fl := fl) (tx := tx) (ty := ty) (ct := ct) (wr := wr) (it := it) (im := im) (sg := sg) (sm := sm) (lat := lat) (hat := hat) (sy := sy) (nw := nw) (os := os) (hgh := hgh) (pl := pl) (asd := asd) (lks := lks) hv hw (P := plB f t) (off := offC st.1 st.2.1) hpl (fun n hn hp => ⟨hos n hn hp, hof n hn⟩) hhg hft ha Q
  have L := fun a => iwF_le (S := st.1) (L := st.2.1) (P := plB f t) (off := offC st.1 st.2.1) (b := f t) (a := a) hw.1 hw.2.1 (fun n hn _ => hof n hn) _ (Nat.le_refl _)
  have blk : ∀ a, (0 < iwF st.1 st.2.1 (plB f t) (offC st.1 st.2.1) (f t) a st.2.1.length) ↔ pBlk (pdL st.1 st.2.1) (offC st.1 st.2.1) (f t) a := by
    intro a
    rw [iwF_pos]
    constructor
    · rintro ⟨n, n1, ⟨⟨n2, n3⟩, ⟨n4, n5⟩, n6, n7⟩⟩
      have hb := (hS.before ht n1).mpr ((plB_iff t).mp n3)
      have wb := lnA_wf hw.2.1 (f t)
      have wn := lnA_wf hw.2.1 n
      have n5 := of_decide_eq_true n5
      refine ⟨n, n1, hb, n4, ?_, n7, n6⟩
      have := n5.2
      rw [Int32.lt_iff_toInt_lt, nI_toInt (by have := wb.1; have := wb.2.1; omega), nI_toInt (by have := wn.2.1; omega)] at this
      show (lnA st.2.1 (f t)).1 < (lnA st.2.1 n).2.1
      omega
    · rintro ⟨n, n1, n2, n3, n4, n5, n6⟩
      have hb := (hS.before ht n1).mp n2
      have n4 : (lnA st.2.1 (f t)).1 < (lnA st.2.1 n).2.1 := n4
      have wb := lnA_wf hw.2.1 (f t)
      have wn := lnA_wf hw.2.1 n
      have n2 : pBef (fun i => (lnA st.2.1 i).1) n (f t) := n2
      refine ⟨n, n1, ⟨?_, (plB_iff t).mpr hb⟩, ⟨n3, ?_⟩, n6, n5⟩
      · rintro rfl
        unfold pBef at n2
        omega
      · unfold shownP
        apply decide_eq_true
        have p1 := wb.1
        have p2 := wb.2.1
        have p3 := wn.1
        have p4 := wn.2.1
        have n2 : (lnA st.2.1 n).1 < (lnA st.2.1 (f t)).1 ∨ ((lnA st.2.1 n).1 = (lnA st.2.1 (f t)).1 ∧ n < f t) := n2
        rw [Int32.lt_iff_toInt_lt, Int32.le_iff_toInt_le, nI_toInt (by omega), nI_toInt (by omega), nI_toInt (by omega)]
        omega
  intro m
  induction m with
  | zero =>
    intro a ha hm
    have ha : a = offC st.1 st.2.1 (f t) := by omega
    subst ha
    have W := W _ ho
    have z : iwF st.1 st.2.1 (plB f t) (offC st.1 st.2.1) (f t) (offC st.1 st.2.1 (f t)) st.2.1.length = 0 := by
      rcases Nat.eq_zero_or_pos (iwF st.1 st.2.1 (plB f t) (offC st.1 st.2.1) (f t) (offC st.1 st.2.1 (f t)) st.2.1.length) with q | q
      · exact q
      · exact absurd ((blk _).mp q) o2
    rw [z] at W
    rw [sX10_places_124]
    simp (disch := (first | omega | assumption | (simp (disch := omega) only [Int32.lt_iff_toInt_lt, Int32.le_iff_toInt_le, ← Int32.toInt_inj, nI_toInt, zi_m1, zi_m2, zi_m3, zi_m9]; omega) | decide)) only [sX10_places_125, sX10_places_126, sX10_places_127, sX10_places_130, mCk, mG0, mG1, mG2, mG3, mG4, mG5, mG6, mG7, mG8, mG9, mG10, mG11, mG12, mG13, mG14, mG15, mG16, mG17, mG18, mG19, mG20, mP2, mP5, mP6, mP7, mP9, mP11, mP14, mA1, mS1, mA2, mS2, mA3, mS3, mA4, mS4, mA5, mS5, mA6, mS6, mA7, mS7, mA8, mS8, mA9, mS9, mA10, mS10, mA11, mS11, mA12, mS12, mA13, mS13, mA14, mS14, zpush_v, zpush_n, gCk, gAi, gSi, gSz, gLi, gLq, ↓if_pos, ↓if_neg, W]
  | succ m ih =>
    intro a ha hm
    have W := W a (by omega)
    have L := L a
    have z := (blk a).mpr (o3 a hm (by omega))
    rw [← ih (a + 1) (by omega) (by omega), sX10_places_124]
    simp (disch := (first | omega | assumption | (simp (disch := omega) only [Int32.lt_iff_toInt_lt, Int32.le_iff_toInt_le, ← Int32.toInt_inj, nI_toInt, zi_m1, zi_m2, zi_m3, zi_m9]; omega) | decide)) only [sX10_places_125, sX10_places_126, sX10_places_127, sX10_places_130, sX10_places_133i, sX10_places_133r, sX10_places_133z, sX10_places_133o, sX10_places_136, mCk, mG0, mG1, mG2, mG3, mG4, mG5, mG6, mG7, mG8, mG9, mG10, mG11, mG12, mG13, mG14, mG15, mG16, mG17, mG18, mG19, mG20, mP2, mP5, mP6, mP7, mP9, mP11, mP14, mA1, mS1, mA2, mS2, mA3, mS3, mA4, mS4, mA5, mS5, mA6, mS6, mA7, mS7, mA8, mS8, mA9, mS9, mA10, mS10, mA11, mS11, mA12, mS12, mA13, mS13, mA14, mS14, zpush_v, zpush_n, gCk, gAi, gSi, gSz, gLi, gLq, ↓if_pos, ↓if_neg, W, nI_add]
theorem l_places4 {st : Stt} (hv : encV v st) (hw : WfSt st) {f : Nat → Nat} (hS : pSrt (fun i => (lnA st.2.1 i).1) st.2.1.length f) (hhg : ∀ n, n < st.2.1.length → hgh n = nI (hgL st.1 (lnA st.2.1 n))) : ∀ (m t : Nat), m + t = st.2.1.length → ∀ (pl os : Nat → Int32), (∀ n, n < st.2.1.length → pl n = bI (plB f t n = true)) → (∀ n, n < st.2.1.length → plB f t n = true → os n = nI (offC st.1 st.2.1 n)) →
    ∃ pl' os', (∀ n, n < st.2.1.length → os' n = nI (offC st.1 st.2.1 n)) ∧ ∀ (l2 l3 : Option Value) (Q : Option Value → Hp → Prop), WP 152 43 [some (.ref M), some (.int (nI t)), l2, l3] [] (mkM h0 M v pa pm fl tx ty ct wr it im sg sm lat hat sy nw os hgh pl asd lks) Q = Q none (mkM h0 M v pa pm fl tx ty ct wr it im sg sm lat hat sy nw os' hgh pl' asd lks) := by
  have h16 := hw.2.1.1
  have hv1 := hv.2.1
  intro m
  induction m with
  | zero =>
    intro t ht pl os hpl hos
    have ht : t = st.2.1.length := by omega
    subst ht
    refine ⟨pl, os, fun n hn => hos n hn ((plB_iff _).mpr (hS.2.1 n hn)), fun l2 l3 Q => ?_⟩
    rw [sX10_places_43]
    simp (disch := (first | omega | assumption | (simp (disch := omega) only [Int32.lt_iff_toInt_lt, Int32.le_iff_toInt_le, ← Int32.toInt_inj, nI_toInt, zi_m1, zi_m2, zi_m3, zi_m9]; omega) | decide)) only [sX10_places_44, sX10_places_45, sX10_places_48, sX10_places_49, sX10_places_50, sX10_places_159, mCk, mG0, mG1, mG2, mG3, mG4, mG5, mG6, mG7, mG8, mG9, mG10, mG11, mG12, mG13, mG14, mG15, mG16, mG17, mG18, mG19, mG20, mP2, mP5, mP6, mP7, mP9, mP11, mP14, mA1, mS1, mA2, mS2, mA3, mS3, mA4, mS4, mA5, mS5, mA6, mS6, mA7, mS7, mA8, mS8, mA9, mS9, mA10, mS10, mA11, mS11, mA12, mS12, mA13, mS13, mA14, mS14, zpush_v, zpush_n, gCk, gAi, gSi, gSz, gLi, gLq, ↓if_pos, ↓if_neg, hv1]
  | succ m ih =>
    intro t ht pl os hpl hos
    have htl : t < st.2.1.length := by omega
    have hft := hS.1 t htl
    have A := fun Q => l_places2 (h0 := h0) (M := M) (v := v) (pa := pa) (pm := pm) (fl := fl) (tx := tx) (ty := ty) (ct := ct) (wr := wr) (it := it) (im := im) (sg := sg) (sm := sm) (lat := lat) (hat := hat) (sy := sy) (nw := nw) (os := os) (hgh := hgh) (pl := pl) (asd := asd) (lks := lks) hv hw (u := fun x => !plB f t x) (fun n hn => by
      rw [hpl n hn]
      by_cases c : plB f t n = true
      · rw [bI_t c, bI_t (by simp [c])]
      · rw [bI_f c, bI_f (by simp [c])]) (nI t) Q _ 0 rfl
    rw [bsM_next hS htl] at A
    have A : ∀ Q : Option Value → Hp → Prop, WP 152 58 [some (.ref M), some (.int (nI t)), some (.int (-9)), some (.int (nI 0))] [] (mkM h0 M v pa pm fl tx ty ct wr it im sg sm lat hat sy nw os hgh pl asd lks) Q = WP 152 118 [some (.ref M), some (.int (nI t)), some (.int (nI (f t))), some (.int (nI st.2.1.length))] [] (mkM h0 M v pa pm fl tx ty ct wr it im sg sm lat hat sy nw os hgh pl asd lks) Q := A
    have mg := fun Q => m_margin (h0 := h0) (M := M) (v := v) (pa := pa) (pm := pm) (fl := fl) (tx := tx) (ty := ty) (ct := ct) (wr := wr) (it := it) (im := im) (sg := sg) (sm := sm) (lat := lat) (hat := hat) (sy := sy) (nw := nw) (os := os) (hgh := hgh) (pl := pl) (asd := asd) (lks := lks) hv hw hft Q
    have o1 := (offC_ok hw.1 hw.2.1 (f t) hft).1
    have o1 : mrg st.1 (lnA st.2.1 (f t)) ≤ offC st.1 st.2.1 (f t) := o1
    have B := fun Q => l_places3 (h0 := h0) (M := M) (v := v) (pa := pa) (pm := pm) (fl := fl) (tx := tx) (ty := ty) (ct := ct) (wr := wr) (it := it) (im := im) (sg := sg) (sm := sm) (lat := lat) (hat := hat) (sy := sy) (nw := nw) (os := os) (hgh := hgh) (pl := pl) (asd := asd) (lks := lks) hv hw hS htl hpl hos hhg (nI t) Q (offC st.1 st.2.1 (f t) - mrg st.1 (lnA st.2.1 (f t))) _ (by omega) (Nat.le_refl _)
    obtain ⟨pl', os', q1, q2⟩ := ih (t + 1) (by omega) (upd pl (f t) (nI 1)) (upd os (f t) (nI (offC st.1 st.2.1 (f t)))) (fun n hn => by
      by_cases c : n = f t
      · rw [upd_is c, bI_t]
        simp [plB, c]
      · rw [upd_off c, hpl n hn]
        have : Nat.beq (f t) n = false := by
          cases hb : Nat.beq (f t) n with
          | false => rfl
          | true => exact absurd (Nat.eq_of_beq_eq_true hb).symm c
        simp only [plB, this, Bool.false_or]) (fun n hn hp => by
      by_cases c : n = f t
      · rw [upd_is c, c]
      · rw [upd_off c]
        refine hos n hn ?_
        have : Nat.beq (f t) n = false := by
          cases hb : Nat.beq (f t) n with
          | false => rfl
          | true => exact absurd (Nat.eq_of_beq_eq_true hb).symm c
        simpa only [plB, this, Bool.false_or] using hp)
    refine ⟨pl', os', q1, fun l2 l3 Q => ?_⟩
    rw [← q2 (some (.int (nI (f t)))) (some (.int (nI (offC st.1 st.2.1 (f t))))) Q, sX10_places_43]
    simp (disch := (first | omega | assumption | (simp (disch := omega) only [Int32.lt_iff_toInt_lt, Int32.le_iff_toInt_le, ← Int32.toInt_inj, nI_toInt, zi_m1, zi_m2, zi_m3, zi_m9]; omega) | decide)) only [sX10_places_44, sX10_places_45, sX10_places_48, sX10_places_49, sX10_places_50, sX10_places_53, sX10_places_55i, sX10_places_55r, sX10_places_55z, sX10_places_55o, sX10_places_56, sX10_places_57i, sX10_places_57r, sX10_places_57z, sX10_places_57o, mCk, mG0, mG1, mG2, mG3, mG4, mG5, mG6, mG7, mG8, mG9, mG10, mG11, mG12, mG13, mG14, mG15, mG16, mG17, mG18, mG19, mG20, mP2, mP5, mP6, mP7, mP9, mP11, mP14, mA1, mS1, mA2, mS2, mA3, mS3, mA4, mS4, mA5, mS5, mA6, mS6, mA7, mS7, mA8, mS8, mA9, mS9, mA10, mS10, mA11, mS11, mA12, mS12, mA13, mS13, mA14, mS14, zpush_v, zpush_n, gCk, gAi, gSi, gSz, gLi, gLq, ↓if_pos, ↓if_neg, hv1, A]
    simp (disch := (first | omega | assumption | (simp (disch := omega) only [Int32.lt_iff_toInt_lt, Int32.le_iff_toInt_le, ← Int32.toInt_inj, nI_toInt, zi_m1, zi_m2, zi_m3, zi_m9]; omega) | decide)) only [sX10_places_118, sX10_places_119, sX10_places_120, sX10_places_123i, sX10_places_123r, sX10_places_123z, sX10_places_123o, mCk, mG0, mG1, mG2, mG3, mG4, mG5, mG6, mG7, mG8, mG9, mG10, mG11, mG12, mG13, mG14, mG15, mG16, mG17, mG18, mG19, mG20, mP2, mP5, mP6, mP7, mP9, mP11, mP14, mA1, mS1, mA2, mS2, mA3, mS3, mA4, mS4, mA5, mS5, mA6, mS6, mA7, mS7, mA8, mS8, mA9, mS9, mA10, mS10, mA11, mS11, mA12, mS12, mA13, mS13, mA14, mS14, zpush_v, zpush_n, gCk, gAi, gSi, gSz, gLi, gLq, ↓if_pos, ↓if_neg, mg]
    rw [B]
    simp (disch := (first | omega | assumption | (simp (disch := omega) only [Int32.lt_iff_toInt_lt, Int32.le_iff_toInt_le, ← Int32.toInt_inj, nI_toInt, zi_m1, zi_m2, zi_m3, zi_m9]; omega) | decide)) only [sX10_places_139, sX10_places_140, sX10_places_143, sX10_places_144, sX10_places_145, sX10_places_146, sX10_places_147, sX10_places_150, sX10_places_151, sX10_places_152, sX10_places_153i, sX10_places_153r, sX10_places_153z, sX10_places_153o, sX10_places_156, mCk, mG0, mG1, mG2, mG3, mG4, mG5, mG6, mG7, mG8, mG9, mG10, mG11, mG12, mG13, mG14, mG15, mG16, mG17, mG18, mG19, mG20, mP2, mP5, mP6, mP7, mP9, mP11, mP14, mA1, mS1, mA2, mS2, mA3, mS3, mA4, mS4, mA5, mS5, mA6, mS6, mA7, mS7, mA8, mS8, mA9, mS9, mA10, mS10, mA11, mS11, mA12, mS12, mA13, mS13, mA14, mS14, zpush_v, zpush_n, gCk, gAi, gSi, gSz, gLi, gLq, ↓if_pos, ↓if_neg, z11, nI_add]
theorem m_places {st : Stt} (hv : encV v st) (hw : WfSt st) : ∃ sg' lat' hat' nw' sm' sy' hgh' pl' os', (∀ n, n < st.2.1.length → os' n = nI (offC st.1 st.2.1 n) ∧ hgh' n = nI (hgL st.1 (lnA st.2.1 n))) ∧ ∀ Q : Option Value → Hp → Prop, WPm 152 [.ref M] (mkM h0 M v pa pm fl tx ty ct wr it im sg sm lat hat sy nw os hgh pl asd lks) Q = Q none (mkM h0 M v pa pm fl tx ty ct wr it im sg' sm' lat' hat' sy' nw' os' hgh' pl' asd lks) := by
  obtain ⟨sg', lat', hat', nw', sm', sy', q⟩ := l_places1 (h0 := h0) (M := M) (v := v) (pa := pa) (pm := pm) (fl := fl) (tx := tx) (ty := ty) (ct := ct) (wr := wr) (it := it) (im := im) (os := os) (hgh := hgh) (pl := pl) (asd := asd) (lks := lks) hv hw _ 0 rfl sg lat hat nw sm sy
  rw [hgF_0, zrF_0] at q
  obtain ⟨f, hS⟩ := pSrt_ex (fun i => (lnA st.2.1 i).1) st.2.1.length
  obtain ⟨pl', os', r1, r2⟩ := l_places4 (h0 := h0) (M := M) (v := v) (pa := pa) (pm := pm) (fl := fl) (tx := tx) (ty := ty) (ct := ct) (wr := wr) (it := it) (im := im) (sg := sg') (sm := sm') (lat := lat') (hat := hat') (sy := sy') (nw := nw') (hgh := hgF hgh st st.2.1.length) (asd := asd) (lks := lks) hv hw hS (fun n hn => if_pos hn) _ 0 rfl (zrF pl st.2.1.length) os (fun n hn => by
    unfold zrF
    rw [if_pos hn]
    rfl) (fun n hn hp => by cases hp)
  refine ⟨sg', lat', hat', nw', sm', sy', hgF hgh st st.2.1.length, pl', os', fun n hn => ⟨r1 n hn, if_pos hn⟩, fun Q => ?_⟩
  rw [← r2 none none Q, eX10_places]
  simp (disch := (first | omega | assumption | (simp (disch := omega) only [Int32.lt_iff_toInt_lt, Int32.le_iff_toInt_le, ← Int32.toInt_inj, nI_toInt, zi_m1, zi_m2, zi_m3, zi_m9]; omega) | decide)) only [sX10_places_0, sX10_places_1i, sX10_places_1r, sX10_places_1z, sX10_places_1o, zpush_v, zpush_n, gCk, gAi, gSi, gSz, gLi, gLq, ↓if_pos, ↓if_neg]
  rw [q]
  simp (disch := (first | omega | assumption | (simp (disch := omega) only [Int32.lt_iff_toInt_lt, Int32.le_iff_toInt_le, ← Int32.toInt_inj, nI_toInt, zi_m1, zi_m2, zi_m3, zi_m9]; omega) | decide)) only [sX10_places_41, sX10_places_42i, sX10_places_42r, sX10_places_42z, sX10_places_42o, zpush_v, zpush_n, gCk, gAi, gSi, gSz, gLi, gLq, ↓if_pos, ↓if_neg]
end MK
