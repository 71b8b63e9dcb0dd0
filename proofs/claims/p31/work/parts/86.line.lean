/-! the law's line(): the signs of a line -/
section LN
variable {h : Hp} {X B : Nat} {p : PS} {n : Nat}
theorem r_ab0 (hr : rP h X B p) (hw : WfP p) {i : Nat} (hi : i < p.1.2.1.length) (Q : Option Value → Hp → Prop) : WPm 88 [.ref X, .int (nI i), .int (nI 0)] h Q = Q (some (.int (nI (lnA p.1.2.1 i).1))) h := r_about hr hw hi (by omega) Q
theorem r_ab1 (hr : rP h X B p) (hw : WfP p) {i : Nat} (hi : i < p.1.2.1.length) (Q : Option Value → Hp → Prop) : WPm 88 [.ref X, .int (nI i), .int (nI 1)] h Q = Q (some (.int (nI (lnA p.1.2.1 i).2.1))) h := r_about hr hw hi (by omega) Q
theorem r_ab2 (hr : rP h X B p) (hw : WfP p) {i : Nat} (hi : i < p.1.2.1.length) (Q : Option Value → Hp → Prop) : WPm 88 [.ref X, .int (nI i), .int (nI 2)] h Q = Q (some (.int (eN (lnA p.1.2.1 i).2.2.1))) h := r_about hr hw hi (by omega) Q
theorem r_ab3 (hr : rP h X B p) (hw : WfP p) {i : Nat} (hi : i < p.1.2.1.length) (Q : Option Value → Hp → Prop) : WPm 88 [.ref X, .int (nI i), .int (nI 3)] h Q = Q (some (.int (eN (lnA p.1.2.1 i).2.2.2.1))) h := r_about hr hw hi (by omega) Q
theorem r_ab4 (hr : rP h X B p) (hw : WfP p) {i : Nat} (hi : i < p.1.2.1.length) (Q : Option Value → Hp → Prop) : WPm 88 [.ref X, .int (nI i), .int (nI 4)] h Q = Q (some (.int (nI (rdL p.1.1 (lnA p.1.2.1 i)).2.1.length))) h := r_about hr hw hi (by omega) Q
theorem r_ab5 (hr : rP h X B p) (hw : WfP p) {i : Nat} (hi : i < p.1.2.1.length) (Q : Option Value → Hp → Prop) : WPm 88 [.ref X, .int (nI i), .int (nI 5)] h Q = Q (some (.int (nI (rdL p.1.1 (lnA p.1.2.1 i)).2.2.length))) h := r_about hr hw hi (by omega) Q
theorem r_ab6 (hr : rP h X B p) (hw : WfP p) {i : Nat} (hi : i < p.1.2.1.length) (Q : Option Value → Hp → Prop) : WPm 88 [.ref X, .int (nI i), .int (nI 6)] h Q = Q (some (.int (nI (rdL p.1.1 (lnA p.1.2.1 i)).2.2.sum))) h := r_about hr hw hi (by omega) Q
theorem r_ab7 (hr : rP h X B p) (hw : WfP p) {i : Nat} (hi : i < p.1.2.1.length) (Q : Option Value → Hp → Prop) : WPm 88 [.ref X, .int (nI i), .int (nI 7)] h Q = Q (some (.int (bI ((rdL p.1.1 (lnA p.1.2.1 i)).2.2.sum ≤ (lnA p.1.2.1 i).2.1 - (lnA p.1.2.1 i).1)))) h := r_about hr hw hi (by omega) Q
theorem r_ab8 (hr : rP h X B p) (hw : WfP p) {i : Nat} (hi : i < p.1.2.1.length) (Q : Option Value → Hp → Prop) : WPm 88 [.ref X, .int (nI i), .int (nI 8)] h Q = Q (some (.int (nI (hgL p.1.1 (lnA p.1.2.1 i))))) h := r_about hr hw hi (by omega) Q
theorem r_ab9 (hr : rP h X B p) (hw : WfP p) {i : Nat} (hi : i < p.1.2.1.length) (Q : Option Value → Hp → Prop) : WPm 88 [.ref X, .int (nI i), .int (nI 9)] h Q = Q (some (.int (nI (offC p.1.1 p.1.2.1 i)))) h := r_about hr hw hi (by omega) Q
theorem r_ab10 (hr : rP h X B p) (hw : WfP p) {i : Nat} (hi : i < p.1.2.1.length) (Q : Option Value → Hp → Prop) : WPm 88 [.ref X, .int (nI i), .int (nI 10)] h Q = Q (some (.int (nI (valS p.1.1 4 (lnA p.1.2.1 i).2.2.1)))) h := r_about hr hw hi (by omega) Q
theorem sgW0 {x : Sgn} : sgW x 0 = nI x.1 := rfl
theorem sgW1 {x : Sgn} : sgW x 1 = nI (x.2.1 0) := rfl
theorem sgW4 {x : Sgn} : sgW x 4 = nI (x.2.1 3) := rfl
theorem sgW5 {x : Sgn} : sgW x 5 = eS x.2.2 := rfl
theorem syW0 {b k : Nat} {r : Rd} : syW b r k 0 = nI (b + (r.2.2.take k).sum) := rfl
theorem syW1 {b k : Nat} {r : Rd} : syW b r k 1 = nI (r.2.2.getD k 0) := rfl
theorem syW2 {b k : Nat} {r : Rd} : syW b r k 2 = nI (cntS r.2.1 k) := rfl
theorem shP_in {ln : Ln} {t : Nat} (ht : t < 2147483648) (he : ln.2.1 < 2147483648) (h1 : ln.1 ≤ t) (h2 : t < ln.2.1) : shownP ln (nI t) = true := by
  unfold shownP
  rw [decide_eq_true_iff, Int32.le_iff_toInt_le, Int32.lt_iff_toInt_lt, nI_toInt ht, nI_toInt he, nI_toInt (by omega)]
  omega
theorem shP_out {ln : Ln} {t : Nat} (ht : t < 2147483648) (he : ln.2.1 < 2147483648) (hb : ln.1 < 2147483648) (h1 : t < ln.1 ∨ ln.2.1 ≤ t) : shownP ln (nI t) = false := by
  unfold shownP
  rw [decide_eq_false_iff_not, Int32.le_iff_toInt_le, Int32.lt_iff_toInt_lt, nI_toInt ht, nI_toInt he, nI_toInt hb]
  omega
theorem shP_pre {ln : Ln} (he : ln.2.1 < 2147483648) (hb : ln.1 < 2147483648) : shownP ln (nI ln.1 - nI 1) = false := by
  by_cases c : ln.1 = 0
  · rw [c]
    unfold shownP
    rw [decide_eq_false_iff_not, c]
    rintro ⟨q, -⟩
    exact absurd q (by decide)
  · rw [nI_sub (by omega) hb]
    exact shP_out (by omega) he hb (Or.inl (by omega))
theorem sgP_n {b : Nat} {l : List Nat} {t : Int32} : sungP b l none t = false := rfl
theorem sgP_t {b j t : Nat} {l : List Nat} (h1 : b + (l.take j).sum < 2147483648) (h2 : t < 2147483648) (h : b + (l.take j).sum ≤ t) : sungP b l (some j) (nI t) = true := by
  show decide _ = true
  rw [decide_eq_true_iff, Int32.le_iff_toInt_le, nI_toInt h1, nI_toInt h2]
  omega
theorem sgP_f {b j t : Nat} {l : List Nat} (h1 : b + (l.take j).sum < 2147483648) (h2 : t < 2147483648) (h : ¬ b + (l.take j).sum ≤ t) : sungP b l (some j) (nI t) = false := by
  show decide _ = false
  rw [decide_eq_false_iff_not, Int32.le_iff_toInt_le, nI_toInt h1, nI_toInt h2]
  omega
theorem okR_sum {r : Rd} (hr : okR r 80 20) : r.2.2.sum ≤ 199980 := by
  have a := sum_le hr.2.2.2.2
  have b := hr.2.1
  have c : r.2.2.length * 9999 ≤ 20 * 9999 := Nat.mul_le_mul_right _ b
  omega
theorem ft : (false = true) = False := by simp
/-- a sign's times -/
theorem l_lnS (hr : rP h X B p) (hw : WfP p) (hn : n < p.1.2.1.length) {i : Nat} {x : Sgn} (hx : (rdL p.1.1 (lnA p.1.2.1 n)).2.1[i]? = some x) (l4 l5 l6 l7 l8 l12 : Option Value) (y9 : Int32) (Q : Option Value → Hp → Prop) :
    WP 112 206 [some (.ref X), some (.int (nI n)), some (.int (nI (lnA p.1.2.1 n).1)), some (.int (nI (lnA p.1.2.1 n).2.1)), l4, l5, l6, l7, l8, some (.int y9), some (.int (nI i)), some (.int (eS x.2.2)), l12, none, none, none, none, none, none, none, none] [] h Q =
    WP 112 66 [some (.ref X), some (.int (nI n)), some (.int (nI (lnA p.1.2.1 n).1)), some (.int (nI (lnA p.1.2.1 n).2.1)), l4, l5, l6, l7, l8, some (.int y9), some (.int (nI (i + 1))), some (.int (eS x.2.2)), l12, none, none, none, none, none, none, none, none] [] h Q := by
  have wl := lnA_wf hw.1.2.1 n
  have g1 := wl.1
  have g2 := wl.2.1
  have h16 := hw.1.2.1.1
  have ok := rdL_ok hw.1.1 wl
  have hs := okR_sum ok
  have hi := (List.getElem?_eq_some_iff.mp hx).1
  have hi80 := ok.1
  have hxe : (rdL p.1.1 (lnA p.1.2.1 n)).2.1.getD i (0, (fun _ => 0), none) = x := by rw [List.getD_eq_getElem?_getD, hx]; rfl
  have t1 := shP_out (ln := (lnA p.1.2.1 n)) (t := (lnA p.1.2.1 n).2.1) (by omega) (by omega) (by omega) (Or.inr (Nat.le_refl _))
  have t2 := shP_pre (ln := (lnA p.1.2.1 n)) (by omega) (by omega)
  have t3 := shP_in (ln := (lnA p.1.2.1 n)) (t := (lnA p.1.2.1 n).2.1 - 1) (by omega) (by omega) (by omega) (by omega)
  have t4 := shP_in (ln := (lnA p.1.2.1 n)) (t := (lnA p.1.2.1 n).1) (by omega) (by omega) (by omega) (by omega)
  have t5 := nI_sub (a := (lnA p.1.2.1 n).2.1) (b := 1) (by omega) (by omega)
  cases hq : x.2.2 with
  | none =>
    simp (disch := (first | omega | assumption | (simp (disch := omega) only [Int32.lt_iff_toInt_lt, Int32.le_iff_toInt_le, ← Int32.toInt_inj, nI_toInt, zi_m1, zi_m2, zi_m3, zi_m9]; omega) | decide)) only [sL_line_206, sL_line_207, sL_line_208, sL_line_210, sL_line_211, sL_line_214, sL_line_216, sL_line_219, sL_line_220, sL_line_221, sL_line_223, sL_line_224, sL_line_225, sL_line_226, sL_line_229, sL_line_231, sL_line_234, sL_line_235, sL_line_236, sL_line_238, sL_line_239, sL_line_240, sL_line_241, sL_line_244, sL_line_245, sL_line_246, sL_line_248, sL_line_250, sL_line_253, sL_line_254, sL_line_255, sL_line_257, sL_line_258, sL_line_261, sL_line_262, sL_line_265, sL_line_266, sL_line_269, sL_line_270, sL_line_273, sL_line_276, sL_line_277, sL_line_278, sL_line_280, sL_line_281, sL_line_284, sL_line_285, sL_line_286, sL_line_288, sL_line_290, sL_line_293, sL_line_294, sL_line_295, sL_line_297, sL_line_298, sL_line_301, sL_line_302, sL_line_305, sL_line_306, sL_line_309, sL_line_310, sL_line_313, sL_line_316, sL_line_317, sL_line_318i, sL_line_318r, sL_line_318z, sL_line_318o, sL_line_321, zpush_v, zpush_n, gCk, gAi, gSi, gLi, gLq, ↓if_pos, ↓if_neg, ↓reduceIte, eq_self, not_true_eq_false, not_false_eq_true, r_ck hr, r_shows hr hw, r_sign hr hw, hxe, hq, t1, t2, t3, t4, t5, sgP_n, ft, eS, nI_add, ite_self]
  | some j =>
    have hj := (ok.2.2.2.1 x (List.mem_of_getElem? hx)).2 j hq
    have hj20 := ok.2.1
    have sj := take_sum_le (l := (rdL p.1.1 (lnA p.1.2.1 n)).2.2) j
    by_cases c1 : (lnA p.1.2.1 n).1 + ((rdL p.1.1 (lnA p.1.2.1 n)).2.2.take j).sum ≤ (lnA p.1.2.1 n).1
    · have u1 := sgP_t (b := (lnA p.1.2.1 n).1) (l := (rdL p.1.1 (lnA p.1.2.1 n)).2.2) (j := j) (t := (lnA p.1.2.1 n).2.1 - 1) (by omega) (by omega) (by omega)
      have u2 := sgP_t (b := (lnA p.1.2.1 n).1) (l := (rdL p.1.1 (lnA p.1.2.1 n)).2.2) (j := j) (t := (lnA p.1.2.1 n).1) (by omega) (by omega) c1
      simp (disch := (first | omega | assumption | (simp (disch := omega) only [Int32.lt_iff_toInt_lt, Int32.le_iff_toInt_le, ← Int32.toInt_inj, nI_toInt, zi_m1, zi_m2, zi_m3, zi_m9]; omega) | decide)) only [sL_line_206, sL_line_207, sL_line_208, sL_line_210, sL_line_211, sL_line_214, sL_line_216, sL_line_219, sL_line_220, sL_line_221, sL_line_223, sL_line_224, sL_line_225, sL_line_226, sL_line_229, sL_line_231, sL_line_234, sL_line_235, sL_line_236, sL_line_238, sL_line_239, sL_line_240, sL_line_241, sL_line_244, sL_line_245, sL_line_246, sL_line_248, sL_line_250, sL_line_253, sL_line_254, sL_line_255, sL_line_257, sL_line_258, sL_line_261, sL_line_262, sL_line_265, sL_line_266, sL_line_269, sL_line_270, sL_line_273, sL_line_276, sL_line_277, sL_line_278, sL_line_280, sL_line_281, sL_line_284, sL_line_285, sL_line_286, sL_line_288, sL_line_290, sL_line_293, sL_line_294, sL_line_295, sL_line_297, sL_line_298, sL_line_301, sL_line_302, sL_line_305, sL_line_306, sL_line_309, sL_line_310, sL_line_313, sL_line_316, sL_line_317, sL_line_318i, sL_line_318r, sL_line_318z, sL_line_318o, sL_line_321, zpush_v, zpush_n, gCk, gAi, gSi, gLi, gLq, ↓if_pos, ↓if_neg, ↓reduceIte, eq_self, not_true_eq_false, not_false_eq_true, r_ck hr, r_shows hr hw, r_sign hr hw, r_syl hr hw, syW0, hxe, hq, t1, t2, t3, t4, t5, u1, u2, ft, eS, nI_add]
    · have u2 := sgP_f (b := (lnA p.1.2.1 n).1) (l := (rdL p.1.1 (lnA p.1.2.1 n)).2.2) (j := j) (t := (lnA p.1.2.1 n).1) (by omega) (by omega) c1
      by_cases c2 : (lnA p.1.2.1 n).1 + ((rdL p.1.1 (lnA p.1.2.1 n)).2.2.take j).sum ≤ (lnA p.1.2.1 n).2.1 - 1
      · have u1 := sgP_t (b := (lnA p.1.2.1 n).1) (l := (rdL p.1.1 (lnA p.1.2.1 n)).2.2) (j := j) (t := (lnA p.1.2.1 n).2.1 - 1) (by omega) (by omega) c2
        simp (disch := (first | omega | assumption | (simp (disch := omega) only [Int32.lt_iff_toInt_lt, Int32.le_iff_toInt_le, ← Int32.toInt_inj, nI_toInt, zi_m1, zi_m2, zi_m3, zi_m9]; omega) | decide)) only [sL_line_206, sL_line_207, sL_line_208, sL_line_210, sL_line_211, sL_line_214, sL_line_216, sL_line_219, sL_line_220, sL_line_221, sL_line_223, sL_line_224, sL_line_225, sL_line_226, sL_line_229, sL_line_231, sL_line_234, sL_line_235, sL_line_236, sL_line_238, sL_line_239, sL_line_240, sL_line_241, sL_line_244, sL_line_245, sL_line_246, sL_line_248, sL_line_250, sL_line_253, sL_line_254, sL_line_255, sL_line_257, sL_line_258, sL_line_261, sL_line_262, sL_line_265, sL_line_266, sL_line_269, sL_line_270, sL_line_273, sL_line_276, sL_line_277, sL_line_278, sL_line_280, sL_line_281, sL_line_284, sL_line_285, sL_line_286, sL_line_288, sL_line_290, sL_line_293, sL_line_294, sL_line_295, sL_line_297, sL_line_298, sL_line_301, sL_line_302, sL_line_305, sL_line_306, sL_line_309, sL_line_310, sL_line_313, sL_line_316, sL_line_317, sL_line_318i, sL_line_318r, sL_line_318z, sL_line_318o, sL_line_321, zpush_v, zpush_n, gCk, gAi, gSi, gLi, gLq, ↓if_pos, ↓if_neg, ↓reduceIte, eq_self, not_true_eq_false, not_false_eq_true, r_ck hr, r_shows hr hw, r_sign hr hw, r_syl hr hw, syW0, hxe, hq, t1, t2, t3, t4, t5, u1, u2, ft, eS, nI_add]
      · have u1 := sgP_f (b := (lnA p.1.2.1 n).1) (l := (rdL p.1.1 (lnA p.1.2.1 n)).2.2) (j := j) (t := (lnA p.1.2.1 n).2.1 - 1) (by omega) (by omega) c2
        simp (disch := (first | omega | assumption | (simp (disch := omega) only [Int32.lt_iff_toInt_lt, Int32.le_iff_toInt_le, ← Int32.toInt_inj, nI_toInt, zi_m1, zi_m2, zi_m3, zi_m9]; omega) | decide)) only [sL_line_206, sL_line_207, sL_line_208, sL_line_210, sL_line_211, sL_line_214, sL_line_216, sL_line_219, sL_line_220, sL_line_221, sL_line_223, sL_line_224, sL_line_225, sL_line_226, sL_line_229, sL_line_231, sL_line_234, sL_line_235, sL_line_236, sL_line_238, sL_line_239, sL_line_240, sL_line_241, sL_line_244, sL_line_245, sL_line_246, sL_line_248, sL_line_250, sL_line_253, sL_line_254, sL_line_255, sL_line_257, sL_line_258, sL_line_261, sL_line_262, sL_line_265, sL_line_266, sL_line_269, sL_line_270, sL_line_273, sL_line_276, sL_line_277, sL_line_278, sL_line_280, sL_line_281, sL_line_284, sL_line_285, sL_line_286, sL_line_288, sL_line_290, sL_line_293, sL_line_294, sL_line_295, sL_line_297, sL_line_298, sL_line_301, sL_line_302, sL_line_305, sL_line_306, sL_line_309, sL_line_310, sL_line_313, sL_line_316, sL_line_317, sL_line_318i, sL_line_318r, sL_line_318z, sL_line_318o, sL_line_321, zpush_v, zpush_n, gCk, gAi, gSi, gLi, gLq, ↓if_pos, ↓if_neg, ↓reduceIte, eq_self, not_true_eq_false, not_false_eq_true, r_ck hr, r_shows hr hw, r_sign hr hw, r_syl hr hw, syW0, hxe, hq, t1, t2, t3, t4, t5, u1, u2, ft, eS, nI_add]
/-- a sign itself -/
theorem l_lnH (hr : rP h X B p) (hw : WfP p) (hn : n < p.1.2.1.length) {i : Nat} {x : Sgn} (hx : (rdL p.1.1 (lnA p.1.2.1 n)).2.1[i]? = some x) (hg : okGs x (rdL p.1.1 (lnA p.1.2.1 n)).2.2.length) {H c9 : Nat} {last : Int32} (hl : ¬ eS x.2.2 < last) (hH : H ≤ 99) (h9 : c9 ≤ 80) (l2 l3 l4 l11 l12 : Option Value) (Q : Option Value → Hp → Prop) :
    WP 112 66 [some (.ref X), some (.int (nI n)), l2, l3, l4, some (.int (nI (rdL p.1.1 (lnA p.1.2.1 n)).2.1.length)), some (.int (nI (rdL p.1.1 (lnA p.1.2.1 n)).2.2.length)), some (.int (nI H)), some (.int last), some (.int (nI c9)), some (.int (nI i)), l11, l12, none, none, none, none, none, none, none, none] [] h Q =
    WP 112 206 [some (.ref X), some (.int (nI n)), l2, l3, l4, some (.int (nI (rdL p.1.1 (lnA p.1.2.1 n)).2.1.length)), some (.int (nI (rdL p.1.1 (lnA p.1.2.1 n)).2.2.length)), some (.int (nI (max H (x.2.1 0)))), some (.int (eS x.2.2)), some (.int (nI (c9 + (if x.2.2.isSome = true then 1 else 0)))), some (.int (nI i)), some (.int (eS x.2.2)), some (.int (nI (x.2.1 0))), none, none, none, none, none, none, none, none] [] h Q := by
  have h16 := hw.1.2.1.1
  have wl := lnA_wf hw.1.2.1 n
  have ok := rdL_ok hw.1.1 wl
  have hi := (List.getElem?_eq_some_iff.mp hx).1
  have hi80 := ok.1
  have hj20 := ok.2.1
  have hxe : (rdL p.1.1 (lnA p.1.2.1 n)).2.1.getD i (0, (fun _ => 0), none) = x := by rw [List.getD_eq_getElem?_getD, hx]; rfl
  obtain ⟨⟨g1, g2, g3, g4⟩, ⟨g5, g6⟩, g7⟩ := hg
  cases hq : x.2.2 with
  | none =>
    rw [hq] at hl
    simp only [Option.isSome_none, Bool.false_eq_true, if_false, Nat.add_zero, eS] at hl ⊢
    by_cases c : x.2.1 0 ≤ H
    · rw [Nat.max_eq_left c]
      simp (disch := (first | omega | assumption | (simp (disch := omega) only [Int32.lt_iff_toInt_lt, Int32.le_iff_toInt_le, ← Int32.toInt_inj, nI_toInt, zi_m1, zi_m2, zi_m3, zi_m9]; omega) | decide)) only [sL_line_66, sL_line_68, sL_line_70, sL_line_73, sL_line_74, sL_line_75, sL_line_77, sL_line_78, sL_line_81i, sL_line_81r, sL_line_81z, sL_line_81o, sL_line_83, sL_line_84, sL_line_85, sL_line_87, sL_line_88, sL_line_91i, sL_line_91r, sL_line_91z, sL_line_91o, sL_line_93, sL_line_95, sL_line_97, sL_line_100, sL_line_102, sL_line_104, sL_line_107, sL_line_109, sL_line_110, sL_line_113, sL_line_115, sL_line_117, sL_line_120, sL_line_121, sL_line_122, sL_line_124, sL_line_125, sL_line_128, sL_line_130, sL_line_133, sL_line_134, sL_line_135, sL_line_137, sL_line_138, sL_line_141, sL_line_143, sL_line_146, sL_line_147, sL_line_148, sL_line_150, sL_line_151, sL_line_154, sL_line_157, sL_line_158, sL_line_159, sL_line_161, sL_line_162, sL_line_165, sL_line_166, sL_line_169, sL_line_170, sL_line_171, sL_line_173i, sL_line_173r, sL_line_173z, sL_line_173o, sL_line_175, sL_line_177, sL_line_179, sL_line_182, sL_line_183, sL_line_186, sL_line_187, sL_line_188i, sL_line_188r, sL_line_188z, sL_line_188o, sL_line_190, sL_line_192, sL_line_194, sL_line_197, sL_line_199, sL_line_202, sL_line_204i, sL_line_204r, sL_line_204z, sL_line_204o, zpush_v, zpush_n, gCk, gAi, gSi, gLi, gLq, ↓if_pos, ↓if_neg, ↓reduceIte, eq_self, not_true_eq_false, not_false_eq_true, r_ck hr, r_sign hr hw, hxe, hq, hl, sgW0, sgW1, sgW4, sgW5, eS, nI_add, Nat.add_zero]
    · rw [Nat.max_eq_right (by omega)]
      simp (disch := (first | omega | assumption | (simp (disch := omega) only [Int32.lt_iff_toInt_lt, Int32.le_iff_toInt_le, ← Int32.toInt_inj, nI_toInt, zi_m1, zi_m2, zi_m3, zi_m9]; omega) | decide)) only [sL_line_66, sL_line_68, sL_line_70, sL_line_73, sL_line_74, sL_line_75, sL_line_77, sL_line_78, sL_line_81i, sL_line_81r, sL_line_81z, sL_line_81o, sL_line_83, sL_line_84, sL_line_85, sL_line_87, sL_line_88, sL_line_91i, sL_line_91r, sL_line_91z, sL_line_91o, sL_line_93, sL_line_95, sL_line_97, sL_line_100, sL_line_102, sL_line_104, sL_line_107, sL_line_109, sL_line_110, sL_line_113, sL_line_115, sL_line_117, sL_line_120, sL_line_121, sL_line_122, sL_line_124, sL_line_125, sL_line_128, sL_line_130, sL_line_133, sL_line_134, sL_line_135, sL_line_137, sL_line_138, sL_line_141, sL_line_143, sL_line_146, sL_line_147, sL_line_148, sL_line_150, sL_line_151, sL_line_154, sL_line_157, sL_line_158, sL_line_159, sL_line_161, sL_line_162, sL_line_165, sL_line_166, sL_line_169, sL_line_170, sL_line_171, sL_line_173i, sL_line_173r, sL_line_173z, sL_line_173o, sL_line_175, sL_line_177, sL_line_179, sL_line_182, sL_line_183, sL_line_186, sL_line_187, sL_line_188i, sL_line_188r, sL_line_188z, sL_line_188o, sL_line_190, sL_line_192, sL_line_194, sL_line_197, sL_line_199, sL_line_202, sL_line_204i, sL_line_204r, sL_line_204z, sL_line_204o, zpush_v, zpush_n, gCk, gAi, gSi, gLi, gLq, ↓if_pos, ↓if_neg, ↓reduceIte, eq_self, not_true_eq_false, not_false_eq_true, r_ck hr, r_sign hr hw, hxe, hq, hl, sgW0, sgW1, sgW4, sgW5, eS, nI_add, Nat.add_zero]
  | some j =>
    have hj := g7 j hq
    rw [hq] at hl
    simp only [Option.isSome_some, if_true, eS] at hl ⊢
    by_cases c : x.2.1 0 ≤ H
    · rw [Nat.max_eq_left c]
      simp (disch := (first | omega | assumption | (simp (disch := omega) only [Int32.lt_iff_toInt_lt, Int32.le_iff_toInt_le, ← Int32.toInt_inj, nI_toInt, zi_m1, zi_m2, zi_m3, zi_m9]; omega) | decide)) only [sL_line_66, sL_line_68, sL_line_70, sL_line_73, sL_line_74, sL_line_75, sL_line_77, sL_line_78, sL_line_81i, sL_line_81r, sL_line_81z, sL_line_81o, sL_line_83, sL_line_84, sL_line_85, sL_line_87, sL_line_88, sL_line_91i, sL_line_91r, sL_line_91z, sL_line_91o, sL_line_93, sL_line_95, sL_line_97, sL_line_100, sL_line_102, sL_line_104, sL_line_107, sL_line_109, sL_line_110, sL_line_113, sL_line_115, sL_line_117, sL_line_120, sL_line_121, sL_line_122, sL_line_124, sL_line_125, sL_line_128, sL_line_130, sL_line_133, sL_line_134, sL_line_135, sL_line_137, sL_line_138, sL_line_141, sL_line_143, sL_line_146, sL_line_147, sL_line_148, sL_line_150, sL_line_151, sL_line_154, sL_line_157, sL_line_158, sL_line_159, sL_line_161, sL_line_162, sL_line_165, sL_line_166, sL_line_169, sL_line_170, sL_line_171, sL_line_173i, sL_line_173r, sL_line_173z, sL_line_173o, sL_line_175, sL_line_177, sL_line_179, sL_line_182, sL_line_183, sL_line_186, sL_line_187, sL_line_188i, sL_line_188r, sL_line_188z, sL_line_188o, sL_line_190, sL_line_192, sL_line_194, sL_line_197, sL_line_199, sL_line_202, sL_line_204i, sL_line_204r, sL_line_204z, sL_line_204o, zpush_v, zpush_n, gCk, gAi, gSi, gLi, gLq, ↓if_pos, ↓if_neg, ↓reduceIte, eq_self, not_true_eq_false, not_false_eq_true, r_ck hr, r_sign hr hw, hxe, hq, hl, sgW0, sgW1, sgW4, sgW5, eS, nI_add, Nat.add_zero]
    · rw [Nat.max_eq_right (by omega)]
      simp (disch := (first | omega | assumption | (simp (disch := omega) only [Int32.lt_iff_toInt_lt, Int32.le_iff_toInt_le, ← Int32.toInt_inj, nI_toInt, zi_m1, zi_m2, zi_m3, zi_m9]; omega) | decide)) only [sL_line_66, sL_line_68, sL_line_70, sL_line_73, sL_line_74, sL_line_75, sL_line_77, sL_line_78, sL_line_81i, sL_line_81r, sL_line_81z, sL_line_81o, sL_line_83, sL_line_84, sL_line_85, sL_line_87, sL_line_88, sL_line_91i, sL_line_91r, sL_line_91z, sL_line_91o, sL_line_93, sL_line_95, sL_line_97, sL_line_100, sL_line_102, sL_line_104, sL_line_107, sL_line_109, sL_line_110, sL_line_113, sL_line_115, sL_line_117, sL_line_120, sL_line_121, sL_line_122, sL_line_124, sL_line_125, sL_line_128, sL_line_130, sL_line_133, sL_line_134, sL_line_135, sL_line_137, sL_line_138, sL_line_141, sL_line_143, sL_line_146, sL_line_147, sL_line_148, sL_line_150, sL_line_151, sL_line_154, sL_line_157, sL_line_158, sL_line_159, sL_line_161, sL_line_162, sL_line_165, sL_line_166, sL_line_169, sL_line_170, sL_line_171, sL_line_173i, sL_line_173r, sL_line_173z, sL_line_173o, sL_line_175, sL_line_177, sL_line_179, sL_line_182, sL_line_183, sL_line_186, sL_line_187, sL_line_188i, sL_line_188r, sL_line_188z, sL_line_188o, sL_line_190, sL_line_192, sL_line_194, sL_line_197, sL_line_199, sL_line_202, sL_line_204i, sL_line_204r, sL_line_204z, sL_line_204o, zpush_v, zpush_n, gCk, gAi, gSi, gLi, gLq, ↓if_pos, ↓if_neg, ↓reduceIte, eq_self, not_true_eq_false, not_false_eq_true, r_ck hr, r_sign hr hw, hxe, hq, hl, sgW0, sgW1, sgW4, sgW5, eS, nI_add, Nat.add_zero]
end LN
