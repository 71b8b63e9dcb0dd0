/-! the law's line(), whole -/
section LY
variable {h : Hp} {X B : Nat} {p : PS} {n : Nat}
theorem l_lnZ (hr : rP h X B p) (hw : WfP p) (hn : n < p.1.2.1.length) (hb : noBr (lnA p.1.2.1 n).2.2.2.2) (l8 l10 : Option Value) (Q : Option Value → Hp → Prop) (K : Q (some (.int (nI 1))) h) :
    WP 112 414 [some (.ref X), some (.int (nI n)), some (.int (nI (lnA p.1.2.1 n).1)), some (.int (nI (lnA p.1.2.1 n).2.1)), some (.int (eN (lnA p.1.2.1 n).2.2.1)), some (.int (nI (rdL p.1.1 (lnA p.1.2.1 n)).2.1.length)), some (.int (nI (rdL p.1.1 (lnA p.1.2.1 n)).2.2.length)), some (.int (nI (hgL p.1.1 (lnA p.1.2.1 n)))), l8, some (.int (nI (bel (rdL p.1.1 (lnA p.1.2.1 n)).2.1))), l10, some (.int (nI (rdL p.1.1 (lnA p.1.2.1 n)).2.2.sum)), some (.int (nI (cK (rdL p.1.1 (lnA p.1.2.1 n)).2.1 (rdL p.1.1 (lnA p.1.2.1 n)).2.2.length))), some (.int (nI (rdL p.1.1 (lnA p.1.2.1 n)).2.2.length)), none, none, none, none, none, none, none] [] h Q := by
  have h16 := hw.1.2.1.1
  have wl := lnA_wf hw.1.2.1 n
  have ok := rdL_ok hw.1.1 wl
  have i80 := ok.1
  have hs := okR_sum ok
  have G := okG_rdL hw.1.1 wl hb
  have g1 := wl.1
  have g2 := wl.2.1
  have ek := cK_bel (rdL p.1.1 (lnA p.1.2.1 n)).2.2.length (rdL p.1.1 (lnA p.1.2.1 n)).2.1 (fun x hx => (G.2.1 x hx).2.2)
  have kb := bel_le (rdL p.1.1 (lnA p.1.2.1 n)).2.1
  have o1 := offC_le hr hn
  have gh := hgL_le hw.1.1 wl
  have mg := mrg_le hw.1.1 wl
  have m1 : mrg p.1.1 (lnA p.1.2.1 n) ≤ offC p.1.1 p.1.2.1 n := (offC_ok hw.1.1 hw.1.2.1 n hn).1
  have v4 := valS_le hw.1.1 (p := 4) (by omega) (lnA p.1.2.1 n).2.2.1
  have v5 := valS_le hw.1.1 (p := 5) (by omega) (lnA p.1.2.1 n).2.2.1
  have ho : ∀ s, (lnA p.1.2.1 n).2.2.1 = some s → s < p.1.1.1 := fun s hs => hw.1.2.2.1 _ (lnA_mem hn) s hs
  have rv := fun j hj => r_val (h := h) (X := X) (B := B) (j := j) hr hw ho hj
  have rv4 := rv 4 (by omega)
  have rv5 := rv 5 (by omega)
  have M := fun l10 l11 l12 l13 l14 => l_lnM hr hw hn (some (.int (nI (lnA p.1.2.1 n).2.1))) (some (.int (eN (lnA p.1.2.1 n).2.2.1))) (some (.int (nI (rdL p.1.1 (lnA p.1.2.1 n)).2.1.length))) (some (.int (nI (rdL p.1.1 (lnA p.1.2.1 n)).2.2.length))) l8 (some (.int (nI (bel (rdL p.1.1 (lnA p.1.2.1 n)).2.1)))) l10 l11 l12 l13 l14 Q K p.1.2.1.length 0 none none none rfl
  have b0 : bI (blB p.1.1 p.1.2.1 n 0 = true) = bI (offC p.1.1 p.1.2.1 n = mrg p.1.1 (lnA p.1.2.1 n)) := by
    by_cases c : offC p.1.1 p.1.2.1 n = mrg p.1.1 (lnA p.1.2.1 n)
    · rw [bI_t c]
      exact bI_t (decide_eq_true c)
    · rw [bI_f c]
      exact bI_f (fun q => c (of_decide_eq_true q))
  rw [b0] at M
  have e7 : bI ((rdL p.1.1 (lnA p.1.2.1 n)).2.2.sum ≤ (lnA p.1.2.1 n).2.1 - (lnA p.1.2.1 n).1) = if (rdL p.1.1 (lnA p.1.2.1 n)).2.2.sum ≤ (lnA p.1.2.1 n).2.1 - (lnA p.1.2.1 n).1 then nI 1 else nI 0 := rfl
  rw [ek]
  have em : ∃ o : Option Nat, (lnA p.1.2.1 n).2.2.2.1 = o := ⟨_, rfl⟩
  obtain ⟨o, em⟩ := em
  cases o with
  | none =>
    have e5 : valS p.1.1 5 (lnA p.1.2.1 n).2.2.1 = mrg p.1.1 (lnA p.1.2.1 n) := by unfold mrg; rw [em]
    rw [e5] at rv5
    by_cases c1 : (rdL p.1.1 (lnA p.1.2.1 n)).2.2.sum ≤ (lnA p.1.2.1 n).2.1 - (lnA p.1.2.1 n).1
    · rw [if_pos c1] at e7
      by_cases c2 : offC p.1.1 p.1.2.1 n = mrg p.1.1 (lnA p.1.2.1 n)
      · rw [bI_t c2] at M
        simp (disch := (first | omega | assumption | (simp (disch := omega) only [Int32.lt_iff_toInt_lt, Int32.le_iff_toInt_le, ← Int32.toInt_inj, nI_toInt, zi_m1, zi_m2, zi_m3, zi_m9]; omega) | decide)) only [sL_line_414, sL_line_415, sL_line_416, sL_line_417, sL_line_420i, sL_line_420r, sL_line_420z, sL_line_420o, sL_line_422, sL_line_424, sL_line_427, sL_line_428, sL_line_430, sL_line_431, sL_line_434, sL_line_437, sL_line_439i, sL_line_439r, sL_line_439z, sL_line_439o, sL_line_441, sL_line_442, sL_line_443, sL_line_445, sL_line_448i, sL_line_448r, sL_line_448z, sL_line_448o, sL_line_450, sL_line_451, sL_line_452, sL_line_454, sL_line_457, sL_line_459, sL_line_462, sL_line_464, sL_line_466, sL_line_469, sL_line_470, sL_line_471, sL_line_473, sL_line_476, sL_line_478, sL_line_479, sL_line_480, sL_line_481, sL_line_484, sL_line_485, sL_line_488, sL_line_489, sL_line_492, sL_line_493, sL_line_494, sL_line_496, sL_line_499, sL_line_501, sL_line_504, sL_line_506, sL_line_508, sL_line_511, sL_line_512, sL_line_513, sL_line_515, sL_line_518, sL_line_519, sL_line_521, sL_line_522, sL_line_525, sL_line_528, sL_line_529, sL_line_530, sL_line_533, sL_line_534, sL_line_535, sL_line_537, sL_line_539, sL_line_542, sL_line_543, sL_line_546, sL_line_547i, sL_line_547r, sL_line_547z, sL_line_547o, sL_line_549, sL_line_550i, sL_line_550r, sL_line_550z, sL_line_550o, zpush_v, zpush_n, gCk, gAi, gSi, gLi, gLq, ↓if_pos, ↓if_neg, ↓reduceIte, eq_self, not_true_eq_false, not_false_eq_true, r_ck hr, r_ab3 hr hw, r_ab6 hr hw, r_ab7 hr hw, r_ab8 hr hw, r_ab9 hr hw, r_ab10 hr hw, rv4, rv5, em, eN_n, e7, nI_sub]
        exact M _ _ _ _ _
      · rw [bI_f c2] at M
        simp (disch := (first | omega | assumption | (simp (disch := omega) only [Int32.lt_iff_toInt_lt, Int32.le_iff_toInt_le, ← Int32.toInt_inj, nI_toInt, zi_m1, zi_m2, zi_m3, zi_m9]; omega) | decide)) only [sL_line_414, sL_line_415, sL_line_416, sL_line_417, sL_line_420i, sL_line_420r, sL_line_420z, sL_line_420o, sL_line_422, sL_line_424, sL_line_427, sL_line_428, sL_line_430, sL_line_431, sL_line_434, sL_line_437, sL_line_439i, sL_line_439r, sL_line_439z, sL_line_439o, sL_line_441, sL_line_442, sL_line_443, sL_line_445, sL_line_448i, sL_line_448r, sL_line_448z, sL_line_448o, sL_line_450, sL_line_451, sL_line_452, sL_line_454, sL_line_457, sL_line_459, sL_line_462, sL_line_464, sL_line_466, sL_line_469, sL_line_470, sL_line_471, sL_line_473, sL_line_476, sL_line_478, sL_line_479, sL_line_480, sL_line_481, sL_line_484, sL_line_485, sL_line_488, sL_line_489, sL_line_492, sL_line_493, sL_line_494, sL_line_496, sL_line_499, sL_line_501, sL_line_504, sL_line_506, sL_line_508, sL_line_511, sL_line_512, sL_line_513, sL_line_515, sL_line_518, sL_line_519, sL_line_521, sL_line_522, sL_line_525, sL_line_528, sL_line_529, sL_line_530, sL_line_533, sL_line_534, sL_line_535, sL_line_537, sL_line_539, sL_line_542, sL_line_543, sL_line_546, sL_line_547i, sL_line_547r, sL_line_547z, sL_line_547o, sL_line_549, sL_line_550i, sL_line_550r, sL_line_550z, sL_line_550o, zpush_v, zpush_n, gCk, gAi, gSi, gLi, gLq, ↓if_pos, ↓if_neg, ↓reduceIte, eq_self, not_true_eq_false, not_false_eq_true, r_ck hr, r_ab3 hr hw, r_ab6 hr hw, r_ab7 hr hw, r_ab8 hr hw, r_ab9 hr hw, r_ab10 hr hw, rv4, rv5, em, eN_n, e7, nI_sub]
        exact M _ _ _ _ _
    · rw [if_neg c1] at e7
      by_cases c2 : offC p.1.1 p.1.2.1 n = mrg p.1.1 (lnA p.1.2.1 n)
      · rw [bI_t c2] at M
        simp (disch := (first | omega | assumption | (simp (disch := omega) only [Int32.lt_iff_toInt_lt, Int32.le_iff_toInt_le, ← Int32.toInt_inj, nI_toInt, zi_m1, zi_m2, zi_m3, zi_m9]; omega) | decide)) only [sL_line_414, sL_line_415, sL_line_416, sL_line_417, sL_line_420i, sL_line_420r, sL_line_420z, sL_line_420o, sL_line_422, sL_line_424, sL_line_427, sL_line_428, sL_line_430, sL_line_431, sL_line_434, sL_line_437, sL_line_439i, sL_line_439r, sL_line_439z, sL_line_439o, sL_line_441, sL_line_442, sL_line_443, sL_line_445, sL_line_448i, sL_line_448r, sL_line_448z, sL_line_448o, sL_line_450, sL_line_451, sL_line_452, sL_line_454, sL_line_457, sL_line_459, sL_line_462, sL_line_464, sL_line_466, sL_line_469, sL_line_470, sL_line_471, sL_line_473, sL_line_476, sL_line_478, sL_line_479, sL_line_480, sL_line_481, sL_line_484, sL_line_485, sL_line_488, sL_line_489, sL_line_492, sL_line_493, sL_line_494, sL_line_496, sL_line_499, sL_line_501, sL_line_504, sL_line_506, sL_line_508, sL_line_511, sL_line_512, sL_line_513, sL_line_515, sL_line_518, sL_line_519, sL_line_521, sL_line_522, sL_line_525, sL_line_528, sL_line_529, sL_line_530, sL_line_533, sL_line_534, sL_line_535, sL_line_537, sL_line_539, sL_line_542, sL_line_543, sL_line_546, sL_line_547i, sL_line_547r, sL_line_547z, sL_line_547o, sL_line_549, sL_line_550i, sL_line_550r, sL_line_550z, sL_line_550o, zpush_v, zpush_n, gCk, gAi, gSi, gLi, gLq, ↓if_pos, ↓if_neg, ↓reduceIte, eq_self, not_true_eq_false, not_false_eq_true, r_ck hr, r_ab3 hr hw, r_ab6 hr hw, r_ab7 hr hw, r_ab8 hr hw, r_ab9 hr hw, r_ab10 hr hw, rv4, rv5, em, eN_n, e7, nI_sub]
        exact M _ _ _ _ _
      · rw [bI_f c2] at M
        simp (disch := (first | omega | assumption | (simp (disch := omega) only [Int32.lt_iff_toInt_lt, Int32.le_iff_toInt_le, ← Int32.toInt_inj, nI_toInt, zi_m1, zi_m2, zi_m3, zi_m9]; omega) | decide)) only [sL_line_414, sL_line_415, sL_line_416, sL_line_417, sL_line_420i, sL_line_420r, sL_line_420z, sL_line_420o, sL_line_422, sL_line_424, sL_line_427, sL_line_428, sL_line_430, sL_line_431, sL_line_434, sL_line_437, sL_line_439i, sL_line_439r, sL_line_439z, sL_line_439o, sL_line_441, sL_line_442, sL_line_443, sL_line_445, sL_line_448i, sL_line_448r, sL_line_448z, sL_line_448o, sL_line_450, sL_line_451, sL_line_452, sL_line_454, sL_line_457, sL_line_459, sL_line_462, sL_line_464, sL_line_466, sL_line_469, sL_line_470, sL_line_471, sL_line_473, sL_line_476, sL_line_478, sL_line_479, sL_line_480, sL_line_481, sL_line_484, sL_line_485, sL_line_488, sL_line_489, sL_line_492, sL_line_493, sL_line_494, sL_line_496, sL_line_499, sL_line_501, sL_line_504, sL_line_506, sL_line_508, sL_line_511, sL_line_512, sL_line_513, sL_line_515, sL_line_518, sL_line_519, sL_line_521, sL_line_522, sL_line_525, sL_line_528, sL_line_529, sL_line_530, sL_line_533, sL_line_534, sL_line_535, sL_line_537, sL_line_539, sL_line_542, sL_line_543, sL_line_546, sL_line_547i, sL_line_547r, sL_line_547z, sL_line_547o, sL_line_549, sL_line_550i, sL_line_550r, sL_line_550z, sL_line_550o, zpush_v, zpush_n, gCk, gAi, gSi, gLi, gLq, ↓if_pos, ↓if_neg, ↓reduceIte, eq_self, not_true_eq_false, not_false_eq_true, r_ck hr, r_ab3 hr hw, r_ab6 hr hw, r_ab7 hr hw, r_ab8 hr hw, r_ab9 hr hw, r_ab10 hr hw, rv4, rv5, em, eN_n, e7, nI_sub]
        exact M _ _ _ _ _
  | some v =>
    have e5 : v = mrg p.1.1 (lnA p.1.2.1 n) := by unfold mrg; rw [em]
    rw [e5] at em
    by_cases c1 : (rdL p.1.1 (lnA p.1.2.1 n)).2.2.sum ≤ (lnA p.1.2.1 n).2.1 - (lnA p.1.2.1 n).1
    · rw [if_pos c1] at e7
      by_cases c2 : offC p.1.1 p.1.2.1 n = mrg p.1.1 (lnA p.1.2.1 n)
      · rw [bI_t c2] at M
        simp (disch := (first | omega | assumption | (simp (disch := omega) only [Int32.lt_iff_toInt_lt, Int32.le_iff_toInt_le, ← Int32.toInt_inj, nI_toInt, zi_m1, zi_m2, zi_m3, zi_m9]; omega) | decide)) only [sL_line_414, sL_line_415, sL_line_416, sL_line_417, sL_line_420i, sL_line_420r, sL_line_420z, sL_line_420o, sL_line_422, sL_line_424, sL_line_427, sL_line_428, sL_line_430, sL_line_431, sL_line_434, sL_line_437, sL_line_439i, sL_line_439r, sL_line_439z, sL_line_439o, sL_line_441, sL_line_442, sL_line_443, sL_line_445, sL_line_448i, sL_line_448r, sL_line_448z, sL_line_448o, sL_line_450, sL_line_451, sL_line_452, sL_line_454, sL_line_457, sL_line_459, sL_line_462, sL_line_464, sL_line_466, sL_line_469, sL_line_470, sL_line_471, sL_line_473, sL_line_476, sL_line_478, sL_line_479, sL_line_480, sL_line_481, sL_line_484, sL_line_485, sL_line_488, sL_line_489, sL_line_492, sL_line_493, sL_line_494, sL_line_496, sL_line_499, sL_line_501, sL_line_504, sL_line_506, sL_line_508, sL_line_511, sL_line_512, sL_line_513, sL_line_515, sL_line_518, sL_line_519, sL_line_521, sL_line_522, sL_line_525, sL_line_528, sL_line_529, sL_line_530, sL_line_533, sL_line_534, sL_line_535, sL_line_537, sL_line_539, sL_line_542, sL_line_543, sL_line_546, sL_line_547i, sL_line_547r, sL_line_547z, sL_line_547o, sL_line_549, sL_line_550i, sL_line_550r, sL_line_550z, sL_line_550o, zpush_v, zpush_n, gCk, gAi, gSi, gLi, gLq, ↓if_pos, ↓if_neg, ↓reduceIte, eq_self, not_true_eq_false, not_false_eq_true, r_ck hr, r_ab3 hr hw, r_ab6 hr hw, r_ab7 hr hw, r_ab8 hr hw, r_ab9 hr hw, r_ab10 hr hw, rv4, em, eN_s, e7, nI_sub]
        exact M _ _ _ _ _
      · rw [bI_f c2] at M
        simp (disch := (first | omega | assumption | (simp (disch := omega) only [Int32.lt_iff_toInt_lt, Int32.le_iff_toInt_le, ← Int32.toInt_inj, nI_toInt, zi_m1, zi_m2, zi_m3, zi_m9]; omega) | decide)) only [sL_line_414, sL_line_415, sL_line_416, sL_line_417, sL_line_420i, sL_line_420r, sL_line_420z, sL_line_420o, sL_line_422, sL_line_424, sL_line_427, sL_line_428, sL_line_430, sL_line_431, sL_line_434, sL_line_437, sL_line_439i, sL_line_439r, sL_line_439z, sL_line_439o, sL_line_441, sL_line_442, sL_line_443, sL_line_445, sL_line_448i, sL_line_448r, sL_line_448z, sL_line_448o, sL_line_450, sL_line_451, sL_line_452, sL_line_454, sL_line_457, sL_line_459, sL_line_462, sL_line_464, sL_line_466, sL_line_469, sL_line_470, sL_line_471, sL_line_473, sL_line_476, sL_line_478, sL_line_479, sL_line_480, sL_line_481, sL_line_484, sL_line_485, sL_line_488, sL_line_489, sL_line_492, sL_line_493, sL_line_494, sL_line_496, sL_line_499, sL_line_501, sL_line_504, sL_line_506, sL_line_508, sL_line_511, sL_line_512, sL_line_513, sL_line_515, sL_line_518, sL_line_519, sL_line_521, sL_line_522, sL_line_525, sL_line_528, sL_line_529, sL_line_530, sL_line_533, sL_line_534, sL_line_535, sL_line_537, sL_line_539, sL_line_542, sL_line_543, sL_line_546, sL_line_547i, sL_line_547r, sL_line_547z, sL_line_547o, sL_line_549, sL_line_550i, sL_line_550r, sL_line_550z, sL_line_550o, zpush_v, zpush_n, gCk, gAi, gSi, gLi, gLq, ↓if_pos, ↓if_neg, ↓reduceIte, eq_self, not_true_eq_false, not_false_eq_true, r_ck hr, r_ab3 hr hw, r_ab6 hr hw, r_ab7 hr hw, r_ab8 hr hw, r_ab9 hr hw, r_ab10 hr hw, rv4, em, eN_s, e7, nI_sub]
        exact M _ _ _ _ _
    · rw [if_neg c1] at e7
      by_cases c2 : offC p.1.1 p.1.2.1 n = mrg p.1.1 (lnA p.1.2.1 n)
      · rw [bI_t c2] at M
        simp (disch := (first | omega | assumption | (simp (disch := omega) only [Int32.lt_iff_toInt_lt, Int32.le_iff_toInt_le, ← Int32.toInt_inj, nI_toInt, zi_m1, zi_m2, zi_m3, zi_m9]; omega) | decide)) only [sL_line_414, sL_line_415, sL_line_416, sL_line_417, sL_line_420i, sL_line_420r, sL_line_420z, sL_line_420o, sL_line_422, sL_line_424, sL_line_427, sL_line_428, sL_line_430, sL_line_431, sL_line_434, sL_line_437, sL_line_439i, sL_line_439r, sL_line_439z, sL_line_439o, sL_line_441, sL_line_442, sL_line_443, sL_line_445, sL_line_448i, sL_line_448r, sL_line_448z, sL_line_448o, sL_line_450, sL_line_451, sL_line_452, sL_line_454, sL_line_457, sL_line_459, sL_line_462, sL_line_464, sL_line_466, sL_line_469, sL_line_470, sL_line_471, sL_line_473, sL_line_476, sL_line_478, sL_line_479, sL_line_480, sL_line_481, sL_line_484, sL_line_485, sL_line_488, sL_line_489, sL_line_492, sL_line_493, sL_line_494, sL_line_496, sL_line_499, sL_line_501, sL_line_504, sL_line_506, sL_line_508, sL_line_511, sL_line_512, sL_line_513, sL_line_515, sL_line_518, sL_line_519, sL_line_521, sL_line_522, sL_line_525, sL_line_528, sL_line_529, sL_line_530, sL_line_533, sL_line_534, sL_line_535, sL_line_537, sL_line_539, sL_line_542, sL_line_543, sL_line_546, sL_line_547i, sL_line_547r, sL_line_547z, sL_line_547o, sL_line_549, sL_line_550i, sL_line_550r, sL_line_550z, sL_line_550o, zpush_v, zpush_n, gCk, gAi, gSi, gLi, gLq, ↓if_pos, ↓if_neg, ↓reduceIte, eq_self, not_true_eq_false, not_false_eq_true, r_ck hr, r_ab3 hr hw, r_ab6 hr hw, r_ab7 hr hw, r_ab8 hr hw, r_ab9 hr hw, r_ab10 hr hw, rv4, em, eN_s, e7, nI_sub]
        exact M _ _ _ _ _
      · rw [bI_f c2] at M
        simp (disch := (first | omega | assumption | (simp (disch := omega) only [Int32.lt_iff_toInt_lt, Int32.le_iff_toInt_le, ← Int32.toInt_inj, nI_toInt, zi_m1, zi_m2, zi_m3, zi_m9]; omega) | decide)) only [sL_line_414, sL_line_415, sL_line_416, sL_line_417, sL_line_420i, sL_line_420r, sL_line_420z, sL_line_420o, sL_line_422, sL_line_424, sL_line_427, sL_line_428, sL_line_430, sL_line_431, sL_line_434, sL_line_437, sL_line_439i, sL_line_439r, sL_line_439z, sL_line_439o, sL_line_441, sL_line_442, sL_line_443, sL_line_445, sL_line_448i, sL_line_448r, sL_line_448z, sL_line_448o, sL_line_450, sL_line_451, sL_line_452, sL_line_454, sL_line_457, sL_line_459, sL_line_462, sL_line_464, sL_line_466, sL_line_469, sL_line_470, sL_line_471, sL_line_473, sL_line_476, sL_line_478, sL_line_479, sL_line_480, sL_line_481, sL_line_484, sL_line_485, sL_line_488, sL_line_489, sL_line_492, sL_line_493, sL_line_494, sL_line_496, sL_line_499, sL_line_501, sL_line_504, sL_line_506, sL_line_508, sL_line_511, sL_line_512, sL_line_513, sL_line_515, sL_line_518, sL_line_519, sL_line_521, sL_line_522, sL_line_525, sL_line_528, sL_line_529, sL_line_530, sL_line_533, sL_line_534, sL_line_535, sL_line_537, sL_line_539, sL_line_542, sL_line_543, sL_line_546, sL_line_547i, sL_line_547r, sL_line_547z, sL_line_547o, sL_line_549, sL_line_550i, sL_line_550r, sL_line_550z, sL_line_550o, zpush_v, zpush_n, gCk, gAi, gSi, gLi, gLq, ↓if_pos, ↓if_neg, ↓reduceIte, eq_self, not_true_eq_false, not_false_eq_true, r_ck hr, r_ab3 hr hw, r_ab6 hr hw, r_ab7 hr hw, r_ab8 hr hw, r_ab9 hr hw, r_ab10 hr hw, rv4, em, eN_s, e7, nI_sub]
        exact M _ _ _ _ _
theorem y_line (hr : rP h X B p) (hw : WfP p) (hn : n < p.1.2.1.length) (hb : noBr (lnA p.1.2.1 n).2.2.2.2) (Q : Option Value → Hp → Prop) (K : Q (some (.int (nI 1))) h) : WPm 112 [.ref X, .int (nI n)] h Q := by
  have h16 := hw.1.2.1.1
  have wl := lnA_wf hw.1.2.1 n
  have ok := rdL_ok hw.1.1 wl
  have i80 := ok.1
  have ho : ∀ s, (lnA p.1.2.1 n).2.2.1 = some s → s < p.1.1.1 := fun s hs => hw.1.2.2.1 _ (lnA_mem hn) s hs
  have rv0 := r_val (h := h) (X := X) (B := B) (j := 0) hr hw ho (by omega)
  have A := l_lnA hr hw hn hb Q (fun l8 l11 l12 => by
    have e := l_lnK hr hw hn (some (.int (nI (lnA p.1.2.1 n).1))) (some (.int (nI (lnA p.1.2.1 n).2.1))) (some (.int (eN (lnA p.1.2.1 n).2.2.1))) (some (.int (nI (rdL p.1.1 (lnA p.1.2.1 n)).2.1.length))) (some (.int (nI (hgL p.1.1 (lnA p.1.2.1 n))))) l8 (nI (bel (rdL p.1.1 (lnA p.1.2.1 n)).2.1)) Q (fun l10 => l_lnZ hr hw hn hb l8 l10 Q K) (rdL p.1.1 (lnA p.1.2.1 n)).2.2.length 0 rfl
    simp only [List.take_zero, List.sum_nil, Nat.add_zero, cK] at e
    simp (disch := (first | omega | assumption | (simp (disch := omega) only [Int32.lt_iff_toInt_lt, Int32.le_iff_toInt_le, ← Int32.toInt_inj, nI_toInt, zi_m1, zi_m2, zi_m3, zi_m9]; omega) | decide)) only [sL_line_324, sL_line_325i, sL_line_325r, sL_line_325z, sL_line_325o, sL_line_327, sL_line_328i, sL_line_328r, sL_line_328z, sL_line_328o, sL_line_330, sL_line_331i, sL_line_331r, sL_line_331z, sL_line_331o, sL_line_333, sL_line_334i, sL_line_334r, sL_line_334z, sL_line_334o, zpush_v, zpush_n, gCk, gAi, gSi, gLi, gLq, ↓if_pos, ↓if_neg, ↓reduceIte, eq_self, not_true_eq_false, not_false_eq_true]
    exact e) (rdL p.1.1 (lnA p.1.2.1 n)).2.1.length 0 (-9) none none rfl (fun x hx => by
      cases hq : x.2.2 with
      | none => exact Int32.lt_irrefl
      | some a =>
        have := (ok.2.2.2.1 x (List.mem_of_getElem? hx)).2 a hq
        have := ok.2.1
        show ¬ nI a < -9
        rw [Int32.lt_iff_toInt_lt, nI_toInt (by omega), zi_m9]
        omega)
  have b0 : bel ((rdL p.1.1 (lnA p.1.2.1 n)).2.1.take 0) = 0 := rfl
  rw [b0] at A
  rw [eL_line]
  by_cases c : (rdL p.1.1 (lnA p.1.2.1 n)).2.1.length = 0
  · have e0 : hq p.1.1 (lnA p.1.2.1 n) 0 = valS p.1.1 0 (lnA p.1.2.1 n).2.2.1 := if_pos c
    rw [e0] at A
    rw [c] at A
    simp (disch := (first | omega | assumption | (simp (disch := omega) only [Int32.lt_iff_toInt_lt, Int32.le_iff_toInt_le, ← Int32.toInt_inj, nI_toInt, zi_m1, zi_m2, zi_m3, zi_m9]; omega) | decide)) only [sL_line_0, sL_line_1, sL_line_2, sL_line_3, sL_line_6i, sL_line_6r, sL_line_6z, sL_line_6o, sL_line_7, sL_line_8, sL_line_9, sL_line_10, sL_line_13i, sL_line_13r, sL_line_13z, sL_line_13o, sL_line_14, sL_line_15, sL_line_16, sL_line_17, sL_line_20i, sL_line_20r, sL_line_20z, sL_line_20o, sL_line_22, sL_line_23, sL_line_24, sL_line_25, sL_line_28i, sL_line_28r, sL_line_28z, sL_line_28o, sL_line_30, sL_line_31, sL_line_32, sL_line_33, sL_line_36i, sL_line_36r, sL_line_36z, sL_line_36o, sL_line_38, sL_line_40, sL_line_43, sL_line_44, sL_line_46, sL_line_47, sL_line_50, sL_line_53, sL_line_54i, sL_line_54r, sL_line_54z, sL_line_54o, sL_line_56, sL_line_58i, sL_line_58r, sL_line_58z, sL_line_58o, sL_line_60, sL_line_61i, sL_line_61r, sL_line_61z, sL_line_61o, sL_line_63, sL_line_64i, sL_line_64r, sL_line_64z, sL_line_64o, zpush_v, zpush_n, gCk, gAi, gSi, gLi, gLq, ↓if_pos, ↓if_neg, ↓reduceIte, eq_self, not_true_eq_false, not_false_eq_true, r_ck hr, r_ab0 hr hw, r_ab1 hr hw, r_ab2 hr hw, r_ab4 hr hw, r_ab5 hr hw, rv0, c]
    exact A
  · have e0 : hq p.1.1 (lnA p.1.2.1 n) 0 = 0 := by
      unfold hq
      rw [if_neg c]
      rfl
    rw [e0] at A
    simp (disch := (first | omega | assumption | (simp (disch := omega) only [Int32.lt_iff_toInt_lt, Int32.le_iff_toInt_le, ← Int32.toInt_inj, nI_toInt, zi_m1, zi_m2, zi_m3, zi_m9]; omega) | decide)) only [sL_line_0, sL_line_1, sL_line_2, sL_line_3, sL_line_6i, sL_line_6r, sL_line_6z, sL_line_6o, sL_line_7, sL_line_8, sL_line_9, sL_line_10, sL_line_13i, sL_line_13r, sL_line_13z, sL_line_13o, sL_line_14, sL_line_15, sL_line_16, sL_line_17, sL_line_20i, sL_line_20r, sL_line_20z, sL_line_20o, sL_line_22, sL_line_23, sL_line_24, sL_line_25, sL_line_28i, sL_line_28r, sL_line_28z, sL_line_28o, sL_line_30, sL_line_31, sL_line_32, sL_line_33, sL_line_36i, sL_line_36r, sL_line_36z, sL_line_36o, sL_line_38, sL_line_40, sL_line_43, sL_line_44, sL_line_46, sL_line_47, sL_line_50, sL_line_53, sL_line_54i, sL_line_54r, sL_line_54z, sL_line_54o, sL_line_56, sL_line_58i, sL_line_58r, sL_line_58z, sL_line_58o, sL_line_60, sL_line_61i, sL_line_61r, sL_line_61z, sL_line_61o, sL_line_63, sL_line_64i, sL_line_64r, sL_line_64z, sL_line_64o, zpush_v, zpush_n, gCk, gAi, gSi, gLi, gLq, ↓if_pos, ↓if_neg, ↓reduceIte, eq_self, not_true_eq_false, not_false_eq_true, r_ck hr, r_ab0 hr hw, r_ab1 hr hw, r_ab2 hr hw, r_ab4 hr hw, r_ab5 hr hw]
    exact A
end LY
