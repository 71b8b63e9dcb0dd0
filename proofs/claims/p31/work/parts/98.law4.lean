/-! law(): its acts -/
section LW4
variable {h : Hp} {X B n l e i : Nat} {p : PS} {Q : Option Value → Hp → Prop}
theorem lst.mono {e e' : Nat} (h : lst p n l e) (he : e ≤ e') : lst p n l e' := ⟨h.1, h.2.1, h.2.2.1, fun x hx => ⟨(h.2.2.2 x hx).1, Nat.le_trans (h.2.2.2 x hx).2 he⟩⟩
theorem lst.put {ln : Ln} {st : Stt} (h : lst p n l e) (hst : st = putL p.1 i ln) (h1 : noBr ln.2.2.2.2) (h2 : ln.2.1 ≤ e) : lst (kp p st) n l e := by
  subst hst
  refine ⟨h.1, by show (putL p.1 i ln).2.1.length = l; rw [putL_len]; exact h.2.1, h.2.2.1, fun x hx => ?_⟩
  rcases putL_mem hx with hx | rfl
  · exact h.2.2.2 x hx
  · exact ⟨h1, h2⟩
theorem l_ac0 (hr : rP h X B p) (hw : WfP p) (hS : lst p n l e) (hi : i < l) (hn0 : 0 < n) (hn8 : n < 8) (a : Int32) (l0 l3 l4 l5 l12 l13 l14 l15 l16 : Option Value)
    (K : ∀ h' p' l12 l13 l14 l15 l16, FrK 12 X h h' → rP h' X B p' → WfP p' → lst p' n l (e + 40) → WP 116 1039 [l0, some (.ref X), some (.int (nI n)), l3, l4, l5, some (.int a), some (.int (nI i)), some (.long (qFp p)), none, some (.int (nI 1)), some (.int (nI 0)), l12, l13, l14, l15, l16] [] h' Q) :
    WP 116 439 [l0, some (.ref X), some (.int (nI n)), l3, l4, l5, some (.int a), some (.int (nI i)), some (.long (qFp p)), none, some (.int (nI 1)), some (.int (nI 0)), l12, l13, l14, l15, l16] [] h Q := by
  have h10 := hw.1.1.1
  have h16 := hw.1.2.1.1
  obtain ⟨S1, S2, S3, S4⟩ := id hS
  have hi2 : i < p.1.2.1.length := by omega
  have wl := lnA_wf hw.1.2.1 i
  have w1 := wl.1
  have w2 := wl.2.1
  generalize hd1 : a >>> (nI 3 &&& 31) = c1
  generalize hd2 : a >>> (nI 6 &&& 31) = c2
  have u1 := upN_lt c1 hn0
  have u2 := upN_lt c2 (m := n + 1) (by omega)
  generalize hs : upN c1 n = s at u1
  have ho : ∀ q, prO (upN c2 (n + 1)) = some q → q < p.1.1.1 := by rw [S1]; exact prO_lt (by omega)
  have oq := prO_eq (u := upN c2 (n + 1)) (by omega)
  generalize prO (upN c2 (n + 1)) = o at ho oq
  have eo := op_setParent (p := p) (s := s) (o := o) h10 (by omega) ho
  simp (disch := (first | omega | assumption | (simp (disch := omega) only [Int32.lt_iff_toInt_lt, Int32.le_iff_toInt_le, ← Int32.toInt_inj, nI_toInt, zi_m1, zi_m2, zi_m3, zi_m9]; omega) | decide)) only [sL_law_439, sL_law_441, sL_law_444, sL_law_445, sL_law_448, sL_law_450, sL_law_451, sL_law_452, sL_law_453, sL_law_456i, sL_law_456r, sL_law_456z, sL_law_456o, sL_law_458, sL_law_460, sL_law_462, sL_law_463, sL_law_464, sL_law_465, sL_law_466, sL_law_469, sL_law_470, sL_law_471i, sL_law_471r, sL_law_471z, sL_law_471o, sL_law_473, sL_law_474, sL_law_476, sL_law_478, sL_law_481i, sL_law_481r, sL_law_481z, sL_law_481o, sL_law_483, sL_law_484, sL_law_486, sL_law_488, zpush_v, zpush_n, gCk, gAi, gSi, gLi, gLq, ↓if_pos, ↓if_neg, ↓reduceIte, eq_self, not_true_eq_false, not_false_eq_true, hd1, hd2, hs, m_L_up, nI_add, oq, r_ck hr, r_par hr hw]
  by_cases c : ldT p.1.1 s 10 o = true
  · rw [if_pos c] at eo
    refine k_setParent hr hw eo (fun h1 F1 hr1 hw1 => ?_)
    have nq : ¬ (-2 : Int32) = eN (p.1.1.2.1 s) := by
      cases hq : p.1.1.2.1 s with
      | none => decide
      | some q =>
        have := hw.1.1.2.1 s (by omega) q hq
        rw [eN_s]
        intro q2
        have q2 := congrArg Int32.toInt q2
        rw [nI_toInt (by omega), zi_m2] at q2
        omega
    simp (disch := (first | omega | assumption | (simp (disch := omega) only [Int32.lt_iff_toInt_lt, Int32.le_iff_toInt_le, ← Int32.toInt_inj, nI_toInt, zi_m1, zi_m2, zi_m3, zi_m9]; omega) | decide)) only [sL_law_491i, sL_law_491r, sL_law_491z, sL_law_491o, sL_law_493, sL_law_495, sL_law_497, sL_law_513, sL_law_515, sL_law_517, sL_law_520, sL_law_521, zpush_v, zpush_n, gCk, gAi, gSi, gLi, gLq, ↓if_pos, ↓if_neg, ↓reduceIte, eq_self, not_true_eq_false, not_false_eq_true, nq, r_ck hr1]
    refine k_fp hr1 hw1 (fun h2 F2 hr2 => ?_)
    have e := K h2 p (some (.int (nI s))) (some (.int (eN o))) (some (.int (eN (p.1.1.2.1 s)))) (some (.int (-2))) l16 ((F1.tr F2).wd (by omega)) hr2 hw1 (hS.mono (by omega))
    simp (disch := (first | omega | assumption | (simp (disch := omega) only [Int32.lt_iff_toInt_lt, Int32.le_iff_toInt_le, ← Int32.toInt_inj, nI_toInt, zi_m1, zi_m2, zi_m3, zi_m9]; omega) | decide)) only [sL_law_524, sL_law_526, sL_law_527, sL_law_530, sL_law_531, sL_law_534, sL_law_535i, sL_law_535r, sL_law_535z, sL_law_535o, sL_law_537, zpush_v, zpush_n, gCk, gAi, gSi, gLi, gLq, ↓if_pos, ↓if_neg, ↓reduceIte, eq_self, not_true_eq_false, not_false_eq_true, lg_self]
    exact e
  · rw [if_neg c] at eo
    refine k_setParent hr hw eo (fun h1 F1 hr1 hw1 => ?_)
    have e1 : (kp p (setP p.1.1 s o, p.1.2)).1.1.2.1 s = o := if_pos rfl
    have rp := r_par hr1 hw1 (s := s) (by show s < p.1.1.1; omega)
    rw [e1] at rp
    have e := K h1 _ (some (.int (nI s))) (some (.int (eN o))) (some (.int (eN (p.1.1.2.1 s)))) (some (.int (eN (p.1.1.2.1 s)))) l16 (F1.wd (by omega)) hr1 hw1 ⟨S1, S2, S3, fun x hx => ⟨(S4 x hx).1, Nat.le_trans (S4 x hx).2 (by omega)⟩⟩
    simp (disch := (first | omega | assumption | (simp (disch := omega) only [Int32.lt_iff_toInt_lt, Int32.le_iff_toInt_le, ← Int32.toInt_inj, nI_toInt, zi_m1, zi_m2, zi_m3, zi_m9]; omega) | decide)) only [sL_law_491i, sL_law_491r, sL_law_491z, sL_law_491o, sL_law_493, sL_law_495, sL_law_497, sL_law_500, sL_law_501, sL_law_503, sL_law_505, sL_law_508, sL_law_510, sL_law_530, sL_law_531, sL_law_534, sL_law_535i, sL_law_535r, sL_law_535z, sL_law_535o, sL_law_537, zpush_v, zpush_n, gCk, gAi, gSi, gLi, gLq, ↓if_pos, ↓if_neg, ↓reduceIte, eq_self, not_true_eq_false, not_false_eq_true, rp, r_ck hr1]
    exact e
theorem l_ac1 (hr : rP h X B p) (hw : WfP p) (hS : lst p n l e) (hi : i < l) (hn8 : n < 8) (a : Int32) (l0 l3 l4 l5 l12 l13 l14 l15 l16 : Option Value)
    (K : ∀ h' p' l12 l13 l14 l15 l16, FrK 12 X h h' → rP h' X B p' → WfP p' → lst p' n l (e + 40) → WP 116 1039 [l0, some (.ref X), some (.int (nI n)), l3, l4, l5, some (.int a), some (.int (nI i)), some (.long (qFp p)), none, some (.int (nI 1)), some (.int (nI 1)), l12, l13, l14, l15, l16] [] h' Q) :
    WP 116 439 [l0, some (.ref X), some (.int (nI n)), l3, l4, l5, some (.int a), some (.int (nI i)), some (.long (qFp p)), none, some (.int (nI 1)), some (.int (nI 1)), l12, l13, l14, l15, l16] [] h Q := by
  have h10 := hw.1.1.1
  have h16 := hw.1.2.1.1
  obtain ⟨S1, S2, S3, S4⟩ := id hS
  have hi2 : i < p.1.2.1.length := by omega
  have wl := lnA_wf hw.1.2.1 i
  have w1 := wl.1
  have w2 := wl.2.1
  generalize hd1 : a >>> (nI 4 &&& 31) = c1
  have u1 := upN_lt c1 (m := n + 1) (by omega)
  have ho : ∀ q, prO (upN c1 (n + 1)) = some q → q < p.1.1.1 := by rw [S1]; exact prO_lt (by omega)
  have oq := prO_eq (u := upN c1 (n + 1)) (by omega)
  generalize prO (upN c1 (n + 1)) = o at ho oq
  have eo := op_change0 (p := p) (i := i) (o := o) h10 h16 hi2 ho
  simp (disch := (first | omega | assumption | (simp (disch := omega) only [Int32.lt_iff_toInt_lt, Int32.le_iff_toInt_le, ← Int32.toInt_inj, nI_toInt, zi_m1, zi_m2, zi_m3, zi_m9]; omega) | decide)) only [sL_law_439, sL_law_441, sL_law_540, sL_law_542, sL_law_543, sL_law_546, sL_law_547, sL_law_549, sL_law_550, sL_law_553i, sL_law_553r, sL_law_553z, sL_law_553o, sL_law_555, sL_law_556, sL_law_558, sL_law_559, sL_law_561, sL_law_562, sL_law_563, sL_law_564, sL_law_565, sL_law_566, sL_law_569, sL_law_570, sL_law_571, zpush_v, zpush_n, gCk, gAi, gSi, gLi, gLq, ↓if_pos, ↓if_neg, ↓reduceIte, eq_self, not_true_eq_false, not_false_eq_true, hd1, m_L_up, nI_add, oq, r_ck hr, r_ab2 hr hw]
  refine k_change hr hw eo (fun h1 F1 hr1 hw1 => ?_)
  have e := K h1 _ (some (.int (eN (lnA p.1.2.1 i).2.2.1))) l13 l14 l15 l16 (F1.wd (by omega)) hr1 hw1 ((hS.mono (Nat.le_add_right e 40)).put rfl (S4 _ (lnA_mem hi2)).1 (by show (lnA p.1.2.1 i).2.1 ≤ e + 40; have := (S4 _ (lnA_mem hi2)).2; omega))
  simp (disch := (first | omega | assumption | (simp (disch := omega) only [Int32.lt_iff_toInt_lt, Int32.le_iff_toInt_le, ← Int32.toInt_inj, nI_toInt, zi_m1, zi_m2, zi_m3, zi_m9]; omega) | decide)) only [sL_law_574, sL_law_576, sL_law_579, sL_law_580, sL_law_583, sL_law_584i, sL_law_584r, sL_law_584z, sL_law_584o, sL_law_586, zpush_v, zpush_n, gCk, gAi, gSi, gLi, gLq, ↓if_pos, ↓if_neg, ↓reduceIte, eq_self, not_true_eq_false, not_false_eq_true]
  exact e
theorem l_ac2 (hr : rP h X B p) (hw : WfP p) (hS : lst p n l e) (hi : i < l) (a : Int32) (l0 l3 l4 l5 l12 l13 l14 l15 l16 : Option Value)
    (K : ∀ h' p' l12 l13 l14 l15 l16, FrK 12 X h h' → rP h' X B p' → WfP p' → lst p' n l (e + 40) → WP 116 1039 [l0, some (.ref X), some (.int (nI n)), l3, l4, l5, some (.int a), some (.int (nI i)), some (.long (qFp p)), none, some (.int (nI 1)), some (.int (nI 2)), l12, l13, l14, l15, l16] [] h' Q) :
    WP 116 439 [l0, some (.ref X), some (.int (nI n)), l3, l4, l5, some (.int a), some (.int (nI i)), some (.long (qFp p)), none, some (.int (nI 1)), some (.int (nI 2)), l12, l13, l14, l15, l16] [] h Q := by
  have h10 := hw.1.1.1
  have h16 := hw.1.2.1.1
  obtain ⟨S1, S2, S3, S4⟩ := id hS
  have hi2 : i < p.1.2.1.length := by omega
  have wl := lnA_wf hw.1.2.1 i
  have w1 := wl.1
  have w2 := wl.2.1
  generalize hd1 : a >>> (nI 4 &&& 31) = c1
  have u1 := upN_lt c1 (m := 80) (by omega)
  have ho : ∀ v, prO (upN c1 80) = some v → v ≤ 200 := fun v hv => by have := prO_lt (u := upN c1 80) (m := 80) (by omega) v hv; omega
  have oq := prO_eq (u := upN c1 80) (by omega)
  generalize prO (upN c1 80) = o at ho oq
  have eo := op_change1 (p := p) (i := i) (o := o) h16 hi2 ho
  simp (disch := (first | omega | assumption | (simp (disch := omega) only [Int32.lt_iff_toInt_lt, Int32.le_iff_toInt_le, ← Int32.toInt_inj, nI_toInt, zi_m1, zi_m2, zi_m3, zi_m9]; omega) | decide)) only [sL_law_439, sL_law_441, sL_law_540, sL_law_542, sL_law_543, sL_law_589, sL_law_591, sL_law_592, sL_law_595, sL_law_596, sL_law_598, sL_law_599, sL_law_602i, sL_law_602r, sL_law_602z, sL_law_602o, sL_law_604, sL_law_606, sL_law_607, sL_law_608, sL_law_610, sL_law_613, sL_law_614, sL_law_615i, sL_law_615r, sL_law_615z, sL_law_615o, sL_law_617, sL_law_618, sL_law_620, sL_law_621, sL_law_623, zpush_v, zpush_n, gCk, gAi, gSi, gLi, gLq, ↓if_pos, ↓if_neg, ↓reduceIte, eq_self, not_true_eq_false, not_false_eq_true, hd1, m_L_up, nI_add, oq, r_ck hr, r_ab3 hr hw]
  refine k_change hr hw eo (fun h1 F1 hr1 hw1 => ?_)
  have ra := r_ab3 hr1 hw1 (i := i) (by show i < (putL p.1 i _).2.1.length; rw [putL_len]; exact hi2)
  have el : lnA (kp p (putL p.1 i ((lnA p.1.2.1 i).1, (lnA p.1.2.1 i).2.1, (lnA p.1.2.1 i).2.2.1, o, (lnA p.1.2.1 i).2.2.2.2))).1.2.1 i = _ := putL_at hi2
  rw [el] at ra
  have e := K h1 _ (some (.int (eN (lnA p.1.2.1 i).2.2.2.1))) (some (.int (eN o))) l14 l15 l16 (F1.wd (by omega)) hr1 hw1 ((hS.mono (Nat.le_add_right e 40)).put rfl (S4 _ (lnA_mem hi2)).1 (by show (lnA p.1.2.1 i).2.1 ≤ e + 40; have := (S4 _ (lnA_mem hi2)).2; omega))
  simp (disch := (first | omega | assumption | (simp (disch := omega) only [Int32.lt_iff_toInt_lt, Int32.le_iff_toInt_le, ← Int32.toInt_inj, nI_toInt, zi_m1, zi_m2, zi_m3, zi_m9]; omega) | decide)) only [sL_law_626, sL_law_628, sL_law_631, sL_law_632, sL_law_634, sL_law_635, sL_law_638, sL_law_640, sL_law_643, sL_law_644, sL_law_647, sL_law_648i, sL_law_648r, sL_law_648z, sL_law_648o, sL_law_650, zpush_v, zpush_n, gCk, gAi, gSi, gLi, gLq, ↓if_pos, ↓if_neg, ↓reduceIte, eq_self, not_true_eq_false, not_false_eq_true, ra, r_ck hr1]
  exact e
theorem l_ac3 (hr : rP h X B p) (hw : WfP p) (hS : lst p n l e) (hi : i < l) (he : e ≤ 1000) (a : Int32) (l0 l3 l4 l5 l12 l13 l14 l15 l16 : Option Value)
    (K : ∀ h' p' l12 l13 l14 l15 l16, FrK 12 X h h' → rP h' X B p' → WfP p' → lst p' n l (e + 40) → WP 116 1039 [l0, some (.ref X), some (.int (nI n)), l3, l4, l5, some (.int a), some (.int (nI i)), some (.long (qFp p)), none, some (.int (nI 1)), some (.int (nI 3)), l12, l13, l14, l15, l16] [] h' Q) :
    WP 116 439 [l0, some (.ref X), some (.int (nI n)), l3, l4, l5, some (.int a), some (.int (nI i)), some (.long (qFp p)), none, some (.int (nI 1)), some (.int (nI 3)), l12, l13, l14, l15, l16] [] h Q := by
  have h10 := hw.1.1.1
  have h16 := hw.1.2.1.1
  obtain ⟨S1, S2, S3, S4⟩ := id hS
  have hi2 : i < p.1.2.1.length := by omega
  have wl := lnA_wf hw.1.2.1 i
  have w1 := wl.1
  have w2 := wl.2.1
  have he1 := (S4 _ (lnA_mem hi2)).2
  generalize hd1 : a >>> (nI 4 &&& 31) = c1
  have u1 := upN_lt c1 (m := 81) (by omega)
  generalize hu : upN c1 81 = u at u1
  have eo := op_shift (p := p) (i := i) (u := u) h16 hi2 (by omega) (by omega) w1
  have hby := by_toInt (u := u) (by omega)
  simp (disch := (first | omega | assumption | (simp (disch := omega) only [Int32.lt_iff_toInt_lt, Int32.le_iff_toInt_le, ← Int32.toInt_inj, nI_toInt, zi_m1, zi_m2, zi_m3, zi_m9]; omega) | decide)) only [sL_law_439, sL_law_441, sL_law_540, sL_law_542, sL_law_543, sL_law_589, sL_law_591, sL_law_592, sL_law_653, sL_law_655, sL_law_656, sL_law_659, sL_law_661, sL_law_662, sL_law_663, sL_law_665, sL_law_668, sL_law_670, sL_law_671i, sL_law_671r, sL_law_671z, sL_law_671o, sL_law_673, sL_law_674, sL_law_676, sL_law_677, sL_law_680i, sL_law_680r, sL_law_680z, sL_law_680o, sL_law_682, sL_law_683, sL_law_685, sL_law_686, sL_law_689i, sL_law_689r, sL_law_689z, sL_law_689o, sL_law_691, sL_law_692, sL_law_694, sL_law_696, zpush_v, zpush_n, gCk, gAi, gSi, gLi, gLq, ↓if_pos, ↓if_neg, ↓reduceIte, eq_self, not_true_eq_false, not_false_eq_true, hd1, hu, m_L_up, r_ck hr, r_ab0 hr hw, r_ab1 hr hw]
  generalize nI u - nI 40 = y at eo hby
  have hadd : ∀ v : Nat, v ≤ 100000 → (nI v + y).toInt = (v : Int) + u - 40 := by
    intro v hv
    rw [Int32.toInt_add, nI_toInt (by omega), hby, Int.bmod_eq_of_le (by omega) (by omega)]
    omega
  by_cases c : (lnA p.1.2.1 i).1 + u < 40
  · rw [if_pos c] at eo
    refine k_shift hr hw eo (fun h1 F1 hr1 hw1 => ?_)
    have cl : nI (lnA p.1.2.1 i).1 + y < nI 0 := by
      rw [Int32.lt_iff_toInt_lt, hadd _ (by omega), nI_toInt (by omega)]
      omega
    have cl2 := Int32.not_le.mpr cl
    simp (disch := (first | omega | assumption | (simp (disch := omega) only [Int32.lt_iff_toInt_lt, Int32.le_iff_toInt_le, ← Int32.toInt_inj, nI_toInt, zi_m1, zi_m2, zi_m3, zi_m9]; omega) | decide)) only [sL_law_699i, sL_law_699r, sL_law_699z, sL_law_699o, sL_law_701, sL_law_703, sL_law_705, sL_law_706, sL_law_709, sL_law_711, sL_law_713, sL_law_716, sL_law_717, zpush_v, zpush_n, gCk, gAi, gSi, gLi, gLq, ↓if_pos, ↓if_neg, ↓reduceIte, eq_self, not_true_eq_false, not_false_eq_true, r_ck hr1]
    refine k_fp hr1 hw1 (fun h2 F2 hr2 => ?_)
    have e := K h2 p (some (.int y)) (some (.int (nI (lnA p.1.2.1 i).1))) (some (.int (nI (lnA p.1.2.1 i).2.1))) (some (.int (-2))) l16 ((F1.tr F2).wd (by omega)) hr2 hw1 (hS.mono (by omega))
    simp (disch := (first | omega | assumption | (simp (disch := omega) only [Int32.lt_iff_toInt_lt, Int32.le_iff_toInt_le, ← Int32.toInt_inj, nI_toInt, zi_m1, zi_m2, zi_m3, zi_m9]; omega) | decide)) only [sL_law_720, sL_law_722, sL_law_723, sL_law_726, sL_law_727, sL_law_764i, sL_law_764r, sL_law_764z, sL_law_764o, sL_law_766, zpush_v, zpush_n, gCk, gAi, gSi, gLi, gLq, ↓if_pos, ↓if_neg, ↓reduceIte, eq_self, not_true_eq_false, not_false_eq_true, lg_self]
    exact e
  · rw [if_neg c] at eo
    refine k_shift hr hw eo (fun h1 F1 hr1 hw1 => ?_)
    have e1 : nI (lnA p.1.2.1 i).1 + y = nI ((lnA p.1.2.1 i).1 + u - 40) := by
      rw [← Int32.toInt_inj, hadd _ (by omega), nI_toInt (by omega)]
      omega
    have e2 : nI (lnA p.1.2.1 i).2.1 + y = nI ((lnA p.1.2.1 i).2.1 + u - 40) := by
      rw [← Int32.toInt_inj, hadd _ (by omega), nI_toInt (by omega)]
      omega
    have ra := r_ab1 hr1 hw1 (i := i) (by show i < (putL p.1 i _).2.1.length; rw [putL_len]; exact hi2)
    have el : lnA (kp p (putL p.1 i ((lnA p.1.2.1 i).1 + u - 40, (lnA p.1.2.1 i).2.1 + u - 40, (lnA p.1.2.1 i).2.2))).1.2.1 i = _ := putL_at hi2
    rw [el] at ra
    have e := K h1 _ (some (.int y)) (some (.int (nI (lnA p.1.2.1 i).1))) (some (.int (nI (lnA p.1.2.1 i).2.1))) (some (.int (nI ((lnA p.1.2.1 i).1 + u - 40)))) l16 (F1.wd (by omega)) hr1 hw1 ((hS.mono (Nat.le_add_right e 40)).put rfl (S4 _ (lnA_mem hi2)).1 (by show (lnA p.1.2.1 i).2.1 + u - 40 ≤ e + 40; omega))
    simp (disch := (first | omega | assumption | (simp (disch := omega) only [Int32.lt_iff_toInt_lt, Int32.le_iff_toInt_le, ← Int32.toInt_inj, nI_toInt, zi_m1, zi_m2, zi_m3, zi_m9]; omega) | decide)) only [sL_law_699i, sL_law_699r, sL_law_699z, sL_law_699o, sL_law_701, sL_law_703, sL_law_705, sL_law_706, sL_law_734, sL_law_736, sL_law_738, sL_law_740, sL_law_741, sL_law_744, sL_law_745, sL_law_747, sL_law_748, sL_law_751, sL_law_753, sL_law_755, sL_law_756, sL_law_759, sL_law_760, sL_law_763, sL_law_764i, sL_law_764r, sL_law_764z, sL_law_764o, sL_law_766, zpush_v, zpush_n, gCk, gAi, gSi, gLi, gLq, ↓if_pos, ↓if_neg, ↓reduceIte, eq_self, not_true_eq_false, not_false_eq_true, e1, e2, ra, r_ck hr1]
    exact e
theorem l_ac5 (hr : rP h X B p) (hw : WfP p) (hS : lst p n l e) (hi : i < l) (a : Int32) (l0 l3 l4 l5 l12 l13 l14 l15 l16 : Option Value)
    (K : ∀ h' p' l12 l13 l14 l15 l16, FrK 12 X h h' → rP h' X B p' → WfP p' → lst p' n l (e + 40) → WP 116 1039 [l0, some (.ref X), some (.int (nI n)), l3, l4, l5, some (.int a), some (.int (nI i)), some (.long (qFp p)), none, some (.int (nI 1)), some (.int (nI 5)), l12, l13, l14, l15, l16] [] h' Q) :
    WP 116 439 [l0, some (.ref X), some (.int (nI n)), l3, l4, l5, some (.int a), some (.int (nI i)), some (.long (qFp p)), none, some (.int (nI 1)), some (.int (nI 5)), l12, l13, l14, l15, l16] [] h Q := by
  have h10 := hw.1.1.1
  have h16 := hw.1.2.1.1
  obtain ⟨S1, S2, S3, S4⟩ := id hS
  have hi2 : i < p.1.2.1.length := by omega
  have wl := lnA_wf hw.1.2.1 i
  have w1 := wl.1
  have w2 := wl.2.1
  simp (disch := (first | omega | assumption | (simp (disch := omega) only [Int32.lt_iff_toInt_lt, Int32.le_iff_toInt_le, ← Int32.toInt_inj, nI_toInt, zi_m1, zi_m2, zi_m3, zi_m9]; omega) | decide)) only [sL_law_439, sL_law_441, sL_law_540, sL_law_542, sL_law_543, sL_law_589, sL_law_591, sL_law_592, sL_law_653, sL_law_655, sL_law_656, sL_law_769, sL_law_771, sL_law_772, sL_law_961, sL_law_963, sL_law_964, sL_law_967, sL_law_968, zpush_v, zpush_n, gCk, gAi, gSi, gLi, gLq, ↓if_pos, ↓if_neg, ↓reduceIte, eq_self, not_true_eq_false, not_false_eq_true]
  refine y_flattens hr hw (fun h1 p1 F1 hr1 hw1 q => ?_)
  have e := K h1 p1 l12 l13 l14 l15 l16 (F1.wd (by omega)) hr1 hw1 ⟨by rw [q.1]; exact S1, by rw [q.1]; exact S2, by rw [q.2]; exact S3, fun x hx => by rw [q.1] at hx; exact ⟨(S4 x hx).1, Nat.le_trans (S4 x hx).2 (by omega)⟩⟩
  simp (disch := (first | omega | assumption | (simp (disch := omega) only [Int32.lt_iff_toInt_lt, Int32.le_iff_toInt_le, ← Int32.toInt_inj, nI_toInt, zi_m1, zi_m2, zi_m3, zi_m9]; omega) | decide)) only [sL_law_971i, sL_law_971r, sL_law_971z, sL_law_971o, sL_law_973, zpush_v, zpush_n, gCk, gAi, gSi, gLi, gLq, ↓if_pos, ↓if_neg, ↓reduceIte, eq_self, not_true_eq_false, not_false_eq_true]
  exact e
theorem l_acR (hr : rP h X B p) (hw : WfP p) (hS : lst p n l e) (hi : i < l) {how : Nat} (hh : how = 6 ∨ (how = 0 ∧ n = 0)) (a : Int32) (l0 l3 l4 l5 l12 l13 l14 l15 l16 : Option Value)
    (K : ∀ h' p' l12 l13 l14 l15 l16, FrK 12 X h h' → rP h' X B p' → WfP p' → lst p' n l (e + 40) → WP 116 1039 [l0, some (.ref X), some (.int (nI n)), l3, l4, l5, some (.int a), some (.int (nI i)), some (.long (qFp p)), none, some (.int (nI 1)), some (.int (nI how)), l12, l13, l14, l15, l16] [] h' Q) :
    WP 116 439 [l0, some (.ref X), some (.int (nI n)), l3, l4, l5, some (.int a), some (.int (nI i)), some (.long (qFp p)), none, some (.int (nI 1)), some (.int (nI how)), l12, l13, l14, l15, l16] [] h Q := by
  have h10 := hw.1.1.1
  have h16 := hw.1.2.1.1
  obtain ⟨S1, S2, S3, S4⟩ := id hS
  have hi2 : i < p.1.2.1.length := by omega
  have wl := lnA_wf hw.1.2.1 i
  have w1 := wl.1
  have w2 := wl.2.1
  have K2 : WP 116 976 [l0, some (.ref X), some (.int (nI n)), l3, l4, l5, some (.int a), some (.int (nI i)), some (.long (qFp p)), none, some (.int (nI 1)), some (.int (nI how)), l12, l13, l14, l15, l16] [] h Q := by
    by_cases c : l < 2
    · have e := K h p (some (.int (nI l))) l13 l14 l15 l16 (FrK.rf.wd (by omega)) hr hw (hS.mono (by omega))
      simp (disch := (first | omega | assumption | (simp (disch := omega) only [Int32.lt_iff_toInt_lt, Int32.le_iff_toInt_le, ← Int32.toInt_inj, nI_toInt, zi_m1, zi_m2, zi_m3, zi_m9]; omega) | decide)) only [sL_law_976, sL_law_977, sL_law_980i, sL_law_980r, sL_law_980z, sL_law_980o, sL_law_982, sL_law_984, sL_law_985, sL_law_1032, sL_law_1033, sL_law_1036, sL_law_1037i, sL_law_1037r, sL_law_1037z, sL_law_1037o, zpush_v, zpush_n, gCk, gAi, gSi, gLi, gLq, ↓if_pos, ↓if_neg, ↓reduceIte, eq_self, not_true_eq_false, not_false_eq_true, r_ck hr, x_lines hr, S2]
      exact e
    · have eo := op_remove (p := p) (i := i) h16 hi2
      rw [S2] at eo
      simp (disch := (first | omega | assumption | (simp (disch := omega) only [Int32.lt_iff_toInt_lt, Int32.le_iff_toInt_le, ← Int32.toInt_inj, nI_toInt, zi_m1, zi_m2, zi_m3, zi_m9]; omega) | decide)) only [sL_law_976, sL_law_977, sL_law_980i, sL_law_980r, sL_law_980z, sL_law_980o, sL_law_982, sL_law_984, sL_law_985, sL_law_988, sL_law_989, sL_law_991, zpush_v, zpush_n, gCk, gAi, gSi, gLi, gLq, ↓if_pos, ↓if_neg, ↓reduceIte, eq_self, not_true_eq_false, not_false_eq_true, r_ck hr, x_lines hr, S2]
      refine k_remove hr hw eo (fun h1 F1 hr1 hw1 => ?_)
      have hl1 : (p.1.2.1.eraseIdx i).length = l - 1 := by rw [List.length_eraseIdx, if_pos hi2, S2]
      have ns := nI_sub (a := l) (b := 1) (by omega) (by omega)
      obtain ⟨r, m, m5, r1, r2, r3⟩ := undo_kp (p := p) hw.2.2.1 (q := kp p (p.1.1, p.1.2.1.eraseIdx i, p.1.2.2)) rfl
      simp (disch := (first | omega | assumption | (simp (disch := omega) only [Int32.lt_iff_toInt_lt, Int32.le_iff_toInt_le, ← Int32.toInt_inj, nI_toInt, zi_m1, zi_m2, zi_m3, zi_m9]; omega) | decide)) only [sL_law_994, sL_law_996, sL_law_997, sL_law_998, sL_law_1001, sL_law_1003, sL_law_1004, sL_law_1007, sL_law_1008, sL_law_1009, zpush_v, zpush_n, gCk, gAi, gSi, gLi, gLq, ↓if_pos, ↓if_neg, ↓reduceIte, eq_self, not_true_eq_false, not_false_eq_true, ns, r_ck hr1]
      refine y_line (n := 0) hr1 hw1 (by show 0 < (p.1.2.1.eraseIdx i).length; omega) (by
        have hm : lnA (p.1.2.1.eraseIdx i) 0 ∈ p.1.2.1.eraseIdx i := lnA_mem (by omega)
        exact (S4 _ (List.mem_of_mem_eraseIdx hm)).1) _ ?_
      simp (disch := (first | omega | assumption | (simp (disch := omega) only [Int32.lt_iff_toInt_lt, Int32.le_iff_toInt_le, ← Int32.toInt_inj, nI_toInt, zi_m1, zi_m2, zi_m3, zi_m9]; omega) | decide)) only [sL_law_1012, sL_law_1015, sL_law_1016, zpush_v, zpush_n, gCk, gAi, gSi, gLi, gLq, ↓if_pos, ↓if_neg, ↓reduceIte, eq_self, not_true_eq_false, not_false_eq_true, r_ck hr1]
      refine k_undo hr1 hw1 r3 (fun h2 F2 hr2 hw2 => ?_)
      simp (disch := (first | omega | assumption | (simp (disch := omega) only [Int32.lt_iff_toInt_lt, Int32.le_iff_toInt_le, ← Int32.toInt_inj, nI_toInt, zi_m1, zi_m2, zi_m3, zi_m9]; omega) | decide)) only [sL_law_1019, sL_law_1022, sL_law_1023, zpush_v, zpush_n, gCk, gAi, gSi, gLi, gLq, ↓if_pos, ↓if_neg, ↓reduceIte, eq_self, not_true_eq_false, not_false_eq_true, r_ck hr2]
      refine k_fp hr2 hw2 (fun h3 F3 hr3 => ?_)
      have e := K h3 r (some (.int (nI l))) l13 l14 l15 l16 ((F1.tr (F2.tr F3)).wd (by omega)) hr3 hw2 ⟨by rw [r1]; exact S1, by rw [r1]; exact S2, by rw [r2]; exact S3, fun x hx => by rw [r1] at hx; exact ⟨(S4 x hx).1, Nat.le_trans (S4 x hx).2 (by omega)⟩⟩
      have ef := qFp_eq r1
      simp (disch := (first | omega | assumption | (simp (disch := omega) only [Int32.lt_iff_toInt_lt, Int32.le_iff_toInt_le, ← Int32.toInt_inj, nI_toInt, zi_m1, zi_m2, zi_m3, zi_m9]; omega) | decide)) only [sL_law_1026, sL_law_1028, sL_law_1029, sL_law_1032, sL_law_1033, sL_law_1036, sL_law_1037i, sL_law_1037r, sL_law_1037z, sL_law_1037o, zpush_v, zpush_n, gCk, gAi, gSi, gLi, gLq, ↓if_pos, ↓if_neg, ↓reduceIte, eq_self, not_true_eq_false, not_false_eq_true, ef, lg_self]
      exact e
  rcases hh with rfl | ⟨rfl, rfl⟩
  · simp (disch := (first | omega | assumption | (simp (disch := omega) only [Int32.lt_iff_toInt_lt, Int32.le_iff_toInt_le, ← Int32.toInt_inj, nI_toInt, zi_m1, zi_m2, zi_m3, zi_m9]; omega) | decide)) only [sL_law_439, sL_law_441, sL_law_540, sL_law_542, sL_law_543, sL_law_589, sL_law_591, sL_law_592, sL_law_653, sL_law_655, sL_law_656, sL_law_769, sL_law_771, sL_law_772, sL_law_961, sL_law_963, sL_law_964, zpush_v, zpush_n, gCk, gAi, gSi, gLi, gLq, ↓if_pos, ↓if_neg, ↓reduceIte, eq_self, not_true_eq_false, not_false_eq_true]
    exact K2
  · simp (disch := (first | omega | assumption | (simp (disch := omega) only [Int32.lt_iff_toInt_lt, Int32.le_iff_toInt_le, ← Int32.toInt_inj, nI_toInt, zi_m1, zi_m2, zi_m3, zi_m9]; omega) | decide)) only [sL_law_439, sL_law_441, sL_law_444, sL_law_445, sL_law_540, sL_law_542, sL_law_543, sL_law_589, sL_law_591, sL_law_592, sL_law_653, sL_law_655, sL_law_656, sL_law_769, sL_law_771, sL_law_772, sL_law_961, sL_law_963, sL_law_964, zpush_v, zpush_n, gCk, gAi, gSi, gLi, gLq, ↓if_pos, ↓if_neg, ↓reduceIte, eq_self, not_true_eq_false, not_false_eq_true]
    exact K2
end LW4
