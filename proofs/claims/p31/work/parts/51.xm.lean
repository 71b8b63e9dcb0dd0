/-! SubtitleStyles: fingerprint -/
def fpG (g : Nat → Int64 → Int64) : Nat → Int64 → Int64
  | 0, s => s
  | i + 1, s => g i (fpG g i s)
theorem dN_nI {n k : Nat} (hn : n < 2147483648) (hk : k < n) : dN n (nI k) = some k := by
  rcases dN_cases n (nI k) hn with ⟨j, hj, e, h⟩ | ⟨g, -⟩
  · rw [nI_eq (by omega) (by omega)] at e
    rw [h, e]
  · exact absurd rfl (nI_not hn hk g)
theorem dO_nI {n k : Nat} (hn : n < 2147483648) (hk : k < n) : dO n (nI k) = some (some k) := by
  unfold dO
  rw [if_neg (nI_nm1 (by omega)), dN_nI hn hk]
  rfl
def fpS (S : Sh) (k : Nat) (s : Int64) : Int64 := fpG (fun q s => fpN s (nI (valS S q (some k)))) 6 (fpG (fun w s => fpN s (styleNum S k w)) 9 s)
noncomputable def fpLn (st : Stt) (i : Nat) (s : Int64) : Int64 :=
  fpG (fun y s => fpG (fun w s => fpN s (syW (lnA st.2.1 i).1 (rdL st.1 (lnA st.2.1 i)) y w)) 3 s) (rdL st.1 (lnA st.2.1 i)).2.2.length
    (fpG (fun y s => fpG (fun w s => fpN s (sgW ((rdL st.1 (lnA st.2.1 i)).2.1.getD y (0, (fun _ => 0), none)) w)) 6 s) (rdL st.1 (lnA st.2.1 i)).2.1.length
      (fpG (fun w s => fpN s (lineNum st i w)) 12 s))
noncomputable def qFp (p : PS) : Int64 := fpN (fpN (fpG (fpLn p.1) p.1.2.1.length (fpN (fpG (fpS p.1.1) p.1.1.1 (fpN 233 (nI p.1.1.1))) (nI p.1.2.1.length))) (qCrowd p)) (nI 0)
section XM
variable {h h' : Hp} {X B : Nat} {p : PS}
theorem m_X9_mix (s : Int64) (x : Int32) (Q : Option Value → Hp → Prop) : WPm 100 [.long s, .int x] h Q = Q (some (.long (fpN s x))) h := by
  rw [eX9_mix]
  simp (disch := (first | omega | assumption | (simp (disch := omega) only [Int32.lt_iff_toInt_lt, Int32.le_iff_toInt_le, ← Int32.toInt_inj, nI_toInt, zi_m1, zi_m2, zi_m3, zi_m9]; omega) | decide)) only [sX9_mix_0, sX9_mix_3, sX9_mix_4, sX9_mix_5, sX9_mix_6, sX9_mix_7, sX9_mix_8, zpush_v, zpush_n, gCk, gAi, gSi, gLi, gLq, ↓if_pos, ↓if_neg]
  rfl
theorem l_mixA (hr : rP h X B p) (hw : WfP p) {k : Nat} (hk : k < p.1.1.1) (s0 s : Int64) (Q : Option Value → Hp → Prop) : ∀ (m j : Nat), m + j = 9 →
    WP 101 6 [some (.ref X), some (.long s0), none, some (.int (nI k)), some (.long (fpG (fun w s => fpN s (styleNum p.1.1 k w)) j s)), none, some (.int (nI j))] [] h Q = WP 101 33 [some (.ref X), some (.long s0), none, some (.int (nI k)), some (.long (fpG (fun w s => fpN s (styleNum p.1.1 k w)) 9 s)), none, some (.int (nI 9))] [] h Q := by
  obtain ⟨c1, c2, hS⟩ := hr.facts
  have h10 := hw.1.1.1
  intro m
  induction m with
  | zero =>
    intro j hj
    have hj : j = 9 := by omega
    subst hj
    rw [sX9_mixStyle_6]
    simp (disch := (first | omega | assumption | (simp (disch := omega) only [Int32.lt_iff_toInt_lt, Int32.le_iff_toInt_le, ← Int32.toInt_inj, nI_toInt, zi_m1, zi_m2, zi_m3, zi_m9]; omega) | decide)) only [sX9_mixStyle_8, sX9_mixStyle_10, zpush_v, zpush_n, gCk, gAi, gSi, gLi, gLq, ↓if_pos, ↓if_neg]
  | succ m ih =>
    intro j hj
    have e : qStyleAt p (nI k) (nI j) = styleNum p.1.1 k j := by
      unfold qStyleAt
      rw [dN_nI (by omega) hk]
      simp only
      rw [dN_nI (by omega) (show j < 9 by omega)]
    have a := x_styleAt hr hw (nI k) (nI j)
    rw [e] at a
    rw [← ih (j + 1) (by omega), sX9_mixStyle_6]
    simp (disch := (first | omega | assumption | (simp (disch := omega) only [Int32.lt_iff_toInt_lt, Int32.le_iff_toInt_le, ← Int32.toInt_inj, nI_toInt, zi_m1, zi_m2, zi_m3, zi_m9]; omega) | decide)) only [sX9_mixStyle_8, sX9_mixStyle_10, sX9_mixStyle_13, sX9_mixStyle_15, sX9_mixStyle_16, sX9_mixStyle_17, sX9_mixStyle_19, sX9_mixStyle_22, sX9_mixStyle_25i, sX9_mixStyle_25r, sX9_mixStyle_25z, sX9_mixStyle_25o, sX9_mixStyle_27i, sX9_mixStyle_27r, sX9_mixStyle_27z, sX9_mixStyle_27o, sX9_mixStyle_30, zpush_v, zpush_n, gCk, gAi, gSi, gLi, gLq, ↓if_pos, ↓if_neg, c1, a, m_X9_mix, nI_add]
    rfl
theorem l_mixB (hr : rP h X B p) (hw : WfP p) {k : Nat} (hk : k < p.1.1.1) (s0 s : Int64) (Q : Option Value → Hp → Prop) : ∀ (m j : Nat), m + j = 6 →
    WP 101 36 [some (.ref X), some (.long s0), none, some (.int (nI k)), some (.long (fpG (fun q s => fpN s (nI (valS p.1.1 q (some k)))) j s)), none, some (.int (nI j))] [] h Q = Q (some (.long (fpG (fun q s => fpN s (nI (valS p.1.1 q (some k)))) 6 s))) h := by
  obtain ⟨c1, c2, hS⟩ := hr.facts
  have h10 := hw.1.1.1
  intro m
  induction m with
  | zero =>
    intro j hj
    have hj : j = 6 := by omega
    subst hj
    rw [sX9_mixStyle_36]
    simp (disch := (first | omega | assumption | (simp (disch := omega) only [Int32.lt_iff_toInt_lt, Int32.le_iff_toInt_le, ← Int32.toInt_inj, nI_toInt, zi_m1, zi_m2, zi_m3, zi_m9]; omega) | decide)) only [sX9_mixStyle_38, sX9_mixStyle_40, sX9_mixStyle_63, sX9_mixStyle_65, zpush_v, zpush_n, gCk, gAi, gSi, gLi, gLq, ↓if_pos, ↓if_neg]
  | succ m ih =>
    intro j hj
    have e : qValueOf p (nI k) (nI j) = nI (valS p.1.1 j (some k)) := by
      unfold qValueOf
      rw [dO_nI (by omega) hk]
      simp only
      rw [dN_nI (by omega) (show j < 6 by omega)]
    have a := x_valueOf hr hw (nI k) (nI j)
    rw [e] at a
    rw [← ih (j + 1) (by omega), sX9_mixStyle_36]
    simp (disch := (first | omega | assumption | (simp (disch := omega) only [Int32.lt_iff_toInt_lt, Int32.le_iff_toInt_le, ← Int32.toInt_inj, nI_toInt, zi_m1, zi_m2, zi_m3, zi_m9]; omega) | decide)) only [sX9_mixStyle_38, sX9_mixStyle_40, sX9_mixStyle_43, sX9_mixStyle_45, sX9_mixStyle_46, sX9_mixStyle_47, sX9_mixStyle_49, sX9_mixStyle_52, sX9_mixStyle_55i, sX9_mixStyle_55r, sX9_mixStyle_55z, sX9_mixStyle_55o, sX9_mixStyle_57i, sX9_mixStyle_57r, sX9_mixStyle_57z, sX9_mixStyle_57o, sX9_mixStyle_60, zpush_v, zpush_n, gCk, gAi, gSi, gLi, gLq, ↓if_pos, ↓if_neg, c1, a, m_X9_mix, nI_add]
    rfl
theorem m_X9_mixStyle (hr : rP h X B p) (hw : WfP p) {k : Nat} (hk : k < p.1.1.1) (s : Int64) (Q : Option Value → Hp → Prop) : WPm 101 [.ref X, .long s, .int (nI k)] h Q = Q (some (.long (fpS p.1.1 k s))) h := by
  have a := l_mixA hr hw hk s s Q 9 0 (by omega)
  have b := l_mixB hr hw hk s (fpG (fun w s => fpN s (styleNum p.1.1 k w)) 9 s) Q 6 0 (by omega)
  rw [eX9_mixStyle]
  simp (disch := (first | omega | assumption | (simp (disch := omega) only [Int32.lt_iff_toInt_lt, Int32.le_iff_toInt_le, ← Int32.toInt_inj, nI_toInt, zi_m1, zi_m2, zi_m3, zi_m9]; omega) | decide)) only [sX9_mixStyle_0, sX9_mixStyle_1i, sX9_mixStyle_1r, sX9_mixStyle_1z, sX9_mixStyle_1o, sX9_mixStyle_3, sX9_mixStyle_4i, sX9_mixStyle_4r, sX9_mixStyle_4z, sX9_mixStyle_4o, zpush_v, zpush_n, gCk, gAi, gSi, gLi, gLq, ↓if_pos, ↓if_neg]
  refine (Eq.trans (by rfl) a).trans ?_
  simp (disch := (first | omega | assumption | (simp (disch := omega) only [Int32.lt_iff_toInt_lt, Int32.le_iff_toInt_le, ← Int32.toInt_inj, nI_toInt, zi_m1, zi_m2, zi_m3, zi_m9]; omega) | decide)) only [sX9_mixStyle_33, sX9_mixStyle_34i, sX9_mixStyle_34r, sX9_mixStyle_34z, sX9_mixStyle_34o, zpush_v, zpush_n, gCk, gAi, gSi, gLi, gLq, ↓if_pos, ↓if_neg]
  exact b
end XM
