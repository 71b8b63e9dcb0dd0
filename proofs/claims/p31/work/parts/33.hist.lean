/-! History -/
theorem nI_rem5 : ∀ a, a < 16 → nI a - nI a / nI 5 * nI 5 = nI (a % 5) := by decide
def anyScr (h : Hp) (s : Nat) : Prop := ∃ n ht rf S, oScr h s n ht rf ∧ rSheet h (s + 1) S
theorem rScr.any {h : Hp} {B s : Nat} {st : Stt} (hr : rScr h B s st) : anyScr h s := by
  obtain ⟨rf, h1, h2, h3⟩ := hr
  exact ⟨_, _, rf, _, h1, h2⟩
theorem anyScr.off {h h' : Hp} {s lo n : Nat} (hr : anyScr h s) (hs : Same h h' lo n) (hq : s + 7 ≤ lo ∨ lo + n ≤ s) : anyScr h' s := by
  obtain ⟨n', ht, rf, S, h1, h2⟩ := hr
  exact ⟨n', ht, rf, S, h1.off hs hq, h2.off hs (by omega)⟩
theorem anyScr.kp {h h' : Hp} {s : Nat} (hr : anyScr h s) (hs : Kp h h') : anyScr h' s := by
  obtain ⟨n', ht, rf, S, h1, h2⟩ := hr
  exact ⟨n', ht, rf, S, ⟨hs _ _ h1.1, hs _ _ h1.2⟩, h2.kp hs⟩
def ringC (H : Nat) : va_E := .inl (3, 5, .inr (.inr (.inr (.inr (fun i => if i < 5 then some (H + 2 + 7 * i) else none)))))
def oHist (h : Hp) (H o n : Nat) : Prop := h.1 H = some (.inr (0, [.ref (H + 1), .int (nI o), .int (nI n)])) ∧ h.1 (H + 1) = some (ringC H)
abbrev slot (H o k : Nat) : Nat := H + 2 + 7 * ((o + k) % 5)
def rHist (h : Hp) (B H : Nat) (hist : List Stt) : Prop := ∃ o, o < 5 ∧ hist.length ≤ 5 ∧ oHist h H o hist.length ∧ (∀ k x, hist[k]? = some x → rScr h B (slot H o k) x) ∧ ∀ i, i < 5 → anyScr h (H + 2 + 7 * i)
section HI
variable {h h' : Hp} {B H s : Nat} {hist : List Stt} {st : Stt}
theorem oHist.off {o n lo m : Nat} (hr : oHist h H o n) (hs : Same h h' lo m) (hq : (H + 37 ≤ lo ∨ lo + m ≤ H) ∨ (H + 2 ≤ lo ∧ lo + m ≤ H + 37)) : oHist h' H o n := by
  refine ⟨?_, ?_⟩
  · by_cases c : lo + m ≤ H ∨ H < lo
    · rw [hs.at (by omega)]; exact hr.1
    · omega
  · rw [hs.at (by omega)]; exact hr.2
theorem rHist.off {lo m : Nat} (hr : rHist h B H hist) (hs : Same h h' lo m) (hq : H + 37 ≤ lo ∨ lo + m ≤ H) (hB : lo + m ≤ B) : rHist h' B H hist := by
  obtain ⟨o, h1, h2, h3, h4, h5⟩ := hr
  exact ⟨o, h1, h2, h3.off hs (by omega), fun k x hx => (h4 k x hx).off hs (by have := Nat.mod_lt (o + k) (show 5 > 0 by omega); simp only [slot]; omega) hB, fun i hi => (h5 i hi).off hs (by omega)⟩
theorem rHist.kp (hr : rHist h B H hist) (hs : Kp h h') : rHist h' B H hist := by
  obtain ⟨o, h1, h2, h3, h4, h5⟩ := hr
  exact ⟨o, h1, h2, ⟨hs _ _ h3.1, hs _ _ h3.2⟩, fun k x hx => (h4 k x hx).kp hs, fun i hi => (h5 i hi).kp hs⟩
theorem m_X0_stateAt {o n k : Nat} (hO : oHist h H o n) (hk : o + k < 16) (Q : Option Value → Hp → Prop) : WPm 3 [.ref H, .int (nI k)] h Q = Q (some (.ref (slot H o k))) h := by
  obtain ⟨c1, c2⟩ := hO
  unfold ringC at c2
  have hm := Nat.mod_lt (o + k) (show 5 > 0 by omega)
  rw [eX0_stateAt]
  simp (disch := (first | omega | assumption | (simp (disch := omega) only [Int32.lt_iff_toInt_lt, Int32.le_iff_toInt_le, ← Int32.toInt_inj, nI_toInt, zi_m1, zi_m2, zi_m3, zi_m9]; omega) | decide)) only [sX0_stateAt_0, sX0_stateAt_1, sX0_stateAt_4, sX0_stateAt_5, sX0_stateAt_6, sX0_stateAt_7, sX0_stateAt_8i, sX0_stateAt_8r, sX0_stateAt_8z, sX0_stateAt_8o, sX0_stateAt_9, sX0_stateAt_10, sX0_stateAt_13, sX0_stateAt_14, sX0_stateAt_15, sX0_stateAt_18, sX0_stateAt_19, sX0_stateAt_22, sX0_stateAt_23, sX0_stateAt_26, sX0_stateAt_27, sX0_stateAt_28, sX0_stateAt_31, sX0_stateAt_32, sX0_stateAt_32n, gG0_0, gG0_1, gG0_2, gP0_0, gP0_1, gP0_2, zpush_v, zpush_n, gCk, gAi, gSi, gLi, gLq, ↓if_pos, ↓if_neg, c1, c2, nI_add, nI_rem5, gAq, va_rf_s]
theorem oHist.setN {o n o' n' : Nat} (hO : oHist h H o n) : oHist (hset h H (.inr (0, [.ref (H + 1), .int (nI o'), .int (nI n')]))) H o' n' := ⟨hset_same, by rw [hset_ne (by omega)]; exact hO.2⟩
def kept (hist : List Stt) (st : Stt) : List Stt := (if hist.length = 5 then hist.drop 1 else hist) ++ [st]
theorem anyScr.cls {s : Nat} (hr : anyScr h s) : ∃ fs, h.1 s = some (.inr (6, fs)) := by
  obtain ⟨n', ht, rf, S, h1, h2⟩ := hr
  exact ⟨_, h1.1⟩
theorem m_X0_keep (hR : rHist h B H hist) (hT : rScr h B s st) (hn : st.2.1.length ≤ 16) (hn2 : st.1.1 ≤ 10) (hs : s + 7 ≤ H ∨ H + 37 ≤ s) (hB : H + 37 ≤ B) :
    ∃ h', Same h h' H 37 ∧ rHist h' B H (kept hist st) ∧ ∀ Q : Option Value → Hp → Prop, WPm 1 [.ref H, .ref s] h Q = Q none h' := by
  obtain ⟨o, r1, r2, r3, r4, r5⟩ := hR
  obtain ⟨base, o2, k2, b1, b2, b3, b4, b5⟩ : ∃ (base : List Stt) (o2 k2 : Nat), o2 < 5 ∧ k2 < 5 ∧ base.length = k2 ∧ base = (if hist.length = 5 then hist.drop 1 else hist) ∧ (o2, k2) = (if hist.length = 5 then ((o + 1) % 5, 4) else (o, hist.length)) := by
    by_cases c : hist.length = 5
    · refine ⟨hist.drop 1, (o + 1) % 5, 4, Nat.mod_lt _ (by omega), by omega, by rw [List.length_drop]; omega, by rw [if_pos c], by rw [if_pos c]⟩
    · exact ⟨hist, o, hist.length, r1, by omega, rfl, by rw [if_neg c], by rw [if_neg c]⟩
  have hold : ∀ k x, base[k]? = some x → rScr h B (slot H o2 k) x := by
    intro k x hx
    by_cases c : hist.length = 5
    · rw [if_pos c] at b4 b5
      rw [b4, List.getElem?_drop] at hx
      have := r4 _ _ hx
      cases b5
      rw [show slot H ((o + 1) % 5) k = slot H o (1 + k) by simp only [slot]; omega]
      exact this
    · rw [if_neg c] at b4 b5
      cases b5
      rw [b4] at hx
      exact r4 _ _ hx
  obtain ⟨h1, e1⟩ : ∃ g, g = hset h H (.inr (0, [.ref (H + 1), .int (nI o2), .int (nI k2)])) := ⟨_, rfl⟩
  have hO1 : oHist h1 H o2 k2 := by rw [e1]; exact r3.setN
  have s1 : Same h h1 H 1 := by rw [e1]; exact Same.set (by omega) (by omega)
  have hm := Nat.mod_lt (o2 + k2) (show 5 > 0 by omega)
  have sa := m_X0_stateAt hO1 (k := k2) (by omega)
  have hT1 := hT.off s1 (by omega) (by omega)
  obtain ⟨n', ht', rf', S', d1, d2⟩ := (r5 ((o2 + k2) % 5) hm).off s1 (by omega)
  obtain ⟨h2, s2, t2, c2⟩ := m_X6_copy d1 d2 hT1 hn hn2 (by omega) (show slot H o2 k2 + 7 ≤ B by simp only [slot]; omega)
  have hO2 := hO1.off s2 (by omega)
  have s3 : Same h2 (hset h2 H (.inr (0, [.ref (H + 1), .int (nI o2), .int (nI (k2 + 1))]))) H 1 := Same.set (by omega) (by omega)
  refine ⟨_, ((s1.wide (by omega) (by omega)).tr (s2.wide (lo' := H) (n' := 37) (by omega) (by omega))).tr (s3.wide (by omega) (by omega)), ⟨o2, b1, ?_, ?_, fun k x hx => ?_, fun i hi => ?_⟩, fun Q => ?_⟩
  · unfold kept
    rw [← b4, List.length_append, b3]
    show k2 + 1 ≤ 5
    omega
  · have e : (kept hist st).length = k2 + 1 := by unfold kept; rw [← b4, List.length_append, b3]; rfl
    rw [e]
    exact hO2.setN
  · unfold kept at hx
    rw [← b4] at hx
    by_cases c : k < k2
    · rw [List.getElem?_append_left (by omega)] at hx
      have hne : slot H o2 k + 7 ≤ slot H o2 k2 ∨ slot H o2 k2 + 7 ≤ slot H o2 k := by
        simp only [slot]
        omega
      have hge : H + 2 ≤ slot H o2 k := by simp only [slot]; omega
      have hg2 : H + 2 ≤ slot H o2 k2 ∧ slot H o2 k2 + 7 ≤ H + 37 := by simp only [slot]; omega
      exact (((hold k x hx).off s1 (by omega) (by omega)).off s2 hne (by omega)).off s3 (by omega) (by omega)
    · have hkl := (List.getElem?_eq_some_iff.mp hx).1
      rw [List.length_append, b3] at hkl
      have hkl : k < k2 + 1 := hkl
      have hk : k = k2 := by omega
      subst hk
      rw [List.getElem?_append_right (by omega), b3, Nat.sub_self] at hx
      cases hx
      exact t2.off s3 (by omega) (by omega)
  · by_cases c : i = (o2 + k2) % 5
    · subst c
      exact t2.any.off s3 (by omega)
    · exact ((((r5 i hi).off s1 (by omega)).off s2 (by omega)).off s3 (by omega))
  · rw [eX0_keep]
    have cs := hT1.cell.1
    obtain ⟨fs, cf⟩ := t2.any.cls
    by_cases c : hist.length = 5
    · rw [if_pos c] at b5
      cases b5
      rw [c] at r3
      have q1 := r3.1
      simp (disch := (first | omega | assumption | (simp (disch := omega) only [Int32.lt_iff_toInt_lt, Int32.le_iff_toInt_le, ← Int32.toInt_inj, nI_toInt, zi_m1, zi_m2, zi_m3, zi_m9]; omega) | decide)) only [sX0_keep_0, sX0_keep_1, sX0_keep_4, sX0_keep_5, sX0_keep_8, sX0_keep_9, sX0_keep_10, sX0_keep_13, sX0_keep_14, sX0_keep_15, sX0_keep_16, sX0_keep_17, sX0_keep_20, sX0_keep_21, sX0_keep_21i, sX0_keep_22, sX0_keep_25, sX0_keep_26, sX0_keep_27, sX0_keep_30, sX0_keep_31, sX0_keep_32, sX0_keep_35, sX0_keep_38i, sX0_keep_38iN, sX0_keep_38r, sX0_keep_38rN, sX0_keep_38z, sX0_keep_38zN, sX0_keep_38o, sX0_keep_38oN, sX0_keep_39, sX0_keep_39n, sX0_keep_40, sX0_keep_40n, sX0_keep_43, sX0_keep_43n, sX0_keep_44, sX0_keep_44n, sX0_keep_45, sX0_keep_48, sX0_keep_49, sX0_keep_49i, sX0_keep_50, sX0_keep_53, sX0_keep_54, sX0_keep_55, sX0_keep_58, gG0_0, gG0_1, gG0_2, gP0_0, gP0_1, gP0_2, zpush_v, zpush_n, gCk, gAi, gSi, gLi, gLq, ↓if_pos, ↓if_neg, q1, hset_same, hset_hset, nI_add, nI_sub, nI_rem5, Nat.reduceSub]
      rw [← e1]
      simp (disch := (first | omega | assumption | (simp (disch := omega) only [Int32.lt_iff_toInt_lt, Int32.le_iff_toInt_le, ← Int32.toInt_inj, nI_toInt, zi_m1, zi_m2, zi_m3, zi_m9]; omega) | decide)) only [sX0_keep_0, sX0_keep_1, sX0_keep_4, sX0_keep_5, sX0_keep_8, sX0_keep_9, sX0_keep_10, sX0_keep_13, sX0_keep_14, sX0_keep_15, sX0_keep_16, sX0_keep_17, sX0_keep_20, sX0_keep_21, sX0_keep_21i, sX0_keep_22, sX0_keep_25, sX0_keep_26, sX0_keep_27, sX0_keep_30, sX0_keep_31, sX0_keep_32, sX0_keep_35, sX0_keep_38i, sX0_keep_38iN, sX0_keep_38r, sX0_keep_38rN, sX0_keep_38z, sX0_keep_38zN, sX0_keep_38o, sX0_keep_38oN, sX0_keep_39, sX0_keep_39n, sX0_keep_40, sX0_keep_40n, sX0_keep_43, sX0_keep_43n, sX0_keep_44, sX0_keep_44n, sX0_keep_45, sX0_keep_48, sX0_keep_49, sX0_keep_49i, sX0_keep_50, sX0_keep_53, sX0_keep_54, sX0_keep_55, sX0_keep_58, gG0_0, gG0_1, gG0_2, gP0_0, gP0_1, gP0_2, zpush_v, zpush_n, gCk, gAi, gSi, gLi, gLq, ↓if_pos, ↓if_neg, hO1.1, sa, d1.1, c2, hO2.1, nI_add]
    · rw [if_neg c] at b5
      cases b5
      have q1 := r3.1
      have e2 : h1 = h := by rw [e1]; exact hset_id q1
      rw [e2] at sa c2 d1
      simp (disch := (first | omega | assumption | (simp (disch := omega) only [Int32.lt_iff_toInt_lt, Int32.le_iff_toInt_le, ← Int32.toInt_inj, nI_toInt, zi_m1, zi_m2, zi_m3, zi_m9]; omega) | decide)) only [sX0_keep_0, sX0_keep_1, sX0_keep_4, sX0_keep_5, sX0_keep_8, sX0_keep_9, sX0_keep_10, sX0_keep_13, sX0_keep_14, sX0_keep_15, sX0_keep_16, sX0_keep_17, sX0_keep_20, sX0_keep_21, sX0_keep_21i, sX0_keep_22, sX0_keep_25, sX0_keep_26, sX0_keep_27, sX0_keep_30, sX0_keep_31, sX0_keep_32, sX0_keep_35, sX0_keep_38i, sX0_keep_38iN, sX0_keep_38r, sX0_keep_38rN, sX0_keep_38z, sX0_keep_38zN, sX0_keep_38o, sX0_keep_38oN, sX0_keep_39, sX0_keep_39n, sX0_keep_40, sX0_keep_40n, sX0_keep_43, sX0_keep_43n, sX0_keep_44, sX0_keep_44n, sX0_keep_45, sX0_keep_48, sX0_keep_49, sX0_keep_49i, sX0_keep_50, sX0_keep_53, sX0_keep_54, sX0_keep_55, sX0_keep_58, gG0_0, gG0_1, gG0_2, gP0_0, gP0_1, gP0_2, zpush_v, zpush_n, gCk, gAi, gSi, gLi, gLq, ↓if_pos, ↓if_neg, q1, sa, d1.1, c2, hO2.1, nI_add]
theorem m_X0_restore {base : List Stt} {x : Stt} (hR : rHist h B H (base ++ [x])) (hA : anyScr h s) (hn : x.2.1.length ≤ 16) (hn2 : x.1.1 ≤ 10) (hs : s + 7 ≤ H ∨ H + 37 ≤ s) (hB : H + 37 ≤ B) (hB2 : s + 7 ≤ B) :
    ∃ h' h1, Same h h1 H 1 ∧ Same h1 h' s 7 ∧ rHist h' B H base ∧ rScr h' B s x ∧ ∀ Q : Option Value → Hp → Prop, WPm 2 [.ref H, .ref s] h Q = Q none h' := by
  obtain ⟨o, r1, r2, r3, r4, r5⟩ := hR
  have el : (base ++ [x]).length = base.length + 1 := by rw [List.length_append]; rfl
  rw [el] at r2 r3
  obtain ⟨h1, e1⟩ : ∃ g, g = hset h H (.inr (0, [.ref (H + 1), .int (nI o), .int (nI base.length)])) := ⟨_, rfl⟩
  have hO1 : oHist h1 H o base.length := by rw [e1]; exact r3.setN
  have s1 : Same h h1 H 1 := by rw [e1]; exact Same.set (by omega) (by omega)
  have hm := Nat.mod_lt (o + base.length) (show 5 > 0 by omega)
  have sa := m_X0_stateAt hO1 (k := base.length) (by omega)
  have hx := (r4 base.length x (by rw [List.getElem?_append_right (Nat.le_refl _), Nat.sub_self]; rfl)).off s1 (by simp only [slot]; omega) (by omega)
  obtain ⟨n', ht', rf', S', d1, d2⟩ := hA.off s1 (by omega)
  obtain ⟨h2, s2, t2, c2⟩ := m_X6_copy (B := B) d1 d2 hx hn hn2 (by simp only [slot]; omega) hB2
  have cx := hx.cell.1
  refine ⟨h2, h1, s1, s2, ⟨o, r1, by omega, hO1.off s2 (by omega), fun k y hy => ?_, fun i hi => ((r5 i hi).off s1 (by omega)).off s2 (by omega)⟩, t2, fun Q => ?_⟩
  · have := (List.getElem?_eq_some_iff.mp hy).1
    have hge : H + 2 ≤ slot H o k ∧ slot H o k + 7 ≤ H + 37 := by simp only [slot]; omega
    exact ((r4 k y (by rw [List.getElem?_append_left this]; exact hy)).off s1 (by omega) (by omega)).off s2 (by omega) (by omega)
  · rw [eX0_restore]
    have q1 := r3.1
    simp (disch := (first | omega | assumption | (simp (disch := omega) only [Int32.lt_iff_toInt_lt, Int32.le_iff_toInt_le, ← Int32.toInt_inj, nI_toInt, zi_m1, zi_m2, zi_m3, zi_m9]; omega) | decide)) only [sX0_restore_0, sX0_restore_1, sX0_restore_1i, sX0_restore_2, sX0_restore_5, sX0_restore_6, sX0_restore_7, sX0_restore_10, sX0_restore_11, sX0_restore_12, sX0_restore_15, sX0_restore_18i, sX0_restore_18iN, sX0_restore_18r, sX0_restore_18rN, sX0_restore_18z, sX0_restore_18zN, sX0_restore_18o, sX0_restore_18oN, sX0_restore_19, sX0_restore_19n, sX0_restore_20, sX0_restore_20n, sX0_restore_23, sX0_restore_23n, sX0_restore_24, sX0_restore_24n, sX0_restore_25, sX0_restore_28, gG0_0, gG0_1, gG0_2, gP0_0, gP0_1, gP0_2, zpush_v, zpush_n, gCk, gAi, gSi, gLi, gLq, ↓if_pos, ↓if_neg, q1, hset_same, hset_hset, nI_sub, Nat.add_sub_cancel, ← e1, hO1.1, sa, cx, c2, d1.1]
end HI
