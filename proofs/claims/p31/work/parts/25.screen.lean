/-! Screen -/
abbrev Stt : Type := Sh × List Ln × Nat
/-- a line's object, at or above B -/
def rLn (h : Hp) (B q : Nat) (ln : Ln) : Prop := B ≤ q ∧ ∃ t, B ≤ t ∧ h.1 q = some (.inr (1, [.int (nI ln.1), .int (nI ln.2.1), .int (eN ln.2.2.1), .int (eN ln.2.2.2.1), .ref t])) ∧ rText h t ln.2.2.2.2
theorem rText.off {h h' : Hp} {t lo n : Nat} {its : List Itm} (hr : rText h t its) (hs : Same h h' lo n) (hq : t + 5 ≤ lo ∨ lo + n ≤ t) : rText h' t its := by
  obtain ⟨kf, nf, c1, c2, c3, c4⟩ := hr
  exact ⟨kf, nf, by rw [hs.at (by omega)]; exact c1, c2.off hs (by omega), c3.off hs (by omega), c4⟩
theorem rLn.off {h h' : Hp} {B q lo n : Nat} {ln : Ln} (hr : rLn h B q ln) (hs : Same h h' lo n) (hq : lo + n ≤ B) : rLn h' B q ln := by
  obtain ⟨b1, t, b2, c1, c2⟩ := hr
  exact ⟨b1, t, b2, by rw [hs.at (by omega)]; exact c1, c2.off hs (by omega)⟩
theorem rLn.cls {h : Hp} {B q : Nat} {ln : Ln} (hr : rLn h B q ln) : zcls h q = some 1 := by
  obtain ⟨b1, t, b2, c1, c2⟩ := hr
  unfold zcls
  rw [c1]
theorem va_rf_s {a : Nat} : va_rf (some a) = .ref a := rfl
theorem va_rf_n : va_rf none = .null := rfl
def rowsC (rf : Nat → Option Nat) : va_E := .inl (2, 16, .inr (.inr (.inr (.inr rf))))
def oScr (h : Hp) (s n ht : Nat) (rf : Nat → Option Nat) : Prop := h.1 s = some (.inr (6, [.ref (s + 1), .ref (s + 6), .int (nI n), .int (nI ht)])) ∧ h.1 (s + 6) = some (rowsC rf)
def lnR (h : Hp) (B : Nat) (rf : Nat → Option Nat) (lines : List Ln) : Prop := ∀ i x, lines[i]? = some x → ∃ q, rf i = some q ∧ rLn h B q x
def rScr (h : Hp) (B s : Nat) (st : Stt) : Prop := ∃ rf, oScr h s st.2.1.length st.2.2 rf ∧ rSheet h (s + 1) st.1 ∧ lnR h B rf st.2.1
theorem lnR.off {h h' : Hp} {B lo n : Nat} {rf : Nat → Option Nat} {l : List Ln} (hr : lnR h B rf l) (hs : Same h h' lo n) (hq : lo + n ≤ B) : lnR h' B rf l := by
  intro i x hi
  obtain ⟨q, q1, q2⟩ := hr i x hi
  exact ⟨q, q1, q2.off hs hq⟩
theorem oScr.off {h h' : Hp} {s n ht lo k : Nat} {rf : Nat → Option Nat} (hr : oScr h s n ht rf) (hs : Same h h' lo k) (hq : s + 7 ≤ lo ∨ lo + k ≤ s) : oScr h' s n ht rf :=
  ⟨by rw [hs.at (by omega)]; exact hr.1, by rw [hs.at (by omega)]; exact hr.2⟩
theorem rScr.off {h h' : Hp} {B s lo k : Nat} {st : Stt} (hr : rScr h B s st) (hs : Same h h' lo k) (hq : s + 7 ≤ lo ∨ lo + k ≤ s) (hB : lo + k ≤ B) : rScr h' B s st := by
  obtain ⟨rf, h1, h2, h3⟩ := hr
  exact ⟨rf, h1.off hs hq, h2.off hs (by omega), h3.off hs hB⟩
theorem rScr.cell {h : Hp} {B s : Nat} {st : Stt} (hr : rScr h B s st) : h.1 s = some (.inr (6, [.ref (s + 1), .ref (s + 6), .int (nI st.2.1.length), .int (nI st.2.2)])) ∧ rSheet h (s + 1) st.1 := by
  obtain ⟨rf, h1, h2, h3⟩ := hr
  exact ⟨h1.1, h2⟩
section SC
variable {h : Hp} {B s n ht : Nat} {rf : Nat → Option Nat} {st : Stt}
theorem o_X6_lineAtT (hO : oScr h s n ht rf) (hn : n ≤ 16) {i q : Nat} (hi : i < n) (hq : rf i = some q) (Q : Option Value → Hp → Prop) : WPm 49 [.ref s, .int (nI i)] h Q = Q (some (.ref q)) h := by
  obtain ⟨c1, c2⟩ := hO
  unfold rowsC at c2
  rw [eX6_lineAt]
  simp (disch := (first | omega | assumption | (simp (disch := omega) only [Int32.lt_iff_toInt_lt, Int32.le_iff_toInt_le, ← Int32.toInt_inj, nI_toInt, zi_m1, zi_m2, zi_m3, zi_m9]; omega) | decide)) only [sX6_lineAt_0, sX6_lineAt_1, sX6_lineAt_4, sX6_lineAt_5, sX6_lineAt_6, sX6_lineAt_9, sX6_lineAt_12, sX6_lineAt_13, sX6_lineAt_14, sX6_lineAt_17, sX6_lineAt_18, sX6_lineAt_21, sX6_lineAt_22, sX6_lineAt_25, sX6_lineAt_26, sX6_lineAt_27, sX6_lineAt_30, sX6_lineAt_31, sX6_lineAt_31n, gG6_0, gG6_1, gG6_2, gG6_3, gP6_0, gP6_1, gP6_2, gP6_3, zpush_v, zpush_n, gCk, gAi, gSi, gLi, gLq, ↓if_pos, ↓if_neg, gAq, c1, c2, hq, va_rf_s]
theorem o_X6_lineAtF (hO : oScr h s n ht rf) {x : Int32} (hx : x < nI 0 ∨ nI n ≤ x) (Q : Option Value → Hp → Prop) : WPm 49 [.ref s, .int x] h Q = Q (some .null) h := by
  obtain ⟨c1, c2⟩ := hO
  rw [eX6_lineAt]
  by_cases d1 : x < nI 0
  · simp (disch := (first | omega | assumption | (simp (disch := omega) only [Int32.lt_iff_toInt_lt, Int32.le_iff_toInt_le, ← Int32.toInt_inj, nI_toInt, zi_m1, zi_m2, zi_m3, zi_m9]; omega) | decide)) only [sX6_lineAt_0, sX6_lineAt_1, sX6_lineAt_4, sX6_lineAt_5, sX6_lineAt_6, sX6_lineAt_9, sX6_lineAt_12, sX6_lineAt_13, sX6_lineAt_14, sX6_lineAt_17, sX6_lineAt_18, sX6_lineAt_21, sX6_lineAt_22, sX6_lineAt_25, sX6_lineAt_26, sX6_lineAt_27, sX6_lineAt_30, sX6_lineAt_31, sX6_lineAt_31n, gG6_0, gG6_1, gG6_2, gG6_3, gP6_0, gP6_1, gP6_2, gP6_3, zpush_v, zpush_n, gCk, gAi, gSi, gLi, gLq, ↓if_pos, ↓if_neg, c1]
  · have d2 := hx.resolve_left d1
    simp (disch := (first | omega | assumption | (simp (disch := omega) only [Int32.lt_iff_toInt_lt, Int32.le_iff_toInt_le, ← Int32.toInt_inj, nI_toInt, zi_m1, zi_m2, zi_m3, zi_m9]; omega) | decide)) only [sX6_lineAt_0, sX6_lineAt_1, sX6_lineAt_4, sX6_lineAt_5, sX6_lineAt_6, sX6_lineAt_9, sX6_lineAt_12, sX6_lineAt_13, sX6_lineAt_14, sX6_lineAt_17, sX6_lineAt_18, sX6_lineAt_21, sX6_lineAt_22, sX6_lineAt_25, sX6_lineAt_26, sX6_lineAt_27, sX6_lineAt_30, sX6_lineAt_31, sX6_lineAt_31n, gG6_0, gG6_1, gG6_2, gG6_3, gP6_0, gP6_1, gP6_2, gP6_3, zpush_v, zpush_n, gCk, gAi, gSi, gLi, gLq, ↓if_pos, ↓if_neg, c1]
theorem m_X6_lineAtT (hR : rScr h B s st) (hn : st.2.1.length ≤ 16) {i : Nat} {x : Ln} (hi : st.2.1[i]? = some x) : ∃ q, rLn h B q x ∧ ∀ Q : Option Value → Hp → Prop, WPm 49 [.ref s, .int (nI i)] h Q = Q (some (.ref q)) h := by
  obtain ⟨rf, h1, h2, h3⟩ := hR
  obtain ⟨q, q1, q2⟩ := h3 i x hi
  exact ⟨q, q2, fun Q => o_X6_lineAtT h1 hn (List.getElem?_eq_some_iff.mp hi).1 q1 Q⟩
theorem m_X6_lineAtF (hR : rScr h B s st) {x : Int32} (hx : x < nI 0 ∨ nI st.2.1.length ≤ x) (Q : Option Value → Hp → Prop) : WPm 49 [.ref s, .int x] h Q = Q (some .null) h := by
  obtain ⟨rf, h1, h2, h3⟩ := hR
  exact o_X6_lineAtF h1 hx Q
theorem o_X6_putLine (hO : oScr h s n ht rf) {i q : Nat} (hi : i < 16) (hq : zcls h q = some 1) (Q : Option Value → Hp → Prop) : WPm 50 [.ref s, .int (nI i), .ref q] h Q = Q none (hset h (s + 6) (rowsC (va_up rf i (some q)))) := by
  obtain ⟨c1, c2⟩ := hO
  unfold rowsC at c2
  have hv : ∀ q', some q = some q' → zcls h q' = some (ztc 2) := fun q' hq' => by cases hq'; exact hq
  rw [eX6_putLine]
  simp (disch := (first | omega | assumption | (simp (disch := omega) only [Int32.lt_iff_toInt_lt, Int32.le_iff_toInt_le, ← Int32.toInt_inj, nI_toInt, zi_m1, zi_m2, zi_m3, zi_m9]; omega) | decide)) only [sX6_putLine_0, sX6_putLine_1, sX6_putLine_4, sX6_putLine_5, sX6_putLine_6, sX6_putLine_9, sX6_putLine_10, sX6_putLine_13, sX6_putLine_14, sX6_putLine_17, sX6_putLine_18, sX6_putLine_18n, sX6_putLine_19, sX6_putLine_19n, sX6_putLine_20, gG6_0, gG6_1, gG6_2, gG6_3, gP6_0, gP6_1, gP6_2, gP6_3, zpush_v, zpush_n, gCk, gAi, gSi, gLi, gLq, ↓if_pos, ↓if_neg, gSq (t := 2) (by omega) hi (by omega) hv, c1, c2]
  rfl
theorem o_X6_putNull (hO : oScr h s n ht rf) {i : Nat} (hi : i < 16) (Q : Option Value → Hp → Prop) : WPm 50 [.ref s, .int (nI i), .null] h Q = Q none (hset h (s + 6) (rowsC (va_up rf i none))) := by
  obtain ⟨c1, c2⟩ := hO
  unfold rowsC at c2
  have hv : ∀ q', none = some q' → zcls h q' = some (ztc 2) := fun q' hq' => by cases hq'
  rw [eX6_putLinen]
  simp (disch := (first | omega | assumption | (simp (disch := omega) only [Int32.lt_iff_toInt_lt, Int32.le_iff_toInt_le, ← Int32.toInt_inj, nI_toInt, zi_m1, zi_m2, zi_m3, zi_m9]; omega) | decide)) only [sX6_putLine_0, sX6_putLine_1, sX6_putLine_4, sX6_putLine_5, sX6_putLine_6, sX6_putLine_9, sX6_putLine_10, sX6_putLine_13, sX6_putLine_14, sX6_putLine_17, sX6_putLine_18, sX6_putLine_18n, sX6_putLine_19, sX6_putLine_19n, sX6_putLine_20, gG6_0, gG6_1, gG6_2, gG6_3, gP6_0, gP6_1, gP6_2, gP6_3, zpush_v, zpush_n, gCk, gAi, gSi, gLi, gLq, ↓if_pos, ↓if_neg, gSq (t := 2) (by omega) hi (by omega) hv, c1, c2]
  rfl
theorem oScr.setR {rf' : Nat → Option Nat} (hO : oScr h s n ht rf) : oScr (hset h (s + 6) (rowsC rf')) s n ht rf' := ⟨by rw [hset_ne (by omega)]; exact hO.1, hset_same⟩
theorem oScr.setN {n' ht' : Nat} (hO : oScr h s n ht rf) : oScr (hset h s (.inr (6, [.ref (s + 1), .ref (s + 6), .int (nI n'), .int (nI ht')]))) s n' ht' rf := ⟨hset_same, by rw [hset_ne (by omega)]; exact hO.2⟩
theorem zup_at {f : Nat → Option Nat} {i : Nat} {v : Option Nat} : va_up f i v i = v := if_pos rfl
theorem zup_ne {f : Nat → Option Nat} {i j : Nat} {v : Option Nat} (h : ¬ j = i) : va_up f i v j = f j := if_neg h
theorem m_X6_putLine (hR : rScr h B s st) (hB : s + 7 ≤ B) (hn : st.2.1.length ≤ 16) {i q : Nat} {x : Ln} (hi : i < st.2.1.length) (hq : rLn h B q x) :
    ∃ h', Same h h' s 7 ∧ rScr h' B s (st.1, st.2.1.set i x, st.2.2) ∧ ∀ Q : Option Value → Hp → Prop, WPm 50 [.ref s, .int (nI i), .ref q] h Q = Q none h' := by
  obtain ⟨rf, h1, h2, h3⟩ := hR
  have s1 : Same h (hset h (s + 6) (rowsC (va_up rf i (some q)))) (s + 6) 1 := Same.set (by omega) (by omega)
  refine ⟨_, s1.wide (by omega) (by omega), ⟨va_up rf i (some q), ?_, h2.off s1 (by omega), fun j y hj => ?_⟩, fun Q => o_X6_putLine h1 (by omega) hq.cls Q⟩
  · show oScr _ s (st.2.1.set i x).length _ _
    rw [List.length_set]
    exact h1.setR
  · by_cases hji : j = i
    · subst hji
      have hj : (st.2.1.set j x)[j]? = some y := hj
      rw [List.getElem?_set_self hi] at hj
      cases hj
      exact ⟨q, zup_at, hq.off s1 (by omega)⟩
    · have hj : (st.2.1.set i x)[j]? = some y := hj
      rw [List.getElem?_set_ne (Ne.symm hji)] at hj
      obtain ⟨q', q1, q2⟩ := h3 j y hj
      exact ⟨q', by rw [zup_ne hji]; exact q1, q2.off s1 (by omega)⟩
theorem m_X6_addLine (hR : rScr h B s st) (hB : s + 7 ≤ B) (hn : st.2.1.length < 16) {q : Nat} {x : Ln} (hq : rLn h B q x) :
    ∃ h', Same h h' s 7 ∧ rScr h' B s (st.1, st.2.1 ++ [x], st.2.2) ∧ ∀ Q : Option Value → Hp → Prop, WPm 51 [.ref s, .ref q] h Q = Q none h' := by
  obtain ⟨rf, h1, h2, h3⟩ := hR
  have s1 : Same h (hset h (s + 6) (rowsC (va_up rf st.2.1.length (some q)))) s 7 := Same.set (by omega) (by omega)
  have o1 := h1.setR (rf' := va_up rf st.2.1.length (some q))
  have s2 := s1.tr (Same.set (a := s) (e := .inr (6, [.ref (s + 1), .ref (s + 6), .int (nI (st.2.1.length + 1)), .int (nI st.2.2)])) (by omega) (by omega))
  have z1 : Same h (hset h (s + 6) (rowsC (va_up rf st.2.1.length (some q)))) (s + 6) 1 := Same.set (by omega) (by omega)
  have z2 : Same (hset h (s + 6) (rowsC (va_up rf st.2.1.length (some q)))) (hset (hset h (s + 6) (rowsC (va_up rf st.2.1.length (some q)))) s (.inr (6, [.ref (s + 1), .ref (s + 6), .int (nI (st.2.1.length + 1)), .int (nI st.2.2)]))) s 1 := Same.set (by omega) (by omega)
  refine ⟨_, s2, ⟨va_up rf st.2.1.length (some q), ?_, (h2.off z1 (by omega)).off z2 (by omega), fun j y hj => ?_⟩, fun Q => ?_⟩
  · show oScr _ s (st.2.1 ++ [x]).length _ _
    rw [List.length_append]
    exact o1.setN
  · have hj : (st.2.1 ++ [x])[j]? = some y := hj
    by_cases hji : j < st.2.1.length
    · rw [List.getElem?_append_left hji] at hj
      obtain ⟨q', q1, q2⟩ := h3 j y hj
      exact ⟨q', by rw [zup_ne (by omega)]; exact q1, q2.off s2 (by omega)⟩
    · rw [List.getElem?_append_right (by omega)] at hj
      have hz : j - st.2.1.length < 1 := (List.getElem?_eq_some_iff.mp hj).1
      have hj0 : j = st.2.1.length := by omega
      subst hj0
      rw [Nat.sub_self] at hj
      cases hj
      exact ⟨q, zup_at, hq.off s2 (by omega)⟩
  · rw [eX6_addLine]
    simp (disch := (first | omega | assumption | (simp (disch := omega) only [Int32.lt_iff_toInt_lt, Int32.le_iff_toInt_le, ← Int32.toInt_inj, nI_toInt, zi_m1, zi_m2, zi_m3, zi_m9]; omega) | decide)) only [sX6_addLine_0, sX6_addLine_1, sX6_addLine_2, sX6_addLine_5, sX6_addLine_5n, sX6_addLine_6, sX6_addLine_6n, sX6_addLine_9, sX6_addLine_10, sX6_addLine_10i, sX6_addLine_11, sX6_addLine_14, sX6_addLine_15, sX6_addLine_16, sX6_addLine_19, gG6_0, gG6_1, gG6_2, gG6_3, gP6_0, gP6_1, gP6_2, gP6_3, zpush_v, zpush_n, gCk, gAi, gSi, gLi, gLq, ↓if_pos, ↓if_neg, h1.1, o1.1, nI_add, o_X6_putLine h1 hn hq.cls]
def hasSt (t : Nat) (l : List Ln) : Bool := l.any (fun x => x.2.2.1 == some t)
theorem l_X6_hasStyle (hR : rScr h B s st) (hn : st.2.1.length ≤ 16) {t : Nat} (ht : t < 10) (hok : ∀ x ∈ st.2.1, okO x.2.2.1) (Q : Option Value → Hp → Prop) : ∀ (m i : Nat) (l : Option Value), m + i = st.2.1.length → (l = none ∨ (∃ y, l = some (.ref y))) →
    WP 53 2 [some (.ref s), some (.int (nI t)), some (.int (nI i)), l] [] h Q = Q (some (.int (bI (hasSt t (st.2.1.drop i) = true)))) h := by
  have c1 := hR.cell.1
  intro m
  induction m with
  | zero =>
    intro i l hi hl
    have hi : i = st.2.1.length := by omega
    subst hi
    rw [sX6_hasLineOfStyle_2]
    simp (disch := (first | omega | assumption | (simp (disch := omega) only [Int32.lt_iff_toInt_lt, Int32.le_iff_toInt_le, ← Int32.toInt_inj, nI_toInt, zi_m1, zi_m2, zi_m3, zi_m9]; omega) | decide)) only [sX6_hasLineOfStyle_0, sX6_hasLineOfStyle_1i, sX6_hasLineOfStyle_1r, sX6_hasLineOfStyle_1z, sX6_hasLineOfStyle_1o, sX6_hasLineOfStyle_3, sX6_hasLineOfStyle_4, sX6_hasLineOfStyle_7, sX6_hasLineOfStyle_10, sX6_hasLineOfStyle_11, sX6_hasLineOfStyle_12, sX6_hasLineOfStyle_15i, sX6_hasLineOfStyle_15iN, sX6_hasLineOfStyle_15r, sX6_hasLineOfStyle_15rN, sX6_hasLineOfStyle_15z, sX6_hasLineOfStyle_15zN, sX6_hasLineOfStyle_15o, sX6_hasLineOfStyle_15oN, sX6_hasLineOfStyle_16, sX6_hasLineOfStyle_16n, sX6_hasLineOfStyle_17, sX6_hasLineOfStyle_17n, sX6_hasLineOfStyle_20, sX6_hasLineOfStyle_20n, sX6_hasLineOfStyle_21, sX6_hasLineOfStyle_24, sX6_hasLineOfStyle_25, sX6_hasLineOfStyle_28, sX6_hasLineOfStyle_29, sX6_hasLineOfStyle_30i, sX6_hasLineOfStyle_30r, sX6_hasLineOfStyle_30z, sX6_hasLineOfStyle_30o, sX6_hasLineOfStyle_33, sX6_hasLineOfStyle_36, sX6_hasLineOfStyle_37, gG6_0, gG6_1, gG6_2, gG6_3, gP6_0, gP6_1, gP6_2, gP6_3, gG1_0, gG1_1, gG1_2, gG1_3, gG1_4, gP1_0, gP1_1, gP1_2, gP1_3, gP1_4, zpush_v, zpush_n, gCk, gAi, gSi, gLi, gLq, ↓if_pos, ↓if_neg, c1, List.drop_length]
    rfl
  | succ m ih =>
    intro i l hi hl
    obtain ⟨x, hx⟩ : ∃ x, st.2.1[i]? = some x := ⟨st.2.1[i], List.getElem?_eq_getElem (by omega)⟩
    obtain ⟨q, q1, q2⟩ := m_X6_lineAtT hR hn hx
    obtain ⟨b1, t', b2, c3, c4⟩ := q1
    have hd : st.2.1.drop i = x :: st.2.1.drop (i + 1) := by
      have hlt : i < st.2.1.length := by omega
      rw [List.drop_eq_getElem_cons hlt]
      rw [List.getElem?_eq_getElem hlt] at hx
      cases hx
      rfl
    rw [sX6_hasLineOfStyle_2, hd]
    have hox := hok x (List.mem_of_getElem? hx)
    by_cases he : x.2.2.1 = some t
    · rcases hl with rfl | ⟨y, rfl⟩
      all_goals
        simp (disch := (first | omega | assumption | (simp (disch := omega) only [Int32.lt_iff_toInt_lt, Int32.le_iff_toInt_le, ← Int32.toInt_inj, nI_toInt, zi_m1, zi_m2, zi_m3, zi_m9]; omega) | decide)) only [sX6_hasLineOfStyle_0, sX6_hasLineOfStyle_1i, sX6_hasLineOfStyle_1r, sX6_hasLineOfStyle_1z, sX6_hasLineOfStyle_1o, sX6_hasLineOfStyle_3, sX6_hasLineOfStyle_4, sX6_hasLineOfStyle_7, sX6_hasLineOfStyle_10, sX6_hasLineOfStyle_11, sX6_hasLineOfStyle_12, sX6_hasLineOfStyle_15i, sX6_hasLineOfStyle_15iN, sX6_hasLineOfStyle_15r, sX6_hasLineOfStyle_15rN, sX6_hasLineOfStyle_15z, sX6_hasLineOfStyle_15zN, sX6_hasLineOfStyle_15o, sX6_hasLineOfStyle_15oN, sX6_hasLineOfStyle_16, sX6_hasLineOfStyle_16n, sX6_hasLineOfStyle_17, sX6_hasLineOfStyle_17n, sX6_hasLineOfStyle_20, sX6_hasLineOfStyle_20n, sX6_hasLineOfStyle_21, sX6_hasLineOfStyle_24, sX6_hasLineOfStyle_25, sX6_hasLineOfStyle_28, sX6_hasLineOfStyle_29, sX6_hasLineOfStyle_30i, sX6_hasLineOfStyle_30r, sX6_hasLineOfStyle_30z, sX6_hasLineOfStyle_30o, sX6_hasLineOfStyle_33, sX6_hasLineOfStyle_36, sX6_hasLineOfStyle_37, gG6_0, gG6_1, gG6_2, gG6_3, gP6_0, gP6_1, gP6_2, gP6_3, gG1_0, gG1_1, gG1_2, gG1_3, gG1_4, gP1_0, gP1_1, gP1_2, gP1_3, gP1_4, zpush_v, zpush_n, gCk, gAi, gSi, gLi, gLq, ↓if_pos, ↓if_neg, c1, q2, c3, he, eN_s]
        simp [hasSt, he, bI]
    · have hne : ¬ eN x.2.2.1 = nI t := by
        cases hq : x.2.2.1 with
        | none => intro z; exact nI_nm1 (by omega) z.symm
        | some w =>
          have := hox w hq
          intro z
          rw [eN_s, nI_eq (by omega) (by omega)] at z
          rw [hq, z] at he
          exact he rfl
      have e2 : hasSt t (x :: st.2.1.drop (i + 1)) = hasSt t (st.2.1.drop (i + 1)) := by simp [hasSt, he]
      rw [e2, ← ih (i + 1) (some (.ref q)) (by omega) (Or.inr ⟨q, rfl⟩)]
      rcases hl with rfl | ⟨y, rfl⟩
      all_goals simp (disch := (first | omega | assumption | (simp (disch := omega) only [Int32.lt_iff_toInt_lt, Int32.le_iff_toInt_le, ← Int32.toInt_inj, nI_toInt, zi_m1, zi_m2, zi_m3, zi_m9]; omega) | decide)) only [sX6_hasLineOfStyle_0, sX6_hasLineOfStyle_1i, sX6_hasLineOfStyle_1r, sX6_hasLineOfStyle_1z, sX6_hasLineOfStyle_1o, sX6_hasLineOfStyle_3, sX6_hasLineOfStyle_4, sX6_hasLineOfStyle_7, sX6_hasLineOfStyle_10, sX6_hasLineOfStyle_11, sX6_hasLineOfStyle_12, sX6_hasLineOfStyle_15i, sX6_hasLineOfStyle_15iN, sX6_hasLineOfStyle_15r, sX6_hasLineOfStyle_15rN, sX6_hasLineOfStyle_15z, sX6_hasLineOfStyle_15zN, sX6_hasLineOfStyle_15o, sX6_hasLineOfStyle_15oN, sX6_hasLineOfStyle_16, sX6_hasLineOfStyle_16n, sX6_hasLineOfStyle_17, sX6_hasLineOfStyle_17n, sX6_hasLineOfStyle_20, sX6_hasLineOfStyle_20n, sX6_hasLineOfStyle_21, sX6_hasLineOfStyle_24, sX6_hasLineOfStyle_25, sX6_hasLineOfStyle_28, sX6_hasLineOfStyle_29, sX6_hasLineOfStyle_30i, sX6_hasLineOfStyle_30r, sX6_hasLineOfStyle_30z, sX6_hasLineOfStyle_30o, sX6_hasLineOfStyle_33, sX6_hasLineOfStyle_36, sX6_hasLineOfStyle_37, gG6_0, gG6_1, gG6_2, gG6_3, gP6_0, gP6_1, gP6_2, gP6_3, gG1_0, gG1_1, gG1_2, gG1_3, gG1_4, gP1_0, gP1_1, gP1_2, gP1_3, gP1_4, zpush_v, zpush_n, gCk, gAi, gSi, gLi, gLq, ↓if_pos, ↓if_neg, c1, q2, c3, nI_add]
theorem m_X6_hasStyle (hR : rScr h B s st) (hn : st.2.1.length ≤ 16) {t : Nat} (ht : t < 10) (hok : ∀ x ∈ st.2.1, okO x.2.2.1) (Q : Option Value → Hp → Prop) : WPm 53 [.ref s, .int (nI t)] h Q = Q (some (.int (bI (hasSt t st.2.1 = true)))) h := by
  rw [eX6_hasLineOfStyle]
  simp (disch := (first | omega | assumption | (simp (disch := omega) only [Int32.lt_iff_toInt_lt, Int32.le_iff_toInt_le, ← Int32.toInt_inj, nI_toInt, zi_m1, zi_m2, zi_m3, zi_m9]; omega) | decide)) only [sX6_hasLineOfStyle_0, sX6_hasLineOfStyle_1i, sX6_hasLineOfStyle_1r, sX6_hasLineOfStyle_1z, sX6_hasLineOfStyle_1o]
  exact l_X6_hasStyle hR hn ht hok Q _ 0 none rfl (Or.inl rfl)
end SC
