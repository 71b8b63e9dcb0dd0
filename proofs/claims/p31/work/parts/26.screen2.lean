/-! Screen: copy, dropLine -/
section SD
variable {h : Hp} {B s c : Nat} {st : Stt}
theorem l_X6_copy {n' ht' : Nat} (hT : rScr h B c st) (hn : st.2.1.length ≤ 16) (hsc : s + 7 ≤ c ∨ c + 7 ≤ s) (hB : s + 7 ≤ B) : ∀ (m i : Nat), m + i = 16 → ∀ (h1 : Hp) (rf : Nat → Option Nat), Same h h1 s 7 → oScr h1 s n' ht' rf → (∀ j x, j < i → st.2.1[j]? = some x → ∃ q, rf j = some q ∧ rLn h1 B q x) →
    ∃ rf', (∀ j x, st.2.1[j]? = some x → ∃ q, rf' j = some q ∧ rLn (hset h1 (s + 6) (rowsC rf')) B q x) ∧
      ∀ Q : Option Value → Hp → Prop, WP 48 29 [some (.ref s), some (.ref c), some (.int (nI i))] [] h1 Q = Q none (hset h1 (s + 6) (rowsC rf')) := by
  intro m
  induction m with
  | zero =>
    intro i hi h1 rf hs hO hl
    have hi : i = 16 := by omega
    subst hi
    refine ⟨rf, fun j x hj => ?_, fun Q => ?_⟩
    · obtain ⟨q, q1, q2⟩ := hl j x (by have := (List.getElem?_eq_some_iff.mp hj).1; omega) hj
      exact ⟨q, q1, q2.off (Same.set (lo := s + 6) (n := 1) (by omega) (by omega)) (by omega)⟩
    · obtain ⟨c1, c2⟩ := hO
      rw [hset_id c2]
      unfold rowsC at c2
      rw [sX6_copy_29]
      simp (disch := (first | omega | assumption | (simp (disch := omega) only [Int32.lt_iff_toInt_lt, Int32.le_iff_toInt_le, ← Int32.toInt_inj, nI_toInt, zi_m1, zi_m2, zi_m3, zi_m9]; omega) | decide)) only [sX6_copy_0, sX6_copy_1, sX6_copy_4, sX6_copy_4n, sX6_copy_5, sX6_copy_8, sX6_copy_11, sX6_copy_12, sX6_copy_12n, sX6_copy_13, sX6_copy_16, sX6_copy_19, sX6_copy_20, sX6_copy_20n, sX6_copy_21, sX6_copy_24, sX6_copy_27, sX6_copy_28i, sX6_copy_28r, sX6_copy_28z, sX6_copy_28o, sX6_copy_30, sX6_copy_31, sX6_copy_34, sX6_copy_35, sX6_copy_38, sX6_copy_39, sX6_copy_42, sX6_copy_43, sX6_copy_43n, sX6_copy_44, sX6_copy_45, sX6_copy_48, sX6_copy_48n, sX6_copy_49i, sX6_copy_49r, sX6_copy_49z, sX6_copy_49o, sX6_copy_52, sX6_copy_55, gG6_0, gG6_1, gG6_2, gG6_3, gP6_0, gP6_1, gP6_2, gP6_3, zpush_v, zpush_n, gCk, gAi, gSi, gLi, gLq, ↓if_pos, ↓if_neg, c1, c2]
  | succ m ih =>
    intro i hi h1 rf hs hO hl
    obtain ⟨c1, c2⟩ := id hO
    have c2' := c2
    unfold rowsC at c2'
    have hT1 := hT.off hs (by omega) (by omega)
    have cc := hT1.cell.1
    have sA : ∀ e, Same h1 (hset h1 (s + 6) e) s 7 := fun e => Same.set (by omega) (by omega)
    by_cases hin : i < st.2.1.length
    · obtain ⟨x, hx⟩ : ∃ x, st.2.1[i]? = some x := ⟨st.2.1[i], List.getElem?_eq_getElem hin⟩
      obtain ⟨q, q1, q2⟩ := m_X6_lineAtT hT1 hn hx
      have hv : ∀ q', some q = some q' → zcls h1 q' = some (ztc 2) := fun q' hq' => by cases hq'; exact q1.cls
      obtain ⟨rf', r1, r2⟩ := ih (i + 1) (by omega) _ (va_up rf i (some q)) (hs.tr (sA _)) hO.setR (fun j y hj hy => by
        by_cases hji : j = i
        · subst hji
          rw [hx] at hy
          cases hy
          exact ⟨q, zup_at, q1.off (sA _) (by omega)⟩
        · obtain ⟨q', z1, z2⟩ := hl j y (by omega) hy
          exact ⟨q', by rw [zup_ne hji]; exact z1, z2.off (sA _) (by omega)⟩)
      rw [hset_hset] at r1 r2
      refine ⟨rf', r1, fun Q => ?_⟩
      rw [← r2 Q, sX6_copy_29]
      simp (disch := (first | omega | assumption | (simp (disch := omega) only [Int32.lt_iff_toInt_lt, Int32.le_iff_toInt_le, ← Int32.toInt_inj, nI_toInt, zi_m1, zi_m2, zi_m3, zi_m9]; omega) | decide)) only [sX6_copy_0, sX6_copy_1, sX6_copy_4, sX6_copy_4n, sX6_copy_5, sX6_copy_8, sX6_copy_11, sX6_copy_12, sX6_copy_12n, sX6_copy_13, sX6_copy_16, sX6_copy_19, sX6_copy_20, sX6_copy_20n, sX6_copy_21, sX6_copy_24, sX6_copy_27, sX6_copy_28i, sX6_copy_28r, sX6_copy_28z, sX6_copy_28o, sX6_copy_30, sX6_copy_31, sX6_copy_34, sX6_copy_35, sX6_copy_38, sX6_copy_39, sX6_copy_42, sX6_copy_43, sX6_copy_43n, sX6_copy_44, sX6_copy_45, sX6_copy_48, sX6_copy_48n, sX6_copy_49i, sX6_copy_49r, sX6_copy_49z, sX6_copy_49o, sX6_copy_52, sX6_copy_55, gG6_0, gG6_1, gG6_2, gG6_3, gP6_0, gP6_1, gP6_2, gP6_3, zpush_v, zpush_n, gCk, gAi, gSi, gLi, gLq, ↓if_pos, ↓if_neg, gSq (t := 2) (by omega) (show i < 16 by omega) (by omega) hv, c1, c2', cc, q2, nI_add]
      rfl
    · have hv : ∀ q', none = some q' → zcls h1 q' = some (ztc 2) := fun q' hq' => by cases hq'
      obtain ⟨rf', r1, r2⟩ := ih (i + 1) (by omega) _ (va_up rf i none) (hs.tr (sA _)) hO.setR (fun j y hj hy => by
        have hjl := (List.getElem?_eq_some_iff.mp hy).1
        obtain ⟨q', z1, z2⟩ := hl j y (by omega) hy
        exact ⟨q', by rw [zup_ne (by omega)]; exact z1, z2.off (sA _) (by omega)⟩)
      rw [hset_hset] at r1 r2
      refine ⟨rf', r1, fun Q => ?_⟩
      have q2 := m_X6_lineAtF hT1 (x := nI i) (Or.inr (nI_le (by omega) (by omega)))
      rw [← r2 Q, sX6_copy_29]
      simp (disch := (first | omega | assumption | (simp (disch := omega) only [Int32.lt_iff_toInt_lt, Int32.le_iff_toInt_le, ← Int32.toInt_inj, nI_toInt, zi_m1, zi_m2, zi_m3, zi_m9]; omega) | decide)) only [sX6_copy_0, sX6_copy_1, sX6_copy_4, sX6_copy_4n, sX6_copy_5, sX6_copy_8, sX6_copy_11, sX6_copy_12, sX6_copy_12n, sX6_copy_13, sX6_copy_16, sX6_copy_19, sX6_copy_20, sX6_copy_20n, sX6_copy_21, sX6_copy_24, sX6_copy_27, sX6_copy_28i, sX6_copy_28r, sX6_copy_28z, sX6_copy_28o, sX6_copy_30, sX6_copy_31, sX6_copy_34, sX6_copy_35, sX6_copy_38, sX6_copy_39, sX6_copy_42, sX6_copy_43, sX6_copy_43n, sX6_copy_44, sX6_copy_45, sX6_copy_48, sX6_copy_48n, sX6_copy_49i, sX6_copy_49r, sX6_copy_49z, sX6_copy_49o, sX6_copy_52, sX6_copy_55, gG6_0, gG6_1, gG6_2, gG6_3, gP6_0, gP6_1, gP6_2, gP6_3, zpush_v, zpush_n, gCk, gAi, gSi, gLi, gLq, ↓if_pos, ↓if_neg, gSq (t := 2) (by omega) (show i < 16 by omega) (by omega) hv, c1, c2', cc, q2, nI_add]
      rfl
theorem m_X6_copy {n' ht' : Nat} {rf : Nat → Option Nat} {S' : Sh} (hO : oScr h s n' ht' rf) (hS : rSheet h (s + 1) S') (hT : rScr h B c st) (hn : st.2.1.length ≤ 16) (hn2 : st.1.1 ≤ 10) (hsc : s + 7 ≤ c ∨ c + 7 ≤ s) (hB : s + 7 ≤ B) :
    ∃ h', Same h h' s 7 ∧ rScr h' B s st ∧ ∀ Q : Option Value → Hp → Prop, WPm 48 [.ref s, .ref c] h Q = Q none h' := by
  obtain ⟨ct, hTs⟩ := hT.cell
  obtain ⟨h1, a1, a2, a3⟩ := m_X7_copy hS hTs (by omega) hn2
  have a1' : Same h h1 s 7 := a1.wide (by omega) (by omega)
  have hO1 : oScr h1 s n' ht' rf := ⟨by rw [a1.at (by omega)]; exact hO.1, by rw [a1.at (by omega)]; exact hO.2⟩
  have hT1 := hT.off a1' (by omega) (by omega)
  have hO2 := hO1.setN (n' := st.2.1.length) (ht' := st.2.2)
  have s2 := a1'.tr (Same.set (a := s) (e := .inr (6, [.ref (s + 1), .ref (s + 6), .int (nI st.2.1.length), .int (nI st.2.2)])) (by omega) (by omega))
  obtain ⟨rf', r1, r2⟩ := l_X6_copy hT hn hsc hB 16 0 (by omega) _ rf s2 hO2 (fun j x hj _ => absurd hj (by omega))
  have s3 := s2.tr (Same.set (a := s + 6) (e := rowsC rf') (by omega) (by omega))
  have z2 : Same h1 (hset h1 s (.inr (6, [.ref (s + 1), .ref (s + 6), .int (nI st.2.1.length), .int (nI st.2.2)]))) s 1 := Same.set (by omega) (by omega)
  have z3 : ∀ g, Same g (hset g (s + 6) (rowsC rf')) (s + 6) 1 := fun g => Same.set (by omega) (by omega)
  refine ⟨_, s3, ⟨rf', hO2.setR, (a2.off z2 (by omega)).off (z3 _) (by omega), r1⟩, fun Q => ?_⟩
  obtain ⟨b1, b2⟩ := hO1
  obtain ⟨ct1, -⟩ := hT1.cell
  have b2' := b2
  unfold rowsC at b2'
  have := r2 Q
  rw [eX6_copy]
  simp (disch := (first | omega | assumption | (simp (disch := omega) only [Int32.lt_iff_toInt_lt, Int32.le_iff_toInt_le, ← Int32.toInt_inj, nI_toInt, zi_m1, zi_m2, zi_m3, zi_m9]; omega) | decide)) only [sX6_copy_0, sX6_copy_1, sX6_copy_4, sX6_copy_4n, sX6_copy_5, sX6_copy_8, sX6_copy_11, sX6_copy_12, sX6_copy_12n, sX6_copy_13, sX6_copy_16, sX6_copy_19, sX6_copy_20, sX6_copy_20n, sX6_copy_21, sX6_copy_24, sX6_copy_27, sX6_copy_28i, sX6_copy_28r, sX6_copy_28z, sX6_copy_28o, gG6_0, gG6_1, gG6_2, gG6_3, gP6_0, gP6_1, gP6_2, gP6_3, zpush_v, zpush_n, gCk, gAi, gSi, gLi, gLq, ↓if_pos, ↓if_neg, hO.1, ct, a3, b1, b2', ct1, hS.cell, hTs.cell, hset_same, hset_hset, hset_ne] at this ⊢
  exact this
def shf (rf : Nat → Option Nat) (n a i : Nat) : Nat → Option Nat := fun j => if a ≤ j ∧ j < i then (if j + 1 < n then rf (j + 1) else none) else rf j
theorem shf_0 (rf : Nat → Option Nat) (n a : Nat) : shf rf n a a = rf := by
  funext j
  exact if_neg (by omega)
theorem shf_up {rf : Nat → Option Nat} {n a i : Nat} (hi : a ≤ i) : va_up (shf rf n a i) i (if i + 1 < n then rf (i + 1) else none) = shf rf n a (i + 1) := by
  funext j
  by_cases hj : j = i
  · subst hj
    rw [zup_at]
    unfold shf
    rw [if_pos (show a ≤ j ∧ j < j + 1 by omega)]
  · rw [zup_ne hj]
    unfold shf
    by_cases h2 : a ≤ j ∧ j < i
    · rw [if_pos h2, if_pos (show a ≤ j ∧ j < i + 1 by omega)]
    · rw [if_neg h2, if_neg (show ¬ (a ≤ j ∧ j < i + 1) by omega)]
theorem l_X6_dropLine {n ht : Nat} {rf : Nat → Option Nat} (hO : oScr h s n ht rf) (hn : n ≤ 16) (hB : s + 7 ≤ B) (hc : ∀ j, j < n → ∃ q, rf j = some q ∧ B ≤ q ∧ zcls h q = some 1) {a : Nat} (Q : Option Value → Hp → Prop) : ∀ (m i : Nat), m + i = n → a ≤ i →
    WP 52 2 [some (.ref s), some (.int (nI a)), some (.int (nI i))] [] (hset h (s + 6) (rowsC (shf rf n a i))) Q = Q none (hset (hset h (s + 6) (rowsC (shf rf n a n))) s (.inr (6, [.ref (s + 1), .ref (s + 6), .int (nI n - nI 1), .int (nI ht)]))) := by
  intro m
  induction m with
  | zero =>
    intro i hi ha
    have hi : i = n := by omega
    subst hi
    have o1 := hO.setR (rf' := shf rf i a i)
    have c1 := o1.1
    rw [sX6_dropLine_2]
    simp (disch := (first | omega | assumption | (simp (disch := omega) only [Int32.lt_iff_toInt_lt, Int32.le_iff_toInt_le, ← Int32.toInt_inj, nI_toInt, zi_m1, zi_m2, zi_m3, zi_m9]; omega) | decide)) only [sX6_dropLine_0, sX6_dropLine_1i, sX6_dropLine_1r, sX6_dropLine_1z, sX6_dropLine_1o, sX6_dropLine_3, sX6_dropLine_4, sX6_dropLine_7, sX6_dropLine_10, sX6_dropLine_11, sX6_dropLine_12, sX6_dropLine_13, sX6_dropLine_14, sX6_dropLine_15, sX6_dropLine_16, sX6_dropLine_19, sX6_dropLine_19n, sX6_dropLine_22i, sX6_dropLine_22r, sX6_dropLine_22z, sX6_dropLine_22o, sX6_dropLine_25, sX6_dropLine_28, sX6_dropLine_29, sX6_dropLine_29i, sX6_dropLine_30, sX6_dropLine_33, sX6_dropLine_34, sX6_dropLine_35, sX6_dropLine_38, gG6_0, gG6_1, gG6_2, gG6_3, gP6_0, gP6_1, gP6_2, gP6_3, zpush_v, zpush_n, gCk, gAi, gSi, gLi, gLq, ↓if_pos, ↓if_neg, c1]
  | succ m ih =>
    intro i hi ha
    have o1 := hO.setR (rf' := shf rf n a i)
    have c1 := o1.1
    by_cases hin : i + 1 < n
    · obtain ⟨q, q1, q2, q3⟩ := hc (i + 1) hin
      have e1 : shf rf n a i (i + 1) = some q := by
        unfold shf
        rw [if_neg (by omega)]
        exact q1
      have q4 : zcls (hset h (s + 6) (rowsC (shf rf n a i))) q = some 1 := by
        unfold zcls at q3 ⊢
        rw [hset_ne (by omega)]
        exact q3
      have e2 := shf_up (rf := rf) (n := n) ha
      rw [if_pos hin, q1] at e2
      rw [sX6_dropLine_2]
      simp (disch := (first | omega | assumption | (simp (disch := omega) only [Int32.lt_iff_toInt_lt, Int32.le_iff_toInt_le, ← Int32.toInt_inj, nI_toInt, zi_m1, zi_m2, zi_m3, zi_m9]; omega) | decide)) only [sX6_dropLine_0, sX6_dropLine_1i, sX6_dropLine_1r, sX6_dropLine_1z, sX6_dropLine_1o, sX6_dropLine_3, sX6_dropLine_4, sX6_dropLine_7, sX6_dropLine_10, sX6_dropLine_11, sX6_dropLine_12, sX6_dropLine_13, sX6_dropLine_14, sX6_dropLine_15, sX6_dropLine_16, sX6_dropLine_19, sX6_dropLine_19n, sX6_dropLine_22i, sX6_dropLine_22r, sX6_dropLine_22z, sX6_dropLine_22o, sX6_dropLine_25, sX6_dropLine_28, sX6_dropLine_29, sX6_dropLine_29i, sX6_dropLine_30, sX6_dropLine_33, sX6_dropLine_34, sX6_dropLine_35, sX6_dropLine_38, gG6_0, gG6_1, gG6_2, gG6_3, gP6_0, gP6_1, gP6_2, gP6_3, zpush_v, zpush_n, gCk, gAi, gSi, gLi, gLq, ↓if_pos, ↓if_neg, c1, nI_add, o_X6_lineAtT o1 hn hin e1, o_X6_putLine o1 (show i < 16 by omega) q4, hset_hset, e2]
      exact ih (i + 1) (by omega) (by omega)
    · have e2 := shf_up (rf := rf) (n := n) ha
      rw [if_neg hin] at e2
      rw [sX6_dropLine_2]
      simp (disch := (first | omega | assumption | (simp (disch := omega) only [Int32.lt_iff_toInt_lt, Int32.le_iff_toInt_le, ← Int32.toInt_inj, nI_toInt, zi_m1, zi_m2, zi_m3, zi_m9]; omega) | decide)) only [sX6_dropLine_0, sX6_dropLine_1i, sX6_dropLine_1r, sX6_dropLine_1z, sX6_dropLine_1o, sX6_dropLine_3, sX6_dropLine_4, sX6_dropLine_7, sX6_dropLine_10, sX6_dropLine_11, sX6_dropLine_12, sX6_dropLine_13, sX6_dropLine_14, sX6_dropLine_15, sX6_dropLine_16, sX6_dropLine_19, sX6_dropLine_19n, sX6_dropLine_22i, sX6_dropLine_22r, sX6_dropLine_22z, sX6_dropLine_22o, sX6_dropLine_25, sX6_dropLine_28, sX6_dropLine_29, sX6_dropLine_29i, sX6_dropLine_30, sX6_dropLine_33, sX6_dropLine_34, sX6_dropLine_35, sX6_dropLine_38, gG6_0, gG6_1, gG6_2, gG6_3, gP6_0, gP6_1, gP6_2, gP6_3, zpush_v, zpush_n, gCk, gAi, gSi, gLi, gLq, ↓if_pos, ↓if_neg, c1, nI_add, o_X6_lineAtF o1 (x := nI (i + 1)) (Or.inr (nI_le (by omega) (by omega))), o_X6_putNull o1 (show i < 16 by omega), hset_hset, e2]
      exact ih (i + 1) (by omega) (by omega)
theorem m_X6_dropLine (hR : rScr h B s st) (hn : st.2.1.length ≤ 16) (hB : s + 7 ≤ B) {a : Nat} (ha : a < st.2.1.length) :
    ∃ h', Same h h' s 7 ∧ rScr h' B s (st.1, st.2.1.eraseIdx a, st.2.2) ∧ ∀ Q : Option Value → Hp → Prop, WPm 52 [.ref s, .int (nI a)] h Q = Q none h' := by
  obtain ⟨rf, h1, h2, h3⟩ := hR
  have hc : ∀ j, j < st.2.1.length → ∃ q, rf j = some q ∧ B ≤ q ∧ zcls h q = some 1 := by
    intro j hj
    obtain ⟨q, q1, q2⟩ := h3 j _ (List.getElem?_eq_getElem hj)
    exact ⟨q, q1, q2.1, q2.cls⟩
  have s1 : Same h (hset h (s + 6) (rowsC (shf rf st.2.1.length a st.2.1.length))) s 7 := Same.set (by omega) (by omega)
  have o1 := h1.setR (rf' := shf rf st.2.1.length a st.2.1.length)
  have s2 := s1.tr (Same.set (a := s) (e := .inr (6, [.ref (s + 1), .ref (s + 6), .int (nI st.2.1.length - nI 1), .int (nI st.2.2)])) (by omega) (by omega))
  have z1 : Same h (hset h (s + 6) (rowsC (shf rf st.2.1.length a st.2.1.length))) (s + 6) 1 := Same.set (by omega) (by omega)
  have z2 : Same (hset h (s + 6) (rowsC (shf rf st.2.1.length a st.2.1.length))) (hset (hset h (s + 6) (rowsC (shf rf st.2.1.length a st.2.1.length))) s (.inr (6, [.ref (s + 1), .ref (s + 6), .int (nI st.2.1.length - nI 1), .int (nI st.2.2)]))) s 1 := Same.set (by omega) (by omega)
  have el : (st.2.1.eraseIdx a).length = st.2.1.length - 1 := by rw [List.length_eraseIdx, if_pos ha]
  refine ⟨_, s2, ⟨shf rf st.2.1.length a st.2.1.length, ?_, (h2.off z1 (by omega)).off z2 (by omega), fun j y hj => ?_⟩, fun Q => ?_⟩
  · show oScr _ s (st.2.1.eraseIdx a).length _ _
    rw [el, nI_sub (by omega) (by omega)]
    exact o1.setN
  · have hj : (st.2.1.eraseIdx a)[j]? = some y := hj
    have hjl := (List.getElem?_eq_some_iff.mp hj).1
    rw [el] at hjl
    rw [List.getElem?_eraseIdx] at hj
    unfold shf
    by_cases hja : j < a
    · rw [if_pos hja] at hj
      obtain ⟨q', q1, q2⟩ := h3 j y hj
      exact ⟨q', by rw [if_neg (by omega)]; exact q1, q2.off s2 (by omega)⟩
    · rw [if_neg hja] at hj
      obtain ⟨q', q1, q2⟩ := h3 (j + 1) y hj
      exact ⟨q', by rw [if_pos (by omega), if_pos (by omega)]; exact q1, q2.off s2 (by omega)⟩
  · have := l_X6_dropLine h1 hn hB hc (a := a) Q _ a (show st.2.1.length - a + a = _ by omega) (Nat.le_refl a)
    rw [shf_0, hset_id h1.2] at this
    rw [eX6_dropLine]
    simp (disch := (first | omega | assumption | (simp (disch := omega) only [Int32.lt_iff_toInt_lt, Int32.le_iff_toInt_le, ← Int32.toInt_inj, nI_toInt, zi_m1, zi_m2, zi_m3, zi_m9]; omega) | decide)) only [sX6_dropLine_0, sX6_dropLine_1i, sX6_dropLine_1r, sX6_dropLine_1z, sX6_dropLine_1o]
    exact this
end SD
