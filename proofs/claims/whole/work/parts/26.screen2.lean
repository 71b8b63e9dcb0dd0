/-! Screen: copy, dropLine -/
section SD
variable {h : Hp} {B s c : Nat} {st : Stt}
theorem l_X6_copy {n' ht' : Nat} (hT : rScr h B c st) (hn : st.2.1.length ≤ 16) (hsc : s + 7 ≤ c ∨ c + 7 ≤ s) (hB : s + 7 ≤ B) : ∀ (m i : Nat), m + i = 16 → ∀ (h1 : Hp) (rf : Nat → Option Nat), Same h h1 s 7 → oScr h1 s n' ht' rf → (∀ j x, j < i → st.2.1[j]? = some x → ∃ q, rf j = some q ∧ rLn h1 B q x) →
    ∃ rf', (∀ j x, st.2.1[j]? = some x → ∃ q, rf' j = some q ∧ rLn (hset h1 (s + 6) (rowsC rf')) B q x) ∧
      ∀ Q : Option Value → Hp → Prop, WP 48 29 [some (.ref s), some (.ref c), some (.int (nI i))] [] h1 Q = Q none (hset h1 (s + 6) (rowsC rf')) := by
  intro m
  induction m with
  | zero =>
    intro i hi h1 rf hs hO hl
    have hi : i = 16 := by omega
    subst hi
    refine ⟨rf, fun j x hj => ?_, fun Q => ?_⟩
    · obtain ⟨q, q1, q2⟩ := hl j x (by have := (List.getElem?_eq_some_iff.mp hj).1; omega) hj
      exact ⟨q, q1, q2.off (Same.set (lo := s + 6) (n := 1) (by omega) (by omega)) (by omega)⟩
    · obtain ⟨c1, c2⟩ := hO
      rw [hset_id c2]
      unfold rowsC at c2
      rw [sX6_copy_29]
      simp (disch := (first | omega | assumption | (simp (disch := omega) only [Int32.lt_iff_toInt_lt, Int32.le_iff_toInt_le, ← Int32.toInt_inj, nI_toInt, zi_m1, zi_m2, zi_m3, zi_m9]; omega) | decide)) only [sX6_copy_0, sX6_copy_1, sX6_copy_4, sX6_copy_4n, sX6_copy_5, sX6_copy_8, sX6_copy_11, sX6_copy_12, sX6_copy_12n, sX6_copy_13, sX6_copy_16, sX6_copy_19, sX6_copy_20, sX6_copy_20n, sX6_copy_21, sX6_copy_24, sX6_copy_27, sX6_copy_28i, sX6_copy_28r, sX6_copy_28z, sX6_copy_28o, sX6_copy_30, sX6_copy_31, sX6_copy_34, sX6_copy_35, sX6_copy_38, sX6_copy_39, sX6_copy_42, sX6_copy_43, sX6_copy_43n, sX6_copy_44, sX6_copy_45, sX6_copy_48, sX6_copy_48n, sX6_copy_49i, sX6_copy_49r, sX6_copy_49z, sX6_copy_49o, sX6_copy_52, sX6_copy_55, gG6_0, gG6_1, gG6_2, gG6_3, gP6_0, gP6_1, gP6_2, gP6_3, zpush_v, zpush_n, gCk, gAi, gSi, gSz, gLi, gLq, ↓if_pos, ↓if_neg, c1, c2]
  | succ m ih =>
    intro i hi h1 rf hs hO hl
    obtain ⟨c1, c2⟩ := id hO
    have c2' := c2
    unfold rowsC at c2'
    have hT1 := hT.off hs (by omega) (by omega)
    have cc := hT1.cell.1
    have sA : ∀ e, Same h1 (hset h1 (s + 6) e) s 7 := fun e => Same.set (by omega) (by omega)
    by_cases hin : i < st.2.1.length
    · obtain ⟨x, hx⟩ : ∃ x, st.2.1[i]? = some x := ⟨st.2.1[i], List.getElem?_eq_getElem hin⟩
      obtain ⟨q, q1, q2⟩ := m_X6_lineAtT hT1 hn hx
      have hv : ∀ q', some q = some q' → zcls h1 q' = some (ztc 2) := fun q' hq' => by cases hq'; exact q1.cls
      obtain ⟨rf', r1, r2⟩ := ih (i + 1) (by omega) _ (va_up rf i (some q)) (hs.tr (sA _)) hO.setR (fun j y hj hy => by
        by_cases hji : j = i
        · subst hji
          rw [hx] at hy
          cases hy
          exact ⟨q, zup_at, q1.off (sA _) (by omega)⟩
        · obtain ⟨q', z1, z2⟩ := hl j y (by omega) hy
          exact ⟨q', by rw [zup_ne hji]; exact z1, z2.off (sA _) (by omega)⟩)
      rw [hset_hset] at r1 r2
      refine ⟨rf', r1, fun Q => ?_⟩
      rw [← r2 Q, sX6_copy_29]
      simp (disch := (first | omega | assumption | (simp (disch := omega) only [Int32.lt_iff_toInt_lt, Int32.le_iff_toInt_le, ← Int32.toInt_inj, nI_toInt, zi_m1, zi_m2, zi_m3, zi_m9]; omega) | decide)) only [sX6_copy_0, sX6_copy_1, sX6_copy_4, sX6_copy_4n, sX6_copy_5, sX6_copy_8, sX6_copy_11, sX6_copy_12, sX6_copy_12n, sX6_copy_13, sX6_copy_16, sX6_copy_19, sX6_copy_20, sX6_copy_20n, sX6_copy_21, sX6_copy_24, sX6_copy_27, sX6_copy_28i, sX6_copy_28r, sX6_copy_28z, sX6_copy_28o, sX6_copy_30, sX6_copy_31, sX6_copy_34, sX6_copy_35, sX6_copy_38, sX6_copy_39, sX6_copy_42, sX6_copy_43, sX6_copy_43n, sX6_copy_44, sX6_copy_45, sX6_copy_48, sX6_copy_48n, sX6_copy_49i, sX6_copy_49r, sX6_copy_49z, sX6_copy_49o, sX6_copy_52, sX6_copy_55, gG6_0, gG6_1, gG6_2, gG6_3, gP6_0, gP6_1, gP6_2, gP6_3, zpush_v, zpush_n, gCk, gAi, gSi, gSz, gLi, gLq, ↓if_pos, ↓if_neg, gSq (t := 2) (by omega) (show i < 16 by omega) (by omega) hv, c1, c2', cc, q2, nI_add]
      rfl
    · have hv : ∀ q', none = some q' → zcls h1 q' = some (ztc 2) := fun q' hq' => by cases hq'
      obtain ⟨rf', r1, r2⟩ := ih (i + 1) (by omega) _ (va_up rf i none) (hs.tr (sA _)) hO.setR (fun j y hj hy => by
        have hjl := (List.getElem?_eq_some_iff.mp hy).1
        obtain ⟨q', z1, z2⟩ := hl j y (by omega) hy
        exact ⟨q', by rw [zup_ne (by omega)]; exact z1, z2.off (sA _) (by omega)⟩)
      rw [hset_hset] at r1 r2
      refine ⟨rf', r1, fun Q => ?_⟩
      have q2 := m_X6_lineAtF hT1 (x := nI i) (Or.inr (nI_le (by omega) (by omega)))
      rw [← r2 Q, sX6_copy_29]
      simp (disch := (first | omega | assumption | (simp (disch := omega) only [Int32.lt_iff_toInt_lt, Int32.le_iff_toInt_le, ← Int32.toInt_inj, nI_toInt, zi_m1, zi_m2, zi_m3, zi_m9]; omega) | decide)) only [sX6_copy_0, sX6_copy_1, sX6_copy_4, sX6_copy_4n, sX6_copy_5, sX6_copy_8, sX6_copy_11, sX6_copy_12, sX6_copy_12n, sX6_copy_13, sX6_copy_16, sX6_copy_19, sX6_copy_20, sX6_copy_20n, sX6_copy_21, sX6_copy_24, sX6_copy_27, sX6_copy_28i, sX6_copy_28r, sX6_copy_28z, sX6_copy_28o, sX6_copy_30, sX6_copy_31, sX6_copy_34, sX6_copy_35, sX6_copy_38, sX6_copy_39, sX6_copy_42, sX6_copy_43, sX6_copy_43n, sX6_copy_44, sX6_copy_45, sX6_copy_48, sX6_copy_48n, sX6_copy_49i, sX6_copy_49r, sX6_copy_49z, sX6_copy_49o, sX6_copy_52, sX6_copy_55, gG6_0, gG6_1, gG6_2, gG6_3, gP6_0, gP6_1, gP6_2, gP6_3, zpush_v, zpush_n, gCk, gAi, gSi, gSz, gLi, gLq, ↓if_pos, ↓if_neg, gSq (t := 2) (by omega) (show i < 16 by omega) (by omega) hv, c1, c2', cc, q2, nI_add]
      rfl
theorem m_X6_copy {n' ht' : Nat} {rf : Nat → Option Nat} {S' : Sh} (hO : oScr h s n' ht' rf) (hS : rSheet h (s + 1) S') (hT : rScr h B c st) (hn : st.2.1.length ≤ 16) (hn2 : st.1.1 ≤ 10) (hsc : s + 7 ≤ c ∨ c + 7 ≤ s) (hB : s + 7 ≤ B) :
    ∃ h', Same h h' s 7 ∧ rScr h' B s st ∧ ∀ Q : Option Value → Hp → Prop, WPm 48 [.ref s, .ref c] h Q = Q none h' := by
  obtain ⟨ct, hTs⟩ := hT.cell
  obtain ⟨h1, a1, a2, a3⟩ := m_X7_copy hS hTs (by omega) hn2
  have a1' : Same h h1 s 7 := a1.wide (by omega) (by omega)
  have hO1 : oScr h1 s n' ht' rf := ⟨by rw [a1.at (by omega)]; exact hO.1, by rw [a1.at (by omega)]; exact hO.2⟩
  have hT1 := hT.off a1' (by omega) (by omega)
  have hO2 := hO1.setN (n' := st.2.1.length) (ht' := st.2.2)
  have s2 := a1'.tr (Same.set (a := s) (e := .inr (6, [.ref (s + 1), .ref (s + 6), .int (nI st.2.1.length), .int (nI st.2.2)])) (by omega) (by omega))
  obtain ⟨rf', r1, r2⟩ := l_X6_copy hT hn hsc hB 16 0 (by omega) _ rf s2 hO2 (fun j x hj _ => absurd hj (by omega))
  have s3 := s2.tr (Same.set (a := s + 6) (e := rowsC rf') (by omega) (by omega))
  have z2 : Same h1 (hset h1 s (.inr (6, [.ref (s + 1), .ref (s + 6), .int (nI st.2.1.length), .int (nI st.2.2)]))) s 1 := Same.set (by omega) (by omega)
  have z3 : ∀ g, Same g (hset g (s + 6) (rowsC rf')) (s + 6) 1 := fun g => Same.set (by omega) (by omega)
  refine ⟨_, s3, ⟨rf', hO2.setR, (a2.off z2 (by omega)).off (z3 _) (by omega), r1⟩, fun Q => ?_⟩
  obtain ⟨b1, b2⟩ := hO1
  obtain ⟨ct1, -⟩ := hT1.cell
  have b2' := b2
  unfold rowsC at b2'
  have := r2 Q
  rw [eX6_copy]
  simp (disch := (first | omega | assumption | (simp (disch := omega) only [Int32.lt_iff_toInt_lt, Int32.le_iff_toInt_le, ← Int32.toInt_inj, nI_toInt, zi_m1, zi_m2, zi_m3, zi_m9]; omega) | decide)) only [sX6_copy_0, sX6_copy_1, sX6_copy_4, sX6_copy_4n, sX6_copy_5, sX6_copy_8, sX6_copy_11, sX6_copy_12, sX6_copy_12n, sX6_copy_13, sX6_copy_16, sX6_copy_19, sX6_copy_20, sX6_copy_20n, sX6_copy_21, sX6_copy_24, sX6_copy_27, sX6_copy_28i, sX6_copy_28r, sX6_copy_28z, sX6_copy_28o, gG6_0, gG6_1, gG6_2, gG6_3, gP6_0, gP6_1, gP6_2, gP6_3, zpush_v, zpush_n, gCk, gAi, gSi, gSz, gLi, gLq, ↓if_pos, ↓if_neg, hO.1, ct, a3, b1, b2', ct1, hS.cell, hTs.cell, hset_same, hset_hset, hset_ne] at this ⊢
  exact this
end SD
