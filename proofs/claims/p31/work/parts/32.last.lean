/-! Text.withLastSyllable -/
/-- the last syllable's place, below i -/
def lstK (its : List Itm) : Nat → Option Nat
  | 0 => none
  | i + 1 => if isK (its.getD i (.inl 0)) = true then some i else lstK its i
def setK (its : List Itm) (v : Nat) : List Itm := match lstK its its.length with
  | some i => its.set i (.inr (107, some v))
  | none => its
theorem iK_K {x : Itm} (h : okI x) : (isK x = true ↔ iK x = nI 107) := by
  cases x with
  | inl c =>
    constructor
    · intro z; cases z
    · intro z
      have z : nI 0 = nI 107 := z
      rw [nI_eq (by omega) (by omega)] at z
      omega
  | inr y =>
    obtain ⟨l, o⟩ := y
    have hl : l < 200 := by
      unfold okI at h
      omega
    constructor
    · intro z
      have z : Nat.beq l 107 = true := z
      rw [Nat.eq_of_beq_eq_true z]
      rfl
    · intro z
      have z : nI l = nI 107 := z
      rw [nI_eq (by omega) (by omega)] at z
      rw [z]
      rfl
theorem setK_length {its : List Itm} {v : Nat} : (setK its v).length = its.length := by
  unfold setK
  split
  · exact List.length_set
  · rfl
def lsHp (h : Hp) (t' n : Nat) (nf : Nat → Int32) (v : Nat) : Option Nat → Hp
  | some i => hset h (t' + 3 + 1) (.inl (0, n, .inl (upd nf i (nI v))))
  | none => h
section TL
variable {h : Hp} {t t' : Nat} {its : List Itm}
theorem l_X8_last {kf nf' : Nat → Int32} {v : Nat} (hn : its.length ≤ 80) (ct : h.1 t = some (.inr (8, [.int (nI its.length), .ref (t + 1), .ref (t + 3)]))) (hk : oRow h (t + 1) its.length kf) (ct' : h.1 t' = some (.inr (8, [.int (nI its.length), .ref (t' + 1), .ref (t' + 3)]))) (hn' : oRow h (t' + 3) its.length nf') (hkf : ∀ i x, its[i]? = some x → kf i = iK x) (hok : ∀ x ∈ its, okI x) (Q : Option Value → Hp → Prop) : ∀ i x, i ≤ its.length → (x = if i = 0 then -1 else nI (i - 1)) →
    WP 69 27 [some (.ref t), some (.int (nI v)), some (.ref t'), some (.int x)] [] h Q = Q (some (.ref t')) (lsHp h t' its.length nf' v (lstK its i)) := by
  intro i
  induction i with
  | zero =>
    intro x hi hx
    rw [if_pos rfl] at hx
    subst hx
    rw [sX8_withLastSyllable_27]
    simp (disch := (first | omega | assumption | (simp (disch := omega) only [Int32.lt_iff_toInt_lt, Int32.le_iff_toInt_le, ← Int32.toInt_inj, nI_toInt, zi_m1, zi_m2, zi_m3, zi_m9]; omega) | decide)) only [sX8_withLastSyllable_28, sX8_withLastSyllable_31, sX8_withLastSyllable_32, sX8_withLastSyllable_35, sX8_withLastSyllable_36, sX8_withLastSyllable_39, sX8_withLastSyllable_41, sX8_withLastSyllable_44, sX8_withLastSyllable_44n, sX8_withLastSyllable_45, sX8_withLastSyllable_48, sX8_withLastSyllable_49, sX8_withLastSyllable_50, sX8_withLastSyllable_53, sX8_withLastSyllable_53n, sX8_withLastSyllable_54, sX8_withLastSyllable_54n, sX8_withLastSyllable_55i, sX8_withLastSyllable_55r, sX8_withLastSyllable_55z, sX8_withLastSyllable_55o, sX8_withLastSyllable_58, sX8_withLastSyllable_61, sX8_withLastSyllable_61n, sX8_withLastSyllable_62, sX8_withLastSyllable_62n, gG8_0, gG8_1, gG8_2, gP8_0, gP8_1, gP8_2, zpush_v, zpush_n, gCk, gAi, gSi, gLi, gLq, ↓if_pos, ↓if_neg]
    rfl
  | succ i ih =>
    intro x hi hx
    rw [if_neg (by omega), Nat.add_sub_cancel] at hx
    subst hx
    obtain ⟨y, hy⟩ : ∃ y, its[i]? = some y := ⟨its[i], List.getElem?_eq_getElem (by omega)⟩
    have hg : its.getD i (.inl 0) = y := by
      rw [List.getD_eq_getElem?_getD, hy]
      rfl
    have gk := m_X5_get hk (k := i) (by omega) (by omega)
    rw [hkf i y hy] at gk
    have hyk := iK_K (hok y (List.mem_of_getElem? hy))
    simp only [lstK, hg]
    by_cases c : isK y = true
    · rw [if_pos c]
      have e := hyk.mp c
      rw [e] at gk
      rw [sX8_withLastSyllable_27]
      simp (disch := (first | omega | assumption | (simp (disch := omega) only [Int32.lt_iff_toInt_lt, Int32.le_iff_toInt_le, ← Int32.toInt_inj, nI_toInt, zi_m1, zi_m2, zi_m3, zi_m9]; omega) | decide)) only [sX8_withLastSyllable_28, sX8_withLastSyllable_31, sX8_withLastSyllable_32, sX8_withLastSyllable_35, sX8_withLastSyllable_36, sX8_withLastSyllable_39, sX8_withLastSyllable_41, sX8_withLastSyllable_44, sX8_withLastSyllable_44n, sX8_withLastSyllable_45, sX8_withLastSyllable_48, sX8_withLastSyllable_49, sX8_withLastSyllable_50, sX8_withLastSyllable_53, sX8_withLastSyllable_53n, sX8_withLastSyllable_54, sX8_withLastSyllable_54n, sX8_withLastSyllable_55i, sX8_withLastSyllable_55r, sX8_withLastSyllable_55z, sX8_withLastSyllable_55o, sX8_withLastSyllable_58, sX8_withLastSyllable_61, sX8_withLastSyllable_61n, sX8_withLastSyllable_62, sX8_withLastSyllable_62n, gG8_0, gG8_1, gG8_2, gP8_0, gP8_1, gP8_2, gG5_0, gP5_0, zpush_v, zpush_n, gCk, gAi, gSi, gLi, gLq, ↓if_pos, ↓if_neg, ct, ct', hk.1, hn'.1, gk, m_X5_set hn']
      rfl
    · rw [if_neg c]
      have e : ¬ iK y = nI 107 := fun z => c (hyk.mpr z)
      rw [← ih (if i = 0 then -1 else nI (i - 1)) (by omega) rfl, sX8_withLastSyllable_27]
      by_cases c0 : i = 0
      · subst c0
        simp (disch := (first | omega | assumption | (simp (disch := omega) only [Int32.lt_iff_toInt_lt, Int32.le_iff_toInt_le, ← Int32.toInt_inj, nI_toInt, zi_m1, zi_m2, zi_m3, zi_m9]; omega) | decide)) only [sX8_withLastSyllable_28, sX8_withLastSyllable_31, sX8_withLastSyllable_32, sX8_withLastSyllable_35, sX8_withLastSyllable_36, sX8_withLastSyllable_39, sX8_withLastSyllable_41, sX8_withLastSyllable_44, sX8_withLastSyllable_44n, sX8_withLastSyllable_45, sX8_withLastSyllable_48, sX8_withLastSyllable_49, sX8_withLastSyllable_50, sX8_withLastSyllable_53, sX8_withLastSyllable_53n, sX8_withLastSyllable_54, sX8_withLastSyllable_54n, sX8_withLastSyllable_55i, sX8_withLastSyllable_55r, sX8_withLastSyllable_55z, sX8_withLastSyllable_55o, sX8_withLastSyllable_58, sX8_withLastSyllable_61, sX8_withLastSyllable_61n, sX8_withLastSyllable_62, sX8_withLastSyllable_62n, gG8_0, gG8_1, gG8_2, gP8_0, gP8_1, gP8_2, gG5_0, gP5_0, zpush_v, zpush_n, gCk, gAi, gSi, gLi, gLq, ↓if_pos, ↓if_neg, ct, ct', hk.1, gk]
        rfl
      · simp (disch := (first | omega | assumption | (simp (disch := omega) only [Int32.lt_iff_toInt_lt, Int32.le_iff_toInt_le, ← Int32.toInt_inj, nI_toInt, zi_m1, zi_m2, zi_m3, zi_m9]; omega) | decide)) only [sX8_withLastSyllable_28, sX8_withLastSyllable_31, sX8_withLastSyllable_32, sX8_withLastSyllable_35, sX8_withLastSyllable_36, sX8_withLastSyllable_39, sX8_withLastSyllable_41, sX8_withLastSyllable_44, sX8_withLastSyllable_44n, sX8_withLastSyllable_45, sX8_withLastSyllable_48, sX8_withLastSyllable_49, sX8_withLastSyllable_50, sX8_withLastSyllable_53, sX8_withLastSyllable_53n, sX8_withLastSyllable_54, sX8_withLastSyllable_54n, sX8_withLastSyllable_55i, sX8_withLastSyllable_55r, sX8_withLastSyllable_55z, sX8_withLastSyllable_55o, sX8_withLastSyllable_58, sX8_withLastSyllable_61, sX8_withLastSyllable_61n, sX8_withLastSyllable_62, sX8_withLastSyllable_62n, gG8_0, gG8_1, gG8_2, gP8_0, gP8_1, gP8_2, gG5_0, gP5_0, zpush_v, zpush_n, gCk, gAi, gSi, gLi, gLq, ↓if_pos, ↓if_neg, ct, ct', hk.1, gk, nI_m1]
theorem m_X8_withLast {v : Nat} (hT : rText h t its) (hn : its.length ≤ 80) (hok : ∀ x ∈ its, okI x) (hz : h.2.1 = t') (hK : HpK h) :
    ∃ h', h'.2.1 = t' + 5 ∧ h'.2.2 = h.2.2 + 5 + 2 * its.length ∧ HpK h' ∧ (∀ q, q < t' → h'.1 q = h.1 q) ∧ rText h' t' (setK its v) ∧
      ∀ Q : Option Value → Hp → Prop, WPm 69 [.ref t, .int (nI v)] h Q = Q (some (.ref t')) h' := by
  obtain ⟨kf, nf, ct, hk, hnr, hf⟩ := hT
  have l1 := hK.lt ct
  have l2 := hK.lt hk.2
  have l3 := hK.lt hnr.2
  obtain ⟨g0, e0⟩ : ∃ g, g = hadd h t' (.inr (8, [.int 0, .null, .null])) 3 := ⟨_, rfl⟩
  have z0' : g0.2.1 = t' + 1 := by rw [e0]; rfl
  have k0 : HpK g0 := by rw [e0]; exact hK.add hz
  have low0 : ∀ q, q < t' → g0.1 q = h.1 q := fun q hq => by rw [e0, hadd_ne (by omega)]
  obtain ⟨g, kf', nf', s1, sz, s2, s3, s4, s5, s6, s7, s8⟩ := m_X8_init (h := g0) (t := t') (kr := t + 1) (nr := t + 3) (n := its.length) (n1 := its.length) (n2 := its.length) (kf := kf) (nf := nf) z0' (by rw [e0, hadd_at]) ⟨by rw [low0 _ (by omega)]; exact hk.1, by rw [low0 _ (by omega)]; exact hk.2⟩ ⟨by rw [low0 _ (by omega)]; exact hnr.1, by rw [low0 _ (by omega)]; exact hnr.2⟩ (by omega) (by omega) (Nat.le_refl _) (Nat.le_refl _) (by omega) (by omega) k0
  have low : ∀ q, q < t' → g.1 q = h.1 q := fun q hq => by rw [s3 q hq, low0 q hq]
  have ctg : g.1 t = some (.inr (8, [.int (nI its.length), .ref (t + 1), .ref (t + 3)])) := by rw [low _ (by omega)]; exact ct
  have hkg : oRow g (t + 1) its.length kf := ⟨by rw [low _ (by omega)]; exact hk.1, by rw [low _ (by omega)]; exact hk.2⟩
  have L := fun Q => l_X8_last (v := v) hn ctg hkg s4 s6 (fun i x hx => (hf i x hx).1) hok Q its.length (if its.length = 0 then -1 else nI (its.length - 1)) (Nat.le_refl _) rfl
  have fin : ∀ Q : Option Value → Hp → Prop, WPm 69 [.ref t, .int (nI v)] h Q = Q (some (.ref t')) (lsHp g t' its.length nf' v (lstK its its.length)) := by
    intro Q
    have ct0 : g0.1 t = some (.inr (8, [.int (nI its.length), .ref (t + 1), .ref (t + 3)])) := by rw [low0 _ (by omega)]; exact ct
    rw [← L Q, eX8_withLastSyllable]
    by_cases c0 : its.length = 0
    · rw [if_pos c0]
      simp (disch := (first | omega | assumption | (simp (disch := omega) only [Int32.lt_iff_toInt_lt, Int32.le_iff_toInt_le, ← Int32.toInt_inj, nI_toInt, zi_m1, zi_m2, zi_m3, zi_m9]; omega) | decide)) only [sX8_withLastSyllable_0, sX8_withLastSyllable_3, sX8_withLastSyllable_3i, sX8_withLastSyllable_4, sX8_withLastSyllable_5, sX8_withLastSyllable_8, sX8_withLastSyllable_9, sX8_withLastSyllable_12, sX8_withLastSyllable_13, sX8_withLastSyllable_16, sX8_withLastSyllable_19i, sX8_withLastSyllable_19iN, sX8_withLastSyllable_19r, sX8_withLastSyllable_19rN, sX8_withLastSyllable_19z, sX8_withLastSyllable_19zN, sX8_withLastSyllable_19o, sX8_withLastSyllable_19oN, sX8_withLastSyllable_20, sX8_withLastSyllable_21, sX8_withLastSyllable_24, sX8_withLastSyllable_25, sX8_withLastSyllable_26i, sX8_withLastSyllable_26r, sX8_withLastSyllable_26z, sX8_withLastSyllable_26o, gG8_0, gG8_1, gG8_2, gP8_0, gP8_1, gP8_2, gG5_0, gP5_0, zpush_v, zpush_n, gCk, gAi, gSi, gLi, gLq, ↓if_pos, ↓if_neg, hnew_hadd, hz, ← e0, ct0, s8, ctg]
      rw [c0]
      rfl
    · rw [if_neg c0]
      simp (disch := (first | omega | assumption | (simp (disch := omega) only [Int32.lt_iff_toInt_lt, Int32.le_iff_toInt_le, ← Int32.toInt_inj, nI_toInt, zi_m1, zi_m2, zi_m3, zi_m9]; omega) | decide)) only [sX8_withLastSyllable_0, sX8_withLastSyllable_3, sX8_withLastSyllable_3i, sX8_withLastSyllable_4, sX8_withLastSyllable_5, sX8_withLastSyllable_8, sX8_withLastSyllable_9, sX8_withLastSyllable_12, sX8_withLastSyllable_13, sX8_withLastSyllable_16, sX8_withLastSyllable_19i, sX8_withLastSyllable_19iN, sX8_withLastSyllable_19r, sX8_withLastSyllable_19rN, sX8_withLastSyllable_19z, sX8_withLastSyllable_19zN, sX8_withLastSyllable_19o, sX8_withLastSyllable_19oN, sX8_withLastSyllable_20, sX8_withLastSyllable_21, sX8_withLastSyllable_24, sX8_withLastSyllable_25, sX8_withLastSyllable_26i, sX8_withLastSyllable_26r, sX8_withLastSyllable_26z, sX8_withLastSyllable_26o, gG8_0, gG8_1, gG8_2, gP8_0, gP8_1, gP8_2, gG5_0, gP5_0, zpush_v, zpush_n, gCk, gAi, gSi, gLi, gLq, ↓if_pos, ↓if_neg, hnew_hadd, hz, ← e0, ct0, s8, ctg, nI_sub]
  have sz0 : g.2.2 = h.2.2 + 5 + 2 * its.length := by
    rw [sz, e0]
    show h.2.2 + 3 + 2 + 2 * its.length = _
    omega
  cases hl : lstK its its.length with
  | none =>
    rw [hl] at fin
    refine ⟨g, s1, sz0, s2, low, ?_, fin⟩
    unfold setK
    rw [hl]
    exact ⟨kf', nf', s4, s5, s6, fun i x hx => by
      have := (List.getElem?_eq_some_iff.mp hx).1
      rw [(s7 i this).1, (s7 i this).2]
      exact hf i x hx⟩
  | some i =>
    rw [hl] at fin
    refine ⟨_, by exact s1, by exact sz0, ?_, fun q hq => ?_, ?_, fin⟩
    · exact s2.set (by omega)
    · show (hset g (t' + 3 + 1) _).1 q = _
      rw [hset_ne (by omega)]
      exact low q hq
    · have e : setK its v = its.set i (.inr (107, some v)) := by unfold setK; rw [hl]
      refine ⟨kf', upd nf' i (nI v), ?_, ?_, ?_, fun j x hx => ?_⟩
      · show (hset g (t' + 3 + 1) _).1 t' = _
        rw [hset_ne (by omega), setK_length]
        exact s4
      · rw [setK_length]
        exact s5.off (Same.set (lo := t' + 4) (n := 1) (by omega) (by omega)) (by omega)
      · rw [setK_length]
        exact s6.set
      · rw [e] at hx
        have hjl := (List.getElem?_eq_some_iff.mp hx).1
        rw [List.length_set] at hjl
        by_cases c : j = i
        · subst c
          rw [List.getElem?_set_self hjl] at hx
          cases hx
          refine ⟨?_, upd_at⟩
          rw [(s7 j hjl).1]
          have key : ∀ m, lstK its m = some j → m ≤ its.length → isK (its.getD j (.inl 0)) = true := by
            intro m
            induction m with
            | zero => intro z; cases z
            | succ m ihm =>
              intro z hm
              simp only [lstK] at z
              split at z
              · cases z
                assumption
              · exact ihm z (by omega)
          have c1 := key _ hl (Nat.le_refl _)
          rw [List.getD_eq_getElem?_getD, List.getElem?_eq_getElem hjl] at c1
          have c1 : isK its[j] = true := c1
          have := (hf j its[j] (List.getElem?_eq_getElem hjl)).1
          rw [this]
          exact (iK_K (hok _ (List.getElem_mem hjl))).mp c1
        · rw [List.getElem?_set_ne (Ne.symm c)] at hx
          rw [upd_off c, (s7 j hjl).1, (s7 j hjl).2]
          exact hf j x hx
end TL
