/-! the law's flattens(): the styles made flat, and undone -/
section LFL
variable {h : Hp} {X B : Nat} {p : PS} {Q : Option Value → Hp → Prop}
theorem rP.kp (hr : rP h X B p) {h' : Hp} (hk : Kp h h') (hK : HpK h') (hs : h.2.1 ≤ h'.2.1) : rP h' X B p := ⟨hr.1.grow hk hK hs, hr.2.kp hk⟩
theorem rP.hk (hr : rP h X B p) : HpK h := hr.1.2.2.1
theorem rP.lo (hr : rP h X B p) : X + 180 ≤ h.2.1 := Nat.le_trans hr.1.2.2.2.1 hr.1.2.2.2.2
theorem rP.add (hr : rP h X B p) {a k : Nat} {e : va_E} (ha : h.2.1 = a) : rP (hadd h a e k) X B p := hr.kp (Kp.of hr.hk ha (fun q hq => hadd_ne (by omega))) (hr.hk.add ha) (by rw [ha]; exact Nat.le_succ a)
theorem FrK.add (hr : rP h X B p) {a k : Nat} {e : va_E} (ha : h.2.1 = a) (hk : k ≤ 400) : FrK 1 X h (hadd h a e k) := by
  have := hr.lo
  refine ⟨⟨by rw [ha]; exact Nat.le_succ a, by rw [ha]; show a + 1 ≤ a + 6 * 1; omega, by show h.2.2 + k ≤ h.2.2 + 400 * 1; omega⟩, fun q hq => hadd_ne (by omega)⟩
/-- how many of the first k values are none -/
def cntN (S : Sh) : Nat → Nat
  | 0 => 0
  | k + 1 => cntN S k + (if S.2.2 (k / 6) (k % 6) = none then 1 else 0)
theorem cntN_le (S : Sh) : ∀ k, cntN S k ≤ k := by
  intro k
  induction k with
  | zero => exact Nat.le_refl 0
  | succ k ih => simp only [cntN]; split <;> omega
theorem cntN_nuP (S : Sh) (s : Nat) : ∀ k, k ≤ 6 → cntN S (6 * s + k) = cntN S (6 * s) + nuP S s k := by
  intro k
  induction k with
  | zero => intro _; rfl
  | succ k ih =>
    intro hk
    show cntN S (6 * s + k) + (if S.2.2 ((6 * s + k) / 6) ((6 * s + k) % 6) = none then 1 else 0) = cntN S (6 * s) + (nuP S s k + (if S.2.2 s k = none then 1 else 0))
    rw [ih (by omega), show (6 * s + k) / 6 = s by omega, show (6 * s + k) % 6 = k by omega, Nat.add_assoc]
theorem cntN_nuS (S : Sh) : ∀ s, cntN S (6 * s) = nuS S s := by
  intro s
  induction s with
  | zero => rfl
  | succ s ih =>
    rw [show 6 * (s + 1) = 6 * s + 6 by omega, cntN_nuP S s 6 (by omega), ih]
    simp only [nuS]
theorem nuP_flat (S : Sh) (s : Nat) : ∀ k, nuP (flatS S) s k = 0 := by
  intro k
  induction k with
  | zero => rfl
  | succ k ih =>
    simp only [nuP]
    rw [ih, if_neg (by simp [flatS])]
theorem nuS_flat (S : Sh) : ∀ s, nuS (flatS S) s = 0 := by
  intro s
  induction s with
  | zero => rfl
  | succ s ih =>
    simp only [nuS]
    rw [ih, nuP_flat]
theorem nI_d6 : ∀ k, k < 60 → nI k / nI 6 = nI (k / 6) := by decide +kernel
theorem nI_r6 {k : Nat} (hk : k < 60) : nI k - nI (k / 6 * 6) = nI (k % 6) := by
  rw [nI_sub (by omega) (by omega)]
  congr 1
  omega
theorem l_flA (hr : rP h X B p) (hw : WfP p) {a : Nat} (ha : h.2.1 = a) (fp : Int64) (l6 : Option Value)
    (K : ∀ f : Nat → Int32, (∀ k, k < 6 * p.1.1.1 → f k = nI (valS p.1.1 (k % 6) (some (k / 6)))) → WP 114 78 [some (.ref X), some (.long fp), none, some (.int (nI (cntN p.1.1 (6 * p.1.1.1)))), some (.ref a), some (.int (nI (6 * p.1.1.1))), l6] [] (hadd h a (.inl (0, 60, .inl f)) 60) Q) :
    ∀ m k f, m + k = 6 * p.1.1.1 → (∀ i, i < k → f i = nI (valS p.1.1 (i % 6) (some (i / 6)))) → WP 114 16 [some (.ref X), some (.long fp), none, some (.int (nI (cntN p.1.1 k))), some (.ref a), some (.int (nI k)), l6] [] (hadd h a (.inl (0, 60, .inl f)) 60) Q := by
  have h10 := hw.1.1.1
  intro m
  induction m with
  | zero =>
    intro k f hk hf
    have hk : k = 6 * p.1.1.1 := by omega
    subst hk
    have hr2 := hr.add (e := .inl (0, 60, .inl f)) (k := 60) ha
    have e := K f hf
    rw [sL_flattens_16]
    simp (disch := (first | omega | assumption | (simp (disch := omega) only [Int32.lt_iff_toInt_lt, Int32.le_iff_toInt_le, ← Int32.toInt_inj, nI_toInt, zi_m1, zi_m2, zi_m3, zi_m9]; omega) | decide)) only [sL_flattens_18, sL_flattens_20, sL_flattens_21, sL_flattens_24, sL_flattens_25, zpush_v, zpush_n, gCk, gAi, gSi, gLi, gLq, ↓if_pos, ↓if_neg, ↓reduceIte, eq_self, not_true_eq_false, not_false_eq_true, r_ck hr2, x_styles hr2, nI_mul]
    exact e
  | succ m ih =>
    intro k f hk hf
    have hr2 := hr.add (e := .inl (0, 60, .inl f)) (k := 60) ha
    have hc := cntN_le p.1.1 k
    have q1 : k / 6 < p.1.1.1 := by omega
    have q2 : k % 6 < 6 := by omega
    have e := ih (k + 1) (upd f k (nI (valS p.1.1 (k % 6) (some (k / 6))))) (by omega) (fun i hi => by
      by_cases c : i = k
      · subst c; exact upd_at
      · rw [upd_off c]; exact hf i (by omega))
    have k6 : k < 60 := by omega
    cases ho : p.1.1.2.2 (k / 6) (k % 6) with
    | none =>
      have ec : cntN p.1.1 (k + 1) = cntN p.1.1 k + 1 := by simp only [cntN]; rw [if_pos ho]
      rw [ec] at e
      rw [sL_flattens_16]
      simp (disch := (first | omega | assumption | (simp (disch := omega) only [Int32.lt_iff_toInt_lt, Int32.le_iff_toInt_le, ← Int32.toInt_inj, nI_toInt, zi_m1, zi_m2, zi_m3, zi_m9]; omega) | decide)) only [sL_flattens_18, sL_flattens_20, sL_flattens_21, sL_flattens_24, sL_flattens_25, sL_flattens_28, sL_flattens_29, sL_flattens_30, sL_flattens_32, sL_flattens_34, sL_flattens_35, sL_flattens_37, sL_flattens_39, sL_flattens_40, sL_flattens_43, sL_flattens_46, sL_flattens_47, sL_flattens_50, sL_flattens_51, sL_flattens_52i, sL_flattens_52r, sL_flattens_52z, sL_flattens_52o, sL_flattens_53, sL_flattens_55, sL_flattens_57, sL_flattens_58, sL_flattens_60, sL_flattens_62, sL_flattens_63, sL_flattens_65, sL_flattens_67, sL_flattens_68, sL_flattens_71, sL_flattens_72i, sL_flattens_72r, sL_flattens_72z, sL_flattens_72o, sL_flattens_75, zpush_v, zpush_n, gCk, gAi, gSi, gLi, gLq, ↓if_pos, ↓if_neg, ↓reduceIte, eq_self, not_true_eq_false, not_false_eq_true, r_ck hr2, x_styles hr2, nI_mul, nI_d6, nI_r6, r_own hr2 hw, r_valS hr2 hw, ho, eN_n, nI_add, hadd_at, hset_hadd]
      exact e
    | some v =>
      have hv := hw.1.1.2.2.2 _ q1 _ q2 v ho
      have hv2 := hiP_le (k % 6)
      have ec : cntN p.1.1 (k + 1) = cntN p.1.1 k := by simp only [cntN]; rw [if_neg (by rw [ho]; exact fun q => by cases q)]; rfl
      rw [ec] at e
      rw [sL_flattens_16]
      simp (disch := (first | omega | assumption | (simp (disch := omega) only [Int32.lt_iff_toInt_lt, Int32.le_iff_toInt_le, ← Int32.toInt_inj, nI_toInt, zi_m1, zi_m2, zi_m3, zi_m9]; omega) | decide)) only [sL_flattens_18, sL_flattens_20, sL_flattens_21, sL_flattens_24, sL_flattens_25, sL_flattens_28, sL_flattens_29, sL_flattens_30, sL_flattens_32, sL_flattens_34, sL_flattens_35, sL_flattens_37, sL_flattens_39, sL_flattens_40, sL_flattens_43, sL_flattens_46, sL_flattens_47, sL_flattens_50, sL_flattens_51, sL_flattens_52i, sL_flattens_52r, sL_flattens_52z, sL_flattens_52o, sL_flattens_53, sL_flattens_55, sL_flattens_57, sL_flattens_58, sL_flattens_60, sL_flattens_62, sL_flattens_63, sL_flattens_65, sL_flattens_67, sL_flattens_68, sL_flattens_71, sL_flattens_72i, sL_flattens_72r, sL_flattens_72z, sL_flattens_72o, sL_flattens_75, zpush_v, zpush_n, gCk, gAi, gSi, gLi, gLq, ↓if_pos, ↓if_neg, ↓reduceIte, eq_self, not_true_eq_false, not_false_eq_true, r_ck hr2, x_styles hr2, nI_mul, nI_d6, nI_r6, r_own hr2 hw, r_valS hr2 hw, ho, eN_s, nI_add, Nat.add_zero, hadd_at, hset_hadd]
      exact e
theorem l_flB (hr : rP h X B p) (hw : WfP p) {a : Nat} {f : Nat → Int32} {S : Sh} (hS : p.1.1 = flatS S) (hf : ∀ k, k < 6 * p.1.1.1 → f k = nI (valS S (k % 6) (some (k / 6)))) (ha : h.1 a = some (.inl (0, 60, .inl f))) (fp : Int64) (l3 l5 : Int32)
    (K : ∀ l6, WP 114 188 [some (.ref X), some (.long fp), none, some (.int l3), some (.ref a), some (.int l5), l6] [] h Q) :
    ∀ m k, m + k = 6 * p.1.1.1 → WP 114 109 [some (.ref X), some (.long fp), none, some (.int l3), some (.ref a), some (.int l5), some (.int (nI k))] [] h Q := by
  have h10 := hw.1.1.1
  intro m
  induction m with
  | zero =>
    intro k hk
    have hk : k = 6 * p.1.1.1 := by omega
    subst hk
    have e := K (some (.int (nI (6 * p.1.1.1))))
    rw [sL_flattens_109]
    simp (disch := (first | omega | assumption | (simp (disch := omega) only [Int32.lt_iff_toInt_lt, Int32.le_iff_toInt_le, ← Int32.toInt_inj, nI_toInt, zi_m1, zi_m2, zi_m3, zi_m9]; omega) | decide)) only [sL_flattens_111, sL_flattens_113, sL_flattens_114, sL_flattens_117, sL_flattens_118, zpush_v, zpush_n, gCk, gAi, gSi, gLi, gLq, ↓if_pos, ↓if_neg, ↓reduceIte, eq_self, not_true_eq_false, not_false_eq_true, r_ck hr, x_styles hr, nI_mul]
    exact e
  | succ m ih =>
    intro k hk
    have e := ih (k + 1) (by omega)
    have k6 : k < 60 := by omega
    have q1 : k / 6 < p.1.1.1 := by omega
    have q2 : k % 6 < 6 := by omega
    have ho : p.1.1.2.2 (k / 6) (k % 6) = some (valS S (k % 6) (some (k / 6))) := by rw [hS]; rfl
    have hp : p.1.1.2.1 (k / 6) = none := by rw [hS]; rfl
    have e2 := wk_own q1 ho
    have hfk := hf k (by omega)
    rw [sL_flattens_109]
    simp (disch := (first | omega | assumption | (simp (disch := omega) only [Int32.lt_iff_toInt_lt, Int32.le_iff_toInt_le, ← Int32.toInt_inj, nI_toInt, zi_m1, zi_m2, zi_m3, zi_m9]; omega) | decide)) only [sL_flattens_111, sL_flattens_113, sL_flattens_114, sL_flattens_117, sL_flattens_118, sL_flattens_121, sL_flattens_122, sL_flattens_124, sL_flattens_126, sL_flattens_127, sL_flattens_129, sL_flattens_131, sL_flattens_132, sL_flattens_135, sL_flattens_137, sL_flattens_139, sL_flattens_140, sL_flattens_143, sL_flattens_144, sL_flattens_146, sL_flattens_148, sL_flattens_149, sL_flattens_151, sL_flattens_154, sL_flattens_155, sL_flattens_158, sL_flattens_159, sL_flattens_161, sL_flattens_163, sL_flattens_164, sL_flattens_166, sL_flattens_168, sL_flattens_169, sL_flattens_172, sL_flattens_174, sL_flattens_176, sL_flattens_177, sL_flattens_180, sL_flattens_181, sL_flattens_182i, sL_flattens_182r, sL_flattens_182z, sL_flattens_182o, sL_flattens_185, zpush_v, zpush_n, gCk, gAi, gSi, gLi, gLq, ↓if_pos, ↓if_neg, ↓reduceIte, eq_self, not_true_eq_false, not_false_eq_true, r_ck hr, x_styles hr, nI_mul, nI_d6, nI_r6, r_own hr hw, r_par hr hw, r_from hr hw, ho, hp, e2, eS, eN_s, eN_n, nI_add, ha, hfk]
    exact e
theorem kept_app (hist : List Stt) (st : Stt) : ∃ b, kept hist st = b ++ [st] := ⟨_, rfl⟩
theorem undo_kept {q : PS} {hist : List Stt} {st : Stt} (hq : q.2.1 = kept hist st) : opUndo q = ((st, (if hist.length = 5 then hist.drop 1 else hist), q.2.2), nI (if hist.length = 5 then hist.drop 1 else hist).length) := by
  unfold opUndo
  rw [hq]
  unfold kept
  rw [List.getLast?_append, List.getLast?_singleton]
  simp
theorem flat_undo (hw : WfP p) {p1 p2 : PS} (h1 : p1 = kp p (flatS p.1.1, p.1.2)) (h2 : p2 = kp p1 (flatS p1.1.1, p1.1.2)) : ∃ q1 q2 n1 n2, n1 ≤ 5 ∧ n2 ≤ 5 ∧ opUndo p2 = (q1, nI n1) ∧ opUndo q1 = (q2, nI n2) ∧ q2.1 = p.1 ∧ q2.2.2 = p.2.2 := by
  have g := hw.2.2.1
  have e1 : p2.2.1 = kept p1.2.1 p1.1 := by rw [h2]; rfl
  have e2 : p1.2.1 = kept p.2.1 p.1 := by rw [h1]; rfl
  have e3 := undo_kept e1
  have g1 : (kept p.2.1 p.1).length ≤ 5 := kept_len g
  obtain ⟨b, hb⟩ := kept_app p.2.1 p.1
  have hd : ∃ b', (if (kept p.2.1 p.1).length = 5 then (kept p.2.1 p.1).drop 1 else kept p.2.1 p.1) = b' ++ [p.1] := by
    rw [hb]
    split
    · next c =>
      refine ⟨b.drop 1, ?_⟩
      rw [List.drop_append_of_le_length]
      rw [List.length_append] at c
      have c : b.length + 1 = 5 := c
      omega
    · exact ⟨b, rfl⟩
  obtain ⟨b', hb'⟩ := hd
  have g2 : b'.length + 1 ≤ 5 := by
    have := congrArg List.length hb'
    rw [List.length_append] at this
    have t : ([p.1] : List Stt).length = 1 := rfl
    rw [t] at this
    rw [← this]
    split
    · rw [List.length_drop]; omega
    · exact g1
  rw [e2, hb'] at e3
  refine ⟨(p1.1, b' ++ [p.1], p2.2.2), (p.1, b', p2.2.2), b'.length + 1, b'.length, g2, by omega, ?_, ?_, rfl, by rw [h2, h1]; rfl⟩
  · rw [e3, List.length_append]; rfl
  · unfold opUndo
    simp
theorem y_flattens (hr : rP h X B p) (hw : WfP p) (K : ∀ h' p', FrK 8 X h h' → rP h' X B p' → WfP p' → p'.1 = p.1 ∧ p'.2.2 = p.2.2 → Q (some (.int (nI 1))) h') : WPm 114 [.ref X] h Q := by
  have h10 := hw.1.1.1
  rw [eL_flattens]
  simp (disch := (first | omega | assumption | (simp (disch := omega) only [Int32.lt_iff_toInt_lt, Int32.le_iff_toInt_le, ← Int32.toInt_inj, nI_toInt, zi_m1, zi_m2, zi_m3, zi_m9]; omega) | decide)) only [sL_flattens_0, sL_flattens_1, zpush_v, zpush_n, gCk, gAi, gSi, gLi, gLq, ↓if_pos, ↓if_neg, ↓reduceIte, eq_self, not_true_eq_false, not_false_eq_true, r_ck hr]
  refine k_fp hr hw (fun h F hr => ?_)
  obtain ⟨a, ha⟩ : ∃ a, h.2.1 = a := ⟨_, rfl⟩
  have e60 : (nI 60).toNatClampNeg = 60 := by decide
  simp (disch := (first | omega | assumption | (simp (disch := omega) only [Int32.lt_iff_toInt_lt, Int32.le_iff_toInt_le, ← Int32.toInt_inj, nI_toInt, zi_m1, zi_m2, zi_m3, zi_m9]; omega) | decide)) only [sL_flattens_4i, sL_flattens_4r, sL_flattens_4z, sL_flattens_4o, sL_flattens_5, sL_flattens_6i, sL_flattens_6r, sL_flattens_6z, sL_flattens_6o, sL_flattens_7, sL_flattens_9, sL_flattens_11i, sL_flattens_11iN, sL_flattens_11r, sL_flattens_11rN, sL_flattens_11z, sL_flattens_11zN, sL_flattens_11o, sL_flattens_11oN, sL_flattens_13, sL_flattens_14i, sL_flattens_14r, sL_flattens_14z, sL_flattens_14o, zpush_v, zpush_n, gCk, gAi, gSi, gLi, gLq, ↓if_pos, ↓if_neg, ↓reduceIte, eq_self, not_true_eq_false, not_false_eq_true, e60, hnew_hadd, ha]
  have A := l_flA (Q := Q) hr hw ha (qFp p) none (fun f hf => ?_) (6 * p.1.1.1) 0 (fun _ => 0) rfl (fun i hi => by omega)
  · exact A
  have hr2 := hr.add (e := .inl (0, 60, .inl f)) (k := 60) ha
  have F := F.tr (FrK.add (e := .inl (0, 60, .inl f)) (k := 60) hr ha (by omega))
  have hlo := hr.lo
  have hc : (hadd h a (.inl (0, 60, .inl f)) 60).1 a = some (.inl (0, 60, .inl f)) := hadd_at
  have hsz : (hadd h a (.inl (0, 60, .inl f)) 60).2.1 = a + 1 := rfl
  generalize hadd h a (.inl (0, 60, .inl f)) 60 = g at hr2 F hc hsz ⊢
  have hcn := cntN_le p.1.1 (6 * p.1.1.1)
  simp (disch := (first | omega | assumption | (simp (disch := omega) only [Int32.lt_iff_toInt_lt, Int32.le_iff_toInt_le, ← Int32.toInt_inj, nI_toInt, zi_m1, zi_m2, zi_m3, zi_m9]; omega) | decide)) only [sL_flattens_78, sL_flattens_79, zpush_v, zpush_n, gCk, gAi, gSi, gLi, gLq, ↓if_pos, ↓if_neg, ↓reduceIte, eq_self, not_true_eq_false, not_false_eq_true, r_ck hr2]
  refine k_unlike hr2 hw (fun h3 F3 hr3 => ?_)
  have hc3 := (F3.2 a (Or.inr (by omega))).trans hc
  have hs3 := F3.1.1
  obtain ⟨p1, hp1⟩ : ∃ p1, p1 = kp p (flatS p.1.1, p.1.2) := ⟨_, rfl⟩
  have o1 : opFlatten p = (p1, nI (cntN p.1.1 (6 * p.1.1.1))) := by rw [cntN_nuS, hp1]; rfl
  have S1 : p1.1.1 = flatS p.1.1 := by rw [hp1]; rfl
  obtain ⟨p2, hp2⟩ : ∃ p2, p2 = kp p1 (flatS p1.1.1, p1.1.2) := ⟨_, rfl⟩
  have o2 : opFlatten p1 = (p2, nI 0) := by
    unfold opFlatten
    rw [S1, nuS_flat, hp2, S1]
  have S2 : p2.1.1 = flatS (flatS p.1.1) := by rw [hp2, S1]; rfl
  have N2 : p2.1.1.1 = p.1.1.1 := by rw [S2]; rfl
  obtain ⟨q1, q2, n1, n2, b1, b2, u1, u2, u3, u4⟩ := flat_undo hw hp1 hp2
  simp (disch := (first | omega | assumption | (simp (disch := omega) only [Int32.lt_iff_toInt_lt, Int32.le_iff_toInt_le, ← Int32.toInt_inj, nI_toInt, zi_m1, zi_m2, zi_m3, zi_m9]; omega) | decide)) only [sL_flattens_82i, sL_flattens_82r, sL_flattens_82z, sL_flattens_82o, sL_flattens_84, sL_flattens_85, zpush_v, zpush_n, gCk, gAi, gSi, gLi, gLq, ↓if_pos, ↓if_neg, ↓reduceIte, eq_self, not_true_eq_false, not_false_eq_true, r_ck hr3]
  refine k_flatten hr3 hw o1 (fun h4 F4 hr4 hw4 => ?_)
  have hs4 := F4.1.1
  have hc4 := (F4.2 a (Or.inr (by omega))).trans hc3
  simp (disch := (first | omega | assumption | (simp (disch := omega) only [Int32.lt_iff_toInt_lt, Int32.le_iff_toInt_le, ← Int32.toInt_inj, nI_toInt, zi_m1, zi_m2, zi_m3, zi_m9]; omega) | decide)) only [sL_flattens_88, sL_flattens_89, sL_flattens_92, sL_flattens_94, sL_flattens_97, sL_flattens_98, zpush_v, zpush_n, gCk, gAi, gSi, gLi, gLq, ↓if_pos, ↓if_neg, ↓reduceIte, eq_self, not_true_eq_false, not_false_eq_true, r_ck hr4]
  refine k_flatten hr4 hw4 o2 (fun h5 F5 hr5 hw5 => ?_)
  have hc5 := (F5.2 a (Or.inr (by omega))).trans hc4
  simp (disch := (first | omega | assumption | (simp (disch := omega) only [Int32.lt_iff_toInt_lt, Int32.le_iff_toInt_le, ← Int32.toInt_inj, nI_toInt, zi_m1, zi_m2, zi_m3, zi_m9]; omega) | decide)) only [sL_flattens_101, sL_flattens_104, sL_flattens_105, sL_flattens_106, sL_flattens_107i, sL_flattens_107r, sL_flattens_107z, sL_flattens_107o, zpush_v, zpush_n, gCk, gAi, gSi, gLi, gLq, ↓if_pos, ↓if_neg, ↓reduceIte, eq_self, not_true_eq_false, not_false_eq_true]
  refine l_flB (S := flatS p.1.1) hr5 hw5 S2 (fun k hk => by rw [valS_flat]; exact hf k (by rw [← N2]; exact hk)) hc5 (qFp p) _ (nI 0) (fun l6 => ?_) (6 * p2.1.1.1) 0 rfl
  simp (disch := (first | omega | assumption | (simp (disch := omega) only [Int32.lt_iff_toInt_lt, Int32.le_iff_toInt_le, ← Int32.toInt_inj, nI_toInt, zi_m1, zi_m2, zi_m3, zi_m9]; omega) | decide)) only [sL_flattens_188, sL_flattens_189, zpush_v, zpush_n, gCk, gAi, gSi, gLi, gLq, ↓if_pos, ↓if_neg, ↓reduceIte, eq_self, not_true_eq_false, not_false_eq_true, r_ck hr5]
  refine k_undo hr5 hw5 u1 (fun h6 F6 hr6 hw6 => ?_)
  simp (disch := (first | omega | assumption | (simp (disch := omega) only [Int32.lt_iff_toInt_lt, Int32.le_iff_toInt_le, ← Int32.toInt_inj, nI_toInt, zi_m1, zi_m2, zi_m3, zi_m9]; omega) | decide)) only [sL_flattens_192, sL_flattens_195, sL_flattens_196, zpush_v, zpush_n, gCk, gAi, gSi, gLi, gLq, ↓if_pos, ↓if_neg, ↓reduceIte, eq_self, not_true_eq_false, not_false_eq_true, r_ck hr6]
  refine k_undo hr6 hw6 u2 (fun h7 F7 hr7 hw7 => ?_)
  simp (disch := (first | omega | assumption | (simp (disch := omega) only [Int32.lt_iff_toInt_lt, Int32.le_iff_toInt_le, ← Int32.toInt_inj, nI_toInt, zi_m1, zi_m2, zi_m3, zi_m9]; omega) | decide)) only [sL_flattens_199, sL_flattens_202, sL_flattens_203, zpush_v, zpush_n, gCk, gAi, gSi, gLi, gLq, ↓if_pos, ↓if_neg, ↓reduceIte, eq_self, not_true_eq_false, not_false_eq_true, r_ck hr7]
  refine k_fp hr7 hw7 (fun h8 F8 hr8 => ?_)
  have ef := qFp_eq u3
  simp (disch := (first | omega | assumption | (simp (disch := omega) only [Int32.lt_iff_toInt_lt, Int32.le_iff_toInt_le, ← Int32.toInt_inj, nI_toInt, zi_m1, zi_m2, zi_m3, zi_m9]; omega) | decide)) only [sL_flattens_206, sL_flattens_207, sL_flattens_208, sL_flattens_211, sL_flattens_212, sL_flattens_215, sL_flattens_216, zpush_v, zpush_n, gCk, gAi, gSi, gLi, gLq, ↓if_pos, ↓if_neg, ↓reduceIte, eq_self, not_true_eq_false, not_false_eq_true, ef, lg_self]
  try simp only [or_true, if_true]
  exact K h8 q2 ((F.tr (F3.tr (F4.tr (F5.tr (F6.tr (F7.tr F8)))))).wd (by omega)) hr8 hw7 ⟨u3, u4⟩
end LFL
