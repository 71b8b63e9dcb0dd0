/-! the model: flattens, what is asked of styles -/
def flF (fl : Nat → Int32) (S : Sh) (i : Nat) : Nat → Int32 := fun q => if q < i then nI (valS S (q % 6) (some (q / 6))) else fl q
theorem flF_0 (fl : Nat → Int32) (S : Sh) : flF fl S 0 = fl := by funext q; exact if_neg (by omega)
theorem flF_step (fl : Nat → Int32) (S : Sh) (i : Nat) : upd (flF fl S i) i (nI (valS S (i % 6) (some (i / 6)))) = flF fl S (i + 1) := by
  funext q
  simp only [flF, upd]
  by_cases c : q = i
  · subst c
    rw [if_pos rfl, if_pos (by omega)]
  · rw [if_neg c]
    by_cases d : q < i
    · rw [if_pos d, if_pos (by omega)]
    · rw [if_neg d, if_neg (by omega)]
def vF (v fl : Nat → Int32) : Nat → Nat → Int32
  | 0 => v
  | i + 1 => upd (upd (vF v fl i) (10 + 7 * (i / 6) + i % 6) (fl i)) (10 + 7 * (i / 6) + 6) (-1)
theorem vF_out {v fl : Nat → Int32} {q : Nat} (hq : q < 10 ∨ 80 ≤ q) : ∀ i, i ≤ 60 → vF v fl i q = v q := by
  intro i
  induction i with
  | zero => intro _; rfl
  | succ i ih =>
    intro hi
    show upd (upd (vF v fl i) (10 + 7 * (i / 6) + i % 6) (fl i)) (10 + 7 * (i / 6) + 6) (-1) q = _
    rw [upd_off (by omega), upd_off (by omega)]
    exact ih (by omega)
theorem vF_in {v fl : Nat → Int32} : ∀ i j, j < i → vF v fl i (10 + 7 * (j / 6) + j % 6) = fl j ∧ vF v fl i (10 + 7 * (j / 6) + 6) = -1 := by
  intro i
  induction i with
  | zero => intro j h; omega
  | succ i ih =>
    intro j hj
    show upd (upd (vF v fl i) (10 + 7 * (i / 6) + i % 6) (fl i)) (10 + 7 * (i / 6) + 6) (-1) _ = _ ∧ upd (upd (vF v fl i) (10 + 7 * (i / 6) + i % 6) (fl i)) (10 + 7 * (i / 6) + 6) (-1) _ = _
    by_cases c : j = i
    · subst c
      refine ⟨?_, upd_at⟩
      rw [upd_off (by omega), upd_at]
    · refine ⟨?_, ?_⟩
      · rw [upd_off (by omega), upd_off (by omega)]
        exact (ih j (by omega)).1
      · by_cases d : j / 6 = i / 6
        · rw [d]
          exact upd_at
        · rw [upd_off (by omega), upd_off (by omega)]
          exact (ih j (by omega)).2
def cNn (S : Sh) : Nat → Nat
  | 0 => 0
  | i + 1 => cNn S i + (if S.2.2 (i / 6) (i % 6) = none then 1 else 0)
theorem cNn_le (S : Sh) : ∀ i, cNn S i ≤ i := by
  intro i
  induction i with
  | zero => exact Nat.le_refl 0
  | succ i ih => simp only [cNn]; split <;> omega
theorem cNn_eq (S : Sh) : ∀ m, cNn S (6 * m) = nuS S m := by
  intro m
  induction m with
  | zero => rfl
  | succ m ih =>
    have key : ∀ k, k ≤ 6 → cNn S (6 * m + k) = nuS S m + nuP S m k := by
      intro k
      induction k with
      | zero => intro _; exact ih
      | succ k ihk =>
        intro hk
        have e1 : (6 * m + k) / 6 = m := by omega
        have e2 : (6 * m + k) % 6 = k := by omega
        show cNn S (6 * m + k) + (if S.2.2 ((6 * m + k) / 6) ((6 * m + k) % 6) = none then 1 else 0) = nuS S m + (nuP S m k + if S.2.2 m k = none then 1 else 0)
        rw [e1, e2, ihk (by omega), Nat.add_assoc]
    have := key 6 (by omega)
    rw [show 6 * (m + 1) = 6 * m + 6 by omega, this]
    rfl
section MC
variable {h0 : Hp} {M : Nat} {v pa fl tx it sg lat hat nw os hgh pl asd lks : Nat → Int32} {pm ty ct wr im sm sy : Int32}
theorem l_flat1 {S : Sh} (hv : encS v S) (hw : WfS S) (Q : Option Value → Hp → Prop) : ∀ (m i : Nat), m + i = 6 * S.1 → WP 122 4 [some (.ref M), some (.int (nI (cNn S i))), some (.int (nI i))] [] (mkM h0 M v pa pm (flF fl S i) tx ty ct wr it im sg sm lat hat sy nw os hgh pl asd lks) Q = WP 122 69 [some (.ref M), some (.int (nI (cNn S (6 * S.1)))), some (.int (nI (6 * S.1)))] [] (mkM h0 M v pa pm (flF fl S (6 * S.1)) tx ty ct wr it im sg sm lat hat sy nw os hgh pl asd lks) Q := by
  have h10 := hw.1
  have hv0 := hv.1
  intro m
  induction m with
  | zero =>
    intro i hi
    have hi : i = 6 * S.1 := by omega
    subst hi
    rw [sX10_flattens_4]
    simp (disch := (first | omega | assumption | (simp (disch := omega) only [Int32.lt_iff_toInt_lt, Int32.le_iff_toInt_le, ← Int32.toInt_inj, nI_toInt, zi_m1, zi_m2, zi_m3, zi_m9]; omega) | decide)) only [sX10_flattens_5, sX10_flattens_7, sX10_flattens_8, sX10_flattens_11, sX10_flattens_12, sX10_flattens_13, sX10_flattens_14, mCk, mG0, mG1, mG2, mG3, mG4, mG5, mG6, mG7, mG8, mG9, mG10, mG11, mG12, mG13, mG14, mG15, mG16, mG17, mG18, mG19, mG20, mP2, mP5, mP6, mP7, mP9, mP11, mP14, mA1, mS1, mA2, mS2, mA3, mS3, mA4, mS4, mA5, mS5, mA6, mS6, mA7, mS7, mA8, mS8, mA9, mS9, mA10, mS10, mA11, mS11, mA12, mS12, mA13, mS13, mA14, mS14, zpush_v, zpush_n, gCk, gAi, gSi, gSz, gLi, gLq, ↓if_pos, ↓if_neg, hv0, nI_mul]
  | succ m ih =>
    intro i hi
    have hs : i / 6 < S.1 := by omega
    have hp : i % 6 < 6 := by omega
    have e2 := (hv.2 (i / 6) hs).2 (i % 6) hp
    have le := cNn_le S i
    have vd := valS_le hw hp (some (i / 6))
    rw [← ih (i + 1) (by omega), sX10_flattens_4]
    cases hq : S.2.2 (i / 6) (i % 6) with
    | none =>
      rw [hq, eN_n] at e2
      simp (disch := (first | omega | assumption | (simp (disch := omega) only [Int32.lt_iff_toInt_lt, Int32.le_iff_toInt_le, ← Int32.toInt_inj, nI_toInt, zi_m1, zi_m2, zi_m3, zi_m9]; omega) | decide)) only [sX10_flattens_5, sX10_flattens_7, sX10_flattens_8, sX10_flattens_11, sX10_flattens_12, sX10_flattens_13, sX10_flattens_14, sX10_flattens_17, sX10_flattens_18, sX10_flattens_21, sX10_flattens_22, sX10_flattens_23, sX10_flattens_24, sX10_flattens_26, sX10_flattens_27, sX10_flattens_28, sX10_flattens_30, sX10_flattens_31, sX10_flattens_34, sX10_flattens_35, sX10_flattens_36, sX10_flattens_37, sX10_flattens_40, sX10_flattens_41, sX10_flattens_43, sX10_flattens_44, sX10_flattens_47, sX10_flattens_48, sX10_flattens_50, sX10_flattens_51, sX10_flattens_52, sX10_flattens_53, sX10_flattens_56, sX10_flattens_57, sX10_flattens_60, sX10_flattens_61, sX10_flattens_62i, sX10_flattens_62r, sX10_flattens_62z, sX10_flattens_62o, sX10_flattens_63i, sX10_flattens_63r, sX10_flattens_63z, sX10_flattens_63o, sX10_flattens_66, mCk, mG0, mG1, mG2, mG3, mG4, mG5, mG6, mG7, mG8, mG9, mG10, mG11, mG12, mG13, mG14, mG15, mG16, mG17, mG18, mG19, mG20, mP2, mP5, mP6, mP7, mP9, mP11, mP14, mA1, mS1, mA2, mS2, mA3, mS3, mA4, mS4, mA5, mS5, mA6, mS6, mA7, mS7, mA8, mS8, mA9, mS9, mA10, mS10, mA11, mS11, mA12, mS12, mA13, mS13, mA14, mS14, zpush_v, zpush_n, gCk, gAi, gSi, gSz, gLi, gLq, ↓if_pos, ↓if_neg, hv0, nI_mul, nI_div, nI_rem2, nI_add, m_valuedS hv hw hp hs, m_placeOf, e2, flF_step]
      simp only [cNn, hq, if_true, Nat.add_comm 1]
    | some w =>
      have := (hw.2.2.2 _ hs _ hp w hq).2
      have := hiP_le (i % 6)
      rw [hq, eN_s] at e2
      simp (disch := (first | omega | assumption | (simp (disch := omega) only [Int32.lt_iff_toInt_lt, Int32.le_iff_toInt_le, ← Int32.toInt_inj, nI_toInt, zi_m1, zi_m2, zi_m3, zi_m9]; omega) | decide)) only [sX10_flattens_5, sX10_flattens_7, sX10_flattens_8, sX10_flattens_11, sX10_flattens_12, sX10_flattens_13, sX10_flattens_14, sX10_flattens_17, sX10_flattens_18, sX10_flattens_21, sX10_flattens_22, sX10_flattens_23, sX10_flattens_24, sX10_flattens_26, sX10_flattens_27, sX10_flattens_28, sX10_flattens_30, sX10_flattens_31, sX10_flattens_34, sX10_flattens_35, sX10_flattens_36, sX10_flattens_37, sX10_flattens_40, sX10_flattens_41, sX10_flattens_43, sX10_flattens_44, sX10_flattens_47, sX10_flattens_48, sX10_flattens_50, sX10_flattens_51, sX10_flattens_52, sX10_flattens_53, sX10_flattens_56, sX10_flattens_57, sX10_flattens_60, sX10_flattens_61, sX10_flattens_62i, sX10_flattens_62r, sX10_flattens_62z, sX10_flattens_62o, sX10_flattens_63i, sX10_flattens_63r, sX10_flattens_63z, sX10_flattens_63o, sX10_flattens_66, mCk, mG0, mG1, mG2, mG3, mG4, mG5, mG6, mG7, mG8, mG9, mG10, mG11, mG12, mG13, mG14, mG15, mG16, mG17, mG18, mG19, mG20, mP2, mP5, mP6, mP7, mP9, mP11, mP14, mA1, mS1, mA2, mS2, mA3, mS3, mA4, mS4, mA5, mS5, mA6, mS6, mA7, mS7, mA8, mS8, mA9, mS9, mA10, mS10, mA11, mS11, mA12, mS12, mA13, mS13, mA14, mS14, zpush_v, zpush_n, gCk, gAi, gSi, gSz, gLi, gLq, ↓if_pos, ↓if_neg, hv0, nI_mul, nI_div, nI_rem2, nI_add, m_valuedS hv hw hp hs, m_placeOf, e2, flF_step]
      simp only [cNn, hq, reduceCtorEq, if_false, Nat.add_zero, Nat.zero_add]
theorem l_flat10 {S : Sh} (hv : encS v S) (hw : WfS S) (Q : Option Value → Hp → Prop) : WP 122 4 [some (.ref M), some (.int (nI 0)), some (.int (nI 0))] [] (mkM h0 M v pa pm fl tx ty ct wr it im sg sm lat hat sy nw os hgh pl asd lks) Q = WP 122 69 [some (.ref M), some (.int (nI (cNn S (6 * S.1)))), some (.int (nI (6 * S.1)))] [] (mkM h0 M v pa pm (flF fl S (6 * S.1)) tx ty ct wr it im sg sm lat hat sy nw os hgh pl asd lks) Q := by
  rw [← l_flat1 hv hw Q (6 * S.1) 0 rfl, flF_0]
  rfl
theorem l_flat2 {n : Nat} (hn : n ≤ 10) (hv : v 0 = nI n) (c : Int32) (Q : Option Value → Hp → Prop) : ∀ (m i : Nat), m + i = 6 * n → WP 122 71 [some (.ref M), some (.int c), some (.int (nI i))] [] (mkM h0 M (vF v fl i) pa pm fl tx ty ct wr it im sg sm lat hat sy nw os hgh pl asd lks) Q = Q (some (.int c)) (mkM h0 M (vF v fl (6 * n)) pa pm fl tx ty ct wr it im sg sm lat hat sy nw os hgh pl asd lks) := by
  intro m
  induction m with
  | zero =>
    intro i hi
    have hi : i = 6 * n := by omega
    subst hi
    have hv0 : vF v fl (6 * n) 0 = nI n := by rw [vF_out (by omega) _ (by omega)]; exact hv
    rw [sX10_flattens_71]
    simp (disch := (first | omega | assumption | (simp (disch := omega) only [Int32.lt_iff_toInt_lt, Int32.le_iff_toInt_le, ← Int32.toInt_inj, nI_toInt, zi_m1, zi_m2, zi_m3, zi_m9]; omega) | decide)) only [sX10_flattens_72, sX10_flattens_74, sX10_flattens_75, sX10_flattens_78, sX10_flattens_79, sX10_flattens_80, sX10_flattens_81, sX10_flattens_129, sX10_flattens_130, mCk, mG0, mG1, mG2, mG3, mG4, mG5, mG6, mG7, mG8, mG9, mG10, mG11, mG12, mG13, mG14, mG15, mG16, mG17, mG18, mG19, mG20, mP2, mP5, mP6, mP7, mP9, mP11, mP14, mA1, mS1, mA2, mS2, mA3, mS3, mA4, mS4, mA5, mS5, mA6, mS6, mA7, mS7, mA8, mS8, mA9, mS9, mA10, mS10, mA11, mS11, mA12, mS12, mA13, mS13, mA14, mS14, zpush_v, zpush_n, gCk, gAi, gSi, gSz, gLi, gLq, ↓if_pos, ↓if_neg, hv0, nI_mul]
  | succ m ih =>
    intro i hi
    have hv0 : vF v fl i 0 = nI n := by rw [vF_out (by omega) _ (by omega)]; exact hv
    rw [← ih (i + 1) (by omega), sX10_flattens_71]
    simp (disch := (first | omega | assumption | (simp (disch := omega) only [Int32.lt_iff_toInt_lt, Int32.le_iff_toInt_le, ← Int32.toInt_inj, nI_toInt, zi_m1, zi_m2, zi_m3, zi_m9]; omega) | decide)) only [sX10_flattens_72, sX10_flattens_74, sX10_flattens_75, sX10_flattens_78, sX10_flattens_79, sX10_flattens_80, sX10_flattens_81, sX10_flattens_84, sX10_flattens_85, sX10_flattens_88, sX10_flattens_89, sX10_flattens_91, sX10_flattens_92, sX10_flattens_95, sX10_flattens_96, sX10_flattens_98, sX10_flattens_99, sX10_flattens_100, sX10_flattens_101, sX10_flattens_104, sX10_flattens_105, sX10_flattens_106, sX10_flattens_107, sX10_flattens_108, sX10_flattens_111, sX10_flattens_112, sX10_flattens_114, sX10_flattens_115, sX10_flattens_118, sX10_flattens_120, sX10_flattens_121, sX10_flattens_122, sX10_flattens_123i, sX10_flattens_123r, sX10_flattens_123z, sX10_flattens_123o, sX10_flattens_126, mCk, mG0, mG1, mG2, mG3, mG4, mG5, mG6, mG7, mG8, mG9, mG10, mG11, mG12, mG13, mG14, mG15, mG16, mG17, mG18, mG19, mG20, mP2, mP5, mP6, mP7, mP9, mP11, mP14, mA1, mS1, mA2, mS2, mA3, mS3, mA4, mS4, mA5, mS5, mA6, mS6, mA7, mS7, mA8, mS8, mA9, mS9, mA10, mS10, mA11, mS11, mA12, mS12, mA13, mS13, mA14, mS14, zpush_v, zpush_n, gCk, gAi, gSi, gSz, gLi, gLq, ↓if_pos, ↓if_neg, hv0, nI_mul, nI_div, nI_rem2, nI_add, m_placeOf]
    rfl
theorem m_flattens {S : Sh} (hv : encS v S) (hw : WfS S) : ∃ v', encS v' (flatS S) ∧ (∀ q, 80 ≤ q ∨ q < 10 → v' q = v q) ∧ ∀ Q : Option Value → Hp → Prop, WPm 122 [.ref M] (mkM h0 M v pa pm fl tx ty ct wr it im sg sm lat hat sy nw os hgh pl asd lks) Q = Q (some (.int (nI (nuS S S.1)))) (mkM h0 M v' pa pm (flF fl S (6 * S.1)) tx ty ct wr it im sg sm lat hat sy nw os hgh pl asd lks) := by
  have h10 := hw.1
  refine ⟨vF v (flF fl S (6 * S.1)) (6 * S.1), ⟨by rw [vF_out (by omega) _ (by omega)]; exact hv.1, fun s hs => ⟨?_, fun p hp => ?_⟩⟩, fun q hq => vF_out (by omega) _ (by omega), fun Q => ?_⟩
  · have hs : s < S.1 := hs
    have := (vF_in (v := v) (fl := flF fl S (6 * S.1)) (6 * S.1) (6 * s) (by omega)).2
    rw [show 6 * s / 6 = s by omega] at this
    exact this
  · have hs : s < S.1 := hs
    have := (vF_in (v := v) (fl := flF fl S (6 * S.1)) (6 * S.1) (6 * s + p) (by omega)).1
    rw [show (6 * s + p) / 6 = s by omega, show (6 * s + p) % 6 = p by omega] at this
    rw [this]
    unfold flF
    rw [if_pos (by omega), show (6 * s + p) / 6 = s by omega, show (6 * s + p) % 6 = p by omega]
    rfl
  · have b := l_flat2 (h0 := h0) (M := M) (v := v) (pa := pa) (pm := pm) (fl := flF fl S (6 * S.1)) (tx := tx) (ty := ty) (ct := ct) (wr := wr) (it := it) (im := im) (sg := sg) (sm := sm) (lat := lat) (hat := hat) (sy := sy) (nw := nw) (os := os) (hgh := hgh) (pl := pl) (asd := asd) (lks := lks) h10 hv.1 (nI (nuS S S.1)) Q (6 * S.1) 0 rfl
    rw [← b, eX10_flattens]
    simp (disch := (first | omega | assumption | (simp (disch := omega) only [Int32.lt_iff_toInt_lt, Int32.le_iff_toInt_le, ← Int32.toInt_inj, nI_toInt, zi_m1, zi_m2, zi_m3, zi_m9]; omega) | decide)) only [sX10_flattens_0, sX10_flattens_1i, sX10_flattens_1r, sX10_flattens_1z, sX10_flattens_1o, sX10_flattens_2, sX10_flattens_3i, sX10_flattens_3r, sX10_flattens_3z, sX10_flattens_3o, sX10_flattens_69, sX10_flattens_70i, sX10_flattens_70r, sX10_flattens_70z, sX10_flattens_70o, zpush_v, zpush_n, gCk, gAi, gSi, gSz, gLi, gLq, ↓if_pos, ↓if_neg, l_flat10 hv hw, cNn_eq]
    rfl
theorem cntA_more {S : Sh} : ∀ (k d : Nat) (o : Option Nat), anc S k o = none → k ≤ d → cntA S d o = cntA S k o := by
  intro k
  induction k with
  | zero =>
    intro d o h hd
    have : o = none := h
    subst this
    cases d <;> rfl
  | succ k ih =>
    intro d o h hd
    obtain ⟨d, rfl⟩ : ∃ d', d = d' + 1 := ⟨d - 1, by omega⟩
    cases o with
    | none => rfl
    | some s =>
      simp only [cntA]
      split
      · have h : anc S k (S.2.1 s) = none := h
        rw [ih d _ h (by omega)]
      · rfl
theorem cntA_par {S : Sh} {s : Nat} (hs : s < S.1) (hw : WfS S) : cntA S 10 (some s) = cntA S 10 (S.2.1 s) + 1 := by
  have h3 : anc S 9 (S.2.1 s) = none := anc_more (k := S.1) (d := 10) (anc_end hw hs) hw.1
  have h2 : cntA S 10 (some s) = cntA S 9 (S.2.1 s) + 1 := by simp [cntA, hs]
  rw [h2, cntA_more 9 10 _ h3 (by omega)]
theorem l_told7 {S : Sh} (hv : encS v S) (hw : WfS S) (x y : Int32) (Q : Option Value → Hp → Prop) : ∀ (k : Nat) (o : Option Nat) (n : Nat), anc S k o = none → (∀ s, o = some s → s < S.1) →
    WP 124 40 [some (.ref M), some (.int x), some (.int y), some (.int (nI n)), some (.int (eN o))] [] (mkM h0 M v pa pm fl tx ty ct wr it im sg sm lat hat sy nw os hgh pl asd lks) Q = Q (some (.int (nI (n + cntA S 10 o)))) (mkM h0 M v pa pm fl tx ty ct wr it im sg sm lat hat sy nw os hgh pl asd lks) := by
  have h10 := hw.1
  intro k
  induction k with
  | zero =>
    intro o n ho _
    have ho : o = none := ho
    subst ho
    rw [sX10_styleTold_40]
    simp (disch := (first | omega | assumption | (simp (disch := omega) only [Int32.lt_iff_toInt_lt, Int32.le_iff_toInt_le, ← Int32.toInt_inj, nI_toInt, zi_m1, zi_m2, zi_m3, zi_m9]; omega) | decide)) only [sX10_styleTold_42, sX10_styleTold_66, sX10_styleTold_67, zpush_v, zpush_n, gCk, gAi, gSi, gSz, gLi, gLq, ↓if_pos, ↓if_neg, eN_n]
    rfl
  | succ k ih =>
    intro o n ho hs
    cases o with
    | none =>
      rw [sX10_styleTold_40]
      simp (disch := (first | omega | assumption | (simp (disch := omega) only [Int32.lt_iff_toInt_lt, Int32.le_iff_toInt_le, ← Int32.toInt_inj, nI_toInt, zi_m1, zi_m2, zi_m3, zi_m9]; omega) | decide)) only [sX10_styleTold_42, sX10_styleTold_66, sX10_styleTold_67, zpush_v, zpush_n, gCk, gAi, gSi, gSz, gLi, gLq, ↓if_pos, ↓if_neg, eN_n]
      rfl
    | some s =>
      have hs := hs s rfl
      have e1 := (hv.2 s hs).1
      rw [cntA_par hs hw, show n + (cntA S 10 (S.2.1 s) + 1) = n + 1 + cntA S 10 (S.2.1 s) by omega, ← ih (S.2.1 s) (n + 1) ho (fun q hq => hw.2.1 s hs q hq), sX10_styleTold_40]
      simp (disch := (first | omega | assumption | (simp (disch := omega) only [Int32.lt_iff_toInt_lt, Int32.le_iff_toInt_le, ← Int32.toInt_inj, nI_toInt, zi_m1, zi_m2, zi_m3, zi_m9]; omega) | decide)) only [sX10_styleTold_42, sX10_styleTold_45i, sX10_styleTold_45r, sX10_styleTold_45z, sX10_styleTold_45o, sX10_styleTold_48, sX10_styleTold_49, sX10_styleTold_52, sX10_styleTold_54, sX10_styleTold_57, sX10_styleTold_59, sX10_styleTold_60, sX10_styleTold_61i, sX10_styleTold_61r, sX10_styleTold_61z, sX10_styleTold_61o, sX10_styleTold_63, mCk, mG0, mG1, mG2, mG3, mG4, mG5, mG6, mG7, mG8, mG9, mG10, mG11, mG12, mG13, mG14, mG15, mG16, mG17, mG18, mG19, mG20, mP2, mP5, mP6, mP7, mP9, mP11, mP14, mA1, mS1, mA2, mS2, mA3, mS3, mA4, mS4, mA5, mS5, mA6, mS6, mA7, mS7, mA8, mS8, mA9, mS9, mA10, mS10, mA11, mS11, mA12, mS12, mA13, mS13, mA14, mS14, zpush_v, zpush_n, gCk, gAi, gSi, gSz, gLi, gLq, ↓if_pos, ↓if_neg, eN_s, m_placeOf, nI_add, e1]
theorem eN_ne {S : Sh} (hw : WfS S) {i t : Nat} (hi : i < S.1) (ht : t < 10) (hp : ¬ S.2.1 i = some t) : ¬ eN (S.2.1 i) = nI t := by
  have h10 := hw.1
  cases hq : S.2.1 i with
  | none => intro q; exact nI_nm1 (by omega) q.symm
  | some w =>
    have := hw.2.1 i hi w hq
    intro q
    rw [eN_s, nI_eq (by omega) (by omega)] at q
    rw [hq, q] at hp
    exact hp rfl
theorem l_told8 {S : Sh} (hv : encS v S) (hw : WfS S) {t : Nat} (ht : t < 10) (y : Int32) (Q : Option Value → Hp → Prop) : ∀ (m i : Nat), m + i = S.1 →
    WP 124 71 [some (.ref M), some (.int (nI t)), some (.int y), some (.int (nI (chl S t i))), some (.int (nI i))] [] (mkM h0 M v pa pm fl tx ty ct wr it im sg sm lat hat sy nw os hgh pl asd lks) Q = Q (some (.int (nI (chl S t S.1)))) (mkM h0 M v pa pm fl tx ty ct wr it im sg sm lat hat sy nw os hgh pl asd lks) := by
  have h10 := hw.1
  have hv0 := hv.1
  intro m
  induction m with
  | zero =>
    intro i hi
    have hi : i = S.1 := by omega
    subst hi
    rw [sX10_styleTold_71]
    simp (disch := (first | omega | assumption | (simp (disch := omega) only [Int32.lt_iff_toInt_lt, Int32.le_iff_toInt_le, ← Int32.toInt_inj, nI_toInt, zi_m1, zi_m2, zi_m3, zi_m9]; omega) | decide)) only [sX10_styleTold_73, sX10_styleTold_74, sX10_styleTold_77, sX10_styleTold_78, sX10_styleTold_79, sX10_styleTold_113, sX10_styleTold_114, mCk, mG0, mG1, mG2, mG3, mG4, mG5, mG6, mG7, mG8, mG9, mG10, mG11, mG12, mG13, mG14, mG15, mG16, mG17, mG18, mG19, mG20, mP2, mP5, mP6, mP7, mP9, mP11, mP14, mA1, mS1, mA2, mS2, mA3, mS3, mA4, mS4, mA5, mS5, mA6, mS6, mA7, mS7, mA8, mS8, mA9, mS9, mA10, mS10, mA11, mS11, mA12, mS12, mA13, mS13, mA14, mS14, zpush_v, zpush_n, gCk, gAi, gSi, gSz, gLi, gLq, ↓if_pos, ↓if_neg, hv0]
  | succ m ih =>
    intro i hi
    have e1 := (hv.2 i (by omega)).1
    rw [← ih (i + 1) (by omega), sX10_styleTold_71]
    by_cases hp : S.2.1 i = some t
    · rw [hp, eN_s] at e1
      simp (disch := (first | omega | assumption | (simp (disch := omega) only [Int32.lt_iff_toInt_lt, Int32.le_iff_toInt_le, ← Int32.toInt_inj, nI_toInt, zi_m1, zi_m2, zi_m3, zi_m9]; omega) | decide)) only [sX10_styleTold_73, sX10_styleTold_74, sX10_styleTold_77, sX10_styleTold_78, sX10_styleTold_79, sX10_styleTold_82, sX10_styleTold_83, sX10_styleTold_84, sX10_styleTold_87, sX10_styleTold_89, sX10_styleTold_92, sX10_styleTold_94, sX10_styleTold_95, sX10_styleTold_96, sX10_styleTold_97, sX10_styleTold_100, sX10_styleTold_101, sX10_styleTold_104, sX10_styleTold_105, sX10_styleTold_106i, sX10_styleTold_106r, sX10_styleTold_106z, sX10_styleTold_106o, sX10_styleTold_107i, sX10_styleTold_107r, sX10_styleTold_107z, sX10_styleTold_107o, sX10_styleTold_110, mCk, mG0, mG1, mG2, mG3, mG4, mG5, mG6, mG7, mG8, mG9, mG10, mG11, mG12, mG13, mG14, mG15, mG16, mG17, mG18, mG19, mG20, mP2, mP5, mP6, mP7, mP9, mP11, mP14, mA1, mS1, mA2, mS2, mA3, mS3, mA4, mS4, mA5, mS5, mA6, mS6, mA7, mS7, mA8, mS8, mA9, mS9, mA10, mS10, mA11, mS11, mA12, mS12, mA13, mS13, mA14, mS14, zpush_v, zpush_n, gCk, gAi, gSi, gSz, gLi, gLq, ↓if_pos, ↓if_neg, hv0, m_placeOf, nI_add, e1]
      simp only [chl, hp, if_true, Nat.add_comm 1]
    · have hne := eN_ne hw (by omega) ht hp
      simp (disch := (first | omega | assumption | (simp (disch := omega) only [Int32.lt_iff_toInt_lt, Int32.le_iff_toInt_le, ← Int32.toInt_inj, nI_toInt, zi_m1, zi_m2, zi_m3, zi_m9]; omega) | decide)) only [sX10_styleTold_73, sX10_styleTold_74, sX10_styleTold_77, sX10_styleTold_78, sX10_styleTold_79, sX10_styleTold_82, sX10_styleTold_83, sX10_styleTold_84, sX10_styleTold_87, sX10_styleTold_89, sX10_styleTold_92, sX10_styleTold_94, sX10_styleTold_95, sX10_styleTold_96, sX10_styleTold_97, sX10_styleTold_100, sX10_styleTold_101, sX10_styleTold_104, sX10_styleTold_105, sX10_styleTold_106i, sX10_styleTold_106r, sX10_styleTold_106z, sX10_styleTold_106o, sX10_styleTold_107i, sX10_styleTold_107r, sX10_styleTold_107z, sX10_styleTold_107o, sX10_styleTold_110, mCk, mG0, mG1, mG2, mG3, mG4, mG5, mG6, mG7, mG8, mG9, mG10, mG11, mG12, mG13, mG14, mG15, mG16, mG17, mG18, mG19, mG20, mP2, mP5, mP6, mP7, mP9, mP11, mP14, mA1, mS1, mA2, mS2, mA3, mS3, mA4, mS4, mA5, mS5, mA6, mS6, mA7, mS7, mA8, mS8, mA9, mS9, mA10, mS10, mA11, mS11, mA12, mS12, mA13, mS13, mA14, mS14, zpush_v, zpush_n, gCk, gAi, gSi, gSz, gLi, gLq, ↓if_pos, ↓if_neg, hv0, m_placeOf, nI_add, e1]
      simp only [chl, hp, if_false, Nat.add_zero, Nat.zero_add]
theorem m_told {S : Sh} (hv : encS v S) (hw : WfS S) {s w : Nat} (hs : s < S.1) (hp : w < 9) (Q : Option Value → Hp → Prop) : WPm 124 [.ref M, .int (nI s), .int (nI w)] (mkM h0 M v pa pm fl tx ty ct wr it im sg sm lat hat sy nw os hgh pl asd lks) Q = Q (some (.int (styleNum S s w))) (mkM h0 M v pa pm fl tx ty ct wr it im sg sm lat hat sy nw os hgh pl asd lks) := by
  have h10 := hw.1
  obtain ⟨e1, e2⟩ := hv.2 s hs
  rw [eX10_styleTold]
  unfold styleNum
  by_cases c : w < 6
  · rw [if_pos c]
    simp (disch := (first | omega | assumption | (simp (disch := omega) only [Int32.lt_iff_toInt_lt, Int32.le_iff_toInt_le, ← Int32.toInt_inj, nI_toInt, zi_m1, zi_m2, zi_m3, zi_m9]; omega) | decide)) only [sX10_styleTold_0, sX10_styleTold_1, sX10_styleTold_3, sX10_styleTold_6, sX10_styleTold_7, sX10_styleTold_10, sX10_styleTold_11, sX10_styleTold_14, sX10_styleTold_15, sX10_styleTold_16, sX10_styleTold_17, mCk, mG0, mG1, mG2, mG3, mG4, mG5, mG6, mG7, mG8, mG9, mG10, mG11, mG12, mG13, mG14, mG15, mG16, mG17, mG18, mG19, mG20, mP2, mP5, mP6, mP7, mP9, mP11, mP14, mA1, mS1, mA2, mS2, mA3, mS3, mA4, mS4, mA5, mS5, mA6, mS6, mA7, mS7, mA8, mS8, mA9, mS9, mA10, mS10, mA11, mS11, mA12, mS12, mA13, mS13, mA14, mS14, zpush_v, zpush_n, gCk, gAi, gSi, gSz, gLi, gLq, ↓if_pos, ↓if_neg, m_placeOf, nI_add, e2 w c]
  · rw [if_neg c]
    have : w = 6 ∨ w = 7 ∨ w = 8 := by omega
    rcases this with rfl | rfl | rfl
    · rw [if_pos rfl]
      simp (disch := (first | omega | assumption | (simp (disch := omega) only [Int32.lt_iff_toInt_lt, Int32.le_iff_toInt_le, ← Int32.toInt_inj, nI_toInt, zi_m1, zi_m2, zi_m3, zi_m9]; omega) | decide)) only [sX10_styleTold_0, sX10_styleTold_1, sX10_styleTold_3, sX10_styleTold_6, sX10_styleTold_7, sX10_styleTold_10, sX10_styleTold_11, sX10_styleTold_14, sX10_styleTold_15, sX10_styleTold_16, sX10_styleTold_17, mCk, mG0, mG1, mG2, mG3, mG4, mG5, mG6, mG7, mG8, mG9, mG10, mG11, mG12, mG13, mG14, mG15, mG16, mG17, mG18, mG19, mG20, mP2, mP5, mP6, mP7, mP9, mP11, mP14, mA1, mS1, mA2, mS2, mA3, mS3, mA4, mS4, mA5, mS5, mA6, mS6, mA7, mS7, mA8, mS8, mA9, mS9, mA10, mS10, mA11, mS11, mA12, mS12, mA13, mS13, mA14, mS14, zpush_v, zpush_n, gCk, gAi, gSi, gSz, gLi, gLq, ↓if_pos, ↓if_neg, m_placeOf, nI_add, e1]
    · rw [if_neg (by omega), if_pos rfl]
      have h3 : anc S 9 (S.2.1 s) = none := anc_more (k := S.1) (d := 10) (anc_end hw hs) hw.1
      have l := l_told7 (h0 := h0) (M := M) (v := v) (pa := pa) (pm := pm) (fl := fl) (tx := tx) (ty := ty) (ct := ct) (wr := wr) (it := it) (im := im) (sg := sg) (sm := sm) (lat := lat) (hat := hat) (sy := sy) (nw := nw) (os := os) (hgh := hgh) (pl := pl) (asd := asd) (lks := lks) hv hw (nI s) (nI 7) Q 9 (S.2.1 s) 0 h3 (fun q hq => hw.2.1 s hs q hq)
      rw [Nat.zero_add] at l
      rw [← l]
      simp (disch := (first | omega | assumption | (simp (disch := omega) only [Int32.lt_iff_toInt_lt, Int32.le_iff_toInt_le, ← Int32.toInt_inj, nI_toInt, zi_m1, zi_m2, zi_m3, zi_m9]; omega) | decide)) only [sX10_styleTold_0, sX10_styleTold_1, sX10_styleTold_3, sX10_styleTold_6, sX10_styleTold_7, sX10_styleTold_10, sX10_styleTold_11, sX10_styleTold_14, sX10_styleTold_15, sX10_styleTold_16, sX10_styleTold_17, sX10_styleTold_18, sX10_styleTold_19i, sX10_styleTold_19r, sX10_styleTold_19z, sX10_styleTold_19o, sX10_styleTold_20, sX10_styleTold_21, sX10_styleTold_23, sX10_styleTold_26, sX10_styleTold_27, sX10_styleTold_30, sX10_styleTold_31, sX10_styleTold_34, sX10_styleTold_36, sX10_styleTold_37, sX10_styleTold_38i, sX10_styleTold_38r, sX10_styleTold_38z, sX10_styleTold_38o, mCk, mG0, mG1, mG2, mG3, mG4, mG5, mG6, mG7, mG8, mG9, mG10, mG11, mG12, mG13, mG14, mG15, mG16, mG17, mG18, mG19, mG20, mP2, mP5, mP6, mP7, mP9, mP11, mP14, mA1, mS1, mA2, mS2, mA3, mS3, mA4, mS4, mA5, mS5, mA6, mS6, mA7, mS7, mA8, mS8, mA9, mS9, mA10, mS10, mA11, mS11, mA12, mS12, mA13, mS13, mA14, mS14, zpush_v, zpush_n, gCk, gAi, gSi, gSz, gLi, gLq, ↓if_pos, ↓if_neg, m_placeOf, nI_add, e1]
    · rw [if_neg (by omega), if_neg (by omega)]
      have l := l_told8 (h0 := h0) (M := M) (v := v) (pa := pa) (pm := pm) (fl := fl) (tx := tx) (ty := ty) (ct := ct) (wr := wr) (it := it) (im := im) (sg := sg) (sm := sm) (lat := lat) (hat := hat) (sy := sy) (nw := nw) (os := os) (hgh := hgh) (pl := pl) (asd := asd) (lks := lks) hv hw (t := s) (by omega) (nI 8) Q S.1 0 rfl
      rw [← l]
      simp (disch := (first | omega | assumption | (simp (disch := omega) only [Int32.lt_iff_toInt_lt, Int32.le_iff_toInt_le, ← Int32.toInt_inj, nI_toInt, zi_m1, zi_m2, zi_m3, zi_m9]; omega) | decide)) only [sX10_styleTold_0, sX10_styleTold_1, sX10_styleTold_3, sX10_styleTold_6, sX10_styleTold_7, sX10_styleTold_10, sX10_styleTold_11, sX10_styleTold_14, sX10_styleTold_15, sX10_styleTold_16, sX10_styleTold_17, sX10_styleTold_18, sX10_styleTold_19i, sX10_styleTold_19r, sX10_styleTold_19z, sX10_styleTold_19o, sX10_styleTold_20, sX10_styleTold_21, sX10_styleTold_23, sX10_styleTold_68, sX10_styleTold_69i, sX10_styleTold_69r, sX10_styleTold_69z, sX10_styleTold_69o, mCk, mG0, mG1, mG2, mG3, mG4, mG5, mG6, mG7, mG8, mG9, mG10, mG11, mG12, mG13, mG14, mG15, mG16, mG17, mG18, mG19, mG20, mP2, mP5, mP6, mP7, mP9, mP11, mP14, mA1, mS1, mA2, mS2, mA3, mS3, mA4, mS4, mA5, mS5, mA6, mS6, mA7, mS7, mA8, mS8, mA9, mS9, mA10, mS10, mA11, mS11, mA12, mS12, mA13, mS13, mA14, mS14, zpush_v, zpush_n, gCk, gAi, gSi, gSz, gLi, gLq, ↓if_pos, ↓if_neg]
      rfl
theorem q_styles {st : Stt} (hv : encV v st) (Q : Option Value → Hp → Prop) : WPm 128 [.ref M] (mkM h0 M v pa pm fl tx ty ct wr it im sg sm lat hat sy nw os hgh pl asd lks) Q = Q (some (.int (nI st.1.1))) (mkM h0 M v pa pm fl tx ty ct wr it im sg sm lat hat sy nw os hgh pl asd lks) := by
  have hv0 := hv.1.1
  rw [eX10_styles]
  simp (disch := (first | omega | assumption | (simp (disch := omega) only [Int32.lt_iff_toInt_lt, Int32.le_iff_toInt_le, ← Int32.toInt_inj, nI_toInt, zi_m1, zi_m2, zi_m3, zi_m9]; omega) | decide)) only [sX10_styles_0, sX10_styles_1, sX10_styles_4, sX10_styles_5, sX10_styles_6, mCk, mG0, mG1, mG2, mG3, mG4, mG5, mG6, mG7, mG8, mG9, mG10, mG11, mG12, mG13, mG14, mG15, mG16, mG17, mG18, mG19, mG20, mP2, mP5, mP6, mP7, mP9, mP11, mP14, mA1, mS1, mA2, mS2, mA3, mS3, mA4, mS4, mA5, mS5, mA6, mS6, mA7, mS7, mA8, mS8, mA9, mS9, mA10, mS10, mA11, mS11, mA12, mS12, mA13, mS13, mA14, mS14, zpush_v, zpush_n, gCk, gAi, gSi, gSz, gLi, gLq, ↓if_pos, ↓if_neg, hv0]
theorem q_lines {st : Stt} (hv : encV v st) (Q : Option Value → Hp → Prop) : WPm 155 [.ref M] (mkM h0 M v pa pm fl tx ty ct wr it im sg sm lat hat sy nw os hgh pl asd lks) Q = Q (some (.int (nI st.2.1.length))) (mkM h0 M v pa pm fl tx ty ct wr it im sg sm lat hat sy nw os hgh pl asd lks) := by
  have hv0 := hv.2.1
  rw [eX10_lines]
  simp (disch := (first | omega | assumption | (simp (disch := omega) only [Int32.lt_iff_toInt_lt, Int32.le_iff_toInt_le, ← Int32.toInt_inj, nI_toInt, zi_m1, zi_m2, zi_m3, zi_m9]; omega) | decide)) only [sX10_lines_0, sX10_lines_1, sX10_lines_4, sX10_lines_5, sX10_lines_6, mCk, mG0, mG1, mG2, mG3, mG4, mG5, mG6, mG7, mG8, mG9, mG10, mG11, mG12, mG13, mG14, mG15, mG16, mG17, mG18, mG19, mG20, mP2, mP5, mP6, mP7, mP9, mP11, mP14, mA1, mS1, mA2, mS2, mA3, mS3, mA4, mS4, mA5, mS5, mA6, mS6, mA7, mS7, mA8, mS8, mA9, mS9, mA10, mS10, mA11, mS11, mA12, mS12, mA13, mS13, mA14, mS14, zpush_v, zpush_n, gCk, gAi, gSi, gSz, gLi, gLq, ↓if_pos, ↓if_neg, hv0]
variable {p : PS}
theorem q_styleAt (hv : encV v p.1) (hw : WfSt p.1) (s w : Int32) (Q : Option Value → Hp → Prop) : WPm 125 [.ref M, .int s, .int w] (mkM h0 M v pa pm fl tx ty ct wr it im sg sm lat hat sy nw os hgh pl asd lks) Q = Q (some (.int (qStyleAt p s w))) (mkM h0 M v pa pm fl tx ty ct wr it im sg sm lat hat sy nw os hgh pl asd lks) := by
  have hws := hw.1
  have h10 := hws.1
  have hS := hv.1
  rw [eX10_styleAt]
  unfold qStyleAt
  rcases dN_cases p.1.1.1 s (by omega) with ⟨k, hk, rfl, e⟩ | ⟨g2, e⟩
  · rw [e]
    rcases dN_cases 9 w (by omega) with ⟨j, hj, rfl, e2⟩ | ⟨g, e2⟩
    · rw [e2]
      have i := in_n (h := (mkM h0 M v pa pm fl tx ty ct wr it im sg sm lat hat sy nw os hgh pl asd lks)) (k := j) (a := 0) (b := 8) (by omega) (by omega) (by omega)
      rw [bI_t (by omega)] at i
      simp (disch := (first | omega | assumption | (simp (disch := omega) only [Int32.lt_iff_toInt_lt, Int32.le_iff_toInt_le, ← Int32.toInt_inj, nI_toInt, zi_m1, zi_m2, zi_m3, zi_m9]; omega) | decide)) only [sX10_styleAt_0, sX10_styleAt_1, sX10_styleAt_2, sX10_styleAt_5, sX10_styleAt_8, sX10_styleAt_9, sX10_styleAt_10, sX10_styleAt_12, sX10_styleAt_15, sX10_styleAt_18, sX10_styleAt_19, sX10_styleAt_20, sX10_styleAt_21, sX10_styleAt_24, sX10_styleAt_27, sX10_styleAt_28, mCk, mG0, mG1, mG2, mG3, mG4, mG5, mG6, mG7, mG8, mG9, mG10, mG11, mG12, mG13, mG14, mG15, mG16, mG17, mG18, mG19, mG20, mP2, mP5, mP6, mP7, mP9, mP11, mP14, mA1, mS1, mA2, mS2, mA3, mS3, mA4, mS4, mA5, mS5, mA6, mS6, mA7, mS7, mA8, mS8, mA9, mS9, mA10, mS10, mA11, mS11, mA12, mS12, mA13, mS13, mA14, mS14, zpush_v, zpush_n, gCk, gAi, gSi, gSz, gLi, gLq, ↓if_pos, ↓if_neg, isSt_t hS.1 h10 hk, i, m_told hS hws hk hj]
    · rw [e2]
      have i := in_f (h := (mkM h0 M v pa pm fl tx ty ct wr it im sg sm lat hat sy nw os hgh pl asd lks)) (x := w) (lo := nI 0) (hi := nI 8) (g.imp id (fun q => by
        rw [Int32.le_iff_toInt_le, nI_toInt (by omega)] at q
        rw [Int32.lt_iff_toInt_lt, nI_toInt (by omega)]
        omega))
      simp (disch := (first | omega | assumption | (simp (disch := omega) only [Int32.lt_iff_toInt_lt, Int32.le_iff_toInt_le, ← Int32.toInt_inj, nI_toInt, zi_m1, zi_m2, zi_m3, zi_m9]; omega) | decide)) only [sX10_styleAt_0, sX10_styleAt_1, sX10_styleAt_2, sX10_styleAt_5, sX10_styleAt_8, sX10_styleAt_9, sX10_styleAt_10, sX10_styleAt_12, sX10_styleAt_15, sX10_styleAt_18, sX10_styleAt_19, sX10_styleAt_20, sX10_styleAt_21, sX10_styleAt_24, sX10_styleAt_27, sX10_styleAt_28, mCk, mG0, mG1, mG2, mG3, mG4, mG5, mG6, mG7, mG8, mG9, mG10, mG11, mG12, mG13, mG14, mG15, mG16, mG17, mG18, mG19, mG20, mP2, mP5, mP6, mP7, mP9, mP11, mP14, mA1, mS1, mA2, mS2, mA3, mS3, mA4, mS4, mA5, mS5, mA6, mS6, mA7, mS7, mA8, mS8, mA9, mS9, mA10, mS10, mA11, mS11, mA12, mS12, mA13, mS13, mA14, mS14, zpush_v, zpush_n, gCk, gAi, gSi, gSz, gLi, gLq, ↓if_pos, ↓if_neg, isSt_t hS.1 h10 hk, i]
  · rw [e]
    simp (disch := (first | omega | assumption | (simp (disch := omega) only [Int32.lt_iff_toInt_lt, Int32.le_iff_toInt_le, ← Int32.toInt_inj, nI_toInt, zi_m1, zi_m2, zi_m3, zi_m9]; omega) | decide)) only [sX10_styleAt_0, sX10_styleAt_1, sX10_styleAt_2, sX10_styleAt_5, sX10_styleAt_8, sX10_styleAt_9, sX10_styleAt_10, sX10_styleAt_12, sX10_styleAt_15, sX10_styleAt_18, sX10_styleAt_19, sX10_styleAt_20, sX10_styleAt_21, sX10_styleAt_24, sX10_styleAt_27, sX10_styleAt_28, mCk, mG0, mG1, mG2, mG3, mG4, mG5, mG6, mG7, mG8, mG9, mG10, mG11, mG12, mG13, mG14, mG15, mG16, mG17, mG18, mG19, mG20, mP2, mP5, mP6, mP7, mP9, mP11, mP14, mA1, mS1, mA2, mS2, mA3, mS3, mA4, mS4, mA5, mS5, mA6, mS6, mA7, mS7, mA8, mS8, mA9, mS9, mA10, mS10, mA11, mS11, mA12, mS12, mA13, mS13, mA14, mS14, zpush_v, zpush_n, gCk, gAi, gSi, gSz, gLi, gLq, ↓if_pos, ↓if_neg, isSt_f hS.1 h10 g2]
theorem in5_f {h : Hp} {x : Int32} (g : x < nI 0 ∨ nI 6 ≤ x) (Q : Option Value → Hp → Prop) : WPm 108 [.int x, .int (nI 0), .int (nI 5)] h Q = Q (some (.int (nI 0))) h := in_f (g.imp id (fun q => by
        rw [Int32.le_iff_toInt_le, nI_toInt (by omega)] at q
        rw [Int32.lt_iff_toInt_lt, nI_toInt (by omega)]
        omega)) Q
theorem in5_t {h : Hp} {j : Nat} (hj : j < 6) (Q : Option Value → Hp → Prop) : WPm 108 [.int (nI j), .int (nI 0), .int (nI 5)] h Q = Q (some (.int (nI 1))) h := by
  rw [in_n (by omega) (by omega) (by omega), bI_t (by omega)]
theorem q_valueOf (hv : encV v p.1) (hw : WfSt p.1) (s w : Int32) (Q : Option Value → Hp → Prop) : WPm 126 [.ref M, .int s, .int w] (mkM h0 M v pa pm fl tx ty ct wr it im sg sm lat hat sy nw os hgh pl asd lks) Q = Q (some (.int (qValueOf p s w))) (mkM h0 M v pa pm fl tx ty ct wr it im sg sm lat hat sy nw os hgh pl asd lks) := by
  have hws := hw.1
  have h10 := hws.1
  have hS := hv.1
  rw [eX10_valueOf]
  unfold qValueOf
  rcases dO_cases p.1.1.1 s (by omega) with ⟨rfl, e⟩ | ⟨k, hk, rfl, e⟩ | ⟨⟨g1, g2⟩, e⟩
  · rw [e]
    rcases dN_cases 6 w (by omega) with ⟨j, hj, rfl, e2⟩ | ⟨g, e2⟩
    · rw [e2]
      simp (disch := (first | omega | assumption | (simp (disch := omega) only [Int32.lt_iff_toInt_lt, Int32.le_iff_toInt_le, ← Int32.toInt_inj, nI_toInt, zi_m1, zi_m2, zi_m3, zi_m9]; omega) | decide)) only [sX10_valueOf_0, sX10_valueOf_1, sX10_valueOf_2, sX10_valueOf_5, sX10_valueOf_8, sX10_valueOf_9, sX10_valueOf_10, sX10_valueOf_11, sX10_valueOf_14, sX10_valueOf_17, sX10_valueOf_18, sX10_valueOf_19, sX10_valueOf_20, sX10_valueOf_23, sX10_valueOf_26, sX10_valueOf_27, mCk, mG0, mG1, mG2, mG3, mG4, mG5, mG6, mG7, mG8, mG9, mG10, mG11, mG12, mG13, mG14, mG15, mG16, mG17, mG18, mG19, mG20, mP2, mP5, mP6, mP7, mP9, mP11, mP14, mA1, mS1, mA2, mS2, mA3, mS3, mA4, mS4, mA5, mS5, mA6, mS6, mA7, mS7, mA8, mS8, mA9, mS9, mA10, mS10, mA11, mS11, mA12, mS12, mA13, mS13, mA14, mS14, zpush_v, zpush_n, gCk, gAi, gSi, gSz, gLi, gLq, ↓if_pos, ↓if_neg, isSN_n, in5_t hj, m_valuedN hS hws hj]
    · rw [e2]
      simp (disch := (first | omega | assumption | (simp (disch := omega) only [Int32.lt_iff_toInt_lt, Int32.le_iff_toInt_le, ← Int32.toInt_inj, nI_toInt, zi_m1, zi_m2, zi_m3, zi_m9]; omega) | decide)) only [sX10_valueOf_0, sX10_valueOf_1, sX10_valueOf_2, sX10_valueOf_5, sX10_valueOf_8, sX10_valueOf_9, sX10_valueOf_10, sX10_valueOf_11, sX10_valueOf_14, sX10_valueOf_17, sX10_valueOf_18, sX10_valueOf_19, sX10_valueOf_20, sX10_valueOf_23, sX10_valueOf_26, sX10_valueOf_27, mCk, mG0, mG1, mG2, mG3, mG4, mG5, mG6, mG7, mG8, mG9, mG10, mG11, mG12, mG13, mG14, mG15, mG16, mG17, mG18, mG19, mG20, mP2, mP5, mP6, mP7, mP9, mP11, mP14, mA1, mS1, mA2, mS2, mA3, mS3, mA4, mS4, mA5, mS5, mA6, mS6, mA7, mS7, mA8, mS8, mA9, mS9, mA10, mS10, mA11, mS11, mA12, mS12, mA13, mS13, mA14, mS14, zpush_v, zpush_n, gCk, gAi, gSi, gSz, gLi, gLq, ↓if_pos, ↓if_neg, isSN_n, in5_f g]
  · rw [e]
    rcases dN_cases 6 w (by omega) with ⟨j, hj, rfl, e2⟩ | ⟨g, e2⟩
    · rw [e2]
      simp (disch := (first | omega | assumption | (simp (disch := omega) only [Int32.lt_iff_toInt_lt, Int32.le_iff_toInt_le, ← Int32.toInt_inj, nI_toInt, zi_m1, zi_m2, zi_m3, zi_m9]; omega) | decide)) only [sX10_valueOf_0, sX10_valueOf_1, sX10_valueOf_2, sX10_valueOf_5, sX10_valueOf_8, sX10_valueOf_9, sX10_valueOf_10, sX10_valueOf_11, sX10_valueOf_14, sX10_valueOf_17, sX10_valueOf_18, sX10_valueOf_19, sX10_valueOf_20, sX10_valueOf_23, sX10_valueOf_26, sX10_valueOf_27, mCk, mG0, mG1, mG2, mG3, mG4, mG5, mG6, mG7, mG8, mG9, mG10, mG11, mG12, mG13, mG14, mG15, mG16, mG17, mG18, mG19, mG20, mP2, mP5, mP6, mP7, mP9, mP11, mP14, mA1, mS1, mA2, mS2, mA3, mS3, mA4, mS4, mA5, mS5, mA6, mS6, mA7, mS7, mA8, mS8, mA9, mS9, mA10, mS10, mA11, mS11, mA12, mS12, mA13, mS13, mA14, mS14, zpush_v, zpush_n, gCk, gAi, gSi, gSz, gLi, gLq, ↓if_pos, ↓if_neg, isSN_t hS.1 h10 hk, in5_t hj, m_valuedS hS hws hj hk]
    · rw [e2]
      simp (disch := (first | omega | assumption | (simp (disch := omega) only [Int32.lt_iff_toInt_lt, Int32.le_iff_toInt_le, ← Int32.toInt_inj, nI_toInt, zi_m1, zi_m2, zi_m3, zi_m9]; omega) | decide)) only [sX10_valueOf_0, sX10_valueOf_1, sX10_valueOf_2, sX10_valueOf_5, sX10_valueOf_8, sX10_valueOf_9, sX10_valueOf_10, sX10_valueOf_11, sX10_valueOf_14, sX10_valueOf_17, sX10_valueOf_18, sX10_valueOf_19, sX10_valueOf_20, sX10_valueOf_23, sX10_valueOf_26, sX10_valueOf_27, mCk, mG0, mG1, mG2, mG3, mG4, mG5, mG6, mG7, mG8, mG9, mG10, mG11, mG12, mG13, mG14, mG15, mG16, mG17, mG18, mG19, mG20, mP2, mP5, mP6, mP7, mP9, mP11, mP14, mA1, mS1, mA2, mS2, mA3, mS3, mA4, mS4, mA5, mS5, mA6, mS6, mA7, mS7, mA8, mS8, mA9, mS9, mA10, mS10, mA11, mS11, mA12, mS12, mA13, mS13, mA14, mS14, zpush_v, zpush_n, gCk, gAi, gSi, gSz, gLi, gLq, ↓if_pos, ↓if_neg, isSN_t hS.1 h10 hk, in5_f g]
  · rw [e]
    simp (disch := (first | omega | assumption | (simp (disch := omega) only [Int32.lt_iff_toInt_lt, Int32.le_iff_toInt_le, ← Int32.toInt_inj, nI_toInt, zi_m1, zi_m2, zi_m3, zi_m9]; omega) | decide)) only [sX10_valueOf_0, sX10_valueOf_1, sX10_valueOf_2, sX10_valueOf_5, sX10_valueOf_8, sX10_valueOf_9, sX10_valueOf_10, sX10_valueOf_11, sX10_valueOf_14, sX10_valueOf_17, sX10_valueOf_18, sX10_valueOf_19, sX10_valueOf_20, sX10_valueOf_23, sX10_valueOf_26, sX10_valueOf_27, mCk, mG0, mG1, mG2, mG3, mG4, mG5, mG6, mG7, mG8, mG9, mG10, mG11, mG12, mG13, mG14, mG15, mG16, mG17, mG18, mG19, mG20, mP2, mP5, mP6, mP7, mP9, mP11, mP14, mA1, mS1, mA2, mS2, mA3, mS3, mA4, mS4, mA5, mS5, mA6, mS6, mA7, mS7, mA8, mS8, mA9, mS9, mA10, mS10, mA11, mS11, mA12, mS12, mA13, mS13, mA14, mS14, zpush_v, zpush_n, gCk, gAi, gSi, gSz, gLi, gLq, ↓if_pos, ↓if_neg, isSN_f hS.1 h10 g2 g1]
theorem q_from (hv : encV v p.1) (hw : WfSt p.1) (s w : Int32) (Q : Option Value → Hp → Prop) : WPm 127 [.ref M, .int s, .int w] (mkM h0 M v pa pm fl tx ty ct wr it im sg sm lat hat sy nw os hgh pl asd lks) Q = Q (some (.int (qFrom p s w))) (mkM h0 M v pa pm fl tx ty ct wr it im sg sm lat hat sy nw os hgh pl asd lks) := by
  have hws := hw.1
  have h10 := hws.1
  have hS := hv.1
  rw [eX10_from]
  unfold qFrom
  rcases dN_cases p.1.1.1 s (by omega) with ⟨k, hk, rfl, e⟩ | ⟨g2, e⟩
  · rw [e]
    rcases dN_cases 6 w (by omega) with ⟨j, hj, rfl, e2⟩ | ⟨g, e2⟩
    · rw [e2]
      have O := fun Q => m_owner (h0 := h0) (M := M) (v := v) (pa := pa) (pm := pm) (fl := fl) (tx := tx) (ty := ty) (ct := ct) (wr := wr) (it := it) (im := im) (sg := sg) (sm := sm) (lat := lat) (hat := hat) (sy := sy) (nw := nw) (os := os) (hgh := hgh) (pl := pl) (asd := asd) (lks := lks) hS hws hj (o := some k) (fun q hq => by cases hq; exact hk) Q
      rw [eN_s] at O
      cases hq : wk p.1.1 j 10 (some k) with
      | none =>
        rw [hq, eN_n] at O
        simp (disch := (first | omega | assumption | (simp (disch := omega) only [Int32.lt_iff_toInt_lt, Int32.le_iff_toInt_le, ← Int32.toInt_inj, nI_toInt, zi_m1, zi_m2, zi_m3, zi_m9]; omega) | decide)) only [sX10_from_0, sX10_from_1, sX10_from_2, sX10_from_5, sX10_from_8, sX10_from_9, sX10_from_10, sX10_from_11, sX10_from_14, sX10_from_17, sX10_from_18, sX10_from_19, sX10_from_20, sX10_from_21, sX10_from_22, sX10_from_25i, sX10_from_25r, sX10_from_25z, sX10_from_25o, sX10_from_26, sX10_from_27, sX10_from_30, sX10_from_32, sX10_from_35, sX10_from_36, mCk, mG0, mG1, mG2, mG3, mG4, mG5, mG6, mG7, mG8, mG9, mG10, mG11, mG12, mG13, mG14, mG15, mG16, mG17, mG18, mG19, mG20, mP2, mP5, mP6, mP7, mP9, mP11, mP14, mA1, mS1, mA2, mS2, mA3, mS3, mA4, mS4, mA5, mS5, mA6, mS6, mA7, mS7, mA8, mS8, mA9, mS9, mA10, mS10, mA11, mS11, mA12, mS12, mA13, mS13, mA14, mS14, zpush_v, zpush_n, gCk, gAi, gSi, gSz, gLi, gLq, ↓if_pos, ↓if_neg, isSt_t hS.1 h10 hk, in5_t hj, O, hq, eS]
      | some q =>
        have := (wk_lt hq).1
        rw [hq, eN_s] at O
        simp (disch := (first | omega | assumption | (simp (disch := omega) only [Int32.lt_iff_toInt_lt, Int32.le_iff_toInt_le, ← Int32.toInt_inj, nI_toInt, zi_m1, zi_m2, zi_m3, zi_m9]; omega) | decide)) only [sX10_from_0, sX10_from_1, sX10_from_2, sX10_from_5, sX10_from_8, sX10_from_9, sX10_from_10, sX10_from_11, sX10_from_14, sX10_from_17, sX10_from_18, sX10_from_19, sX10_from_20, sX10_from_21, sX10_from_22, sX10_from_25i, sX10_from_25r, sX10_from_25z, sX10_from_25o, sX10_from_26, sX10_from_27, sX10_from_30, sX10_from_32, sX10_from_35, sX10_from_36, mCk, mG0, mG1, mG2, mG3, mG4, mG5, mG6, mG7, mG8, mG9, mG10, mG11, mG12, mG13, mG14, mG15, mG16, mG17, mG18, mG19, mG20, mP2, mP5, mP6, mP7, mP9, mP11, mP14, mA1, mS1, mA2, mS2, mA3, mS3, mA4, mS4, mA5, mS5, mA6, mS6, mA7, mS7, mA8, mS8, mA9, mS9, mA10, mS10, mA11, mS11, mA12, mS12, mA13, mS13, mA14, mS14, zpush_v, zpush_n, gCk, gAi, gSi, gSz, gLi, gLq, ↓if_pos, ↓if_neg, isSt_t hS.1 h10 hk, in5_t hj, O, hq, eS]
    · rw [e2]
      simp (disch := (first | omega | assumption | (simp (disch := omega) only [Int32.lt_iff_toInt_lt, Int32.le_iff_toInt_le, ← Int32.toInt_inj, nI_toInt, zi_m1, zi_m2, zi_m3, zi_m9]; omega) | decide)) only [sX10_from_0, sX10_from_1, sX10_from_2, sX10_from_5, sX10_from_8, sX10_from_9, sX10_from_10, sX10_from_11, sX10_from_14, sX10_from_17, sX10_from_18, sX10_from_19, sX10_from_20, sX10_from_21, sX10_from_22, sX10_from_25i, sX10_from_25r, sX10_from_25z, sX10_from_25o, sX10_from_26, sX10_from_27, sX10_from_30, sX10_from_32, sX10_from_35, sX10_from_36, mCk, mG0, mG1, mG2, mG3, mG4, mG5, mG6, mG7, mG8, mG9, mG10, mG11, mG12, mG13, mG14, mG15, mG16, mG17, mG18, mG19, mG20, mP2, mP5, mP6, mP7, mP9, mP11, mP14, mA1, mS1, mA2, mS2, mA3, mS3, mA4, mS4, mA5, mS5, mA6, mS6, mA7, mS7, mA8, mS8, mA9, mS9, mA10, mS10, mA11, mS11, mA12, mS12, mA13, mS13, mA14, mS14, zpush_v, zpush_n, gCk, gAi, gSi, gSz, gLi, gLq, ↓if_pos, ↓if_neg, isSt_t hS.1 h10 hk, in5_f g]
  · rw [e]
    simp (disch := (first | omega | assumption | (simp (disch := omega) only [Int32.lt_iff_toInt_lt, Int32.le_iff_toInt_le, ← Int32.toInt_inj, nI_toInt, zi_m1, zi_m2, zi_m3, zi_m9]; omega) | decide)) only [sX10_from_0, sX10_from_1, sX10_from_2, sX10_from_5, sX10_from_8, sX10_from_9, sX10_from_10, sX10_from_11, sX10_from_14, sX10_from_17, sX10_from_18, sX10_from_19, sX10_from_20, sX10_from_21, sX10_from_22, sX10_from_25i, sX10_from_25r, sX10_from_25z, sX10_from_25o, sX10_from_26, sX10_from_27, sX10_from_30, sX10_from_32, sX10_from_35, sX10_from_36, mCk, mG0, mG1, mG2, mG3, mG4, mG5, mG6, mG7, mG8, mG9, mG10, mG11, mG12, mG13, mG14, mG15, mG16, mG17, mG18, mG19, mG20, mP2, mP5, mP6, mP7, mP9, mP11, mP14, mA1, mS1, mA2, mS2, mA3, mS3, mA4, mS4, mA5, mS5, mA6, mS6, mA7, mS7, mA8, mS8, mA9, mS9, mA10, mS10, mA11, mS11, mA12, mS12, mA13, mS13, mA14, mS14, zpush_v, zpush_n, gCk, gAi, gSi, gSz, gLi, gLq, ↓if_pos, ↓if_neg, isSt_f hS.1 h10 g2]
end MC
