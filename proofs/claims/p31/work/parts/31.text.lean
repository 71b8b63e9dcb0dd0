/-! Text and Line: new objects -/
def hadd (h : Hp) (a : Nat) (e : va_E) (k : Nat) : Hp := (fun q => if q = a then some e else h.1 q, a + 1, h.2.2 + k)
theorem hnew_hadd {h : Hp} {e : va_E} {k : Nat} : hnew h e k = hadd h h.2.1 e k := rfl
theorem hadd_at {h : Hp} {a k : Nat} {e : va_E} : (hadd h a e k).1 a = some e := if_pos rfl
theorem hadd_ne {h : Hp} {a k q : Nat} {e : va_E} (hq : q ≠ a) : (hadd h a e k).1 q = h.1 q := if_neg hq
theorem hadd_sz {h : Hp} {a k : Nat} {e : va_E} : (hadd h a e k).2.1 = a + 1 := rfl
theorem hset_sz {h : Hp} {a : Nat} {e : va_E} : (hset h a e).2.1 = h.2.1 := rfl
/-- nothing lies beyond the end -/
def HpK (h : Hp) : Prop := ∀ q, h.2.1 ≤ q → h.1 q = none
theorem HpK.lt {h : Hp} {q : Nat} {e : va_E} (hk : HpK h) (hc : h.1 q = some e) : q < h.2.1 := by
  rcases Nat.lt_or_ge q h.2.1 with c | c
  · exact c
  · rw [hk q c] at hc
    cases hc
theorem HpK.set {h : Hp} {a : Nat} {e : va_E} (hk : HpK h) (ha : a < h.2.1) : HpK (hset h a e) := fun q hq => by
  have hq : h.2.1 ≤ q := hq
  rw [hset_ne (by omega)]
  exact hk q hq
theorem HpK.add {h : Hp} {a k : Nat} {e : va_E} (hk : HpK h) (ha : h.2.1 = a) : HpK (hadd h a e k) := fun q hq => by
  have hq : a + 1 ≤ q := hq
  rw [hadd_ne (by omega)]
  exact hk q (by omega)
theorem HpK.same {h h' : Hp} {lo n : Nat} (hk : HpK h) (hs : Same h h' lo n) (hl : lo + n ≤ h.2.1) : HpK h' := fun q hq => by
  rw [hs.1] at hq
  rw [hs.at (by omega)]
  exact hk q hq
/-- what lay there lies there -/
def Kp (h h' : Hp) : Prop := ∀ q e, h.1 q = some e → h'.1 q = some e
theorem Kp.rf {h : Hp} : Kp h h := fun _ _ x => x
theorem Kp.tr {a b c : Hp} (h1 : Kp a b) (h2 : Kp b c) : Kp a c := fun q e x => h2 q e (h1 q e x)
theorem Kp.of {h h' : Hp} {a : Nat} (hk : HpK h) (ha : h.2.1 = a) (hs : ∀ q, q < a → h'.1 q = h.1 q) : Kp h h' := fun q e hc => by
  have := hk.lt hc
  rw [hs q (by omega)]
  exact hc
section TX
variable {h h' : Hp}
theorem oRow.kp {a n : Nat} {f : Nat → Int32} (hr : oRow h a n f) (hs : Kp h h') : oRow h' a n f := ⟨hs _ _ hr.1, hs _ _ hr.2⟩
theorem rText.kp {t : Nat} {its : List Itm} (hr : rText h t its) (hs : Kp h h') : rText h' t its := by
  obtain ⟨kf, nf, c1, c2, c3, c4⟩ := hr
  exact ⟨kf, nf, hs _ _ c1, c2.kp hs, c3.kp hs, c4⟩
theorem rLn.kp {B q : Nat} {ln : Ln} (hr : rLn h B q ln) (hs : Kp h h') : rLn h' B q ln := by
  obtain ⟨b1, t, b2, c1, c2⟩ := hr
  exact ⟨b1, t, b2, hs _ _ c1, c2.kp hs⟩
theorem oSheet.kp {a n : Nat} {par own : Nat → Int32} (hr : oSheet h a n par own) (hs : Kp h h') : oSheet h' a n par own := ⟨hs _ _ hr.1, hr.2.1.kp hs, hr.2.2.kp hs⟩
theorem rSheet.kp {a : Nat} {S : Sh} (hr : rSheet h a S) (hs : Kp h h') : rSheet h' a S := by
  obtain ⟨par, own, hO, h2⟩ := hr
  exact ⟨par, own, hO.kp hs, h2⟩
theorem lnR.kp {B : Nat} {rf : Nat → Option Nat} {l : List Ln} (hr : lnR h B rf l) (hs : Kp h h') : lnR h' B rf l := by
  intro i x hi
  obtain ⟨q, q1, q2⟩ := hr i x hi
  exact ⟨q, q1, q2.kp hs⟩
theorem rScr.kp {B s : Nat} {st : Stt} (hr : rScr h B s st) (hs : Kp h h') : rScr h' B s st := by
  obtain ⟨rf, h1, h2, h3⟩ := hr
  exact ⟨rf, ⟨hs _ _ h1.1, hs _ _ h1.2⟩, h2.kp hs, h3.kp hs⟩
theorem anyL.kp {k : Nat} (hr : anyL h k) (hs : Kp h h') : anyL h' k := by
  obtain ⟨b, e, g, m, ht, o, ns, ny, la, sg, sy, hd, hO⟩ := hr
  exact ⟨b, e, g, m, ht, o, ns, ny, la, sg, sy, hd, hs _ _ hO.1, hO.2.1.kp hs, hO.2.2.1.kp hs, hO.2.2.2.kp hs⟩
theorem rPicA.kp {P : Nat} (hr : rPicA h P) (hs : Kp h h') : rPicA h' P := by
  obtain ⟨⟨n, g, hn, hO⟩, hK⟩ := hr
  exact ⟨⟨n, g, hn, hs _ _ hO.1, hs _ _ hO.2.1, hO.2.2.kp hs⟩, fun i hi => (hK i hi).kp hs⟩
theorem m_X5_init {a b n : Nat} (hz : h.2.1 = b) (ha : h.1 a = some (.inr (5, [.null]))) (hab : a ≠ b) (hn : n ≤ 100000) (Q : Option Value → Hp → Prop) : WPm 43 [.ref a, .int (nI n)] h Q = Q none (hset (hadd h b (.inl (0, n, .inl (fun _ => 0))) n) a (.inr (5, [.ref b]))) := by
  have e1 : ¬ nI n < 0 := by
    intro c
    have c : nI n < nI 0 := c
    simp (disch := omega) only [Int32.lt_iff_toInt_lt, nI_toInt] at c
    omega
  have e2 : (nI n).toNatClampNeg = n := by
    have : (nI n).toNatClampNeg = (nI n).toInt.toNat := rfl
    rw [this, nI_toInt (by omega)]
    omega
  rw [eX5_init]
  simp (disch := (first | omega | assumption | (simp (disch := omega) only [Int32.lt_iff_toInt_lt, Int32.le_iff_toInt_le, ← Int32.toInt_inj, nI_toInt, zi_m1, zi_m2, zi_m3, zi_m9]; omega) | decide)) only [sX5_init_0, sX5_init_1, sX5_init_4, sX5_init_5, sX5_init_6, sX5_init_9, sX5_init_10, sX5_init_13, sX5_init_14, sX5_init_16, sX5_init_19, gG5_0, gP5_0, zpush_v, zpush_n, gCk, gAi, gSi, gLi, gLq, ↓if_pos, ↓if_neg, e1, e2, hnew_hadd, hz, not_false_eq_true, true_and, hn, if_true, hadd_ne, ha]
abbrev z0 : Nat → Int32 := fun _ => 0
theorem m_X8_init {t kr nr n n1 n2 : Nat} {kf nf : Nat → Int32} (hz : h.2.1 = t + 1) (ht : h.1 t = some (.inr (8, [.int 0, .null, .null]))) (hk : oRow h kr n1 kf) (hn : oRow h nr n2 nf) (hkt : kr + 2 ≤ t) (hnt : nr + 2 ≤ t) (h1 : n ≤ n1) (h2 : n ≤ n2) (h3 : n1 ≤ 100000) (h4 : n2 ≤ 100000) (hK : HpK h) :
    ∃ h' kf' nf', h'.2.1 = t + 5 ∧ h'.2.2 = h.2.2 + 2 + 2 * n ∧ HpK h' ∧ (∀ q, q < t → h'.1 q = h.1 q) ∧ h'.1 t = some (.inr (8, [.int (nI n), .ref (t + 1), .ref (t + 3)])) ∧ oRow h' (t + 1) n kf' ∧ oRow h' (t + 3) n nf' ∧ (∀ i, i < n → kf' i = kf i ∧ nf' i = nf i) ∧
      ∀ Q : Option Value → Hp → Prop, WPm 68 [.ref t, .ref kr, .ref nr, .int (nI n)] h Q = Q none h' := by
  obtain ⟨g1, e1⟩ : ∃ g, g = hset h t (.inr (8, [.int (nI n), .null, .null])) := ⟨_, rfl⟩
  obtain ⟨g2, e2⟩ : ∃ g, g = hadd g1 (t + 1) (.inr (5, [.null])) 1 := ⟨_, rfl⟩
  obtain ⟨g3, e3⟩ : ∃ g, g = hset (hadd g2 (t + 2) (.inl (0, n, .inl z0)) n) (t + 1) (.inr (5, [.ref (t + 2)])) := ⟨_, rfl⟩
  obtain ⟨g4, e4⟩ : ∃ g, g = hset g3 t (.inr (8, [.int (nI n), .ref (t + 1), .null])) := ⟨_, rfl⟩
  obtain ⟨g5, e5⟩ : ∃ g, g = hadd g4 (t + 3) (.inr (5, [.null])) 1 := ⟨_, rfl⟩
  obtain ⟨g6, e6⟩ : ∃ g, g = hset (hadd g5 (t + 4) (.inl (0, n, .inl z0)) n) (t + 3) (.inr (5, [.ref (t + 4)])) := ⟨_, rfl⟩
  obtain ⟨g7, e7⟩ : ∃ g, g = hset g6 t (.inr (8, [.int (nI n), .ref (t + 1), .ref (t + 3)])) := ⟨_, rfl⟩
  obtain ⟨g8, e8⟩ : ∃ g, g = hset g7 (t + 1 + 1) (.inl (0, n, .inl (cpf z0 kf 0 n))) := ⟨_, rfl⟩
  obtain ⟨g9, e9⟩ : ∃ g, g = hset g8 (t + 3 + 1) (.inl (0, n, .inl (cpf z0 nf 0 n))) := ⟨_, rfl⟩
  have s1 : g1.2.1 = t + 1 := by rw [e1]; exact hz
  have s2 : g2.2.1 = t + 2 := by rw [e2]; rfl
  have s3 : g3.2.1 = t + 3 := by rw [e3]; rfl
  have s4 : g4.2.1 = t + 3 := by rw [e4]; exact s3
  have s5 : g5.2.1 = t + 4 := by rw [e5]; rfl
  have s6 : g6.2.1 = t + 5 := by rw [e6]; rfl
  have s7 : g7.2.1 = t + 5 := by rw [e7]; exact s6
  have s8 : g8.2.1 = t + 5 := by rw [e8]; exact s7
  have s9 : g9.2.1 = t + 5 := by rw [e9]; exact s8
  have k9 : HpK g9 := by
    have k1 : HpK g1 := by rw [e1]; exact hK.set (by omega)
    have k2 : HpK g2 := by rw [e2]; exact k1.add s1
    have k3 : HpK g3 := by rw [e3]; exact (k2.add s2).set (by rw [hadd_sz]; omega)
    have k4 : HpK g4 := by rw [e4]; exact k3.set (by omega)
    have k5 : HpK g5 := by rw [e5]; exact k4.add s4
    have k6 : HpK g6 := by rw [e6]; exact (k5.add s5).set (by rw [hadd_sz]; omega)
    have k7 : HpK g7 := by rw [e7]; exact k6.set (by omega)
    have k8 : HpK g8 := by rw [e8]; exact k7.set (by omega)
    rw [e9]; exact k8.set (by omega)
  have c1 : g2.1 (t + 1) = some (.inr (5, [.null])) := by rw [e2, hadd_at]
  have c2 : g3.1 t = some (.inr (8, [.int (nI n), .null, .null])) := by rw [e3, hset_ne (by omega), hadd_ne (by omega), e2, hadd_ne (by omega), e1, hset_same]
  have c3 : g5.1 (t + 3) = some (.inr (5, [.null])) := by rw [e5, hadd_at]
  have c4 : g6.1 t = some (.inr (8, [.int (nI n), .ref (t + 1), .null])) := by rw [e6, hset_ne (by omega), hadd_ne (by omega), e5, hadd_ne (by omega), e4, hset_same]
  have c5 : g7.1 t = some (.inr (8, [.int (nI n), .ref (t + 1), .ref (t + 3)])) := by rw [e7, hset_same]
  have low : ∀ q, q < t → g7.1 q = h.1 q := by
    intro q hq
    rw [e7, hset_ne (by omega), e6, hset_ne (by omega), hadd_ne (by omega), e5, hadd_ne (by omega), e4, hset_ne (by omega), e3, hset_ne (by omega), hadd_ne (by omega), e2, hadd_ne (by omega), e1, hset_ne (by omega)]
  have r1 : oRow g7 (t + 1) n z0 := by
    constructor
    · rw [e7, hset_ne (by omega), e6, hset_ne (by omega), hadd_ne (by omega), e5, hadd_ne (by omega), e4, hset_ne (by omega), e3, hset_same]
    · rw [e7, hset_ne (by omega), e6, hset_ne (by omega), hadd_ne (by omega), e5, hadd_ne (by omega), e4, hset_ne (by omega), e3, hset_ne (by omega), hadd_at]
  have r2 : oRow g7 (t + 3) n z0 := by
    constructor
    · rw [e7, hset_ne (by omega), e6, hset_same]
    · rw [e7, hset_ne (by omega), e6, hset_ne (by omega), hadd_at]
  have hk7 : oRow g7 kr n1 kf := ⟨by rw [low _ (by omega)]; exact hk.1, by rw [low _ (by omega)]; exact hk.2⟩
  have hn7 : oRow g7 nr n2 nf := ⟨by rw [low _ (by omega)]; exact hn.1, by rw [low _ (by omega)]; exact hn.2⟩
  have i1 := m_X5_init (h := g2) s2 c1 (by omega) (show n ≤ 100000 by omega)
  have i2 := m_X5_init (h := g5) s5 c3 (by omega) (show n ≤ 100000 by omega)
  have i3 := m_X5_copy r1 hk7 h1 h3 (by omega) (by omega)
  have hn8 : oRow g8 nr n2 nf := by rw [e8]; exact hn7.off (Same.set (lo := t + 2) (n := 1) (by omega) (by omega)) (by omega)
  have r28 : oRow g8 (t + 3) n z0 := by rw [e8]; exact r2.off (Same.set (lo := t + 2) (n := 1) (by omega) (by omega)) (by omega)
  have r18 : oRow g8 (t + 1) n (cpf z0 kf 0 n) := by rw [e8]; exact r1.set
  have i4 := m_X5_copy r28 hn8 h2 h4 (by omega) (by omega)
  have c8 : g8.1 t = some (.inr (8, [.int (nI n), .ref (t + 1), .ref (t + 3)])) := by rw [e8, hset_ne (by omega)]; exact c5
  refine ⟨g9, cpf z0 kf 0 n, cpf z0 nf 0 n, s9, by rw [e9, e8, e7, e6, e5, e4, e3, e2, e1]; show h.2.2 + 1 + n + 1 + n = _; omega, k9, fun q hq => ?_, ?_, ?_, ?_, fun i hi => ⟨cpf_in (by omega), cpf_in (by omega)⟩, fun Q => ?_⟩
  · rw [e9, hset_ne (by omega), e8, hset_ne (by omega)]
    exact low q hq
  · rw [e9, hset_ne (by omega)]
    exact c8
  · rw [e9]
    exact r18.off (Same.set (lo := t + 4) (n := 1) (by omega) (by omega)) (by omega)
  · rw [e9]
    exact r28.set
  · rw [eX8_init]
    simp (disch := (first | omega | assumption | (simp (disch := omega) only [Int32.lt_iff_toInt_lt, Int32.le_iff_toInt_le, ← Int32.toInt_inj, nI_toInt, zi_m1, zi_m2, zi_m3, zi_m9]; omega) | decide)) only [sX8_init_0, sX8_init_1, sX8_init_4, sX8_init_5, sX8_init_6, sX8_init_9, sX8_init_10, sX8_init_13, sX8_init_13i, sX8_init_14, sX8_init_15, sX8_init_18, sX8_init_21, sX8_init_22, sX8_init_25, sX8_init_25i, sX8_init_26, sX8_init_27, sX8_init_30, sX8_init_33, sX8_init_34, sX8_init_37, sX8_init_37n, sX8_init_38, sX8_init_41, sX8_init_42, sX8_init_45, sX8_init_45n, sX8_init_46, sX8_init_49, gG8_0, gG8_1, gG8_2, gP8_0, gP8_1, gP8_2, zpush_v, zpush_n, gCk, gAi, gSi, gLi, gLq, ↓if_pos, ↓if_neg, ht, ← e1, hnew_hadd, s1, ← e2, i1, ← e3, c2, ← e4, s4, ← e5, i2, ← e6, c4, ← e7, c5, r1.1, i3, ← e8, c8, r28.1, i4, ← e9]
end TX
section LN
variable {h : Hp}
theorem hset_hadd {a k : Nat} {e e' : va_E} : hset (hadd h a e k) a e' = hadd h a e' k := by
  unfold hset hadd
  congr 1
  funext q
  by_cases hq : q = a <;> simp [hq]
theorem m_X1_init {q t : Nat} {a b c d a' b' c' d' : Int32} {z : Value} (hq : h.1 q = some (.inr (1, [.int a', .int b', .int c', .int d', z]))) (Q : Option Value → Hp → Prop) : WPm 4 [.ref q, .int a, .int b, .int c, .int d, .ref t] h Q = Q none (hset h q (.inr (1, [.int a, .int b, .int c, .int d, .ref t]))) := by
  rw [eX1_init]
  simp (disch := (first | omega | assumption | (simp (disch := omega) only [Int32.lt_iff_toInt_lt, Int32.le_iff_toInt_le, ← Int32.toInt_inj, nI_toInt, zi_m1, zi_m2, zi_m3, zi_m9]; omega) | decide)) only [sX1_init_0, sX1_init_1, sX1_init_4, sX1_init_5, sX1_init_6, sX1_init_9, sX1_init_10, sX1_init_11, sX1_init_14, sX1_init_15, sX1_init_16, sX1_init_19, sX1_init_20, sX1_init_22, sX1_init_25, sX1_init_26, sX1_init_26n, sX1_init_28, sX1_init_31, gG1_0, gG1_1, gG1_2, gG1_3, gG1_4, gP1_0, gP1_1, gP1_2, gP1_3, gP1_4, zpush_v, zpush_n, gCk, gAi, gSi, gLi, gLq, ↓if_pos, ↓if_neg, hq, hset_same, hset_hset]
abbrev e5 : va_E := .inr (1, [.int 0, .int 0, .int 0, .int 0, .null])
theorem m_X1_withStyle {l q t : Nat} {a b c d x : Int32} (hz : h.2.1 = q) (hl : h.1 l = some (.inr (1, [.int a, .int b, .int c, .int d, .ref t]))) (hlq : l ≠ q) (Q : Option Value → Hp → Prop) : WPm 5 [.ref l, .int x] h Q = Q (some (.ref q)) (hadd h q (.inr (1, [.int a, .int b, .int x, .int d, .ref t])) 5) := by
  have i := m_X1_init (h := hadd h q e5 5) (q := q) (t := t) (a := a) (b := b) (c := x) (d := d) hadd_at
  rw [eX1_withStyle]
  simp (disch := (first | omega | assumption | (simp (disch := omega) only [Int32.lt_iff_toInt_lt, Int32.le_iff_toInt_le, ← Int32.toInt_inj, nI_toInt, zi_m1, zi_m2, zi_m3, zi_m9]; omega) | decide)) only [sX1_withStyle_0, sX1_withStyle_3, sX1_withStyle_3i, sX1_withStyle_4, sX1_withStyle_5, sX1_withStyle_8, sX1_withStyle_9, sX1_withStyle_12, sX1_withStyle_13, sX1_withStyle_14, sX1_withStyle_17, sX1_withStyle_18, sX1_withStyle_21, sX1_withStyle_24, sX1_withStyle_24n, gG1_0, gG1_1, gG1_2, gG1_3, gG1_4, gP1_0, gP1_1, gP1_2, gP1_3, gP1_4, zpush_v, zpush_n, gCk, gAi, gSi, gLi, gLq, ↓if_pos, ↓if_neg, hnew_hadd, hz, hadd_ne, hl, i, hset_hadd]
theorem m_X1_withMargin {l q t : Nat} {a b c d x : Int32} (hz : h.2.1 = q) (hl : h.1 l = some (.inr (1, [.int a, .int b, .int c, .int d, .ref t]))) (hlq : l ≠ q) (Q : Option Value → Hp → Prop) : WPm 6 [.ref l, .int x] h Q = Q (some (.ref q)) (hadd h q (.inr (1, [.int a, .int b, .int c, .int x, .ref t])) 5) := by
  have i := m_X1_init (h := hadd h q e5 5) (q := q) (t := t) (a := a) (b := b) (c := c) (d := x) hadd_at
  rw [eX1_withMargin]
  simp (disch := (first | omega | assumption | (simp (disch := omega) only [Int32.lt_iff_toInt_lt, Int32.le_iff_toInt_le, ← Int32.toInt_inj, nI_toInt, zi_m1, zi_m2, zi_m3, zi_m9]; omega) | decide)) only [sX1_withMargin_0, sX1_withMargin_3, sX1_withMargin_3i, sX1_withMargin_4, sX1_withMargin_5, sX1_withMargin_8, sX1_withMargin_9, sX1_withMargin_12, sX1_withMargin_13, sX1_withMargin_16, sX1_withMargin_17, sX1_withMargin_18, sX1_withMargin_21, sX1_withMargin_24, sX1_withMargin_24n, gG1_0, gG1_1, gG1_2, gG1_3, gG1_4, gP1_0, gP1_1, gP1_2, gP1_3, gP1_4, zpush_v, zpush_n, gCk, gAi, gSi, gLi, gLq, ↓if_pos, ↓if_neg, hnew_hadd, hz, hadd_ne, hl, i, hset_hadd]
theorem m_X1_withText {l q t t' : Nat} {a b c d : Int32} (hz : h.2.1 = q) (hl : h.1 l = some (.inr (1, [.int a, .int b, .int c, .int d, .ref t]))) (hlq : l ≠ q) (Q : Option Value → Hp → Prop) : WPm 7 [.ref l, .ref t'] h Q = Q (some (.ref q)) (hadd h q (.inr (1, [.int a, .int b, .int c, .int d, .ref t'])) 5) := by
  have i := m_X1_init (h := hadd h q e5 5) (q := q) (t := t') (a := a) (b := b) (c := c) (d := d) hadd_at
  rw [eX1_withText]
  simp (disch := (first | omega | assumption | (simp (disch := omega) only [Int32.lt_iff_toInt_lt, Int32.le_iff_toInt_le, ← Int32.toInt_inj, nI_toInt, zi_m1, zi_m2, zi_m3, zi_m9]; omega) | decide)) only [sX1_withText_0, sX1_withText_3, sX1_withText_3i, sX1_withText_4, sX1_withText_5, sX1_withText_8, sX1_withText_9, sX1_withText_12, sX1_withText_13, sX1_withText_16, sX1_withText_17, sX1_withText_20, sX1_withText_20n, sX1_withText_21, sX1_withText_24, sX1_withText_24n, gG1_0, gG1_1, gG1_2, gG1_3, gG1_4, gP1_0, gP1_1, gP1_2, gP1_3, gP1_4, zpush_v, zpush_n, gCk, gAi, gSi, gLi, gLq, ↓if_pos, ↓if_neg, hnew_hadd, hz, hadd_ne, hl, i, hset_hadd]
theorem m_X1_movedBy {l q t : Nat} {a b c d x : Int32} (hz : h.2.1 = q) (hl : h.1 l = some (.inr (1, [.int a, .int b, .int c, .int d, .ref t]))) (hlq : l ≠ q) (Q : Option Value → Hp → Prop) : WPm 8 [.ref l, .int x] h Q = Q (some (.ref q)) (hadd h q (.inr (1, [.int (a + x), .int (b + x), .int c, .int d, .ref t])) 5) := by
  have i := m_X1_init (h := hadd h q e5 5) (q := q) (t := t) (a := a + x) (b := b + x) (c := c) (d := d) hadd_at
  rw [eX1_movedBy]
  simp (disch := (first | omega | assumption | (simp (disch := omega) only [Int32.lt_iff_toInt_lt, Int32.le_iff_toInt_le, ← Int32.toInt_inj, nI_toInt, zi_m1, zi_m2, zi_m3, zi_m9]; omega) | decide)) only [sX1_movedBy_0, sX1_movedBy_3, sX1_movedBy_3i, sX1_movedBy_4, sX1_movedBy_5, sX1_movedBy_8, sX1_movedBy_9, sX1_movedBy_10, sX1_movedBy_11, sX1_movedBy_14, sX1_movedBy_15, sX1_movedBy_16, sX1_movedBy_17, sX1_movedBy_20, sX1_movedBy_21, sX1_movedBy_24, sX1_movedBy_25, sX1_movedBy_28, sX1_movedBy_31, sX1_movedBy_31n, gG1_0, gG1_1, gG1_2, gG1_3, gG1_4, gP1_0, gP1_1, gP1_2, gP1_3, gP1_4, zpush_v, zpush_n, gCk, gAi, gSi, gLi, gLq, ↓if_pos, ↓if_neg, hnew_hadd, hz, hadd_ne, hl, i, hset_hadd]
end LN
