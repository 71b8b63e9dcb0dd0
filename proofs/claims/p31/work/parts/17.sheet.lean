/-! Sheet -/
def eN : Option Nat → Int32
  | none => -1
  | some k => nI k
theorem eN_s (k : Nat) : eN (some k) = nI k := rfl
theorem eN_n : eN none = -1 := rfl
theorem nI_nm1 {k : Nat} (hk : k < 2 ^ 31) : ¬ nI k = -1 := by
  intro q
  have := congrArg Int32.toInt q
  rw [nI_toInt hk, zi_m1] at this
  omega
def oSheet (h : Hp) (a n : Nat) (par own : Nat → Int32) : Prop := h.1 a = some (.inr (7, [.int (nI n), .ref (a + 1), .ref (a + 3)])) ∧ oRow h (a + 1) 10 par ∧ oRow h (a + 3) 60 own
theorem oSheet.off {h h' : Hp} {a n lo k : Nat} {par own : Nat → Int32} (hr : oSheet h a n par own) (hs : Same h h' lo k) (hq : a + 5 ≤ lo ∨ lo + k ≤ a) : oSheet h' a n par own :=
  ⟨by rw [hs.at (by omega)]; exact hr.1, hr.2.1.off hs (by omega), hr.2.2.off hs (by omega)⟩
theorem oSheet.setP {h : Hp} {a n : Nat} {par own g : Nat → Int32} (hr : oSheet h a n par own) : oSheet (hset h (a + 2) (.inl (0, 10, .inl g))) a n g own :=
  ⟨by rw [hset_ne (by omega)]; exact hr.1, hr.2.1.set, hr.2.2.off (Same.set (lo := a + 2) (n := 1) (by omega) (by omega)) (by omega)⟩
theorem oSheet.setO {h : Hp} {a n : Nat} {par own g : Nat → Int32} (hr : oSheet h a n par own) : oSheet (hset h (a + 4) (.inl (0, 60, .inl g))) a n par g :=
  ⟨by rw [hset_ne (by omega)]; exact hr.1, hr.2.1.off (Same.set (lo := a + 4) (n := 1) (by omega) (by omega)) (by omega), hr.2.2.set⟩
theorem oSheet.setN {h : Hp} {a n m : Nat} {par own : Nat → Int32} (hr : oSheet h a n par own) : oSheet (hset h a (.inr (7, [.int (nI m), .ref (a + 1), .ref (a + 3)]))) a m par own :=
  ⟨hset_same, hr.2.1.off (Same.set (lo := a) (n := 1) (by omega) (by omega)) (by omega), hr.2.2.off (Same.set (lo := a) (n := 1) (by omega) (by omega)) (by omega)⟩
section SH
variable {h : Hp} {a n : Nat} {par own : Nat → Int32}
theorem m_X7_hasT (hS : oSheet h a n par own) {s : Nat} (hs : s < n) (hn : n ≤ 10) (Q : Option Value → Hp → Prop) : WPm 56 [.ref a, .int (nI s)] h Q = Q (some (.int (nI 1))) h := by
  have h1 := hS.1
  rw [eX7_has]
  simp (disch := (first | omega | assumption | (simp (disch := omega) only [Int32.lt_iff_toInt_lt, Int32.le_iff_toInt_le, ← Int32.toInt_inj, nI_toInt, zi_m1, zi_m2, zi_m3, zi_m9]; omega) | decide)) only [sX7_has_0, sX7_has_1, sX7_has_4, sX7_has_5, sX7_has_6, sX7_has_9, sX7_has_12, sX7_has_13, sX7_has_16, sX7_has_17, gG7_0, gG7_1, gG7_2, gP7_0, gP7_1, gP7_2, zpush_v, zpush_n, gCk, gAi, gSi, gLi, gLq, ↓if_pos, ↓if_neg, h1]
theorem m_X7_hasF (hS : oSheet h a n par own) {x : Int32} (hs : x < nI 0 ∨ nI n ≤ x) (hn : n ≤ 10) (Q : Option Value → Hp → Prop) : WPm 56 [.ref a, .int x] h Q = Q (some (.int (nI 0))) h := by
  have h1 := hS.1
  rw [eX7_has]
  by_cases c1 : x < nI 0
  · simp (disch := (first | omega | assumption | (simp (disch := omega) only [Int32.lt_iff_toInt_lt, Int32.le_iff_toInt_le, ← Int32.toInt_inj, nI_toInt, zi_m1, zi_m2, zi_m3, zi_m9]; omega) | decide)) only [sX7_has_0, sX7_has_1, sX7_has_4, sX7_has_5, sX7_has_6, sX7_has_9, sX7_has_12, sX7_has_13, sX7_has_16, sX7_has_17, gG7_0, gG7_1, gG7_2, gP7_0, gP7_1, gP7_2, zpush_v, zpush_n, gCk, gAi, gSi, gLi, gLq, ↓if_pos, ↓if_neg, h1]
  · have c2 : nI n ≤ x := hs.resolve_left c1
    simp (disch := (first | omega | assumption | (simp (disch := omega) only [Int32.lt_iff_toInt_lt, Int32.le_iff_toInt_le, ← Int32.toInt_inj, nI_toInt, zi_m1, zi_m2, zi_m3, zi_m9]; omega) | decide)) only [sX7_has_0, sX7_has_1, sX7_has_4, sX7_has_5, sX7_has_6, sX7_has_9, sX7_has_12, sX7_has_13, sX7_has_16, sX7_has_17, gG7_0, gG7_1, gG7_2, gP7_0, gP7_1, gP7_2, zpush_v, zpush_n, gCk, gAi, gSi, gLi, gLq, ↓if_pos, ↓if_neg, h1]
theorem m_X7_honS (hS : oSheet h a n par own) {s : Nat} (hs : s < n) (hn : n ≤ 10) (Q : Option Value → Hp → Prop) : WPm 57 [.ref a, .int (nI s)] h Q = Q (some (.int (nI 1))) h := by
  have h1 := hS.1
  rw [eX7_hasOrNothing]
  simp (disch := (first | omega | assumption | (simp (disch := omega) only [Int32.lt_iff_toInt_lt, Int32.le_iff_toInt_le, ← Int32.toInt_inj, nI_toInt, zi_m1, zi_m2, zi_m3, zi_m9]; omega) | decide)) only [sX7_hasOrNothing_0, sX7_hasOrNothing_1, sX7_hasOrNothing_2, sX7_hasOrNothing_5, sX7_hasOrNothing_6, sX7_hasOrNothing_7, sX7_hasOrNothing_10, sX7_hasOrNothing_13, sX7_hasOrNothing_14, sX7_hasOrNothing_17, sX7_hasOrNothing_18, gG7_0, gG7_1, gG7_2, gP7_0, gP7_1, gP7_2, zpush_v, zpush_n, gCk, gAi, gSi, gLi, gLq, ↓if_pos, ↓if_neg, h1, m_X7_hasT hS hs hn]
theorem m_X7_honN (hS : oSheet h a n par own) (Q : Option Value → Hp → Prop) : WPm 57 [.ref a, .int (-1)] h Q = Q (some (.int (nI 1))) h := by
  have h1 := hS.1
  rw [eX7_hasOrNothing]
  simp (disch := (first | omega | assumption | (simp (disch := omega) only [Int32.lt_iff_toInt_lt, Int32.le_iff_toInt_le, ← Int32.toInt_inj, nI_toInt, zi_m1, zi_m2, zi_m3, zi_m9]; omega) | decide)) only [sX7_hasOrNothing_0, sX7_hasOrNothing_1, sX7_hasOrNothing_2, sX7_hasOrNothing_5, sX7_hasOrNothing_6, sX7_hasOrNothing_7, sX7_hasOrNothing_10, sX7_hasOrNothing_13, sX7_hasOrNothing_14, sX7_hasOrNothing_17, sX7_hasOrNothing_18, gG7_0, gG7_1, gG7_2, gP7_0, gP7_1, gP7_2, zpush_v, zpush_n, gCk, gAi, gSi, gLi, gLq, ↓if_pos, ↓if_neg, h1]
theorem m_X7_honF (hS : oSheet h a n par own) {x : Int32} (hs : x < nI 0 ∨ nI n ≤ x) (hx : ¬ x = -1) (hn : n ≤ 10) (Q : Option Value → Hp → Prop) : WPm 57 [.ref a, .int x] h Q = Q (some (.int (nI 0))) h := by
  have h1 := hS.1
  rw [eX7_hasOrNothing]
  simp (disch := (first | omega | assumption | (simp (disch := omega) only [Int32.lt_iff_toInt_lt, Int32.le_iff_toInt_le, ← Int32.toInt_inj, nI_toInt, zi_m1, zi_m2, zi_m3, zi_m9]; omega) | decide)) only [sX7_hasOrNothing_0, sX7_hasOrNothing_1, sX7_hasOrNothing_2, sX7_hasOrNothing_5, sX7_hasOrNothing_6, sX7_hasOrNothing_7, sX7_hasOrNothing_10, sX7_hasOrNothing_13, sX7_hasOrNothing_14, sX7_hasOrNothing_17, sX7_hasOrNothing_18, gG7_0, gG7_1, gG7_2, gP7_0, gP7_1, gP7_2, zpush_v, zpush_n, gCk, gAi, gSi, gLi, gLq, ↓if_pos, ↓if_neg, h1, m_X7_hasF hS hs hn]
theorem m_X7_ownValue (hS : oSheet h a n par own) {s p : Nat} (hs : s < 10) (hp : p < 6) (Q : Option Value → Hp → Prop) : WPm 60 [.ref a, .int (nI s), .int (nI p)] h Q = Q (some (.int (own (s * 6 + p)))) h := by
  have h1 := hS.1
  have h2 := hS.2.2.1
  rw [eX7_ownValue]
  simp (disch := (first | omega | assumption | (simp (disch := omega) only [Int32.lt_iff_toInt_lt, Int32.le_iff_toInt_le, ← Int32.toInt_inj, nI_toInt, zi_m1, zi_m2, zi_m3, zi_m9]; omega) | decide)) only [sX7_ownValue_0, sX7_ownValue_1, sX7_ownValue_4, sX7_ownValue_5, sX7_ownValue_7, sX7_ownValue_8, sX7_ownValue_9, sX7_ownValue_10, sX7_ownValue_13, gG7_0, gG7_1, gG7_2, gP7_0, gP7_1, gP7_2, gG5_0, gP5_0, zpush_v, zpush_n, gCk, gAi, gSi, gLi, gLq, ↓if_pos, ↓if_neg, h1, h2, nI_mul, nI_add, m_X5_get hS.2.2]
theorem m_X7_setOwnValue (hS : oSheet h a n par own) {s p : Nat} {x : Int32} (hs : s < 10) (hp : p < 6) (Q : Option Value → Hp → Prop) : WPm 61 [.ref a, .int (nI s), .int (nI p), .int x] h Q = Q none (hset h (a + 4) (.inl (0, 60, .inl (upd own (s * 6 + p) x)))) := by
  have h1 := hS.1
  have h2 := hS.2.2.1
  rw [eX7_setOwnValue]
  simp (disch := (first | omega | assumption | (simp (disch := omega) only [Int32.lt_iff_toInt_lt, Int32.le_iff_toInt_le, ← Int32.toInt_inj, nI_toInt, zi_m1, zi_m2, zi_m3, zi_m9]; omega) | decide)) only [sX7_setOwnValue_0, sX7_setOwnValue_1, sX7_setOwnValue_4, sX7_setOwnValue_5, sX7_setOwnValue_7, sX7_setOwnValue_8, sX7_setOwnValue_9, sX7_setOwnValue_10, sX7_setOwnValue_11, sX7_setOwnValue_14, gG7_0, gG7_1, gG7_2, gP7_0, gP7_1, gP7_2, gG5_0, gP5_0, zpush_v, zpush_n, gCk, gAi, gSi, gLi, gLq, ↓if_pos, ↓if_neg, h1, h2, nI_mul, nI_add, m_X5_set hS.2.2]
end SH
/-! the mathematical sheet: how many styles, their parents, their own values -/
abbrev Sh : Type := Nat × (Nat → Option Nat) × (Nat → Nat → Option Nat)
def wk (S : Sh) (p : Nat) : Nat → Option Nat → Option Nat
  | 0, _ => none
  | _ + 1, none => none
  | k + 1, some s => if s < S.1 then (match S.2.2 s p with
    | some _ => some s
    | none => wk S p k (S.2.1 s)) else none
def basicN (p : Nat) : Nat := [20, 7, 1, 0, 0, 10].getD p 0
def valS (S : Sh) (p : Nat) (o : Option Nat) : Nat := match wk S p 10 o with
  | some q => (S.2.2 q p).getD 0
  | none => basicN p
/-- the sheet at a stands for S -/
def rSheet (h : Hp) (a : Nat) (S : Sh) : Prop := ∃ par own, oSheet h a S.1 par own ∧ (∀ s, s < S.1 → par s = eN (S.2.1 s)) ∧ ∀ s, s < S.1 → ∀ p, p < 6 → own (s * 6 + p) = eN (S.2.2 s p)
def loP (p : Nat) : Nat := [1, 0, 0, 0, 0, 0].getD p 0
def hiP (p : Nat) : Nat := [99, 7, 7, 1, 2, 200].getD p 0
/-- the n-th of the parents of parents -/
def anc (S : Sh) : Nat → Option Nat → Option Nat
  | 0, o => o
  | k + 1, o => anc S k (o.bind S.2.1)
def WfS (S : Sh) : Prop := S.1 ≤ 10 ∧ (∀ s, s < S.1 → ∀ q, S.2.1 s = some q → q < S.1) ∧ (∀ s, s < S.1 → ∃ k, anc S k (some s) = none) ∧ ∀ s, s < S.1 → ∀ p, p < 6 → ∀ v, S.2.2 s p = some v → loP p ≤ v ∧ v ≤ hiP p
def eS : Option Nat → Int32
  | none => -9
  | some k => nI k
/-- a style that a tag names, or none -/
def okO (o : Option Nat) : Prop := ∀ s, o = some s → s < 10000
theorem hiP_le (p : Nat) : hiP p ≤ 200 := by
  unfold hiP
  match p with
  | 0 => decide
  | 1 => decide
  | 2 => decide
  | 3 => decide
  | 4 => decide
  | 5 => decide
  | k + 6 => simp
section SH2
variable {h : Hp} {a : Nat} {S : Sh}
theorem l_X7_sourceOf (hS : rSheet h a S) (hw : WfS S) {p : Nat} (hp : p < 6) {x : Int32} (Q : Option Value → Hp → Prop) : ∀ (k i : Nat) (o : Option Nat), k + i = 10 → okO o →
    WP 62 5 [some (.ref a), some (.int x), some (.int (nI p)), some (.int (eN o)), some (.int (nI i))] [] h Q = Q (some (.int (eS (wk S p k o)))) h := by
  obtain ⟨par, own, hO, hpar, hown⟩ := hS
  have h1 := hO.1
  have h2 := hO.2.1.1
  have h3 := hO.2.2.1
  obtain ⟨hn, hpn, -, hran⟩ := hw
  intro k
  induction k with
  | zero =>
    intro i o hi ho
    simp (disch := (first | omega | assumption | (simp (disch := omega) only [Int32.lt_iff_toInt_lt, Int32.le_iff_toInt_le, ← Int32.toInt_inj, nI_toInt, zi_m1, zi_m2, zi_m3, zi_m9]; omega) | decide)) only [sX7_sourceOf_0, sX7_sourceOf_1i, sX7_sourceOf_1r, sX7_sourceOf_1z, sX7_sourceOf_1o, sX7_sourceOf_2, sX7_sourceOf_3i, sX7_sourceOf_3r, sX7_sourceOf_3z, sX7_sourceOf_3o, sX7_sourceOf_5, sX7_sourceOf_7, sX7_sourceOf_9, sX7_sourceOf_12, sX7_sourceOf_13, sX7_sourceOf_16, sX7_sourceOf_17, sX7_sourceOf_18, sX7_sourceOf_21, sX7_sourceOf_24, sX7_sourceOf_25, sX7_sourceOf_28, sX7_sourceOf_29, sX7_sourceOf_31, sX7_sourceOf_32, sX7_sourceOf_33, sX7_sourceOf_34, sX7_sourceOf_37, sX7_sourceOf_38, sX7_sourceOf_41, sX7_sourceOf_42, sX7_sourceOf_43, sX7_sourceOf_44, sX7_sourceOf_47, sX7_sourceOf_48, sX7_sourceOf_51i, sX7_sourceOf_51r, sX7_sourceOf_51z, sX7_sourceOf_51o, sX7_sourceOf_52i, sX7_sourceOf_52r, sX7_sourceOf_52z, sX7_sourceOf_52o, sX7_sourceOf_55, sX7_sourceOf_58, sX7_sourceOf_60, gG7_0, gG7_1, gG7_2, gP7_0, gP7_1, gP7_2, gG5_0, gP5_0, zpush_v, zpush_n, gCk, gAi, gSi, gLi, gLq, ↓if_pos, ↓if_neg]
    rfl
  | succ k ih =>
    intro i o hi ho
    cases o with
    | none =>
      simp (disch := (first | omega | assumption | (simp (disch := omega) only [Int32.lt_iff_toInt_lt, Int32.le_iff_toInt_le, ← Int32.toInt_inj, nI_toInt, zi_m1, zi_m2, zi_m3, zi_m9]; omega) | decide)) only [sX7_sourceOf_0, sX7_sourceOf_1i, sX7_sourceOf_1r, sX7_sourceOf_1z, sX7_sourceOf_1o, sX7_sourceOf_2, sX7_sourceOf_3i, sX7_sourceOf_3r, sX7_sourceOf_3z, sX7_sourceOf_3o, sX7_sourceOf_5, sX7_sourceOf_7, sX7_sourceOf_9, sX7_sourceOf_12, sX7_sourceOf_13, sX7_sourceOf_16, sX7_sourceOf_17, sX7_sourceOf_18, sX7_sourceOf_21, sX7_sourceOf_24, sX7_sourceOf_25, sX7_sourceOf_28, sX7_sourceOf_29, sX7_sourceOf_31, sX7_sourceOf_32, sX7_sourceOf_33, sX7_sourceOf_34, sX7_sourceOf_37, sX7_sourceOf_38, sX7_sourceOf_41, sX7_sourceOf_42, sX7_sourceOf_43, sX7_sourceOf_44, sX7_sourceOf_47, sX7_sourceOf_48, sX7_sourceOf_51i, sX7_sourceOf_51r, sX7_sourceOf_51z, sX7_sourceOf_51o, sX7_sourceOf_52i, sX7_sourceOf_52r, sX7_sourceOf_52z, sX7_sourceOf_52o, sX7_sourceOf_55, sX7_sourceOf_58, sX7_sourceOf_60, gG7_0, gG7_1, gG7_2, gP7_0, gP7_1, gP7_2, gG5_0, gP5_0, zpush_v, zpush_n, gCk, gAi, gSi, gLi, gLq, ↓if_pos, ↓if_neg, eN_n]
      rfl
    | some s =>
      have hs := ho s rfl
      by_cases hsn : s < S.1
      · have e1 := hown s hsn p hp
        have e2 := hpar s hsn
        cases hv : S.2.2 s p with
        | some v =>
          rw [hv, eN_s] at e1
          have hvr := hran s hsn p hp v hv
          have := hiP_le p
          simp (disch := (first | omega | assumption | (simp (disch := omega) only [Int32.lt_iff_toInt_lt, Int32.le_iff_toInt_le, ← Int32.toInt_inj, nI_toInt, zi_m1, zi_m2, zi_m3, zi_m9]; omega) | decide)) only [sX7_sourceOf_0, sX7_sourceOf_1i, sX7_sourceOf_1r, sX7_sourceOf_1z, sX7_sourceOf_1o, sX7_sourceOf_2, sX7_sourceOf_3i, sX7_sourceOf_3r, sX7_sourceOf_3z, sX7_sourceOf_3o, sX7_sourceOf_5, sX7_sourceOf_7, sX7_sourceOf_9, sX7_sourceOf_12, sX7_sourceOf_13, sX7_sourceOf_16, sX7_sourceOf_17, sX7_sourceOf_18, sX7_sourceOf_21, sX7_sourceOf_24, sX7_sourceOf_25, sX7_sourceOf_28, sX7_sourceOf_29, sX7_sourceOf_31, sX7_sourceOf_32, sX7_sourceOf_33, sX7_sourceOf_34, sX7_sourceOf_37, sX7_sourceOf_38, sX7_sourceOf_41, sX7_sourceOf_42, sX7_sourceOf_43, sX7_sourceOf_44, sX7_sourceOf_47, sX7_sourceOf_48, sX7_sourceOf_51i, sX7_sourceOf_51r, sX7_sourceOf_51z, sX7_sourceOf_51o, sX7_sourceOf_52i, sX7_sourceOf_52r, sX7_sourceOf_52z, sX7_sourceOf_52o, sX7_sourceOf_55, sX7_sourceOf_58, sX7_sourceOf_60, gG7_0, gG7_1, gG7_2, gP7_0, gP7_1, gP7_2, gG5_0, gP5_0, zpush_v, zpush_n, gCk, gAi, gSi, gLi, gLq, ↓if_pos, ↓if_neg, eN_s, h1, h2, h3, nI_mul, nI_add, m_X5_get hO.2.2, e1, nI_nm1]
          simp only [wk, hsn, if_true, hv]
          rfl
        | none =>
          rw [hv, eN_n] at e1
          rw [sX7_sourceOf_5]
          simp (disch := (first | omega | assumption | (simp (disch := omega) only [Int32.lt_iff_toInt_lt, Int32.le_iff_toInt_le, ← Int32.toInt_inj, nI_toInt, zi_m1, zi_m2, zi_m3, zi_m9]; omega) | decide)) only [sX7_sourceOf_0, sX7_sourceOf_1i, sX7_sourceOf_1r, sX7_sourceOf_1z, sX7_sourceOf_1o, sX7_sourceOf_2, sX7_sourceOf_3i, sX7_sourceOf_3r, sX7_sourceOf_3z, sX7_sourceOf_3o, sX7_sourceOf_7, sX7_sourceOf_9, sX7_sourceOf_12, sX7_sourceOf_13, sX7_sourceOf_16, sX7_sourceOf_17, sX7_sourceOf_18, sX7_sourceOf_21, sX7_sourceOf_24, sX7_sourceOf_25, sX7_sourceOf_28, sX7_sourceOf_29, sX7_sourceOf_31, sX7_sourceOf_32, sX7_sourceOf_33, sX7_sourceOf_34, sX7_sourceOf_37, sX7_sourceOf_38, sX7_sourceOf_41, sX7_sourceOf_42, sX7_sourceOf_43, sX7_sourceOf_44, sX7_sourceOf_47, sX7_sourceOf_48, sX7_sourceOf_51i, sX7_sourceOf_51r, sX7_sourceOf_51z, sX7_sourceOf_51o, sX7_sourceOf_52i, sX7_sourceOf_52r, sX7_sourceOf_52z, sX7_sourceOf_52o, sX7_sourceOf_55, sX7_sourceOf_58, sX7_sourceOf_60, gG7_0, gG7_1, gG7_2, gP7_0, gP7_1, gP7_2, gG5_0, gP5_0, zpush_v, zpush_n, gCk, gAi, gSi, gLi, gLq, ↓if_pos, ↓if_neg, eN_s, h1, h2, h3, nI_mul, nI_add, m_X5_get hO.2.2, m_X5_get hO.2.1, e1, e2]
          rw [ih (i + 1) (S.2.1 s) (by omega) (fun q hq => by have := hpn s hsn q hq; omega)]
          simp only [wk, hsn, if_true, hv]
      · simp (disch := (first | omega | assumption | (simp (disch := omega) only [Int32.lt_iff_toInt_lt, Int32.le_iff_toInt_le, ← Int32.toInt_inj, nI_toInt, zi_m1, zi_m2, zi_m3, zi_m9]; omega) | decide)) only [sX7_sourceOf_0, sX7_sourceOf_1i, sX7_sourceOf_1r, sX7_sourceOf_1z, sX7_sourceOf_1o, sX7_sourceOf_2, sX7_sourceOf_3i, sX7_sourceOf_3r, sX7_sourceOf_3z, sX7_sourceOf_3o, sX7_sourceOf_5, sX7_sourceOf_7, sX7_sourceOf_9, sX7_sourceOf_12, sX7_sourceOf_13, sX7_sourceOf_16, sX7_sourceOf_17, sX7_sourceOf_18, sX7_sourceOf_21, sX7_sourceOf_24, sX7_sourceOf_25, sX7_sourceOf_28, sX7_sourceOf_29, sX7_sourceOf_31, sX7_sourceOf_32, sX7_sourceOf_33, sX7_sourceOf_34, sX7_sourceOf_37, sX7_sourceOf_38, sX7_sourceOf_41, sX7_sourceOf_42, sX7_sourceOf_43, sX7_sourceOf_44, sX7_sourceOf_47, sX7_sourceOf_48, sX7_sourceOf_51i, sX7_sourceOf_51r, sX7_sourceOf_51z, sX7_sourceOf_51o, sX7_sourceOf_52i, sX7_sourceOf_52r, sX7_sourceOf_52z, sX7_sourceOf_52o, sX7_sourceOf_55, sX7_sourceOf_58, sX7_sourceOf_60, gG7_0, gG7_1, gG7_2, gP7_0, gP7_1, gP7_2, gG5_0, gP5_0, zpush_v, zpush_n, gCk, gAi, gSi, gLi, gLq, ↓if_pos, ↓if_neg, eN_s, h1]
        simp only [wk, hsn, if_false]
        rfl
theorem m_X7_sourceOf (hS : rSheet h a S) (hw : WfS S) {p : Nat} (hp : p < 6) {o : Option Nat} (ho : okO o) (Q : Option Value → Hp → Prop) : WPm 62 [.ref a, .int (eN o), .int (nI p)] h Q = Q (some (.int (eS (wk S p 10 o)))) h := by
  rw [eX7_sourceOf]
  simp (disch := (first | omega | assumption | (simp (disch := omega) only [Int32.lt_iff_toInt_lt, Int32.le_iff_toInt_le, ← Int32.toInt_inj, nI_toInt, zi_m1, zi_m2, zi_m3, zi_m9]; omega) | decide)) only [sX7_sourceOf_0, sX7_sourceOf_1i, sX7_sourceOf_1r, sX7_sourceOf_1z, sX7_sourceOf_1o, sX7_sourceOf_2, sX7_sourceOf_3i, sX7_sourceOf_3r, sX7_sourceOf_3z, sX7_sourceOf_3o]
  exact l_X7_sourceOf hS hw hp Q 10 0 o (by omega) ho
theorem wk_lt {p : Nat} : ∀ {k : Nat} {o : Option Nat} {q : Nat}, wk S p k o = some q → q < S.1 ∧ (S.2.2 q p).isSome = true := by
  intro k
  induction k with
  | zero => intro o q h; simp [wk] at h
  | succ k ih =>
    intro o q h
    cases o with
    | none => simp [wk] at h
    | some s =>
      simp only [wk] at h
      split at h
      · next hs =>
        split at h
        · next v hv => cases h; exact ⟨hs, by rw [hv]; rfl⟩
        · exact ih h
      · cases h
theorem zbasicV_n {p : Nat} (hp : p < 6) : zbasicV (nI p) = nI (basicN p) := by
  match p, hp with
  | 0, _ => decide
  | 1, _ => decide
  | 2, _ => decide
  | 3, _ => decide
  | 4, _ => decide
  | 5, _ => decide
  | k + 6, h => exact absurd h (by omega)
theorem m_X7_valueIn (hS : rSheet h a S) (hw : WfS S) {p : Nat} (hp : p < 6) {o : Option Nat} (ho : okO o) (Q : Option Value → Hp → Prop) : WPm 63 [.ref a, .int (eN o), .int (nI p)] h Q = Q (some (.int (nI (valS S p o)))) h := by
  rw [eX7_valueIn]
  have h1 := hS
  obtain ⟨par, own, hO, hpar, hown⟩ := hS
  have h3 := hO.1
  unfold valS
  cases hq : wk S p 10 o with
  | none =>
    simp (disch := (first | omega | assumption | (simp (disch := omega) only [Int32.lt_iff_toInt_lt, Int32.le_iff_toInt_le, ← Int32.toInt_inj, nI_toInt, zi_m1, zi_m2, zi_m3, zi_m9]; omega) | decide)) only [sX7_valueIn_0, sX7_valueIn_1, sX7_valueIn_2, sX7_valueIn_3, sX7_valueIn_6i, sX7_valueIn_6r, sX7_valueIn_6z, sX7_valueIn_6o, sX7_valueIn_7, sX7_valueIn_8, sX7_valueIn_10, sX7_valueIn_13, sX7_valueIn_14, sX7_valueIn_17, sX7_valueIn_20, sX7_valueIn_21, sX7_valueIn_22, sX7_valueIn_23, sX7_valueIn_26, gG7_0, gG7_1, gG7_2, gP7_0, gP7_1, gP7_2, gG5_0, gP5_0, zpush_v, zpush_n, gCk, gAi, gSi, gLi, gLq, ↓if_pos, ↓if_neg, h3, m_X7_sourceOf h1 hw hp ho, hq, eS, zbasicV_n hp]
  | some q =>
    obtain ⟨q1, q2⟩ := wk_lt hq
    have hn := hw.1
    obtain ⟨v, hv⟩ := Option.isSome_iff_exists.mp q2
    have e1 := hown q q1 p hp
    rw [hv] at e1
    simp (disch := (first | omega | assumption | (simp (disch := omega) only [Int32.lt_iff_toInt_lt, Int32.le_iff_toInt_le, ← Int32.toInt_inj, nI_toInt, zi_m1, zi_m2, zi_m3, zi_m9]; omega) | decide)) only [sX7_valueIn_0, sX7_valueIn_1, sX7_valueIn_2, sX7_valueIn_3, sX7_valueIn_6i, sX7_valueIn_6r, sX7_valueIn_6z, sX7_valueIn_6o, sX7_valueIn_7, sX7_valueIn_8, sX7_valueIn_10, sX7_valueIn_13, sX7_valueIn_14, sX7_valueIn_17, sX7_valueIn_20, sX7_valueIn_21, sX7_valueIn_22, sX7_valueIn_23, sX7_valueIn_26, gG7_0, gG7_1, gG7_2, gP7_0, gP7_1, gP7_2, gG5_0, gP5_0, zpush_v, zpush_n, gCk, gAi, gSi, gLi, gLq, ↓if_pos, ↓if_neg, h3, m_X7_sourceOf h1 hw hp ho, hq, eS, m_X7_ownValue hO, e1, hv, eN_s]
    rfl
end SH2
