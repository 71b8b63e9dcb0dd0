/-! Sheet: what changes it -/
def setO (S : Sh) (s p : Nat) (v : Option Nat) : Sh := (S.1, S.2.1, fun s' p' => if s' = s ∧ p' = p then v else S.2.2 s' p')
def setP (S : Sh) (s : Nat) (o : Option Nat) : Sh := (S.1, fun s' => if s' = s then o else S.2.1 s', S.2.2)
def addS (S : Sh) (o : Option Nat) : Sh := (S.1 + 1, fun s => if s = S.1 then o else S.2.1 s, fun s p => if s = S.1 then none else S.2.2 s p)
def flatS (S : Sh) : Sh := (S.1, fun _ => none, fun s p => some (valS S p (some s)))
theorem rSheet.congr {h : Hp} {a : Nat} {S T : Sh} (hS : rSheet h a S) (h1 : T.1 = S.1) (h2 : ∀ s, s < S.1 → T.2.1 s = S.2.1 s) (h3 : ∀ s, s < S.1 → ∀ p, p < 6 → T.2.2 s p = S.2.2 s p) : rSheet h a T := by
  obtain ⟨par, own, hO, hpar, hown⟩ := hS
  refine ⟨par, own, by rw [h1]; exact hO, fun s hs => ?_, fun s hs p hp => ?_⟩
  · rw [h1] at hs
    rw [h2 s hs]
    exact hpar s hs
  · rw [h1] at hs
    rw [h3 s hs p hp]
    exact hown s hs p hp
theorem rSheet.off {h h' : Hp} {a lo k : Nat} {S : Sh} (hr : rSheet h a S) (hs : Same h h' lo k) (hq : a + 5 ≤ lo ∨ lo + k ≤ a) : rSheet h' a S := by
  obtain ⟨par, own, hO, hpar, hown⟩ := hr
  exact ⟨par, own, hO.off hs hq, hpar, hown⟩
theorem rSheet.cell {h : Hp} {a : Nat} {S : Sh} (hr : rSheet h a S) : h.1 a = some (.inr (7, [.int (nI S.1), .ref (a + 1), .ref (a + 3)])) ∧ h.1 (a + 1) = some (.inr (5, [.ref (a + 2)])) ∧ h.1 (a + 3) = some (.inr (5, [.ref (a + 4)])) := by
  obtain ⟨par, own, hO, hpar, hown⟩ := hr
  exact ⟨hO.1, hO.2.1.1, hO.2.2.1⟩
section SH4
variable {h : Hp} {a : Nat} {S : Sh}
theorem m_X7_setOwn (hS : rSheet h a S) {s p : Nat} (hs : s < S.1) (hn : S.1 ≤ 10) (hp : p < 6) (v : Option Nat) : ∃ h', Same h h' a 5 ∧ rSheet h' a (setO S s p v) ∧ ∀ Q : Option Value → Hp → Prop, WPm 61 [.ref a, .int (nI s), .int (nI p), .int (eN v)] h Q = Q none h' := by
  obtain ⟨par, own, hO, hpar, hown⟩ := hS
  refine ⟨_, Same.set (by omega) (by omega), ⟨par, upd own (s * 6 + p) (eN v), hO.setO, hpar, fun s' hs' p' hp' => ?_⟩, fun Q => m_X7_setOwnValue hO (by omega) hp Q⟩
  by_cases hq : s' = s ∧ p' = p
  · obtain ⟨rfl, rfl⟩ := hq
    simp [setO, upd]
  · have : ¬ s' * 6 + p' = s * 6 + p := by omega
    simp only [setO, upd, this, hq, if_false]
    exact hown s' hs' p' hp'
/-- parents.set of a sheet -/
theorem m_X5_setP (hS : rSheet h a S) {s : Nat} (hs : s < S.1) (hn : S.1 ≤ 10) (o : Option Nat) : ∃ h', Same h h' a 5 ∧ rSheet h' a (setP S s o) ∧ ∀ Q : Option Value → Hp → Prop, WPm 45 [.ref (a + 1), .int (nI s), .int (eN o)] h Q = Q none h' := by
  obtain ⟨par, own, hO, hpar, hown⟩ := hS
  refine ⟨_, Same.set (a := a + 2) (by omega) (by omega), ⟨upd par s (eN o), own, hO.setP, fun s' hs' => ?_, hown⟩, fun Q => m_X5_set hO.2.1 (by omega) (by omega) Q⟩
  by_cases hq : s' = s
  · subst hq
    simp [setP, upd]
  · simp only [setP, upd, hq, if_false]
    exact hpar s' hs'
theorem m_X5_getP (hS : rSheet h a S) {s : Nat} (hs : s < S.1) (hn : S.1 ≤ 10) (Q : Option Value → Hp → Prop) : WPm 44 [.ref (a + 1), .int (nI s)] h Q = Q (some (.int (eN (S.2.1 s)))) h := by
  obtain ⟨par, own, hO, hpar, hown⟩ := hS
  rw [m_X5_get hO.2.1 (by omega) (by omega), hpar s hs]
theorem m_X7_own (hS : rSheet h a S) {s p : Nat} (hs : s < S.1) (hn : S.1 ≤ 10) (hp : p < 6) (Q : Option Value → Hp → Prop) : WPm 60 [.ref a, .int (nI s), .int (nI p)] h Q = Q (some (.int (eN (S.2.2 s p)))) h := by
  obtain ⟨par, own, hO, hpar, hown⟩ := hS
  rw [m_X7_ownValue hO (by omega) hp, hown s hs p hp]
theorem l_X7_add {n : Nat} (hn : n < 10) {x : Int32} (Q : Option Value → Hp → Prop) : ∀ (m i : Nat), m + i = 6 → ∀ (h : Hp) (par own : Nat → Int32), oSheet h a n par own →
    WP 58 14 [some (.ref a), some (.int x), some (.int (nI i))] [] h Q = Q none (hset (hset h (a + 4) (.inl (0, 60, .inl (cpf own (fun _ => -1) (n * 6 + i) (n * 6 + 6))))) a (.inr (7, [.int (nI (n + 1)), .ref (a + 1), .ref (a + 3)]))) := by
  intro m
  induction m with
  | zero =>
    intro i hi h par own hO
    have hi : i = 6 := by omega
    subst hi
    have h1 := hO.1
    rw [sX7_add_14]
    simp (disch := (first | omega | assumption | (simp (disch := omega) only [Int32.lt_iff_toInt_lt, Int32.le_iff_toInt_le, ← Int32.toInt_inj, nI_toInt, zi_m1, zi_m2, zi_m3, zi_m9]; omega) | decide)) only [sX7_add_0, sX7_add_1, sX7_add_4, sX7_add_5, sX7_add_8, sX7_add_9, sX7_add_12, sX7_add_13i, sX7_add_13r, sX7_add_13z, sX7_add_13o, sX7_add_15, sX7_add_17, sX7_add_20, sX7_add_21, sX7_add_22, sX7_add_25, sX7_add_26, sX7_add_27, sX7_add_30i, sX7_add_30r, sX7_add_30z, sX7_add_30o, sX7_add_33, sX7_add_36, sX7_add_37, sX7_add_37i, sX7_add_38, sX7_add_41, sX7_add_42, sX7_add_43, sX7_add_46, gG7_0, gG7_1, gG7_2, gP7_0, gP7_1, gP7_2, gG5_0, gP5_0, zpush_v, zpush_n, gCk, gAi, gSi, gLi, gLq, ↓if_pos, ↓if_neg, h1, nI_add]
    have e : cpf own (fun _ => -1) (n * 6 + 6) (n * 6 + 6) = own := by
      funext q
      unfold cpf
      rw [if_neg (by omega)]
    rw [e, hset_id hO.2.2.2]
  | succ m ih =>
    intro i hi h par own hO
    have h1 := hO.1
    rw [sX7_add_14]
    simp (disch := (first | omega | assumption | (simp (disch := omega) only [Int32.lt_iff_toInt_lt, Int32.le_iff_toInt_le, ← Int32.toInt_inj, nI_toInt, zi_m1, zi_m2, zi_m3, zi_m9]; omega) | decide)) only [sX7_add_0, sX7_add_1, sX7_add_4, sX7_add_5, sX7_add_8, sX7_add_9, sX7_add_12, sX7_add_13i, sX7_add_13r, sX7_add_13z, sX7_add_13o, sX7_add_15, sX7_add_17, sX7_add_20, sX7_add_21, sX7_add_22, sX7_add_25, sX7_add_26, sX7_add_27, sX7_add_30i, sX7_add_30r, sX7_add_30z, sX7_add_30o, sX7_add_33, sX7_add_36, sX7_add_37, sX7_add_37i, sX7_add_38, sX7_add_41, sX7_add_42, sX7_add_43, sX7_add_46, gG7_0, gG7_1, gG7_2, gP7_0, gP7_1, gP7_2, gG5_0, gP5_0, zpush_v, zpush_n, gCk, gAi, gSi, gLi, gLq, ↓if_pos, ↓if_neg, h1, nI_add, m_X7_setOwnValue hO]
    rw [ih (i + 1) (by omega) _ par _ hO.setO]
    congr 2
    rw [hset_hset]
    congr 1
    have e : cpf (upd own (n * 6 + i) (-1)) (fun _ => -1) (n * 6 + (i + 1)) (n * 6 + 6) = cpf own (fun _ => -1) (n * 6 + i) (n * 6 + 6) := by
      funext q
      unfold cpf upd
      by_cases hq : q = n * 6 + i
      · subst hq
        rw [if_neg (by omega), if_pos rfl, if_pos (by omega)]
      · by_cases hq2 : n * 6 + (i + 1) ≤ q ∧ q < n * 6 + 6
        · rw [if_pos hq2, if_pos (by omega)]
        · rw [if_neg hq2, if_neg hq, if_neg (by omega)]
    rw [e]
theorem m_X7_add (hS : rSheet h a S) (hn : S.1 < 10) (o : Option Nat) : ∃ h', Same h h' a 5 ∧ rSheet h' a (addS S o) ∧ ∀ Q : Option Value → Hp → Prop, WPm 58 [.ref a, .int (eN o)] h Q = Q none h' := by
  obtain ⟨par, own, hO, hpar, hown⟩ := hS
  have h1 := hO.1
  have h2 := hO.2.1.1
  have hP : oSheet (hset h (a + 2) (.inl (0, 10, .inl (upd par S.1 (eN o))))) a S.1 (upd par S.1 (eN o)) own := hO.setP
  refine ⟨_, ?_, ⟨upd par S.1 (eN o), cpf own (fun _ => -1) (S.1 * 6 + 0) (S.1 * 6 + 6), (hP.setO).setN, fun s hs => ?_, fun s hs p hp => ?_⟩, fun Q => ?_⟩
  · exact ((Same.set (lo := a) (n := 5) (by omega) (by omega)).tr (Same.set (by omega) (by omega))).tr (Same.set (by omega) (by omega))
  · by_cases hq : s = S.1
    · subst hq
      simp [addS, upd]
    · have hs' : s < S.1 + 1 := hs
      simp only [addS, upd, hq, if_false]
      exact hpar s (by omega)
  · by_cases hq : s = S.1
    · subst hq
      simp only [addS, cpf, if_true]
      rw [if_pos (by omega)]
      rfl
    · have hs' : s < S.1 + 1 := hs
      simp only [addS, cpf, hq, if_false]
      rw [if_neg (by omega)]
      exact hown s (by omega) p hp
  · rw [eX7_add]
    simp (disch := (first | omega | assumption | (simp (disch := omega) only [Int32.lt_iff_toInt_lt, Int32.le_iff_toInt_le, ← Int32.toInt_inj, nI_toInt, zi_m1, zi_m2, zi_m3, zi_m9]; omega) | decide)) only [sX7_add_0, sX7_add_1, sX7_add_4, sX7_add_5, sX7_add_8, sX7_add_9, sX7_add_12, sX7_add_13i, sX7_add_13r, sX7_add_13z, sX7_add_13o, gG7_0, gG7_1, gG7_2, gP7_0, gP7_1, gP7_2, gG5_0, gP5_0, zpush_v, zpush_n, gCk, gAi, gSi, gLi, gLq, ↓if_pos, ↓if_neg, h1, h2, m_X5_set hO.2.1]
    exact l_X7_add hn Q 6 0 (by omega) _ _ _ hP
theorem m_X7_dropLast (hS : rSheet h a S) (hn : 0 < S.1) (hn' : S.1 ≤ 10) : ∃ h', Same h h' a 5 ∧ rSheet h' a (S.1 - 1, S.2.1, S.2.2) ∧ ∀ Q : Option Value → Hp → Prop, WPm 59 [.ref a] h Q = Q none h' := by
  obtain ⟨par, own, hO, hpar, hown⟩ := hS
  have h1 := hO.1
  refine ⟨_, Same.set (by omega) (by omega), ⟨par, own, hO.setN (m := S.1 - 1), fun s hs => hpar s (by have : s < S.1 - 1 := hs; omega), fun s hs => hown s (by have : s < S.1 - 1 := hs; omega)⟩, fun Q => ?_⟩
  rw [eX7_dropLast]
  simp (disch := (first | omega | assumption | (simp (disch := omega) only [Int32.lt_iff_toInt_lt, Int32.le_iff_toInt_le, ← Int32.toInt_inj, nI_toInt, zi_m1, zi_m2, zi_m3, zi_m9]; omega) | decide)) only [sX7_dropLast_0, sX7_dropLast_1, sX7_dropLast_1i, sX7_dropLast_2, sX7_dropLast_5, sX7_dropLast_6, sX7_dropLast_7, sX7_dropLast_10, gG7_0, gG7_1, gG7_2, gP7_0, gP7_1, gP7_2, gG5_0, gP5_0, zpush_v, zpush_n, gCk, gAi, gSi, gLi, gLq, ↓if_pos, ↓if_neg, h1, nI_sub]
theorem m_X7_copy {c : Nat} {T : Sh} (hS : rSheet h a S) (hT : rSheet h c T) (hac : a + 5 ≤ c ∨ c + 5 ≤ a) (hn : T.1 ≤ 10) : ∃ h', Same h h' a 5 ∧ rSheet h' a T ∧ ∀ Q : Option Value → Hp → Prop, WPm 55 [.ref a, .ref c] h Q = Q none h' := by
  obtain ⟨par, own, hO, hpar, hown⟩ := hS
  obtain ⟨par2, own2, hO2, hpar2, hown2⟩ := hT
  have hA : oSheet (hset h a (.inr (7, [.int (nI T.1), .ref (a + 1), .ref (a + 3)]))) a T.1 par own := hO.setN
  have s1 : Same h (hset h a (.inr (7, [.int (nI T.1), .ref (a + 1), .ref (a + 3)]))) a 5 := Same.set (by omega) (by omega)
  have hB := hO2.off s1 (by omega)
  have hA2 := hA.setP (g := cpf par par2 0 10)
  have s2 := s1.tr (Same.set (a := a + 2) (e := .inl (0, 10, .inl (cpf par par2 0 10))) (by omega) (by omega))
  have hB2 := hO2.off s2 (by omega)
  have hA3 := hA2.setO (g := cpf own own2 0 60)
  refine ⟨_, s2.tr (Same.set (a := a + 4) (e := .inl (0, 60, .inl (cpf own own2 0 60))) (by omega) (by omega)), ⟨_, _, hA3, fun s hs => ?_, fun s hs p hp => ?_⟩, fun Q => ?_⟩
  · unfold cpf
    rw [if_pos (by omega)]
    exact hpar2 s hs
  · unfold cpf
    rw [if_pos (by omega)]
    exact hown2 s hs p hp
  · rw [eX7_copy]
    simp (disch := (first | omega | assumption | (simp (disch := omega) only [Int32.lt_iff_toInt_lt, Int32.le_iff_toInt_le, ← Int32.toInt_inj, nI_toInt, zi_m1, zi_m2, zi_m3, zi_m9]; omega) | decide)) only [sX7_copy_0, sX7_copy_1, sX7_copy_1n, sX7_copy_2, sX7_copy_5, sX7_copy_8, sX7_copy_9, sX7_copy_12, sX7_copy_12n, sX7_copy_13, sX7_copy_16, sX7_copy_19, sX7_copy_20, sX7_copy_23, sX7_copy_23n, sX7_copy_24, sX7_copy_27, sX7_copy_30, gG7_0, gG7_1, gG7_2, gP7_0, gP7_1, gP7_2, gG5_0, gP5_0, zpush_v, zpush_n, gCk, gAi, gSi, gLi, gLq, ↓if_pos, ↓if_neg, hO.1, hO2.1, hA.1, hB.1, hA.2.1.1, hB.2.1.1, hA2.1, hB2.1, hA2.2.2.1, hB2.2.2.1, m_X5_copy hA.2.1 hB.2.1, m_X5_copy hA2.2.2 hB2.2.2]
/-- T is S with the styles below i, and the first k values of the i-th, made flat -/
def Fl (S T : Sh) (i k : Nat) : Prop := T.1 = S.1 ∧ (∀ s, s < S.1 → T.2.1 s = if s < i then none else S.2.1 s) ∧ ∀ s, s < S.1 → ∀ p, p < 6 → T.2.2 s p = if s < i ∨ (s = i ∧ p < k) then some (valS S p (some s)) else S.2.2 s p
theorem Fl.wf {S T : Sh} {i k : Nat} (hF : Fl S T i k) (hw : WfS S) : WfS T := by
  obtain ⟨f1, f2, f3⟩ := hF
  refine ⟨by rw [f1]; exact hw.1, fun s hs q hq => ?_, fun s hs => ?_, fun s hs p hp v hv => ?_⟩
  · rw [f1] at hs
    rw [f2 s hs] at hq
    split at hq
    · cases hq
    · rw [f1]; exact hw.2.1 s hs q hq
  · rw [f1] at hs
    have key : ∀ (k s : Nat), s < S.1 → anc S k (some s) = none → anc T k (some s) = none := by
      intro k
      induction k with
      | zero => intro s _ h; cases h
      | succ k ih =>
        intro s hs h
        have h2 : anc S k (S.2.1 s) = none := h
        show anc T k (T.2.1 s) = none
        rw [f2 s hs]
        split
        · exact anc_none T k
        · cases hq : S.2.1 s with
          | none => exact anc_none T k
          | some q =>
            rw [hq] at h2
            exact ih q (hw.2.1 s hs q hq) h2
    obtain ⟨k, hk⟩ := hw.2.2.1 s hs
    exact ⟨k, key k s hs hk⟩
  · rw [f1] at hs
    rw [f3 s hs p hp] at hv
    split at hv
    · cases hv
      exact valS_range hw hp _
    · exact hw.2.2.2 s hs p hp v hv
theorem Fl.val {S T : Sh} {i k : Nat} (hF : Fl S T i k) (hw : WfS S) {p : Nat} (hp : p < 6) : ∀ s, s < S.1 → valS T p (some s) = valS S p (some s) := by
  have hwT := hF.wf hw
  obtain ⟨f1, f2, f3⟩ := hF
  refine par_ind hw (fun s => valS T p (some s) = valS S p (some s)) (fun s hs ih => ?_)
  have h3 := f3 s hs p hp
  by_cases hc : s < i ∨ (s = i ∧ p < k)
  · rw [if_pos hc] at h3
    exact valS_own (by rw [f1]; exact hs) h3
  · rw [if_neg hc] at h3
    cases hv : S.2.2 s p with
    | some v =>
      rw [hv] at h3
      rw [valS_own (by rw [f1]; exact hs) h3, valS_own hs hv]
    | none =>
      rw [hv] at h3
      rw [valS_par hwT (by rw [f1]; exact hs) h3, valS_par hw hs hv, f2 s hs, if_neg (by omega)]
      cases hq : S.2.1 s with
      | none => rfl
      | some q => exact ih q hq
theorem Fl.next {S T : Sh} {i k : Nat} (hF : Fl S T i k) (hi : i < S.1) {v : Option Nat} (hv : v = some (valS S k (some i))) : Fl S (setO T i k v) i (k + 1) := by
  obtain ⟨f1, f2, f3⟩ := hF
  refine ⟨f1, f2, fun s hs p hp => ?_⟩
  simp only [setO]
  by_cases hq : s = i ∧ p = k
  · obtain ⟨rfl, rfl⟩ := hq
    rw [if_pos ⟨rfl, rfl⟩, if_pos (by omega), hv]
  · rw [if_neg hq, f3 s hs p hp]
    by_cases hc : s < i ∨ (s = i ∧ p < k)
    · rw [if_pos hc, if_pos (by omega)]
    · rw [if_neg hc, if_neg (by omega)]
theorem Fl.skip {S T : Sh} {i k : Nat} (hF : Fl S T i k) (hi : i < S.1) (hk : k < 6) {v : Nat} (hv : T.2.2 i k = some v) : Fl S T i (k + 1) := by
  obtain ⟨f1, f2, f3⟩ := hF
  refine ⟨f1, f2, fun s hs p hp => ?_⟩
  rw [f3 s hs p hp]
  by_cases hq : s = i ∧ p = k
  · obtain ⟨rfl, rfl⟩ := hq
    have h3 := f3 s hs p hp
    rw [if_neg (by omega)] at h3 ⊢
    rw [if_pos (by omega), ← h3, hv]
    rw [h3] at hv
    rw [valS_own hs hv]
  · by_cases hc : s < i ∨ (s = i ∧ p < k)
    · rw [if_pos hc, if_pos (by omega)]
    · rw [if_neg hc, if_neg (by omega)]
theorem Fl.row {S T : Sh} {i : Nat} (hF : Fl S T i 6) (hi : i < S.1) : Fl S (setP T i none) (i + 1) 0 := by
  obtain ⟨f1, f2, f3⟩ := hF
  refine ⟨f1, fun s hs => ?_, fun s hs p hp => ?_⟩
  · simp only [setP]
    by_cases hq : s = i
    · rw [if_pos hq, if_pos (by omega)]
    · rw [if_neg hq, f2 s hs]
      by_cases hc : s < i
      · rw [if_pos hc, if_pos (by omega)]
      · rw [if_neg hc, if_neg (by omega)]
  · show T.2.2 s p = _
    rw [f3 s hs p hp]
    by_cases hc : s < i ∨ (s = i ∧ p < 6)
    · rw [if_pos hc, if_pos (by omega)]
    · rw [if_neg hc, if_neg (by omega)]
/-- how many values of style s, of the properties below k, are not own ones -/
def nuP (S : Sh) (s : Nat) : Nat → Nat
  | 0 => 0
  | k + 1 => nuP S s k + (if S.2.2 s k = none then 1 else 0)
def nuS (S : Sh) : Nat → Nat
  | 0 => 0
  | i + 1 => nuS S i + nuP S i 6
theorem nuP_le (S : Sh) (s : Nat) : ∀ k, nuP S s k ≤ k := by
  intro k
  induction k with
  | zero => exact Nat.le_refl 0
  | succ k ih => simp only [nuP]; split <;> omega
theorem nuS_le (S : Sh) : ∀ i, nuS S i ≤ 6 * i := by
  intro i
  induction i with
  | zero => exact Nat.le_refl 0
  | succ i ih => have := nuP_le S i 6; simp only [nuS]; omega
theorem l_X7_makeFlatI (hw : WfS S) {i : Nat} (hi : i < S.1) : ∀ (m k : Nat), m + k = 6 → ∀ (h : Hp) (T : Sh), rSheet h a T → Fl S T i k → ∃ h' T', Same h h' a 5 ∧ rSheet h' a T' ∧ Fl S T' i 6 ∧ ∀ Q : Option Value → Hp → Prop,
    WP 67 14 [some (.ref a), some (.int (nI (nuS S i + nuP S i k))), some (.int (nI i)), some (.int (nI k))] [] h Q = WP 67 51 [some (.ref a), some (.int (nI (nuS S i + nuP S i 6))), some (.int (nI i)), some (.int (nI 6))] [] h' Q := by
  have hn := hw.1
  have hb := nuS_le S i
  intro m
  induction m with
  | zero =>
    intro k hk h T hT hF
    have hk : k = 6 := by omega
    subst hk
    refine ⟨h, T, Same.rf, hT, hF, fun Q => ?_⟩
    rw [sX7_makeFlat_14]
    simp (disch := (first | omega | assumption | (simp (disch := omega) only [Int32.lt_iff_toInt_lt, Int32.le_iff_toInt_le, ← Int32.toInt_inj, nI_toInt, zi_m1, zi_m2, zi_m3, zi_m9]; omega) | decide)) only [sX7_makeFlat_15, sX7_makeFlat_17, gG7_0, gG7_1, gG7_2, gP7_0, gP7_1, gP7_2, gG5_0, gP5_0, zpush_v, zpush_n, gCk, gAi, gSi, gLi, gLq, ↓if_pos, ↓if_neg]
  | succ m ih =>
    intro k hk h T hT hF
    have hf1 := hF.1
    have h1 := hT.cell.1
    have hb2 := nuP_le S i k
    have hTk : T.2.2 i k = S.2.2 i k := by
      have := hF.2.2 i hi k (by omega)
      rwa [if_neg (by omega)] at this
    cases hv : S.2.2 i k with
    | some v =>
      have hne : ¬ eN (some v) = -1 := nI_nm1 (by have := hw.2.2.2 i hi k (by omega) v hv; have := hiP_le k; omega)
      obtain ⟨h', T', q1, q2, q3, q4⟩ := ih (k + 1) (by omega) h T hT (hF.skip hi (by omega) (hTk.trans hv))
      refine ⟨h', T', q1, q2, q3, fun Q => ?_⟩
      rw [← q4 Q, sX7_makeFlat_14]
      simp (disch := (first | omega | assumption | (simp (disch := omega) only [Int32.lt_iff_toInt_lt, Int32.le_iff_toInt_le, ← Int32.toInt_inj, nI_toInt, zi_m1, zi_m2, zi_m3, zi_m9]; omega) | decide)) only [sX7_makeFlat_15, sX7_makeFlat_17, sX7_makeFlat_20, sX7_makeFlat_21, sX7_makeFlat_22, sX7_makeFlat_23, sX7_makeFlat_26, sX7_makeFlat_27, sX7_makeFlat_30, sX7_makeFlat_31, sX7_makeFlat_32, sX7_makeFlat_33, sX7_makeFlat_34, sX7_makeFlat_35, sX7_makeFlat_36, sX7_makeFlat_39, sX7_makeFlat_42i, sX7_makeFlat_42r, sX7_makeFlat_42z, sX7_makeFlat_42o, sX7_makeFlat_45i, sX7_makeFlat_45r, sX7_makeFlat_45z, sX7_makeFlat_45o, sX7_makeFlat_48, gG7_0, gG7_1, gG7_2, gP7_0, gP7_1, gP7_2, gG5_0, gP5_0, zpush_v, zpush_n, gCk, gAi, gSi, gLi, gLq, ↓if_pos, ↓if_neg, h1, m_X7_own hT (show i < T.1 by omega) (show T.1 ≤ 10 by omega), hTk, hv, nI_add]
      simp only [nuP, hv]
      rfl
    | none =>
      obtain ⟨h2, p1, p2, p3⟩ := m_X7_setOwn hT (show i < T.1 by omega) (show T.1 ≤ 10 by omega) (show k < 6 by omega) (some (valS S k (some i)))
      obtain ⟨h', T', q1, q2, q3, q4⟩ := ih (k + 1) (by omega) h2 _ p2 (hF.next hi rfl)
      refine ⟨h', T', p1.tr q1, q2, q3, fun Q => ?_⟩
      have e1 := hF.val hw (show k < 6 by omega) i hi
      have e2 := m_X7_valueIn hT (hF.wf hw) (show k < 6 by omega) (o := some i) (fun s hs => by cases hs; omega)
      rw [eN_s, e1] at e2
      rw [eN_s] at p3
      rw [← q4 Q, sX7_makeFlat_14]
      simp (disch := (first | omega | assumption | (simp (disch := omega) only [Int32.lt_iff_toInt_lt, Int32.le_iff_toInt_le, ← Int32.toInt_inj, nI_toInt, zi_m1, zi_m2, zi_m3, zi_m9]; omega) | decide)) only [sX7_makeFlat_15, sX7_makeFlat_17, sX7_makeFlat_20, sX7_makeFlat_21, sX7_makeFlat_22, sX7_makeFlat_23, sX7_makeFlat_26, sX7_makeFlat_27, sX7_makeFlat_30, sX7_makeFlat_31, sX7_makeFlat_32, sX7_makeFlat_33, sX7_makeFlat_34, sX7_makeFlat_35, sX7_makeFlat_36, sX7_makeFlat_39, sX7_makeFlat_42i, sX7_makeFlat_42r, sX7_makeFlat_42z, sX7_makeFlat_42o, sX7_makeFlat_45i, sX7_makeFlat_45r, sX7_makeFlat_45z, sX7_makeFlat_45o, sX7_makeFlat_48, gG7_0, gG7_1, gG7_2, gP7_0, gP7_1, gP7_2, gG5_0, gP5_0, zpush_v, zpush_n, gCk, gAi, gSi, gLi, gLq, ↓if_pos, ↓if_neg, h1, m_X7_own hT (show i < T.1 by omega) (show T.1 ≤ 10 by omega), hTk, hv, eN_n, nI_add, e2, p3]
      simp only [nuP, hv, if_true]
      rw [show nuS S i + nuP S i k + 1 = nuS S i + (nuP S i k + 1) by omega]
theorem l_X7_makeFlat (hw : WfS S) {x : Option Value} : ∀ (m i : Nat), m + i = S.1 → ∀ (h : Hp) (T : Sh) (x : Option Value), (x = none ∨ ∃ y, x = some (.int y)) → rSheet h a T → Fl S T i 0 → ∃ h' T', Same h h' a 5 ∧ rSheet h' a T' ∧ Fl S T' S.1 0 ∧ ∀ Q : Option Value → Hp → Prop,
    WP 67 4 [some (.ref a), some (.int (nI (nuS S i))), some (.int (nI i)), x] [] h Q = Q (some (.int (nI (nuS S S.1)))) h' := by
  have hn := hw.1
  intro m
  induction m with
  | zero =>
    intro i hi h T x hx hT hF
    have hi : i = S.1 := by omega
    subst hi
    have h1 := hT.cell.1
    refine ⟨h, T, Same.rf, hT, hF, fun Q => ?_⟩
    have hf1 := hF.1
    rw [sX7_makeFlat_4]
    simp (disch := (first | omega | assumption | (simp (disch := omega) only [Int32.lt_iff_toInt_lt, Int32.le_iff_toInt_le, ← Int32.toInt_inj, nI_toInt, zi_m1, zi_m2, zi_m3, zi_m9]; omega) | decide)) only [sX7_makeFlat_5, sX7_makeFlat_6, sX7_makeFlat_9, sX7_makeFlat_66, sX7_makeFlat_67, gG7_0, gG7_1, gG7_2, gP7_0, gP7_1, gP7_2, gG5_0, gP5_0, zpush_v, zpush_n, gCk, gAi, gSi, gLi, gLq, ↓if_pos, ↓if_neg, h1]
  | succ m ih =>
    intro i hi h T x hx hT hF
    have hf1 := hF.1
    have h1 := hT.cell.1
    obtain ⟨h2, T2, p1, p2, p3, p4⟩ := l_X7_makeFlatI hw (show i < S.1 by omega) 6 0 (by omega) h T hT hF
    have hf2 := p3.1
    obtain ⟨h3, r1, r2, r3⟩ := m_X5_setP p2 (show i < T2.1 by omega) (show T2.1 ≤ 10 by omega) none
    obtain ⟨h', T', q1, q2, q3, q4⟩ := ih (i + 1) (by omega) h3 _ (some (.int (nI 6))) (Or.inr ⟨_, rfl⟩) r2 (p3.row (by omega))
    refine ⟨h', T', (p1.tr r1).tr q1, q2, q3, fun Q => ?_⟩
    have hc := p2.cell
    rw [← q4 Q, sX7_makeFlat_4]
    rw [eN_n] at r3
    have e0 : nuS S i = nuS S i + nuP S i 0 := rfl
    rcases hx with rfl | ⟨y, rfl⟩
    · simp (disch := (first | omega | assumption | (simp (disch := omega) only [Int32.lt_iff_toInt_lt, Int32.le_iff_toInt_le, ← Int32.toInt_inj, nI_toInt, zi_m1, zi_m2, zi_m3, zi_m9]; omega) | decide)) only [sX7_makeFlat_5, sX7_makeFlat_6, sX7_makeFlat_9, sX7_makeFlat_12, sX7_makeFlat_13i, sX7_makeFlat_13r, sX7_makeFlat_13z, sX7_makeFlat_13o, gG7_0, gG7_1, gG7_2, gP7_0, gP7_1, gP7_2, gG5_0, gP5_0, zpush_v, zpush_n, gCk, gAi, gSi, gLi, gLq, ↓if_pos, ↓if_neg, h1]
      rw [e0, p4]
      simp (disch := (first | omega | assumption | (simp (disch := omega) only [Int32.lt_iff_toInt_lt, Int32.le_iff_toInt_le, ← Int32.toInt_inj, nI_toInt, zi_m1, zi_m2, zi_m3, zi_m9]; omega) | decide)) only [sX7_makeFlat_51, sX7_makeFlat_52, sX7_makeFlat_55, sX7_makeFlat_56, sX7_makeFlat_57, sX7_makeFlat_60i, sX7_makeFlat_60r, sX7_makeFlat_60z, sX7_makeFlat_60o, sX7_makeFlat_63, gG7_0, gG7_1, gG7_2, gP7_0, gP7_1, gP7_2, gG5_0, gP5_0, zpush_v, zpush_n, gCk, gAi, gSi, gLi, gLq, ↓if_pos, ↓if_neg, hc, r3, nI_add]
      rfl
    · simp (disch := (first | omega | assumption | (simp (disch := omega) only [Int32.lt_iff_toInt_lt, Int32.le_iff_toInt_le, ← Int32.toInt_inj, nI_toInt, zi_m1, zi_m2, zi_m3, zi_m9]; omega) | decide)) only [sX7_makeFlat_5, sX7_makeFlat_6, sX7_makeFlat_9, sX7_makeFlat_12, sX7_makeFlat_13i, sX7_makeFlat_13r, sX7_makeFlat_13z, sX7_makeFlat_13o, gG7_0, gG7_1, gG7_2, gP7_0, gP7_1, gP7_2, gG5_0, gP5_0, zpush_v, zpush_n, gCk, gAi, gSi, gLi, gLq, ↓if_pos, ↓if_neg, h1]
      rw [e0, p4]
      simp (disch := (first | omega | assumption | (simp (disch := omega) only [Int32.lt_iff_toInt_lt, Int32.le_iff_toInt_le, ← Int32.toInt_inj, nI_toInt, zi_m1, zi_m2, zi_m3, zi_m9]; omega) | decide)) only [sX7_makeFlat_51, sX7_makeFlat_52, sX7_makeFlat_55, sX7_makeFlat_56, sX7_makeFlat_57, sX7_makeFlat_60i, sX7_makeFlat_60r, sX7_makeFlat_60z, sX7_makeFlat_60o, sX7_makeFlat_63, gG7_0, gG7_1, gG7_2, gP7_0, gP7_1, gP7_2, gG5_0, gP5_0, zpush_v, zpush_n, gCk, gAi, gSi, gLi, gLq, ↓if_pos, ↓if_neg, hc, r3, nI_add]
      rfl
theorem m_X7_makeFlat (hS : rSheet h a S) (hw : WfS S) : ∃ h', Same h h' a 5 ∧ rSheet h' a (flatS S) ∧ ∀ Q : Option Value → Hp → Prop, WPm 67 [.ref a] h Q = Q (some (.int (nI (nuS S S.1)))) h' := by
  have hF : Fl S S 0 0 := ⟨rfl, fun s hs => by rw [if_neg (by omega)], fun s hs p hp => by rw [if_neg (by omega)]⟩
  obtain ⟨h', T', q1, q2, q3, q4⟩ := l_X7_makeFlat (a := a) hw (x := none) S.1 0 (by omega) h S none (Or.inl rfl) hS hF
  refine ⟨h', q1, q2.congr q3.1.symm (fun s hs => ?_) (fun s hs p hp => ?_), fun Q => ?_⟩
  · rw [q3.1] at hs
    rw [q3.2.1 s hs, if_pos hs]
    rfl
  · rw [q3.1] at hs
    rw [q3.2.2 s hs p hp, if_pos (Or.inl hs)]
    rfl
  · rw [eX7_makeFlat]
    simp (disch := (first | omega | assumption | (simp (disch := omega) only [Int32.lt_iff_toInt_lt, Int32.le_iff_toInt_le, ← Int32.toInt_inj, nI_toInt, zi_m1, zi_m2, zi_m3, zi_m9]; omega) | decide)) only [sX7_makeFlat_0, sX7_makeFlat_1i, sX7_makeFlat_1r, sX7_makeFlat_1z, sX7_makeFlat_1o, sX7_makeFlat_2, sX7_makeFlat_3i, sX7_makeFlat_3r, sX7_makeFlat_3z, sX7_makeFlat_3o, gG7_0, gG7_1, gG7_2, gP7_0, gP7_1, gP7_2, gG5_0, gP5_0, zpush_v, zpush_n, gCk, gAi, gSi, gLi, gLq, ↓if_pos, ↓if_neg]
    exact q4 Q
end SH4
