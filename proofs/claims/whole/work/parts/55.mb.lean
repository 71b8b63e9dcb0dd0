/-! the model: what its row of ints stands for -/
def encS (v : Nat → Int32) (S : Sh) : Prop := v 0 = nI S.1 ∧ ∀ s, s < S.1 → v (10 + 7 * s + 6) = eN (S.2.1 s) ∧ ∀ p, p < 6 → v (10 + 7 * s + p) = eN (S.2.2 s p)
def jK : Itm → Int32
  | .inl c => nI c
  | .inr (l, _) => nI l
def jN : Itm → Int32
  | .inl _ => -2
  | .inr (_, o) => eN o
def encL (v : Nat → Int32) (k : Nat) (ln : Ln) : Prop := v (k + 0) = nI ln.1 ∧ v (k + 1) = nI ln.2.1 ∧ v (k + 2) = eN ln.2.2.1 ∧ v (k + 3) = eN ln.2.2.2.1 ∧ v (k + 4) = nI ln.2.2.2.2.length ∧ ∀ j x, ln.2.2.2.2[j]? = some x → v (k + 5 + 2 * j) = jK x ∧ v (k + 5 + 2 * j + 1) = jN x
def encV (v : Nat → Int32) (st : Stt) : Prop := encS v st.1 ∧ v 1 = nI st.2.1.length ∧ v 2 = nI st.2.2 ∧ ∀ i x, st.2.1[i]? = some x → encL v (100 + 166 * i) x
def encH (pa : Nat → Int32) (hist : List Stt) : Prop := ∀ k st, hist[k]? = some st → encV (fun q => pa (2760 * k + q)) st
theorem encL.of {v w : Nat → Int32} {k : Nat} {ln : Ln} (h : encL v k ln) (hn : ln.2.2.2.2.length ≤ 80) (e : ∀ q, k ≤ q → q < k + 166 → w q = v q) : encL w k ln := by
  obtain ⟨h1, h2, h3, h4, h5, h6⟩ := h
  refine ⟨by rw [e _ (by omega) (by omega)]; exact h1, by rw [e _ (by omega) (by omega)]; exact h2, by rw [e _ (by omega) (by omega)]; exact h3, by rw [e _ (by omega) (by omega)]; exact h4, by rw [e _ (by omega) (by omega)]; exact h5, fun j x hx => ?_⟩
  have := (List.getElem?_eq_some_iff.mp hx).1
  rw [e _ (by omega) (by omega), e _ (by omega) (by omega)]
  exact h6 j x hx
theorem encS.of {v w : Nat → Int32} {S : Sh} (h : encS v S) (hn : S.1 ≤ 10) (e : ∀ q, (q = 0 ∨ (10 ≤ q ∧ q < 80)) → w q = v q) : encS w S := by
  obtain ⟨h1, h2⟩ := h
  refine ⟨by rw [e _ (by omega)]; exact h1, fun s hs => ⟨by rw [e _ (by omega)]; exact (h2 s hs).1, fun p hp => by rw [e _ (by omega)]; exact (h2 s hs).2 p hp⟩⟩
theorem encV.of {v w : Nat → Int32} {st : Stt} (h : encV v st) (hw : WfSt st) (e : ∀ q, q < 2760 → w q = v q) : encV w st := by
  obtain ⟨h1, h2, h3, h4⟩ := h
  refine ⟨h1.of hw.1.1 (fun q hq => e q (by omega)), by rw [e _ (by omega)]; exact h2, by rw [e _ (by omega)]; exact h3, fun i x hx => ?_⟩
  have := (List.getElem?_eq_some_iff.mp hx).1
  have := hw.2.1.1
  exact (h4 i x hx).of (hw.2.1.2 x (List.mem_of_getElem? hx)).2.2.2.2.1 (fun q q1 q2 => e q (by omega))
theorem encL.at {v : Nat → Int32} {L : List Ln} {i : Nat} (h : ∀ i x, L[i]? = some x → encL v (100 + 166 * i) x) (hi : i < L.length) : encL v (100 + 166 * i) (lnA L i) := h i _ (lnA_get hi)
theorem kept_len2 {hist : List Stt} {st : Stt} : (kept hist st).length = actN hist.length := by
  unfold kept actN
  rw [List.length_append]
  split
  · rw [List.length_drop]
    show _ + 1 = 5
    omega
  · rfl
theorem encH.act {pa v : Nat → Int32} {hist : List Stt} {st : Stt} (h : encH pa hist) (hv : encV v st) (hw : WfSt st) (hh : ∀ s ∈ hist, WfSt s) (hn : hist.length ≤ 5) : encH (actP pa v hist.length) (kept hist st) := by
  intro k x hx
  have hk := (List.getElem?_eq_some_iff.mp hx).1
  rw [kept_len2] at hk
  unfold actN at hk
  unfold kept at hx
  unfold actP
  by_cases c : hist.length = 5
  · rw [if_pos c] at hx hk ⊢
    have dl : (hist.drop 1).length = 4 := by rw [List.length_drop]; omega
    by_cases d : k < 4
    · rw [List.getElem?_append_left (by omega), List.getElem?_drop] at hx
      refine (h _ _ hx).of (hh x (List.mem_of_getElem? hx)) (fun q hq => ?_)
      show pst (shm pa 11040) v (2760 * 4) 2760 (2760 * k + q) = pa (2760 * (1 + k) + q)
      unfold pst shm
      rw [if_neg (by omega), if_pos (by omega)]
      congr 1
      omega
    · have hk4 : k = 4 := by omega
      subst hk4
      rw [List.getElem?_append_right (by omega), dl, Nat.sub_self] at hx
      cases hx
      refine hv.of hw (fun q hq => ?_)
      show pst (shm pa 11040) v (2760 * 4) 2760 (2760 * 4 + q) = v q
      unfold pst
      rw [if_pos (by omega), Nat.add_sub_cancel_left]
  · rw [if_neg c] at hx hk ⊢
    by_cases d : k < hist.length
    · rw [List.getElem?_append_left d] at hx
      refine (h _ _ hx).of (hh x (List.mem_of_getElem? hx)) (fun q hq => ?_)
      show pst pa v (2760 * hist.length) 2760 (2760 * k + q) = _
      unfold pst
      have : 2760 * (k + 1) ≤ 2760 * hist.length := Nat.mul_le_mul_left _ d
      rw [if_neg (by omega)]
    · have hk4 : k = hist.length := by omega
      subst hk4
      rw [List.getElem?_append_right (by omega), Nat.sub_self] at hx
      cases hx
      refine hv.of hw (fun q hq => ?_)
      show pst pa v (2760 * hist.length) 2760 (2760 * hist.length + q) = v q
      unfold pst
      rw [if_pos (by omega), Nat.add_sub_cancel_left]
section MB
variable {h0 : Hp} {M : Nat} {v pa fl tx it sg lat hat nw os hgh pl asd lks : Nat → Int32} {pm ty ct wr im sm sy : Int32}
theorem anc_wk {S : Sh} {p s : Nat} (hs : s < S.1) (hv : S.2.2 s p = none) (hw : WfS S) : wk S p 10 (some s) = wk S p 10 (S.2.1 s) := by
  have h1 := anc_end hw hs
  have hn := hw.1
  have h2 : wk S p 10 (some s) = wk S p 9 (S.2.1 s) := by simp [wk, hs, hv]
  have h3 : anc S 9 (S.2.1 s) = none := anc_more (k := S.1) (d := 10) h1 hn
  rw [h2, wk_more 9 10 _ h3 (by omega)]
theorem wk_own {S : Sh} {p s v : Nat} (hs : s < S.1) (hv : S.2.2 s p = some v) : wk S p 10 (some s) = some s := by simp [wk, hs, hv]
theorem eN_lt0 : eN none < nI 0 := by decide
theorem nI_nlt0 {k : Nat} (hk : k < 2147483648) : ¬ nI k < nI 0 := by
  rw [Int32.lt_iff_toInt_lt, nI_toInt hk, nI_toInt (by omega)]
  omega
theorem l_owner {S : Sh} (hv : encS v S) (hw : WfS S) {p : Nat} (hp : p < 6) (x : Int32) (Q : Option Value → Hp → Prop) : ∀ (k : Nat) (o : Option Nat), anc S k o = none → (∀ s, o = some s → s < S.1) →
    WP 120 2 [some (.ref M), some (.int x), some (.int (nI p)), some (.int (eN o))] [] (mkM h0 M v pa pm fl tx ty ct wr it im sg sm lat hat sy nw os hgh pl asd lks) Q = Q (some (.int (eN (wk S p 10 o)))) (mkM h0 M v pa pm fl tx ty ct wr it im sg sm lat hat sy nw os hgh pl asd lks) := by
  have h10 := hw.1
  intro k
  induction k with
  | zero =>
    intro o ho _
    have ho : o = none := ho
    subst ho
    rw [sX10_owner_2]
    simp (disch := (first | omega | assumption | (simp (disch := omega) only [Int32.lt_iff_toInt_lt, Int32.le_iff_toInt_le, ← Int32.toInt_inj, nI_toInt, zi_m1, zi_m2, zi_m3, zi_m9]; omega) | decide)) only [sX10_owner_3, sX10_owner_36, sX10_owner_37, zpush_v, zpush_n, gCk, gAi, gSi, gSz, gLi, gLq, ↓if_pos, ↓if_neg, eN_n]
    rfl
  | succ k ih =>
    intro o ho hs
    cases o with
    | none =>
      rw [sX10_owner_2]
      simp (disch := (first | omega | assumption | (simp (disch := omega) only [Int32.lt_iff_toInt_lt, Int32.le_iff_toInt_le, ← Int32.toInt_inj, nI_toInt, zi_m1, zi_m2, zi_m3, zi_m9]; omega) | decide)) only [sX10_owner_3, sX10_owner_36, sX10_owner_37, zpush_v, zpush_n, gCk, gAi, gSi, gSz, gLi, gLq, ↓if_pos, ↓if_neg, eN_n]
      rfl
    | some s =>
      have hs := hs s rfl
      obtain ⟨e1, e2⟩ := hv.2 s hs
      have e2 := e2 p hp
      rw [sX10_owner_2]
      cases hq : S.2.2 s p with
      | some w =>
        have := (hw.2.2.2 s hs p hp w hq).2
        have := hiP_le p
        rw [hq, eN_s] at e2
        rw [wk_own hs hq]
        simp (disch := (first | omega | assumption | (simp (disch := omega) only [Int32.lt_iff_toInt_lt, Int32.le_iff_toInt_le, ← Int32.toInt_inj, nI_toInt, zi_m1, zi_m2, zi_m3, zi_m9]; omega) | decide)) only [sX10_owner_3, sX10_owner_6, sX10_owner_7, sX10_owner_10, sX10_owner_11, sX10_owner_14, sX10_owner_15, sX10_owner_16, sX10_owner_17, sX10_owner_36, sX10_owner_37, mCk, mG0, mG1, mG2, mG3, mG4, mG5, mG6, mG7, mG8, mG9, mG10, mG11, mG12, mG13, mG14, mG15, mG16, mG17, mG18, mG19, mG20, mP2, mP5, mP6, mP7, mP9, mP11, mP14, mA1, mS1, mA2, mS2, mA3, mS3, mA4, mS4, mA5, mS5, mA6, mS6, mA7, mS7, mA8, mS8, mA9, mS9, mA10, mS10, mA11, mS11, mA12, mS12, mA13, mS13, mA14, mS14, zpush_v, zpush_n, gCk, gAi, gSi, gSz, gLi, gLq, ↓if_pos, ↓if_neg, eN_s, m_placeOf, nI_add, e2]
      | none =>
        rw [hq, eN_n] at e2
        rw [anc_wk hs hq hw, ← ih (S.2.1 s) ho (fun q hq => hw.2.1 s hs q hq)]
        simp (disch := (first | omega | assumption | (simp (disch := omega) only [Int32.lt_iff_toInt_lt, Int32.le_iff_toInt_le, ← Int32.toInt_inj, nI_toInt, zi_m1, zi_m2, zi_m3, zi_m9]; omega) | decide)) only [sX10_owner_3, sX10_owner_6, sX10_owner_7, sX10_owner_10, sX10_owner_11, sX10_owner_14, sX10_owner_15, sX10_owner_16, sX10_owner_17, sX10_owner_20, sX10_owner_21, sX10_owner_24, sX10_owner_25, sX10_owner_28, sX10_owner_30, sX10_owner_31, sX10_owner_32i, sX10_owner_32r, sX10_owner_32z, sX10_owner_32o, sX10_owner_33, mCk, mG0, mG1, mG2, mG3, mG4, mG5, mG6, mG7, mG8, mG9, mG10, mG11, mG12, mG13, mG14, mG15, mG16, mG17, mG18, mG19, mG20, mP2, mP5, mP6, mP7, mP9, mP11, mP14, mA1, mS1, mA2, mS2, mA3, mS3, mA4, mS4, mA5, mS5, mA6, mS6, mA7, mS7, mA8, mS8, mA9, mS9, mA10, mS10, mA11, mS11, mA12, mS12, mA13, mS13, mA14, mS14, zpush_v, zpush_n, gCk, gAi, gSi, gSz, gLi, gLq, ↓if_pos, ↓if_neg, eN_s, m_placeOf, nI_add, e2, e1]
theorem m_owner {S : Sh} (hv : encS v S) (hw : WfS S) {p : Nat} (hp : p < 6) {o : Option Nat} (ho : ∀ s, o = some s → s < S.1) (Q : Option Value → Hp → Prop) : WPm 120 [.ref M, .int (eN o), .int (nI p)] (mkM h0 M v pa pm fl tx ty ct wr it im sg sm lat hat sy nw os hgh pl asd lks) Q = Q (some (.int (eN (wk S p 10 o)))) (mkM h0 M v pa pm fl tx ty ct wr it im sg sm lat hat sy nw os hgh pl asd lks) := by
  rw [eX10_owner]
  simp (disch := (first | omega | assumption | (simp (disch := omega) only [Int32.lt_iff_toInt_lt, Int32.le_iff_toInt_le, ← Int32.toInt_inj, nI_toInt, zi_m1, zi_m2, zi_m3, zi_m9]; omega) | decide)) only [sX10_owner_0, sX10_owner_1i, sX10_owner_1r, sX10_owner_1z, sX10_owner_1o]
  refine l_owner hv hw hp _ Q 10 o ?_ ho
  cases o with
  | none => exact anc_none S 10
  | some s => exact anc_more (anc_end hw (ho s rfl)) hw.1
theorem m_valued {S : Sh} (hv : encS v S) (hw : WfS S) {p : Nat} (hp : p < 6) {o : Option Nat} (ho : ∀ s, o = some s → s < S.1) (Q : Option Value → Hp → Prop) : WPm 121 [.ref M, .int (eN o), .int (nI p)] (mkM h0 M v pa pm fl tx ty ct wr it im sg sm lat hat sy nw os hgh pl asd lks) Q = Q (some (.int (nI (valS S p o)))) (mkM h0 M v pa pm fl tx ty ct wr it im sg sm lat hat sy nw os hgh pl asd lks) := by
  have h10 := hw.1
  rw [eX10_valued]
  unfold valS
  cases hq : wk S p 10 o with
  | none =>
    simp (disch := (first | omega | assumption | (simp (disch := omega) only [Int32.lt_iff_toInt_lt, Int32.le_iff_toInt_le, ← Int32.toInt_inj, nI_toInt, zi_m1, zi_m2, zi_m3, zi_m9]; omega) | decide)) only [sX10_valued_0, sX10_valued_1, sX10_valued_2, sX10_valued_3, sX10_valued_6i, sX10_valued_6r, sX10_valued_6z, sX10_valued_6o, sX10_valued_7, sX10_valued_8, sX10_valued_11, sX10_valued_12, sX10_valued_15, sX10_valued_18, sX10_valued_19, sX10_valued_22, sX10_valued_23, sX10_valued_26, sX10_valued_27, sX10_valued_28, sX10_valued_29, mCk, mG0, mG1, mG2, mG3, mG4, mG5, mG6, mG7, mG8, mG9, mG10, mG11, mG12, mG13, mG14, mG15, mG16, mG17, mG18, mG19, mG20, mP2, mP5, mP6, mP7, mP9, mP11, mP14, mA1, mS1, mA2, mS2, mA3, mS3, mA4, mS4, mA5, mS5, mA6, mS6, mA7, mS7, mA8, mS8, mA9, mS9, mA10, mS10, mA11, mS11, mA12, mS12, mA13, mS13, mA14, mS14, zpush_v, zpush_n, gCk, gAi, gSi, gSz, gLi, gLq, ↓if_pos, ↓if_neg, m_owner hv hw hp ho, hq, eN_n, m_basic hp]
  | some q =>
    obtain ⟨q1, q2⟩ := wk_lt hq
    obtain ⟨w, hw2⟩ := Option.isSome_iff_exists.mp q2
    have e2 := (hv.2 q q1).2 p hp
    rw [hw2, eN_s] at e2
    simp (disch := (first | omega | assumption | (simp (disch := omega) only [Int32.lt_iff_toInt_lt, Int32.le_iff_toInt_le, ← Int32.toInt_inj, nI_toInt, zi_m1, zi_m2, zi_m3, zi_m9]; omega) | decide)) only [sX10_valued_0, sX10_valued_1, sX10_valued_2, sX10_valued_3, sX10_valued_6i, sX10_valued_6r, sX10_valued_6z, sX10_valued_6o, sX10_valued_7, sX10_valued_8, sX10_valued_11, sX10_valued_12, sX10_valued_15, sX10_valued_18, sX10_valued_19, sX10_valued_22, sX10_valued_23, sX10_valued_26, sX10_valued_27, sX10_valued_28, sX10_valued_29, mCk, mG0, mG1, mG2, mG3, mG4, mG5, mG6, mG7, mG8, mG9, mG10, mG11, mG12, mG13, mG14, mG15, mG16, mG17, mG18, mG19, mG20, mP2, mP5, mP6, mP7, mP9, mP11, mP14, mA1, mS1, mA2, mS2, mA3, mS3, mA4, mS4, mA5, mS5, mA6, mS6, mA7, mS7, mA8, mS8, mA9, mS9, mA10, mS10, mA11, mS11, mA12, mS12, mA13, mS13, mA14, mS14, zpush_v, zpush_n, gCk, gAi, gSi, gSz, gLi, gLq, ↓if_pos, ↓if_neg, m_owner hv hw hp ho, hq, eN_s, m_placeOf, nI_add, e2, hw2, Option.getD_some]
theorem m_valuedS {S : Sh} (hv : encS v S) (hw : WfS S) {p s : Nat} (hp : p < 6) (hs : s < S.1) (Q : Option Value → Hp → Prop) : WPm 121 [.ref M, .int (nI s), .int (nI p)] (mkM h0 M v pa pm fl tx ty ct wr it im sg sm lat hat sy nw os hgh pl asd lks) Q = Q (some (.int (nI (valS S p (some s))))) (mkM h0 M v pa pm fl tx ty ct wr it im sg sm lat hat sy nw os hgh pl asd lks) := m_valued hv hw hp (o := some s) (fun q hq => by cases hq; exact hs) Q
theorem m_valuedN {S : Sh} (hv : encS v S) (hw : WfS S) {p : Nat} (hp : p < 6) (Q : Option Value → Hp → Prop) : WPm 121 [.ref M, .int (-1), .int (nI p)] (mkM h0 M v pa pm fl tx ty ct wr it im sg sm lat hat sy nw os hgh pl asd lks) Q = Q (some (.int (nI (valS S p none)))) (mkM h0 M v pa pm fl tx ty ct wr it im sg sm lat hat sy nw os hgh pl asd lks) := m_valued hv hw hp (o := none) (fun q hq => by cases hq) Q
end MB
