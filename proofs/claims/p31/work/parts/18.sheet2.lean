/-! Sheet, the rest -/
theorem pigeon : ∀ (n : Nat) (f : Nat → Nat), (∀ i, i ≤ n → f i < n) → ∃ i j, i < j ∧ j ≤ n ∧ f i = f j := by
  intro n
  induction n with
  | zero => intro f h; exact absurd (h 0 (Nat.le_refl 0)) (by omega)
  | succ n ih =>
    intro f h
    by_cases hx : ∃ i, i ≤ n ∧ f i = f (n + 1)
    · obtain ⟨i, h1, h2⟩ := hx
      exact ⟨i, n + 1, by omega, Nat.le_refl _, h2⟩
    · have hne : ∀ i, i ≤ n → f i ≠ f (n + 1) := fun i h1 h2 => hx ⟨i, h1, h2⟩
      have hv := h (n + 1) (Nat.le_refl _)
      obtain ⟨i, j, h1, h2, h3⟩ := ih (fun i => if f (n + 1) < f i then f i - 1 else f i) (fun i hi => by
        have := hne i hi
        have := h i (by omega)
        show (if f (n + 1) < f i then f i - 1 else f i) < n
        split <;> omega)
      have a1 := hne i (by omega)
      have a2 := hne j (by omega)
      refine ⟨i, j, h1, by omega, ?_⟩
      split at h3 <;> split at h3 <;> omega
theorem anc_none (S : Sh) : ∀ k, anc S k none = none := by
  intro k
  induction k with
  | zero => rfl
  | succ k ih => exact ih
theorem anc_add (S : Sh) (a b : Nat) : ∀ o, anc S (a + b) o = anc S b (anc S a o) := by
  induction a with
  | zero => intro o; rw [Nat.zero_add]; rfl
  | succ a ih => intro o; rw [Nat.succ_add]; exact ih _
theorem anc_more {S : Sh} {k d : Nat} {o : Option Nat} (h : anc S k o = none) (hd : k ≤ d) : anc S d o = none := by
  obtain ⟨e, rfl⟩ := Nat.le.dest hd
  rw [anc_add, h, anc_none]
theorem anc_lt {S : Sh} (hw : ∀ s, s < S.1 → ∀ q, S.2.1 s = some q → q < S.1) : ∀ (k : Nat) (o : Option Nat), (∀ s, o = some s → s < S.1) → ∀ q, anc S k o = some q → q < S.1 := by
  intro k
  induction k with
  | zero => intro o ho q hq; exact ho q hq
  | succ k ih =>
    intro o ho q hq
    refine ih _ (fun s hs => ?_) q hq
    cases o with
    | none => cases hs
    | some t => exact hw t (ho t rfl) s hs
/-- a chain of parents ends within as many steps as there are styles -/
theorem anc_end {S : Sh} (hw : WfS S) {s : Nat} (hs : s < S.1) : anc S S.1 (some s) = none := by
  cases hq : anc S S.1 (some s) with
  | none => rfl
  | some z =>
    exfalso
    have hsome : ∀ i, i ≤ S.1 → ∃ v, anc S i (some s) = some v := by
      intro i hi
      cases hv : anc S i (some s) with
      | some v => exact ⟨v, rfl⟩
      | none => rw [anc_more hv hi] at hq; cases hq
    have hlt : ∀ i, i ≤ S.1 → (anc S i (some s)).getD 0 < S.1 := by
      intro i hi
      obtain ⟨v, hv⟩ := hsome i hi
      rw [hv]
      exact anc_lt hw.2.1 i (some s) (fun t ht => by cases ht; exact hs) v hv
    obtain ⟨i, j, h1, h2, h3⟩ := pigeon S.1 (fun i => (anc S i (some s)).getD 0) hlt
    obtain ⟨u, hu⟩ := hsome i (by omega)
    obtain ⟨w, hw2⟩ := hsome j h2
    simp only [hu, hw2, Option.getD_some] at h3
    subst h3
    obtain ⟨k, hk⟩ := hw.2.2.1 s hs
    have e1 : anc S (j - i) (some u) = some u := by
      have := anc_add S i (j - i) (some s)
      rw [show i + (j - i) = j by omega, hw2, hu] at this
      exact this.symm
    have e2 : ∀ m, anc S (m * (j - i)) (some u) = some u := by
      intro m
      induction m with
      | zero => rw [Nat.zero_mul]; rfl
      | succ m ih => rw [Nat.succ_mul, anc_add, ih]; exact e1
    have e3 : anc S k (some u) = none := by
      rw [← hu, ← anc_add]
      exact anc_more hk (by omega)
    have e4 := anc_more e3 (show k ≤ k * (j - i) from Nat.le_mul_of_pos_right k (by omega))
    rw [e2] at e4
    cases e4
theorem wk_more {S : Sh} {p : Nat} : ∀ (k d : Nat) (o : Option Nat), anc S k o = none → k ≤ d → wk S p d o = wk S p k o := by
  intro k
  induction k with
  | zero =>
    intro d o h hd
    have : o = none := h
    subst this
    cases d <;> rfl
  | succ k ih =>
    intro d o h hd
    obtain ⟨d, rfl⟩ : ∃ d', d = d' + 1 := ⟨d - 1, by omega⟩
    cases o with
    | none => rfl
    | some s =>
      simp only [wk]
      split
      · split
        · rfl
        · exact ih d _ h (by omega)
      · rfl
/-- a style's value: its own one, or its parent's -/
theorem valS_own {S : Sh} {p s v : Nat} (hs : s < S.1) (hv : S.2.2 s p = some v) : valS S p (some s) = v := by
  simp [valS, wk, hs, hv]
theorem valS_par {S : Sh} (hw : WfS S) {p s : Nat} (hs : s < S.1) (hv : S.2.2 s p = none) : valS S p (some s) = valS S p (S.2.1 s) := by
  have h1 := anc_end hw hs
  have hn := hw.1
  have h2 : wk S p 10 (some s) = wk S p 9 (S.2.1 s) := by simp [wk, hs, hv]
  have h3 : anc S 9 (S.2.1 s) = none := by
    have h4 : anc S 10 (some s) = none := anc_more h1 hn
    exact h4
  have h5 : wk S p 10 (S.2.1 s) = wk S p 9 (S.2.1 s) := wk_more 9 10 _ h3 (by omega)
  unfold valS
  rw [h2, h5]
theorem valS_none {S : Sh} {p : Nat} : valS S p none = basicN p := rfl
theorem valS_out {S : Sh} {p s : Nat} (hs : ¬ s < S.1) : valS S p (some s) = basicN p := by simp [valS, wk, hs]
/-- an induction along the parents -/
theorem par_ind {S : Sh} (hw : WfS S) (P : Nat → Prop) (h : ∀ s, s < S.1 → (∀ q, S.2.1 s = some q → P q) → P s) : ∀ s, s < S.1 → P s := by
  have key : ∀ (k s : Nat), anc S k (some s) = none → s < S.1 → P s := by
    intro k
    induction k with
    | zero => intro s hk; cases hk
    | succ k ih =>
      intro s hk hs
      refine h s hs (fun q hq => ih q ?_ (hw.2.1 s hs q hq))
      have h2 : anc S k (S.2.1 s) = none := hk
      rw [hq] at h2
      exact h2
  intro s hs
  obtain ⟨k, hk⟩ := hw.2.2.1 s hs
  exact key k s hk hs
theorem valS_range {S : Sh} (hw : WfS S) {p : Nat} (hp : p < 6) (o : Option Nat) : loP p ≤ valS S p o ∧ valS S p o ≤ hiP p := by
  have hb : loP p ≤ basicN p ∧ basicN p ≤ hiP p := by
    match p, hp with
    | 0, _ => decide
    | 1, _ => decide
    | 2, _ => decide
    | 3, _ => decide
    | 4, _ => decide
    | 5, _ => decide
    | k + 6, h => exact absurd h (by omega)
  cases hq : wk S p 10 o with
  | none => simp only [valS, hq]; exact hb
  | some q =>
    obtain ⟨q1, q2⟩ := wk_lt hq
    obtain ⟨v, hv⟩ := Option.isSome_iff_exists.mp q2
    simp only [valS, hq, hv, Option.getD_some]
    exact hw.2.2.2 q q1 p hp v hv
def ldT (S : Sh) (t : Nat) : Nat → Option Nat → Bool
  | 0, _ => false
  | _ + 1, none => false
  | k + 1, some s => if s < S.1 then (if s = t then true else ldT S t k (S.2.1 s)) else false
def cntA (S : Sh) : Nat → Option Nat → Nat
  | 0, _ => 0
  | _ + 1, none => 0
  | k + 1, some s => if s < S.1 then cntA S k (S.2.1 s) + 1 else 0
def chl (S : Sh) (t : Nat) : Nat → Nat
  | 0 => 0
  | i + 1 => chl S t i + (if S.2.1 i = some t then 1 else 0)
theorem chl_le (S : Sh) (t : Nat) : ∀ i, chl S t i ≤ i := by
  intro i
  induction i with
  | zero => exact Nat.le_refl 0
  | succ i ih => simp only [chl]; split <;> omega
theorem cntA_le (S : Sh) : ∀ k o, cntA S k o ≤ k := by
  intro k
  induction k with
  | zero => intro o; exact Nat.le_refl 0
  | succ k ih =>
    intro o
    cases o with
    | none => exact Nat.zero_le _
    | some s => simp only [cntA]; split
                · have := ih (S.2.1 s); omega
                · exact Nat.zero_le _
def bI (P : Prop) [Decidable P] : Int32 := if P then nI 1 else nI 0
section SH3
variable {h : Hp} {a : Nat} {S : Sh}
theorem l_X7_leadsTo (hS : rSheet h a S) (hw : WfS S) {t : Nat} (ht : t < 10) {x : Int32} (Q : Option Value → Hp → Prop) : ∀ (k i : Nat) (o : Option Nat), k + i = 10 → (∀ s, o = some s → s < S.1) →
    WP 64 5 [some (.ref a), some (.int x), some (.int (nI t)), some (.int (eN o)), some (.int (nI i))] [] h Q = Q (some (.int (bI (ldT S t k o = true)))) h := by
  obtain ⟨par, own, hO, hpar, hown⟩ := hS
  have h1 := hO.1
  have h2 := hO.2.1.1
  obtain ⟨hn, hpn, -, hran⟩ := hw
  intro k
  induction k with
  | zero =>
    intro i o hi ho
    rw [sX7_leadsTo_5]
    simp (disch := (first | omega | assumption | (simp (disch := omega) only [Int32.lt_iff_toInt_lt, Int32.le_iff_toInt_le, ← Int32.toInt_inj, nI_toInt, zi_m1, zi_m2, zi_m3, zi_m9]; omega) | decide)) only [sX7_leadsTo_0, sX7_leadsTo_1i, sX7_leadsTo_1r, sX7_leadsTo_1z, sX7_leadsTo_1o, sX7_leadsTo_2, sX7_leadsTo_3i, sX7_leadsTo_3r, sX7_leadsTo_3z, sX7_leadsTo_3o, sX7_leadsTo_7, sX7_leadsTo_9, sX7_leadsTo_12, sX7_leadsTo_13, sX7_leadsTo_14, sX7_leadsTo_17, sX7_leadsTo_20, sX7_leadsTo_21, sX7_leadsTo_22, sX7_leadsTo_25, sX7_leadsTo_26, sX7_leadsTo_27, sX7_leadsTo_28, sX7_leadsTo_31, sX7_leadsTo_32, sX7_leadsTo_35i, sX7_leadsTo_35r, sX7_leadsTo_35z, sX7_leadsTo_35o, sX7_leadsTo_36i, sX7_leadsTo_36r, sX7_leadsTo_36z, sX7_leadsTo_36o, sX7_leadsTo_39, sX7_leadsTo_42, sX7_leadsTo_43, gG7_0, gG7_1, gG7_2, gP7_0, gP7_1, gP7_2, gG5_0, gP5_0, zpush_v, zpush_n, gCk, gAi, gSi, gLi, gLq, ↓if_pos, ↓if_neg]
    rfl
  | succ k ih =>
    intro i o hi ho
    cases o with
    | none =>
      rw [sX7_leadsTo_5]
      simp (disch := (first | omega | assumption | (simp (disch := omega) only [Int32.lt_iff_toInt_lt, Int32.le_iff_toInt_le, ← Int32.toInt_inj, nI_toInt, zi_m1, zi_m2, zi_m3, zi_m9]; omega) | decide)) only [sX7_leadsTo_0, sX7_leadsTo_1i, sX7_leadsTo_1r, sX7_leadsTo_1z, sX7_leadsTo_1o, sX7_leadsTo_2, sX7_leadsTo_3i, sX7_leadsTo_3r, sX7_leadsTo_3z, sX7_leadsTo_3o, sX7_leadsTo_7, sX7_leadsTo_9, sX7_leadsTo_12, sX7_leadsTo_13, sX7_leadsTo_14, sX7_leadsTo_17, sX7_leadsTo_20, sX7_leadsTo_21, sX7_leadsTo_22, sX7_leadsTo_25, sX7_leadsTo_26, sX7_leadsTo_27, sX7_leadsTo_28, sX7_leadsTo_31, sX7_leadsTo_32, sX7_leadsTo_35i, sX7_leadsTo_35r, sX7_leadsTo_35z, sX7_leadsTo_35o, sX7_leadsTo_36i, sX7_leadsTo_36r, sX7_leadsTo_36z, sX7_leadsTo_36o, sX7_leadsTo_39, sX7_leadsTo_42, sX7_leadsTo_43, gG7_0, gG7_1, gG7_2, gP7_0, gP7_1, gP7_2, gG5_0, gP5_0, zpush_v, zpush_n, gCk, gAi, gSi, gLi, gLq, ↓if_pos, ↓if_neg, eN_n, h1, m_X7_hasF hO (x := -1) (Or.inl (by decide)) hn]
      rfl
    | some s =>
      have hs := ho s rfl
      have e2 := hpar s hs
      rw [sX7_leadsTo_5]
      by_cases hst : s = t
      · subst hst
        simp (disch := (first | omega | assumption | (simp (disch := omega) only [Int32.lt_iff_toInt_lt, Int32.le_iff_toInt_le, ← Int32.toInt_inj, nI_toInt, zi_m1, zi_m2, zi_m3, zi_m9]; omega) | decide)) only [sX7_leadsTo_0, sX7_leadsTo_1i, sX7_leadsTo_1r, sX7_leadsTo_1z, sX7_leadsTo_1o, sX7_leadsTo_2, sX7_leadsTo_3i, sX7_leadsTo_3r, sX7_leadsTo_3z, sX7_leadsTo_3o, sX7_leadsTo_7, sX7_leadsTo_9, sX7_leadsTo_12, sX7_leadsTo_13, sX7_leadsTo_14, sX7_leadsTo_17, sX7_leadsTo_20, sX7_leadsTo_21, sX7_leadsTo_22, sX7_leadsTo_25, sX7_leadsTo_26, sX7_leadsTo_27, sX7_leadsTo_28, sX7_leadsTo_31, sX7_leadsTo_32, sX7_leadsTo_35i, sX7_leadsTo_35r, sX7_leadsTo_35z, sX7_leadsTo_35o, sX7_leadsTo_36i, sX7_leadsTo_36r, sX7_leadsTo_36z, sX7_leadsTo_36o, sX7_leadsTo_39, sX7_leadsTo_42, sX7_leadsTo_43, gG7_0, gG7_1, gG7_2, gP7_0, gP7_1, gP7_2, gG5_0, gP5_0, zpush_v, zpush_n, gCk, gAi, gSi, gLi, gLq, ↓if_pos, ↓if_neg, eN_s, h1, m_X7_hasT hO hs hn]
        simp [ldT, hs, bI]
      · simp (disch := (first | omega | assumption | (simp (disch := omega) only [Int32.lt_iff_toInt_lt, Int32.le_iff_toInt_le, ← Int32.toInt_inj, nI_toInt, zi_m1, zi_m2, zi_m3, zi_m9]; omega) | decide)) only [sX7_leadsTo_0, sX7_leadsTo_1i, sX7_leadsTo_1r, sX7_leadsTo_1z, sX7_leadsTo_1o, sX7_leadsTo_2, sX7_leadsTo_3i, sX7_leadsTo_3r, sX7_leadsTo_3z, sX7_leadsTo_3o, sX7_leadsTo_7, sX7_leadsTo_9, sX7_leadsTo_12, sX7_leadsTo_13, sX7_leadsTo_14, sX7_leadsTo_17, sX7_leadsTo_20, sX7_leadsTo_21, sX7_leadsTo_22, sX7_leadsTo_25, sX7_leadsTo_26, sX7_leadsTo_27, sX7_leadsTo_28, sX7_leadsTo_31, sX7_leadsTo_32, sX7_leadsTo_35i, sX7_leadsTo_35r, sX7_leadsTo_35z, sX7_leadsTo_35o, sX7_leadsTo_36i, sX7_leadsTo_36r, sX7_leadsTo_36z, sX7_leadsTo_36o, sX7_leadsTo_39, sX7_leadsTo_42, sX7_leadsTo_43, gG7_0, gG7_1, gG7_2, gP7_0, gP7_1, gP7_2, gG5_0, gP5_0, zpush_v, zpush_n, gCk, gAi, gSi, gLi, gLq, ↓if_pos, ↓if_neg, eN_s, h1, h2, nI_add, m_X7_hasT hO hs hn, m_X5_get hO.2.1, e2]
        rw [ih (i + 1) (S.2.1 s) (by omega) (fun q hq => hpn s hs q hq)]
        simp only [ldT, hs, if_true, hst, if_false]
theorem m_X7_leadsTo (hS : rSheet h a S) (hw : WfS S) {t : Nat} (ht : t < 10) {o : Option Nat} (ho : ∀ s, o = some s → s < S.1) (Q : Option Value → Hp → Prop) : WPm 64 [.ref a, .int (eN o), .int (nI t)] h Q = Q (some (.int (bI (ldT S t 10 o = true)))) h := by
  rw [eX7_leadsTo]
  simp (disch := (first | omega | assumption | (simp (disch := omega) only [Int32.lt_iff_toInt_lt, Int32.le_iff_toInt_le, ← Int32.toInt_inj, nI_toInt, zi_m1, zi_m2, zi_m3, zi_m9]; omega) | decide)) only [sX7_leadsTo_0, sX7_leadsTo_1i, sX7_leadsTo_1r, sX7_leadsTo_1z, sX7_leadsTo_1o, sX7_leadsTo_2, sX7_leadsTo_3i, sX7_leadsTo_3r, sX7_leadsTo_3z, sX7_leadsTo_3o]
  exact l_X7_leadsTo hS hw ht Q 10 0 o (by omega) ho
theorem l_X7_ancestorsOf (hS : rSheet h a S) (hw : WfS S) {x : Int32} (Q : Option Value → Hp → Prop) : ∀ (k i f : Nat) (o : Option Nat), k + i = 10 → f ≤ i → (∀ s, o = some s → s < S.1) →
    WP 65 14 [some (.ref a), some (.int x), some (.int (nI f)), some (.int (eN o)), some (.int (nI i))] [] h Q = Q (some (.int (nI (f + cntA S k o)))) h := by
  obtain ⟨par, own, hO, hpar, hown⟩ := hS
  have h1 := hO.1
  have h2 := hO.2.1.1
  obtain ⟨hn, hpn, -, hran⟩ := hw
  intro k
  induction k with
  | zero =>
    intro i f o hi hf ho
    rw [sX7_ancestorsOf_14]
    simp (disch := (first | omega | assumption | (simp (disch := omega) only [Int32.lt_iff_toInt_lt, Int32.le_iff_toInt_le, ← Int32.toInt_inj, nI_toInt, zi_m1, zi_m2, zi_m3, zi_m9]; omega) | decide)) only [sX7_ancestorsOf_0, sX7_ancestorsOf_1i, sX7_ancestorsOf_1r, sX7_ancestorsOf_1z, sX7_ancestorsOf_1o, sX7_ancestorsOf_2, sX7_ancestorsOf_3, sX7_ancestorsOf_6, sX7_ancestorsOf_7, sX7_ancestorsOf_10i, sX7_ancestorsOf_10r, sX7_ancestorsOf_10z, sX7_ancestorsOf_10o, sX7_ancestorsOf_11, sX7_ancestorsOf_12i, sX7_ancestorsOf_12r, sX7_ancestorsOf_12z, sX7_ancestorsOf_12o, sX7_ancestorsOf_16, sX7_ancestorsOf_18, sX7_ancestorsOf_21, sX7_ancestorsOf_22, sX7_ancestorsOf_23, sX7_ancestorsOf_26, sX7_ancestorsOf_29i, sX7_ancestorsOf_29r, sX7_ancestorsOf_29z, sX7_ancestorsOf_29o, sX7_ancestorsOf_32, sX7_ancestorsOf_33, sX7_ancestorsOf_36, sX7_ancestorsOf_37, sX7_ancestorsOf_40i, sX7_ancestorsOf_40r, sX7_ancestorsOf_40z, sX7_ancestorsOf_40o, sX7_ancestorsOf_41i, sX7_ancestorsOf_41r, sX7_ancestorsOf_41z, sX7_ancestorsOf_41o, sX7_ancestorsOf_44, sX7_ancestorsOf_47, sX7_ancestorsOf_48, gG7_0, gG7_1, gG7_2, gP7_0, gP7_1, gP7_2, gG5_0, gP5_0, zpush_v, zpush_n, gCk, gAi, gSi, gLi, gLq, ↓if_pos, ↓if_neg]
    rfl
  | succ k ih =>
    intro i f o hi hf ho
    cases o with
    | none =>
      rw [sX7_ancestorsOf_14]
      simp (disch := (first | omega | assumption | (simp (disch := omega) only [Int32.lt_iff_toInt_lt, Int32.le_iff_toInt_le, ← Int32.toInt_inj, nI_toInt, zi_m1, zi_m2, zi_m3, zi_m9]; omega) | decide)) only [sX7_ancestorsOf_0, sX7_ancestorsOf_1i, sX7_ancestorsOf_1r, sX7_ancestorsOf_1z, sX7_ancestorsOf_1o, sX7_ancestorsOf_2, sX7_ancestorsOf_3, sX7_ancestorsOf_6, sX7_ancestorsOf_7, sX7_ancestorsOf_10i, sX7_ancestorsOf_10r, sX7_ancestorsOf_10z, sX7_ancestorsOf_10o, sX7_ancestorsOf_11, sX7_ancestorsOf_12i, sX7_ancestorsOf_12r, sX7_ancestorsOf_12z, sX7_ancestorsOf_12o, sX7_ancestorsOf_16, sX7_ancestorsOf_18, sX7_ancestorsOf_21, sX7_ancestorsOf_22, sX7_ancestorsOf_23, sX7_ancestorsOf_26, sX7_ancestorsOf_29i, sX7_ancestorsOf_29r, sX7_ancestorsOf_29z, sX7_ancestorsOf_29o, sX7_ancestorsOf_32, sX7_ancestorsOf_33, sX7_ancestorsOf_36, sX7_ancestorsOf_37, sX7_ancestorsOf_40i, sX7_ancestorsOf_40r, sX7_ancestorsOf_40z, sX7_ancestorsOf_40o, sX7_ancestorsOf_41i, sX7_ancestorsOf_41r, sX7_ancestorsOf_41z, sX7_ancestorsOf_41o, sX7_ancestorsOf_44, sX7_ancestorsOf_47, sX7_ancestorsOf_48, gG7_0, gG7_1, gG7_2, gP7_0, gP7_1, gP7_2, gG5_0, gP5_0, zpush_v, zpush_n, gCk, gAi, gSi, gLi, gLq, ↓if_pos, ↓if_neg, eN_n, h1, m_X7_hasF hO (x := -1) (Or.inl (by decide)) hn]
      rfl
    | some s =>
      have hs := ho s rfl
      have e2 := hpar s hs
      rw [sX7_ancestorsOf_14]
      simp (disch := (first | omega | assumption | (simp (disch := omega) only [Int32.lt_iff_toInt_lt, Int32.le_iff_toInt_le, ← Int32.toInt_inj, nI_toInt, zi_m1, zi_m2, zi_m3, zi_m9]; omega) | decide)) only [sX7_ancestorsOf_0, sX7_ancestorsOf_1i, sX7_ancestorsOf_1r, sX7_ancestorsOf_1z, sX7_ancestorsOf_1o, sX7_ancestorsOf_2, sX7_ancestorsOf_3, sX7_ancestorsOf_6, sX7_ancestorsOf_7, sX7_ancestorsOf_10i, sX7_ancestorsOf_10r, sX7_ancestorsOf_10z, sX7_ancestorsOf_10o, sX7_ancestorsOf_11, sX7_ancestorsOf_12i, sX7_ancestorsOf_12r, sX7_ancestorsOf_12z, sX7_ancestorsOf_12o, sX7_ancestorsOf_16, sX7_ancestorsOf_18, sX7_ancestorsOf_21, sX7_ancestorsOf_22, sX7_ancestorsOf_23, sX7_ancestorsOf_26, sX7_ancestorsOf_29i, sX7_ancestorsOf_29r, sX7_ancestorsOf_29z, sX7_ancestorsOf_29o, sX7_ancestorsOf_32, sX7_ancestorsOf_33, sX7_ancestorsOf_36, sX7_ancestorsOf_37, sX7_ancestorsOf_40i, sX7_ancestorsOf_40r, sX7_ancestorsOf_40z, sX7_ancestorsOf_40o, sX7_ancestorsOf_41i, sX7_ancestorsOf_41r, sX7_ancestorsOf_41z, sX7_ancestorsOf_41o, sX7_ancestorsOf_44, sX7_ancestorsOf_47, sX7_ancestorsOf_48, gG7_0, gG7_1, gG7_2, gP7_0, gP7_1, gP7_2, gG5_0, gP5_0, zpush_v, zpush_n, gCk, gAi, gSi, gLi, gLq, ↓if_pos, ↓if_neg, eN_s, h1, h2, nI_add, m_X7_hasT hO hs hn, m_X5_get hO.2.1, e2]
      rw [ih (i + 1) (f + 1) (S.2.1 s) (by omega) (by omega) (fun q hq => hpn s hs q hq)]
      simp only [cntA, hs, if_true]
      rw [show f + 1 + cntA S k (S.2.1 s) = f + (cntA S k (S.2.1 s) + 1) by omega]
theorem m_X7_ancestorsOf (hS : rSheet h a S) (hw : WfS S) {s : Nat} (hs : s < S.1) (Q : Option Value → Hp → Prop) : WPm 65 [.ref a, .int (nI s)] h Q = Q (some (.int (nI (cntA S 10 (S.2.1 s))))) h := by
  have hS' := hS
  obtain ⟨par, own, hO, hpar, hown⟩ := hS
  have h1 := hO.1
  have h2 := hO.2.1.1
  have e2 := hpar s hs
  have hn := hw.1
  rw [eX7_ancestorsOf]
  simp (disch := (first | omega | assumption | (simp (disch := omega) only [Int32.lt_iff_toInt_lt, Int32.le_iff_toInt_le, ← Int32.toInt_inj, nI_toInt, zi_m1, zi_m2, zi_m3, zi_m9]; omega) | decide)) only [sX7_ancestorsOf_0, sX7_ancestorsOf_1i, sX7_ancestorsOf_1r, sX7_ancestorsOf_1z, sX7_ancestorsOf_1o, sX7_ancestorsOf_2, sX7_ancestorsOf_3, sX7_ancestorsOf_6, sX7_ancestorsOf_7, sX7_ancestorsOf_10i, sX7_ancestorsOf_10r, sX7_ancestorsOf_10z, sX7_ancestorsOf_10o, sX7_ancestorsOf_11, sX7_ancestorsOf_12i, sX7_ancestorsOf_12r, sX7_ancestorsOf_12z, sX7_ancestorsOf_12o, gG7_0, gG7_1, gG7_2, gP7_0, gP7_1, gP7_2, gG5_0, gP5_0, zpush_v, zpush_n, gCk, gAi, gSi, gLi, gLq, ↓if_pos, ↓if_neg, h1, h2, m_X5_get hO.2.1, e2]
  rw [l_X7_ancestorsOf hS' hw Q 10 0 0 _ (by omega) (by omega) (fun q hq => hw.2.1 s hs q hq), Nat.zero_add]
theorem l_X7_childrenOf (hS : rSheet h a S) (hw : WfS S) {t : Nat} (ht : t < 10) (Q : Option Value → Hp → Prop) : ∀ (m i : Nat), m + i = S.1 →
    WP 66 4 [some (.ref a), some (.int (nI t)), some (.int (nI (chl S t i))), some (.int (nI i))] [] h Q = Q (some (.int (nI (chl S t S.1)))) h := by
  obtain ⟨par, own, hO, hpar, hown⟩ := hS
  have h1 := hO.1
  have h2 := hO.2.1.1
  obtain ⟨hn, hpn, -, hran⟩ := hw
  intro m
  induction m with
  | zero =>
    intro i hi
    have hi : i = S.1 := by omega
    subst hi
    rw [sX7_childrenOf_4]
    simp (disch := (first | omega | assumption | (simp (disch := omega) only [Int32.lt_iff_toInt_lt, Int32.le_iff_toInt_le, ← Int32.toInt_inj, nI_toInt, zi_m1, zi_m2, zi_m3, zi_m9]; omega) | decide)) only [sX7_childrenOf_0, sX7_childrenOf_1i, sX7_childrenOf_1r, sX7_childrenOf_1z, sX7_childrenOf_1o, sX7_childrenOf_2, sX7_childrenOf_3i, sX7_childrenOf_3r, sX7_childrenOf_3z, sX7_childrenOf_3o, sX7_childrenOf_5, sX7_childrenOf_6, sX7_childrenOf_9, sX7_childrenOf_12, sX7_childrenOf_13, sX7_childrenOf_16, sX7_childrenOf_17, sX7_childrenOf_20, sX7_childrenOf_21, sX7_childrenOf_24i, sX7_childrenOf_24r, sX7_childrenOf_24z, sX7_childrenOf_24o, sX7_childrenOf_27i, sX7_childrenOf_27r, sX7_childrenOf_27z, sX7_childrenOf_27o, sX7_childrenOf_30, sX7_childrenOf_33, sX7_childrenOf_34, gG7_0, gG7_1, gG7_2, gP7_0, gP7_1, gP7_2, gG5_0, gP5_0, zpush_v, zpush_n, gCk, gAi, gSi, gLi, gLq, ↓if_pos, ↓if_neg, h1]
  | succ m ih =>
    intro i hi
    have e2 := hpar i (by omega)
    have hc := chl_le S t i
    rw [sX7_childrenOf_4]
    by_cases hp : S.2.1 i = some t
    · rw [hp, eN_s] at e2
      simp (disch := (first | omega | assumption | (simp (disch := omega) only [Int32.lt_iff_toInt_lt, Int32.le_iff_toInt_le, ← Int32.toInt_inj, nI_toInt, zi_m1, zi_m2, zi_m3, zi_m9]; omega) | decide)) only [sX7_childrenOf_0, sX7_childrenOf_1i, sX7_childrenOf_1r, sX7_childrenOf_1z, sX7_childrenOf_1o, sX7_childrenOf_2, sX7_childrenOf_3i, sX7_childrenOf_3r, sX7_childrenOf_3z, sX7_childrenOf_3o, sX7_childrenOf_5, sX7_childrenOf_6, sX7_childrenOf_9, sX7_childrenOf_12, sX7_childrenOf_13, sX7_childrenOf_16, sX7_childrenOf_17, sX7_childrenOf_20, sX7_childrenOf_21, sX7_childrenOf_24i, sX7_childrenOf_24r, sX7_childrenOf_24z, sX7_childrenOf_24o, sX7_childrenOf_27i, sX7_childrenOf_27r, sX7_childrenOf_27z, sX7_childrenOf_27o, sX7_childrenOf_30, sX7_childrenOf_33, sX7_childrenOf_34, gG7_0, gG7_1, gG7_2, gP7_0, gP7_1, gP7_2, gG5_0, gP5_0, zpush_v, zpush_n, gCk, gAi, gSi, gLi, gLq, ↓if_pos, ↓if_neg, h1, h2, nI_add, m_X5_get hO.2.1, e2]
      rw [← ih (i + 1) (by omega)]
      simp only [chl, hp, if_true]
    · have hne : ¬ eN (S.2.1 i) = nI t := by
        cases hq : S.2.1 i with
        | none => intro q; exact nI_nm1 (by omega) q.symm
        | some w =>
          have := hpn i (by omega) w hq
          intro q
          rw [eN_s, nI_eq (by omega) (by omega)] at q
          rw [hq, q] at hp
          exact hp rfl
      simp (disch := (first | omega | assumption | (simp (disch := omega) only [Int32.lt_iff_toInt_lt, Int32.le_iff_toInt_le, ← Int32.toInt_inj, nI_toInt, zi_m1, zi_m2, zi_m3, zi_m9]; omega) | decide)) only [sX7_childrenOf_0, sX7_childrenOf_1i, sX7_childrenOf_1r, sX7_childrenOf_1z, sX7_childrenOf_1o, sX7_childrenOf_2, sX7_childrenOf_3i, sX7_childrenOf_3r, sX7_childrenOf_3z, sX7_childrenOf_3o, sX7_childrenOf_5, sX7_childrenOf_6, sX7_childrenOf_9, sX7_childrenOf_12, sX7_childrenOf_13, sX7_childrenOf_16, sX7_childrenOf_17, sX7_childrenOf_20, sX7_childrenOf_21, sX7_childrenOf_24i, sX7_childrenOf_24r, sX7_childrenOf_24z, sX7_childrenOf_24o, sX7_childrenOf_27i, sX7_childrenOf_27r, sX7_childrenOf_27z, sX7_childrenOf_27o, sX7_childrenOf_30, sX7_childrenOf_33, sX7_childrenOf_34, gG7_0, gG7_1, gG7_2, gP7_0, gP7_1, gP7_2, gG5_0, gP5_0, zpush_v, zpush_n, gCk, gAi, gSi, gLi, gLq, ↓if_pos, ↓if_neg, h1, h2, nI_add, m_X5_get hO.2.1, e2]
      rw [← ih (i + 1) (by omega)]
      simp only [chl, hp, if_false, Nat.add_zero]
theorem m_X7_childrenOf (hS : rSheet h a S) (hw : WfS S) {t : Nat} (ht : t < 10) (Q : Option Value → Hp → Prop) : WPm 66 [.ref a, .int (nI t)] h Q = Q (some (.int (nI (chl S t S.1)))) h := by
  rw [eX7_childrenOf]
  simp (disch := (first | omega | assumption | (simp (disch := omega) only [Int32.lt_iff_toInt_lt, Int32.le_iff_toInt_le, ← Int32.toInt_inj, nI_toInt, zi_m1, zi_m2, zi_m3, zi_m9]; omega) | decide)) only [sX7_childrenOf_0, sX7_childrenOf_1i, sX7_childrenOf_1r, sX7_childrenOf_1z, sX7_childrenOf_1o, sX7_childrenOf_2, sX7_childrenOf_3i, sX7_childrenOf_3r, sX7_childrenOf_3z, sX7_childrenOf_3o]
  exact l_X7_childrenOf hS hw ht Q S.1 0 (by omega)
end SH3
