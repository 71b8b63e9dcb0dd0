/-! Look.read -/
def okR (r : Rd) (n m : Nat) : Prop := r.2.1.length ≤ n ∧ r.2.2.length ≤ m ∧ (∀ p, p < 4 → r.1 p ≤ 200) ∧ (∀ x ∈ r.2.1, (∀ p, p < 4 → x.2.1 p ≤ 200) ∧ ∀ j, x.2.2 = some j → j < r.2.2.length) ∧ ∀ x ∈ r.2.2, x ≤ 9999
theorem hgS_app (sgs : List Sgn) (x : Sgn) : hgS (sgs ++ [x]) = max (hgS sgs) (x.2.1 0) := by simp [hgS]
theorem hgS_le {sgs : List Sgn} {M : Nat} (h : ∀ x ∈ sgs, x.2.1 0 ≤ M) : hgS sgs ≤ M := by
  have key : ∀ (l : List Sgn) (a : Nat), a ≤ M → (∀ x ∈ l, x.2.1 0 ≤ M) → l.foldl (fun m s => max m (s.2.1 0)) a ≤ M := by
    intro l
    induction l with
    | nil => intro a ha _; exact ha
    | cons y l ih =>
      intro a ha hl
      exact ih _ (Nat.max_le.mpr ⟨ha, hl y List.mem_cons_self⟩) (fun x hx => hl x (List.mem_cons_of_mem _ hx))
  exact key sgs 0 (Nat.zero_le _) h
theorem cntS_app (sgs : List Sgn) (x : Sgn) (k : Nat) : cntS (sgs ++ [x]) k = cntS sgs k + (if x.2.2 = some k then 1 else 0) := by
  unfold cntS
  rw [List.filter_append, List.length_append]
  congr 1
  by_cases hq : x.2.2 = some k
  · simp [hq]
  · rw [if_neg hq]
    simp [hq]
theorem cntS_le (sgs : List Sgn) (k : Nat) : cntS sgs k ≤ sgs.length := List.length_filter_le _ _
theorem sum_le {l : List Nat} {M : Nat} (h : ∀ x ∈ l, x ≤ M) : l.sum ≤ l.length * M := by
  induction l with
  | nil => simp
  | cons y l ih =>
    have h1 := h y List.mem_cons_self
    have h2 := ih (fun x hx => h x (List.mem_cons_of_mem _ hx))
    simp only [List.sum_cons, List.length_cons]
    rw [Nat.succ_mul]
    omega
theorem getD_app_l {l : List Nat} {x i d : Nat} (h : i < l.length) : (l ++ [x]).getD i d = l.getD i d := by
  simp only [List.getD_eq_getElem?_getD, List.getElem?_append_left h]
theorem getD_app_r {l : List Nat} {x d : Nat} : (l ++ [x]).getD l.length d = x := by
  simp [List.getD_eq_getElem?_getD]
theorem rTab_up {sg hd : Nat → Int32} {sgs : List Sgn} {x : Sgn} (h : rTab sg sgs) (hd4 : ∀ p, p < 4 → hd p = nI (x.2.1 p)) : rTab (sgUp sg hd (sgs.length * 6) (nI x.1) (eS x.2.2)) (sgs ++ [x]) := by
  intro i y hi
  by_cases hl : i < sgs.length
  · rw [List.getElem?_append_left hl] at hi
    obtain ⟨h1, h2, h3⟩ := h i y hi
    have e : ∀ q, q < sgs.length * 6 → sgUp sg hd (sgs.length * 6) (nI x.1) (eS x.2.2) q = sg q := by
      intro q hq
      unfold sgUp
      rw [upd_off (by omega), cpf_out (by omega), upd_off (by omega)]
    refine ⟨by rw [e _ (by omega)]; exact h1, fun p hp => by rw [e _ (by omega)]; exact h2 p hp, by rw [e _ (by omega)]; exact h3⟩
  · rw [List.getElem?_append_right (by omega)] at hi
    have hz : i - sgs.length < 1 := (List.getElem?_eq_some_iff.mp hi).1
    have hi0 : i = sgs.length := by omega
    subst hi0
    rw [Nat.sub_self] at hi
    cases hi
    unfold sgUp
    refine ⟨?_, fun p hp => ?_, ?_⟩
    · rw [upd_off (by omega), cpf_out (by omega), upd_at]
    · rw [upd_off (by omega), cpf_in (by omega), ← hd4 p hp]
      congr 1
      omega
    · rw [upd_at]
theorem okR_in {r : Rd} {n m : Nat} {S : Sh} {st : Option Nat} (c : Nat) (h : okR r n m) : okR (runI S st r (.inl c)) (n + 1) m := by
  obtain ⟨h1, h2, h3, h4, h5⟩ := h
  refine ⟨by simp [runI]; omega, h2, h3, fun x hx => ?_, h5⟩
  rcases List.mem_append.mp hx with q | q
  · exact h4 x q
  · rw [List.mem_singleton.mp q]
    refine ⟨h3, fun j hj => ?_⟩
    show j < r.2.2.length
    simp only [sylOf] at hj
    split at hj
    · cases hj
    · cases hj; omega
section RD
variable {h : Hp} {k b e g m : Nat} {o : Int32} {r : Rd} {S : Sh} {st : Option Nat}
theorem p_addSign {c n' m' : Nat} (hp : pLook h k b e g m o r) (hr : okR r n' m') (h1 : n' < 80) (h2 : m' ≤ 20) : ∃ h', Same h h' k 7 ∧ pLook h' k b e g m o (runI S st r (.inl c)) ∧ ∀ Q : Option Value → Hp → Prop, WPm 12 [.ref k, .int (nI c)] h Q = Q none h' := by
  obtain ⟨sg, sy, hd, hO, hT, hY, hH⟩ := hp
  obtain ⟨r1, r2, r3, r4, r5⟩ := hr
  have hg : hgS r.2.1 ≤ 200 := hgS_le (fun x hx => (r4 x hx).1 0 (by omega))
  obtain ⟨h', q1, q2, q3⟩ := o_X2_addSign (c := nI c) hO (by omega) (by omega) (hH 0 (by omega)) (by omega) (by have := r3 0 (by omega); omega)
  refine ⟨h', q1, ⟨sgUp sg hd (r.2.1.length * 6) (nI c) (eS (sylOf r.2.2)), (if r.2.2.length = 0 then sy else upd sy ((r.2.2.length - 1) * 3 + 2) (sy ((r.2.2.length - 1) * 3 + 2) + nI 1)), hd, ?_, ?_, ?_, hH⟩, q3⟩
  · · show oLook h' k _ _ _ _ (nI (hgS (r.2.1 ++ [(c, r.1, sylOf r.2.2)]))) o (nI (r.2.1 ++ [(c, r.1, sylOf r.2.2)]).length) _ _ _ _ _
      rw [hgS_app, List.length_append]
      exact q2
  · exact rTab_up (x := (c, r.1, sylOf r.2.2)) hT hH
  · intro i hi
    have hi : i < r.2.2.length := hi
    obtain ⟨y1, y2, y3⟩ := hY i hi
    have hc := cntS_le r.2.1 i
    show (if r.2.2.length = 0 then sy else upd sy ((r.2.2.length - 1) * 3 + 2) (sy ((r.2.2.length - 1) * 3 + 2) + nI 1)) (i * 3) = _ ∧ (if r.2.2.length = 0 then sy else upd sy ((r.2.2.length - 1) * 3 + 2) (sy ((r.2.2.length - 1) * 3 + 2) + nI 1)) (i * 3 + 1) = _ ∧ (if r.2.2.length = 0 then sy else upd sy ((r.2.2.length - 1) * 3 + 2) (sy ((r.2.2.length - 1) * 3 + 2) + nI 1)) (i * 3 + 2) = nI (cntS (r.2.1 ++ [(c, r.1, sylOf r.2.2)]) i)
    rw [cntS_app, if_neg (show ¬ r.2.2.length = 0 by omega)]
    refine ⟨by rw [upd_off (by omega)]; exact y1, by rw [upd_off (by omega)]; exact y2, ?_⟩
    have hsy : sylOf r.2.2 = some (r.2.2.length - 1) := if_neg (by omega)
    show upd sy ((r.2.2.length - 1) * 3 + 2) (sy ((r.2.2.length - 1) * 3 + 2) + nI 1) (i * 3 + 2) = nI (cntS r.2.1 i + if sylOf r.2.2 = some i then 1 else 0)
    by_cases hq : i = r.2.2.length - 1
    · rw [upd_is (by omega), if_pos (by rw [hsy, hq]), ← hq, y3, nI_add]
    · rw [upd_off (by omega), if_neg (by rw [hsy]; intro z; cases z; exact hq rfl), Nat.add_zero]
      exact y3
theorem p_addSyl {x n' m' : Nat} (hp : pLook h k b e g m o r) (hr : okR r n' m') (h1 : n' ≤ 80) (h2 : m' < 20) (hx : x ≤ 9999) (hb : b ≤ 100000) : ∃ h', Same h h' k 7 ∧ pLook h' k b e g m o (r.1, r.2.1, r.2.2 ++ [x]) ∧ ∀ Q : Option Value → Hp → Prop, WPm 13 [.ref k, .int (nI x)] h Q = Q none h' := by
  obtain ⟨sg, sy, hd, hO, hT, hY, hH⟩ := hp
  obtain ⟨r1, r2, r3, r4, r5⟩ := hr
  have hs : r.2.2.sum ≤ r.2.2.length * 9999 := sum_le r5
  obtain ⟨h', q1, q2, q3⟩ := o_X2_addSyllable (x := x) hO (by omega) (by omega) (by omega) (by omega)
  refine ⟨h', q1, ⟨sg, upd (upd (upd sy (r.2.2.length * 3) (nI (b + r.2.2.sum))) (r.2.2.length * 3 + 1) (nI x)) (r.2.2.length * 3 + 2) (nI 0), hd, ?_, hT, ?_, hH⟩, q3⟩
  · show oLook h' k _ _ _ _ _ o _ (nI (r.2.2 ++ [x]).length) (nI (r.2.2 ++ [x]).sum) _ _ _
    rw [List.length_append, List.sum_append]
    simp only [List.length_singleton, List.sum_singleton]
    exact q2
  · intro i hi
    have hi : i < (r.2.2 ++ [x]).length := hi
    rw [List.length_append, List.length_singleton] at hi
    by_cases hq : i < r.2.2.length
    · obtain ⟨y1, y2, y3⟩ := hY i hq
      show _ = nI (b + ((r.2.2 ++ [x]).take i).sum) ∧ _ = nI ((r.2.2 ++ [x]).getD i 0) ∧ _
      rw [List.take_append_of_le_length (by omega), getD_app_l hq]
      refine ⟨?_, ?_, ?_⟩
      · rw [upd_off (by omega), upd_off (by omega), upd_off (by omega)]; exact y1
      · rw [upd_off (by omega), upd_off (by omega), upd_off (by omega)]; exact y2
      · rw [upd_off (by omega), upd_off (by omega), upd_off (by omega)]; exact y3
    · have hi0 : i = r.2.2.length := by omega
      subst hi0
      show _ = nI (b + ((r.2.2 ++ [x]).take r.2.2.length).sum) ∧ _ = nI ((r.2.2 ++ [x]).getD r.2.2.length 0) ∧ _ = nI (cntS r.2.1 r.2.2.length)
      have hc : cntS r.2.1 r.2.2.length = 0 := by
        unfold cntS
        rw [List.length_eq_zero_iff, List.filter_eq_nil_iff]
        intro y hy
        simp only [beq_iff_eq]
        intro z
        exact absurd ((r4 y hy).2 _ z) (by omega)
      rw [List.take_left, getD_app_r, hc]
      refine ⟨?_, ?_, ?_⟩
      · rw [upd_off (by omega), upd_off (by omega), upd_at]
      · rw [upd_off (by omega), upd_at]
      · rw [upd_at]
theorem p_hold {a : Nat} (hp : pLook h k b e g m o r) (hS : rSheet h a S) (hw : WfS S) (hst : okO st) (hak : a + 5 ≤ k ∨ k + 7 ≤ a) : ∃ h', Same h h' k 7 ∧ pLook h' k b e g m o ((fun p => valS S p st), r.2.1, r.2.2) ∧ ∀ Q : Option Value → Hp → Prop, WPm 11 [.ref k, .int (eN st), .ref a] h Q = Q none h' := by
  obtain ⟨sg, sy, hd, hO, hT, hY, hH⟩ := hp
  refine ⟨_, Same.set (by omega) (by omega), ⟨sg, sy, _, hO.setH, hT, hY, fun p hp => ?_⟩, fun Q => m_X2_holdStyle hO hS hw hst hak Q⟩
  unfold cpf
  rw [if_pos (by omega)]
theorem p_set {q x : Nat} (hp : pLook h k b e g m o r) (hq : q < 4) : ∃ h', Same h h' k 7 ∧ pLook h' k b e g m o (updN r.1 q x, r.2.1, r.2.2) ∧ ∀ Q : Option Value → Hp → Prop, WPm 45 [.ref (k + 5), .int (nI q), .int (nI x)] h Q = Q none h' := by
  obtain ⟨sg, sy, hd, hO, hT, hY, hH⟩ := hp
  refine ⟨_, Same.set (a := k + 6) (by omega) (by omega), ⟨sg, sy, upd hd q (nI x), hO.setH, hT, hY, fun p hp => ?_⟩, fun Q => m_X5_set hO.2.2.2 (by omega) hq Q⟩
  show upd hd q (nI x) p = nI (updN r.1 q x p)
  unfold upd updN
  split
  · rfl
  · exact hH p hp
end RD
theorem m_X9_prT {h : Hp} {l : Nat} (hl : l = 115 ∨ l = 99 ∨ l = 116 ∨ l = 98) (Q : Option Value → Hp → Prop) : WPm 106 [.int (nI l)] h Q = Q (some (.int (nI (prT l)))) h := by
  rw [eX9_propertyOfTag]
  rcases hl with rfl | rfl | rfl | rfl
  all_goals simp (disch := (first | omega | assumption | (simp (disch := omega) only [Int32.lt_iff_toInt_lt, Int32.le_iff_toInt_le, ← Int32.toInt_inj, nI_toInt, zi_m1, zi_m2, zi_m3, zi_m9]; omega) | decide)) only [sX9_propertyOfTag_0, sX9_propertyOfTag_1, sX9_propertyOfTag_44, sX9_propertyOfTag_45, sX9_propertyOfTag_46, sX9_propertyOfTag_47, sX9_propertyOfTag_48, sX9_propertyOfTag_49, sX9_propertyOfTag_50, sX9_propertyOfTag_51, sX9_propertyOfTag_52, sX9_propertyOfTag_53, zpush_v, zpush_n, gCk, gAi, gSi, gLi, gLq, ↓if_pos, ↓if_neg]
  all_goals rfl
