/-! law(): fit -/
def kOf : Itm → Option Nat
  | .inl _ => none
  | .inr (l, o) => if l = 107 then some (o.getD 0) else none
/-- how long the syllables of a text are -/
def kV (its : List Itm) : List Nat := its.filterMap kOf
theorem kOf_K {x : Itm} : (kOf x).isSome = isK x := by
  cases x with
  | inl c => rfl
  | inr y =>
    obtain ⟨l, o⟩ := y
    show (if l = 107 then some (o.getD 0) else none).isSome = Nat.beq l 107
    by_cases c : l = 107
    · subst c; rfl
    · rw [if_neg c]
      cases hq : Nat.beq l 107 with
      | false => rfl
      | true => exact absurd (Nat.eq_of_beq_eq_true hq) c
theorem run_kV {S : Sh} {st : Option Nat} : ∀ (its : List Itm) (r : Rd), (its.foldl (runI S st) r).2.2 = r.2.2 ++ kV its := by
  intro its
  induction its with
  | nil => intro r; simp [kV]
  | cons x its ih =>
    intro r
    rw [List.foldl_cons, ih]
    unfold kV
    cases x with
    | inl c => rfl
    | inr y =>
      obtain ⟨l, o⟩ := y
      by_cases c : l = 107
      · subst c
        simp [runI, kOf, List.filterMap_cons]
      · by_cases c2 : l = 114
        · subst c2
          simp [runI, kOf, List.filterMap_cons]
        · simp [runI, kOf, c, c2, List.filterMap_cons]
theorem rdL_kV {S : Sh} {ln : Ln} : (rdL S ln).2.2 = kV ln.2.2.2.2 := (run_kV ln.2.2.2.2 (rd0 S ln.2.2.1)).trans (List.nil_append _)
theorem lstK_some {its : List Itm} : ∀ i j, lstK its i = some j → j < i ∧ isK (its.getD j (.inl 0)) = true ∧ ∀ m, j < m → m < i → isK (its.getD m (.inl 0)) = false := by
  intro i
  induction i with
  | zero => intro j h; cases h
  | succ i ih =>
    intro j h
    simp only [lstK] at h
    by_cases c : isK (its.getD i (.inl 0)) = true
    · rw [if_pos c] at h
      cases h
      exact ⟨Nat.lt_succ_self i, c, fun m m1 m2 => by omega⟩
    · rw [if_neg c] at h
      obtain ⟨h1, h2, h3⟩ := ih j h
      refine ⟨by omega, h2, fun m m1 m2 => ?_⟩
      by_cases q : m = i
      · subst q; exact Bool.not_eq_true _ ▸ c
      · exact h3 m m1 (by omega)
theorem lstK_none {its : List Itm} : ∀ i, lstK its i = none → ∀ m, m < i → isK (its.getD m (.inl 0)) = false := by
  intro i
  induction i with
  | zero => intro h m hm; omega
  | succ i ih =>
    intro h m hm
    simp only [lstK] at h
    by_cases c : isK (its.getD i (.inl 0)) = true
    · rw [if_pos c] at h
      cases h
    · rw [if_neg c] at h
      by_cases q : m = i
      · subst q; exact Bool.not_eq_true _ ▸ c
      · exact ih h m (by omega)
theorem kV_nil {its : List Itm} (h : ∀ m, m < its.length → isK (its.getD m (.inl 0)) = false) : kV its = [] := by
  unfold kV
  rw [List.filterMap_eq_nil_iff]
  intro x hx
  obtain ⟨m, hm, rfl⟩ := List.mem_iff_getElem.mp hx
  have a := h m hm
  rw [List.getD_eq_getElem?_getD, List.getElem?_eq_getElem hm] at a
  have a : isK its[m] = false := a
  rw [← kOf_K] at a
  cases hq : kOf its[m] with
  | none => rfl
  | some v => rw [hq] at a; cases a
theorem setK_kV {its : List Itm} (h : kV its ≠ []) : ∃ A x, kV its = A ++ [x] ∧ ∀ v, kV (setK its v) = A ++ [v] := by
  cases hl : lstK its its.length with
  | none => exact absurd (kV_nil (lstK_none _ hl)) h
  | some j =>
    obtain ⟨h1, h2, h3⟩ := lstK_some _ _ hl
    have e1 : its[j]? = some its[j] := List.getElem?_eq_getElem h1
    rw [List.getD_eq_getElem?_getD, e1] at h2
    have h2 : isK its[j] = true := h2
    rw [← kOf_K] at h2
    obtain ⟨x, hx⟩ := Option.isSome_iff_exists.mp h2
    have e2 : its = its.take j ++ its[j] :: its.drop (j + 1) := by rw [List.getElem_cons_drop, List.take_append_drop]
    have e3 : kV (its.drop (j + 1)) = [] := by
      refine kV_nil (fun m hm => ?_)
      rw [List.length_drop] at hm
      have a := h3 (j + 1 + m) (by omega) (by omega)
      rw [List.getD_eq_getElem?_getD] at a ⊢
      rw [List.getElem?_drop]
      exact a
    have app : ∀ (a b : List Itm), kV (a ++ b) = kV a ++ kV b := fun a b => List.filterMap_append
    refine ⟨kV (its.take j), x, ?_, fun v => ?_⟩
    · refine (congrArg kV e2).trans ?_
      rw [app]
      congr 1
      show List.filterMap kOf (its[j] :: its.drop (j + 1)) = [x]
      rw [List.filterMap_cons, hx]
      exact congrArg (x :: ·) e3
    · unfold setK
      rw [hl]
      show kV (its.set j (.inr (107, some v))) = _
      rw [List.set_eq_take_append_cons_drop, if_pos h1, app]
      congr 1
      show List.filterMap kOf (.inr (107, some v) :: its.drop (j + 1)) = [v]
      rw [List.filterMap_cons]
      exact congrArg (v :: ·) e3
theorem noBr_setK {its : List Itm} (h : noBr its) (v : Nat) : noBr (setK its v) := by
  intro c hc
  unfold setK at hc
  split at hc
  · rcases List.mem_or_eq_of_mem_set hc with hc | hc
    · exact h c hc
    · cases hc
  · exact h c hc
theorem getD_last {A : List Nat} {x : Nat} : (A ++ [x]).getD A.length 0 = x := by simp
