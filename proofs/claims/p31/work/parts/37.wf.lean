/-! sheets stay well formed -/
section WF
variable {S : Sh}
theorem anc_congr {S T : Sh} (h : S.2.1 = T.2.1) : ∀ k o, anc S k o = anc T k o := by
  intro k
  induction k with
  | zero => intro o; rfl
  | succ k ih => intro o; simp only [anc]; rw [h, ih]
theorem WfS.setO (hw : WfS S) {s p : Nat} {v : Option Nat} (hv : ∀ x, v = some x → loP p ≤ x ∧ x ≤ hiP p) : WfS (setO S s p v) := by
  obtain ⟨h1, h2, h3, h4⟩ := hw
  refine ⟨h1, h2, fun s' hs' => ?_, fun s' hs' p' hp' x hx => ?_⟩
  · obtain ⟨k, hk⟩ := h3 s' hs'
    exact ⟨k, Eq.trans (anc_congr (T := S) (by rfl) k _) hk⟩
  · have hx : (if s' = s ∧ p' = p then v else S.2.2 s' p') = some x := hx
    split at hx
    · rename_i c
      rw [c.2]
      exact hv x hx
    · exact h4 s' hs' p' hp' x hx
theorem WfS.flat (hw : WfS S) : WfS (flatS S) := by
  refine ⟨hw.1, fun s hs q hq => ?_, fun s hs => ⟨1, rfl⟩, fun s hs p hp v hv => ?_⟩
  · have hq : (none : Option Nat) = some q := hq
    cases hq
  · have hv : some (valS S p (some s)) = some v := hv
    cases hv
    exact valS_range hw hp _
theorem chl_0 {t : Nat} : ∀ n, chl S t n = 0 → ∀ s, s < n → ¬ S.2.1 s = some t := by
  intro n
  induction n with
  | zero => intro _ s hs; omega
  | succ n ih =>
    intro h s hs
    simp only [chl] at h
    by_cases c : s = n
    · subst c
      intro q
      rw [if_pos q] at h
      omega
    · exact ih (by omega) s (by omega)
theorem WfS.drop (hw : WfS S) (hn : 0 < S.1) (hc : chl S (S.1 - 1) S.1 = 0) : WfS (S.1 - 1, S.2.1, S.2.2) := by
  obtain ⟨h1, h2, h3, h4⟩ := hw
  refine ⟨by show S.1 - 1 ≤ 10; omega, fun s hs q hq => ?_, fun s hs => ?_, fun s hs => h4 s (by have hs : s < S.1 - 1 := hs; omega)⟩
  · have hs : s < S.1 - 1 := hs
    have a := h2 s (by omega) q hq
    have b := chl_0 _ hc s (by omega)
    show q < S.1 - 1
    by_cases c : q = S.1 - 1
    · subst c
      exact absurd hq b
    · omega
  · have hs : s < S.1 - 1 := hs
    obtain ⟨k, hk⟩ := h3 s (by omega)
    exact ⟨k, Eq.trans (anc_congr (T := S) (by rfl) k _) hk⟩
theorem WfS.add (hw : WfS S) (hn : S.1 < 10) {o : Option Nat} (ho : ∀ q, o = some q → q < S.1) : WfS (addS S o) := by
  have old : ∀ s, s < S.1 → ∃ k, anc (addS S o) k (some s) = none := by
    apply par_ind hw
    intro s hs ih
    have e : (addS S o).2.1 s = S.2.1 s := if_neg (by omega)
    cases hq : S.2.1 s with
    | none => exact ⟨1, by show (addS S o).2.1 s = none; rw [e, hq]⟩
    | some q =>
      obtain ⟨k, hk⟩ := ih q hq
      exact ⟨k + 1, by show anc (addS S o) k ((addS S o).2.1 s) = none; rw [e, hq]; exact hk⟩
  obtain ⟨h1, h2, h3, h4⟩ := hw
  refine ⟨by show S.1 + 1 ≤ 10; omega, fun s hs q hq => ?_, fun s hs => ?_, fun s hs p hp v hv => ?_⟩
  · have hs : s < S.1 + 1 := hs
    have hq : (if s = S.1 then o else S.2.1 s) = some q := hq
    show q < S.1 + 1
    split at hq
    · have := ho q hq; omega
    · have := h2 s (by omega) q hq; omega
  · have hs : s < S.1 + 1 := hs
    by_cases c : s = S.1
    · subst c
      have e : (addS S o).2.1 S.1 = o := if_pos rfl
      cases hq : o with
      | none => exact ⟨1, by rw [hq] at e; exact e⟩
      | some q =>
        obtain ⟨k, hk⟩ := old q (ho q hq)
        refine ⟨k + 1, ?_⟩
        show anc (addS S (some q)) k ((addS S (some q)).2.1 S.1) = none
        rw [hq] at e hk
        rw [e]
        exact hk
    · exact old s (by omega)
  · have hs : s < S.1 + 1 := hs
    have hv : (if s = S.1 then none else S.2.2 s p) = some v := hv
    split at hv
    · cases hv
    · exact h4 s (by omega) p hp v hv
theorem WfS.par (hw : WfS S) {t : Nat} (ht : t < S.1) {o : Option Nat} (ho : ∀ q, o = some q → q < S.1) (hl : ldT S t 10 o = false) : WfS (setP S t o) := by
  have A : ∀ k o', anc S k o' = none → (∀ q, o' = some q → q < S.1) → ldT S t k o' = false → anc (setP S t o) k o' = none := by
    intro k
    induction k with
    | zero => intro o' h _ _; exact h
    | succ k ih =>
      intro o' h1 h2 h3
      cases o' with
      | none => exact anc_none _ _
      | some s =>
        have hs := h2 s rfl
        simp only [ldT] at h3
        rw [if_pos hs] at h3
        split at h3
        · cases h3
        · rename_i c
          have e : (setP S t o).2.1 s = S.2.1 s := if_neg c
          show anc (setP S t o) k ((setP S t o).2.1 s) = none
          rw [e]
          exact ih _ h1 (fun q hq => hw.2.1 s hs q hq) h3
  have h10 : anc S 10 o = none := by
    cases ho2 : o with
    | none => exact anc_none _ _
    | some q => exact anc_more (anc_end hw (ho q ho2)) hw.1
  have all : ∀ s, s < S.1 → ∃ k, anc (setP S t o) k (some s) = none := by
    apply par_ind hw
    intro s hs ih
    by_cases c : s = t
    · subst c
      have e : (setP S s o).2.1 s = o := if_pos rfl
      refine ⟨11, ?_⟩
      show anc (setP S s o) 10 ((setP S s o).2.1 s) = none
      rw [e]
      exact A 10 o h10 ho hl
    · have e : (setP S t o).2.1 s = S.2.1 s := if_neg c
      cases hq : S.2.1 s with
      | none => exact ⟨1, by show (setP S t o).2.1 s = none; rw [e, hq]⟩
      | some q =>
        obtain ⟨k, hk⟩ := ih q hq
        exact ⟨k + 1, by show anc (setP S t o) k ((setP S t o).2.1 s) = none; rw [e, hq]; exact hk⟩
  obtain ⟨h1, h2, h3, h4⟩ := hw
  refine ⟨h1, fun s hs q hq => ?_, all, h4⟩
  have hq : (if s = t then o else S.2.1 s) = some q := hq
  split at hq
  · exact ho q hq
  · exact h2 s hs q hq
end WF
