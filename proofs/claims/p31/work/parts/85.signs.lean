/-! signs and syllables as a line's text gives them -/
abbrev sg0 : Sgn := (0, (fun _ => 0), none)
def okH (f : Nat → Nat) : Prop := (1 ≤ f 0 ∧ f 0 ≤ 99) ∧ f 1 ≤ 7 ∧ f 2 ≤ 7 ∧ f 3 ≤ 1
def okGs (x : Sgn) (m : Nat) : Prop := okH x.2.1 ∧ ((32 ≤ x.1 ∧ x.1 ≤ 126) ∧ x.1 ≠ 123) ∧ ∀ a, x.2.2 = some a → a < m
/-- what holds of signs and syllables at each place of a text -/
def okG (r : Rd) : Prop := okH r.1 ∧ (∀ x ∈ r.2.1, okGs x r.2.2.length) ∧ ∀ i x y, r.2.1[i]? = some x → r.2.1[i + 1]? = some y → ∀ a, x.2.2 = some a → ∃ b, y.2.2 = some b ∧ a ≤ b
/-- no sign of the text is a bracket -/
def noBr (its : List Itm) : Prop := ∀ c, Sum.inl c ∈ its → c ≠ 123
theorem okH_val {S : Sh} (hw : WfS S) (o : Option Nat) : okH (fun p => valS S p o) := by
  have h0 := valS_range hw (p := 0) (by omega) o
  have h1 := valS_range hw (p := 1) (by omega) o
  have h2 := valS_range hw (p := 2) (by omega) o
  have h3 := valS_range hw (p := 3) (by omega) o
  exact ⟨h0, h1.2, h2.2, h3.2⟩
theorem okH_upd {f : Nat → Nat} {q v : Nat} (h : okH f) (hv : (q = 0 ∧ 1 ≤ v ∧ v ≤ 99) ∨ (q = 1 ∧ v ≤ 7) ∨ (q = 2 ∧ v ≤ 7) ∨ (q = 3 ∧ v ≤ 1)) : okH (updN f q v) := by
  obtain ⟨h1, h2, h3, h4⟩ := h
  unfold okH updN
  rcases hv with ⟨rfl, hv⟩ | ⟨rfl, hv⟩ | ⟨rfl, hv⟩ | ⟨rfl, hv⟩
  · exact ⟨hv, h2, h3, h4⟩
  · exact ⟨h1, hv, h3, h4⟩
  · exact ⟨h1, h2, hv, h4⟩
  · exact ⟨h1, h2, h3, hv⟩
theorem okGs.more {x : Sgn} {m m' : Nat} (h : okGs x m) (hm : m ≤ m') : okGs x m' := ⟨h.1, h.2.1, fun a ha => Nat.lt_of_lt_of_le (h.2.2 a ha) hm⟩
theorem okG.step {S : Sh} (hw : WfS S) {st : Option Nat} {r : Rd} {it : Itm} (h : okG r) (hi : okI it) (hb : ∀ c, it = .inl c → c ≠ 123) : okG (runI S st r it) := by
  obtain ⟨h1, h2, h3⟩ := h
  match it, hi, hb with
  | .inl c, hi, hb =>
    have hs : ∀ a, sylOf r.2.2 = some a → a < r.2.2.length ∧ a + 1 = r.2.2.length := by
      intro a ha
      unfold sylOf at ha
      split at ha
      · cases ha
      · cases ha
        omega
    refine ⟨h1, fun x hx => ?_, fun i x y hx hy a ha => ?_⟩
    · have hx : x ∈ r.2.1 ++ [(c, r.1, sylOf r.2.2)] := hx
      rcases List.mem_append.mp hx with hx | hx
      · exact h2 x hx
      · rw [List.mem_singleton.mp hx]
        exact ⟨h1, ⟨hi, hb c rfl⟩, fun a ha => (hs a ha).1⟩
    · have hx : (r.2.1 ++ [(c, r.1, sylOf r.2.2)])[i]? = some x := hx
      have hy : (r.2.1 ++ [(c, r.1, sylOf r.2.2)])[i + 1]? = some y := hy
      have hl := (List.getElem?_eq_some_iff.mp hy).1
      rw [List.length_append] at hl
      have hl : i + 1 < r.2.1.length + 1 := hl
      rw [List.getElem?_append_left (by omega)] at hx
      by_cases hc : i + 1 < r.2.1.length
      · rw [List.getElem?_append_left hc] at hy
        exact h3 i x y hx hy a ha
      · rw [List.getElem?_append_right (by omega), show i + 1 - r.2.1.length = 0 by omega] at hy
        cases hy
        have h4 := (h2 x (List.mem_of_getElem? hx)).2.2 a ha
        refine ⟨r.2.2.length - 1, ?_, by omega⟩
        show sylOf r.2.2 = _
        unfold sylOf
        rw [if_neg (by omega)]
  | .inr (l, o), hi, hb =>
    simp only [runI]
    split
    · exact ⟨h1, fun x hx => (h2 x hx).more (by show r.2.2.length ≤ (r.2.2 ++ [o.getD 0]).length; rw [List.length_append]; omega), h3⟩
    · next c1 =>
      split
      · exact ⟨okH_val hw _, h2, h3⟩
      · next c2 =>
        refine ⟨okH_upd h1 ?_, h2, h3⟩
        rcases hi with ⟨rfl, -⟩ | ⟨rfl, -⟩ | ⟨rfl, n, rfl, hn⟩ | ⟨rfl, n, rfl, hn⟩ | ⟨rfl, n, rfl, hn⟩ | ⟨rfl, n, rfl, hn⟩
        · exact absurd rfl c2
        · exact absurd rfl c1
        · exact Or.inl ⟨rfl, hn⟩
        · exact Or.inr (Or.inl ⟨rfl, hn⟩)
        · exact Or.inr (Or.inr (Or.inl ⟨rfl, hn⟩))
        · exact Or.inr (Or.inr (Or.inr ⟨rfl, hn⟩))
theorem okG_run {S : Sh} (hw : WfS S) {st : Option Nat} : ∀ (its : List Itm) (r : Rd), okG r → (∀ x ∈ its, okI x) → noBr its → okG (its.foldl (runI S st) r) := by
  intro its
  induction its with
  | nil => intro r h _ _; exact h
  | cons x its ih =>
    intro r h hx hb
    exact ih _ (h.step hw (hx x List.mem_cons_self) (fun c hc => hb c (by rw [hc]; exact List.mem_cons_self))) (fun y hy => hx y (List.mem_cons_of_mem _ hy)) (fun c hc => hb c (List.mem_cons_of_mem _ hc))
theorem okG_rdL {S : Sh} {ln : Ln} (hw : WfS S) (hok : WfL ln) (hb : noBr ln.2.2.2.2) : okG (rdL S ln) := by
  refine okG_run hw _ _ ⟨okH_val hw _, fun x hx => (by cases hx), fun i x y hx => (by cases hx)⟩ hok.2.2.2.2.2.1 hb
/-- how many signs belong to a syllable -/
def bel (l : List Sgn) : Nat := (l.filter (fun x => x.2.2.isSome)).length
def cK (l : List Sgn) : Nat → Nat
  | 0 => 0
  | k + 1 => cK l k + cntS l k
theorem bel_le (l : List Sgn) : bel l ≤ l.length := List.length_filter_le _ _
theorem bel_app (l : List Sgn) (x : Sgn) : bel (l ++ [x]) = bel l + (if x.2.2.isSome = true then 1 else 0) := by
  unfold bel
  rw [List.filter_append, List.length_append]
  cases hq : x.2.2.isSome <;> simp [hq]
theorem bel_cons (l : List Sgn) (x : Sgn) : bel (x :: l) = bel l + (if x.2.2.isSome = true then 1 else 0) := by
  unfold bel
  rw [List.filter_cons]
  cases hq : x.2.2.isSome <;> simp
theorem cntS_cons (l : List Sgn) (x : Sgn) (k : Nat) : cntS (x :: l) k = cntS l k + (if x.2.2 = some k then 1 else 0) := by
  unfold cntS
  rw [List.filter_cons]
  by_cases hq : x.2.2 = some k
  · rw [if_pos hq, if_pos (by rw [hq]; simp)]
    rfl
  · rw [if_neg hq, if_neg (by simpa using hq)]
    rfl
theorem cK_cons (l : List Sgn) (x : Sgn) : ∀ m, cK (x :: l) m = cK l m + (match x.2.2 with
    | none => 0
    | some a => if a < m then 1 else 0) := by
  intro m
  induction m with
  | zero =>
    cases x.2.2 with
    | none => rfl
    | some a => simp [cK]
  | succ m ih =>
    simp only [cK]
    rw [ih, cntS_cons]
    cases hq : x.2.2 with
    | none => simp
    | some a =>
      simp only [Option.some.injEq]
      by_cases c1 : a < m
      · rw [if_pos c1, if_neg (by omega), if_pos (by omega)]; omega
      · by_cases c2 : a = m
        · rw [if_neg c1, if_pos c2, if_pos (by omega)]; omega
        · rw [if_neg c1, if_neg c2, if_neg (by omega)]; omega
theorem cK_bel (m : Nat) : ∀ l : List Sgn, (∀ x ∈ l, ∀ a, x.2.2 = some a → a < m) → cK l m = bel l := by
  intro l
  induction l with
  | nil =>
    intro _
    have g : ∀ k, cK [] k = 0 := by
      intro k
      induction k with
      | zero => rfl
      | succ k ih => simp only [cK]; rw [ih]; rfl
    exact g m
  | cons x l ih =>
    intro h
    rw [cK_cons, bel_cons, ih (fun y hy => h y (List.mem_cons_of_mem _ hy))]
    cases hq : x.2.2 with
    | none => rfl
    | some a =>
      simp only [Option.isSome_some, if_true]
      rw [if_pos (h x List.mem_cons_self a hq)]
theorem cK_le (l : List Sgn) : ∀ m, cK l m ≤ l.length * m := by
  intro m
  induction m with
  | zero => exact Nat.zero_le _
  | succ m ih =>
    have := cntS_le l m
    simp only [cK]
    rw [Nat.mul_add]
    omega
theorem take_sum {l : List Nat} {k : Nat} (hk : k < l.length) : (l.take (k + 1)).sum = (l.take k).sum + l.getD k 0 := by
  rw [List.take_succ, List.sum_append, List.getElem?_eq_getElem hk]
  simp [List.getD, List.getElem?_eq_getElem hk]
theorem take_sum_le {l : List Nat} (k : Nat) : (l.take k).sum ≤ l.sum := by
  have h : (l.take k).sum + (l.drop k).sum = l.sum := by rw [← List.sum_append, List.take_append_drop]
  omega
theorem take_snoc {α : Type} {l : List α} {k : Nat} {x : α} (hk : l[k]? = some x) : l.take (k + 1) = l.take k ++ [x] := by
  rw [List.take_succ, hk]
  rfl
