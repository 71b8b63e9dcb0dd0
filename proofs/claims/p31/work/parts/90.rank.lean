/-! the lines shown at a time, in their order -/
section RK
variable {S : Sh} {L : List Ln} {off : Nat → Nat} {t : Int32}
theorem pBf_tr {a b c : Nat} (h1 : pBf S L off a b) (h2 : pBf S L off b c) : pBf S L off a c := by
  unfold pBf at *
  omega
theorem pBf_no {a b : Nat} (h1 : pBf S L off a b) (h2 : pBf S L off b a) : False := by
  unfold pBf at *
  omega
theorem pBf_ir {a : Nat} (h1 : pBf S L off a a) : False := pBf_no h1 h1
theorem pBf_tot {a b : Nat} (h : ¬ a = b) : pBf S L off a b ∨ pBf S L off b a := by
  unfold pBf
  omega
theorem cAh_mono {x y : Nat} (hx : shownP (lnA L x) t = true) (h : pBf S L off x y) : ∀ i, cAh S L off x t i + (if x < i then 1 else 0) ≤ cAh S L off y t i := by
  intro i
  induction i with
  | zero => exact Nat.le_refl 0
  | succ i ih =>
    simp only [cAh]
    by_cases c : i = x
    · subst c
      rw [if_neg (Nat.lt_irrefl i)] at ih
      rw [if_neg (fun q => q.1.1 rfl), if_pos (Nat.lt_succ_self i), if_pos ⟨⟨fun q => by subst q; exact pBf_ir h, hx⟩, h⟩]
      omega
    · have e : (if x < i + 1 then 1 else 0) = if x < i then 1 else 0 := by
        by_cases c2 : x < i
        · rw [if_pos c2, if_pos (by omega)]
        · rw [if_neg c2, if_neg (by omega)]
      rw [e]
      have g : (if (¬ i = x ∧ shownP (lnA L i) t = true) ∧ pBf S L off i x then 1 else 0) ≤ (if (¬ i = y ∧ shownP (lnA L i) t = true) ∧ pBf S L off i y then 1 else 0) := by
        by_cases c3 : (¬ i = x ∧ shownP (lnA L i) t = true) ∧ pBf S L off i x
        · rw [if_pos c3, if_pos ⟨⟨fun q => by subst q; exact pBf_no h c3.2, c3.1.2⟩, pBf_tr c3.2 h⟩]
          exact Nat.le_refl 1
        · rw [if_neg c3]
          exact Nat.zero_le _
      omega
theorem cAh_sh {x : Nat} (hx : shownP (lnA L x) t = true) : ∀ i, cAh S L off x t i + (if x < i then 1 else 0) ≤ cSh L t i := by
  intro i
  induction i with
  | zero => exact Nat.le_refl 0
  | succ i ih =>
    simp only [cAh, cSh]
    by_cases c : i = x
    · subst c
      rw [if_neg (Nat.lt_irrefl i)] at ih
      rw [if_neg (fun q => q.1.1 rfl), if_pos (Nat.lt_succ_self i), if_pos hx]
      omega
    · have e : (if x < i + 1 then 1 else 0) = if x < i then 1 else 0 := by
        by_cases c2 : x < i
        · rw [if_pos c2, if_pos (by omega)]
        · rw [if_neg c2, if_neg (by omega)]
      rw [e]
      have g : (if (¬ i = x ∧ shownP (lnA L i) t = true) ∧ pBf S L off i x then 1 else 0) ≤ (if shownP (lnA L i) t = true then 1 else 0) := by
        by_cases c3 : (¬ i = x ∧ shownP (lnA L i) t = true) ∧ pBf S L off i x
        · rw [if_pos c3, if_pos c3.1.2]
          exact Nat.le_refl 1
        · rw [if_neg c3]
          exact Nat.zero_le _
      omega
/-- the place of a line among those shown -/
abbrev rkL (S : Sh) (L : List Ln) (off : Nat → Nat) (t : Int32) (x : Nat) : Nat := cAh S L off x t L.length
theorem rk_lt {x y : Nat} (hx : shownP (lnA L x) t = true) (hl : x < L.length) (h : pBf S L off x y) : rkL S L off t x < rkL S L off t y := by
  have a := cAh_mono (S := S) (off := off) hx h L.length
  rw [if_pos hl] at a
  exact a
theorem rk_bf {x y : Nat} (hx : shownP (lnA L x) t = true) (hy : shownP (lnA L y) t = true) (hl : x < L.length) (hly : y < L.length) (h : rkL S L off t x < rkL S L off t y) : pBf S L off x y := by
  by_cases c : x = y
  · subst c
    exact absurd h (Nat.lt_irrefl _)
  · rcases pBf_tot (S := S) (L := L) (off := off) c with g | g
    · exact g
    · have := rk_lt hy hly g
      omega
theorem rk_inj {x y : Nat} (hx : shownP (lnA L x) t = true) (hy : shownP (lnA L y) t = true) (hl : x < L.length) (hly : y < L.length) (h : rkL S L off t x = rkL S L off t y) : x = y := by
  by_cases c : x = y
  · exact c
  · rcases pBf_tot (S := S) (L := L) (off := off) c with g | g
    · have := rk_lt hx hl g
      omega
    · have := rk_lt hy hly g
      omega
theorem rk_n {x : Nat} (hx : shownP (lnA L x) t = true) (hl : x < L.length) : rkL S L off t x < cSh L t L.length := by
  have a := cAh_sh (S := S) (off := off) hx L.length
  rw [if_pos hl] at a
  exact a
/-- how many of the first i are shown with place b; with a place below b -/
def eB (S : Sh) (L : List Ln) (off : Nat → Nat) (t : Int32) (b : Nat) : Nat → Nat
  | 0 => 0
  | i + 1 => eB S L off t b i + (if shownP (lnA L i) t = true ∧ rkL S L off t i = b then 1 else 0)
def tB (S : Sh) (L : List Ln) (off : Nat → Nat) (t : Int32) (b : Nat) : Nat → Nat
  | 0 => 0
  | i + 1 => tB S L off t b i + (if shownP (lnA L i) t = true ∧ rkL S L off t i < b then 1 else 0)
theorem tB_0 : ∀ i, tB S L off t 0 i = 0 := by
  intro i
  induction i with
  | zero => rfl
  | succ i ih => simp only [tB]; rw [ih, if_neg (fun q => Nat.not_lt_zero _ q.2)]
theorem tB_succ (b : Nat) : ∀ i, tB S L off t (b + 1) i = tB S L off t b i + eB S L off t b i := by
  intro i
  induction i with
  | zero => rfl
  | succ i ih =>
    simp only [tB, eB]
    rw [ih]
    by_cases c : shownP (lnA L i) t = true
    · by_cases c1 : rkL S L off t i < b
      · rw [if_pos ⟨c, by omega⟩, if_pos ⟨c, c1⟩, if_neg (fun q => by have := q.2; omega)]
        omega
      · by_cases c2 : rkL S L off t i = b
        · rw [if_pos ⟨c, by omega⟩, if_neg (fun q => c1 q.2), if_pos ⟨c, c2⟩]
          omega
        · rw [if_neg (fun q => by have := q.2; omega), if_neg (fun q => c1 q.2), if_neg (fun q => c2 q.2)]
          omega
    · rw [if_neg (fun q => c q.1), if_neg (fun q => c q.1), if_neg (fun q => c q.1)]
      omega
theorem eB_1 (b : Nat) : ∀ i, i ≤ L.length → eB S L off t b i ≤ 1 ∧ (eB S L off t b i = 1 → ∃ x, x < i ∧ shownP (lnA L x) t = true ∧ rkL S L off t x = b) := by
  intro i
  induction i with
  | zero => intro _; exact ⟨Nat.zero_le _, fun q => absurd q (by show ¬ 0 = 1; omega)⟩
  | succ i ih =>
    intro hi
    obtain ⟨h1, h2⟩ := ih (by omega)
    simp only [eB]
    by_cases c : shownP (lnA L i) t = true ∧ rkL S L off t i = b
    · rw [if_pos c]
      have z : eB S L off t b i = 0 := by
        by_cases z : eB S L off t b i = 0
        · exact z
        · obtain ⟨x, x1, x2, x3⟩ := h2 (by omega)
          have := rk_inj x2 c.1 (by omega) (by omega) (x3.trans c.2.symm)
          omega
      exact ⟨by omega, fun _ => ⟨i, by omega, c.1, c.2⟩⟩
    · rw [if_neg c]
      refine ⟨h1, fun q => ?_⟩
      obtain ⟨x, x1, x2⟩ := h2 q
      exact ⟨x, by omega, x2⟩
theorem tB_all : ∀ i, i ≤ L.length → tB S L off t (cSh L t L.length) i = cSh L t i := by
  intro i
  induction i with
  | zero => intro _; rfl
  | succ i ih =>
    intro hi
    have e := ih (by omega)
    show tB S L off t (cSh L t L.length) i + _ = cSh L t i + _
    rw [e]
    by_cases c : shownP (lnA L i) t = true
    · rw [if_pos c, if_pos ⟨c, rk_n c (by omega)⟩]
    · rw [if_neg c, if_neg (fun q => c q.1)]
/-- each place is taken -/
theorem rk_ex {k : Nat} (hk : k < cSh L t L.length) : ∃ x, x < L.length ∧ shownP (lnA L x) t = true ∧ rkL S L off t x = k := by
  by_cases z : eB S L off t k L.length = 0
  · exfalso
    have g : ∀ b, tB S L off t b L.length ≤ b ∧ (k < b → tB S L off t b L.length < b) := by
      intro b
      induction b with
      | zero => rw [tB_0]; exact ⟨Nat.le_refl 0, fun q => absurd q (Nat.not_lt_zero _)⟩
      | succ b ih =>
        have e1 := (eB_1 (S := S) (L := L) (off := off) (t := t) b L.length (Nat.le_refl _)).1
        rw [tB_succ]
        refine ⟨by omega, fun q => ?_⟩
        by_cases c : k = b
        · subst c
          omega
        · have := ih.2 (by omega)
          omega
    have a := (g (cSh L t L.length)).2 hk
    rw [tB_all L.length (Nat.le_refl _)] at a
    omega
  · obtain ⟨e1, e2⟩ := eB_1 (S := S) (L := L) (off := off) (t := t) k L.length (Nat.le_refl _)
    exact e2 (by omega)
end RK
section RL
variable {p : PS} {t : Int32}
theorem fS_in {st : Stt} (h16 : st.2.1.length ≤ 16) {k : Nat} (hk : k < 2147483648) : ∀ m i, m + i = st.2.1.length → (∃ x, i ≤ x ∧ x < st.2.1.length ∧ shownP (lnA st.2.1 x) t = true ∧ rkL st.1 st.2.1 (offC st.1 st.2.1) t x = k) → ∃ x, x < st.2.1.length ∧ (shownP (lnA st.2.1 x) t = true ∧ rkL st.1 st.2.1 (offC st.1 st.2.1) t x = k) ∧ fShown st t (nI k) m i = nI x := by
  intro m
  induction m with
  | zero => rintro i hi ⟨x, x1, x2, -⟩; omega
  | succ m ih =>
    rintro i hi ⟨x, x1, x2, x3, x4⟩
    simp only [fShown]
    by_cases c : shownP (lnA st.2.1 i) t = true ∧ nI (cAh st.1 st.2.1 (offC st.1 st.2.1) i t st.2.1.length) = nI k
    · rw [if_pos c]
      have := cAh_le (S := st.1) (L := st.2.1) (off := offC st.1 st.2.1) i t st.2.1.length
      have q : cAh st.1 st.2.1 (offC st.1 st.2.1) i t st.2.1.length = k := (nI_eq (by omega) (by omega)).mp c.2
      exact ⟨i, by omega, ⟨c.1, q⟩, rfl⟩
    · rw [if_neg c]
      refine ih (i + 1) (by omega) ⟨x, ?_, x2, x3, x4⟩
      by_cases q : x = i
      · subst q
        exact absurd ⟨x3, by rw [show cAh st.1 st.2.1 (offC st.1 st.2.1) x t st.2.1.length = k from x4]⟩ c
      · omega
theorem fS_no {st : Stt} (h16 : st.2.1.length ≤ 16) {k : Nat} (hk : k < 2147483648) : ∀ m i, m + i = st.2.1.length → (∀ x, x < st.2.1.length → shownP (lnA st.2.1 x) t = true → ¬ rkL st.1 st.2.1 (offC st.1 st.2.1) t x = k) → fShown st t (nI k) m i = -9 := by
  intro m
  induction m with
  | zero => intro i _ _; rfl
  | succ m ih =>
    intro i hi h
    simp only [fShown]
    have := cAh_le (S := st.1) (L := st.2.1) (off := offC st.1 st.2.1) i t st.2.1.length
    rw [if_neg (fun c => h i (by omega) c.1 (show cAh st.1 st.2.1 (offC st.1 st.2.1) i t st.2.1.length = k from (nI_eq (by omega) (by omega)).mp c.2))]
    exact ih (i + 1) (by omega) h
theorem q_shown_in (hw : WfP p) {k : Nat} (hk : k < cSh p.1.2.1 t p.1.2.1.length) : ∃ x, x < p.1.2.1.length ∧ (shownP (lnA p.1.2.1 x) t = true ∧ rkL p.1.1 p.1.2.1 (offC p.1.1 p.1.2.1) t x = k) ∧ qShown p t (nI k) = nI x := by
  have h16 := hw.1.2.1.1
  have c := cSh_le (L := p.1.2.1) t p.1.2.1.length
  obtain ⟨x, x1, x2, x3⟩ := rk_ex (S := p.1.1) (off := offC p.1.1 p.1.2.1) hk
  unfold qShown
  rw [if_neg (by rw [Int32.lt_iff_toInt_lt, nI_toInt (by omega), nI_toInt (by omega)]; omega)]
  exact fS_in h16 (by omega) _ 0 rfl ⟨x, by omega, x1, x2, x3⟩
theorem q_shown_no (hw : WfP p) : qShown p t (nI (cSh p.1.2.1 t p.1.2.1.length)) = -9 := by
  have h16 := hw.1.2.1.1
  have c := cSh_le (L := p.1.2.1) t p.1.2.1.length
  unfold qShown
  rw [if_neg (by rw [Int32.lt_iff_toInt_lt, nI_toInt (by omega), nI_toInt (by omega)]; omega)]
  refine fS_no h16 (by omega) _ 0 rfl (fun x hx hs q => ?_)
  have := rk_n (S := p.1.1) (off := offC p.1.1 p.1.2.1) hs hx
  omega
end RL
