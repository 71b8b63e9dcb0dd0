/-! Places: what the offsets of lines are -/
/-- how many, begin, end, group, height, margin -/
abbrev PD : Type := Nat × (Nat → Nat) × (Nat → Nat) × (Nat → Nat) × (Nat → Nat) × (Nat → Nat)
abbrev pBef (bg : Nat → Nat) (i j : Nat) : Prop := bg i < bg j ∨ (bg i = bg j ∧ i < j)
abbrev pHit (D : PD) (off : Nat → Nat) (j i o : Nat) : Prop := D.2.2.2.1 j = D.2.2.2.1 i ∧ D.2.1 i < D.2.2.1 j ∧ o < off j + D.2.2.2.2.1 j ∧ off j < o + D.2.2.2.2.1 i
def pBlk (D : PD) (off : Nat → Nat) (i o : Nat) : Prop := ∃ j, j < D.1 ∧ pBef D.2.1 j i ∧ pHit D off j i o
def pOne (D : PD) (off : Nat → Nat) (i : Nat) : Prop := D.2.2.2.2.2 i ≤ off i ∧ ¬ pBlk D off i (off i) ∧ ∀ o, D.2.2.2.2.2 i ≤ o → o < off i → pBlk D off i o
def pOff (D : PD) (off : Nat → Nat) : Prop := ∀ i, i < D.1 → pOne D off i
section PL
variable {D : PD} {off off' : Nat → Nat}
theorem pBlk_congr {i : Nat} (h : ∀ j, j < D.1 → pBef D.2.1 j i → off j = off' j) (o : Nat) : pBlk D off i o ↔ pBlk D off' i o := by
  constructor
  · rintro ⟨j, h1, h2, h3⟩
    refine ⟨j, h1, h2, ?_⟩
    have := h j h1 h2
    unfold pHit at h3 ⊢
    rw [← this]
    exact h3
  · rintro ⟨j, h1, h2, h3⟩
    refine ⟨j, h1, h2, ?_⟩
    have := h j h1 h2
    unfold pHit at h3 ⊢
    rw [this]
    exact h3
theorem pOne_congr {i : Nat} (h : ∀ j, j < D.1 → pBef D.2.1 j i → off j = off' j) (hi : off i = off' i) (h1 : pOne D off i) : pOne D off' i := by
  obtain ⟨a1, a2, a3⟩ := h1
  refine ⟨hi ▸ a1, fun c => a2 ?_, fun o o1 o2 => ?_⟩
  · rw [hi]
    exact (pBlk_congr h _).mpr c
  · exact (pBlk_congr h _).mp (a3 o o1 (by omega))
theorem pBef_lt {i j : Nat} (hi : i < D.1) (hb : pBef D.2.1 i j) : D.2.1 i * D.1 + i < D.2.1 j * D.1 + j := by
  rcases hb with h | ⟨h1, h2⟩
  · have := Nat.mul_le_mul_right D.1 h
    rw [Nat.succ_mul] at this
    omega
  · rw [h1]
    omega
theorem pOne_uniq {i : Nat} (h : ∀ j, j < D.1 → pBef D.2.1 j i → off j = off' j) (h1 : pOne D off i) (h2 : pOne D off' i) : off i = off' i := by
  obtain ⟨a1, a2, a3⟩ := h1
  obtain ⟨b1, b2, b3⟩ := h2
  rcases Nat.lt_trichotomy (off i) (off' i) with c | c | c
  · exact absurd ((pBlk_congr h _).mpr (b3 _ a1 c)) a2
  · exact c
  · exact absurd ((pBlk_congr h _).mp (a3 _ b1 c)) b2
theorem pOff_uniq (h1 : pOff D off) (h2 : pOff D off') : ∀ i, i < D.1 → off i = off' i := by
  have : ∀ m i, i < D.1 → D.2.1 i * D.1 + i < m → off i = off' i := by
    intro m
    induction m with
    | zero => intro i _ h; omega
    | succ m ih =>
      intro i hi hm
      exact pOne_uniq (fun j hj hb => ih j hj (by have := pBef_lt hj hb; omega)) (h1 i hi) (h2 i hi)
  exact fun i hi => this _ i hi (Nat.lt_succ_self _)
theorem least_free (P : Nat → Prop) : ∀ (d a : Nat), ¬ P (a + d) → ∃ r, a ≤ r ∧ ¬ P r ∧ (∀ o, a ≤ o → o < r → P o) ∧ r ≤ a + d := by
  intro d
  induction d with
  | zero =>
    intro a h
    exact ⟨a, Nat.le_refl a, h, fun o h1 h2 => by omega, by omega⟩
  | succ d ih =>
    intro a h
    by_cases c : P a
    · obtain ⟨r, r1, r2, r3, r4⟩ := ih (a + 1) (by rw [show a + 1 + d = a + (d + 1) by omega]; exact h)
      refine ⟨r, by omega, r2, fun o o1 o2 => ?_, by omega⟩
      by_cases e : o = a
      · subst e
        exact c
      · exact r3 o (by omega) o2
    · exact ⟨a, Nat.le_refl a, c, fun o h1 h2 => by omega, by omega⟩
/-- how many come before -/
def pRk (bg : Nat → Nat) (i : Nat) : Nat → Nat
  | 0 => 0
  | m + 1 => pRk bg i m + (if pBef bg m i then 1 else 0)
theorem pRk_mono {bg : Nat → Nat} {i j : Nat} (hb : pBef bg j i) : ∀ m, pRk bg j m ≤ pRk bg i m ∧ (j < m → pRk bg j m < pRk bg i m) := by
  intro m
  induction m with
  | zero => exact ⟨Nat.le_refl _, fun h => by omega⟩
  | succ m ih =>
    obtain ⟨i1, i2⟩ := ih
    simp only [pRk]
    by_cases c : pBef bg m j
    · have c2 : pBef bg m i := by
        unfold pBef at c hb ⊢
        omega
      rw [if_pos c, if_pos c2]
      exact ⟨by omega, fun h => by
        by_cases e : m = j
        · subst e
          unfold pBef at c
          omega
        · have := i2 (by omega)
          omega⟩
    · rw [if_neg c]
      by_cases e : m = j
      · subst e
        rw [if_pos hb]
        exact ⟨by omega, fun _ => by omega⟩
      · refine ⟨by split <;> omega, fun h => ?_⟩
        have := i2 (by omega)
        split <;> omega
theorem pOff_ex (D : PD) (hm : ∀ i, D.2.2.2.2.2 i ≤ 200) (hh : ∀ i, D.2.2.2.2.1 i ≤ 200) : ∃ off, pOff D off ∧ ∀ i, i < D.1 → off i ≤ 200 + 200 * pRk D.2.1 i D.1 := by
  have key : ∀ K, ∃ off, ∀ i, i < D.1 → pRk D.2.1 i D.1 < K → pOne D off i ∧ off i ≤ 200 + 200 * pRk D.2.1 i D.1 := by
    intro K
    induction K with
    | zero => exact ⟨fun _ => 0, fun i _ h => by omega⟩
    | succ K ih =>
      obtain ⟨off, ho⟩ := ih
      have ex : ∀ i, i < D.1 → pRk D.2.1 i D.1 = K → ∃ r, D.2.2.2.2.2 i ≤ r ∧ ¬ pBlk D off i r ∧ (∀ o, D.2.2.2.2.2 i ≤ o → o < r → pBlk D off i o) ∧ r ≤ 200 + 200 * pRk D.2.1 i D.1 := by
        intro i hi hk
        have := hm i
        obtain ⟨r, r1, r2, r3, r4⟩ := least_free (pBlk D off i) (200 + 200 * K - D.2.2.2.2.2 i) (D.2.2.2.2.2 i) (by
          rintro ⟨j, j1, j2, j3⟩
          have a1 := (pRk_mono j2 D.1).2 j1
          have a2 := (ho j j1 (by omega)).2
          have a3 := hh j
          have a4 := j3.2.2.1
          omega)
        exact ⟨r, r1, r2, r3, by omega⟩
      refine ⟨fun i => if h : i < D.1 ∧ pRk D.2.1 i D.1 = K then (ex i h.1 h.2).choose else off i, fun i hi hk => ?_⟩
      have old : ∀ j, j < D.1 → pBef D.2.1 j i → off j = (fun i => if h : i < D.1 ∧ pRk D.2.1 i D.1 = K then (ex i h.1 h.2).choose else off i) j := by
        intro j hj hb
        have a1 := (pRk_mono hb D.1).2 hj
        show off j = dite _ _ _
        rw [dif_neg (by omega)]
      by_cases c : pRk D.2.1 i D.1 = K
      · have hd : (fun i => if h : i < D.1 ∧ pRk D.2.1 i D.1 = K then (ex i h.1 h.2).choose else off i) i = (ex i hi c).choose := dif_pos ⟨hi, c⟩
        obtain ⟨r1, r2, r3, r4⟩ := (ex i hi c).choose_spec
        rw [← hd] at r1 r2 r3 r4
        exact ⟨⟨r1, fun q => r2 ((pBlk_congr old _).mpr q), fun o o1 o2 => (pBlk_congr old _).mp (r3 o o1 o2)⟩, r4⟩
      · have hd : off i = (fun i => if h : i < D.1 ∧ pRk D.2.1 i D.1 = K then (ex i h.1 h.2).choose else off i) i := by
          show _ = dite _ _ _
          rw [dif_neg (by omega)]
        obtain ⟨q1, q2⟩ := ho i hi (by omega)
        exact ⟨pOne_congr old hd q1, by rw [← hd]; exact q2⟩
  have hr : ∀ i m, pRk D.2.1 i m ≤ m := by
    intro i m
    induction m with
    | zero => exact Nat.le_refl 0
    | succ m ih =>
      simp only [pRk]
      split <;> omega
  obtain ⟨off, ho⟩ := key (D.1 + 1)
  exact ⟨off, fun i hi => (ho i hi (by have := hr i D.1; omega)).1, fun i hi => (ho i hi (by have := hr i D.1; omega)).2⟩
/-! the program's way to them -/
abbrev pE (D : PD) (off : Nat → Nat) (j : Nat) : Nat := off j + D.2.2.2.2.1 j
def pR1 (D : PD) (off f : Nat → Nat) (i : Nat) : Nat → Nat → Nat
  | 0, p => p
  | j + 1, p => if pHit D off (f j) i (pR1 D off f i j p) then pE D off (f j) else pR1 D off f i j p
def pRN (D : PD) (off f : Nat → Nat) (i b : Nat) : Nat → Nat → Nat
  | 0, p => p
  | r + 1, p => pR1 D off f i b (pRN D off f i b r p)
variable {f : Nat → Nat} {i : Nat}
theorem pR1_ge {j p : Nat} : pR1 D off f i j p ≤ pR1 D off f i (j + 1) p := by
  simp only [pR1]
  split
  · rename_i h
    have := h.2.2.1
    simp only [pE]
    omega
  · exact Nat.le_refl _
theorem pR1_mono {p j : Nat} : ∀ m, pR1 D off f i j p ≤ pR1 D off f i (j + m) p := by
  intro m
  induction m with
  | zero => exact Nat.le_refl _
  | succ m ih => exact Nat.le_trans ih pR1_ge
theorem pR1_blk {p : Nat} : ∀ j o, p ≤ o → o < pR1 D off f i j p → ∃ j', j' < j ∧ pHit D off (f j') i o := by
  intro j
  induction j with
  | zero =>
    intro o h1 h2
    simp only [pR1] at h2
    omega
  | succ j ih =>
    intro o h1 h2
    by_cases c : o < pR1 D off f i j p
    · obtain ⟨j', a, b⟩ := ih o h1 c
      exact ⟨j', by omega, b⟩
    · simp only [pR1] at h2
      split at h2
      · rename_i h
        have := h.2.2
        simp only [pE] at h2
        exact ⟨j, by omega, h.1, h.2.1, h2, by omega⟩
      · exact absurd h2 c
theorem pR1_fix {p b : Nat} (h : pR1 D off f i b p = p) : ∀ j, j < b → ¬ pHit D off (f j) i p := by
  intro j hj hh
  have e1 : pR1 D off f i j p = p := by
    have a1 := pR1_mono (D := D) (off := off) (f := f) (i := i) (p := p) (j := 0) j
    have a2 := pR1_mono (D := D) (off := off) (f := f) (i := i) (p := p) (j := j) (b - j)
    rw [Nat.zero_add] at a1
    rw [show j + (b - j) = b by omega, h] at a2
    have a1 : p ≤ _ := a1
    omega
  have a2 := pR1_mono (D := D) (off := off) (f := f) (i := i) (p := p) (j := j + 1) (b - (j + 1))
  rw [show j + 1 + (b - (j + 1)) = b by omega, h] at a2
  simp only [pR1] at a2
  rw [e1, if_pos hh] at a2
  have := hh.2.2.1
  simp only [pE] at a2
  omega
theorem pR1_un {p b : Nat} (h : ∀ j, j < b → ¬ pHit D off (f j) i p) : pR1 D off f i b p = p := by
  induction b with
  | zero => rfl
  | succ b ih =>
    have e := ih (fun j hj => h j (by omega))
    simp only [pR1]
    rw [e, if_neg (h b (by omega))]
def pDd (D : PD) (off f : Nat → Nat) (p : Nat) : Nat → Nat
  | 0 => 0
  | j + 1 => pDd D off f p j + (if pE D off (f j) ≤ p then 1 else 0)
theorem pDd_le {p : Nat} : ∀ b, pDd D off f p b ≤ b := by
  intro b
  induction b with
  | zero => exact Nat.le_refl 0
  | succ b ih =>
    simp only [pDd]
    split <;> omega
theorem pDd_full {p : Nat} : ∀ b, pDd D off f p b = b → ∀ j, j < b → pE D off (f j) ≤ p := by
  intro b
  induction b with
  | zero => intro _ j hj; omega
  | succ b ih =>
    intro h j hj
    simp only [pDd] at h
    have := pDd_le (D := D) (off := off) (f := f) (p := p) b
    split at h
    · rename_i c
      by_cases e : j = b
      · subst e; exact c
      · exact ih (by omega) j (by omega)
    · omega
theorem pDd_mono {p p' : Nat} (hp : p ≤ p') : ∀ b, pDd D off f p b ≤ pDd D off f p' b ∧ ((∃ j, j < b ∧ p < pE D off (f j) ∧ pE D off (f j) ≤ p') → pDd D off f p b < pDd D off f p' b) := by
  intro b
  induction b with
  | zero => exact ⟨Nat.le_refl 0, fun ⟨j, hj, _⟩ => by omega⟩
  | succ b ih =>
    obtain ⟨i1, i2⟩ := ih
    simp only [pDd]
    refine ⟨?_, fun ⟨j, j1, j2, j3⟩ => ?_⟩
    · split
      · rw [if_pos (by omega)]; omega
      · split <;> omega
    · by_cases e : j = b
      · subst e
        rw [if_neg (by omega), if_pos j3]
        omega
      · have := i2 ⟨j, by omega, j2, j3⟩
        split
        · rw [if_pos (by omega)]; omega
        · split <;> omega
theorem pR1_moved {p : Nat} : ∀ b, pR1 D off f i b p ≠ p → ∃ j, j < b ∧ p < pE D off (f j) ∧ pE D off (f j) ≤ pR1 D off f i b p := by
  intro b
  induction b with
  | zero => intro h; exact absurd rfl h
  | succ b ih =>
    intro h
    by_cases c : pR1 D off f i b p = p
    · simp only [pR1] at h ⊢
      rw [c] at h ⊢
      split at h
      · rename_i hh
        rw [if_pos hh]
        have := hh.2.2.1
        exact ⟨b, by omega, this, Nat.le_refl _⟩
      · exact absurd rfl h
    · obtain ⟨j, j1, j2, j3⟩ := ih c
      exact ⟨j, by omega, j2, Nat.le_trans j3 pR1_ge⟩
theorem pRN_rd {p b : Nat} : ∀ r, (∀ j, j < b → ¬ pHit D off (f j) i (pRN D off f i b r p)) ∨ r ≤ pDd D off f (pRN D off f i b r p) b := by
  intro r
  induction r with
  | zero => exact Or.inr (Nat.zero_le _)
  | succ r ih =>
    simp only [pRN]
    by_cases c : pR1 D off f i b (pRN D off f i b r p) = pRN D off f i b r p
    · rw [c]
      exact Or.inl (pR1_fix c)
    · rcases ih with h | h
      · exact absurd (pR1_un h) c
      · have a1 := pR1_mono (D := D) (off := off) (f := f) (i := i) (p := pRN D off f i b r p) (j := 0) b
        rw [Nat.zero_add] at a1
        have := (pDd_mono (D := D) (off := off) (f := f) (p := pRN D off f i b r p) a1 b).2 (pR1_moved b c)
        exact Or.inr (by omega)
theorem pRN_free {p b : Nat} : ∀ j, j < b → ¬ pHit D off (f j) i (pRN D off f i b b p) := by
  rcases pRN_rd (D := D) (off := off) (f := f) (i := i) (p := p) (b := b) b with h | h
  · exact h
  · intro j hj hh
    have := pDd_full b (Nat.le_antisymm (pDd_le b) h) j hj
    have := hh.2.2.1
    simp only [pE] at *
    omega
theorem pRN_ge {p b : Nat} : ∀ r, p ≤ pRN D off f i b r p := by
  intro r
  induction r with
  | zero => exact Nat.le_refl _
  | succ r ih =>
    have a1 := pR1_mono (D := D) (off := off) (f := f) (i := i) (p := pRN D off f i b r p) (j := 0) b
    rw [Nat.zero_add] at a1
    exact Nat.le_trans ih a1
theorem pRN_blk {p b : Nat} : ∀ r o, p ≤ o → o < pRN D off f i b r p → ∃ j, j < b ∧ pHit D off (f j) i o := by
  intro r
  induction r with
  | zero =>
    intro o h1 h2
    simp only [pRN] at h2
    omega
  | succ r ih =>
    intro o h1 h2
    by_cases c : o < pRN D off f i b r p
    · exact ih o h1 c
    · exact pR1_blk b o (by omega) h2
theorem pR1_le {p M : Nat} (hp : p ≤ M) : ∀ b, (∀ j, j < b → pE D off (f j) ≤ M) → pR1 D off f i b p ≤ M := by
  intro b
  induction b with
  | zero => intro _; exact hp
  | succ b ih =>
    intro h
    simp only [pR1]
    split
    · exact h b (by omega)
    · exact ih (fun j hj => h j (by omega))
theorem pRN_le {p M b : Nat} (hp : p ≤ M) (h : ∀ j, j < b → pE D off (f j) ≤ M) : ∀ r, pRN D off f i b r p ≤ M := by
  intro r
  induction r with
  | zero => exact hp
  | succ r ih => exact pR1_le ih b h
/-- an order of the lines -/
def pSrt (bg : Nat → Nat) (n : Nat) (f : Nat → Nat) : Prop := (∀ i, i < n → f i < n) ∧ (∀ x, x < n → ∃ i, i < n ∧ f i = x) ∧ ∀ i j, i < j → j < n → pBef bg (f i) (f j)
theorem pSrt.before {n b : Nat} {bg : Nat → Nat} (hS : pSrt bg n f) (hb : b < n) {x : Nat} (hx : x < n) : pBef bg x (f b) ↔ ∃ j, j < b ∧ f j = x := by
  obtain ⟨s1, s2, s3⟩ := hS
  constructor
  · intro h
    obtain ⟨j, j1, j2⟩ := s2 x hx
    refine ⟨j, ?_, j2⟩
    rcases Nat.lt_trichotomy j b with c | c | c
    · exact c
    · subst c
      subst j2
      unfold pBef at h
      omega
    · have := s3 b j c j1
      subst j2
      unfold pBef at this h
      omega
  · rintro ⟨j, j1, j2⟩
    subst j2
    exact s3 j b j1 hb
theorem pOne_of {b : Nat} (hS : pSrt D.2.1 D.1 f) (hb : b < D.1) (ho : off' (f b) = pRN D off f (f b) b b (D.2.2.2.2.2 (f b))) (hf : ∀ j, j < b → off' (f j) = off (f j)) : pOne D off' (f b) := by
  have hB : ∀ o, pBlk D off' (f b) o ↔ ∃ j, j < b ∧ pHit D off (f j) (f b) o := by
    intro o
    constructor
    · rintro ⟨x, x1, x2, x3⟩
      obtain ⟨j, j1, j2⟩ := (hS.before hb x1).mp x2
      subst j2
      refine ⟨j, j1, ?_⟩
      unfold pHit at x3 ⊢
      rw [← hf j j1]
      exact x3
    · rintro ⟨j, j1, j2⟩
      refine ⟨f j, hS.1 j (by omega), (hS.before hb (hS.1 j (by omega))).mpr ⟨j, j1, rfl⟩, ?_⟩
      unfold pHit at j2 ⊢
      rw [hf j j1]
      exact j2
  refine ⟨by rw [ho]; exact pRN_ge b, fun h => ?_, fun o o1 o2 => ?_⟩
  · rw [hB, ho] at h
    obtain ⟨j, j1, j2⟩ := h
    exact pRN_free j j1 j2
  · rw [hB]
    rw [ho] at o2
    exact pRN_blk b o o1 o2
theorem pSrt_0 (bg : Nat → Nat) (f : Nat → Nat) : pSrt bg 0 f := ⟨fun i h => by omega, fun x h => by omega, fun i j _ h => by omega⟩
/-- a line put in -/
def pIns (f : Nat → Nat) (x a : Nat) : Nat → Nat := fun i => if i < a then f i else if i = a then x else f (i - 1)
theorem pSrt.ins {n a : Nat} {bg : Nat → Nat} (hS : pSrt bg n f) (ha : a ≤ n) (h1 : ∀ i, i < a → bg (f i) ≤ bg n) (h2 : ∀ i, a ≤ i → i < n → bg n < bg (f i)) : pSrt bg (n + 1) (pIns f n a) := by
  obtain ⟨s1, s2, s3⟩ := hS
  refine ⟨fun i hi => ?_, fun x hx => ?_, fun i j hij hj => ?_⟩
  · unfold pIns
    split
    · have := s1 i (by omega); omega
    · split
      · omega
      · have := s1 (i - 1) (by omega); omega
  · by_cases e : x = n
    · refine ⟨a, by omega, ?_⟩
      unfold pIns
      rw [if_neg (by omega), if_pos rfl, e]
    · obtain ⟨i, i1, i2⟩ := s2 x (by omega)
      by_cases c : i < a
      · exact ⟨i, by omega, by unfold pIns; rw [if_pos c]; exact i2⟩
      · exact ⟨i + 1, by omega, by unfold pIns; rw [if_neg (by omega), if_neg (by omega)]; exact i2⟩
  · unfold pIns
    by_cases c1 : j < a
    · rw [if_pos (by omega), if_pos c1]
      exact s3 i j hij (by omega)
    · rw [if_neg c1]
      by_cases c2 : j = a
      · rw [if_pos c2, if_pos (by omega)]
        have := h1 i (by omega)
        have := s1 i (by omega)
        unfold pBef
        omega
      · rw [if_neg c2]
        by_cases c3 : i < a
        · rw [if_pos c3]
          exact s3 i (j - 1) (by omega) (by omega)
        · rw [if_neg c3]
          by_cases c4 : i = a
          · rw [if_pos c4]
            have := h2 (j - 1) (by omega) (by omega)
            unfold pBef
            omega
          · rw [if_neg c4]
            exact s3 (i - 1) (j - 1) (by omega) (by omega)
end PL
