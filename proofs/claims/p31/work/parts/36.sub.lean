/-! SubtitleStyles: its state -/
/-- sheet, lines and height; the states kept; what is typed -/
abbrev PS : Type := Stt × List Stt × List Nat
def WfSt (st : Stt) : Prop := WfS st.1 ∧ WfLs st.2.1 ∧ (∀ x ∈ st.2.1, ∀ q, x.2.2.1 = some q → q < st.1.1) ∧ st.2.2 ≤ 2000
def WfP (p : PS) : Prop := WfSt p.1 ∧ (∀ s ∈ p.2.1, WfSt s) ∧ p.2.1.length ≤ 5 ∧ p.2.2.length ≤ 80 ∧ ∀ c ∈ p.2.2, 32 ≤ c ∧ c ≤ 126
def anySh (h : Hp) (a : Nat) : Prop := ∃ S, rSheet h a S
def xC (X n : Nat) : va_E := .inr (9, [.ref (X + 1), .int (nI n), .ref (X + 3), .ref (X + 8), .ref (X + 15), .ref (X + 52), .ref (X + 168), .ref (X + 173)])
def rBuf (h : Hp) (a : Nat) (txt : List Nat) : Prop := ∃ bf, oRow h a 80 bf ∧ ∀ i c, txt[i]? = some c → bf i = nI c
/-- all but the picture -/
def rS (h : Hp) (X B : Nat) (p : PS) : Prop := (h.1 X = some (xC X p.2.2.length) ∧ rBuf h (X + 1) p.2.2 ∧ anyR h (X + 3) ∧ rScr h B (X + 8) p.1 ∧ rHist h B (X + 15) p.2.1) ∧ (rPicA h (X + 52) ∧ anySh h (X + 168) ∧ anyL h (X + 173)) ∧ HpK h ∧ X + 180 ≤ B ∧ B ≤ h.2.1
noncomputable def offC (S : Sh) (L : List Ln) : Nat → Nat := Classical.epsilon (fun off => pOff (pdL S L) off)
theorem offC_ok {S : Sh} {L : List Ln} (hw : WfS S) (hL : WfLs L) : pOff (pdL S L) (offC S L) := by
  obtain ⟨off, h1, -⟩ := pOff_ex (pdL S L) (fun i => mrg_le hw (lnA_wf hL i)) (fun i => hgL_le hw (lnA_wf hL i))
  exact Classical.epsilon_spec (p := fun off => pOff (pdL S L) off) ⟨off, h1⟩
theorem rPic.canon {h : Hp} {P : Nat} {S : Sh} {L : List Ln} {off : Nat → Nat} (hw : WfS S) (hL : WfLs L) (hr : rPic h P S L off) : rPic h P S L (offC S L) := by
  obtain ⟨h1, h2, h3, h4, h5⟩ := hr
  have e := pOff_uniq h4 (offC_ok hw hL)
  have e : ∀ i, i < L.length → off i = offC S L i := e
  exact ⟨h1, fun i hi => by show fLook _ _ _ _ (nI (offC S L i)); rw [← e i hi]; exact h2 i hi, h3, offC_ok hw hL, fun i hi => by rw [← e i hi]; exact h5 i hi⟩
def rP (h : Hp) (X B : Nat) (p : PS) : Prop := rS h X B p ∧ rPic h (X + 52) p.1.1 p.1.2.1 (offC p.1.1 p.1.2.1)
section SU
variable {h h' : Hp} {X B : Nat} {p : PS}
theorem anySh.off {a lo n : Nat} (hr : anySh h a) (hs : Same h h' lo n) (hq : a + 5 ≤ lo ∨ lo + n ≤ a) : anySh h' a := by
  obtain ⟨S, hS⟩ := hr
  exact ⟨S, hS.off hs hq⟩
theorem rBuf.off {a lo n : Nat} {txt : List Nat} (hr : rBuf h a txt) (hs : Same h h' lo n) (hq : a + 2 ≤ lo ∨ lo + n ≤ a) : rBuf h' a txt := by
  obtain ⟨bf, h1, h2⟩ := hr
  exact ⟨bf, h1.off hs hq, h2⟩
theorem rPicA.off {P lo n : Nat} (hr : rPicA h P) (hs : Same h h' lo n) (hq : P + 116 ≤ lo ∨ lo + n ≤ P) : rPicA h' P := by
  obtain ⟨⟨m, g, hm, hO⟩, hK⟩ := hr
  exact ⟨⟨m, g, hm, hO.off hs (by omega)⟩, fun i hi => anyL.off (hK i hi) hs (by omega)⟩
theorem rPic.off {P lo n : Nat} {S : Sh} {L : List Ln} {off : Nat → Nat} (hr : rPic h P S L off) (hL : L.length ≤ 16) (hs : Same h h' lo n) (hq : P + 116 ≤ lo ∨ lo + n ≤ P) : rPic h' P S L off := by
  obtain ⟨⟨g, h1⟩, h2, h3, h4, h5⟩ := hr
  exact ⟨⟨g, h1.off hs (by omega)⟩, h2.off hL hs (by omega), fun i i1 i2 => anyL.off (h3 i i1 i2) hs (by omega), h4, h5⟩
theorem rS.scr {st' : Stt} (hr : rS h X B p) (hs : Same h h' (X + 8) 7) (hT : rScr h' B (X + 8) st') : rS h' X B (st', p.2) := by
  obtain ⟨⟨a1, a2, a3, a4, a5⟩, ⟨b1, b2, b3⟩, c1, c2, c3⟩ := hr
  exact ⟨⟨by rw [hs.at (by omega)]; exact a1, a2.off hs (by omega), a3.off hs (by omega), hT, a5.off hs (by omega) (by omega)⟩, ⟨b1.off hs (by omega), b2.off hs (by omega), b3.off hs (by omega)⟩, c1.same hs (by omega), c2, by rw [hs.1]; exact c3⟩
theorem rS.grow (hr : rS h X B p) (hk : Kp h h') (hK : HpK h') (hs : h.2.1 ≤ h'.2.1) : rS h' X B p := by
  obtain ⟨⟨a1, ⟨bf, a2, a2'⟩, a3, a4, a5⟩, ⟨b1, ⟨S, b2⟩, b3⟩, c1, c2, c3⟩ := hr
  exact ⟨⟨hk _ _ a1, ⟨bf, a2.kp hk, a2'⟩, a3.kp hk, a4.kp hk, a5.kp hk⟩, ⟨b1.kp hk, ⟨S, b2.kp hk⟩, b3.kp hk⟩, hK, c2, Nat.le_trans c3 hs⟩
theorem kept_wf {hist : List Stt} {st : Stt} (h1 : ∀ s ∈ hist, WfSt s) (h2 : WfSt st) : ∀ s ∈ kept hist st, WfSt s := by
  intro s hs
  unfold kept at hs
  rcases List.mem_append.mp hs with hs | hs
  · split at hs
    · exact h1 s (List.mem_of_mem_drop hs)
    · exact h1 s hs
  · rw [List.mem_singleton.mp hs]
    exact h2
theorem kept_len {hist : List Stt} {st : Stt} (h1 : hist.length ≤ 5) : (kept hist st).length ≤ 5 := by
  unfold kept
  rw [List.length_append]
  split
  · rw [List.length_drop]
    show _ + 1 ≤ 5
    omega
  · show _ + 1 ≤ 5
    omega
theorem s_keep (hr : rS h X B p) (hw : WfP p) : ∃ h', Same h h' (X + 15) 37 ∧ rS h' X B (p.1, kept p.2.1 p.1, p.2.2) ∧ ∀ Q : Option Value → Hp → Prop, WPm 1 [.ref (X + 15), .ref (X + 8)] h Q = Q none h' := by
  obtain ⟨⟨a1, a2, a3, a4, a5⟩, ⟨b1, b2, b3⟩, c1, c2, c3⟩ := hr
  obtain ⟨h1, s1, r1, w1⟩ := m_X0_keep a5 a4 hw.1.2.1.1 hw.1.1.1 (Or.inl (by omega)) (by omega)
  exact ⟨h1, s1, ⟨⟨by rw [s1.at (by omega)]; exact a1, a2.off s1 (by omega), a3.off s1 (by omega), a4.off s1 (by omega) (by omega), r1⟩, ⟨b1.off s1 (by omega), b2.off s1 (by omega), b3.off s1 (by omega)⟩, c1.same s1 (by omega), c2, by rw [s1.1]; exact c3⟩, w1⟩
theorem s_draw (hr : rS h X B p) (hw : WfSt p.1) : ∃ h', Same h h' (X + 52) 116 ∧ rP h' X B p ∧ ∀ Q : Option Value → Hp → Prop, WPm 26 [.ref (X + 52), .ref (X + 8)] h Q = Q none h' := by
  obtain ⟨⟨a1, a2, a3, a4, a5⟩, ⟨b1, b2, b3⟩, c1, c2, c3⟩ := hr
  obtain ⟨h1, off, s1, r1, w1⟩ := m_X3_draw b1 a4 hw.1 hw.2.1 (Or.inl (by omega)) (by omega)
  exact ⟨h1, s1, ⟨⟨⟨by rw [s1.at (by omega)]; exact a1, a2.off s1 (by omega), a3.off s1 (by omega), a4.off s1 (by omega) (by omega), a5.off s1 (by omega) (by omega)⟩, ⟨r1.rest hw.2.1.1, b2.off s1 (by omega), b3.off s1 (by omega)⟩, c1.same s1 (by omega), c2, by rw [s1.1]; exact c3⟩, r1.canon hw.1 hw.2.1⟩, w1⟩
/-- what a call may touch, and how much it may make -/
def FrK (k X : Nat) (h h' : Hp) : Prop := (h.2.1 ≤ h'.2.1 ∧ h'.2.1 ≤ h.2.1 + 6 * k ∧ h'.2.2 ≤ h.2.2 + 400 * k) ∧ ∀ q, (q < X ∨ (X + 180 ≤ q ∧ q < h.2.1)) → h'.1 q = h.1 q
def Fr (X : Nat) (h h' : Hp) : Prop := FrK 1 X h h'
theorem FrK.w {k : Nat} (h1 : FrK k X h h') (hk : k ≤ 1) : Fr X h h' := ⟨⟨h1.1.1, by have := h1.1.2.1; omega, by have := h1.1.2.2; omega⟩, h1.2⟩
theorem FrK.tr {k k' : Nat} {a b c : Hp} (h1 : FrK k X a b) (h2 : FrK k' X b c) : FrK (k + k') X a c := ⟨⟨Nat.le_trans h1.1.1 h2.1.1, by have := h1.1.2.1; have := h2.1.2.1; omega, by have := h1.1.2.2; have := h2.1.2.2; omega⟩, fun q hq => by
  have := h1.1.1
  rw [h2.2 q (by omega), h1.2 q hq]⟩
theorem Fr.s {lo n : Nat} (hs : Same h h' lo n) (h1 : X ≤ lo) (h2 : lo + n ≤ X + 180) : FrK 0 X h h' := ⟨by rw [hs.1]; omega, fun q hq => hs.at (by omega)⟩
theorem Fr.same {lo n : Nat} (hs : Same h h' lo n) (h1 : X ≤ lo) (h2 : lo + n ≤ X + 180) : Fr X h h' := (Fr.s hs h1 h2).w (by omega)
theorem Fr.rf : Fr X h h := ⟨by omega, fun _ _ => rfl⟩
end SU
