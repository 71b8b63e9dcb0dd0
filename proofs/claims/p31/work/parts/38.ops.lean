/-! what each call does: the two programs are held against this -/
def dN (n : Nat) (x : Int32) : Option Nat := if nI 0 ≤ x ∧ x < nI n then some x.toInt.toNat else none
def dO (n : Nat) (x : Int32) : Option (Option Nat) := if x = -1 then some none else (dN n x).map some
def dR (lo hi : Nat) (x : Int32) : Option Nat := if nI lo ≤ x ∧ x ≤ nI hi then some x.toInt.toNat else none
def dV (p : Nat) (x : Int32) : Option (Option Nat) := if x = -1 then some none else (dR (loP p) (hiP p) x).map some
theorem nI_nonneg {x : Int32} (h : nI 0 ≤ x) : x = nI x.toInt.toNat := by
  have h : nI 0 ≤ x := h
  rw [Int32.le_iff_toInt_le, nI_toInt (by omega)] at h
  have hb := Int32.toInt_lt x
  rw [← Int32.toInt_inj, nI_toInt (by omega)]
  omega
theorem dN_cases (n : Nat) (x : Int32) (hn : n < 2147483648) : (∃ k, k < n ∧ x = nI k ∧ dN n x = some k) ∨ ((x < nI 0 ∨ nI n ≤ x) ∧ dN n x = none) := by
  unfold dN
  by_cases h : nI 0 ≤ x ∧ x < nI n
  · rw [if_pos h]
    have e := nI_nonneg h.1
    refine Or.inl ⟨_, ?_, e, rfl⟩
    have h2 := h.2
    have h1 := h.1
    rw [Int32.lt_iff_toInt_lt, nI_toInt hn] at h2
    rw [Int32.le_iff_toInt_le, nI_toInt (by omega)] at h1
    omega
  · rw [if_neg h]
    refine Or.inr ⟨?_, rfl⟩
    by_cases c : nI 0 ≤ x
    · exact Or.inr (Int32.not_lt.mp (fun q => h ⟨c, q⟩))
    · exact Or.inl (Int32.not_le.mp c)
theorem dR_cases (lo hi : Nat) (x : Int32) (hn : hi < 2147483648) (hl : lo < 2147483648) : (∃ k, (lo ≤ k ∧ k ≤ hi) ∧ x = nI k ∧ dR lo hi x = some k) ∨ ((x < nI lo ∨ nI hi < x) ∧ dR lo hi x = none) := by
  unfold dR
  by_cases h : nI lo ≤ x ∧ x ≤ nI hi
  · rw [if_pos h]
    have h2 := h.2
    have h1 := h.1
    rw [Int32.le_iff_toInt_le, nI_toInt hn] at h2
    rw [Int32.le_iff_toInt_le, nI_toInt hl] at h1
    have e : x = nI x.toInt.toNat := nI_nonneg (by rw [Int32.le_iff_toInt_le, nI_toInt (by omega)]; omega)
    exact Or.inl ⟨_, by omega, e, rfl⟩
  · rw [if_neg h]
    refine Or.inr ⟨?_, rfl⟩
    by_cases c : nI lo ≤ x
    · exact Or.inr (Int32.not_le.mp (fun q => h ⟨c, q⟩))
    · exact Or.inl (Int32.not_le.mp c)
theorem dO_cases (n : Nat) (x : Int32) (hn : n < 2147483648) : (x = -1 ∧ dO n x = some none) ∨ (∃ k, k < n ∧ x = nI k ∧ dO n x = some (some k)) ∨ ((¬ x = -1 ∧ (x < nI 0 ∨ nI n ≤ x)) ∧ dO n x = none) := by
  unfold dO
  by_cases h : x = -1
  · exact Or.inl ⟨h, if_pos h⟩
  · rw [if_neg h]
    rcases dN_cases n x hn with ⟨k, h1, h2, h3⟩ | ⟨h1, h2⟩
    · exact Or.inr (Or.inl ⟨k, h1, h2, by rw [h3]; rfl⟩)
    · exact Or.inr (Or.inr ⟨⟨h, h1⟩, by rw [h2]; rfl⟩)
theorem dV_cases (p : Nat) (x : Int32) : (x = -1 ∧ dV p x = some none) ∨ (∃ k, (loP p ≤ k ∧ k ≤ hiP p) ∧ x = nI k ∧ dV p x = some (some k)) ∨ ((¬ x = -1 ∧ (x < nI (loP p) ∨ nI (hiP p) < x)) ∧ dV p x = none) := by
  have a := hiP_le p
  have b : loP p ≤ 1 := by
    unfold loP
    match p with
    | 0 => decide
    | 1 => decide
    | 2 => decide
    | 3 => decide
    | 4 => decide
    | 5 => decide
    | n + 6 => show 0 ≤ 1; omega
  unfold dV
  by_cases h : x = -1
  · exact Or.inl ⟨h, if_pos h⟩
  · rw [if_neg h]
    rcases dR_cases (loP p) (hiP p) x (by omega) (by omega) with ⟨k, h1, h2, h3⟩ | ⟨h1, h2⟩
    · exact Or.inr (Or.inl ⟨k, h1, h2, by rw [h3]; rfl⟩)
    · exact Or.inr (Or.inr ⟨⟨h, h1⟩, by rw [h2]; rfl⟩)
/-- the present state is kept, and another one is put in its place -/
def kp (p : PS) (st : Stt) : PS := (st, kept p.2.1 p.1, p.2.2)
def opStyle (p : PS) (x : Int32) : PS × Int32 := match dO p.1.1.1 x with
  | none => (p, -1)
  | some q => if 10 ≤ p.1.1.1 then (p, -3) else (kp p (addS p.1.1 q, p.1.2), nI p.1.1.1)
def opSetParent (p : PS) (s q : Int32) : PS × Int32 := match dN p.1.1.1 s with
  | none => (p, -1)
  | some k => match dO p.1.1.1 q with
    | none => (p, -1)
    | some o => if ldT p.1.1 k 10 o = true then (p, -2) else (kp p (setP p.1.1 k o, p.1.2), eN (p.1.1.2.1 k))
def opSetStyle (p : PS) (s pr v : Int32) : PS × Int32 := match dN p.1.1.1 s with
  | none => (p, -1)
  | some k => match dN 6 pr with
    | none => (p, -1)
    | some q => match dV q v with
      | none => (p, -1)
      | some w => (kp p (setO p.1.1 k q w, p.1.2), eN (p.1.1.2.2 k q))
def opUnstyle (p : PS) : PS × Int32 := if p.1.1.1 = 0 then (p, -2) else if 0 < chl p.1.1 (p.1.1.1 - 1) p.1.1.1 ∨ hasSt (p.1.1.1 - 1) p.1.2.1 = true then (p, -2) else (kp p ((p.1.1.1 - 1, p.1.1.2.1, p.1.1.2.2), p.1.2), nI (p.1.1.1 - 1))
def opFlatten (p : PS) : PS × Int32 := (kp p (flatS p.1.1, p.1.2), nI (nuS p.1.1 p.1.1.1))
def styleNum (S : Sh) (k w : Nat) : Int32 := if w < 6 then eN (S.2.2 k w) else if w = 6 then eN (S.2.1 k) else if w = 7 then nI (cntA S 10 (S.2.1 k)) else nI (chl S k S.1)
def qStyleAt (p : PS) (s w : Int32) : Int32 := match dN p.1.1.1 s with
  | none => -1
  | some k => match dN 9 w with
    | none => -1
    | some j => styleNum p.1.1 k j
def qValueOf (p : PS) (s pr : Int32) : Int32 := match dO p.1.1.1 s with
  | none => -1
  | some o => match dN 6 pr with
    | none => -1
    | some q => nI (valS p.1.1 q o)
def qFrom (p : PS) (s pr : Int32) : Int32 := match dN p.1.1.1 s with
  | none => -1
  | some k => match dN 6 pr with
    | none => -1
    | some q => eS (wk p.1.1 q 10 (some k))
def opType (p : PS) (c : Int32) : PS × Int32 := match dR 32 126 c with
  | none => (p, -1)
  | some k => if 80 ≤ p.2.2.length then (p, -3) else ((p.1, p.2.1, p.2.2 ++ [k]), nI (p.2.2.length + 1))
def opClear (p : PS) : PS × Int32 := ((p.1, p.2.1, []), nI p.2.2.length)
def opLine (p : PS) (b e s : Int32) : PS × Int32 := match dR 0 99999 b with
  | none => (p, -1)
  | some i => match dR 0 100000 e with
    | none => (p, -1)
    | some j => if j ≤ i then (p, -1) else match dO p.1.1.1 s with
      | none => (p, -1)
      | some o => if 16 ≤ p.1.2.1.length then (p, -3) else match pErr p.2.2 with
        | some z => (p, -100 - nI z)
        | none => (((p.1.1, p.1.2.1 ++ [(i, j, o, none, pIts p.2.2)], p.1.2.2), kept p.2.1 p.1, []), nI p.1.2.1.length)
def opRemove (p : PS) (l : Int32) : PS × Int32 := match dN p.1.2.1.length l with
  | none => (p, -1)
  | some i => (kp p (p.1.1, p.1.2.1.eraseIdx i, p.1.2.2), nI (p.1.2.1.length - 1))
/-- a line in the place of line i -/
def putL (st : Stt) (i : Nat) (ln : Ln) : Stt := (st.1, st.2.1.set i ln, st.2.2)
def opChange (p : PS) (l w v : Int32) : PS × Int32 := match dN p.1.2.1.length l with
  | none => (p, -1)
  | some i => match dN 2 w with
    | none => (p, -1)
    | some 0 => (match dO p.1.1.1 v with
      | none => (p, -1)
      | some o => (kp p (putL p.1 i ((lnA p.1.2.1 i).1, (lnA p.1.2.1 i).2.1, o, (lnA p.1.2.1 i).2.2.2.1, (lnA p.1.2.1 i).2.2.2.2)), eN (lnA p.1.2.1 i).2.2.1))
    | some _ => match dV 5 v with
      | none => (p, -1)
      | some o => (kp p (putL p.1 i ((lnA p.1.2.1 i).1, (lnA p.1.2.1 i).2.1, (lnA p.1.2.1 i).2.2.1, o, (lnA p.1.2.1 i).2.2.2.2)), eN (lnA p.1.2.1 i).2.2.2.1)
def opShift (p : PS) (l by_ : Int32) : PS × Int32 := match dN p.1.2.1.length l with
  | none => (p, -1)
  | some i => if by_.toInt < -100000 ∨ 100000 < by_.toInt then (p, -1) else
    if ((lnA p.1.2.1 i).1 : Int) + by_.toInt < 0 ∨ 100000 < ((lnA p.1.2.1 i).2.1 : Int) + by_.toInt then (p, -2) else
    (kp p (putL p.1 i ((((lnA p.1.2.1 i).1 : Int) + by_.toInt).toNat, (((lnA p.1.2.1 i).2.1 : Int) + by_.toInt).toNat, (lnA p.1.2.1 i).2.2)), nI (((lnA p.1.2.1 i).1 : Int) + by_.toInt).toNat)
def opSetHeight (p : PS) (x : Int32) : PS × Int32 := match dR 50 2000 x with
  | none => (p, -1)
  | some k => (kp p (p.1.1, p.1.2.1, k), nI p.1.2.2)
noncomputable def lineNum (st : Stt) (i w : Nat) : Int32 :=
  if w = 0 then nI (lnA st.2.1 i).1 else if w = 1 then nI (lnA st.2.1 i).2.1 else if w = 2 then eN (lnA st.2.1 i).2.2.1 else if w = 3 then eN (lnA st.2.1 i).2.2.2.1
  else if w = 4 then nI (rdL st.1 (lnA st.2.1 i)).2.1.length else if w = 5 then nI (rdL st.1 (lnA st.2.1 i)).2.2.length else if w = 6 then nI (rdL st.1 (lnA st.2.1 i)).2.2.sum
  else if w = 7 then bI ((rdL st.1 (lnA st.2.1 i)).2.2.sum ≤ (lnA st.2.1 i).2.1 - (lnA st.2.1 i).1) else if w = 8 then nI (hgL st.1 (lnA st.2.1 i)) else if w = 9 then nI (offC st.1 st.2.1 i)
  else if w = 10 then nI (valS st.1 4 (lnA st.2.1 i).2.2.1) else bI (st.2.2 < offC st.1 st.2.1 i + hgL st.1 (lnA st.2.1 i))
noncomputable def qAbout (p : PS) (l w : Int32) : Int32 := match dN p.1.2.1.length l with
  | none => -1
  | some i => match dN 12 w with
    | none => -1
    | some j => lineNum p.1 i j
def qSign (p : PS) (l s w : Int32) : Int32 := match dN p.1.2.1.length l with
  | none => -1
  | some i => match dN 6 w with
    | none => -1
    | some j => match dN (rdL p.1.1 (lnA p.1.2.1 i)).2.1.length s with
      | none => -1
      | some k => sgW ((rdL p.1.1 (lnA p.1.2.1 i)).2.1.getD k (0, (fun _ => 0), none)) j
def qSyllable (p : PS) (l s w : Int32) : Int32 := match dN p.1.2.1.length l with
  | none => -1
  | some i => match dN 3 w with
    | none => -1
    | some j => match dN (rdL p.1.1 (lnA p.1.2.1 i)).2.2.length s with
      | none => -1
      | some k => syW (lnA p.1.2.1 i).1 (rdL p.1.1 (lnA p.1.2.1 i)) k j
/-- what the last syllable lasts, if the line is to be full -/
def dueOf (S : Sh) (ln : Ln) : Int := (ln.2.1 : Int) - ln.1 - (((rdL S ln).2.2.sum : Int) - (rdL S ln).2.2.getD ((rdL S ln).2.2.length - 1) 0)
def opFit (p : PS) (l : Int32) : PS × Int32 := match dN p.1.2.1.length l with
  | none => (p, -1)
  | some i => if (rdL p.1.1 (lnA p.1.2.1 i)).2.2.length = 0 then (p, -2) else if dueOf p.1.1 (lnA p.1.2.1 i) < 0 ∨ 9999 < dueOf p.1.1 (lnA p.1.2.1 i) then (p, -2) else
    (kp p (putL p.1 i ((lnA p.1.2.1 i).1, (lnA p.1.2.1 i).2.1, (lnA p.1.2.1 i).2.2.1, (lnA p.1.2.1 i).2.2.2.1, setK (lnA p.1.2.1 i).2.2.2.2 (dueOf p.1.1 (lnA p.1.2.1 i)).toNat)), nI (dueOf p.1.1 (lnA p.1.2.1 i)).toNat)
def qShows (p : PS) (l s t : Int32) : Int32 := match dN p.1.2.1.length l with
  | none => -1
  | some i => match dN (rdL p.1.1 (lnA p.1.2.1 i)).2.1.length s with
    | none => -1
    | some k => if shownP (lnA p.1.2.1 i) t = true then sgW ((rdL p.1.1 (lnA p.1.2.1 i)).2.1.getD k (0, (fun _ => 0), none)) (if sungP (lnA p.1.2.1 i).1 (rdL p.1.1 (lnA p.1.2.1 i)).2.2 ((rdL p.1.1 (lnA p.1.2.1 i)).2.1.getD k (0, (fun _ => 0), none)).2.2 t = true then 3 else 2) else -9
/-- the first line from i on that is shown with so many ahead -/
noncomputable def fShown (st : Stt) (t k : Int32) : Nat → Nat → Int32
  | 0, _ => -9
  | m + 1, i => if shownP (lnA st.2.1 i) t = true ∧ nI (cAh st.1 st.2.1 (offC st.1 st.2.1) i t st.2.1.length) = k then nI i else fShown st t k m (i + 1)
noncomputable def qShown (p : PS) (t k : Int32) : Int32 := if k < nI 0 then -1 else fShown p.1 t k p.1.2.1.length 0
/-- best time and most lines -/
def crw (L : List Ln) : Nat → Int32 × Nat
  | 0 => (-9, 0)
  | i + 1 => if (crw L i).2 < cSh L (nI (lnA L i).1) L.length ∨ (cSh L (nI (lnA L i).1) L.length = (crw L i).2 ∧ nI (lnA L i).1 < (crw L i).1) then (nI (lnA L i).1, cSh L (nI (lnA L i).1) L.length) else crw L i
def qCrowd (p : PS) : Int32 := (crw p.1.2.1 p.1.2.1.length).1
/-- signs of the lines shown, and those of them that are sung -/
def sng (S : Sh) (L : List Ln) (t : Int32) : Nat → Nat × Nat
  | 0 => (0, 0)
  | i + 1 => if shownP (lnA L i) t = true then ((sng S L t i).1 + (rdL S (lnA L i)).2.1.length, (sng S L t i).2 + cntU (lnA L i).1 (rdL S (lnA L i)) t (rdL S (lnA L i)).2.1.length) else sng S L t i
def qSung (p : PS) (t : Int32) : UInt32 := if (sng p.1.1 p.1.2.1 t p.1.2.1.length).1 = 0 then FP.fconst0 else FP.fdiv (FP.i2f (nI (sng p.1.1 p.1.2.1 t p.1.2.1.length).2)) (FP.i2f (nI (sng p.1.1 p.1.2.1 t p.1.2.1.length).1))
def opUndo (p : PS) : PS × Int32 := match p.2.1.getLast? with
  | none => (p, -9)
  | some st => ((st, p.2.1.dropLast, p.2.2), nI (p.2.1.length - 1))
def fpN (s : Int64) (x : Int32) : Int64 := 31 * s + x.toInt64
