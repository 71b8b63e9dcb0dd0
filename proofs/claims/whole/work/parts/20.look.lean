/-! Text, Line, Look -/
abbrev Itm : Type := Nat ⊕ (Nat × Option Nat)
def iK : Itm → Int32
  | .inl _ => nI 0
  | .inr (l, _) => nI l
def iN : Itm → Int32
  | .inl c => nI c
  | .inr (_, o) => eN o
def rText (h : Hp) (t : Nat) (its : List Itm) : Prop := ∃ kf nf, h.1 t = some (.inr (8, [.int (nI its.length), .ref (t + 1), .ref (t + 3)])) ∧ oRow h (t + 1) its.length kf ∧ oRow h (t + 3) its.length nf ∧
  ∀ i x, its[i]? = some x → kf i = iK x ∧ nf i = iN x
/-- begin, end, style, margin, items -/
abbrev Ln : Type := Nat × Nat × Option Nat × Option Nat × List Itm
def rLine (h : Hp) (q : Nat) (ln : Ln) : Prop := ∃ t, h.1 q = some (.inr (1, [.int (nI ln.1), .int (nI ln.2.1), .int (eN ln.2.2.1), .int (eN ln.2.2.2.1), .ref t])) ∧ rText h t ln.2.2.2.2
/-- what a tag may hold -/
def okI : Itm → Prop
  | .inl c => 32 ≤ c ∧ c ≤ 126
  | .inr (l, o) => (l = 114 ∧ ∀ n, o = some n → n ≤ 9) ∨ (l = 107 ∧ ∃ n, o = some n ∧ n ≤ 9999) ∨ (l = 115 ∧ ∃ n, o = some n ∧ 1 ≤ n ∧ n ≤ 99) ∨ (l = 99 ∧ ∃ n, o = some n ∧ n ≤ 7) ∨ (l = 116 ∧ ∃ n, o = some n ∧ n ≤ 7) ∨ (l = 98 ∧ ∃ n, o = some n ∧ n ≤ 1)
def isK : Itm → Bool
  | .inr (l, _) => Nat.beq l 107
  | _ => false
/-- a sign: its code, its values, its syllable -/
abbrev Sgn : Type := Nat × (Nat → Nat) × Option Nat
def cntS (sgs : List Sgn) (k : Nat) : Nat := (sgs.filter (fun s => s.2.2 == some k)).length
def hgS (sgs : List Sgn) : Nat := sgs.foldl (fun m s => max m (s.2.1 0)) 0
abbrev Rd : Type := (Nat → Nat) × List Sgn × List Nat
def updN (f : Nat → Nat) (k x : Nat) : Nat → Nat := fun j => if j = k then x else f j
def prT (l : Nat) : Nat := if l = 115 then 0 else if l = 99 then 1 else if l = 116 then 2 else 3
def sylOf (lasts : List Nat) : Option Nat := if lasts.length = 0 then none else some (lasts.length - 1)
def runI (S : Sh) (st : Option Nat) (r : Rd) : Itm → Rd
  | .inl c => (r.1, r.2.1 ++ [(c, r.1, sylOf r.2.2)], r.2.2)
  | .inr (l, o) => if l = 107 then (r.1, r.2.1, r.2.2 ++ [o.getD 0]) else if l = 114 then ((fun p => valS S p (match o with
    | none => st
    | some n => some n)), r.2.1, r.2.2) else (updN r.1 (prT l) (o.getD 0), r.2.1, r.2.2)
def rd0 (S : Sh) (st : Option Nat) : Rd := ((fun p => valS S p st), [], [])
def runL (S : Sh) (st : Option Nat) (its : List Itm) : Rd := its.foldl (runI S st) (rd0 S st)
def rTab (sg : Nat → Int32) (sgs : List Sgn) : Prop := ∀ i x, sgs[i]? = some x → sg (i * 6) = nI x.1 ∧ (∀ p, p < 4 → sg (i * 6 + 1 + p) = nI (x.2.1 p)) ∧ sg (i * 6 + 5) = eS x.2.2
def rSyl (sy : Nat → Int32) (b : Nat) (lasts : List Nat) (sgs : List Sgn) : Prop := ∀ i, i < lasts.length → sy (i * 3) = nI (b + (lasts.take i).sum) ∧ sy (i * 3 + 1) = nI (lasts.getD i 0) ∧ sy (i * 3 + 2) = nI (cntS sgs i)
def oLook (h : Hp) (k : Nat) (b e g m ht o ns ny la : Int32) (sg sy hd : Nat → Int32) : Prop :=
  h.1 k = some (.inr (2, [.int b, .int e, .int g, .int m, .int ht, .int o, .int ns, .ref (k + 1), .int ny, .ref (k + 3), .int la, .ref (k + 5)])) ∧ oRow h (k + 1) 480 sg ∧ oRow h (k + 3) 60 sy ∧ oRow h (k + 5) 4 hd
def pLook (h : Hp) (k b e g m : Nat) (o : Int32) (r : Rd) : Prop := ∃ sg sy hd, oLook h k (nI b) (nI e) (nI g) (nI m) (nI (hgS r.2.1)) o (nI r.2.1.length) (nI r.2.2.length) (nI r.2.2.sum) sg sy hd ∧ rTab sg r.2.1 ∧ rSyl sy b r.2.2 r.2.1 ∧ ∀ p, p < 4 → hd p = nI (r.1 p)
section LK
variable {h : Hp} {k : Nat} {b e g m ht o ns ny la : Int32} {sg sy hd : Nat → Int32}
theorem oLook.off {h' : Hp} {lo n : Nat} (hr : oLook h k b e g m ht o ns ny la sg sy hd) (hs : Same h h' lo n) (hq : k + 7 ≤ lo ∨ lo + n ≤ k) : oLook h' k b e g m ht o ns ny la sg sy hd :=
  ⟨by rw [hs.at (by omega)]; exact hr.1, hr.2.1.off hs (by omega), hr.2.2.1.off hs (by omega), hr.2.2.2.off hs (by omega)⟩
theorem oLook.setS {f : Nat → Int32} (hr : oLook h k b e g m ht o ns ny la sg sy hd) : oLook (hset h (k + 2) (.inl (0, 480, .inl f))) k b e g m ht o ns ny la f sy hd :=
  ⟨by rw [hset_ne (by omega)]; exact hr.1, hr.2.1.set, hr.2.2.1.off (Same.set (lo := k + 2) (n := 1) (by omega) (by omega)) (by omega), hr.2.2.2.off (Same.set (lo := k + 2) (n := 1) (by omega) (by omega)) (by omega)⟩
theorem oLook.setY {f : Nat → Int32} (hr : oLook h k b e g m ht o ns ny la sg sy hd) : oLook (hset h (k + 4) (.inl (0, 60, .inl f))) k b e g m ht o ns ny la sg f hd :=
  ⟨by rw [hset_ne (by omega)]; exact hr.1, hr.2.1.off (Same.set (lo := k + 4) (n := 1) (by omega) (by omega)) (by omega), hr.2.2.1.set, hr.2.2.2.off (Same.set (lo := k + 4) (n := 1) (by omega) (by omega)) (by omega)⟩
theorem oLook.setH {f : Nat → Int32} (hr : oLook h k b e g m ht o ns ny la sg sy hd) : oLook (hset h (k + 6) (.inl (0, 4, .inl f))) k b e g m ht o ns ny la sg sy f :=
  ⟨by rw [hset_ne (by omega)]; exact hr.1, hr.2.1.off (Same.set (lo := k + 6) (n := 1) (by omega) (by omega)) (by omega), hr.2.2.1.off (Same.set (lo := k + 6) (n := 1) (by omega) (by omega)) (by omega), hr.2.2.2.set⟩
theorem oLook.setK {b' e' g' m' ht' o' ns' ny' la' : Int32} (hr : oLook h k b e g m ht o ns ny la sg sy hd) : oLook (hset h k (.inr (2, [.int b', .int e', .int g', .int m', .int ht', .int o', .int ns', .ref (k + 1), .int ny', .ref (k + 3), .int la', .ref (k + 5)]))) k b' e' g' m' ht' o' ns' ny' la' sg sy hd :=
  ⟨hset_same, hr.2.1.off (Same.set (lo := k) (n := 1) (by omega) (by omega)) (by omega), hr.2.2.1.off (Same.set (lo := k) (n := 1) (by omega) (by omega)) (by omega), hr.2.2.2.off (Same.set (lo := k) (n := 1) (by omega) (by omega)) (by omega)⟩
theorem l_X2_holdStyle {a : Nat} {S : Sh} {st : Option Nat} (hS : rSheet h a S) (hw : WfS S) (hst : okO st) (hak : a + 5 ≤ k ∨ k + 7 ≤ a) (Q : Option Value → Hp → Prop) : ∀ (m' i : Nat), m' + i = 4 → ∀ (h1 : Hp) (hd : Nat → Int32), Same h h1 k 7 → oLook h1 k b e g m ht o ns ny la sg sy hd →
    WP 11 2 [some (.ref k), some (.int (eN st)), some (.ref a), some (.int (nI i))] [] h1 Q = Q none (hset h1 (k + 6) (.inl (0, 4, .inl (cpf hd (fun p => nI (valS S p st)) i 4)))) := by
  intro m'
  induction m' with
  | zero =>
    intro i hi h1 hd hs hO
    have hi : i = 4 := by omega
    subst hi
    rw [sX2_holdStyle_2]
    simp (disch := (first | omega | assumption | (simp (disch := omega) only [Int32.lt_iff_toInt_lt, Int32.le_iff_toInt_le, ← Int32.toInt_inj, nI_toInt, zi_m1, zi_m2, zi_m3, zi_m9]; omega) | decide)) only [sX2_holdStyle_0, sX2_holdStyle_1i, sX2_holdStyle_1r, sX2_holdStyle_1z, sX2_holdStyle_1o, sX2_holdStyle_3, sX2_holdStyle_4, sX2_holdStyle_7, sX2_holdStyle_8, sX2_holdStyle_11, sX2_holdStyle_12, sX2_holdStyle_12n, sX2_holdStyle_13, sX2_holdStyle_14, sX2_holdStyle_15, sX2_holdStyle_18, sX2_holdStyle_21i, sX2_holdStyle_21r, sX2_holdStyle_21z, sX2_holdStyle_21o, sX2_holdStyle_24, sX2_holdStyle_27, gG2_0, gG2_1, gG2_2, gG2_3, gG2_4, gG2_5, gG2_6, gG2_7, gG2_8, gG2_9, gG2_10, gG2_11, gP2_0, gP2_1, gP2_2, gP2_3, gP2_4, gP2_5, gP2_6, gP2_7, gP2_8, gP2_9, gP2_10, gP2_11, zpush_v, zpush_n, gCk, gAi, gSi, gSz, gLi, gLq, ↓if_pos, ↓if_neg]
    have e : cpf hd (fun p => nI (valS S p st)) 4 4 = hd := by
      funext q
      unfold cpf
      rw [if_neg (by omega)]
    rw [e, hset_id hO.2.2.2.2]
  | succ m' ih =>
    intro i hi h1 hd hs hO
    have c1 := hO.1
    have c2 := hO.2.2.2.1
    have hS1 := hS.off hs (by omega)
    have c3 := hS1.cell.1
    rw [sX2_holdStyle_2]
    simp (disch := (first | omega | assumption | (simp (disch := omega) only [Int32.lt_iff_toInt_lt, Int32.le_iff_toInt_le, ← Int32.toInt_inj, nI_toInt, zi_m1, zi_m2, zi_m3, zi_m9]; omega) | decide)) only [sX2_holdStyle_0, sX2_holdStyle_1i, sX2_holdStyle_1r, sX2_holdStyle_1z, sX2_holdStyle_1o, sX2_holdStyle_3, sX2_holdStyle_4, sX2_holdStyle_7, sX2_holdStyle_8, sX2_holdStyle_11, sX2_holdStyle_12, sX2_holdStyle_12n, sX2_holdStyle_13, sX2_holdStyle_14, sX2_holdStyle_15, sX2_holdStyle_18, sX2_holdStyle_21i, sX2_holdStyle_21r, sX2_holdStyle_21z, sX2_holdStyle_21o, sX2_holdStyle_24, sX2_holdStyle_27, gG2_0, gG2_1, gG2_2, gG2_3, gG2_4, gG2_5, gG2_6, gG2_7, gG2_8, gG2_9, gG2_10, gG2_11, gP2_0, gP2_1, gP2_2, gP2_3, gP2_4, gP2_5, gP2_6, gP2_7, gP2_8, gP2_9, gP2_10, gP2_11, zpush_v, zpush_n, gCk, gAi, gSi, gSz, gLi, gLq, ↓if_pos, ↓if_neg, c1, c2, c3, m_X7_valueIn hS1 hw (show i < 6 by omega) hst, m_X5_set hO.2.2.2, nI_add]
    rw [ih (i + 1) (by omega) _ _ (hs.tr (Same.set (by omega) (by omega))) hO.setH, hset_hset]
    congr 2
    have e : cpf (upd hd i (nI (valS S i st))) (fun p => nI (valS S p st)) (i + 1) 4 = cpf hd (fun p => nI (valS S p st)) i 4 := by
      funext q
      unfold cpf upd
      by_cases hq : q = i
      · subst hq
        rw [if_neg (by omega), if_pos rfl, if_pos (by omega)]
      · by_cases hq2 : i + 1 ≤ q ∧ q < 4
        · rw [if_pos hq2, if_pos (by omega)]
        · rw [if_neg hq2, if_neg hq, if_neg (by omega)]
    rw [e]
theorem m_X2_holdStyle {a : Nat} {S : Sh} {st : Option Nat} (hO : oLook h k b e g m ht o ns ny la sg sy hd) (hS : rSheet h a S) (hw : WfS S) (hst : okO st) (hak : a + 5 ≤ k ∨ k + 7 ≤ a) (Q : Option Value → Hp → Prop) :
    WPm 11 [.ref k, .int (eN st), .ref a] h Q = Q none (hset h (k + 6) (.inl (0, 4, .inl (cpf hd (fun p => nI (valS S p st)) 0 4)))) := by
  rw [eX2_holdStyle]
  simp (disch := (first | omega | assumption | (simp (disch := omega) only [Int32.lt_iff_toInt_lt, Int32.le_iff_toInt_le, ← Int32.toInt_inj, nI_toInt, zi_m1, zi_m2, zi_m3, zi_m9]; omega) | decide)) only [sX2_holdStyle_0, sX2_holdStyle_1i, sX2_holdStyle_1r, sX2_holdStyle_1z, sX2_holdStyle_1o]
  exact l_X2_holdStyle hS hw hst hak Q 4 0 (by omega) h hd Same.rf hO
theorem l_X2_addSign {x y : Int32} {at_ : Nat} (hat : at_ + 6 ≤ 480) (Q : Option Value → Hp → Prop) : ∀ (m' i : Nat), m' + i = 4 → ∀ (h1 : Hp) (sg : Nat → Int32), oLook h1 k b e g m ht o ns ny la sg sy hd →
    WP 12 29 [some (.ref k), some (.int x), some (.int (nI at_)), some (.int y), some (.int (nI i))] [] h1 Q =
    WP 12 63 [some (.ref k), some (.int x), some (.int (nI at_)), some (.int y), some (.int (nI 4))] [] (hset h1 (k + 2) (.inl (0, 480, .inl (cpf sg (fun q => hd (q - (at_ + 1))) (at_ + 1 + i) (at_ + 5))))) Q := by
  intro m'
  induction m' with
  | zero =>
    intro i hi h1 sg hO
    have hi : i = 4 := by omega
    subst hi
    rw [sX2_addSign_29]
    simp (disch := (first | omega | assumption | (simp (disch := omega) only [Int32.lt_iff_toInt_lt, Int32.le_iff_toInt_le, ← Int32.toInt_inj, nI_toInt, zi_m1, zi_m2, zi_m3, zi_m9]; omega) | decide)) only [sX2_addSign_31, sX2_addSign_32, zpush_v, zpush_n, gCk, gAi, gSi, gSz, gLi, gLq, ↓if_pos, ↓if_neg]
    have e : cpf sg (fun q => hd (q - (at_ + 1))) (at_ + 1 + 4) (at_ + 5) = sg := by
      funext q
      unfold cpf
      rw [if_neg (by omega)]
    rw [e, hset_id hO.2.1.2]
  | succ m' ih =>
    intro i hi h1 sg hO
    have c1 := hO.1
    have c2 := hO.2.1.1
    have c3 := hO.2.2.2.1
    rw [sX2_addSign_29]
    simp (disch := (first | omega | assumption | (simp (disch := omega) only [Int32.lt_iff_toInt_lt, Int32.le_iff_toInt_le, ← Int32.toInt_inj, nI_toInt, zi_m1, zi_m2, zi_m3, zi_m9]; omega) | decide)) only [sX2_addSign_31, sX2_addSign_32, sX2_addSign_35, sX2_addSign_36, sX2_addSign_39, sX2_addSign_40, sX2_addSign_41, sX2_addSign_42, sX2_addSign_44, sX2_addSign_45, sX2_addSign_46, sX2_addSign_49, sX2_addSign_51, sX2_addSign_54, sX2_addSign_57i, sX2_addSign_57r, sX2_addSign_57z, sX2_addSign_57o, sX2_addSign_60, gG2_0, gG2_1, gG2_2, gG2_3, gG2_4, gG2_5, gG2_6, gG2_7, gG2_8, gG2_9, gG2_10, gG2_11, gP2_0, gP2_1, gP2_2, gP2_3, gP2_4, gP2_5, gP2_6, gP2_7, gP2_8, gP2_9, gP2_10, gP2_11, zpush_v, zpush_n, gCk, gAi, gSi, gSz, gLi, gLq, ↓if_pos, ↓if_neg, c1, c2, c3, m_X5_get hO.2.2.2, m_X5_set hO.2.1, nI_add]
    rw [ih (i + 1) (by omega) _ _ hO.setS, hset_hset]
    have e : cpf (upd sg (at_ + 1 + i) (hd i)) (fun q => hd (q - (at_ + 1))) (at_ + 1 + (i + 1)) (at_ + 5) = cpf sg (fun q => hd (q - (at_ + 1))) (at_ + 1 + i) (at_ + 5) := by
      funext q
      unfold cpf upd
      by_cases hq : q = at_ + 1 + i
      · subst hq
        rw [if_neg (by omega), if_pos rfl, if_pos (by omega)]
        congr 1
        omega
      · by_cases hq2 : at_ + 1 + (i + 1) ≤ q ∧ q < at_ + 5
        · rw [if_pos hq2, if_pos (by omega)]
        · rw [if_neg hq2, if_neg hq, if_neg (by omega)]
    rw [e]
theorem zi_0m1 : nI 0 - nI 1 = -1 := by decide
/-- the sign table, one sign more -/
def sgUp (sg hd : Nat → Int32) (at_ : Nat) (c y : Int32) : Nat → Int32 := upd (cpf (upd sg at_ c) (fun q => hd (q - (at_ + 1))) (at_ + 1) (at_ + 5)) (at_ + 5) y
end LK
