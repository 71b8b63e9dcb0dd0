/-! Text, Line, Look -/
abbrev Itm : Type := Nat ⊕ (Nat × Option Nat)
def iK : Itm → Int32
  | .inl _ => nI 0
  | .inr (l, _) => nI l
def iN : Itm → Int32
  | .inl c => nI c
  | .inr (_, o) => eN o
def rText (h : Hp) (t : Nat) (its : List Itm) : Prop := ∃ kf nf, h.1 t = some (.inr (8, [.int (nI its.length), .ref (t + 1), .ref (t + 3)])) ∧ oRow h (t + 1) its.length kf ∧ oRow h (t + 3) its.length nf ∧
  ∀ i x, its[i]? = some x → kf i = iK x ∧ nf i = iN x
/-- begin, end, style, margin, items -/
abbrev Ln : Type := Nat × Nat × Option Nat × Option Nat × List Itm
def rLine (h : Hp) (q : Nat) (ln : Ln) : Prop := ∃ t, h.1 q = some (.inr (1, [.int (nI ln.1), .int (nI ln.2.1), .int (eN ln.2.2.1), .int (eN ln.2.2.2.1), .ref t])) ∧ rText h t ln.2.2.2.2
/-- what a tag may hold -/
def okI : Itm → Prop
  | .inl c => 32 ≤ c ∧ c ≤ 126
  | .inr (l, o) => (l = 114 ∧ ∀ n, o = some n → n ≤ 9) ∨ (l = 107 ∧ ∃ n, o = some n ∧ n ≤ 9999) ∨ (l = 115 ∧ ∃ n, o = some n ∧ 1 ≤ n ∧ n ≤ 99) ∨ (l = 99 ∧ ∃ n, o = some n ∧ n ≤ 7) ∨ (l = 116 ∧ ∃ n, o = some n ∧ n ≤ 7) ∨ (l = 98 ∧ ∃ n, o = some n ∧ n ≤ 1)
def isK : Itm → Bool
  | .inr (l, _) => Nat.beq l 107
  | _ => false
/-- a sign: its code, its values, its syllable -/
abbrev Sgn : Type := Nat × (Nat → Nat) × Option Nat
def cntS (sgs : List Sgn) (k : Nat) : Nat := (sgs.filter (fun s => s.2.2 == some k)).length
def hgS (sgs : List Sgn) : Nat := sgs.foldl (fun m s => max m (s.2.1 0)) 0
abbrev Rd : Type := (Nat → Nat) × List Sgn × List Nat
def updN (f : Nat → Nat) (k x : Nat) : Nat → Nat := fun j => if j = k then x else f j
def prT (l : Nat) : Nat := if l = 115 then 0 else if l = 99 then 1 else if l = 116 then 2 else 3
def sylOf (lasts : List Nat) : Option Nat := if lasts.length = 0 then none else some (lasts.length - 1)
def runI (S : Sh) (st : Option Nat) (r : Rd) : Itm → Rd
  | .inl c => (r.1, r.2.1 ++ [(c, r.1, sylOf r.2.2)], r.2.2)
  | .inr (l, o) => if l = 107 then (r.1, r.2.1, r.2.2 ++ [o.getD 0]) else if l = 114 then ((fun p => valS S p (match o with
    | none => st
    | some n => some n)), r.2.1, r.2.2) else (updN r.1 (prT l) (o.getD 0), r.2.1, r.2.2)
def rd0 (S : Sh) (st : Option Nat) : Rd := ((fun p => valS S p st), [], [])
def runL (S : Sh) (st : Option Nat) (its : List Itm) : Rd := its.foldl (runI S st) (rd0 S st)
def rTab (sg : Nat → Int32) (sgs : List Sgn) : Prop := ∀ i x, sgs[i]? = some x → sg (i * 6) = nI x.1 ∧ (∀ p, p < 4 → sg (i * 6 + 1 + p) = nI (x.2.1 p)) ∧ sg (i * 6 + 5) = eS x.2.2
def rSyl (sy : Nat → Int32) (b : Nat) (lasts : List Nat) (sgs : List Sgn) : Prop := ∀ i, i < lasts.length → sy (i * 3) = nI (b + (lasts.take i).sum) ∧ sy (i * 3 + 1) = nI (lasts.getD i 0) ∧ sy (i * 3 + 2) = nI (cntS sgs i)
def oLook (h : Hp) (k : Nat) (b e g m ht o ns ny la : Int32) (sg sy hd : Nat → Int32) : Prop :=
  h.1 k = some (.inr (2, [.int b, .int e, .int g, .int m, .int ht, .int o, .int ns, .ref (k + 1), .int ny, .ref (k + 3), .int la, .ref (k + 5)])) ∧ oRow h (k + 1) 480 sg ∧ oRow h (k + 3) 60 sy ∧ oRow h (k + 5) 4 hd
def pLook (h : Hp) (k b e g m : Nat) (o : Int32) (r : Rd) : Prop := ∃ sg sy hd, oLook h k (nI b) (nI e) (nI g) (nI m) (nI (hgS r.2.1)) o (nI r.2.1.length) (nI r.2.2.length) (nI r.2.2.sum) sg sy hd ∧ rTab sg r.2.1 ∧ rSyl sy b r.2.2 r.2.1 ∧ ∀ p, p < 4 → hd p = nI (r.1 p)
section LK
variable {h : Hp} {k : Nat} {b e g m ht o ns ny la : Int32} {sg sy hd : Nat → Int32}
theorem oLook.off {h' : Hp} {lo n : Nat} (hr : oLook h k b e g m ht o ns ny la sg sy hd) (hs : Same h h' lo n) (hq : k + 7 ≤ lo ∨ lo + n ≤ k) : oLook h' k b e g m ht o ns ny la sg sy hd :=
  ⟨by rw [hs.at (by omega)]; exact hr.1, hr.2.1.off hs (by omega), hr.2.2.1.off hs (by omega), hr.2.2.2.off hs (by omega)⟩
theorem oLook.setS {f : Nat → Int32} (hr : oLook h k b e g m ht o ns ny la sg sy hd) : oLook (hset h (k + 2) (.inl (0, 480, .inl f))) k b e g m ht o ns ny la f sy hd :=
  ⟨by rw [hset_ne (by omega)]; exact hr.1, hr.2.1.set, hr.2.2.1.off (Same.set (lo := k + 2) (n := 1) (by omega) (by omega)) (by omega), hr.2.2.2.off (Same.set (lo := k + 2) (n := 1) (by omega) (by omega)) (by omega)⟩
theorem oLook.setY {f : Nat → Int32} (hr : oLook h k b e g m ht o ns ny la sg sy hd) : oLook (hset h (k + 4) (.inl (0, 60, .inl f))) k b e g m ht o ns ny la sg f hd :=
  ⟨by rw [hset_ne (by omega)]; exact hr.1, hr.2.1.off (Same.set (lo := k + 4) (n := 1) (by omega) (by omega)) (by omega), hr.2.2.1.set, hr.2.2.2.off (Same.set (lo := k + 4) (n := 1) (by omega) (by omega)) (by omega)⟩
theorem oLook.setH {f : Nat → Int32} (hr : oLook h k b e g m ht o ns ny la sg sy hd) : oLook (hset h (k + 6) (.inl (0, 4, .inl f))) k b e g m ht o ns ny la sg sy f :=
  ⟨by rw [hset_ne (by omega)]; exact hr.1, hr.2.1.off (Same.set (lo := k + 6) (n := 1) (by omega) (by omega)) (by omega), hr.2.2.1.off (Same.set (lo := k + 6) (n := 1) (by omega) (by omega)) (by omega), hr.2.2.2.set⟩
theorem oLook.setK {b' e' g' m' ht' o' ns' ny' la' : Int32} (hr : oLook h k b e g m ht o ns ny la sg sy hd) : oLook (hset h k (.inr (2, [.int b', .int e', .int g', .int m', .int ht', .int o', .int ns', .ref (k + 1), .int ny', .ref (k + 3), .int la', .ref (k + 5)]))) k b' e' g' m' ht' o' ns' ny' la' sg sy hd :=
  ⟨hset_same, hr.2.1.off (Same.set (lo := k) (n := 1) (by omega) (by omega)) (by omega), hr.2.2.1.off (Same.set (lo := k) (n := 1) (by omega) (by omega)) (by omega), hr.2.2.2.off (Same.set (lo := k) (n := 1) (by omega) (by omega)) (by omega)⟩
theorem l_X2_holdStyle {a : Nat} {S : Sh} {st : Option Nat} (hS : rSheet h a S) (hw : WfS S) (hst : okO st) (hak : a + 5 ≤ k ∨ k + 7 ≤ a) (Q : Option Value → Hp → Prop) : ∀ (m' i : Nat), m' + i = 4 → ∀ (h1 : Hp) (hd : Nat → Int32), Same h h1 k 7 → oLook h1 k b e g m ht o ns ny la sg sy hd →
    WP 11 2 [some (.ref k), some (.int (eN st)), some (.ref a), some (.int (nI i))] [] h1 Q = Q none (hset h1 (k + 6) (.inl (0, 4, .inl (cpf hd (fun p => nI (valS S p st)) i 4)))) := by
  intro m'
  induction m' with
  | zero =>
    intro i hi h1 hd hs hO
    have hi : i = 4 := by omega
    subst hi
    rw [sX2_holdStyle_2]
    simp (disch := (first | omega | assumption | (simp (disch := omega) only [Int32.lt_iff_toInt_lt, Int32.le_iff_toInt_le, ← Int32.toInt_inj, nI_toInt, zi_m1, zi_m2, zi_m3, zi_m9]; omega) | decide)) only [sX2_holdStyle_0, sX2_holdStyle_1i, sX2_holdStyle_1r, sX2_holdStyle_1z, sX2_holdStyle_1o, sX2_holdStyle_3, sX2_holdStyle_4, sX2_holdStyle_7, sX2_holdStyle_8, sX2_holdStyle_11, sX2_holdStyle_12, sX2_holdStyle_12n, sX2_holdStyle_13, sX2_holdStyle_14, sX2_holdStyle_15, sX2_holdStyle_18, sX2_holdStyle_21i, sX2_holdStyle_21r, sX2_holdStyle_21z, sX2_holdStyle_21o, sX2_holdStyle_24, sX2_holdStyle_27, gG2_0, gG2_1, gG2_2, gG2_3, gG2_4, gG2_5, gG2_6, gG2_7, gG2_8, gG2_9, gG2_10, gG2_11, gP2_0, gP2_1, gP2_2, gP2_3, gP2_4, gP2_5, gP2_6, gP2_7, gP2_8, gP2_9, gP2_10, gP2_11, zpush_v, zpush_n, gCk, gAi, gSi, gLi, gLq, ↓if_pos, ↓if_neg]
    have e : cpf hd (fun p => nI (valS S p st)) 4 4 = hd := by
      funext q
      unfold cpf
      rw [if_neg (by omega)]
    rw [e, hset_id hO.2.2.2.2]
  | succ m' ih =>
    intro i hi h1 hd hs hO
    have c1 := hO.1
    have c2 := hO.2.2.2.1
    have hS1 := hS.off hs (by omega)
    have c3 := hS1.cell.1
    rw [sX2_holdStyle_2]
    simp (disch := (first | omega | assumption | (simp (disch := omega) only [Int32.lt_iff_toInt_lt, Int32.le_iff_toInt_le, ← Int32.toInt_inj, nI_toInt, zi_m1, zi_m2, zi_m3, zi_m9]; omega) | decide)) only [sX2_holdStyle_0, sX2_holdStyle_1i, sX2_holdStyle_1r, sX2_holdStyle_1z, sX2_holdStyle_1o, sX2_holdStyle_3, sX2_holdStyle_4, sX2_holdStyle_7, sX2_holdStyle_8, sX2_holdStyle_11, sX2_holdStyle_12, sX2_holdStyle_12n, sX2_holdStyle_13, sX2_holdStyle_14, sX2_holdStyle_15, sX2_holdStyle_18, sX2_holdStyle_21i, sX2_holdStyle_21r, sX2_holdStyle_21z, sX2_holdStyle_21o, sX2_holdStyle_24, sX2_holdStyle_27, gG2_0, gG2_1, gG2_2, gG2_3, gG2_4, gG2_5, gG2_6, gG2_7, gG2_8, gG2_9, gG2_10, gG2_11, gP2_0, gP2_1, gP2_2, gP2_3, gP2_4, gP2_5, gP2_6, gP2_7, gP2_8, gP2_9, gP2_10, gP2_11, zpush_v, zpush_n, gCk, gAi, gSi, gLi, gLq, ↓if_pos, ↓if_neg, c1, c2, c3, m_X7_valueIn hS1 hw (show i < 6 by omega) hst, m_X5_set hO.2.2.2, nI_add]
    rw [ih (i + 1) (by omega) _ _ (hs.tr (Same.set (by omega) (by omega))) hO.setH, hset_hset]
    congr 2
    have e : cpf (upd hd i (nI (valS S i st))) (fun p => nI (valS S p st)) (i + 1) 4 = cpf hd (fun p => nI (valS S p st)) i 4 := by
      funext q
      unfold cpf upd
      by_cases hq : q = i
      · subst hq
        rw [if_neg (by omega), if_pos rfl, if_pos (by omega)]
      · by_cases hq2 : i + 1 ≤ q ∧ q < 4
        · rw [if_pos hq2, if_pos (by omega)]
        · rw [if_neg hq2, if_neg hq, if_neg (by omega)]
    rw [e]
theorem m_X2_holdStyle {a : Nat} {S : Sh} {st : Option Nat} (hO : oLook h k b e g m ht o ns ny la sg sy hd) (hS : rSheet h a S) (hw : WfS S) (hst : okO st) (hak : a + 5 ≤ k ∨ k + 7 ≤ a) (Q : Option Value → Hp → Prop) :
    WPm 11 [.ref k, .int (eN st), .ref a] h Q = Q none (hset h (k + 6) (.inl (0, 4, .inl (cpf hd (fun p => nI (valS S p st)) 0 4)))) := by
  rw [eX2_holdStyle]
  simp (disch := (first | omega | assumption | (simp (disch := omega) only [Int32.lt_iff_toInt_lt, Int32.le_iff_toInt_le, ← Int32.toInt_inj, nI_toInt, zi_m1, zi_m2, zi_m3, zi_m9]; omega) | decide)) only [sX2_holdStyle_0, sX2_holdStyle_1i, sX2_holdStyle_1r, sX2_holdStyle_1z, sX2_holdStyle_1o]
  exact l_X2_holdStyle hS hw hst hak Q 4 0 (by omega) h hd Same.rf hO
theorem l_X2_addSign {x y : Int32} {at_ : Nat} (hat : at_ + 6 ≤ 480) (Q : Option Value → Hp → Prop) : ∀ (m' i : Nat), m' + i = 4 → ∀ (h1 : Hp) (sg : Nat → Int32), oLook h1 k b e g m ht o ns ny la sg sy hd →
    WP 12 29 [some (.ref k), some (.int x), some (.int (nI at_)), some (.int y), some (.int (nI i))] [] h1 Q =
    WP 12 63 [some (.ref k), some (.int x), some (.int (nI at_)), some (.int y), some (.int (nI 4))] [] (hset h1 (k + 2) (.inl (0, 480, .inl (cpf sg (fun q => hd (q - (at_ + 1))) (at_ + 1 + i) (at_ + 5))))) Q := by
  intro m'
  induction m' with
  | zero =>
    intro i hi h1 sg hO
    have hi : i = 4 := by omega
    subst hi
    rw [sX2_addSign_29]
    simp (disch := (first | omega | assumption | (simp (disch := omega) only [Int32.lt_iff_toInt_lt, Int32.le_iff_toInt_le, ← Int32.toInt_inj, nI_toInt, zi_m1, zi_m2, zi_m3, zi_m9]; omega) | decide)) only [sX2_addSign_31, sX2_addSign_32, zpush_v, zpush_n, gCk, gAi, gSi, gLi, gLq, ↓if_pos, ↓if_neg]
    have e : cpf sg (fun q => hd (q - (at_ + 1))) (at_ + 1 + 4) (at_ + 5) = sg := by
      funext q
      unfold cpf
      rw [if_neg (by omega)]
    rw [e, hset_id hO.2.1.2]
  | succ m' ih =>
    intro i hi h1 sg hO
    have c1 := hO.1
    have c2 := hO.2.1.1
    have c3 := hO.2.2.2.1
    rw [sX2_addSign_29]
    simp (disch := (first | omega | assumption | (simp (disch := omega) only [Int32.lt_iff_toInt_lt, Int32.le_iff_toInt_le, ← Int32.toInt_inj, nI_toInt, zi_m1, zi_m2, zi_m3, zi_m9]; omega) | decide)) only [sX2_addSign_31, sX2_addSign_32, sX2_addSign_35, sX2_addSign_36, sX2_addSign_39, sX2_addSign_40, sX2_addSign_41, sX2_addSign_42, sX2_addSign_44, sX2_addSign_45, sX2_addSign_46, sX2_addSign_49, sX2_addSign_51, sX2_addSign_54, sX2_addSign_57i, sX2_addSign_57r, sX2_addSign_57z, sX2_addSign_57o, sX2_addSign_60, gG2_0, gG2_1, gG2_2, gG2_3, gG2_4, gG2_5, gG2_6, gG2_7, gG2_8, gG2_9, gG2_10, gG2_11, gP2_0, gP2_1, gP2_2, gP2_3, gP2_4, gP2_5, gP2_6, gP2_7, gP2_8, gP2_9, gP2_10, gP2_11, zpush_v, zpush_n, gCk, gAi, gSi, gLi, gLq, ↓if_pos, ↓if_neg, c1, c2, c3, m_X5_get hO.2.2.2, m_X5_set hO.2.1, nI_add]
    rw [ih (i + 1) (by omega) _ _ hO.setS, hset_hset]
    have e : cpf (upd sg (at_ + 1 + i) (hd i)) (fun q => hd (q - (at_ + 1))) (at_ + 1 + (i + 1)) (at_ + 5) = cpf sg (fun q => hd (q - (at_ + 1))) (at_ + 1 + i) (at_ + 5) := by
      funext q
      unfold cpf upd
      by_cases hq : q = at_ + 1 + i
      · subst hq
        rw [if_neg (by omega), if_pos rfl, if_pos (by omega)]
        congr 1
        omega
      · by_cases hq2 : at_ + 1 + (i + 1) ≤ q ∧ q < at_ + 5
        · rw [if_pos hq2, if_pos (by omega)]
        · rw [if_neg hq2, if_neg hq, if_neg (by omega)]
    rw [e]
theorem zi_0m1 : nI 0 - nI 1 = -1 := by decide
/-- the sign table, one sign more -/
def sgUp (sg hd : Nat → Int32) (at_ : Nat) (c y : Int32) : Nat → Int32 := upd (cpf (upd sg at_ c) (fun q => hd (q - (at_ + 1))) (at_ + 1) (at_ + 5)) (at_ + 5) y
theorem zi_max {a b : Nat} (ha : a < 2 ^ 31) (hb : b < 2 ^ 31) : (if nI a < nI b then nI b else nI a) = nI (max a b) := by
  by_cases h : a < b
  · rw [if_pos ((nI_ltI ha hb).mpr h), Nat.max_eq_right (by omega)]
  · rw [if_neg (fun q => h ((nI_ltI ha hb).mp q)), Nat.max_eq_left (by omega)]
theorem za1 {k : Nat} : k + 1 + 1 = k + 2 := rfl
theorem za3 {k : Nat} : k + 3 + 1 = k + 4 := rfl
theorem za5 {k : Nat} : k + 5 + 1 = k + 6 := rfl
theorem o_X2_addSign {hn s0 n yn : Nat} {c : Int32} (hO : oLook h k b e g m (nI hn) o (nI n) (nI yn) la sg sy hd) (hns : n < 80) (hny : yn ≤ 20) (h0 : hd 0 = nI s0) (hb1 : hn ≤ 1000) (hb2 : s0 ≤ 1000) :
    ∃ h', Same h h' k 7 ∧ oLook h' k b e g m (nI (max hn s0)) o (nI (n + 1)) (nI yn) la (sgUp sg hd (n * 6) c (eS (if yn = 0 then none else some (yn - 1)))) (if yn = 0 then sy else upd sy ((yn - 1) * 3 + 2) (sy ((yn - 1) * 3 + 2) + nI 1)) hd ∧
      ∀ Q : Option Value → Hp → Prop, WPm 12 [.ref k, .int c] h Q = Q none h' := by
  have c1 := hO.1
  have c2 := hO.2.1.1
  have c3 := hO.2.2.1.1
  have c4 := hO.2.2.2.1
  by_cases hy : yn = 0
  · subst hy
    simp only [if_true]
    have hA := hO.setS (f := upd sg (n * 6) c)
    have hB := hA.setS (f := cpf (upd sg (n * 6) c) (fun q => hd (q - (n * 6 + 1))) (n * 6 + 1 + 0) (n * 6 + 5))
    have hC := hB.setS (f := upd (cpf (upd sg (n * 6) c) (fun q => hd (q - (n * 6 + 1))) (n * 6 + 1 + 0) (n * 6 + 5)) (n * 6 + 5) (-9))
    have hD := hC.setK (b' := b) (e' := e) (g' := g) (m' := m) (ht' := nI (max hn s0)) (o' := o) (ns' := nI (n + 1)) (ny' := nI 0) (la' := la)
    refine ⟨_, ?_, hD, fun Q => ?_⟩
    · exact (((Same.set (lo := k) (n := 7) (by omega) (by omega)).tr (Same.set (by omega) (by omega))).tr (Same.set (by omega) (by omega))).tr (Same.set (by omega) (by omega))
    · rw [eX2_addSign]
      simp (disch := (first | omega | assumption | (simp (disch := omega) only [Int32.lt_iff_toInt_lt, Int32.le_iff_toInt_le, ← Int32.toInt_inj, nI_toInt, zi_m1, zi_m2, zi_m3, zi_m9]; omega) | decide)) only [sX2_addSign_0, sX2_addSign_1, sX2_addSign_4, sX2_addSign_6, sX2_addSign_7i, sX2_addSign_7r, sX2_addSign_7z, sX2_addSign_7o, sX2_addSign_8, sX2_addSign_9, sX2_addSign_12, sX2_addSign_13, sX2_addSign_14i, sX2_addSign_14r, sX2_addSign_14z, sX2_addSign_14o, sX2_addSign_15, sX2_addSign_16, sX2_addSign_19, sX2_addSign_20, sX2_addSign_21, sX2_addSign_22, sX2_addSign_23, sX2_addSign_26, sX2_addSign_27i, sX2_addSign_27r, sX2_addSign_27z, sX2_addSign_27o, gG2_0, gG2_1, gG2_2, gG2_3, gG2_4, gG2_5, gG2_6, gG2_7, gG2_8, gG2_9, gG2_10, gG2_11, gP2_0, gP2_1, gP2_2, gP2_3, gP2_4, gP2_5, gP2_6, gP2_7, gP2_8, gP2_9, gP2_10, gP2_11, zpush_v, zpush_n, gCk, gAi, gSi, gLi, gLq, ↓if_pos, ↓if_neg, c1, c2, c3, nI_mul, nI_add, zi_0m1, m_X5_set hO.2.1, za1, za3, za5, Nat.add_zero]
      rw [l_X2_addSign (at_ := n * 6) (by omega) Q 4 0 (by omega) _ _ hA]
      simp (disch := (first | omega | assumption | (simp (disch := omega) only [Int32.lt_iff_toInt_lt, Int32.le_iff_toInt_le, ← Int32.toInt_inj, nI_toInt, zi_m1, zi_m2, zi_m3, zi_m9]; omega) | decide)) only [sX2_addSign_63, sX2_addSign_64, sX2_addSign_67, sX2_addSign_68, sX2_addSign_69, sX2_addSign_70, sX2_addSign_71, sX2_addSign_74, sX2_addSign_76, sX2_addSign_79, sX2_addSign_80, sX2_addSign_83, sX2_addSign_84, sX2_addSign_87, sX2_addSign_88, sX2_addSign_89, sX2_addSign_90, sX2_addSign_91, sX2_addSign_92i, sX2_addSign_92r, sX2_addSign_92z, sX2_addSign_92o, sX2_addSign_94, sX2_addSign_95, sX2_addSign_98, sX2_addSign_100, sX2_addSign_101, sX2_addSign_104, sX2_addSign_106, sX2_addSign_109, sX2_addSign_110, sX2_addSign_111, sX2_addSign_114, sX2_addSign_115, sX2_addSign_116, sX2_addSign_119, sX2_addSign_120, sX2_addSign_123, sX2_addSign_124, sX2_addSign_127, sX2_addSign_130, sX2_addSign_133, sX2_addSign_134, sX2_addSign_134i, sX2_addSign_135, sX2_addSign_138, sX2_addSign_139, sX2_addSign_140, sX2_addSign_143, gG2_0, gG2_1, gG2_2, gG2_3, gG2_4, gG2_5, gG2_6, gG2_7, gG2_8, gG2_9, gG2_10, gG2_11, gP2_0, gP2_1, gP2_2, gP2_3, gP2_4, gP2_5, gP2_6, gP2_7, gP2_8, gP2_9, gP2_10, gP2_11, zpush_v, zpush_n, gCk, gAi, gSi, gLi, gLq, ↓if_pos, ↓if_neg, hB.1, hB.2.1.1, hC.1, hC.2.2.2.1, nI_add, m_X5_set hB.2.1, m_X5_get hC.2.2.2, h0, zi_max, hset_same, za1, za3, za5, Nat.add_zero]
      simp only [hset_hset]
  · simp only [hy, if_false]
    have hA := hO.setS (f := upd sg (n * 6) c)
    have hB := hA.setS (f := cpf (upd sg (n * 6) c) (fun q => hd (q - (n * 6 + 1))) (n * 6 + 1 + 0) (n * 6 + 5))
    have hC := hB.setS (f := upd (cpf (upd sg (n * 6) c) (fun q => hd (q - (n * 6 + 1))) (n * 6 + 1 + 0) (n * 6 + 5)) (n * 6 + 5) (nI (yn - 1)))
    have hC2 := hC.setY (f := upd sy ((yn - 1) * 3 + 2) (sy ((yn - 1) * 3 + 2) + nI 1))
    have hD := hC2.setK (b' := b) (e' := e) (g' := g) (m' := m) (ht' := nI (max hn s0)) (o' := o) (ns' := nI (n + 1)) (ny' := nI yn) (la' := la)
    refine ⟨_, ?_, hD, fun Q => ?_⟩
    · exact ((((Same.set (lo := k) (n := 7) (by omega) (by omega)).tr (Same.set (by omega) (by omega))).tr (Same.set (by omega) (by omega))).tr (Same.set (by omega) (by omega))).tr (Same.set (by omega) (by omega))
    · rw [eX2_addSign]
      simp (disch := (first | omega | assumption | (simp (disch := omega) only [Int32.lt_iff_toInt_lt, Int32.le_iff_toInt_le, ← Int32.toInt_inj, nI_toInt, zi_m1, zi_m2, zi_m3, zi_m9]; omega) | decide)) only [sX2_addSign_0, sX2_addSign_1, sX2_addSign_4, sX2_addSign_6, sX2_addSign_7i, sX2_addSign_7r, sX2_addSign_7z, sX2_addSign_7o, sX2_addSign_8, sX2_addSign_9, sX2_addSign_12, sX2_addSign_13, sX2_addSign_14i, sX2_addSign_14r, sX2_addSign_14z, sX2_addSign_14o, sX2_addSign_15, sX2_addSign_16, sX2_addSign_19, sX2_addSign_20, sX2_addSign_21, sX2_addSign_22, sX2_addSign_23, sX2_addSign_26, sX2_addSign_27i, sX2_addSign_27r, sX2_addSign_27z, sX2_addSign_27o, gG2_0, gG2_1, gG2_2, gG2_3, gG2_4, gG2_5, gG2_6, gG2_7, gG2_8, gG2_9, gG2_10, gG2_11, gP2_0, gP2_1, gP2_2, gP2_3, gP2_4, gP2_5, gP2_6, gP2_7, gP2_8, gP2_9, gP2_10, gP2_11, zpush_v, zpush_n, gCk, gAi, gSi, gLi, gLq, ↓if_pos, ↓if_neg, c1, c2, c3, nI_mul, nI_add, nI_sub, m_X5_set hO.2.1, za1, za3, za5, Nat.add_zero]
      rw [l_X2_addSign (at_ := n * 6) (by omega) Q 4 0 (by omega) _ _ hA]
      simp (disch := (first | omega | assumption | (simp (disch := omega) only [Int32.lt_iff_toInt_lt, Int32.le_iff_toInt_le, ← Int32.toInt_inj, nI_toInt, zi_m1, zi_m2, zi_m3, zi_m9]; omega) | decide)) only [sX2_addSign_63, sX2_addSign_64, sX2_addSign_67, sX2_addSign_68, sX2_addSign_69, sX2_addSign_70, sX2_addSign_71, sX2_addSign_74, sX2_addSign_76, sX2_addSign_79, sX2_addSign_80, sX2_addSign_83, sX2_addSign_84, sX2_addSign_87, sX2_addSign_88, sX2_addSign_89, sX2_addSign_90, sX2_addSign_91, sX2_addSign_92i, sX2_addSign_92r, sX2_addSign_92z, sX2_addSign_92o, sX2_addSign_94, sX2_addSign_95, sX2_addSign_98, sX2_addSign_100, sX2_addSign_101, sX2_addSign_104, sX2_addSign_106, sX2_addSign_109, sX2_addSign_110, sX2_addSign_111, sX2_addSign_114, sX2_addSign_115, sX2_addSign_116, sX2_addSign_119, sX2_addSign_120, sX2_addSign_123, sX2_addSign_124, sX2_addSign_127, sX2_addSign_130, sX2_addSign_133, sX2_addSign_134, sX2_addSign_134i, sX2_addSign_135, sX2_addSign_138, sX2_addSign_139, sX2_addSign_140, sX2_addSign_143, gG2_0, gG2_1, gG2_2, gG2_3, gG2_4, gG2_5, gG2_6, gG2_7, gG2_8, gG2_9, gG2_10, gG2_11, gP2_0, gP2_1, gP2_2, gP2_3, gP2_4, gP2_5, gP2_6, gP2_7, gP2_8, gP2_9, gP2_10, gP2_11, zpush_v, zpush_n, gCk, gAi, gSi, gLi, gLq, ↓if_pos, ↓if_neg, hB.1, hB.2.1.1, hC.1, hC.2.2.1.1, hC2.1, hC2.2.2.2.1, nI_mul, nI_add, m_X5_set hB.2.1, m_X5_get hC.2.2.1, m_X5_set hC.2.2.1, m_X5_get hC2.2.2.2, h0, zi_max, hset_same, za1, za3, za5, Nat.add_zero]
      simp only [hset_hset]
theorem o_X2_addSyllable {bn n yn ln x : Nat} (hO : oLook h k (nI bn) e g m ht o (nI n) (nI yn) (nI ln) sg sy hd) (hny : yn < 20) (hb1 : bn ≤ 1000000) (hb2 : ln ≤ 1000000) (hx : x ≤ 10000) :
    ∃ h', Same h h' k 7 ∧ oLook h' k (nI bn) e g m ht o (nI n) (nI (yn + 1)) (nI (ln + x)) sg (upd (upd (upd sy (yn * 3) (nI (bn + ln))) (yn * 3 + 1) (nI x)) (yn * 3 + 2) (nI 0)) hd ∧
      ∀ Q : Option Value → Hp → Prop, WPm 13 [.ref k, .int (nI x)] h Q = Q none h' := by
  have c1 := hO.1
  have c3 := hO.2.2.1.1
  have hA := hO.setY (f := upd sy (yn * 3) (nI (bn + ln)))
  have hB := hA.setY (f := upd (upd sy (yn * 3) (nI (bn + ln))) (yn * 3 + 1) (nI x))
  have hC := hB.setY (f := upd (upd (upd sy (yn * 3) (nI (bn + ln))) (yn * 3 + 1) (nI x)) (yn * 3 + 2) (nI 0))
  have hD := hC.setK (b' := nI bn) (e' := e) (g' := g) (m' := m) (ht' := ht) (o' := o) (ns' := nI n) (ny' := nI (yn + 1)) (la' := nI (ln + x))
  refine ⟨_, ?_, hD, fun Q => ?_⟩
  · exact (((Same.set (lo := k) (n := 7) (by omega) (by omega)).tr (Same.set (by omega) (by omega))).tr (Same.set (by omega) (by omega))).tr (Same.set (by omega) (by omega))
  · rw [eX2_addSyllable]
    simp (disch := (first | omega | assumption | (simp (disch := omega) only [Int32.lt_iff_toInt_lt, Int32.le_iff_toInt_le, ← Int32.toInt_inj, nI_toInt, zi_m1, zi_m2, zi_m3, zi_m9]; omega) | decide)) only [sX2_addSyllable_0, sX2_addSyllable_1, sX2_addSyllable_4, sX2_addSyllable_5, sX2_addSyllable_6i, sX2_addSyllable_6r, sX2_addSyllable_6z, sX2_addSyllable_6o, sX2_addSyllable_7, sX2_addSyllable_8, sX2_addSyllable_11, sX2_addSyllable_12, sX2_addSyllable_13, sX2_addSyllable_16, sX2_addSyllable_17, sX2_addSyllable_20, sX2_addSyllable_21, sX2_addSyllable_24, sX2_addSyllable_25, sX2_addSyllable_28, sX2_addSyllable_29, sX2_addSyllable_30, sX2_addSyllable_31, sX2_addSyllable_32, sX2_addSyllable_35, sX2_addSyllable_36, sX2_addSyllable_39, sX2_addSyllable_40, sX2_addSyllable_41, sX2_addSyllable_42, sX2_addSyllable_43, sX2_addSyllable_46, sX2_addSyllable_47, sX2_addSyllable_47i, sX2_addSyllable_48, sX2_addSyllable_51, sX2_addSyllable_52, sX2_addSyllable_53, sX2_addSyllable_56, sX2_addSyllable_57, sX2_addSyllable_57i, sX2_addSyllable_58, sX2_addSyllable_61, sX2_addSyllable_62, sX2_addSyllable_63, sX2_addSyllable_66, gG2_0, gG2_1, gG2_2, gG2_3, gG2_4, gG2_5, gG2_6, gG2_7, gG2_8, gG2_9, gG2_10, gG2_11, gP2_0, gP2_1, gP2_2, gP2_3, gP2_4, gP2_5, gP2_6, gP2_7, gP2_8, gP2_9, gP2_10, gP2_11, zpush_v, zpush_n, gCk, gAi, gSi, gLi, gLq, ↓if_pos, ↓if_neg, c1, c3, hA.1, hA.2.2.1.1, hB.1, hB.2.2.1.1, hC.1, nI_mul, nI_add, m_X5_set hO.2.2.1, m_X5_set hA.2.2.1, m_X5_set hB.2.2.1, hset_same, za1, za3, za5, Nat.add_zero]
    simp only [hset_hset]
end LK
