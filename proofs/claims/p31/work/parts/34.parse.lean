/-! Reader -/
/-- items, place of the first number out of range, where it is (0 outside, 1 behind a bracket, or a letter), digits, number -/
abbrev PSt : Type := List Itm × Option Nat × Nat × Nat × Nat
abbrev isLt (c : Nat) : Prop := c = 114 ∨ c = 107 ∨ c = 115 ∨ c = 99 ∨ c = 116 ∨ c = 98
abbrev inRg (l x : Nat) : Prop := if l = 107 then x ≤ 9999 else if l = 114 then x < 10 else loP (prT l) ≤ x ∧ x ≤ hiP (prT l)
def pTake (s : PSt) (place c : Nat) : Option PSt :=
  if s.2.2.1 = 0 then (if c = 123 then some (s.1, s.2.1, 1, 0, 0) else some (s.1 ++ [.inl c], s.2.1, 0, 0, 0))
  else if s.2.2.1 = 1 then (if isLt c then some (s.1, s.2.1, c, 0, 0) else none)
  else if (48 ≤ c ∧ c ≤ 57) ∧ s.2.2.2.1 < 4 then some (s.1, s.2.1, s.2.2.1, s.2.2.2.1 + 1, s.2.2.2.2 * 10 + (c - 48))
  else if c = 125 ∧ (0 < s.2.2.2.1 ∨ s.2.2.1 = 114) then
    some (s.1 ++ [.inr (s.2.2.1, if 0 < s.2.2.2.1 then some s.2.2.2.2 else none)], (if (0 < s.2.2.2.1 ∧ ¬ inRg s.2.2.1 s.2.2.2.2) ∧ s.2.1 = none then some (place - s.2.2.2.1) else s.2.1), 0, 0, 0)
  else none
def pGo : List Nat → Nat → PSt → Nat ⊕ PSt
  | [], _, s => .inr s
  | c :: r, i, s => match pTake s i c with
    | none => .inl i
    | some s' => pGo r (i + 1) s'
def ps0 : PSt := ([], none, 0, 0, 0)
/-- the place of the error, if there is one -/
def pErr (txt : List Nat) : Option Nat := match pGo txt 0 ps0 with
  | .inl i => some i
  | .inr s => if s.2.2.1 = 0 then s.2.1 else some txt.length
def pIts (txt : List Nat) : List Itm := match pGo txt 0 ps0 with
  | .inl _ => []
  | .inr s => s.1
/-- what holds on the way -/
def kN (its : List Itm) : Nat := (its.filter isK).length
def pOk (i : Nat) (s : PSt) : Prop := s.1.length ≤ i ∧ 4 * kN s.1 + (if s.2.2.1 = 0 then 0 else if s.2.2.1 = 1 then 1 else 2 + s.2.2.2.1) ≤ i ∧ (s.2.2.1 = 0 ∨ s.2.2.1 = 1 ∨ isLt s.2.2.1) ∧ s.2.2.2.1 ≤ 4 ∧ s.2.2.2.2 < 10 ^ s.2.2.2.1 ∧ s.2.2.2.1 ≤ i ∧ (∀ v, s.2.1 = some v → v ≤ i) ∧ (s.2.1 = none → ∀ x ∈ s.1, okI x)
theorem kN_app (its : List Itm) (x : Itm) : kN (its ++ [x]) = kN its + (if isK x then 1 else 0) := by
  unfold kN
  rw [List.filter_append, List.length_append]
  cases h : isK x <;> simp [List.filter, h]
theorem pOk.pow {d : Nat} (h : d ≤ 4) : 10 ^ d ≤ 10000 := by
  have : 10 ^ d ≤ 10 ^ 4 := Nat.pow_le_pow_right (by omega) h
  exact this
theorem okI_of {l x : Nat} (hl : isLt l) (h : inRg l x) : okI (.inr (l, some x)) := by
  unfold inRg at h
  rcases hl with rfl | rfl | rfl | rfl | rfl | rfl
  · exact Or.inl ⟨rfl, fun n hn => by cases hn; simp at h; omega⟩
  · exact Or.inr (Or.inl ⟨rfl, x, rfl, by simp at h; omega⟩)
  · exact Or.inr (Or.inr (Or.inl ⟨rfl, x, rfl, by simp [prT, loP, hiP] at h; omega⟩))
  · exact Or.inr (Or.inr (Or.inr (Or.inl ⟨rfl, x, rfl, by simp [prT, loP, hiP] at h; omega⟩)))
  · exact Or.inr (Or.inr (Or.inr (Or.inr (Or.inl ⟨rfl, x, rfl, by simp [prT, loP, hiP] at h; omega⟩))))
  · exact Or.inr (Or.inr (Or.inr (Or.inr (Or.inr ⟨rfl, x, rfl, by simp [prT, loP, hiP] at h; omega⟩))))
theorem pOk.take {i c : Nat} {s s' : PSt} (h : pOk i s) (hc : 32 ≤ c ∧ c ≤ 126) (ht : pTake s i c = some s') : pOk (i + 1) s' := by
  obtain ⟨its, oor, tag, dg, nu⟩ := s
  obtain ⟨h1, h2, h3, h4, h5, h6, h7, h8⟩ := h
  simp only at h1 h2 h3 h4 h5 h6 h7 h8
  unfold pTake at ht
  simp only at ht
  split at ht
  · rename_i t0
    subst t0
    rw [if_pos rfl] at h2
    split at ht
    · cases ht
      exact ⟨by show its.length ≤ _; omega, by show 4 * kN its + 1 ≤ _; omega, Or.inr (Or.inl rfl), by show 0 ≤ 4; omega, by show 0 < 10 ^ 0; decide, Nat.zero_le _, fun v hv => Nat.le_succ_of_le (h7 v hv), h8⟩
    · cases ht
      refine ⟨by show (its ++ [_]).length ≤ _; rw [List.length_append]; show its.length + 1 ≤ _; omega, ?_, Or.inl rfl, by show 0 ≤ 4; omega, by show 0 < 10 ^ 0; decide, Nat.zero_le _, fun v hv => Nat.le_succ_of_le (h7 v hv), fun ho x hx => ?_⟩
      · show 4 * kN (its ++ [.inl c]) + 0 ≤ _
        rw [kN_app]
        show 4 * (kN its + 0) + 0 ≤ _
        omega
      · rcases List.mem_append.mp hx with hx | hx
        · exact h8 ho x hx
        · rw [List.mem_singleton.mp hx]
          exact hc
  · rename_i t0
    rw [if_neg t0] at h2
    split at ht
    · rename_i t1
      subst t1
      rw [if_pos rfl] at h2
      split at ht
      · rename_i hl
        cases ht
        refine ⟨by show its.length ≤ _; omega, ?_, Or.inr (Or.inr hl), by show 0 ≤ 4; omega, by show 0 < 10 ^ 0; decide, Nat.zero_le _, fun v hv => Nat.le_succ_of_le (h7 v hv), h8⟩
        show 4 * kN its + (if c = 0 then 0 else if c = 1 then 1 else 2 + 0) ≤ _
        split
        · omega
        · split <;> omega
      · cases ht
    · rename_i t1
      rw [if_neg t1] at h2
      have hl : isLt tag := h3.resolve_left t0 |>.resolve_left t1
      split at ht
      · rename_i hd
        cases ht
        refine ⟨by show its.length ≤ _; omega, ?_, Or.inr (Or.inr hl), by show dg + 1 ≤ 4; omega, ?_, by show dg + 1 ≤ _; omega, fun v hv => Nat.le_succ_of_le (h7 v hv), h8⟩
        · show 4 * kN its + (if tag = 0 then 0 else if tag = 1 then 1 else 2 + (dg + 1)) ≤ _
          rw [if_neg t0, if_neg t1]
          omega
        · show nu * 10 + (c - 48) < 10 ^ (dg + 1)
          rw [Nat.pow_succ]
          omega
      · split at ht
        · rename_i hcl
          cases ht
          refine ⟨by show (its ++ [_]).length ≤ _; rw [List.length_append]; show its.length + 1 ≤ _; omega, ?_, Or.inl rfl, by show 0 ≤ 4; omega, by show 0 < 10 ^ 0; decide, Nat.zero_le _, fun v hv => ?_, fun ho x hx => ?_⟩
          · show 4 * kN (its ++ [.inr (tag, _)]) + 0 ≤ _
            rw [kN_app]
            show 4 * (kN its + (if Nat.beq tag 107 = true then 1 else 0)) + 0 ≤ _
            split
            · rename_i hk
              have := Nat.eq_of_beq_eq_true hk
              omega
            · omega
          · have hv : (if (0 < dg ∧ ¬ inRg tag nu) ∧ oor = none then some (i - dg) else oor) = some v := hv
            split at hv
            · cases hv
              omega
            · exact Nat.le_succ_of_le (h7 v hv)
          · have ho : (if (0 < dg ∧ ¬ inRg tag nu) ∧ oor = none then some (i - dg) else oor) = none := ho
            split at ho
            · cases ho
            · rename_i hno
              rcases List.mem_append.mp hx with hx | hx
              · exact h8 ho x hx
              · rw [List.mem_singleton.mp hx]
                by_cases hd : 0 < dg
                · rw [if_pos hd]
                  refine okI_of hl ?_
                  by_cases hr : inRg tag nu
                  · exact hr
                  · exact absurd ⟨⟨hd, hr⟩, ho⟩ hno
                · rw [if_neg hd]
                  have : tag = 114 := hcl.2.resolve_left hd
                  exact Or.inl ⟨this, fun n hn => by cases hn⟩
        · cases ht
theorem pOk_0 : pOk 0 ps0 := by
  refine ⟨Nat.le_refl _, Nat.le_refl _, Or.inl rfl, Nat.zero_le _, by decide, Nat.le_refl _, ?_, ?_⟩
  · intro v hv; cases hv
  · intro _ x hx; cases hx
theorem pOk_go : ∀ (txt : List Nat) (i : Nat) (s s' : PSt), pOk i s → (∀ c ∈ txt, 32 ≤ c ∧ c ≤ 126) → pGo txt i s = .inr s' → pOk (i + txt.length) s' := by
  intro txt
  induction txt with
  | nil => intro i s s' h _ hg; cases hg; exact h
  | cons c r ih =>
    intro i s s' h hc hg
    simp only [pGo] at hg
    split at hg
    · cases hg
    · rename_i s1 h1
      have := ih (i + 1) s1 s' (h.take (hc c (List.mem_cons_self ..)) h1) (fun x hx => hc x (List.mem_cons_of_mem _ hx)) hg
      rw [List.length_cons, show i + (r.length + 1) = i + 1 + r.length by omega]
      exact this
theorem pIts_ok {txt : List Nat} (hn : txt.length ≤ 80) (hc : ∀ c ∈ txt, 32 ≤ c ∧ c ≤ 126) (he : pErr txt = none) : (pIts txt).length ≤ 80 ∧ (∀ x ∈ pIts txt, okI x) ∧ ((pIts txt).filter isK).length ≤ 20 := by
  unfold pErr at he
  unfold pIts
  cases hg : pGo txt 0 ps0 with
  | inl i => rw [hg] at he; cases he
  | inr s =>
    rw [hg] at he
    have hp := pOk_go txt 0 ps0 s pOk_0 hc hg
    obtain ⟨h1, h2, h3, h4, h5, h6, h7, h8⟩ := hp
    simp only at he
    split at he
    · rename_i t0
      rw [if_pos t0] at h2
      refine ⟨by show s.1.length ≤ 80; omega, h8 he, ?_⟩
      show kN s.1 ≤ 20
      omega
    · cases he
/-! the program's reader -/
def oRd (h : Hp) (R : Nat) (sz mi oo tg dg nu : Int32) (kf nf : Nat → Int32) : Prop := h.1 R = some (.inr (4, [.ref (R + 1), .ref (R + 3), .int sz, .int mi, .int oo, .int tg, .int dg, .int nu])) ∧ oRow h (R + 1) 80 kf ∧ oRow h (R + 3) 80 nf
def rIts (kf nf : Nat → Int32) (its : List Itm) : Prop := ∀ i x, its[i]? = some x → kf i = iK x ∧ nf i = iN x
def rRd (h : Hp) (R : Nat) (mi : Int32) (s : PSt) : Prop := ∃ kf nf dg nu, oRd h R (nI s.1.length) mi (eN s.2.1) (nI s.2.2.1) dg nu kf nf ∧ rIts kf nf s.1 ∧ (2 ≤ s.2.2.1 → dg = nI s.2.2.2.1 ∧ nu = nI s.2.2.2.2)
def anyR (h : Hp) (R : Nat) : Prop := ∃ sz mi oo tg dg nu kf nf, oRd h R sz mi oo tg dg nu kf nf
section PR
variable {h h' : Hp} {R : Nat} {sz mi oo tg dg nu : Int32} {kf nf : Nat → Int32}
theorem oRd.off {lo n : Nat} (hr : oRd h R sz mi oo tg dg nu kf nf) (hs : Same h h' lo n) (hq : R + 5 ≤ lo ∨ lo + n ≤ R) : oRd h' R sz mi oo tg dg nu kf nf :=
  ⟨by rw [hs.at (by omega)]; exact hr.1, hr.2.1.off hs (by omega), hr.2.2.off hs (by omega)⟩
theorem oRd.setR {sz' mi' oo' tg' dg' nu' : Int32} (hr : oRd h R sz mi oo tg dg nu kf nf) : oRd (hset h R (.inr (4, [.ref (R + 1), .ref (R + 3), .int sz', .int mi', .int oo', .int tg', .int dg', .int nu']))) R sz' mi' oo' tg' dg' nu' kf nf :=
  ⟨hset_same, hr.2.1.off (Same.set (lo := R) (n := 1) (by omega) (by omega)) (by omega), hr.2.2.off (Same.set (lo := R) (n := 1) (by omega) (by omega)) (by omega)⟩
theorem anyR.off {lo n : Nat} (hr : anyR h R) (hs : Same h h' lo n) (hq : R + 5 ≤ lo ∨ lo + n ≤ R) : anyR h' R := by
  obtain ⟨a, b, c, d, e, f, g, k, hO⟩ := hr
  exact ⟨a, b, c, d, e, f, g, k, hO.off hs hq⟩
theorem anyR.kp (hr : anyR h R) (hs : Kp h h') : anyR h' R := by
  obtain ⟨a, b, c, d, e, f, g, k, hO⟩ := hr
  exact ⟨a, b, c, d, e, f, g, k, hs _ _ hO.1, hO.2.1.kp hs, hO.2.2.kp hs⟩
theorem oRd.any (hr : oRd h R sz mi oo tg dg nu kf nf) : anyR h R := ⟨_, _, _, _, _, _, _, _, hr⟩
def adHp (h : Hp) (R n : Nat) (mi oo tg dg nu k v : Int32) (kf nf : Nat → Int32) : Hp := hset (hset (hset h (R + 1 + 1) (.inl (0, 80, .inl (upd kf n k)))) (R + 3 + 1) (.inl (0, 80, .inl (upd nf n v)))) R (.inr (4, [.ref (R + 1), .ref (R + 3), .int (nI (n + 1)), .int mi, .int oo, .int tg, .int dg, .int nu]))
theorem oRd.ad {n : Nat} {k v : Int32} (hr : oRd h R (nI n) mi oo tg dg nu kf nf) : oRd (adHp h R n mi oo tg dg nu k v kf nf) R (nI (n + 1)) mi oo tg dg nu (upd kf n k) (upd nf n v) := by
  unfold adHp
  refine ⟨hset_same, ?_, ?_⟩
  · exact ((hr.2.1.set (g := upd kf n k)).off (Same.set (lo := R + 4) (n := 1) (by omega) (by omega)) (by omega)).off (Same.set (lo := R) (n := 1) (by omega) (by omega)) (by omega)
  · exact ((hr.2.2.off (Same.set (lo := R + 2) (n := 1) (by omega) (by omega)) (by omega)).set (g := upd nf n v)).off (Same.set (lo := R) (n := 1) (by omega) (by omega)) (by omega)
theorem adHp_same {n : Nat} {k v : Int32} : Same h (adHp h R n mi oo tg dg nu k v kf nf) R 5 := by
  unfold adHp
  exact ((Same.set (by omega) (by omega)).tr (Same.set (by omega) (by omega))).tr (Same.set (by omega) (by omega))
theorem m_X4_addItem {n : Nat} {k v : Int32} (hr : oRd h R (nI n) mi oo tg dg nu kf nf) (hn : n < 80) (Q : Option Value → Hp → Prop) : WPm 42 [.ref R, .int k, .int v] h Q = Q none (adHp h R n mi oo tg dg nu k v kf nf) := by
  obtain ⟨c, r1, r2⟩ := hr
  have r2' : oRow (hset h (R + 1 + 1) (.inl (0, 80, .inl (upd kf n k)))) (R + 3) 80 nf := r2.off (Same.set (lo := R + 2) (n := 1) (by omega) (by omega)) (by omega)
  rw [eX4_addItem]
  simp (disch := (first | omega | assumption | (simp (disch := omega) only [Int32.lt_iff_toInt_lt, Int32.le_iff_toInt_le, ← Int32.toInt_inj, nI_toInt, zi_m1, zi_m2, zi_m3, zi_m9]; omega) | decide)) only [sX4_addItem_0, sX4_addItem_1, sX4_addItem_4, sX4_addItem_5, sX4_addItem_8, sX4_addItem_9, sX4_addItem_12, sX4_addItem_13, sX4_addItem_16, sX4_addItem_17, sX4_addItem_20, sX4_addItem_21, sX4_addItem_24, sX4_addItem_25, sX4_addItem_25i, sX4_addItem_26, sX4_addItem_29, sX4_addItem_30, sX4_addItem_31, sX4_addItem_34, gG4_0, gG4_1, gG4_2, gG4_3, gG4_4, gG4_5, gG4_6, gG4_7, gP4_0, gP4_1, gP4_2, gP4_3, gP4_4, gP4_5, gP4_6, gP4_7, zpush_v, zpush_n, gCk, gAi, gSi, gLi, gLq, ↓if_pos, ↓if_neg, c, r1.1, m_X5_set r1 (show 80 ≤ 100000 by omega) hn, m_X5_set r2' (show 80 ≤ 100000 by omega) hn, r2'.1, hset_ne, nI_add]
  rfl
theorem rIts.ad {its : List Itm} {x : Itm} (hI : rIts kf nf its) : rIts (upd kf its.length (iK x)) (upd nf its.length (iN x)) (its ++ [x]) := by
  intro i y hy
  have hl := (List.getElem?_eq_some_iff.mp hy).1
  rw [List.length_append] at hl
  have hl : i < its.length + 1 := hl
  by_cases c : i = its.length
  · subst c
    rw [List.getElem?_append_right (Nat.le_refl _), Nat.sub_self] at hy
    cases hy
    exact ⟨upd_at, upd_at⟩
  · rw [List.getElem?_append_left (by omega)] at hy
    rw [upd_off c, upd_off c]
    exact hI i y hy
theorem zallows_n {p : Nat} (hp : p < 6) (v : Int32) : zallows (nI p) v = bI (nI (loP p) ≤ v ∧ v ≤ nI (hiP p)) := by
  have : p = 0 ∨ p = 1 ∨ p = 2 ∨ p = 3 ∨ p = 4 ∨ p = 5 := by omega
  rcases this with rfl | rfl | rfl | rfl | rfl | rfl <;> (unfold zallows bI; congr 1; apply propext; exact ⟨fun q => ⟨q.2.2.1, q.2.2.2⟩, fun q => ⟨by decide, by decide, q.1, q.2⟩⟩)
theorem m_X4_isInRange {l x : Nat} (hr : oRd h R sz mi oo (nI l) dg (nI x) kf nf) (hl : isLt l) (hx : x < 10000) (Q : Option Value → Hp → Prop) : WPm 41 [.ref R] h Q = Q (some (.int (bI (inRg l x)))) h := by
  obtain ⟨c, r1, r2⟩ := hr
  rw [eX4_isInRange]
  by_cases l1 : l = 107
  · subst l1
    rw [bI_t (show inRg 107 x by unfold inRg; rw [if_pos rfl]; omega)]
    simp (disch := (first | omega | assumption | (simp (disch := omega) only [Int32.lt_iff_toInt_lt, Int32.le_iff_toInt_le, ← Int32.toInt_inj, nI_toInt, zi_m1, zi_m2, zi_m3, zi_m9]; omega) | decide)) only [sX4_isInRange_0, sX4_isInRange_1, sX4_isInRange_4, sX4_isInRange_32, sX4_isInRange_33, sX4_isInRange_36, sX4_isInRange_38, sX4_isInRange_41, sX4_isInRange_42, sX4_isInRange_45, sX4_isInRange_46, sX4_isInRange_47, sX4_isInRange_48, sX4_isInRange_51, sX4_isInRange_54, sX4_isInRange_57, sX4_isInRange_58, sX4_isInRange_61, sX4_isInRange_62, sX4_isInRange_63, sX4_isInRange_64, sX4_isInRange_67, sX4_isInRange_70, sX4_isInRange_71, sX4_isInRange_74, sX4_isInRange_77, gG4_0, gG4_1, gG4_2, gG4_3, gG4_4, gG4_5, gG4_6, gG4_7, gP4_0, gP4_1, gP4_2, gP4_3, gP4_4, gP4_5, gP4_6, gP4_7, zpush_v, zpush_n, gCk, gAi, gSi, gLi, gLq, ↓if_pos, ↓if_neg, c]
  · by_cases l2 : l = 114
    · subst l2
      by_cases hd : x < 10
      · rw [bI_t (show inRg 114 x from hd)]
        simp (disch := (first | omega | assumption | (simp (disch := omega) only [Int32.lt_iff_toInt_lt, Int32.le_iff_toInt_le, ← Int32.toInt_inj, nI_toInt, zi_m1, zi_m2, zi_m3, zi_m9]; omega) | decide)) only [sX4_isInRange_0, sX4_isInRange_1, sX4_isInRange_4, sX4_isInRange_32, sX4_isInRange_33, sX4_isInRange_36, sX4_isInRange_38, sX4_isInRange_41, sX4_isInRange_42, sX4_isInRange_45, sX4_isInRange_46, sX4_isInRange_47, sX4_isInRange_48, sX4_isInRange_51, sX4_isInRange_54, sX4_isInRange_57, sX4_isInRange_58, sX4_isInRange_61, sX4_isInRange_62, sX4_isInRange_63, sX4_isInRange_64, sX4_isInRange_67, sX4_isInRange_70, sX4_isInRange_71, sX4_isInRange_74, sX4_isInRange_77, gG4_0, gG4_1, gG4_2, gG4_3, gG4_4, gG4_5, gG4_6, gG4_7, gP4_0, gP4_1, gP4_2, gP4_3, gP4_4, gP4_5, gP4_6, gP4_7, zpush_v, zpush_n, gCk, gAi, gSi, gLi, gLq, ↓if_pos, ↓if_neg, c]
      · rw [bI_f (show ¬ inRg 114 x from hd)]
        simp (disch := (first | omega | assumption | (simp (disch := omega) only [Int32.lt_iff_toInt_lt, Int32.le_iff_toInt_le, ← Int32.toInt_inj, nI_toInt, zi_m1, zi_m2, zi_m3, zi_m9]; omega) | decide)) only [sX4_isInRange_0, sX4_isInRange_1, sX4_isInRange_4, sX4_isInRange_32, sX4_isInRange_33, sX4_isInRange_36, sX4_isInRange_38, sX4_isInRange_41, sX4_isInRange_42, sX4_isInRange_45, sX4_isInRange_46, sX4_isInRange_47, sX4_isInRange_48, sX4_isInRange_51, sX4_isInRange_54, sX4_isInRange_57, sX4_isInRange_58, sX4_isInRange_61, sX4_isInRange_62, sX4_isInRange_63, sX4_isInRange_64, sX4_isInRange_67, sX4_isInRange_70, sX4_isInRange_71, sX4_isInRange_74, sX4_isInRange_77, gG4_0, gG4_1, gG4_2, gG4_3, gG4_4, gG4_5, gG4_6, gG4_7, gP4_0, gP4_1, gP4_2, gP4_3, gP4_4, gP4_5, gP4_6, gP4_7, zpush_v, zpush_n, gCk, gAi, gSi, gLi, gLq, ↓if_pos, ↓if_neg, c]
    · have hl' : l = 115 ∨ l = 99 ∨ l = 116 ∨ l = 98 := by unfold isLt at hl; omega
      have hp : prT l < 6 := by rcases hl' with rfl | rfl | rfl | rfl <;> decide
      have e : bI (inRg l x) = bI (nI (loP (prT l)) ≤ nI x ∧ nI x ≤ nI (hiP (prT l))) := by
        have hh := hiP_le (prT l)
        have hlo : loP (prT l) ≤ 1 := by
          rcases hl' with rfl | rfl | rfl | rfl <;> decide
        have : inRg l x ↔ (nI (loP (prT l)) ≤ nI x ∧ nI x ≤ nI (hiP (prT l))) := by
          unfold inRg
          rw [if_neg l1, if_neg l2]
          simp (disch := omega) only [Int32.le_iff_toInt_le, nI_toInt]
          omega
        unfold bI
        simp only [this]
      rw [e, ← zallows_n hp]
      have b01 : zallows (nI (prT l)) (nI x) = nI 0 ∨ zallows (nI (prT l)) (nI x) = nI 1 := by
        rw [zallows_n hp]
        unfold bI
        split
        · exact Or.inr rfl
        · exact Or.inl rfl
      simp (disch := (first | omega | assumption | (simp (disch := omega) only [Int32.lt_iff_toInt_lt, Int32.le_iff_toInt_le, ← Int32.toInt_inj, nI_toInt, zi_m1, zi_m2, zi_m3, zi_m9]; omega) | decide)) only [sX4_isInRange_0, sX4_isInRange_1, sX4_isInRange_4, sX4_isInRange_32, sX4_isInRange_33, sX4_isInRange_36, sX4_isInRange_38, sX4_isInRange_41, sX4_isInRange_42, sX4_isInRange_45, sX4_isInRange_46, sX4_isInRange_47, sX4_isInRange_48, sX4_isInRange_51, sX4_isInRange_54, sX4_isInRange_57, sX4_isInRange_58, sX4_isInRange_61, sX4_isInRange_62, sX4_isInRange_63, sX4_isInRange_64, sX4_isInRange_67, sX4_isInRange_70, sX4_isInRange_71, sX4_isInRange_74, sX4_isInRange_77, gG4_0, gG4_1, gG4_2, gG4_3, gG4_4, gG4_5, gG4_6, gG4_7, gP4_0, gP4_1, gP4_2, gP4_3, gP4_4, gP4_5, gP4_6, gP4_7, zpush_v, zpush_n, gCk, gAi, gSi, gLi, gLq, ↓if_pos, ↓if_neg, c, m_X9_prT hl', b01]
theorem m_X9_prTn {l : Nat} (hl : ¬ (l = 115 ∨ l = 99 ∨ l = 116 ∨ l = 98)) (hb : l < 1000) (Q : Option Value → Hp → Prop) : WPm 106 [.int (nI l)] h Q = Q (some (.int (-1))) h := by
  have n1 : ¬ nI l = nI 115 := by rw [nI_eq (by omega) (by omega)]; omega
  have n2 : ¬ nI l = nI 99 := by rw [nI_eq (by omega) (by omega)]; omega
  have n3 : ¬ nI l = nI 116 := by rw [nI_eq (by omega) (by omega)]; omega
  have n4 : ¬ nI l = nI 98 := by rw [nI_eq (by omega) (by omega)]; omega
  rw [eX9_propertyOfTag]
  simp (disch := (first | omega | assumption | (simp (disch := omega) only [Int32.lt_iff_toInt_lt, Int32.le_iff_toInt_le, ← Int32.toInt_inj, nI_toInt, zi_m1, zi_m2, zi_m3, zi_m9]; omega) | decide)) only [sX9_propertyOfTag_0, sX9_propertyOfTag_1, sX9_propertyOfTag_44, sX9_propertyOfTag_45, sX9_propertyOfTag_46, sX9_propertyOfTag_47, sX9_propertyOfTag_48, sX9_propertyOfTag_49, sX9_propertyOfTag_50, sX9_propertyOfTag_51, sX9_propertyOfTag_52, sX9_propertyOfTag_53, zpush_v, zpush_n, gCk, gAi, gSi, gLi, gLq, ↓if_pos, ↓if_neg, n1, n2, n3, n4]
theorem isLt_lt {l : Nat} (h : isLt l) : 2 ≤ l ∧ l < 200 := by unfold isLt at h; omega
theorem eN_if {p : Prop} [Decidable p] {n : Nat} : eN (if p then some n else none) = if p then nI n else -1 := by
  split <;> rfl
theorem m_X4_closeTag {i l d n : Nat} {its : List Itm} {oor : Option Nat} (hO : oRd h R (nI its.length) (-1) (eN oor) (nI l) (nI d) (nI n) kf nf) (hl : isLt l) (hd : d ≤ 4) (hn : n < 10000) (hi : d ≤ i) (hi2 : i < 80) (hn2 : its.length < 80) (ho : ∀ v, oor = some v → v ≤ i) :
    ∃ h' kf' nf', Same h h' R 5 ∧ oRd h' R (nI (its.length + 1)) (-1) (eN (if (0 < d ∧ ¬ inRg l n) ∧ oor = none then some (i - d) else oor)) (nI 0) (nI d) (nI n) kf' nf' ∧ kf' = upd kf its.length (nI l) ∧ nf' = upd nf its.length (if 0 < d then nI n else -1) ∧
      ∀ Q : Option Value → Hp → Prop, WPm 40 [.ref R, .int (nI i)] h Q = Q none h' := by
  obtain ⟨oo2, ho2⟩ : ∃ o, o = (if (0 < d ∧ ¬ inRg l n) ∧ oor = none then some (i - d) else oor) := ⟨_, rfl⟩
  obtain ⟨v, hv⟩ : ∃ v : Int32, v = (if 0 < d then nI n else -1) := ⟨_, rfl⟩
  obtain ⟨g1, eg⟩ : ∃ g, g = hset h R (.inr (4, [.ref (R + 1), .ref (R + 3), .int (nI its.length), .int (-1), .int (eN oo2), .int (nI l), .int (nI d), .int (nI n)])) := ⟨_, rfl⟩
  have hO1 : oRd g1 R (nI its.length) (-1) (eN oo2) (nI l) (nI d) (nI n) kf nf := by rw [eg]; exact hO.setR
  have hA := hO1.ad (k := nI l) (v := v)
  have mA := m_X4_addItem (k := nI l) (v := v) hO1 hn2
  have s1 : Same h g1 R 5 := by rw [eg]; exact Same.set (by omega) (by omega)
  rw [← ho2, ← hv]
  refine ⟨hset (adHp g1 R its.length (-1) (eN oo2) (nI l) (nI d) (nI n) (nI l) v kf nf) R _, _, _, (s1.tr adHp_same).tr (Same.set (by omega) (by omega)), hA.setR, rfl, rfl, fun Q => ?_⟩
  have c1 := hO1.1
  have c2 := hA.1
  have fin : WP 40 32 [some (.ref R), some (.int (nI i))] [] g1 Q = Q none (hset (adHp g1 R its.length (-1) (eN oo2) (nI l) (nI d) (nI n) (nI l) v kf nf) R (.inr (4, [.ref (R + 1), .ref (R + 3), .int (nI (its.length + 1)), .int (-1), .int (eN oo2), .int (nI 0), .int (nI d), .int (nI n)]))) := by
    by_cases c : 0 < d
    · rw [if_pos c] at hv
      subst hv
      simp (disch := (first | omega | assumption | (simp (disch := omega) only [Int32.lt_iff_toInt_lt, Int32.le_iff_toInt_le, ← Int32.toInt_inj, nI_toInt, zi_m1, zi_m2, zi_m3, zi_m9]; omega) | decide)) only [sX4_closeTag_32, sX4_closeTag_33, sX4_closeTag_34, sX4_closeTag_37, sX4_closeTag_38, sX4_closeTag_41, sX4_closeTag_44, sX4_closeTag_45, sX4_closeTag_48, sX4_closeTag_51, sX4_closeTag_52, sX4_closeTag_55, sX4_closeTag_56, sX4_closeTag_57, sX4_closeTag_60, gG4_0, gG4_1, gG4_2, gG4_3, gG4_4, gG4_5, gG4_6, gG4_7, gP4_0, gP4_1, gP4_2, gP4_3, gP4_4, gP4_5, gP4_6, gP4_7, zpush_v, zpush_n, gCk, gAi, gSi, gLi, gLq, ↓if_pos, ↓if_neg, c1, mA, c2]
    · rw [if_neg c] at hv
      subst hv
      simp (disch := (first | omega | assumption | (simp (disch := omega) only [Int32.lt_iff_toInt_lt, Int32.le_iff_toInt_le, ← Int32.toInt_inj, nI_toInt, zi_m1, zi_m2, zi_m3, zi_m9]; omega) | decide)) only [sX4_closeTag_32, sX4_closeTag_33, sX4_closeTag_34, sX4_closeTag_37, sX4_closeTag_38, sX4_closeTag_41, sX4_closeTag_44, sX4_closeTag_45, sX4_closeTag_48, sX4_closeTag_51, sX4_closeTag_52, sX4_closeTag_55, sX4_closeTag_56, sX4_closeTag_57, sX4_closeTag_60, gG4_0, gG4_1, gG4_2, gG4_3, gG4_4, gG4_5, gG4_6, gG4_7, gP4_0, gP4_1, gP4_2, gP4_3, gP4_4, gP4_5, gP4_6, gP4_7, zpush_v, zpush_n, gCk, gAi, gSi, gLi, gLq, ↓if_pos, ↓if_neg, c1, mA, c2]
  have c0 := hO.1
  have hr := m_X4_isInRange hO hl hn
  rw [← fin, eX4_closeTag]
  by_cases c : 0 < d
  · by_cases r : inRg l n
    · rw [if_neg (fun q => q.1.2 r)] at ho2
      subst ho2
      rw [hset_id c0] at eg
      subst eg
      rw [bI_t r] at hr
      simp (disch := (first | omega | assumption | (simp (disch := omega) only [Int32.lt_iff_toInt_lt, Int32.le_iff_toInt_le, ← Int32.toInt_inj, nI_toInt, zi_m1, zi_m2, zi_m3, zi_m9]; omega) | decide)) only [sX4_closeTag_0, sX4_closeTag_1, sX4_closeTag_4, sX4_closeTag_7, sX4_closeTag_8, sX4_closeTag_11, sX4_closeTag_14, sX4_closeTag_15, sX4_closeTag_18, sX4_closeTag_19, sX4_closeTag_22, sX4_closeTag_23, sX4_closeTag_24, sX4_closeTag_25, sX4_closeTag_28, sX4_closeTag_29, gG4_0, gG4_1, gG4_2, gG4_3, gG4_4, gG4_5, gG4_6, gG4_7, gP4_0, gP4_1, gP4_2, gP4_3, gP4_4, gP4_5, gP4_6, gP4_7, zpush_v, zpush_n, gCk, gAi, gSi, gLi, gLq, ↓if_pos, ↓if_neg, c0, hr]
    · rw [bI_f r] at hr
      cases ho3 : oor with
      | none =>
        subst ho3
        rw [if_pos ⟨⟨c, r⟩, rfl⟩] at ho2
        subst ho2
        have c0 : h.1 R = some (.inr (4, [.ref (R + 1), .ref (R + 3), .int (nI its.length), .int (-1), .int (-1), .int (nI l), .int (nI d), .int (nI n)])) := c0
        simp (disch := (first | omega | assumption | (simp (disch := omega) only [Int32.lt_iff_toInt_lt, Int32.le_iff_toInt_le, ← Int32.toInt_inj, nI_toInt, zi_m1, zi_m2, zi_m3, zi_m9]; omega) | decide)) only [sX4_closeTag_0, sX4_closeTag_1, sX4_closeTag_4, sX4_closeTag_7, sX4_closeTag_8, sX4_closeTag_11, sX4_closeTag_14, sX4_closeTag_15, sX4_closeTag_18, sX4_closeTag_19, sX4_closeTag_22, sX4_closeTag_23, sX4_closeTag_24, sX4_closeTag_25, sX4_closeTag_28, sX4_closeTag_29, gG4_0, gG4_1, gG4_2, gG4_3, gG4_4, gG4_5, gG4_6, gG4_7, gP4_0, gP4_1, gP4_2, gP4_3, gP4_4, gP4_5, gP4_6, gP4_7, zpush_v, zpush_n, gCk, gAi, gSi, gLi, gLq, ↓if_pos, ↓if_neg, c0, hr, nI_sub, eg, eN_s]
      | some w =>
        subst ho3
        rw [if_neg (fun q => by cases q.2)] at ho2
        subst ho2
        rw [hset_id c0] at eg
        subst eg
        have hw := ho w rfl
        have hm := nI_nm1 (k := w) (by omega)
        rw [eN_s] at c0
        simp (disch := (first | omega | assumption | (simp (disch := omega) only [Int32.lt_iff_toInt_lt, Int32.le_iff_toInt_le, ← Int32.toInt_inj, nI_toInt, zi_m1, zi_m2, zi_m3, zi_m9]; omega) | decide)) only [sX4_closeTag_0, sX4_closeTag_1, sX4_closeTag_4, sX4_closeTag_7, sX4_closeTag_8, sX4_closeTag_11, sX4_closeTag_14, sX4_closeTag_15, sX4_closeTag_18, sX4_closeTag_19, sX4_closeTag_22, sX4_closeTag_23, sX4_closeTag_24, sX4_closeTag_25, sX4_closeTag_28, sX4_closeTag_29, gG4_0, gG4_1, gG4_2, gG4_3, gG4_4, gG4_5, gG4_6, gG4_7, gP4_0, gP4_1, gP4_2, gP4_3, gP4_4, gP4_5, gP4_6, gP4_7, zpush_v, zpush_n, gCk, gAi, gSi, gLi, gLq, ↓if_pos, ↓if_neg, c0, hr, not_false_eq_true]
  · rw [if_neg (fun q => c q.1.1)] at ho2
    subst ho2
    rw [hset_id c0] at eg
    subst eg
    simp (disch := (first | omega | assumption | (simp (disch := omega) only [Int32.lt_iff_toInt_lt, Int32.le_iff_toInt_le, ← Int32.toInt_inj, nI_toInt, zi_m1, zi_m2, zi_m3, zi_m9]; omega) | decide)) only [sX4_closeTag_0, sX4_closeTag_1, sX4_closeTag_4, sX4_closeTag_7, sX4_closeTag_8, sX4_closeTag_11, sX4_closeTag_14, sX4_closeTag_15, sX4_closeTag_18, sX4_closeTag_19, sX4_closeTag_22, sX4_closeTag_23, sX4_closeTag_24, sX4_closeTag_25, sX4_closeTag_28, sX4_closeTag_29, gG4_0, gG4_1, gG4_2, gG4_3, gG4_4, gG4_5, gG4_6, gG4_7, gP4_0, gP4_1, gP4_2, gP4_3, gP4_4, gP4_5, gP4_6, gP4_7, zpush_v, zpush_n, gCk, gAi, gSi, gLi, gLq, ↓if_pos, ↓if_neg, c0]
/-- one character: the new state, or the place is wrong -/
theorem m_X4_take {i c : Nat} {s : PSt} (hr : rRd h R (-1) s) (hp : pOk i s) (hi : i < 80) (hc : 32 ≤ c ∧ c ≤ 126) :
    ∃ h', Same h h' R 5 ∧ (match pTake s i c with | none => rRd h' R (nI i) s | some s' => rRd h' R (-1) s') ∧ ∀ Q : Option Value → Hp → Prop, WPm 37 [.ref R, .int (nI i), .int (nI c)] h Q = Q none h' := by
  obtain ⟨its, oor, tag, d, n⟩ := s
  obtain ⟨kf, nf, dg, nu, hO, hI, hT⟩ := hr
  simp only at hO hI hT
  obtain ⟨h1, h2, h3, h4, h5, h6, h7, h8⟩ := hp
  simp only at h1 h2 h3 h4 h5 h6 h7 h8
  have hpw := pOk.pow h4
  have c0 := hO.1
  have sS : ∀ e, Same h (hset h R e) R 5 := fun e => Same.set (by omega) (by omega)
  by_cases t0 : tag = 0
  · subst t0
    by_cases cb : c = 123
    · subst cb
      have e : pTake (its, oor, 0, d, n) i 123 = some (its, oor, 1, 0, 0) := rfl
      rw [e]
      refine ⟨_, sS _, ⟨kf, nf, dg, nu, hO.setR, hI, fun q => absurd q (by show ¬ 2 ≤ 1; omega)⟩, fun Q => ?_⟩
      rw [eX4_take]
      simp (disch := (first | omega | assumption | (simp (disch := omega) only [Int32.lt_iff_toInt_lt, Int32.le_iff_toInt_le, ← Int32.toInt_inj, nI_toInt, zi_m1, zi_m2, zi_m3, zi_m9]; omega) | decide)) only [sX4_take_0, sX4_take_1, sX4_take_4, sX4_take_7, sX4_take_8, sX4_take_9, sX4_take_12, sX4_take_15, sX4_take_16, sX4_take_19, sX4_take_20, sX4_take_23, sX4_take_24, sX4_take_25, sX4_take_26, sX4_take_29, sX4_take_32, sX4_take_33, sX4_take_35, sX4_take_38, sX4_take_39, sX4_take_41, sX4_take_44, sX4_take_45, sX4_take_48, sX4_take_49, sX4_take_52, sX4_take_53, sX4_take_54, sX4_take_57, sX4_take_59, sX4_take_60, sX4_take_61, sX4_take_62, sX4_take_64, sX4_take_65, sX4_take_68, sX4_take_69, sX4_take_69i, sX4_take_70, sX4_take_73, sX4_take_74, sX4_take_75, sX4_take_78, sX4_take_81, sX4_take_82, sX4_take_84, sX4_take_87, sX4_take_88, sX4_take_91, sX4_take_94, sX4_take_95, sX4_take_98, sX4_take_100, sX4_take_103, sX4_take_104, sX4_take_105, sX4_take_108, sX4_take_111, sX4_take_112, sX4_take_113, sX4_take_116, sX4_takeOutside_0, sX4_takeOutside_1, sX4_takeOutside_3, sX4_takeOutside_6, sX4_takeOutside_7, sX4_takeOutside_8, sX4_takeOutside_11, sX4_takeOutside_14, sX4_takeOutside_15, sX4_takeOutside_16, sX4_takeOutside_17, sX4_takeOutside_20, eX4_takeOutside, gG4_0, gG4_1, gG4_2, gG4_3, gG4_4, gG4_5, gG4_6, gG4_7, gP4_0, gP4_1, gP4_2, gP4_3, gP4_4, gP4_5, gP4_6, gP4_7, zpush_v, zpush_n, gCk, gAi, gSi, gLi, gLq, ↓if_pos, ↓if_neg, c0]
    · have e : pTake (its, oor, 0, d, n) i c = some (its ++ [.inl c], oor, 0, 0, 0) := by
        unfold pTake
        rw [if_pos rfl, if_neg cb]
      rw [e]
      have hA := hO.ad (k := iK (.inl c)) (v := iN (.inl c))
      have mA := m_X4_addItem (k := iK (.inl c)) (v := iN (.inl c)) hO (show its.length < 80 by omega)
      refine ⟨adHp h R its.length (-1) (eN oor) (nI 0) dg nu (iK (.inl c)) (iN (.inl c)) kf nf, adHp_same, ⟨_, _, dg, nu, ?_, hI.ad (x := .inl c), fun q => absurd q (by show ¬ 2 ≤ 0; omega)⟩, fun Q => ?_⟩
      · show oRd _ R (nI (its ++ [_]).length) _ _ _ _ _ _ _
        rw [List.length_append]
        exact hA
      · have mA : ∀ Q, WPm 42 [.ref R, .int (nI 0), .int (nI c)] h Q = _ := mA
        rw [eX4_take]
        simp (disch := (first | omega | assumption | (simp (disch := omega) only [Int32.lt_iff_toInt_lt, Int32.le_iff_toInt_le, ← Int32.toInt_inj, nI_toInt, zi_m1, zi_m2, zi_m3, zi_m9]; omega) | decide)) only [sX4_take_0, sX4_take_1, sX4_take_4, sX4_take_7, sX4_take_8, sX4_take_9, sX4_take_12, sX4_take_15, sX4_take_16, sX4_take_19, sX4_take_20, sX4_take_23, sX4_take_24, sX4_take_25, sX4_take_26, sX4_take_29, sX4_take_32, sX4_take_33, sX4_take_35, sX4_take_38, sX4_take_39, sX4_take_41, sX4_take_44, sX4_take_45, sX4_take_48, sX4_take_49, sX4_take_52, sX4_take_53, sX4_take_54, sX4_take_57, sX4_take_59, sX4_take_60, sX4_take_61, sX4_take_62, sX4_take_64, sX4_take_65, sX4_take_68, sX4_take_69, sX4_take_69i, sX4_take_70, sX4_take_73, sX4_take_74, sX4_take_75, sX4_take_78, sX4_take_81, sX4_take_82, sX4_take_84, sX4_take_87, sX4_take_88, sX4_take_91, sX4_take_94, sX4_take_95, sX4_take_98, sX4_take_100, sX4_take_103, sX4_take_104, sX4_take_105, sX4_take_108, sX4_take_111, sX4_take_112, sX4_take_113, sX4_take_116, sX4_takeOutside_0, sX4_takeOutside_1, sX4_takeOutside_3, sX4_takeOutside_6, sX4_takeOutside_7, sX4_takeOutside_8, sX4_takeOutside_11, sX4_takeOutside_14, sX4_takeOutside_15, sX4_takeOutside_16, sX4_takeOutside_17, sX4_takeOutside_20, eX4_takeOutside, gG4_0, gG4_1, gG4_2, gG4_3, gG4_4, gG4_5, gG4_6, gG4_7, gP4_0, gP4_1, gP4_2, gP4_3, gP4_4, gP4_5, gP4_6, gP4_7, zpush_v, zpush_n, gCk, gAi, gSi, gLi, gLq, ↓if_pos, ↓if_neg, c0, mA]
  · by_cases t1 : tag = 1
    · subst t1
      by_cases hl : isLt c
      · have e : pTake (its, oor, 1, d, n) i c = some (its, oor, c, 0, 0) := by
          unfold pTake
          rw [if_neg t0, if_pos rfl, if_pos hl]
        rw [e]
        refine ⟨_, sS _, ⟨kf, nf, nI 0, nI 0, hO.setR, hI, fun _ => ⟨rfl, rfl⟩⟩, fun Q => ?_⟩
        rw [eX4_take]
        by_cases l1 : c = 114
        · subst l1
          simp (disch := (first | omega | assumption | (simp (disch := omega) only [Int32.lt_iff_toInt_lt, Int32.le_iff_toInt_le, ← Int32.toInt_inj, nI_toInt, zi_m1, zi_m2, zi_m3, zi_m9]; omega) | decide)) only [sX4_take_0, sX4_take_1, sX4_take_4, sX4_take_7, sX4_take_8, sX4_take_9, sX4_take_12, sX4_take_15, sX4_take_16, sX4_take_19, sX4_take_20, sX4_take_23, sX4_take_24, sX4_take_25, sX4_take_26, sX4_take_29, sX4_take_32, sX4_take_33, sX4_take_35, sX4_take_38, sX4_take_39, sX4_take_41, sX4_take_44, sX4_take_45, sX4_take_48, sX4_take_49, sX4_take_52, sX4_take_53, sX4_take_54, sX4_take_57, sX4_take_59, sX4_take_60, sX4_take_61, sX4_take_62, sX4_take_64, sX4_take_65, sX4_take_68, sX4_take_69, sX4_take_69i, sX4_take_70, sX4_take_73, sX4_take_74, sX4_take_75, sX4_take_78, sX4_take_81, sX4_take_82, sX4_take_84, sX4_take_87, sX4_take_88, sX4_take_91, sX4_take_94, sX4_take_95, sX4_take_98, sX4_take_100, sX4_take_103, sX4_take_104, sX4_take_105, sX4_take_108, sX4_take_111, sX4_take_112, sX4_take_113, sX4_take_116, sX4_takeLetter_0, sX4_takeLetter_1, sX4_takeLetter_3, sX4_takeLetter_6, sX4_takeLetter_7, sX4_takeLetter_9, sX4_takeLetter_12, sX4_takeLetter_13, sX4_takeLetter_16, sX4_takeLetter_17, sX4_takeLetter_20, sX4_takeLetter_21, sX4_takeLetter_22, sX4_takeLetter_25, sX4_takeLetter_26, sX4_takeLetter_27, sX4_takeLetter_28, sX4_takeLetter_31, sX4_takeLetter_32, sX4_takeLetter_33, sX4_takeLetter_36, sX4_takeLetter_37, sX4_takeLetter_38, sX4_takeLetter_41, eX4_takeLetter, gG4_0, gG4_1, gG4_2, gG4_3, gG4_4, gG4_5, gG4_6, gG4_7, gP4_0, gP4_1, gP4_2, gP4_3, gP4_4, gP4_5, gP4_6, gP4_7, zpush_v, zpush_n, gCk, gAi, gSi, gLi, gLq, ↓if_pos, ↓if_neg, c0, hset_same, hset_hset]
        · by_cases l2 : c = 107
          · subst l2
            simp (disch := (first | omega | assumption | (simp (disch := omega) only [Int32.lt_iff_toInt_lt, Int32.le_iff_toInt_le, ← Int32.toInt_inj, nI_toInt, zi_m1, zi_m2, zi_m3, zi_m9]; omega) | decide)) only [sX4_take_0, sX4_take_1, sX4_take_4, sX4_take_7, sX4_take_8, sX4_take_9, sX4_take_12, sX4_take_15, sX4_take_16, sX4_take_19, sX4_take_20, sX4_take_23, sX4_take_24, sX4_take_25, sX4_take_26, sX4_take_29, sX4_take_32, sX4_take_33, sX4_take_35, sX4_take_38, sX4_take_39, sX4_take_41, sX4_take_44, sX4_take_45, sX4_take_48, sX4_take_49, sX4_take_52, sX4_take_53, sX4_take_54, sX4_take_57, sX4_take_59, sX4_take_60, sX4_take_61, sX4_take_62, sX4_take_64, sX4_take_65, sX4_take_68, sX4_take_69, sX4_take_69i, sX4_take_70, sX4_take_73, sX4_take_74, sX4_take_75, sX4_take_78, sX4_take_81, sX4_take_82, sX4_take_84, sX4_take_87, sX4_take_88, sX4_take_91, sX4_take_94, sX4_take_95, sX4_take_98, sX4_take_100, sX4_take_103, sX4_take_104, sX4_take_105, sX4_take_108, sX4_take_111, sX4_take_112, sX4_take_113, sX4_take_116, sX4_takeLetter_0, sX4_takeLetter_1, sX4_takeLetter_3, sX4_takeLetter_6, sX4_takeLetter_7, sX4_takeLetter_9, sX4_takeLetter_12, sX4_takeLetter_13, sX4_takeLetter_16, sX4_takeLetter_17, sX4_takeLetter_20, sX4_takeLetter_21, sX4_takeLetter_22, sX4_takeLetter_25, sX4_takeLetter_26, sX4_takeLetter_27, sX4_takeLetter_28, sX4_takeLetter_31, sX4_takeLetter_32, sX4_takeLetter_33, sX4_takeLetter_36, sX4_takeLetter_37, sX4_takeLetter_38, sX4_takeLetter_41, eX4_takeLetter, gG4_0, gG4_1, gG4_2, gG4_3, gG4_4, gG4_5, gG4_6, gG4_7, gP4_0, gP4_1, gP4_2, gP4_3, gP4_4, gP4_5, gP4_6, gP4_7, zpush_v, zpush_n, gCk, gAi, gSi, gLi, gLq, ↓if_pos, ↓if_neg, c0, hset_same, hset_hset]
          · have hl' : c = 115 ∨ c = 99 ∨ c = 116 ∨ c = 98 := by unfold isLt at hl; omega
            have hp : prT c < 6 := by rcases hl' with rfl | rfl | rfl | rfl <;> decide
            have hm := nI_nm1 (k := prT c) (by omega)
            simp (disch := (first | omega | assumption | (simp (disch := omega) only [Int32.lt_iff_toInt_lt, Int32.le_iff_toInt_le, ← Int32.toInt_inj, nI_toInt, zi_m1, zi_m2, zi_m3, zi_m9]; omega) | decide)) only [sX4_take_0, sX4_take_1, sX4_take_4, sX4_take_7, sX4_take_8, sX4_take_9, sX4_take_12, sX4_take_15, sX4_take_16, sX4_take_19, sX4_take_20, sX4_take_23, sX4_take_24, sX4_take_25, sX4_take_26, sX4_take_29, sX4_take_32, sX4_take_33, sX4_take_35, sX4_take_38, sX4_take_39, sX4_take_41, sX4_take_44, sX4_take_45, sX4_take_48, sX4_take_49, sX4_take_52, sX4_take_53, sX4_take_54, sX4_take_57, sX4_take_59, sX4_take_60, sX4_take_61, sX4_take_62, sX4_take_64, sX4_take_65, sX4_take_68, sX4_take_69, sX4_take_69i, sX4_take_70, sX4_take_73, sX4_take_74, sX4_take_75, sX4_take_78, sX4_take_81, sX4_take_82, sX4_take_84, sX4_take_87, sX4_take_88, sX4_take_91, sX4_take_94, sX4_take_95, sX4_take_98, sX4_take_100, sX4_take_103, sX4_take_104, sX4_take_105, sX4_take_108, sX4_take_111, sX4_take_112, sX4_take_113, sX4_take_116, sX4_takeLetter_0, sX4_takeLetter_1, sX4_takeLetter_3, sX4_takeLetter_6, sX4_takeLetter_7, sX4_takeLetter_9, sX4_takeLetter_12, sX4_takeLetter_13, sX4_takeLetter_16, sX4_takeLetter_17, sX4_takeLetter_20, sX4_takeLetter_21, sX4_takeLetter_22, sX4_takeLetter_25, sX4_takeLetter_26, sX4_takeLetter_27, sX4_takeLetter_28, sX4_takeLetter_31, sX4_takeLetter_32, sX4_takeLetter_33, sX4_takeLetter_36, sX4_takeLetter_37, sX4_takeLetter_38, sX4_takeLetter_41, eX4_takeLetter, gG4_0, gG4_1, gG4_2, gG4_3, gG4_4, gG4_5, gG4_6, gG4_7, gP4_0, gP4_1, gP4_2, gP4_3, gP4_4, gP4_5, gP4_6, gP4_7, zpush_v, zpush_n, gCk, gAi, gSi, gLi, gLq, ↓if_pos, ↓if_neg, c0, hset_same, hset_hset, m_X9_prT hl', not_false_eq_true]
      · have e : pTake (its, oor, 1, d, n) i c = none := by
          unfold pTake
          rw [if_neg t0, if_pos rfl, if_neg hl]
        rw [e]
        refine ⟨_, sS _, ⟨kf, nf, dg, nu, hO.setR, hI, hT⟩, fun Q => ?_⟩
        have l1 : ¬ c = 114 := fun q => hl (Or.inl q)
        have l2 : ¬ c = 107 := fun q => hl (Or.inr (Or.inl q))
        have l3 : ¬ (c = 115 ∨ c = 99 ∨ c = 116 ∨ c = 98) := fun q => hl (Or.inr (Or.inr q))
        rw [eX4_take]
        simp (disch := (first | omega | assumption | (simp (disch := omega) only [Int32.lt_iff_toInt_lt, Int32.le_iff_toInt_le, ← Int32.toInt_inj, nI_toInt, zi_m1, zi_m2, zi_m3, zi_m9]; omega) | decide)) only [sX4_take_0, sX4_take_1, sX4_take_4, sX4_take_7, sX4_take_8, sX4_take_9, sX4_take_12, sX4_take_15, sX4_take_16, sX4_take_19, sX4_take_20, sX4_take_23, sX4_take_24, sX4_take_25, sX4_take_26, sX4_take_29, sX4_take_32, sX4_take_33, sX4_take_35, sX4_take_38, sX4_take_39, sX4_take_41, sX4_take_44, sX4_take_45, sX4_take_48, sX4_take_49, sX4_take_52, sX4_take_53, sX4_take_54, sX4_take_57, sX4_take_59, sX4_take_60, sX4_take_61, sX4_take_62, sX4_take_64, sX4_take_65, sX4_take_68, sX4_take_69, sX4_take_69i, sX4_take_70, sX4_take_73, sX4_take_74, sX4_take_75, sX4_take_78, sX4_take_81, sX4_take_82, sX4_take_84, sX4_take_87, sX4_take_88, sX4_take_91, sX4_take_94, sX4_take_95, sX4_take_98, sX4_take_100, sX4_take_103, sX4_take_104, sX4_take_105, sX4_take_108, sX4_take_111, sX4_take_112, sX4_take_113, sX4_take_116, sX4_takeLetter_0, sX4_takeLetter_1, sX4_takeLetter_3, sX4_takeLetter_6, sX4_takeLetter_7, sX4_takeLetter_9, sX4_takeLetter_12, sX4_takeLetter_13, sX4_takeLetter_16, sX4_takeLetter_17, sX4_takeLetter_20, sX4_takeLetter_21, sX4_takeLetter_22, sX4_takeLetter_25, sX4_takeLetter_26, sX4_takeLetter_27, sX4_takeLetter_28, sX4_takeLetter_31, sX4_takeLetter_32, sX4_takeLetter_33, sX4_takeLetter_36, sX4_takeLetter_37, sX4_takeLetter_38, sX4_takeLetter_41, eX4_takeLetter, gG4_0, gG4_1, gG4_2, gG4_3, gG4_4, gG4_5, gG4_6, gG4_7, gP4_0, gP4_1, gP4_2, gP4_3, gP4_4, gP4_5, gP4_6, gP4_7, zpush_v, zpush_n, gCk, gAi, gSi, gLi, gLq, ↓if_pos, ↓if_neg, c0, m_X9_prTn l3 (show c < 1000 by omega)]
    · have hl : isLt tag := h3.resolve_left t0 |>.resolve_left t1
      have hlt := isLt_lt hl
      obtain ⟨rfl, rfl⟩ := hT hlt.1
      by_cases hd : (48 ≤ c ∧ c ≤ 57) ∧ d < 4
      · have e : pTake (its, oor, tag, d, n) i c = some (its, oor, tag, d + 1, n * 10 + (c - 48)) := by
          unfold pTake
          rw [if_neg t0, if_neg t1, if_pos hd]
        rw [e]
        have hn : n < 1000 := by
          have : 10 ^ d ≤ 10 ^ 3 := Nat.pow_le_pow_right (by omega) (by omega)
          have e3 : 10 ^ 3 = 1000 := rfl
          omega
        refine ⟨_, sS _, ⟨kf, nf, nI (d + 1), nI (n * 10 + (c - 48)), hO.setR, hI, fun _ => ⟨rfl, rfl⟩⟩, fun Q => ?_⟩
        have e6 : n * 10 + c - 48 = n * 10 + (c - 48) := by omega
        rw [eX4_take]
        simp (disch := (first | omega | assumption | (simp (disch := omega) only [Int32.lt_iff_toInt_lt, Int32.le_iff_toInt_le, ← Int32.toInt_inj, nI_toInt, zi_m1, zi_m2, zi_m3, zi_m9]; omega) | decide)) only [sX4_take_0, sX4_take_1, sX4_take_4, sX4_take_7, sX4_take_8, sX4_take_9, sX4_take_12, sX4_take_15, sX4_take_16, sX4_take_19, sX4_take_20, sX4_take_23, sX4_take_24, sX4_take_25, sX4_take_26, sX4_take_29, sX4_take_32, sX4_take_33, sX4_take_35, sX4_take_38, sX4_take_39, sX4_take_41, sX4_take_44, sX4_take_45, sX4_take_48, sX4_take_49, sX4_take_52, sX4_take_53, sX4_take_54, sX4_take_57, sX4_take_59, sX4_take_60, sX4_take_61, sX4_take_62, sX4_take_64, sX4_take_65, sX4_take_68, sX4_take_69, sX4_take_69i, sX4_take_70, sX4_take_73, sX4_take_74, sX4_take_75, sX4_take_78, sX4_take_81, sX4_take_82, sX4_take_84, sX4_take_87, sX4_take_88, sX4_take_91, sX4_take_94, sX4_take_95, sX4_take_98, sX4_take_100, sX4_take_103, sX4_take_104, sX4_take_105, sX4_take_108, sX4_take_111, sX4_take_112, sX4_take_113, sX4_take_116, gG4_0, gG4_1, gG4_2, gG4_3, gG4_4, gG4_5, gG4_6, gG4_7, gP4_0, gP4_1, gP4_2, gP4_3, gP4_4, gP4_5, gP4_6, gP4_7, zpush_v, zpush_n, gCk, gAi, gSi, gLi, gLq, ↓if_pos, ↓if_neg, c0, hset_same, hset_hset, nI_mul, nI_add, nI_sub, e6]
      · have cd : ∀ (K : Prop) (Q : Option Value → Hp → Prop), (WP 37 81 [some (.ref R), some (.int (nI i)), some (.int (nI c))] [] h Q = K) → WPm 37 [.ref R, .int (nI i), .int (nI c)] h Q = K := by
          intro K Q hK
          rw [← hK, eX4_take]
          by_cases k1 : 48 ≤ c
          · by_cases k2 : c ≤ 57
            · have k3 : ¬ d < 4 := fun q => hd ⟨⟨k1, k2⟩, q⟩
              simp (disch := (first | omega | assumption | (simp (disch := omega) only [Int32.lt_iff_toInt_lt, Int32.le_iff_toInt_le, ← Int32.toInt_inj, nI_toInt, zi_m1, zi_m2, zi_m3, zi_m9]; omega) | decide)) only [sX4_take_0, sX4_take_1, sX4_take_4, sX4_take_7, sX4_take_8, sX4_take_9, sX4_take_12, sX4_take_15, sX4_take_16, sX4_take_19, sX4_take_20, sX4_take_23, sX4_take_24, sX4_take_25, sX4_take_26, sX4_take_29, sX4_take_32, sX4_take_33, sX4_take_35, sX4_take_38, sX4_take_39, sX4_take_41, sX4_take_44, sX4_take_45, sX4_take_48, sX4_take_49, sX4_take_52, sX4_take_53, sX4_take_54, sX4_take_57, sX4_take_59, sX4_take_60, sX4_take_61, sX4_take_62, sX4_take_64, sX4_take_65, sX4_take_68, sX4_take_69, sX4_take_69i, sX4_take_70, sX4_take_73, sX4_take_74, sX4_take_75, sX4_take_78, gG4_0, gG4_1, gG4_2, gG4_3, gG4_4, gG4_5, gG4_6, gG4_7, gP4_0, gP4_1, gP4_2, gP4_3, gP4_4, gP4_5, gP4_6, gP4_7, zpush_v, zpush_n, gCk, gAi, gSi, gLi, gLq, ↓if_pos, ↓if_neg, c0]
            · simp (disch := (first | omega | assumption | (simp (disch := omega) only [Int32.lt_iff_toInt_lt, Int32.le_iff_toInt_le, ← Int32.toInt_inj, nI_toInt, zi_m1, zi_m2, zi_m3, zi_m9]; omega) | decide)) only [sX4_take_0, sX4_take_1, sX4_take_4, sX4_take_7, sX4_take_8, sX4_take_9, sX4_take_12, sX4_take_15, sX4_take_16, sX4_take_19, sX4_take_20, sX4_take_23, sX4_take_24, sX4_take_25, sX4_take_26, sX4_take_29, sX4_take_32, sX4_take_33, sX4_take_35, sX4_take_38, sX4_take_39, sX4_take_41, sX4_take_44, sX4_take_45, sX4_take_48, sX4_take_49, sX4_take_52, sX4_take_53, sX4_take_54, sX4_take_57, sX4_take_59, sX4_take_60, sX4_take_61, sX4_take_62, sX4_take_64, sX4_take_65, sX4_take_68, sX4_take_69, sX4_take_69i, sX4_take_70, sX4_take_73, sX4_take_74, sX4_take_75, sX4_take_78, gG4_0, gG4_1, gG4_2, gG4_3, gG4_4, gG4_5, gG4_6, gG4_7, gP4_0, gP4_1, gP4_2, gP4_3, gP4_4, gP4_5, gP4_6, gP4_7, zpush_v, zpush_n, gCk, gAi, gSi, gLi, gLq, ↓if_pos, ↓if_neg, c0]
          · simp (disch := (first | omega | assumption | (simp (disch := omega) only [Int32.lt_iff_toInt_lt, Int32.le_iff_toInt_le, ← Int32.toInt_inj, nI_toInt, zi_m1, zi_m2, zi_m3, zi_m9]; omega) | decide)) only [sX4_take_0, sX4_take_1, sX4_take_4, sX4_take_7, sX4_take_8, sX4_take_9, sX4_take_12, sX4_take_15, sX4_take_16, sX4_take_19, sX4_take_20, sX4_take_23, sX4_take_24, sX4_take_25, sX4_take_26, sX4_take_29, sX4_take_32, sX4_take_33, sX4_take_35, sX4_take_38, sX4_take_39, sX4_take_41, sX4_take_44, sX4_take_45, sX4_take_48, sX4_take_49, sX4_take_52, sX4_take_53, sX4_take_54, sX4_take_57, sX4_take_59, sX4_take_60, sX4_take_61, sX4_take_62, sX4_take_64, sX4_take_65, sX4_take_68, sX4_take_69, sX4_take_69i, sX4_take_70, sX4_take_73, sX4_take_74, sX4_take_75, sX4_take_78, gG4_0, gG4_1, gG4_2, gG4_3, gG4_4, gG4_5, gG4_6, gG4_7, gP4_0, gP4_1, gP4_2, gP4_3, gP4_4, gP4_5, gP4_6, gP4_7, zpush_v, zpush_n, gCk, gAi, gSi, gLi, gLq, ↓if_pos, ↓if_neg, c0]
        by_cases hcl : c = 125 ∧ (0 < d ∨ tag = 114)
        · have e : pTake (its, oor, tag, d, n) i c = some (its ++ [.inr (tag, if 0 < d then some n else none)], (if (0 < d ∧ ¬ inRg tag n) ∧ oor = none then some (i - d) else oor), 0, 0, 0) := by
            unfold pTake
            rw [if_neg t0, if_neg t1, if_neg hd, if_pos hcl]
          rw [e]
          obtain ⟨h', kf', nf', s1, s2, s3, s4, s5⟩ := m_X4_closeTag hO hl h4 (show n < 10000 by omega) h6 hi (show its.length < 80 by omega) h7
          have hIA := hI.ad (x := .inr (tag, if 0 < d then some n else none))
          refine ⟨h', s1, ⟨kf', nf', nI d, nI n, ?_, ?_, fun q => absurd q (by show ¬ 2 ≤ 0; omega)⟩, fun Q => ?_⟩
          · show oRd _ R (nI (its ++ [_]).length) _ _ _ _ _ _ _
            rw [List.length_append]
            exact s2
          · rw [s3, s4, ← eN_if]
            exact hIA
          · obtain ⟨rfl, hcd⟩ := hcl
            apply cd
            by_cases k1 : 0 < d
            · simp (disch := (first | omega | assumption | (simp (disch := omega) only [Int32.lt_iff_toInt_lt, Int32.le_iff_toInt_le, ← Int32.toInt_inj, nI_toInt, zi_m1, zi_m2, zi_m3, zi_m9]; omega) | decide)) only [sX4_take_81, sX4_take_82, sX4_take_84, sX4_take_87, sX4_take_88, sX4_take_91, sX4_take_94, sX4_take_95, sX4_take_98, sX4_take_100, sX4_take_103, sX4_take_104, sX4_take_105, sX4_take_108, sX4_take_111, sX4_take_112, sX4_take_113, sX4_take_116, gG4_0, gG4_1, gG4_2, gG4_3, gG4_4, gG4_5, gG4_6, gG4_7, gP4_0, gP4_1, gP4_2, gP4_3, gP4_4, gP4_5, gP4_6, gP4_7, zpush_v, zpush_n, gCk, gAi, gSi, gLi, gLq, ↓if_pos, ↓if_neg, c0, s5]
            · have k2 := hcd.resolve_left k1
              subst k2
              simp (disch := (first | omega | assumption | (simp (disch := omega) only [Int32.lt_iff_toInt_lt, Int32.le_iff_toInt_le, ← Int32.toInt_inj, nI_toInt, zi_m1, zi_m2, zi_m3, zi_m9]; omega) | decide)) only [sX4_take_81, sX4_take_82, sX4_take_84, sX4_take_87, sX4_take_88, sX4_take_91, sX4_take_94, sX4_take_95, sX4_take_98, sX4_take_100, sX4_take_103, sX4_take_104, sX4_take_105, sX4_take_108, sX4_take_111, sX4_take_112, sX4_take_113, sX4_take_116, gG4_0, gG4_1, gG4_2, gG4_3, gG4_4, gG4_5, gG4_6, gG4_7, gP4_0, gP4_1, gP4_2, gP4_3, gP4_4, gP4_5, gP4_6, gP4_7, zpush_v, zpush_n, gCk, gAi, gSi, gLi, gLq, ↓if_pos, ↓if_neg, c0, s5]
        · have e : pTake (its, oor, tag, d, n) i c = none := by
            unfold pTake
            rw [if_neg t0, if_neg t1, if_neg hd, if_neg hcl]
          rw [e]
          refine ⟨_, sS _, ⟨kf, nf, nI d, nI n, hO.setR, hI, fun _ => ⟨rfl, rfl⟩⟩, fun Q => ?_⟩
          apply cd
          by_cases k1 : c = 125
          · have k2 : ¬ 0 < d := fun q => hcl ⟨k1, Or.inl q⟩
            have k3 : ¬ tag = 114 := fun q => hcl ⟨k1, Or.inr q⟩
            simp (disch := (first | omega | assumption | (simp (disch := omega) only [Int32.lt_iff_toInt_lt, Int32.le_iff_toInt_le, ← Int32.toInt_inj, nI_toInt, zi_m1, zi_m2, zi_m3, zi_m9]; omega) | decide)) only [sX4_take_81, sX4_take_82, sX4_take_84, sX4_take_87, sX4_take_88, sX4_take_91, sX4_take_94, sX4_take_95, sX4_take_98, sX4_take_100, sX4_take_103, sX4_take_104, sX4_take_105, sX4_take_108, sX4_take_111, sX4_take_112, sX4_take_113, sX4_take_116, gG4_0, gG4_1, gG4_2, gG4_3, gG4_4, gG4_5, gG4_6, gG4_7, gP4_0, gP4_1, gP4_2, gP4_3, gP4_4, gP4_5, gP4_6, gP4_7, zpush_v, zpush_n, gCk, gAi, gSi, gLi, gLq, ↓if_pos, ↓if_neg, c0]
          · simp (disch := (first | omega | assumption | (simp (disch := omega) only [Int32.lt_iff_toInt_lt, Int32.le_iff_toInt_le, ← Int32.toInt_inj, nI_toInt, zi_m1, zi_m2, zi_m3, zi_m9]; omega) | decide)) only [sX4_take_81, sX4_take_82, sX4_take_84, sX4_take_87, sX4_take_88, sX4_take_91, sX4_take_94, sX4_take_95, sX4_take_98, sX4_take_100, sX4_take_103, sX4_take_104, sX4_take_105, sX4_take_108, sX4_take_111, sX4_take_112, sX4_take_113, sX4_take_116, gG4_0, gG4_1, gG4_2, gG4_3, gG4_4, gG4_5, gG4_6, gG4_7, gP4_0, gP4_1, gP4_2, gP4_3, gP4_4, gP4_5, gP4_6, gP4_7, zpush_v, zpush_n, gCk, gAi, gSi, gLi, gLq, ↓if_pos, ↓if_neg, c0]
end PR
