/-! the law's up(), cell(), types() -/
section LT0
variable {h : Hp}
def upN (x : Int32) (m : Nat) : Nat := x.toBitVec.toNat % 2 ^ 31 % m
theorem upN_lt (x : Int32) {m : Nat} (hm : 0 < m) : upN x m < m := Nat.mod_lt _ hm
theorem nI_nz {m : Nat} (h0 : 0 < m) (hm : m < 2147483648) : ¬ nI m = 0 := by
  intro q
  have q : nI m = nI 0 := q
  rw [nI_eq (by omega) (by omega)] at q
  omega
theorem m_L_up (x : Int32) {m : Nat} (h0 : 0 < m) (hm : m < 2147483648) (Q : Option Value → Hp → Prop) : WPm 108 [.int x, .int (nI m)] h Q = Q (some (.int (nI (upN x m)))) h := by
  have e1 := pk_and x (m := nI 2147483647) 31 (by decide)
  have e2 := pk_rem (a := x.toBitVec.toNat % 2 ^ 31) (d := m) (Nat.mod_lt _ (by decide)) h0 hm
  have e3 := nI_nz h0 hm
  rw [eL_up]
  simp (disch := first | assumption | (first | omega | assumption | (simp (disch := omega) only [Int32.lt_iff_toInt_lt, Int32.le_iff_toInt_le, ← Int32.toInt_inj, nI_toInt, zi_m1, zi_m2, zi_m3, zi_m9]; omega) | decide)) only [sL_up_0, sL_up_1, sL_up_3, sL_up_4, sL_up_5, sL_up_6, zpush_v, zpush_n, gCk, gAi, gSi, gLi, gLq, ↓if_pos, ↓if_neg, e1, e2]
  rfl
def cellV (L : Nat) (xs : Nat → Int32) (k : Nat) : Int32 := if k < L then xs k else nI 763049417 * (nI k + nI 3)
theorem m_L_cell {b L k : Nat} {xs : Nat → Int32} (hb : h.1 b = some (.inl (1, L, .inl xs))) (hL : L < 2147483648) (hk : k < 2147483648) (Q : Option Value → Hp → Prop) : WPm 107 [.ref b, .int (nI k)] h Q = Q (some (.int (cellV L xs k))) h := by
  rw [eL_cell]
  by_cases c : k < L
  · have e : cellV L xs k = xs k := if_pos c
    rw [e]
    simp (disch := (first | omega | assumption | (simp (disch := omega) only [Int32.lt_iff_toInt_lt, Int32.le_iff_toInt_le, ← Int32.toInt_inj, nI_toInt, zi_m1, zi_m2, zi_m3, zi_m9]; omega) | decide)) only [sL_cell_0, sL_cell_1, sL_cell_2, sL_cell_3, sL_cell_6, sL_cell_7, sL_cell_8, sL_cell_9, sL_cell_12, sL_cell_14, sL_cell_15, sL_cell_16, sL_cell_17, sL_cell_18, zpush_v, zpush_n, gCk, gAi, gSi, gLi, gLq, ↓if_pos, ↓if_neg, gAj, hb]
  · have e : cellV L xs k = nI 763049417 * (nI k + nI 3) := if_neg c
    rw [e]
    simp (disch := (first | omega | assumption | (simp (disch := omega) only [Int32.lt_iff_toInt_lt, Int32.le_iff_toInt_le, ← Int32.toInt_inj, nI_toInt, zi_m1, zi_m2, zi_m3, zi_m9]; omega) | decide)) only [sL_cell_0, sL_cell_1, sL_cell_2, sL_cell_3, sL_cell_6, sL_cell_7, sL_cell_8, sL_cell_9, sL_cell_12, sL_cell_14, sL_cell_15, sL_cell_16, sL_cell_17, sL_cell_18, zpush_v, zpush_n, gCk, gAi, gSi, gLi, gLq, ↓if_pos, ↓if_neg, hb]
end LT0
/-- a piece of a text: its signs -/
def chT (how x : Nat) : List Nat := if how < 3 then [65 + x] else if how < 6 then [123, 107, 48 + x, 48, 125, 97 + x] else if how = 6 then [123, 115, 49 + x % 9, 48 + x, 125, 125]
  else if how = 7 then [123, (if x % 2 = 0 then 99 else 116), 48 + x % 8, 125, 35] else if 4 < x then [123, 114, 48 + x, 125, 33] else [123, 114, 125, 33]
theorem noBr.sgn {its : List Itm} (h : noBr its) {c : Nat} (hc : c ≠ 123) : noBr (its ++ [.inl c]) := by
  intro d hd
  rcases List.mem_append.mp hd with hd | hd
  · exact h d hd
  · have := List.mem_singleton.mp hd
    cases this
    exact hc
theorem noBr.tag {its : List Itm} (h : noBr its) {q : Nat × Option Nat} : noBr (its ++ [.inr q]) := by
  intro d hd
  rcases List.mem_append.mp hd with hd | hd
  · exact h d hd
  · have := List.mem_singleton.mp hd
    cases this
theorem pGo_app : ∀ (a b : List Nat) (i : Nat) (s s' : PSt), pGo a i s = .inr s' → pGo (a ++ b) i s = pGo b (i + a.length) s' := by
  intro a
  induction a with
  | nil => intro b i s s' h; cases h; rfl
  | cons c a ih =>
    intro b i s s' h
    simp only [pGo, List.cons_append] at h ⊢
    cases hq : pTake s i c with
    | none => rw [hq] at h; cases h
    | some s1 =>
      rw [hq] at h
      simp only at h ⊢
      rw [ih b (i + 1) s1 s' h]
      congr 1
      rw [List.length_cons]
      omega
theorem ch_go (its : List Itm) (hn : noBr its) (i : Nat) : ∀ how, how < 9 → ∀ x, x < 10 → ∃ its', pGo (chT how x) i (its, none, 0, 0, 0) = .inr (its', none, 0, 0, 0) ∧ noBr its' := by
  intro how h9 x h10
  unfold chT
  by_cases c1 : how < 3
  · rw [if_pos c1]
    refine ⟨its ++ [.inl (65 + x)], ?_, hn.sgn (by omega)⟩
    simp only [pGo, pTake, if_true]
    rw [if_neg (by omega)]
  · rw [if_neg c1]
    by_cases c2 : how < 6
    · rw [if_pos c2]
      refine ⟨its ++ [.inr (107, some (x * 10))] ++ [.inl (97 + x)], ?_, hn.tag.sgn (by omega)⟩
      match x, h10 with
      | 0, _ => rfl
      | 1, _ => rfl
      | 2, _ => rfl
      | 3, _ => rfl
      | 4, _ => rfl
      | 5, _ => rfl
      | 6, _ => rfl
      | 7, _ => rfl
      | 8, _ => rfl
      | 9, _ => rfl
      | n + 10, h => exact absurd h (by omega)
    · rw [if_neg c2]
      by_cases c3 : how = 6
      · rw [if_pos c3]
        refine ⟨its ++ [.inr (115, some ((1 + x % 9) * 10 + x))] ++ [.inl 125], ?_, hn.tag.sgn (by omega)⟩
        match x, h10 with
        | 0, _ => rfl
        | 1, _ => rfl
        | 2, _ => rfl
        | 3, _ => rfl
        | 4, _ => rfl
        | 5, _ => rfl
        | 6, _ => rfl
        | 7, _ => rfl
        | 8, _ => rfl
        | 9, _ => rfl
        | n + 10, h => exact absurd h (by omega)
      · rw [if_neg c3]
        by_cases c4 : how = 7
        · rw [if_pos c4]
          refine ⟨its ++ [.inr ((if x % 2 = 0 then 99 else 116), some (x % 8))] ++ [.inl 35], ?_, hn.tag.sgn (by omega)⟩
          match x, h10 with
          | 0, _ => rfl
          | 1, _ => rfl
          | 2, _ => rfl
          | 3, _ => rfl
          | 4, _ => rfl
          | 5, _ => rfl
          | 6, _ => rfl
          | 7, _ => rfl
          | 8, _ => rfl
          | 9, _ => rfl
          | n + 10, h => exact absurd h (by omega)
        · rw [if_neg c4]
          refine ⟨its ++ [.inr (114, if 4 < x then some x else none)] ++ [.inl 33], ?_, hn.tag.sgn (by omega)⟩
          match x, h10 with
          | 0, _ => rfl
          | 1, _ => rfl
          | 2, _ => rfl
          | 3, _ => rfl
          | 4, _ => rfl
          | 5, _ => rfl
          | 6, _ => rfl
          | 7, _ => rfl
          | 8, _ => rfl
          | 9, _ => rfl
          | n + 10, h => exact absurd h (by omega)
/-- a text of whole pieces -/
def txtOk (txt : List Nat) : Prop := ∃ its, pGo txt 0 ps0 = .inr (its, none, 0, 0, 0) ∧ noBr its
theorem txtOk_0 : txtOk [] := ⟨[], rfl, fun c hc => by cases hc⟩
theorem txtOk.more {txt : List Nat} (h : txtOk txt) {how x : Nat} (h9 : how < 9) (hx : x < 10) : txtOk (txt ++ chT how x) := by
  obtain ⟨its, h1, h2⟩ := h
  obtain ⟨its', h3, h4⟩ := ch_go its h2 (0 + txt.length) how h9 x hx
  exact ⟨its', by rw [pGo_app _ _ _ _ _ h1]; exact h3, h4⟩
theorem txtOk.err {txt : List Nat} (h : txtOk txt) : pErr txt = none ∧ noBr (pIts txt) := by
  obtain ⟨its, h1, h2⟩ := h
  unfold pErr pIts
  rw [h1]
  exact ⟨rfl, h2⟩
