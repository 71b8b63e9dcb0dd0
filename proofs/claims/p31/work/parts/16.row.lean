/-! PURE: what the methods do to cells; Row -/
theorem zi_m1 : (-1 : Int32).toInt = -1 := by decide
theorem zi_m2 : (-2 : Int32).toInt = -2 := by decide
theorem zi_m3 : (-3 : Int32).toInt = -3 := by decide
theorem zi_m9 : (-9 : Int32).toInt = -9 := by decide
theorem hset_same {h : Hp} {a : Nat} {e : va_E} : (hset h a e).1 a = some e := by simp [hset]
theorem hset_ne {h : Hp} {a q : Nat} {e : va_E} (hq : q ≠ a) : (hset h a e).1 q = h.1 q := by simp [hset, hq]
theorem hset_2 {h : Hp} {a : Nat} {e : va_E} : (hset h a e).2 = h.2 := rfl
theorem hset_hset {h : Hp} {a : Nat} {e e' : va_E} : hset (hset h a e) a e' = hset h a e' := by
  unfold hset
  congr 1
  funext q
  by_cases hq : q = a <;> simp [hq]
theorem hset_id {h : Hp} {a : Nat} {e : va_E} (ha : h.1 a = some e) : hset h a e = h := by
  obtain ⟨f, k⟩ := h
  unfold hset
  congr 1
  funext q
  by_cases hq : q = a
  · subst hq; simp only [if_true]; exact ha.symm
  · simp [hq]
/-- h' is h but for the n cells from lo on -/
def Same (h h' : Hp) (lo n : Nat) : Prop := h'.2 = h.2 ∧ ∀ q, q < lo ∨ lo + n ≤ q → h'.1 q = h.1 q
theorem Same.rf {h : Hp} {lo n : Nat} : Same h h lo n := ⟨rfl, fun _ _ => rfl⟩
theorem Same.tr {a b c : Hp} {lo n : Nat} (h1 : Same a b lo n) (h2 : Same b c lo n) : Same a c lo n := ⟨h2.1.trans h1.1, fun q hq => (h2.2 q hq).trans (h1.2 q hq)⟩
theorem Same.wide {a b : Hp} {lo n lo' n' : Nat} (h : Same a b lo n) (h1 : lo' ≤ lo) (h2 : lo + n ≤ lo' + n') : Same a b lo' n' := ⟨h.1, fun q hq => h.2 q (by omega)⟩
theorem Same.set {h : Hp} {a : Nat} {e : va_E} {lo n : Nat} (h1 : lo ≤ a) (h2 : a < lo + n) : Same h (hset h a e) lo n := ⟨rfl, fun q hq => hset_ne (by omega)⟩
theorem Same.at {a b : Hp} {lo n q : Nat} (h : Same a b lo n) (hq : q < lo ∨ lo + n ≤ q) : b.1 q = a.1 q := h.2 q hq
def oRow (h : Hp) (a n : Nat) (f : Nat → Int32) : Prop := h.1 a = some (.inr (5, [.ref (a + 1)])) ∧ h.1 (a + 1) = some (.inl (0, n, .inl f))
theorem oRow.off {h h' : Hp} {a n lo k : Nat} {f : Nat → Int32} (hr : oRow h a n f) (hs : Same h h' lo k) (hq : a + 2 ≤ lo ∨ lo + k ≤ a) : oRow h' a n f :=
  ⟨by rw [hs.at (by omega)]; exact hr.1, by rw [hs.at (by omega)]; exact hr.2⟩
theorem oRow.set {h : Hp} {a n : Nat} {f g : Nat → Int32} (hr : oRow h a n f) : oRow (hset h (a + 1) (.inl (0, n, .inl g))) a n g :=
  ⟨by rw [hset_ne (by omega)]; exact hr.1, hset_same⟩
theorem m_X5_get {h : Hp} {a n k : Nat} {f : Nat → Int32} (hr : oRow h a n f) (hn : n ≤ 100000) (hk : k < n) (Q : Option Value → Hp → Prop) : WPm 44 [.ref a, .int (nI k)] h Q = Q (some (.int (f k))) h := by
  obtain ⟨h1, h2⟩ := hr
  rw [eX5_get]
  simp (disch := (first | omega | assumption | (simp (disch := omega) only [Int32.lt_iff_toInt_lt, Int32.le_iff_toInt_le, ← Int32.toInt_inj, nI_toInt, zi_m1, zi_m2, zi_m3, zi_m9]; omega) | decide)) only [sX5_get_0, sX5_get_1, sX5_get_4, sX5_get_5, sX5_get_6, sX5_get_9, sX5_get_10, sX5_get_13, sX5_get_14, sX5_get_17, sX5_get_18, sX5_get_19, sX5_get_22, sX5_get_23, gG5_0, gP5_0, zpush_v, zpush_n, gCk, gAi, gSi, gLi, gLq, ↓if_pos, ↓if_neg, h1, h2]
theorem m_X5_set {h : Hp} {a n k : Nat} {x : Int32} {f : Nat → Int32} (hr : oRow h a n f) (hn : n ≤ 100000) (hk : k < n) (Q : Option Value → Hp → Prop) : WPm 45 [.ref a, .int (nI k), .int x] h Q = Q none (hset h (a + 1) (.inl (0, n, .inl (upd f k x)))) := by
  obtain ⟨h1, h2⟩ := hr
  rw [eX5_set]
  simp (disch := (first | omega | assumption | (simp (disch := omega) only [Int32.lt_iff_toInt_lt, Int32.le_iff_toInt_le, ← Int32.toInt_inj, nI_toInt, zi_m1, zi_m2, zi_m3, zi_m9]; omega) | decide)) only [sX5_set_0, sX5_set_1, sX5_set_4, sX5_set_5, sX5_set_6, sX5_set_9, sX5_set_10, sX5_set_13, sX5_set_14, sX5_set_17, sX5_set_18, sX5_set_19, sX5_set_20, gG5_0, gP5_0, zpush_v, zpush_n, gCk, gAi, gSi, gLi, gLq, ↓if_pos, ↓if_neg, h1, h2]
theorem nI_mul (a b : Nat) : nI a * nI b = nI (a * b) := (Int32.ofNat_mul a b).symm
theorem nI_sub {a b : Nat} (h : b ≤ a) (ha : a < 2 ^ 31) : nI a - nI b = nI (a - b) := by
  obtain ⟨d, rfl⟩ := Nat.le.dest h
  rw [← nI_add, Nat.add_sub_cancel_left]
  apply Int32.toBitVec_inj.1
  simp [Int32.toBitVec_sub, Int32.toBitVec_add]
  rw [BitVec.add_comm, BitVec.add_sub_cancel]
theorem nI_m1 {a : Nat} (h : 1 ≤ a) (ha : a < 2 ^ 31) : nI a + (-1) = nI (a - 1) := by
  rw [← nI_sub h ha]
  rw [Int32.sub_eq_add_neg]
  rfl
/-- a copy of the first n places from i on -/
def cpf (f g : Nat → Int32) (i n : Nat) : Nat → Int32 := fun q => if i ≤ q ∧ q < n then g q else f q
theorem cpf_in {f g : Nat → Int32} {i n q : Nat} (h : i ≤ q ∧ q < n) : cpf f g i n q = g q := if_pos h
theorem cpf_out {f g : Nat → Int32} {i n q : Nat} (h : ¬ (i ≤ q ∧ q < n)) : cpf f g i n q = f q := if_neg h
theorem upd_at {f : Nat → Int32} {k : Nat} {x : Int32} : upd f k x k = x := if_pos rfl
theorem upd_is {f : Nat → Int32} {k j : Nat} {x : Int32} (h : j = k) : upd f k x j = x := if_pos h
theorem upd_off {f : Nat → Int32} {k j : Nat} {x : Int32} (h : ¬ j = k) : upd f k x j = f j := if_neg h
theorem l_X5_copy {h : Hp} {a b n n' : Nat} {f g : Nat → Int32} (hr : oRow h a n f) (hb : oRow h b n' g) (hn : n ≤ n') (hn' : n' ≤ 100000) (hab : a + 1 ≠ b + 1) (hba : a + 1 ≠ b) (Q : Option Value → Hp → Prop) :
    ∀ (m i : Nat), m + i = n → ∀ (h : Hp) (f : Nat → Int32), oRow h a n f → oRow h b n' g → WP 46 2 [some (.ref a), some (.ref b), some (.int (nI i))] [] h Q = Q none (hset h (a + 1) (.inl (0, n, .inl (cpf f g i n)))) := by
  intro m
  induction m with
  | zero =>
    intro i hi h f hr hb
    have h1 := hr.1
    have h2 := hr.2
    simp (disch := (first | omega | assumption | (simp (disch := omega) only [Int32.lt_iff_toInt_lt, Int32.le_iff_toInt_le, ← Int32.toInt_inj, nI_toInt, zi_m1, zi_m2, zi_m3, zi_m9]; omega) | decide)) only [sX5_copy_2, sX5_copy_3, sX5_copy_4, sX5_copy_7, sX5_copy_8, sX5_copy_28, gG5_0, gP5_0, zpush_v, zpush_n, gCk, gAi, gSi, gLi, gLq, ↓if_pos, ↓if_neg, h1, h2]
    have e : cpf f g i n = f := by
      funext q
      unfold cpf
      rw [if_neg (by omega)]
    rw [e, hset_id h2]
  | succ m ih =>
    intro i hi h f hr hb
    have h1 := hr.1
    have h2 := hr.2
    have h3 := hb.1
    rw [sX5_copy_2]
    simp (disch := (first | omega | assumption | (simp (disch := omega) only [Int32.lt_iff_toInt_lt, Int32.le_iff_toInt_le, ← Int32.toInt_inj, nI_toInt, zi_m1, zi_m2, zi_m3, zi_m9]; omega) | decide)) only [sX5_copy_0, sX5_copy_1i, sX5_copy_1r, sX5_copy_1z, sX5_copy_1o, sX5_copy_3, sX5_copy_4, sX5_copy_7, sX5_copy_8, sX5_copy_11, sX5_copy_12, sX5_copy_15, sX5_copy_16, sX5_copy_16n, sX5_copy_17, sX5_copy_18, sX5_copy_21, sX5_copy_22i, sX5_copy_22r, sX5_copy_22z, sX5_copy_22o, sX5_copy_25, sX5_copy_28, gG5_0, gP5_0, zpush_v, zpush_n, gCk, gAi, gSi, gLi, gLq, ↓if_pos, ↓if_neg, h1, h2, h3, m_X5_get hb hn', nI_add]
    rw [ih (i + 1) (by omega) _ _ hr.set ⟨by rw [hset_ne (by omega)]; exact hb.1, by rw [hset_ne (by omega)]; exact hb.2⟩, hset_hset]
    congr 2
    have e : cpf (upd f i (g i)) g (i + 1) n = cpf f g i n := by
      funext q
      unfold cpf upd
      by_cases hq : q = i
      · subst hq
        rw [if_neg (by omega), if_pos rfl, if_pos (by omega)]
      · by_cases hq2 : i + 1 ≤ q ∧ q < n
        · rw [if_pos hq2, if_pos (by omega)]
        · rw [if_neg hq2, if_neg hq, if_neg (by omega)]
    rw [e]
theorem m_X5_copy {h : Hp} {a b n n' : Nat} {f g : Nat → Int32} (hr : oRow h a n f) (hb : oRow h b n' g) (hn : n ≤ n') (hn' : n' ≤ 100000) (hab : a + 1 ≠ b + 1) (hba : a + 1 ≠ b) (Q : Option Value → Hp → Prop) :
    WPm 46 [.ref a, .ref b] h Q = Q none (hset h (a + 1) (.inl (0, n, .inl (cpf f g 0 n)))) := by
  rw [eX5_copy]
  simp (disch := (first | omega | assumption | (simp (disch := omega) only [Int32.lt_iff_toInt_lt, Int32.le_iff_toInt_le, ← Int32.toInt_inj, nI_toInt, zi_m1, zi_m2, zi_m3, zi_m9]; omega) | decide)) only [sX5_copy_0, sX5_copy_1i, sX5_copy_1r, sX5_copy_1z, sX5_copy_1o]
  exact l_X5_copy hr hb hn hn' hab hba Q n 0 (by omega) h f hr hb
