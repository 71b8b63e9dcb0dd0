/-! the law's line(): its loops -/
section LP
variable {h : Hp} {X B : Nat} {p : PS} {n : Nat}
/-- the height of a line after some of its signs -/
def hq (S : Sh) (ln : Ln) (i : Nat) : Nat := if (rdL S ln).2.1.length = 0 then valS S 0 ln.2.2.1 else hgS ((rdL S ln).2.1.take i)
theorem hgS_99 {l : List Sgn} {m : Nat} (h : ∀ x ∈ l, okGs x m) : hgS l ≤ 99 := hgS_le (fun x hx => (h x hx).1.1.2)
theorem l_lnA (hr : rP h X B p) (hw : WfP p) (hn : n < p.1.2.1.length) (hb : noBr (lnA p.1.2.1 n).2.2.2.2) (Q : Option Value → Hp → Prop)
    (K : ∀ l8 l11 l12, WP 112 324 [some (.ref X), some (.int (nI n)), some (.int (nI (lnA p.1.2.1 n).1)), some (.int (nI (lnA p.1.2.1 n).2.1)), some (.int (eN (lnA p.1.2.1 n).2.2.1)), some (.int (nI (rdL p.1.1 (lnA p.1.2.1 n)).2.1.length)), some (.int (nI (rdL p.1.1 (lnA p.1.2.1 n)).2.2.length)), some (.int (nI (hgL p.1.1 (lnA p.1.2.1 n)))), l8, some (.int (nI (bel (rdL p.1.1 (lnA p.1.2.1 n)).2.1))), some (.int (nI (rdL p.1.1 (lnA p.1.2.1 n)).2.1.length)), l11, l12, none, none, none, none, none, none, none, none] [] h Q) :
    ∀ m i last l11 l12, m + i = (rdL p.1.1 (lnA p.1.2.1 n)).2.1.length → (∀ x, (rdL p.1.1 (lnA p.1.2.1 n)).2.1[i]? = some x → ¬ eS x.2.2 < last) →
    WP 112 66 [some (.ref X), some (.int (nI n)), some (.int (nI (lnA p.1.2.1 n).1)), some (.int (nI (lnA p.1.2.1 n).2.1)), some (.int (eN (lnA p.1.2.1 n).2.2.1)), some (.int (nI (rdL p.1.1 (lnA p.1.2.1 n)).2.1.length)), some (.int (nI (rdL p.1.1 (lnA p.1.2.1 n)).2.2.length)), some (.int (nI (hq p.1.1 (lnA p.1.2.1 n) i))), some (.int last), some (.int (nI (bel ((rdL p.1.1 (lnA p.1.2.1 n)).2.1.take i)))), some (.int (nI i)), l11, l12, none, none, none, none, none, none, none, none] [] h Q := by
  have wl := lnA_wf hw.1.2.1 n
  have ok := rdL_ok hw.1.1 wl
  have i80 := ok.1
  have j20 := ok.2.1
  have G := okG_rdL hw.1.1 wl hb
  intro m
  induction m with
  | zero =>
    intro i last l11 l12 hi hl
    have hi : i = (rdL p.1.1 (lnA p.1.2.1 n)).2.1.length := by omega
    subst hi
    have e : hq p.1.1 (lnA p.1.2.1 n) (rdL p.1.1 (lnA p.1.2.1 n)).2.1.length = hgL p.1.1 (lnA p.1.2.1 n) := by
      unfold hq hgL
      rw [List.take_length]
    have k := K (some (.int last)) l11 l12
    rw [e, List.take_length]
    simp (disch := (first | omega | assumption | (simp (disch := omega) only [Int32.lt_iff_toInt_lt, Int32.le_iff_toInt_le, ← Int32.toInt_inj, nI_toInt, zi_m1, zi_m2, zi_m3, zi_m9]; omega) | decide)) only [sL_line_66, sL_line_68, sL_line_70, zpush_v, zpush_n, gCk, gAi, gSi, gLi, gLq, ↓if_pos, ↓if_neg, ↓reduceIte, eq_self, not_true_eq_false, not_false_eq_true]
    exact k
  | succ m ih =>
    intro i last l11 l12 hi hl
    have hil : i < (rdL p.1.1 (lnA p.1.2.1 n)).2.1.length := by omega
    have hx := List.getElem?_eq_getElem hil
    generalize (rdL p.1.1 (lnA p.1.2.1 n)).2.1[i] = x at hx
    have gx := G.2.1 x (List.mem_of_getElem? hx)
    have e0 : hq p.1.1 (lnA p.1.2.1 n) i = hgS ((rdL p.1.1 (lnA p.1.2.1 n)).2.1.take i) := if_neg (by omega)
    have e1 : hq p.1.1 (lnA p.1.2.1 n) (i + 1) = max (hgS ((rdL p.1.1 (lnA p.1.2.1 n)).2.1.take i)) (x.2.1 0) := by
      unfold hq
      rw [if_neg (by omega), take_snoc hx, hgS_app]
    have e2 : bel ((rdL p.1.1 (lnA p.1.2.1 n)).2.1.take (i + 1)) = bel ((rdL p.1.1 (lnA p.1.2.1 n)).2.1.take i) + (if x.2.2.isSome = true then 1 else 0) := by rw [take_snoc hx, bel_app]
    have e3 : hgS ((rdL p.1.1 (lnA p.1.2.1 n)).2.1.take i) ≤ 99 := hgS_99 (fun x hx => G.2.1 x (List.mem_of_mem_take hx))
    have e4 := bel_le ((rdL p.1.1 (lnA p.1.2.1 n)).2.1.take i)
    rw [List.length_take] at e4
    have e := ih (i + 1) (eS x.2.2) (some (.int (eS x.2.2))) (some (.int (nI (x.2.1 0)))) (by omega) (fun y hy => by
      cases hq : x.2.2 with
      | none =>
        show ¬ eS y.2.2 < -9
        cases hq2 : y.2.2 with
        | none => exact Int32.lt_irrefl
        | some a =>
          have := (G.2.1 y (List.mem_of_getElem? hy)).2.2 a hq2
          show ¬ nI a < -9
          rw [Int32.lt_iff_toInt_lt, nI_toInt (by omega), zi_m9]
          omega
      | some a =>
        obtain ⟨b, hb, hab⟩ := G.2.2 i x y hx hy a hq
        have := (G.2.1 y (List.mem_of_getElem? hy)).2.2 b hb
        rw [hb]
        show ¬ nI b < nI a
        rw [Int32.lt_iff_toInt_lt, nI_toInt (by omega), nI_toInt (by omega)]
        omega)
    rw [e1, e2] at e
    rw [e0, l_lnH hr hw hn hx gx (hl x hx) e3 (by omega), l_lnS hr hw hn hx]
    exact e
theorem l_lnK (hr : rP h X B p) (hw : WfP p) (hn : n < p.1.2.1.length) (l2 l3 l4 l5 l7 l8 : Option Value) (y9 : Int32) (Q : Option Value → Hp → Prop)
    (K : ∀ l10, WP 112 414 [some (.ref X), some (.int (nI n)), l2, l3, l4, l5, some (.int (nI (rdL p.1.1 (lnA p.1.2.1 n)).2.2.length)), l7, l8, some (.int y9), l10, some (.int (nI (rdL p.1.1 (lnA p.1.2.1 n)).2.2.sum)), some (.int (nI (cK (rdL p.1.1 (lnA p.1.2.1 n)).2.1 (rdL p.1.1 (lnA p.1.2.1 n)).2.2.length))), some (.int (nI (rdL p.1.1 (lnA p.1.2.1 n)).2.2.length)), none, none, none, none, none, none, none] [] h Q) :
    ∀ m k, m + k = (rdL p.1.1 (lnA p.1.2.1 n)).2.2.length →
    WP 112 336 [some (.ref X), some (.int (nI n)), l2, l3, l4, l5, some (.int (nI (rdL p.1.1 (lnA p.1.2.1 n)).2.2.length)), l7, l8, some (.int y9), some (.int (nI ((lnA p.1.2.1 n).1 + ((rdL p.1.1 (lnA p.1.2.1 n)).2.2.take k).sum))), some (.int (nI ((rdL p.1.1 (lnA p.1.2.1 n)).2.2.take k).sum)), some (.int (nI (cK (rdL p.1.1 (lnA p.1.2.1 n)).2.1 k))), some (.int (nI k)), none, none, none, none, none, none, none] [] h Q := by
  have wl := lnA_wf hw.1.2.1 n
  have ok := rdL_ok hw.1.1 wl
  have i80 := ok.1
  have j20 := ok.2.1
  have hs := okR_sum ok
  have g1 := wl.1
  have g2 := wl.2.1
  intro m
  induction m with
  | zero =>
    intro k hk
    have hk : k = (rdL p.1.1 (lnA p.1.2.1 n)).2.2.length := by omega
    subst hk
    have e := K (some (.int (nI ((lnA p.1.2.1 n).1 + (rdL p.1.1 (lnA p.1.2.1 n)).2.2.sum))))
    rw [List.take_length, sL_line_336]
    simp (disch := (first | omega | assumption | (simp (disch := omega) only [Int32.lt_iff_toInt_lt, Int32.le_iff_toInt_le, ← Int32.toInt_inj, nI_toInt, zi_m1, zi_m2, zi_m3, zi_m9]; omega) | decide)) only [sL_line_338, sL_line_340, zpush_v, zpush_n, gCk, gAi, gSi, gLi, gLq, ↓if_pos, ↓if_neg, ↓reduceIte, eq_self, not_true_eq_false, not_false_eq_true]
    exact e
  | succ m ih =>
    intro k hk
    have hkl : k < (rdL p.1.1 (lnA p.1.2.1 n)).2.2.length := by omega
    have e := ih (k + 1) (by omega)
    have ts := take_sum hkl
    have tl := take_sum_le (l := (rdL p.1.1 (lnA p.1.2.1 n)).2.2) k
    have tl2 := take_sum_le (l := (rdL p.1.1 (lnA p.1.2.1 n)).2.2) (k + 1)
    have c1 := cK_le (rdL p.1.1 (lnA p.1.2.1 n)).2.1 k
    have c2 := cntS_le (rdL p.1.1 (lnA p.1.2.1 n)).2.1 k
    have c3 : (rdL p.1.1 (lnA p.1.2.1 n)).2.1.length * k ≤ 80 * 20 := Nat.mul_le_mul i80 (by omega)
    rw [ts] at e tl2
    have ec : cK (rdL p.1.1 (lnA p.1.2.1 n)).2.1 (k + 1) = cK (rdL p.1.1 (lnA p.1.2.1 n)).2.1 k + cntS (rdL p.1.1 (lnA p.1.2.1 n)).2.1 k := rfl
    rw [ec, ← Nat.add_assoc] at e
    rw [sL_line_336]
    simp (disch := (first | omega | assumption | (simp (disch := omega) only [Int32.lt_iff_toInt_lt, Int32.le_iff_toInt_le, ← Int32.toInt_inj, nI_toInt, zi_m1, zi_m2, zi_m3, zi_m9]; omega) | decide)) only [sL_line_338, sL_line_340, sL_line_343, sL_line_344, sL_line_345, sL_line_347, sL_line_348, sL_line_351, sL_line_353, sL_line_356, sL_line_357, sL_line_358, sL_line_360, sL_line_361, sL_line_364, sL_line_367, sL_line_368, sL_line_369, sL_line_371, sL_line_372, sL_line_373, sL_line_375, sL_line_376, sL_line_379, sL_line_380i, sL_line_380r, sL_line_380z, sL_line_380o, sL_line_382, sL_line_384, sL_line_385, sL_line_386, sL_line_388, sL_line_389, sL_line_392, sL_line_393i, sL_line_393r, sL_line_393z, sL_line_393o, sL_line_395, sL_line_397, sL_line_398, sL_line_399, sL_line_401, sL_line_402, sL_line_405, sL_line_406i, sL_line_406r, sL_line_406z, sL_line_406o, sL_line_408i, sL_line_408r, sL_line_408z, sL_line_408o, sL_line_411, zpush_v, zpush_n, gCk, gAi, gSi, gLi, gLq, ↓if_pos, ↓if_neg, ↓reduceIte, eq_self, not_true_eq_false, not_false_eq_true, r_ck hr, r_syl hr hw, syW0, syW1, syW2, nI_add]
    exact e
end LP
