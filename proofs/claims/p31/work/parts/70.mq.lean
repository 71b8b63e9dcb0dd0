/-! new objects -/
/-- from h on n cells were made, with k slots, and nothing below was touched -/
def Gw (h h' : Hp) (b n k : Nat) : Prop := h'.2.1 = b + n ∧ HpK h' ∧ (∀ q, q < b → h'.1 q = h.1 q) ∧ h'.2.2 = h.2.2 + k
theorem Gw.kp {h h' : Hp} {b n k : Nat} (hg : Gw h h' b n k) (hK : HpK h) (hz : h.2.1 = b) : Kp h h' := Kp.of hK hz hg.2.2.1
theorem nI_nn {n : Nat} (h : n ≤ 100000) : (¬ nI n < 0) = True := by
  refine eq_true ?_
  intro c
  have c : nI n < nI 0 := c
  simp (disch := omega) only [Int32.lt_iff_toInt_lt, nI_toInt] at c
  omega
theorem nI_cl {n : Nat} (h : n ≤ 100000) : (nI n).toNatClampNeg = n := by
  have : (nI n).toNatClampNeg = (nI n).toInt.toNat := rfl
  rw [this, nI_toInt (by omega)]
  omega
theorem hset_cell {h : Hp} {a q : Nat} {e e' : va_E} (hq : q ≠ a) (hc : h.1 q = some e') : (hset h a e).1 q = some e' := by rw [hset_ne hq]; exact hc
section MQ
variable {h : Hp} {b n : Nat}
theorem c_Row (hz : h.2.1 = b) (hK : HpK h) (hn : n ≤ 100000) : ∃ h', Gw h h' b 2 (1 + n) ∧ oRow h' b n z0 ∧ ∀ Q : Option Value → Hp → Prop, WPm 43 [.ref b, .int (nI n)] (hadd h b (.inr (5, [.null])) 1) Q = Q none h' := by
  have k1 : HpK (hadd h b (.inr (5, [.null])) 1) := hK.add hz
  have k2 : HpK (hadd (hadd h b (.inr (5, [.null])) 1) (b + 1) (.inl (0, n, .inl z0)) n) := k1.add rfl
  have k3 : HpK (hset (hadd (hadd h b (.inr (5, [.null])) 1) (b + 1) (.inl (0, n, .inl z0)) n) b (.inr (5, [.ref (b + 1)]))) := k2.set (show b < b + 1 + 1 by omega)
  refine ⟨hset (hadd (hadd h b (.inr (5, [.null])) 1) (b + 1) (.inl (0, n, .inl z0)) n) b (.inr (5, [.ref (b + 1)])), ⟨rfl, k3, fun q hq => ?_, ?_⟩, ⟨hset_same, ?_⟩, fun Q => m_X5_init (b := b + 1) rfl hadd_at (by omega) hn Q⟩
  · rw [hset_ne (by omega), hadd_ne (by omega), hadd_ne (by omega)]
  · show h.2.2 + 1 + n = _
    omega
  · rw [hset_ne (by omega), hadd_at]
/-- one more child, then the parent's cell -/
theorem Gw.more {h g g1 : Hp} {a m k n' k' : Nat} {e : va_E} (h1 : Gw h g a m k) (h2 : Gw g g1 (a + m) n' k') (hm : 0 < m) : Gw h (hset g1 a e) a (m + n') (k + k') := by
  refine ⟨?_, ?_, fun q hq => ?_, ?_⟩
  · show g1.2.1 = _
    rw [h2.1]
    omega
  · exact h2.2.1.set (by rw [h2.1]; omega)
  · rw [hset_ne (by omega), h2.2.2.1 q (by omega)]
    exact h1.2.2.1 q hq
  · show g1.2.2 = _
    rw [h2.2.2.2, h1.2.2.2]
    omega
theorem Gw.new (hz : h.2.1 = b) (hK : HpK h) {e : va_E} {k : Nat} : Gw h (hadd h b e k) b 1 k := ⟨rfl, hK.add hz, fun q hq => hadd_ne (by omega), rfl⟩
theorem Gw.cell {g g1 : Hp} {a m n' k' : Nat} {e : va_E} (h2 : Gw g g1 (a + m) n' k') (hm : 0 < m) (hc : g.1 a = some e) : g1.1 a = some e := by
  rw [h2.2.2.1 a (by omega)]
  exact hc
theorem oRow.gw {h g g1 : Hp} {a m k n' k' c w : Nat} {e : va_E} {f : Nat → Int32} (hr : oRow g c w f) (h1 : Gw h g a m k) (h2 : Gw g g1 (a + m) n' k') (h3 : a < c) : oRow (hset g1 a e) c w f :=
  (hr.kp (h2.kp h1.2.1 h1.1)).off (Same.set (lo := a) (n := 1) (by omega) (by omega)) (by omega)
theorem oRow.st {g1 : Hp} {a c w : Nat} {e : va_E} {f : Nat → Int32} (hr : oRow g1 c w f) (h3 : a < c) : oRow (hset g1 a e) c w f := hr.off (Same.set (lo := a) (n := 1) (by omega) (by omega)) (by omega)
theorem c_Sheet (hz : h.2.1 = b) (hK : HpK h) : ∃ h', Gw h h' b 5 75 ∧ oSheet h' b 0 z0 z0 ∧ ∀ Q : Option Value → Hp → Prop, WPm 54 [.ref b] (hadd h b (.inr (7, [.int 0, .null, .null])) 3) Q = Q none h' := by
  obtain ⟨g0, e0⟩ : ∃ g, g = hadd h b (.inr (7, [.int (nI 0), .null, .null])) 3 := ⟨_, rfl⟩
  have w0 : Gw h g0 b 1 3 := by rw [e0]; exact Gw.new hz hK
  have c0 : g0.1 b = some (.inr (7, [.int (nI 0), .null, .null])) := by rw [e0]; exact hadd_at
  obtain ⟨g1, w1, r1, q1⟩ := c_Row (n := 10) w0.1 w0.2.1 (by omega)
  have d1 := w1.cell (by omega) c0
  obtain ⟨g2, e2⟩ : ∃ g, g = hset g1 b (.inr (7, [.int (nI 0), .ref (b + 1), .null])) := ⟨_, rfl⟩
  have w2 : Gw h g2 b 3 14 := by rw [e2]; exact w0.more w1 (by omega)
  have c2 : g2.1 b = some (.inr (7, [.int (nI 0), .ref (b + 1), .null])) := by rw [e2]; exact hset_same
  have r2 : oRow g2 (b + 1) 10 z0 := by rw [e2]; exact r1.st (by omega)
  obtain ⟨g3, w3, r3, q3⟩ := c_Row (n := 60) w2.1 w2.2.1 (by omega)
  have d3 := w3.cell (by omega) c2
  refine ⟨hset g3 b (.inr (7, [.int (nI 0), .ref (b + 1), .ref (b + 3)])), w2.more w3 (by omega), ⟨hset_same, r2.gw w2 w3 (by omega), r3.st (by omega)⟩, fun Q => ?_⟩
  rw [eX7_init]
  have a0 : hset (hadd h b (.inr (7, [.int 0, .null, .null])) 3) b (.inr (7, [.int (nI 0), .null, .null])) = g0 := by rw [e0, hset_hadd]
  simp (disch := (first | omega | assumption | (simp (disch := omega) only [Int32.lt_iff_toInt_lt, Int32.le_iff_toInt_le, ← Int32.toInt_inj, nI_toInt, zi_m1, zi_m2, zi_m3, zi_m9]; omega) | decide)) only [sX7_init_0, sX7_init_1, sX7_init_4, sX7_init_5, sX7_init_6, sX7_init_9, sX7_init_10, sX7_init_13, sX7_init_13i, sX7_init_14, sX7_init_16, sX7_init_19, sX7_init_22, sX7_init_23, sX7_init_26, sX7_init_26i, sX7_init_27, sX7_init_29, sX7_init_32, sX7_init_35, gG7_0, gG7_1, gG7_2, gP7_0, gP7_1, gP7_2, zpush_v, zpush_n, gCk, gAi, gSi, gLi, gLq, ↓if_pos, ↓if_neg, hadd_at, hnew_hadd, a0, w0.1, q1, d1, ← e2, w2.1, q3, d3]
theorem c_Look (hz : h.2.1 = b) (hK : HpK h) : ∃ h', Gw h h' b 7 559 ∧ oLook h' b 0 0 0 0 0 0 0 0 0 z0 z0 z0 ∧ ∀ Q : Option Value → Hp → Prop, WPm 9 [.ref b] (hadd h b (.inr (2, [.int 0, .int 0, .int 0, .int 0, .int 0, .int 0, .int 0, .null, .int 0, .null, .int 0, .null])) 12) Q = Q none h' := by
  obtain ⟨g0, e0⟩ : ∃ g, g = hadd h b (.inr (2, [.int 0, .int 0, .int 0, .int 0, .int 0, .int 0, .int 0, .null, .int 0, .null, .int 0, .null])) 12 := ⟨_, rfl⟩
  have w0 : Gw h g0 b 1 12 := by rw [e0]; exact Gw.new hz hK
  have c0 : g0.1 b = some (.inr (2, [.int 0, .int 0, .int 0, .int 0, .int 0, .int 0, .int 0, .null, .int 0, .null, .int 0, .null])) := by rw [e0]; exact hadd_at
  obtain ⟨g1, w1, r1, q1⟩ := c_Row (n := 480) w0.1 w0.2.1 (by omega)
  have d1 := w1.cell (by omega) c0
  obtain ⟨g2, e2⟩ : ∃ g, g = hset g1 b (.inr (2, [.int 0, .int 0, .int 0, .int 0, .int 0, .int 0, .int 0, .ref (b + 1), .int 0, .null, .int 0, .null])) := ⟨_, rfl⟩
  have w2 : Gw h g2 b 3 493 := by rw [e2]; exact w0.more w1 (by omega)
  have c2 : g2.1 b = some (.inr (2, [.int 0, .int 0, .int 0, .int 0, .int 0, .int 0, .int 0, .ref (b + 1), .int 0, .null, .int 0, .null])) := by rw [e2]; exact hset_same
  have r2 : oRow g2 (b + 1) 480 z0 := by rw [e2]; exact r1.st (by omega)
  obtain ⟨g3, w3, r3, q3⟩ := c_Row (n := 60) w2.1 w2.2.1 (by omega)
  have d3 := w3.cell (by omega) c2
  obtain ⟨g4, e4⟩ : ∃ g, g = hset g3 b (.inr (2, [.int 0, .int 0, .int 0, .int 0, .int 0, .int 0, .int 0, .ref (b + 1), .int 0, .ref (b + 3), .int 0, .null])) := ⟨_, rfl⟩
  have w4 : Gw h g4 b 5 554 := by rw [e4]; exact w2.more w3 (by omega)
  have c4 : g4.1 b = some (.inr (2, [.int 0, .int 0, .int 0, .int 0, .int 0, .int 0, .int 0, .ref (b + 1), .int 0, .ref (b + 3), .int 0, .null])) := by rw [e4]; exact hset_same
  have r4 : oRow g4 (b + 1) 480 z0 := by rw [e4]; exact r2.gw w2 w3 (by omega)
  have s4 : oRow g4 (b + 3) 60 z0 := by rw [e4]; exact r3.st (by omega)
  obtain ⟨g5, w5, r5, q5⟩ := c_Row (n := 4) w4.1 w4.2.1 (by omega)
  have d5 := w5.cell (by omega) c4
  refine ⟨hset g5 b (.inr (2, [.int 0, .int 0, .int 0, .int 0, .int 0, .int 0, .int 0, .ref (b + 1), .int 0, .ref (b + 3), .int 0, .ref (b + 5)])), w4.more w5 (by omega), ⟨hset_same, r4.gw w4 w5 (by omega), s4.gw w4 w5 (by omega), r5.st (by omega)⟩, fun Q => ?_⟩
  rw [eX2_init, ← e0]
  simp (disch := (first | omega | assumption | (simp (disch := omega) only [Int32.lt_iff_toInt_lt, Int32.le_iff_toInt_le, ← Int32.toInt_inj, nI_toInt, zi_m1, zi_m2, zi_m3, zi_m9]; omega) | decide)) only [sX2_init_0, sX2_init_1, sX2_init_4, sX2_init_5, sX2_init_8, sX2_init_8i, sX2_init_9, sX2_init_12, sX2_init_15, sX2_init_18, sX2_init_19, sX2_init_22, sX2_init_22i, sX2_init_23, sX2_init_25, sX2_init_28, sX2_init_31, sX2_init_32, sX2_init_35, sX2_init_35i, sX2_init_36, sX2_init_37, sX2_init_40, sX2_init_43, gG2_0, gG2_1, gG2_2, gG2_3, gG2_4, gG2_5, gG2_6, gG2_7, gG2_8, gG2_9, gG2_10, gG2_11, gP2_0, gP2_1, gP2_2, gP2_3, gP2_4, gP2_5, gP2_6, gP2_7, gP2_8, gP2_9, gP2_10, gP2_11, zpush_v, zpush_n, gCk, gAi, gSi, gLi, gLq, ↓if_pos, ↓if_neg, hnew_hadd, w0.1, c0, q1, d1, ← e2, w2.1, c2, q3, d3, ← e4, w4.1, c4, q5, d5]
theorem c_Reader (hz : h.2.1 = b) (hK : HpK h) : ∃ h', Gw h h' b 5 170 ∧ oRd h' b 0 0 0 0 0 0 z0 z0 ∧ ∀ Q : Option Value → Hp → Prop, WPm 35 [.ref b] (hadd h b (.inr (4, [.null, .null, .int 0, .int 0, .int 0, .int 0, .int 0, .int 0])) 8) Q = Q none h' := by
  obtain ⟨g0, e0⟩ : ∃ g, g = hadd h b (.inr (4, [.null, .null, .int 0, .int 0, .int 0, .int 0, .int 0, .int 0])) 8 := ⟨_, rfl⟩
  have w0 : Gw h g0 b 1 8 := by rw [e0]; exact Gw.new hz hK
  have c0 : g0.1 b = some (.inr (4, [.null, .null, .int 0, .int 0, .int 0, .int 0, .int 0, .int 0])) := by rw [e0]; exact hadd_at
  obtain ⟨g1, w1, r1, q1⟩ := c_Row (n := 80) w0.1 w0.2.1 (by omega)
  have d1 := w1.cell (by omega) c0
  obtain ⟨g2, e2⟩ : ∃ g, g = hset g1 b (.inr (4, [.ref (b + 1), .null, .int 0, .int 0, .int 0, .int 0, .int 0, .int 0])) := ⟨_, rfl⟩
  have w2 : Gw h g2 b 3 89 := by rw [e2]; exact w0.more w1 (by omega)
  have c2 : g2.1 b = some (.inr (4, [.ref (b + 1), .null, .int 0, .int 0, .int 0, .int 0, .int 0, .int 0])) := by rw [e2]; exact hset_same
  have r2 : oRow g2 (b + 1) 80 z0 := by rw [e2]; exact r1.st (by omega)
  obtain ⟨g3, w3, r3, q3⟩ := c_Row (n := 80) w2.1 w2.2.1 (by omega)
  have d3 := w3.cell (by omega) c2
  refine ⟨hset g3 b (.inr (4, [.ref (b + 1), .ref (b + 3), .int 0, .int 0, .int 0, .int 0, .int 0, .int 0])), w2.more w3 (by omega), ⟨hset_same, r2.gw w2 w3 (by omega), r3.st (by omega)⟩, fun Q => ?_⟩
  rw [eX4_init, ← e0]
  simp (disch := (first | omega | assumption | (simp (disch := omega) only [Int32.lt_iff_toInt_lt, Int32.le_iff_toInt_le, ← Int32.toInt_inj, nI_toInt, zi_m1, zi_m2, zi_m3, zi_m9]; omega) | decide)) only [sX4_init_0, sX4_init_1, sX4_init_4, sX4_init_5, sX4_init_8, sX4_init_8i, sX4_init_9, sX4_init_11, sX4_init_14, sX4_init_17, sX4_init_18, sX4_init_21, sX4_init_21i, sX4_init_22, sX4_init_24, sX4_init_27, sX4_init_30, gG4_0, gG4_1, gG4_2, gG4_3, gG4_4, gG4_5, gG4_6, gG4_7, gP4_0, gP4_1, gP4_2, gP4_3, gP4_4, gP4_5, gP4_6, gP4_7, zpush_v, zpush_n, gCk, gAi, gSi, gLi, gLq, ↓if_pos, ↓if_neg, hnew_hadd, w0.1, c0, q1, d1, ← e2, w2.1, c2, q3, d3]
theorem oSheet.st {g1 : Hp} {a c n : Nat} {e : va_E} {f f2 : Nat → Int32} (hr : oSheet g1 c n f f2) (h3 : a < c) : oSheet (hset g1 a e) c n f f2 := hr.off (Same.set (lo := a) (n := 1) (by omega) (by omega)) (by omega)
theorem c_Screen (hz : h.2.1 = b) (hK : HpK h) : ∃ h', Gw h h' b 7 95 ∧ (oScr h' b 0 300 (fun _ => none) ∧ oSheet h' (b + 1) 0 z0 z0) ∧ ∀ Q : Option Value → Hp → Prop, WPm 47 [.ref b] (hadd h b (.inr (6, [.null, .null, .int 0, .int 0])) 4) Q = Q none h' := by
  obtain ⟨g0, e0⟩ : ∃ g, g = hadd h b (.inr (6, [.null, .null, .int 0, .int 0])) 4 := ⟨_, rfl⟩
  have w0 : Gw h g0 b 1 4 := by rw [e0]; exact Gw.new hz hK
  have c0 : g0.1 b = some (.inr (6, [.null, .null, .int 0, .int 0])) := by rw [e0]; exact hadd_at
  obtain ⟨g1, w1, r1, q1⟩ := c_Sheet w0.1 w0.2.1
  have d1 := w1.cell (by omega) c0
  obtain ⟨g2, e2⟩ : ∃ g, g = hset g1 b (.inr (6, [.ref (b + 1), .null, .int 0, .int 0])) := ⟨_, rfl⟩
  have w2 : Gw h g2 b 6 79 := by rw [e2]; exact w0.more w1 (by omega)
  have c2 : g2.1 b = some (.inr (6, [.ref (b + 1), .null, .int 0, .int 0])) := by rw [e2]; exact hset_same
  have r2 : oSheet g2 (b + 1) 0 z0 z0 := by rw [e2]; exact r1.st (by omega)
  obtain ⟨g3, e3⟩ : ∃ g, g = hadd g2 (b + 6) (rowsC (fun _ => none)) 16 := ⟨_, rfl⟩
  have w3 : Gw g2 g3 (b + 6) 1 16 := by rw [e3]; exact Gw.new w2.1 w2.2.1
  have d3 := w3.cell (by omega) c2
  have a3 : g3.1 (b + 6) = some (rowsC (fun _ => none)) := by rw [e3]; exact hadd_at
  have k3 : Kp g2 g3 := w3.kp w2.2.1 w2.1
  refine ⟨hset g3 b (.inr (6, [.ref (b + 1), .ref (b + 6), .int (nI 0), .int (nI 300)])), w2.more w3 (by omega), ⟨⟨hset_same, hset_cell (by omega) a3⟩, (r2.kp k3).st (by omega)⟩, fun Q => ?_⟩
  have e3' : hadd g2 (b + 6) (.inl (2, 16, .inr (.inr (.inr (.inr (fun _ => none)))))) 16 = g3 := e3.symm
  rw [eX6_init, ← e0]
  simp (disch := (first | omega | assumption | (simp (disch := omega) only [Int32.lt_iff_toInt_lt, Int32.le_iff_toInt_le, ← Int32.toInt_inj, nI_toInt, zi_m1, zi_m2, zi_m3, zi_m9]; omega) | decide)) only [sX6_init_0, sX6_init_1, sX6_init_4, sX6_init_5, sX6_init_8, sX6_init_8i, sX6_init_9, sX6_init_12, sX6_init_15, sX6_init_16, sX6_init_18, sX6_init_21, sX6_init_24, sX6_init_25, sX6_init_26, sX6_init_29, sX6_init_30, sX6_init_33, sX6_init_36, gG6_0, gG6_1, gG6_2, gG6_3, gP6_0, gP6_1, gP6_2, gP6_3, zpush_v, zpush_n, gCk, gAi, gSi, gLi, gLq, ↓if_pos, ↓if_neg, hnew_hadd, w0.1, c0, q1, d1, ← e2, w2.1, c2, nI_nn, nI_cl, true_and, if_true, e3', d3, hset_same, hset_hset]
end MQ
