/-! a new SubtitleStyles, a new model -/
def p0 : PS := (((0, (fun _ => none), fun _ _ => none), [], 300), [], [])
theorem WfP_0 : WfP p0 := by
  have hs : WfS p0.1.1 := ⟨by show 0 ≤ 10; omega, fun s hs => absurd hs (Nat.not_lt_zero _), fun s hs => absurd hs (Nat.not_lt_zero _), fun s hs => absurd hs (Nat.not_lt_zero _)⟩
  refine ⟨⟨hs, ⟨by show 0 ≤ 16; omega, fun x hx => ?_⟩, fun x hx => ?_, by show 300 ≤ 2000; omega⟩, fun s hs => ?_, by show 0 ≤ 5; omega, by show 0 ≤ 80; omega, fun c hc => ?_⟩
  · cases hx
  · cases hx
  · cases hs
  · cases hc
theorem rSheet_0 {h : Hp} {a : Nat} (hr : oSheet h a 0 z0 z0) : rSheet h a p0.1.1 := ⟨z0, z0, hr, fun s hs => absurd hs (Nat.not_lt_zero _), fun s hs => absurd hs (Nat.not_lt_zero _)⟩
theorem rPic.kp {h h' : Hp} {P : Nat} {S : Sh} {L : List Ln} {off : Nat → Nat} (hr : rPic h P S L off) (hs : Kp h h') : rPic h' P S L off := by
  obtain ⟨⟨g, h1⟩, h2, h3, h4, h5⟩ := hr
  refine ⟨⟨g, hs _ _ h1.1, hs _ _ h1.2.1, h1.2.2.kp hs⟩, fun i hi => ?_, fun i i1 i2 => (h3 i i1 i2).kp hs, h4, h5⟩
  obtain ⟨sg, sy, hd, hO, hT, hY⟩ := h2 i hi
  exact ⟨sg, sy, hd, ⟨hs _ _ hO.1, hO.2.1.kp hs, hO.2.2.1.kp hs, hO.2.2.2.kp hs⟩, hT, hY⟩
/-- of the first state: no line lies anywhere -/
theorem rP.reB {h : Hp} {X B B' : Nat} (hr : rP h X B p0) (h1 : X + 180 ≤ B') (h2 : B' ≤ h.2.1) : rP h X B' p0 := by
  obtain ⟨⟨⟨a1, a2, a3, ⟨rf, s1, s2, -⟩, ⟨o, t1, t2, t3, -, t5⟩⟩, b, c1, -, -⟩, r⟩ := hr
  exact ⟨⟨⟨a1, a2, a3, ⟨rf, s1, s2, fun i x hx => by cases hx⟩, ⟨o, t1, t2, t3, fun k x hx => (by cases hx), t5⟩⟩, b, c1, h1, h2⟩, r⟩
section MS
variable {h : Hp} {X : Nat}
theorem c_Main (hz : h.2.1 = X) (hK : HpK h) : ∃ h', Gw h h' X 180 10451 ∧ rP h' X (X + 180) p0 ∧ ∀ Q : Option Value → Hp → Prop, WPm 70 [.ref X] (hadd h X (.inr (9, [.null, .int 0, .null, .null, .null, .null, .null, .null])) 8) Q = Q none h' := by
  obtain ⟨g0, e0⟩ : ∃ g, g = hadd h X (.inr (9, [.null, .int 0, .null, .null, .null, .null, .null, .null])) 8 := ⟨_, rfl⟩
  have w0 : Gw h g0 X 1 8 := by rw [e0]; exact Gw.new hz hK
  have c0 : g0.1 X = some (.inr (9, [.null, .int 0, .null, .null, .null, .null, .null, .null])) := by rw [e0]; exact hadd_at
  obtain ⟨g1, w1, r1, q1⟩ := c_Row (n := 80) w0.1 w0.2.1 (by omega)
  have d1 := w1.cell (by omega) c0
  obtain ⟨g2, e2⟩ : ∃ g, g = hset g1 X (.inr (9, [.ref (X + 1), .int (nI 0), .null, .null, .null, .null, .null, .null])) := ⟨_, rfl⟩
  have w2 : Gw h g2 X 3 89 := by rw [e2]; exact w0.more w1 (by omega)
  have c2 : g2.1 X = some (.inr (9, [.ref (X + 1), .int (nI 0), .null, .null, .null, .null, .null, .null])) := by rw [e2]; exact hset_same
  have u2 : Uq (X + 1) g1 g2 := by rw [e2]; exact Uq.st (by omega)
  obtain ⟨g3, w3, r3, q3⟩ := c_Reader w2.1 w2.2.1
  have d3 := w3.cell (by omega) c2
  obtain ⟨g4, e4⟩ : ∃ g, g = hset g3 X (.inr (9, [.ref (X + 1), .int (nI 0), .ref (X + 3), .null, .null, .null, .null, .null])) := ⟨_, rfl⟩
  have w4 : Gw h g4 X 8 259 := by rw [e4]; exact w2.more w3 (by omega)
  have c4 : g4.1 X = some (.inr (9, [.ref (X + 1), .int (nI 0), .ref (X + 3), .null, .null, .null, .null, .null])) := by rw [e4]; exact hset_same
  have v4 : Uq (X + 1) g2 g4 := by rw [e4]; exact w2.uq w3 (by omega)
  have u4 : Uq (X + 1) g3 g4 := by rw [e4]; exact Uq.st (by omega)
  obtain ⟨g5, w5, r5, q5⟩ := c_Screen w4.1 w4.2.1
  have d5 := w5.cell (by omega) c4
  obtain ⟨g6, e6⟩ : ∃ g, g = hset g5 X (.inr (9, [.ref (X + 1), .int (nI 0), .ref (X + 3), .ref (X + 8), .null, .null, .null, .null])) := ⟨_, rfl⟩
  have w6 : Gw h g6 X 15 354 := by rw [e6]; exact w4.more w5 (by omega)
  have c6 : g6.1 X = some (.inr (9, [.ref (X + 1), .int (nI 0), .ref (X + 3), .ref (X + 8), .null, .null, .null, .null])) := by rw [e6]; exact hset_same
  have v6 : Uq (X + 1) g4 g6 := by rw [e6]; exact w4.uq w5 (by omega)
  have u6 : Uq (X + 1) g5 g6 := by rw [e6]; exact Uq.st (by omega)
  obtain ⟨g7, w7, r7, q7⟩ := c_Hist w6.1 w6.2.1
  have d7 := w7.cell (by omega) c6
  obtain ⟨g8, e8⟩ : ∃ g, g = hset g7 X (.inr (9, [.ref (X + 1), .int (nI 0), .ref (X + 3), .ref (X + 8), .ref (X + 15), .null, .null, .null])) := ⟨_, rfl⟩
  have w8 : Gw h g8 X 52 837 := by rw [e8]; exact w6.more w7 (by omega)
  have c8 : g8.1 X = some (.inr (9, [.ref (X + 1), .int (nI 0), .ref (X + 3), .ref (X + 8), .ref (X + 15), .null, .null, .null])) := by rw [e8]; exact hset_same
  have v8 : Uq (X + 1) g6 g8 := by rw [e8]; exact w6.uq w7 (by omega)
  have u8 : Uq (X + 1) g7 g8 := by rw [e8]; exact Uq.st (by omega)
  obtain ⟨g9, w9, r9, q9⟩ := c_Pic w8.1 w8.2.1
  have d9 := w9.cell (by omega) c8
  obtain ⟨gA, eA⟩ : ∃ g, g = hset g9 X (.inr (9, [.ref (X + 1), .int (nI 0), .ref (X + 3), .ref (X + 8), .ref (X + 15), .ref (X + 52), .null, .null])) := ⟨_, rfl⟩
  have wA : Gw h gA X 168 9817 := by rw [eA]; exact w8.more w9 (by omega)
  have cA : gA.1 X = some (.inr (9, [.ref (X + 1), .int (nI 0), .ref (X + 3), .ref (X + 8), .ref (X + 15), .ref (X + 52), .null, .null])) := by rw [eA]; exact hset_same
  have vA : Uq (X + 1) g8 gA := by rw [eA]; exact w8.uq w9 (by omega)
  have uA : Uq (X + 1) g9 gA := by rw [eA]; exact Uq.st (by omega)
  obtain ⟨gB, wB, rB, qB⟩ := c_Sheet wA.1 wA.2.1
  have dB := wB.cell (by omega) cA
  obtain ⟨gC, eC⟩ : ∃ g, g = hset gB X (.inr (9, [.ref (X + 1), .int (nI 0), .ref (X + 3), .ref (X + 8), .ref (X + 15), .ref (X + 52), .ref (X + 168), .null])) := ⟨_, rfl⟩
  have wC : Gw h gC X 173 9892 := by rw [eC]; exact wA.more wB (by omega)
  have cC : gC.1 X = some (.inr (9, [.ref (X + 1), .int (nI 0), .ref (X + 3), .ref (X + 8), .ref (X + 15), .ref (X + 52), .ref (X + 168), .null])) := by rw [eC]; exact hset_same
  have vC : Uq (X + 1) gA gC := by rw [eC]; exact wA.uq wB (by omega)
  have uC : Uq (X + 1) gB gC := by rw [eC]; exact Uq.st (by omega)
  obtain ⟨gD, wD, rD, qD⟩ := c_Look wC.1 wC.2.1
  have dD := wD.cell (by omega) cC
  obtain ⟨gE, eE⟩ : ∃ g, g = hset gD X (xC X 0) := ⟨_, rfl⟩
  have wE : Gw h gE X 180 10451 := by rw [eE]; exact wC.more wD (by omega)
  have vE : Uq (X + 1) gC gE := by rw [eE]; exact wC.uq wD (by omega)
  have uE : Uq (X + 1) gD gE := by rw [eE]; exact Uq.st (by omega)
  have t8 : Uq (X + 1) g8 gE := vA.tr (vC.tr vE)
  have t4 : Uq (X + 1) g4 gE := v6.tr (v8.tr t8)
  have k1 : oRow gE (X + 1) 80 z0 := r1.uq (u2.tr (v4.tr t4)) (by omega)
  have k2 : oRd gE (X + 3) 0 0 0 0 0 0 z0 z0 := r3.uq (u4.tr t4) (by omega)
  have k3 : oScr gE (X + 8) 0 300 (fun _ => none) := r5.1.uq (u6.tr (v8.tr t8)) (by omega)
  have k4 : oSheet gE (X + 8 + 1) 0 z0 z0 := r5.2.uq (u6.tr (v8.tr t8)) (by omega)
  have k5 : oHist gE (X + 15) 0 0 := r7.1.uq (u8.tr t8) (by omega)
  have k6 : oPic gE (X + 52) 0 z0 := r9.1.uq (uA.tr (vC.tr vE)) (by omega)
  have k7 : oSheet gE (X + 168) 0 z0 z0 := rB.uq (uC.tr vE) (by omega)
  have k8 : oLook gE (X + 173) 0 0 0 0 0 0 0 0 0 z0 z0 z0 := rD.uq uE (by omega)
  have kH : ∀ i, i < 5 → anyScr gE (X + 15 + 2 + 7 * i) := fun i hi => ⟨0, 300, _, _, (r7.2 i hi).1.uq (u8.tr t8) (by omega), rSheet_0 ((r7.2 i hi).2.uq (u8.tr t8) (by omega))⟩
  have kL : ∀ i, i < 16 → anyL gE (X + 52 + 2 + 7 * i) := fun i hi => ⟨_, _, _, _, _, _, _, _, _, _, _, _, (r9.2 i hi).uq (uA.tr (vC.tr vE)) (by omega)⟩
  refine ⟨gE, wE, ⟨⟨⟨by rw [eE]; exact hset_same, ⟨z0, k1, fun i c hc => by cases hc⟩, ⟨_, _, _, _, _, _, _, _, k2⟩, ⟨_, k3, rSheet_0 k4, fun i x hx => by cases hx⟩, ⟨0, by omega, by show 0 ≤ 5; omega, k5, fun k x hx => (by cases hx), kH⟩⟩, ⟨⟨⟨0, z0, by omega, k6⟩, kL⟩, ⟨_, rSheet_0 k7⟩, ⟨_, _, _, _, _, _, _, _, _, _, _, _, k8⟩⟩, wE.2.1, Nat.le_refl _, by rw [wE.1]; exact Nat.le_refl _⟩, ⟨z0, k6⟩, fun i hi => absurd hi (Nat.not_lt_zero _), fun i _ i2 => kL i i2, offC_ok WfP_0.1.1 WfP_0.1.2.1, fun i hi => absurd hi (Nat.not_lt_zero _)⟩, fun Q => ?_⟩
  have eE' : hset gD X (.inr (9, [.ref (X + 1), .int (nI 0), .ref (X + 3), .ref (X + 8), .ref (X + 15), .ref (X + 52), .ref (X + 168), .ref (X + 173)])) = gE := eE.symm
  rw [eX9_init, ← e0]
  simp (disch := (first | omega | assumption | (simp (disch := omega) only [Int32.lt_iff_toInt_lt, Int32.le_iff_toInt_le, ← Int32.toInt_inj, nI_toInt, zi_m1, zi_m2, zi_m3, zi_m9]; omega) | decide)) only [sX9_init_0, sX9_init_1, sX9_init_4, sX9_init_5, sX9_init_8, sX9_init_8i, sX9_init_9, sX9_init_11, sX9_init_14, sX9_init_17, sX9_init_18, sX9_init_19, sX9_init_22, sX9_init_23, sX9_init_26, sX9_init_26i, sX9_init_27, sX9_init_30, sX9_init_33, sX9_init_34, sX9_init_37, sX9_init_37i, sX9_init_38, sX9_init_41, sX9_init_44, sX9_init_45, sX9_init_48, sX9_init_48i, sX9_init_49, sX9_init_52, sX9_init_55, sX9_init_56, sX9_init_59, sX9_init_59i, sX9_init_60, sX9_init_63, sX9_init_66, sX9_init_67, sX9_init_70, sX9_init_70i, sX9_init_71, sX9_init_74, sX9_init_77, sX9_init_78, sX9_init_81, sX9_init_81i, sX9_init_82, sX9_init_85, sX9_init_88, gG9_0, gG9_1, gG9_2, gG9_3, gG9_4, gG9_5, gG9_6, gG9_7, gP9_0, gP9_1, gP9_2, gP9_3, gP9_4, gP9_5, gP9_6, gP9_7, zpush_v, zpush_n, gCk, gAi, gSi, gLi, gLq, ↓if_pos, ↓if_neg, hnew_hadd, w0.1, c0, q1, d1, hset_same, hset_hset, ← e2, w2.1, c2, q3, d3, ← e4, w4.1, c4, q5, d5, ← e6, w6.1, c6, q7, d7, ← e8, w8.1, c8, q9, d9, ← eA, wA.1, cA, qB, dB, ← eC, wC.1, cC, qD, dD, eE']
end MS
