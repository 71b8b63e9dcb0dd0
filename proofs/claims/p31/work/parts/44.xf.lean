/-! SubtitleStyles: a line is added -/
section XF
variable {h h' : Hp} {X B : Nat} {p : PS}
theorem rS.reader (hr : rS h X B p) (hs : Same h h' (X + 3) 5) (hA : anyR h' (X + 3)) : rS h' X B p := by
  obtain ⟨⟨a1, a2, a3, a4, a5⟩, ⟨b1, b2, b3⟩, z1, z2, z3⟩ := hr
  exact ⟨⟨by rw [hs.at (by omega)]; exact a1, a2.off hs (by omega), hA, a4.off hs (by omega) (by omega), a5.off hs (by omega) (by omega)⟩, ⟨b1.off hs (by omega), b2.off hs (by omega), b3.off hs (by omega)⟩, z1.same hs (by omega), z2, by rw [hs.1]; exact z3⟩
theorem rS.typed0 (hr : rS h X B p) : rS (hset h X (xC X 0)) X B (p.1, p.2.1, []) := by
  obtain ⟨⟨a1, ⟨bf, a2, -⟩, a3, a4, a5⟩, ⟨b1, b2, b3⟩, z1, z2, z3⟩ := hr
  have hs : Same h (hset h X (xC X 0)) X 1 := Same.set (by omega) (by omega)
  exact ⟨⟨hset_same, ⟨bf, a2.off hs (by omega), fun i c hc => by cases hc⟩, a3.off hs (by omega), a4.off hs (by omega) (by omega), a5.off hs (by omega) (by omega)⟩, ⟨b1.off hs (by omega), b2.off hs (by omega), b3.off hs (by omega)⟩, z1.same hs (by omega), z2, z3⟩
theorem x_line (hr : rP h X B p) (hw : WfP p) (b e s : Int32) : ∃ h', Fr X h h' ∧ (rP h' X B (opLine p b e s).1 ∧ WfP (opLine p b e s).1) ∧ ∀ Q : Option Value → Hp → Prop, WPm 82 [.ref X, .int b, .int e, .int s] h Q = Q (some (.int (opLine p b e s).2)) h' := by
  obtain ⟨c1, c2, hS, -, -⟩ := hr.1.facts
  have h16 := hw.1.2.1.1
  have h10 := hw.1.1.1
  have c3 := hS.cell.1
  obtain ⟨par, own, hO, hpar, hown⟩ := id hS
  have BB := hr.1.2.2.2.1
  have cR : ∃ fs, h.1 (X + 3) = some (.inr (4, fs)) := by
    obtain ⟨a, b, c, d, e, f, g, k, hO⟩ := hr.1.1.2.2.1
    exact ⟨_, hO.1⟩
  obtain ⟨fsR, cR⟩ := cR
  unfold opLine
  have bad : ∀ (P : Prop), P → (∀ Q : Option Value → Hp → Prop, WPm 82 [.ref X, .int b, .int e, .int s] h Q = Q (some (.int (-1))) h) → ∃ h', Fr X h h' ∧ (rP h' X B p ∧ WfP p) ∧ ∀ Q : Option Value → Hp → Prop, WPm 82 [.ref X, .int b, .int e, .int s] h Q = Q (some (.int (-1))) h' := fun _ _ q => ⟨h, Fr.rf, ⟨hr, hw⟩, q⟩
  rcases dR_cases 0 99999 b (by omega) (by omega) with ⟨i, hi, rfl, e1⟩ | ⟨g, e1⟩
  · rw [e1]
    simp only
    rcases dR_cases 0 100000 e (by omega) (by omega) with ⟨j, hj, rfl, e2⟩ | ⟨g, e2⟩
    · rw [e2]
      simp only
      by_cases hji : j ≤ i
      · rw [if_pos hji]
        refine bad True trivial (fun Q => ?_)
        rw [eX9_line]
        simp (disch := (first | omega | assumption | (simp (disch := omega) only [Int32.lt_iff_toInt_lt, Int32.le_iff_toInt_le, ← Int32.toInt_inj, nI_toInt, zi_m1, zi_m2, zi_m3, zi_m9]; omega) | decide)) only [sX9_line_0, sX9_line_1, sX9_line_4, sX9_line_5, sX9_line_6, sX9_line_9, sX9_line_10, sX9_line_12, sX9_line_15, sX9_line_16, sX9_line_19, sX9_line_22, sX9_line_23, sX9_line_26, sX9_line_29, sX9_line_30, gG9_0, gG9_1, gG9_2, gG9_3, gG9_4, gG9_5, gG9_6, gG9_7, gP9_0, gP9_1, gP9_2, gP9_3, gP9_4, gP9_5, gP9_6, gP9_7, gG6_0, gG6_1, gG6_2, gG6_3, gP6_0, gP6_1, gP6_2, gP6_3, gG7_0, gG7_1, gG7_2, gP7_0, gP7_1, gP7_2, zpush_v, zpush_n, gCk, gAi, gSi, gLi, gLq, ↓if_pos, ↓if_neg, c1]
      · rw [if_neg hji]
        have good : ∀ (o : Option Nat), s = eN o → (∀ q, o = some q → q < p.1.1.1) → (∀ Q : Option Value → Hp → Prop, WPm 57 [.ref (X + 8 + 1), .int s] h Q = Q (some (.int (nI 1))) h) → ∃ h', Fr X h h' ∧ (rP h' X B (if 16 ≤ p.1.2.1.length then (p, (-3 : Int32)) else match pErr p.2.2 with | some z => (p, -100 - nI z) | none => (((p.1.1, p.1.2.1 ++ [(i, j, o, none, pIts p.2.2)], p.1.2.2), kept p.2.1 p.1, []), nI p.1.2.1.length)).1 ∧ WfP (if 16 ≤ p.1.2.1.length then (p, (-3 : Int32)) else match pErr p.2.2 with | some z => (p, -100 - nI z) | none => (((p.1.1, p.1.2.1 ++ [(i, j, o, none, pIts p.2.2)], p.1.2.2), kept p.2.1 p.1, []), nI p.1.2.1.length)).1) ∧ ∀ Q : Option Value → Hp → Prop, WPm 82 [.ref X, .int (nI i), .int (nI j), .int s] h Q = Q (some (.int (if 16 ≤ p.1.2.1.length then (p, (-3 : Int32)) else match pErr p.2.2 with | some z => (p, -100 - nI z) | none => (((p.1.1, p.1.2.1 ++ [(i, j, o, none, pIts p.2.2)], p.1.2.2), kept p.2.1 p.1, []), nI p.1.2.1.length)).2)) h' := by
          intro o hs ho wv
          subst hs
          by_cases hf : 16 ≤ p.1.2.1.length
          · rw [if_pos hf]
            refine ⟨h, Fr.rf, ⟨hr, hw⟩, fun Q => ?_⟩
            rw [eX9_line]
            simp (disch := (first | omega | assumption | (simp (disch := omega) only [Int32.lt_iff_toInt_lt, Int32.le_iff_toInt_le, ← Int32.toInt_inj, nI_toInt, zi_m1, zi_m2, zi_m3, zi_m9]; omega) | decide)) only [sX9_line_0, sX9_line_1, sX9_line_4, sX9_line_5, sX9_line_6, sX9_line_9, sX9_line_10, sX9_line_12, sX9_line_15, sX9_line_16, sX9_line_19, sX9_line_22, sX9_line_23, sX9_line_26, sX9_line_29, sX9_line_30, sX9_line_31, sX9_line_32, sX9_line_35, sX9_line_38, sX9_line_40, sX9_line_43, sX9_line_45, gG9_0, gG9_1, gG9_2, gG9_3, gG9_4, gG9_5, gG9_6, gG9_7, gP9_0, gP9_1, gP9_2, gP9_3, gP9_4, gP9_5, gP9_6, gP9_7, gG6_0, gG6_1, gG6_2, gG6_3, gP6_0, gP6_1, gP6_2, gP6_3, gG7_0, gG7_1, gG7_2, gP7_0, gP7_1, gP7_2, zpush_v, zpush_n, gCk, gAi, gSi, gLi, gLq, ↓if_pos, ↓if_neg, c1, c2, c3, wv]
          · rw [if_neg hf]
            obtain ⟨bf, bb1, bb2⟩ := hr.1.1.2.1
            obtain ⟨h0, s0, ar, okr, w0⟩ := m_X4_read (txt := p.2.2) hr.1.1.2.2.1 hw.2.2.2.1 hw.2.2.2.2 bb1 bb2 (Or.inl (by omega))
            have r0 := hr.1.reader s0 ar
            cases hE : pErr p.2.2 with
            | some z =>
              rw [hE, eN_s] at w0
              have hz : z ≤ 80 := by
                have key : ∀ (txt : List Nat) (i : Nat) (s : PSt), pOk i s → (∀ c ∈ txt, 32 ≤ c ∧ c ≤ 126) → ∀ j, pGo txt i s = .inl j → j ≤ i + txt.length := by
                  intro txt
                  induction txt with
                  | nil => intro i s _ _ j q; cases q
                  | cons c r ih =>
                    intro i s hp hc j q
                    simp only [pGo] at q
                    split at q
                    · cases q; omega
                    · rename_i s1 hs1
                      have := ih (i + 1) s1 (hp.take (hc c (List.mem_cons_self ..)) hs1) (fun x hx => hc x (List.mem_cons_of_mem _ hx)) j q
                      rw [List.length_cons]
                      omega
                unfold pErr at hE
                cases hg : pGo p.2.2 0 ps0 with
                | inl jj =>
                  rw [hg] at hE
                  cases hE
                  have := key p.2.2 0 ps0 pOk_0 hw.2.2.2.2 _ hg
                  have := hw.2.2.2.1
                  omega
                | inr s' =>
                  rw [hg] at hE
                  have hp := pOk_go p.2.2 0 ps0 s' pOk_0 hw.2.2.2.2 hg
                  have h80 := hw.2.2.2.1
                  simp only at hE
                  split at hE
                  · have := hp.2.2.2.2.2.2.1 z hE
                    omega
                  · cases hE
                    exact h80
              refine ⟨h0, Fr.same s0 (by omega) (by omega), ⟨⟨r0, hr.2.off h16 s0 (by omega)⟩, hw⟩, fun Q => ?_⟩
              rw [eX9_line]
              simp (disch := (first | omega | assumption | (simp (disch := omega) only [Int32.lt_iff_toInt_lt, Int32.le_iff_toInt_le, ← Int32.toInt_inj, nI_toInt, zi_m1, zi_m2, zi_m3, zi_m9]; omega) | decide)) only [sX9_line_0, sX9_line_1, sX9_line_4, sX9_line_5, sX9_line_6, sX9_line_9, sX9_line_10, sX9_line_12, sX9_line_15, sX9_line_16, sX9_line_19, sX9_line_22, sX9_line_23, sX9_line_26, sX9_line_29, sX9_line_30, sX9_line_31, sX9_line_32, sX9_line_35, sX9_line_38, sX9_line_40, sX9_line_43, sX9_line_45, sX9_line_46, sX9_line_47, sX9_line_50, sX9_line_51, sX9_line_54, sX9_line_55, sX9_line_58, sX9_line_61i, sX9_line_61r, sX9_line_61z, sX9_line_61o, sX9_line_63, sX9_line_65, sX9_line_68, sX9_line_70, sX9_line_72, sX9_line_73, gG9_0, gG9_1, gG9_2, gG9_3, gG9_4, gG9_5, gG9_6, gG9_7, gP9_0, gP9_1, gP9_2, gP9_3, gP9_4, gP9_5, gP9_6, gP9_7, gG6_0, gG6_1, gG6_2, gG6_3, gP6_0, gP6_1, gP6_2, gP6_3, gG7_0, gG7_1, gG7_2, gP7_0, gP7_1, gP7_2, zpush_v, zpush_n, gCk, gAi, gSi, gLi, gLq, ↓if_pos, ↓if_neg, c1, c2, c3, wv, cR, w0]
            | none =>
              rw [hE, eN_n] at w0
              obtain ⟨mi, oo, tg, dg, nu, kf, nf, hOR, hI⟩ := okr hE
              obtain ⟨i80, iok, i20⟩ := pIts_ok hw.2.2.2.1 hw.2.2.2.2 hE
              obtain ⟨h1, s1, r1, w1⟩ := s_keep r0 hw
              have hOR1 := hOR.off s1 (by omega)
              have cr1 := hOR1.1
              have k1 := r1.2.2.1
              have B1 := r1.2.2.2.2
              obtain ⟨d1, d2, -, -, -⟩ := r1.facts
              obtain ⟨t, et⟩ : ∃ t, h1.2.1 = t := ⟨_, rfl⟩
              obtain ⟨g1, eg1⟩ : ∃ g, g = hadd h1 t (.inr (8, [.int 0, .null, .null])) 3 := ⟨_, rfl⟩
              have kg1 : HpK g1 := by rw [eg1]; exact k1.add et
              have low1 : ∀ z, z < t → g1.1 z = h1.1 z := fun z hz => by rw [eg1]; exact hadd_ne (by omega)
              obtain ⟨ha, kf', nf', a1, az, a2, a3, a4, a5, a6, a7, wT⟩ := m_X8_init (h := g1) (t := t) (kr := X + 3 + 1) (nr := X + 3 + 3) (n := (pIts p.2.2).length) (n1 := 80) (n2 := 80) (kf := kf) (nf := nf) (by rw [eg1]; rfl) (by rw [eg1, hadd_at]) ⟨by rw [low1 _ (by omega)]; exact hOR1.2.1.1, by rw [low1 _ (by omega)]; exact hOR1.2.1.2⟩ ⟨by rw [low1 _ (by omega)]; exact hOR1.2.2.1, by rw [low1 _ (by omega)]; exact hOR1.2.2.2⟩ (by omega) (by omega) i80 i80 (by omega) (by omega) kg1
              have lowa : ∀ z, z < t → ha.1 z = h1.1 z := fun z hz => by rw [a3 z hz, low1 z hz]
              obtain ⟨hb, eb⟩ : ∃ g, g = hadd ha (t + 5) (.inr (1, [.int (nI i), .int (nI j), .int (eN o), .int (-1), .ref t])) 5 := ⟨_, rfl⟩
              have kb : HpK hb := by rw [eb]; exact a2.add a1
              have lowb : ∀ z, z < t + 5 → hb.1 z = ha.1 z := fun z hz => by rw [eb]; exact hadd_ne (by omega)
              have low : ∀ z, z < t → hb.1 z = h1.1 z := fun z hz => by rw [lowb z (by omega), lowa z hz]
              have kpb : Kp h1 hb := Kp.of k1 et low
              have sb : hb.2.1 = t + 6 := by rw [eb]; rfl
              have rb := r1.grow kpb kb (by omega)
              have hln : rLn hb B (t + 5) (i, j, o, none, pIts p.2.2) := by
                refine ⟨by omega, t, by omega, by rw [eb, hadd_at]; rfl, ?_⟩
                refine ⟨kf', nf', by rw [lowb _ (by omega)]; exact a4, ⟨by rw [lowb _ (by omega)]; exact a5.1, by rw [lowb _ (by omega)]; exact a5.2⟩, ⟨by rw [lowb _ (by omega)]; exact a6.1, by rw [lowb _ (by omega)]; exact a6.2⟩, fun z x hx => ?_⟩
                have hzl := (List.getElem?_eq_some_iff.mp hx).1
                rw [(a7 z hzl).1, (a7 z hzl).2]
                exact hI z x hx
              obtain ⟨h2, s2, t2, w2⟩ := m_X6_addLine rb.1.2.2.2.1 (by omega) (by show p.1.2.1.length < 16; omega) hln
              have r2 := rb.scr s2 t2
              have r2' := r2.typed0
              have hw2 : WfSt (p.1.1, p.1.2.1 ++ [(i, j, o, none, pIts p.2.2)], p.1.2.2) := by
                refine hw.1.lines ?_ (fun x hx => ?_)
                · rw [List.length_append]
                  show p.1.2.1.length + 1 ≤ 16
                  omega
                · rcases List.mem_append.mp hx with hx | hx
                  · exact hw.1.mem x hx
                  · rw [List.mem_singleton.mp hx]
                    exact ⟨⟨by show i < j; omega, by show j ≤ 100000; omega, fun q hq => by have := ho q hq; omega, fun v hv => (by cases hv), i80, iok, i20⟩, ho⟩
              obtain ⟨h3, s3, r3, w3⟩ := s_draw r2' hw2
              obtain ⟨rb1, rb2, -, -, -⟩ := rb.facts
              obtain ⟨f1, f2, -, -, -⟩ := r2.facts
              obtain ⟨f1', f2', -, -, -⟩ := r2'.facts
              obtain ⟨-, ⟨fs3, f4⟩⟩ := r2'.cells
              obtain ⟨g31, g32, -⟩ := r3.facts
              have el : (p.1.2.1 ++ [(i, j, o, none, pIts p.2.2)]).length = p.1.2.1.length + 1 := by rw [List.length_append]; rfl
              have g32 : h3.1 (X + 8) = some (.inr (6, [.ref (X + 8 + 1), .ref (X + 8 + 6), .int (nI (p.1.2.1 ++ [(i, j, o, none, pIts p.2.2)]).length), .int (nI p.1.2.2)])) := g32
              rw [el] at g32
              obtain ⟨⟨fs0, ch0⟩, -⟩ := r0.cells
              obtain ⟨q1, q2, -, -, -⟩ := r0.facts
              have cg1 : g1.1 X = _ := (low1 X (by omega)).trans d1
              have cg2 : g1.1 (X + 3) = _ := (low1 (X + 3) (by omega)).trans cr1
              have ca1 : ha.1 X = _ := (lowa X (by omega)).trans d1
              have wL := m_X1_init (h := hadd ha (t + 5) e5 5) (q := t + 5) (t := t) (a := nI i) (b := nI j) (c := eN o) (d := -1) hadd_at
              have zb : hb.2.2 = h1.2.2 + 10 + 2 * (pIts p.2.2).length := by
                rw [eb]
                show ha.2.2 + 5 = _
                rw [az, eg1]
                show h1.2.2 + 3 + 2 + 2 * (pIts p.2.2).length + 5 = _
                omega
              have fa : FrK 1 X h1 hb := ⟨by omega, fun z hz => by
                rcases Nat.lt_or_ge z t with c | c
                · exact low z c
                · omega⟩
              refine ⟨h3, (((((Fr.s s0 (by omega) (by omega)).tr (Fr.s s1 (by omega) (by omega))).tr fa).tr ((Fr.s s2 (by omega) (by omega)).tr (Fr.s (Same.set (h := h2) (a := X) (e := xC X 0) (lo := X) (n := 1) (by omega) (by omega)) (by omega) (by omega)))).tr (Fr.s s3 (by omega) (by omega))).w (by decide), ⟨r3, ⟨hw2, kept_wf hw.2.1 hw.1, kept_len hw.2.2.1, Nat.zero_le _, fun c hc => by cases hc⟩⟩, fun Q => ?_⟩
              rw [eX9_line]
              simp (disch := (first | omega | assumption | (simp (disch := omega) only [Int32.lt_iff_toInt_lt, Int32.le_iff_toInt_le, ← Int32.toInt_inj, nI_toInt, zi_m1, zi_m2, zi_m3, zi_m9]; omega) | decide)) only [sX9_line_0, sX9_line_1, sX9_line_4, sX9_line_5, sX9_line_6, sX9_line_9, sX9_line_10, sX9_line_12, sX9_line_15, sX9_line_16, sX9_line_19, sX9_line_22, sX9_line_23, sX9_line_26, sX9_line_29, sX9_line_30, sX9_line_31, sX9_line_32, sX9_line_35, sX9_line_38, sX9_line_40, sX9_line_43, sX9_line_45, sX9_line_46, sX9_line_47, sX9_line_50, sX9_line_51, sX9_line_54, sX9_line_55, sX9_line_58, sX9_line_61i, sX9_line_61r, sX9_line_61z, sX9_line_61o, sX9_line_63, sX9_line_65, sX9_line_68, sX9_line_70, sX9_line_72, sX9_line_73, sX9_line_74, sX9_line_75, sX9_line_78, sX9_line_79, sX9_line_82, sX9_line_85, sX9_line_88, sX9_line_88i, sX9_line_89, sX9_line_90, sX9_line_93, sX9_line_96, sX9_line_97, sX9_line_100, sX9_line_103, sX9_line_104, sX9_line_107, sX9_line_110, sX9_line_113i, sX9_line_113iN, sX9_line_113r, sX9_line_113rN, sX9_line_113z, sX9_line_113zN, sX9_line_113o, sX9_line_113oN, sX9_line_115, sX9_line_116, sX9_line_119, sX9_line_122, sX9_line_122i, sX9_line_123, sX9_line_124, sX9_line_125, sX9_line_126, sX9_line_127, sX9_line_127n, sX9_line_129, sX9_line_132, sX9_line_135, gG9_0, gG9_1, gG9_2, gG9_3, gG9_4, gG9_5, gG9_6, gG9_7, gP9_0, gP9_1, gP9_2, gP9_3, gP9_4, gP9_5, gP9_6, gP9_7, gG6_0, gG6_1, gG6_2, gG6_3, gP6_0, gP6_1, gP6_2, gP6_3, gG7_0, gG7_1, gG7_2, gP7_0, gP7_1, gP7_2, gG4_0, gG4_1, gG4_2, gG4_3, gG4_4, gG4_5, gG4_6, gG4_7, gP4_0, gP4_1, gP4_2, gP4_3, gP4_4, gP4_5, gP4_6, gP4_7, zpush_v, zpush_n, gCk, gAi, gSi, gLi, gLq, ↓if_pos, ↓if_neg, c1, c2, c3, wv, cR, w0, q1, ch0, w1, d1, hnew_hadd, et, ← eg1, cg1, cg2, wT, ca1, a1, wL, hset_hadd, ← eb, rb2, w2]
              have f1x : h2.1 X = some (.inr (9, [.ref (X + 1), .int (nI p.2.2.length), .ref (X + 3), .ref (X + 8), .ref (X + 15), .ref (X + 52), .ref (X + 168), .ref (X + 173)])) := f1
              have w3' : ∀ Q : Option Value → Hp → Prop, WPm 26 [.ref (X + 52), .ref (X + 8)] (hset h2 X (.inr (9, [.ref (X + 1), .int (nI 0), .ref (X + 3), .ref (X + 8), .ref (X + 15), .ref (X + 52), .ref (X + 168), .ref (X + 173)]))) Q = Q none h3 := w3
              have f4' : (hset h2 X (.inr (9, [.ref (X + 1), .int (nI 0), .ref (X + 3), .ref (X + 8), .ref (X + 15), .ref (X + 52), .ref (X + 168), .ref (X + 173)]))).1 (X + 52) = some (.inr (3, fs3)) := f4
              simp (disch := (first | omega | assumption | (simp (disch := omega) only [Int32.lt_iff_toInt_lt, Int32.le_iff_toInt_le, ← Int32.toInt_inj, nI_toInt, zi_m1, zi_m2, zi_m3, zi_m9]; omega) | decide)) only [sX9_line_135, sX9_line_136, sX9_line_137, sX9_line_140, sX9_line_141, sX9_line_144, sX9_line_145, sX9_line_148, sX9_line_151, sX9_line_152, sX9_line_155, sX9_line_158, sX9_line_159, sX9_line_160, gG9_0, gG9_1, gG9_2, gG9_3, gG9_4, gG9_5, gG9_6, gG9_7, gP9_0, gP9_1, gP9_2, gP9_3, gP9_4, gP9_5, gP9_6, gP9_7, gG6_0, gG6_1, gG6_2, gG6_3, gP6_0, gP6_1, gP6_2, gP6_3, gG7_0, gG7_1, gG7_2, gP7_0, gP7_1, gP7_2, gG4_0, gG4_1, gG4_2, gG4_3, gG4_4, gG4_5, gG4_6, gG4_7, gP4_0, gP4_1, gP4_2, gP4_3, gP4_4, gP4_5, gP4_6, gP4_7, zpush_v, zpush_n, gCk, gAi, gSi, gLi, gLq, ↓if_pos, ↓if_neg, f1x, hset_same, f4', w3', g31, g32, nI_sub, Nat.add_sub_cancel]
        rcases dO_cases p.1.1.1 s (by omega) with ⟨rfl, e3⟩ | ⟨k2, hk2, rfl, e3⟩ | ⟨⟨g1, g2⟩, e3⟩
        · rw [e3]
          exact good none rfl (fun q hq => by cases hq) (m_X7_honN hO)
        · rw [e3]
          exact good (some k2) rfl (fun q hq => by cases hq; exact hk2) (m_X7_honS hO hk2 h10)
        · rw [e3]
          refine bad True trivial (fun Q => ?_)
          rw [eX9_line]
          simp (disch := (first | omega | assumption | (simp (disch := omega) only [Int32.lt_iff_toInt_lt, Int32.le_iff_toInt_le, ← Int32.toInt_inj, nI_toInt, zi_m1, zi_m2, zi_m3, zi_m9]; omega) | decide)) only [sX9_line_0, sX9_line_1, sX9_line_4, sX9_line_5, sX9_line_6, sX9_line_9, sX9_line_10, sX9_line_12, sX9_line_15, sX9_line_16, sX9_line_19, sX9_line_22, sX9_line_23, sX9_line_26, sX9_line_29, sX9_line_30, gG9_0, gG9_1, gG9_2, gG9_3, gG9_4, gG9_5, gG9_6, gG9_7, gP9_0, gP9_1, gP9_2, gP9_3, gP9_4, gP9_5, gP9_6, gP9_7, gG6_0, gG6_1, gG6_2, gG6_3, gP6_0, gP6_1, gP6_2, gP6_3, gG7_0, gG7_1, gG7_2, gP7_0, gP7_1, gP7_2, zpush_v, zpush_n, gCk, gAi, gSi, gLi, gLq, ↓if_pos, ↓if_neg, c1, c2, c3, m_X7_honF hO g2 g1 h10]
    · rw [e2]
      refine bad True trivial (fun Q => ?_)
      rw [eX9_line]
      by_cases k1 : e ≤ nI i
      · simp (disch := (first | omega | assumption | (simp (disch := omega) only [Int32.lt_iff_toInt_lt, Int32.le_iff_toInt_le, ← Int32.toInt_inj, nI_toInt, zi_m1, zi_m2, zi_m3, zi_m9]; omega) | decide)) only [sX9_line_0, sX9_line_1, sX9_line_4, sX9_line_5, sX9_line_6, sX9_line_9, sX9_line_10, sX9_line_12, sX9_line_15, sX9_line_16, sX9_line_19, sX9_line_22, sX9_line_23, sX9_line_26, sX9_line_29, sX9_line_30, gG9_0, gG9_1, gG9_2, gG9_3, gG9_4, gG9_5, gG9_6, gG9_7, gP9_0, gP9_1, gP9_2, gP9_3, gP9_4, gP9_5, gP9_6, gP9_7, gG6_0, gG6_1, gG6_2, gG6_3, gP6_0, gP6_1, gP6_2, gP6_3, gG7_0, gG7_1, gG7_2, gP7_0, gP7_1, gP7_2, zpush_v, zpush_n, gCk, gAi, gSi, gLi, gLq, ↓if_pos, ↓if_neg, c1]
      · have k2 : nI 100000 < e := by
          rcases g with g | g
          · exfalso
            apply k1
            refine Int32.le_trans (Int32.le_of_lt g) (nI_le (by omega) (by omega))
          · exact g
        simp (disch := (first | omega | assumption | (simp (disch := omega) only [Int32.lt_iff_toInt_lt, Int32.le_iff_toInt_le, ← Int32.toInt_inj, nI_toInt, zi_m1, zi_m2, zi_m3, zi_m9]; omega) | decide)) only [sX9_line_0, sX9_line_1, sX9_line_4, sX9_line_5, sX9_line_6, sX9_line_9, sX9_line_10, sX9_line_12, sX9_line_15, sX9_line_16, sX9_line_19, sX9_line_22, sX9_line_23, sX9_line_26, sX9_line_29, sX9_line_30, gG9_0, gG9_1, gG9_2, gG9_3, gG9_4, gG9_5, gG9_6, gG9_7, gP9_0, gP9_1, gP9_2, gP9_3, gP9_4, gP9_5, gP9_6, gP9_7, gG6_0, gG6_1, gG6_2, gG6_3, gP6_0, gP6_1, gP6_2, gP6_3, gG7_0, gG7_1, gG7_2, gP7_0, gP7_1, gP7_2, zpush_v, zpush_n, gCk, gAi, gSi, gLi, gLq, ↓if_pos, ↓if_neg, c1]
  · rw [e1]
    refine bad True trivial (fun Q => ?_)
    rw [eX9_line]
    by_cases k0 : b < nI 0
    · simp (disch := (first | omega | assumption | (simp (disch := omega) only [Int32.lt_iff_toInt_lt, Int32.le_iff_toInt_le, ← Int32.toInt_inj, nI_toInt, zi_m1, zi_m2, zi_m3, zi_m9]; omega) | decide)) only [sX9_line_0, sX9_line_1, sX9_line_4, sX9_line_5, sX9_line_6, sX9_line_9, sX9_line_10, sX9_line_12, sX9_line_15, sX9_line_16, sX9_line_19, sX9_line_22, sX9_line_23, sX9_line_26, sX9_line_29, sX9_line_30, gG9_0, gG9_1, gG9_2, gG9_3, gG9_4, gG9_5, gG9_6, gG9_7, gP9_0, gP9_1, gP9_2, gP9_3, gP9_4, gP9_5, gP9_6, gP9_7, gG6_0, gG6_1, gG6_2, gG6_3, gP6_0, gP6_1, gP6_2, gP6_3, gG7_0, gG7_1, gG7_2, gP7_0, gP7_1, gP7_2, zpush_v, zpush_n, gCk, gAi, gSi, gLi, gLq, ↓if_pos, ↓if_neg, c1]
    · have g := g.resolve_left k0
      by_cases k1 : e ≤ b
      · simp (disch := (first | omega | assumption | (simp (disch := omega) only [Int32.lt_iff_toInt_lt, Int32.le_iff_toInt_le, ← Int32.toInt_inj, nI_toInt, zi_m1, zi_m2, zi_m3, zi_m9]; omega) | decide)) only [sX9_line_0, sX9_line_1, sX9_line_4, sX9_line_5, sX9_line_6, sX9_line_9, sX9_line_10, sX9_line_12, sX9_line_15, sX9_line_16, sX9_line_19, sX9_line_22, sX9_line_23, sX9_line_26, sX9_line_29, sX9_line_30, gG9_0, gG9_1, gG9_2, gG9_3, gG9_4, gG9_5, gG9_6, gG9_7, gP9_0, gP9_1, gP9_2, gP9_3, gP9_4, gP9_5, gP9_6, gP9_7, gG6_0, gG6_1, gG6_2, gG6_3, gP6_0, gP6_1, gP6_2, gP6_3, gG7_0, gG7_1, gG7_2, gP7_0, gP7_1, gP7_2, zpush_v, zpush_n, gCk, gAi, gSi, gLi, gLq, ↓if_pos, ↓if_neg, c1]
      · have k2 : nI 100000 < e := by
          have a := Int32.not_le.mp k1
          rw [Int32.lt_iff_toInt_lt, nI_toInt (by omega)] at g ⊢
          rw [Int32.lt_iff_toInt_lt] at a
          omega
        simp (disch := (first | omega | assumption | (simp (disch := omega) only [Int32.lt_iff_toInt_lt, Int32.le_iff_toInt_le, ← Int32.toInt_inj, nI_toInt, zi_m1, zi_m2, zi_m3, zi_m9]; omega) | decide)) only [sX9_line_0, sX9_line_1, sX9_line_4, sX9_line_5, sX9_line_6, sX9_line_9, sX9_line_10, sX9_line_12, sX9_line_15, sX9_line_16, sX9_line_19, sX9_line_22, sX9_line_23, sX9_line_26, sX9_line_29, sX9_line_30, gG9_0, gG9_1, gG9_2, gG9_3, gG9_4, gG9_5, gG9_6, gG9_7, gP9_0, gP9_1, gP9_2, gP9_3, gP9_4, gP9_5, gP9_6, gP9_7, gG6_0, gG6_1, gG6_2, gG6_3, gP6_0, gP6_1, gP6_2, gP6_3, gG7_0, gG7_1, gG7_2, gP7_0, gP7_1, gP7_2, zpush_v, zpush_n, gCk, gAi, gSi, gLi, gLq, ↓if_pos, ↓if_neg, c1]
end XF
