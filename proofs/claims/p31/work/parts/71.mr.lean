/-! new objects: history, picture, the whole -/
/-- what lies from lo on stays -/
def Uq (lo : Nat) (g g' : Hp) : Prop := ∀ q e, lo ≤ q → g.1 q = some e → g'.1 q = some e
theorem Uq.rf {lo : Nat} {g : Hp} : Uq lo g g := fun _ _ _ x => x
theorem Uq.tr {lo : Nat} {a b c : Hp} (h1 : Uq lo a b) (h2 : Uq lo b c) : Uq lo a c := fun q e l x => h2 q e l (h1 q e l x)
theorem Uq.kp {lo : Nat} {a b : Hp} (h : Kp a b) : Uq lo a b := fun q e _ x => h q e x
theorem Uq.st {lo a : Nat} {g : Hp} {e : va_E} (h : a < lo) : Uq lo g (hset g a e) := fun q e' l x => by rw [hset_ne (by omega)]; exact x
section UQ
variable {h h' : Hp} {lo : Nat}
theorem oRow.uq {a n : Nat} {f : Nat → Int32} (hr : oRow h a n f) (hs : Uq lo h h') (hl : lo ≤ a) : oRow h' a n f := ⟨hs _ _ hl hr.1, hs _ _ (by omega) hr.2⟩
theorem oSheet.uq {a n : Nat} {par own : Nat → Int32} (hr : oSheet h a n par own) (hs : Uq lo h h') (hl : lo ≤ a) : oSheet h' a n par own := ⟨hs _ _ hl hr.1, hr.2.1.uq hs (by omega), hr.2.2.uq hs (by omega)⟩
theorem oScr.uq {s n ht : Nat} {rf : Nat → Option Nat} (hr : oScr h s n ht rf) (hs : Uq lo h h') (hl : lo ≤ s) : oScr h' s n ht rf := ⟨hs _ _ hl hr.1, hs _ _ (by omega) hr.2⟩
theorem oLook.uq {k : Nat} {b e g m ht o ns ny la : Int32} {sg sy hd : Nat → Int32} (hr : oLook h k b e g m ht o ns ny la sg sy hd) (hs : Uq lo h h') (hl : lo ≤ k) : oLook h' k b e g m ht o ns ny la sg sy hd := ⟨hs _ _ hl hr.1, hr.2.1.uq hs (by omega), hr.2.2.1.uq hs (by omega), hr.2.2.2.uq hs (by omega)⟩
theorem oRd.uq {R : Nat} {sz mi oo tg dg nu : Int32} {kf nf : Nat → Int32} (hr : oRd h R sz mi oo tg dg nu kf nf) (hs : Uq lo h h') (hl : lo ≤ R) : oRd h' R sz mi oo tg dg nu kf nf := ⟨hs _ _ hl hr.1, hr.2.1.uq hs (by omega), hr.2.2.uq hs (by omega)⟩
theorem oHist.uq {H o n : Nat} (hr : oHist h H o n) (hs : Uq lo h h') (hl : lo ≤ H) : oHist h' H o n := ⟨hs _ _ hl hr.1, hs _ _ (by omega) hr.2⟩
theorem oPic.uq {P n : Nat} {f : Nat → Int32} (hr : oPic h P n f) (hs : Uq lo h h') (hl : lo ≤ P) : oPic h' P n f := ⟨hs _ _ hl hr.1, hs _ _ (by omega) hr.2.1, hr.2.2.uq hs (by omega)⟩
end UQ
/-- one more child, then a cell of the parent's -/
theorem Gw.more2 {h g g1 : Hp} {a m k n' k' a' : Nat} {e : va_E} (h1 : Gw h g a m k) (h2 : Gw g g1 (a + m) n' k') (h3 : a ≤ a') (h4 : a' < a + m) : Gw h (hset g1 a' e) a (m + n') (k + k') := by
  refine ⟨?_, ?_, fun q hq => ?_, ?_⟩
  · show g1.2.1 = _
    rw [h2.1]
    omega
  · exact h2.2.1.set (by rw [h2.1]; omega)
  · rw [hset_ne (by omega), h2.2.2.1 q (by omega)]
    exact h1.2.2.1 q hq
  · show g1.2.2 = _
    rw [h2.2.2.2, h1.2.2.2]
    omega
theorem Gw.uq {h g g1 : Hp} {a m k n' k' a' lo : Nat} {e : va_E} (h1 : Gw h g a m k) (h2 : Gw g g1 (a + m) n' k') (h3 : a' < lo) : Uq lo g (hset g1 a' e) := (Uq.kp (h2.kp h1.2.1 h1.1)).tr (Uq.st h3)
def rgF (b n i : Nat) : Nat → Option Nat := fun j => if j < i ∧ j < n then some (b + 2 + 7 * j) else none
theorem rgF_0 (b n : Nat) : rgF b n 0 = fun _ => none := by funext j; exact if_neg (by omega)
theorem rgF_step {b n i : Nat} (hi : i < n) : va_up (rgF b n i) i (some (b + 2 + 7 * i)) = rgF b n (i + 1) := by
  funext j
  by_cases c : j = i
  · subst c
    rw [zup_at]
    unfold rgF
    rw [if_pos (by omega)]
  · rw [zup_ne c]
    unfold rgF
    by_cases d : j < i ∧ j < n
    · rw [if_pos d, if_pos (by omega)]
    · rw [if_neg d, if_neg (by omega)]
theorem rgF_end (b n : Nat) : rgF b n n = fun j => if j < n then some (b + 2 + 7 * j) else none := by
  funext j
  unfold rgF
  by_cases c : j < n
  · rw [if_pos ⟨c, c⟩, if_pos c]
  · rw [if_neg (fun q => c q.1), if_neg c]
abbrev arQ (t n : Nat) (f : Nat → Option Nat) : va_E := .inl (t, n, .inr (.inr (.inr (.inr f))))
section MR
variable {h : Hp} {b : Nat}
theorem l_Hist (K0 : HpK h) : ∀ (m i : Nat), m + i = 5 → ∀ g : Hp, Gw h g b (2 + 7 * i) (8 + 95 * i) → g.1 b = some (.inr (0, [.ref (b + 1), .int 0, .int 0])) → g.1 (b + 1) = some (arQ 3 5 (rgF b 5 i)) → (∀ j, j < i → oScr g (b + 2 + 7 * j) 0 300 (fun _ => none) ∧ oSheet g (b + 2 + 7 * j + 1) 0 z0 z0) →
    ∃ g', Gw h g' b 37 483 ∧ g'.1 b = some (.inr (0, [.ref (b + 1), .int 0, .int 0])) ∧ g'.1 (b + 1) = some (arQ 3 5 (rgF b 5 5)) ∧ (∀ j, j < 5 → oScr g' (b + 2 + 7 * j) 0 300 (fun _ => none) ∧ oSheet g' (b + 2 + 7 * j + 1) 0 z0 z0) ∧
      ∀ Q : Option Value → Hp → Prop, WP 0 14 [some (.ref b), some (.int (nI i))] [] g Q = WP 0 42 [some (.ref b), some (.int (nI 5))] [] g' Q := by
  intro m
  induction m with
  | zero =>
    intro i hi g w c1 c2 cs
    have hi : i = 5 := by omega
    subst hi
    refine ⟨g, w, c1, c2, cs, fun Q => ?_⟩
    rw [sX0_init_14]
    simp (disch := (first | omega | assumption | (simp (disch := omega) only [Int32.lt_iff_toInt_lt, Int32.le_iff_toInt_le, ← Int32.toInt_inj, nI_toInt, zi_m1, zi_m2, zi_m3, zi_m9]; omega) | decide)) only [sX0_init_15, sX0_init_16, sX0_init_19, sX0_init_20, gG0_0, gG0_1, gG0_2, gP0_0, gP0_1, gP0_2, zpush_v, zpush_n, gCk, gAi, gSi, gLi, gLq, ↓if_pos, ↓if_neg, c1, c2]
  | succ m ih =>
    intro i hi g w c1 c2 cs
    obtain ⟨g1, w1, ⟨r1, s1⟩, q1⟩ := c_Screen w.1 w.2.1
    have d1 := w1.cell (by omega) c1
    have d2 : g1.1 (b + 1) = _ := (w1.2.2.1 (b + 1) (by omega)).trans c2
    have hz : zcls g1 (b + (2 + 7 * i)) = some 6 := by
      unfold zcls
      rw [r1.1]
    have hv : ∀ q, some (b + (2 + 7 * i)) = some q → zcls g1 q = some (ztc 3) := fun q hq => by cases hq; exact hz
    obtain ⟨g2, e2⟩ : ∃ g, g = hset g1 (b + 1) (arQ 3 5 (rgF b 5 (i + 1))) := ⟨_, rfl⟩
    have w2 : Gw h g2 b (2 + 7 * (i + 1)) (8 + 95 * (i + 1)) := by
      have := w.more2 (e := arQ 3 5 (rgF b 5 (i + 1))) w1 (a' := b + 1) (by omega) (by omega)
      rw [← e2] at this
      rw [show 2 + 7 * (i + 1) = 2 + 7 * i + 7 by omega, show 8 + 95 * (i + 1) = 8 + 95 * i + 95 by omega]
      exact this
    have u : Uq (b + 2) g g2 := by rw [e2]; exact w.uq w1 (by omega)
    have u1 : Uq (b + 2) g1 g2 := by rw [e2]; exact Uq.st (by omega)
    obtain ⟨g', z1, z2, z3, z4, z5⟩ := ih (i + 1) (by omega) g2 w2 (by rw [e2, hset_ne (by omega)]; exact d1) (by rw [e2]; exact hset_same) (fun j hj => by
      by_cases c : j = i
      · subst c
        have r1 : oScr g1 (b + 2 + 7 * j) 0 300 (fun _ => none) := by rw [Nat.add_assoc]; exact r1
        have s1 : oSheet g1 (b + 2 + 7 * j + 1) 0 z0 z0 := by rw [Nat.add_assoc b 2]; exact s1
        exact ⟨r1.uq u1 (by omega), s1.uq u1 (by omega)⟩
      · obtain ⟨a1, a2⟩ := cs j (by omega)
        exact ⟨a1.uq u (by omega), a2.uq u (by omega)⟩)
    refine ⟨g', z1, z2, z3, z4, fun Q => ?_⟩
    have st : va_up (rgF b 5 i) i (some (b + (2 + 7 * i))) = rgF b 5 (i + 1) := by
      rw [← Nat.add_assoc]
      exact rgF_step (by omega)
    have e2' : hset g1 (b + 1) (.inl (3, 5, .inr (.inr (.inr (.inr (rgF b 5 (i + 1))))))) = g2 := e2.symm
    rw [← z5 Q, sX0_init_14]
    simp (disch := (first | omega | assumption | (simp (disch := omega) only [Int32.lt_iff_toInt_lt, Int32.le_iff_toInt_le, ← Int32.toInt_inj, nI_toInt, zi_m1, zi_m2, zi_m3, zi_m9]; omega) | decide)) only [sX0_init_15, sX0_init_16, sX0_init_19, sX0_init_20, sX0_init_23, sX0_init_24, sX0_init_27, sX0_init_28, sX0_init_31, sX0_init_31i, sX0_init_32, sX0_init_35, sX0_init_35n, sX0_init_36i, sX0_init_36r, sX0_init_36z, sX0_init_36o, sX0_init_39, gG0_0, gG0_1, gG0_2, gP0_0, gP0_1, gP0_2, zpush_v, zpush_n, gCk, gAi, gSi, gLi, gLq, ↓if_pos, ↓if_neg, c1, c2, hnew_hadd, w.1, q1, d2, gSq (t := 3) (by omega) (show i < 5 by omega) (by omega) hv, st, e2', nI_add]
theorem c_Hist (hz : h.2.1 = b) (hK : HpK h) : ∃ h', Gw h h' b 37 483 ∧ (oHist h' b 0 0 ∧ ∀ j, j < 5 → oScr h' (b + 2 + 7 * j) 0 300 (fun _ => none) ∧ oSheet h' (b + 2 + 7 * j + 1) 0 z0 z0) ∧ ∀ Q : Option Value → Hp → Prop, WPm 0 [.ref b] (hadd h b (.inr (0, [.null, .int 0, .int 0])) 3) Q = Q none h' := by
  obtain ⟨g0, e0⟩ : ∃ g, g = hadd h b (.inr (0, [.null, .int 0, .int 0])) 3 := ⟨_, rfl⟩
  have w0 : Gw h g0 b 1 3 := by rw [e0]; exact Gw.new hz hK
  have c0 : g0.1 b = some (.inr (0, [.null, .int 0, .int 0])) := by rw [e0]; exact hadd_at
  obtain ⟨g1, e1⟩ : ∃ g, g = hadd g0 (b + 1) (arQ 3 5 (fun _ => none)) 5 := ⟨_, rfl⟩
  have w1 : Gw g0 g1 (b + 1) 1 5 := by rw [e1]; exact Gw.new w0.1 w0.2.1
  have d1 := w1.cell (by omega) c0
  have a1 : g1.1 (b + 1) = some (arQ 3 5 (fun _ => none)) := by rw [e1]; exact hadd_at
  obtain ⟨g2, e2⟩ : ∃ g, g = hset g1 b (.inr (0, [.ref (b + 1), .int 0, .int 0])) := ⟨_, rfl⟩
  have w2 : Gw h g2 b 2 8 := by rw [e2]; exact w0.more w1 (by omega)
  obtain ⟨g3, w3, c3, c4, c5, q3⟩ := l_Hist hK 5 0 rfl g2 w2 (by rw [e2]; exact hset_same) (by rw [e2, rgF_0]; exact hset_cell (by omega) a1) (fun j hj => absurd hj (Nat.not_lt_zero _))
  have u : Uq (b + 1) g3 (hset g3 b (.inr (0, [.ref (b + 1), .int (nI 0), .int (nI 0)]))) := Uq.st (by omega)
  refine ⟨hset g3 b (.inr (0, [.ref (b + 1), .int (nI 0), .int (nI 0)])), ⟨w3.1, w3.2.1.set (by rw [w3.1]; omega), fun q hq => by rw [hset_ne (by omega)]; exact w3.2.2.1 q hq, w3.2.2.2⟩, ⟨⟨hset_same, ?_⟩, fun j hj => ⟨(c5 j hj).1.uq u (by omega), (c5 j hj).2.uq u (by omega)⟩⟩, fun Q => ?_⟩
  · rw [hset_ne (by omega), c4, rgF_end]
    rfl
  · have e1' : hadd g0 (b + 1) (.inl (3, 5, .inr (.inr (.inr (.inr (fun _ => none)))))) 5 = g1 := e1.symm
    rw [eX0_init, ← e0]
    simp (disch := (first | omega | assumption | (simp (disch := omega) only [Int32.lt_iff_toInt_lt, Int32.le_iff_toInt_le, ← Int32.toInt_inj, nI_toInt, zi_m1, zi_m2, zi_m3, zi_m9]; omega) | decide)) only [sX0_init_0, sX0_init_1, sX0_init_4, sX0_init_5, sX0_init_6, sX0_init_9, sX0_init_12, sX0_init_13i, sX0_init_13r, sX0_init_13z, sX0_init_13o, gG0_0, gG0_1, gG0_2, gP0_0, gP0_1, gP0_2, zpush_v, zpush_n, gCk, gAi, gSi, gLi, gLq, ↓if_pos, ↓if_neg, hnew_hadd, w0.1, c0, nI_nn, nI_cl, true_and, if_true, e1', d1, ← e2]
    rw [q3]
    simp (disch := (first | omega | assumption | (simp (disch := omega) only [Int32.lt_iff_toInt_lt, Int32.le_iff_toInt_le, ← Int32.toInt_inj, nI_toInt, zi_m1, zi_m2, zi_m3, zi_m9]; omega) | decide)) only [sX0_init_42, sX0_init_43, sX0_init_44, sX0_init_47, sX0_init_48, sX0_init_49, sX0_init_52, gG0_0, gG0_1, gG0_2, gP0_0, gP0_1, gP0_2, zpush_v, zpush_n, gCk, gAi, gSi, gLi, gLq, ↓if_pos, ↓if_neg, c3, hset_same, hset_hset]
theorem l_Pic (K0 : HpK h) : ∀ (m i : Nat), m + i = 16 → ∀ g : Hp, Gw h g b (2 + 7 * i) (19 + 559 * i) → g.1 b = some (.inr (3, [.ref (b + 1), .int 0, .null])) → g.1 (b + 1) = some (arQ 4 16 (rgF b 16 i)) → (∀ j, j < i → oLook g (b + 2 + 7 * j) 0 0 0 0 0 0 0 0 0 z0 z0 z0) →
    ∃ g', Gw h g' b 114 8963 ∧ g'.1 b = some (.inr (3, [.ref (b + 1), .int 0, .null])) ∧ g'.1 (b + 1) = some (arQ 4 16 (rgF b 16 16)) ∧ (∀ j, j < 16 → oLook g' (b + 2 + 7 * j) 0 0 0 0 0 0 0 0 0 z0 z0 z0) ∧
      ∀ Q : Option Value → Hp → Prop, WP 25 15 [some (.ref b), some (.int (nI i))] [] g Q = WP 25 43 [some (.ref b), some (.int (nI 16))] [] g' Q := by
  intro m
  induction m with
  | zero =>
    intro i hi g w c1 c2 cs
    have hi : i = 16 := by omega
    subst hi
    refine ⟨g, w, c1, c2, cs, fun Q => ?_⟩
    rw [sX3_init_15]
    simp (disch := (first | omega | assumption | (simp (disch := omega) only [Int32.lt_iff_toInt_lt, Int32.le_iff_toInt_le, ← Int32.toInt_inj, nI_toInt, zi_m1, zi_m2, zi_m3, zi_m9]; omega) | decide)) only [sX3_init_16, sX3_init_17, sX3_init_20, sX3_init_21, gG3_0, gG3_1, gG3_2, gP3_0, gP3_1, gP3_2, zpush_v, zpush_n, gCk, gAi, gSi, gLi, gLq, ↓if_pos, ↓if_neg, c1, c2]
  | succ m ih =>
    intro i hi g w c1 c2 cs
    obtain ⟨g1, w1, r1, q1⟩ := c_Look w.1 w.2.1
    have d1 := w1.cell (by omega) c1
    have d2 : g1.1 (b + 1) = _ := (w1.2.2.1 (b + 1) (by omega)).trans c2
    have hz : zcls g1 (b + (2 + 7 * i)) = some 2 := by
      unfold zcls
      rw [r1.1]
    have hv : ∀ q, some (b + (2 + 7 * i)) = some q → zcls g1 q = some (ztc 4) := fun q hq => by cases hq; exact hz
    obtain ⟨g2, e2⟩ : ∃ g, g = hset g1 (b + 1) (arQ 4 16 (rgF b 16 (i + 1))) := ⟨_, rfl⟩
    have w2 : Gw h g2 b (2 + 7 * (i + 1)) (19 + 559 * (i + 1)) := by
      have := w.more2 (e := arQ 4 16 (rgF b 16 (i + 1))) w1 (a' := b + 1) (by omega) (by omega)
      rw [← e2] at this
      rw [show 2 + 7 * (i + 1) = 2 + 7 * i + 7 by omega, show 19 + 559 * (i + 1) = 19 + 559 * i + 559 by omega]
      exact this
    have u : Uq (b + 2) g g2 := by rw [e2]; exact w.uq w1 (by omega)
    have u1 : Uq (b + 2) g1 g2 := by rw [e2]; exact Uq.st (by omega)
    obtain ⟨g', z1, z2, z3, z4, z5⟩ := ih (i + 1) (by omega) g2 w2 (by rw [e2, hset_ne (by omega)]; exact d1) (by rw [e2]; exact hset_same) (fun j hj => by
      by_cases c : j = i
      · subst c
        have r1 : oLook g1 (b + 2 + 7 * j) 0 0 0 0 0 0 0 0 0 z0 z0 z0 := by rw [Nat.add_assoc]; exact r1
        exact r1.uq u1 (by omega)
      · exact (cs j (by omega)).uq u (by omega))
    refine ⟨g', z1, z2, z3, z4, fun Q => ?_⟩
    have st : va_up (rgF b 16 i) i (some (b + (2 + 7 * i))) = rgF b 16 (i + 1) := by
      rw [← Nat.add_assoc]
      exact rgF_step (by omega)
    have e2' : hset g1 (b + 1) (.inl (4, 16, .inr (.inr (.inr (.inr (rgF b 16 (i + 1))))))) = g2 := e2.symm
    rw [← z5 Q, sX3_init_15]
    simp (disch := (first | omega | assumption | (simp (disch := omega) only [Int32.lt_iff_toInt_lt, Int32.le_iff_toInt_le, ← Int32.toInt_inj, nI_toInt, zi_m1, zi_m2, zi_m3, zi_m9]; omega) | decide)) only [sX3_init_16, sX3_init_17, sX3_init_20, sX3_init_21, sX3_init_24, sX3_init_25, sX3_init_28, sX3_init_29, sX3_init_32, sX3_init_32i, sX3_init_33, sX3_init_36, sX3_init_36n, sX3_init_37i, sX3_init_37r, sX3_init_37z, sX3_init_37o, sX3_init_40, gG3_0, gG3_1, gG3_2, gP3_0, gP3_1, gP3_2, zpush_v, zpush_n, gCk, gAi, gSi, gLi, gLq, ↓if_pos, ↓if_neg, c1, c2, hnew_hadd, w.1, q1, d2, gSq (t := 4) (by omega) (show i < 16 by omega) (by omega) hv, st, e2', nI_add]
theorem c_Pic (hz : h.2.1 = b) (hK : HpK h) : ∃ h', Gw h h' b 116 8980 ∧ (oPic h' b 0 z0 ∧ ∀ j, j < 16 → oLook h' (b + 2 + 7 * j) 0 0 0 0 0 0 0 0 0 z0 z0 z0) ∧ ∀ Q : Option Value → Hp → Prop, WPm 25 [.ref b] (hadd h b (.inr (3, [.null, .int 0, .null])) 3) Q = Q none h' := by
  obtain ⟨g0, e0⟩ : ∃ g, g = hadd h b (.inr (3, [.null, .int 0, .null])) 3 := ⟨_, rfl⟩
  have w0 : Gw h g0 b 1 3 := by rw [e0]; exact Gw.new hz hK
  have c0 : g0.1 b = some (.inr (3, [.null, .int 0, .null])) := by rw [e0]; exact hadd_at
  obtain ⟨g1, e1⟩ : ∃ g, g = hadd g0 (b + 1) (arQ 4 16 (fun _ => none)) 16 := ⟨_, rfl⟩
  have w1 : Gw g0 g1 (b + 1) 1 16 := by rw [e1]; exact Gw.new w0.1 w0.2.1
  have d1 := w1.cell (by omega) c0
  have a1 : g1.1 (b + 1) = some (arQ 4 16 (fun _ => none)) := by rw [e1]; exact hadd_at
  obtain ⟨g2, e2⟩ : ∃ g, g = hset g1 b (.inr (3, [.ref (b + 1), .int 0, .null])) := ⟨_, rfl⟩
  have w2 : Gw h g2 b 2 19 := by rw [e2]; exact w0.more w1 (by omega)
  obtain ⟨g3, w3, c3, c4, c5, q3⟩ := l_Pic hK 16 0 rfl g2 w2 (by rw [e2]; exact hset_same) (by rw [e2, rgF_0]; exact hset_cell (by omega) a1) (fun j hj => absurd hj (Nat.not_lt_zero _))
  obtain ⟨g4, e4⟩ : ∃ g, g = hset g3 b (.inr (3, [.ref (b + 1), .int (nI 0), .null])) := ⟨_, rfl⟩
  have w4 : Gw h g4 b 114 8963 := by
    rw [e4]
    exact ⟨w3.1, w3.2.1.set (by rw [w3.1]; omega), fun q hq => by rw [hset_ne (by omega)]; exact w3.2.2.1 q hq, w3.2.2.2⟩
  have d4 : g4.1 b = some (.inr (3, [.ref (b + 1), .int (nI 0), .null])) := by rw [e4]; exact hset_same
  have u4 : Uq (b + 1) g3 g4 := by rw [e4]; exact Uq.st (by omega)
  obtain ⟨g5, w5, r5, q5⟩ := c_Row (n := 16) w4.1 w4.2.1 (by omega)
  have d5 := w5.cell (by omega) d4
  have u5 : Uq (b + 1) g4 (hset g5 b (.inr (3, [.ref (b + 1), .int (nI 0), .ref (b + 114)]))) := w4.uq w5 (by omega)
  refine ⟨hset g5 b (.inr (3, [.ref (b + 1), .int (nI 0), .ref (b + 114)])), w4.more w5 (by omega), ⟨⟨hset_same, u5 _ _ (by omega) (u4 _ _ (by omega) (by rw [c4, rgF_end]; rfl)), r5.st (by omega)⟩, fun j hj => (c5 j hj).uq (u4.tr u5) (by omega)⟩, fun Q => ?_⟩
  have e1' : hadd g0 (b + 1) (.inl (4, 16, .inr (.inr (.inr (.inr (fun _ => none)))))) 16 = g1 := e1.symm
  rw [eX3_init, ← e0]
  simp (disch := (first | omega | assumption | (simp (disch := omega) only [Int32.lt_iff_toInt_lt, Int32.le_iff_toInt_le, ← Int32.toInt_inj, nI_toInt, zi_m1, zi_m2, zi_m3, zi_m9]; omega) | decide)) only [sX3_init_0, sX3_init_1, sX3_init_4, sX3_init_5, sX3_init_7, sX3_init_10, sX3_init_13, sX3_init_14i, sX3_init_14r, sX3_init_14z, sX3_init_14o, gG3_0, gG3_1, gG3_2, gP3_0, gP3_1, gP3_2, zpush_v, zpush_n, gCk, gAi, gSi, gLi, gLq, ↓if_pos, ↓if_neg, hnew_hadd, w0.1, c0, nI_nn, nI_cl, true_and, if_true, e1', d1, ← e2]
  rw [q3]
  simp (disch := (first | omega | assumption | (simp (disch := omega) only [Int32.lt_iff_toInt_lt, Int32.le_iff_toInt_le, ← Int32.toInt_inj, nI_toInt, zi_m1, zi_m2, zi_m3, zi_m9]; omega) | decide)) only [sX3_init_43, sX3_init_44, sX3_init_45, sX3_init_48, sX3_init_49, sX3_init_52, sX3_init_52i, sX3_init_53, sX3_init_55, sX3_init_58, sX3_init_61, gG3_0, gG3_1, gG3_2, gP3_0, gP3_1, gP3_2, zpush_v, zpush_n, gCk, gAi, gSi, gLi, gLq, ↓if_pos, ↓if_neg, hnew_hadd, c3, ← e4, w4.1, q5, d5]
end MR
