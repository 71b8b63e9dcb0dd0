/-! both sides in one heap; a call of each -/
theorem rP.offM {h h' : Hp} {X B : Nat} {p : PS} (hr : rP h X B p) (hw : WfP p) (hs : Same h h' (X + 180) 15) (hB : X + 195 ≤ B) : rP h' X B p := by
  obtain ⟨⟨⟨a1, a2, a3, a4, a5⟩, ⟨b1, b2, b3⟩, c1, c2, c3⟩, r⟩ := hr
  exact ⟨⟨⟨by rw [hs.at (by omega)]; exact a1, a2.off hs (by omega), a3.off hs (by omega), a4.off hs (by omega) (by omega), a5.off hs (by omega) (by omega)⟩, ⟨b1.off hs (by omega), b2.off hs (by omega), b3.off hs (by omega)⟩, c1.same hs (by omega), c2, by rw [hs.1]; exact c3⟩, r.off hw.1.2.1.1 hs (by omega)⟩
def qI (h : Hp) (p : PS) (X k : Nat) : Prop := rP h X (X + 195) p ∧ rM h (X + 180) p ∧ WfP p ∧ h.2.1 ≤ X + 195 + 6 * k ∧ h.2.2 ≤ 31104 + 400 * k
theorem rM.cell {h : Hp} {M : Nat} {p : PS} (hr : rM h M p) : ∃ fs, h.1 M = some (.inr (10, fs)) := by
  obtain ⟨h0, v, pa, fl, tx, it, sg, lat, hat, nw, os, hgh, pl, asd, lks, ct, wr, im, sm, sy, rfl, hv, hp, ht⟩ := hr
  exact ⟨_, mkM_o⟩
def qPair (h : Hp) (X k n1 n2 : Nat) (as : List Value) (v : Option Value) (h1 h2 : Hp) (p' : PS) : Prop :=
  WPm n1 (.ref X :: as) h (fun r g => r = v ∧ g = h1) ∧ WPm n2 (.ref (X + 180) :: as) h1 (fun r g => r = v ∧ g = h2) ∧ (∃ fs, h.1 X = some (.inr (9, fs))) ∧ (∃ fs, h1.1 (X + 180) = some (.inr (10, fs))) ∧ h1.2.1 ≤ X + 195 + 6 * (k + 1) ∧ h1.2.2 ≤ 31104 + 400 * (k + 1) ∧ qI h2 p' X (k + 1)
theorem q_pair {h : Hp} {p p' : PS} {X k : Nat} {v : Option Value} {n1 n2 : Nat} {as : List Value} (I : qI h p X k)
    (hx : ∃ h', Fr X h h' ∧ (rP h' X (X + 195) p' ∧ WfP p') ∧ ∀ Q : Option Value → Hp → Prop, WPm n1 (.ref X :: as) h Q = Q v h')
    (hy : ∀ g, rM g (X + 180) p → ∃ g', Same g g' (X + 180) 15 ∧ rM g' (X + 180) p' ∧ ∀ Q : Option Value → Hp → Prop, WPm n2 (.ref (X + 180) :: as) g Q = Q v g') : ∃ h1 h2 p', qPair h X k n1 n2 as v h1 h2 p' := by
  obtain ⟨I1, I2, I3, I4, I5⟩ := I
  obtain ⟨h1, f1, ⟨r1, w1⟩, q1⟩ := hx
  have I6 : X + 195 ≤ h.2.1 := I1.1.2.2.2.2
  have m1 : rM h1 (X + 180) p := I2.keep (fun d hd => f1.2 _ (by omega))
  obtain ⟨h2, f2, r2, q2⟩ := hy h1 m1
  obtain ⟨⟨e1, e2, e3⟩, -⟩ := f1
  have b1 : h1.2.1 ≤ X + 195 + 6 * (k + 1) := Nat.le_trans e2 (by rw [Nat.mul_add]; omega)
  have b2 : h1.2.2 ≤ 31104 + 400 * (k + 1) := Nat.le_trans e3 (by rw [Nat.mul_add]; omega)
  have b3 : h2.2.1 ≤ X + 195 + 6 * (k + 1) := by rw [f2.1]; exact b1
  have b4 : h2.2.2 ≤ 31104 + 400 * (k + 1) := by rw [f2.1]; exact b2
  have w3 : WPm n1 (.ref X :: as) h (fun r g => r = v ∧ g = h1) := by rw [q1]; exact ⟨rfl, rfl⟩
  have w4 : WPm n2 (.ref (X + 180) :: as) h1 (fun r g => r = v ∧ g = h2) := by rw [q2]; exact ⟨rfl, rfl⟩
  exact ⟨h1, h2, p', w3, w4, ⟨_, I1.1.1.1⟩, m1.cell, b1, b2, r1.offM w1 f2 (Nat.le_refl _), r2, w1, b3, b4⟩
/-- one that only reads, for the first side -/
theorem q_rd {h : Hp} {p : PS} {X B : Nat} {v : Option Value} {n1 : Nat} {as : List Value} (hr : rP h X B p) (hw : WfP p) (h1 : ∀ Q : Option Value → Hp → Prop, WPm n1 (.ref X :: as) h Q = Q v h) : ∃ h', Fr X h h' ∧ (rP h' X B p ∧ WfP p) ∧ ∀ Q : Option Value → Hp → Prop, WPm n1 (.ref X :: as) h Q = Q v h' := ⟨h, Fr.rf, ⟨hr, hw⟩, h1⟩
/-- and for the second -/
theorem q_rm {h : Hp} {p : PS} {M : Nat} {v : Option Value} {n2 : Nat} {as : List Value} (hr : rM h M p) (h1 : ∀ Q : Option Value → Hp → Prop, WPm n2 (.ref M :: as) h Q = Q v h) : ∃ g', Same h g' M 15 ∧ rM g' M p ∧ ∀ Q : Option Value → Hp → Prop, WPm n2 (.ref M :: as) h Q = Q v g' := ⟨h, ⟨rfl, fun _ _ => rfl⟩, hr, h1⟩
section QM
variable {h : Hp} {p : PS} {M : Nat}
theorem y_styles (hr : rM h M p) (Q : Option Value → Hp → Prop) : WPm 128 [.ref M] h Q = Q (some (.int (nI p.1.1.1))) h := by
  obtain ⟨h0, v, pa, fl, tx, it, sg, lat, hat, nw, os, hgh, pl, asd, lks, ct, wr, im, sm, sy, rfl, hv, hp, ht⟩ := hr
  exact q_styles hv Q
theorem y_lines (hr : rM h M p) (Q : Option Value → Hp → Prop) : WPm 155 [.ref M] h Q = Q (some (.int (nI p.1.2.1.length))) h := by
  obtain ⟨h0, v, pa, fl, tx, it, sg, lat, hat, nw, os, hgh, pl, asd, lks, ct, wr, im, sm, sy, rfl, hv, hp, ht⟩ := hr
  exact q_lines hv Q
theorem y_styleAt (hr : rM h M p) (hw : WfP p) (a b : Int32) (Q : Option Value → Hp → Prop) : WPm 125 [.ref M, .int a, .int b] h Q = Q (some (.int (qStyleAt p a b))) h := by
  obtain ⟨h0, v, pa, fl, tx, it, sg, lat, hat, nw, os, hgh, pl, asd, lks, ct, wr, im, sm, sy, rfl, hv, hp, ht⟩ := hr
  exact q_styleAt hv hw.1 a b Q
theorem y_valueOf (hr : rM h M p) (hw : WfP p) (a b : Int32) (Q : Option Value → Hp → Prop) : WPm 126 [.ref M, .int a, .int b] h Q = Q (some (.int (qValueOf p a b))) h := by
  obtain ⟨h0, v, pa, fl, tx, it, sg, lat, hat, nw, os, hgh, pl, asd, lks, ct, wr, im, sm, sy, rfl, hv, hp, ht⟩ := hr
  exact q_valueOf hv hw.1 a b Q
theorem y_from (hr : rM h M p) (hw : WfP p) (a b : Int32) (Q : Option Value → Hp → Prop) : WPm 127 [.ref M, .int a, .int b] h Q = Q (some (.int (qFrom p a b))) h := by
  obtain ⟨h0, v, pa, fl, tx, it, sg, lat, hat, nw, os, hgh, pl, asd, lks, ct, wr, im, sm, sy, rfl, hv, hp, ht⟩ := hr
  exact q_from hv hw.1 a b Q
theorem y_crowd (hr : rM h M p) (hw : WfP p) (Q : Option Value → Hp → Prop) : WPm 166 [.ref M] h Q = Q (some (.int (qCrowd p))) h := by
  obtain ⟨h0, v, pa, fl, tx, it, sg, lat, hat, nw, os, hgh, pl, asd, lks, ct, wr, im, sm, sy, rfl, hv, hp, ht⟩ := hr
  exact q_crowd hv hw.1 Q
end QM
section QN
variable {h : Hp} {p : PS} {X k : Nat}
theorem pr_style (I : qI h p X k) (u : Int32) : ∃ h1 h2 p', qPair h X k 71 116 [.int u] (some (.int (opStyle p u).2)) h1 h2 p' := q_pair I (x_style I.1 I.2.2.1 u) (fun g hg => y_style hg I.2.2.1 u)
theorem pr_setParent (I : qI h p X k) (u v : Int32) : ∃ h1 h2 p', qPair h X k 72 117 [.int u, .int v] (some (.int (opSetParent p u v).2)) h1 h2 p' := q_pair I (x_setParent I.1 I.2.2.1 u v) (fun g hg => y_setParent hg I.2.2.1 u v)
theorem pr_setStyle (I : qI h p X k) (u v w : Int32) : ∃ h1 h2 p', qPair h X k 73 118 [.int u, .int v, .int w] (some (.int (opSetStyle p u v w).2)) h1 h2 p' := q_pair I (x_setStyle I.1 I.2.2.1 u v w) (fun g hg => y_setStyle hg I.2.2.1 u v w)
theorem pr_unstyle (I : qI h p X k) : ∃ h1 h2 p', qPair h X k 74 119 [] (some (.int (opUnstyle p).2)) h1 h2 p' := q_pair I (x_unstyle I.1 I.2.2.1) (fun g hg => y_unstyle hg I.2.2.1)
theorem pr_flatten (I : qI h p X k) : ∃ h1 h2 p', qPair h X k 75 123 [] (some (.int (opFlatten p).2)) h1 h2 p' := q_pair I (x_flatten I.1 I.2.2.1) (fun g hg => y_flatten hg I.2.2.1)
theorem pr_styleAt (I : qI h p X k) (u v : Int32) : ∃ h1 h2 p', qPair h X k 76 125 [.int u, .int v] (some (.int (qStyleAt p u v))) h1 h2 p' := q_pair I (q_rd I.1 I.2.2.1 (x_styleAt I.1 I.2.2.1 u v)) (fun g hg => q_rm hg (y_styleAt hg I.2.2.1 u v))
theorem pr_valueOf (I : qI h p X k) (u v : Int32) : ∃ h1 h2 p', qPair h X k 77 126 [.int u, .int v] (some (.int (qValueOf p u v))) h1 h2 p' := q_pair I (q_rd I.1 I.2.2.1 (x_valueOf I.1 I.2.2.1 u v)) (fun g hg => q_rm hg (y_valueOf hg I.2.2.1 u v))
theorem pr_from (I : qI h p X k) (u v : Int32) : ∃ h1 h2 p', qPair h X k 78 127 [.int u, .int v] (some (.int (qFrom p u v))) h1 h2 p' := q_pair I (q_rd I.1 I.2.2.1 (x_from I.1 I.2.2.1 u v)) (fun g hg => q_rm hg (y_from hg I.2.2.1 u v))
theorem pr_styles (I : qI h p X k) : ∃ h1 h2 p', qPair h X k 79 128 [] (some (.int (nI p.1.1.1))) h1 h2 p' := q_pair I (q_rd I.1 I.2.2.1 (x_styles I.1)) (fun g hg => q_rm hg (y_styles hg))
theorem pr_type (I : qI h p X k) (u : Int32) : ∃ h1 h2 p', qPair h X k 80 129 [.int u] (some (.int (opType p u).2)) h1 h2 p' := q_pair I (x_type I.1 I.2.2.1 u) (fun g hg => y_type hg I.2.2.1 u)
theorem pr_clear (I : qI h p X k) : ∃ h1 h2 p', qPair h X k 81 130 [] (some (.int (opClear p).2)) h1 h2 p' := q_pair I (x_clear I.1 I.2.2.1) (fun g hg => y_clear hg I.2.2.1)
theorem pr_line (I : qI h p X k) (u v w : Int32) : ∃ h1 h2 p', qPair h X k 82 138 [.int u, .int v, .int w] (some (.int (opLine p u v w).2)) h1 h2 p' := q_pair I (x_line I.1 I.2.2.1 u v w) (fun g hg => y_line hg I.2.2.1 u v w)
theorem pr_remove (I : qI h p X k) (u : Int32) : ∃ h1 h2 p', qPair h X k 83 139 [.int u] (some (.int (opRemove p u).2)) h1 h2 p' := q_pair I (x_remove I.1 I.2.2.1 u) (fun g hg => y_remove hg I.2.2.1 u)
theorem pr_change (I : qI h p X k) (u v w : Int32) : ∃ h1 h2 p', qPair h X k 84 140 [.int u, .int v, .int w] (some (.int (opChange p u v w).2)) h1 h2 p' := q_pair I (x_change I.1 I.2.2.1 u v w) (fun g hg => y_change hg I.2.2.1 u v w)
theorem pr_shift (I : qI h p X k) (u v : Int32) : ∃ h1 h2 p', qPair h X k 86 141 [.int u, .int v] (some (.int (opShift p u v).2)) h1 h2 p' := q_pair I (x_shift I.1 I.2.2.1 u v) (fun g hg => y_shift hg I.2.2.1 u v)
theorem pr_setHeight (I : qI h p X k) (u : Int32) : ∃ h1 h2 p', qPair h X k 87 142 [.int u] (some (.int (opSetHeight p u).2)) h1 h2 p' := q_pair I (x_setHeight I.1 I.2.2.1 u) (fun g hg => y_setHeight hg I.2.2.1 u)
theorem pr_about (I : qI h p X k) (u v : Int32) : ∃ h1 h2 p', qPair h X k 88 154 [.int u, .int v] (some (.int (qAbout p u v))) h1 h2 p' := q_pair I (q_rd I.1 I.2.2.1 (x_about I.1 I.2.2.1 u v)) (fun g hg => y_about hg I.2.2.1 u v)
theorem pr_lines (I : qI h p X k) : ∃ h1 h2 p', qPair h X k 89 155 [] (some (.int (nI p.1.2.1.length))) h1 h2 p' := q_pair I (q_rd I.1 I.2.2.1 (x_lines I.1)) (fun g hg => q_rm hg (y_lines hg))
theorem pr_sign (I : qI h p X k) (u v w : Int32) : ∃ h1 h2 p', qPair h X k 90 156 [.int u, .int v, .int w] (some (.int (qSign p u v w))) h1 h2 p' := q_pair I (q_rd I.1 I.2.2.1 (x_sign I.1 I.2.2.1 u v w)) (fun g hg => y_sign hg I.2.2.1 u v w)
theorem pr_syllable (I : qI h p X k) (u v w : Int32) : ∃ h1 h2 p', qPair h X k 91 159 [.int u, .int v, .int w] (some (.int (qSyllable p u v w))) h1 h2 p' := q_pair I (q_rd I.1 I.2.2.1 (x_syllable I.1 I.2.2.1 u v w)) (fun g hg => y_syllable hg I.2.2.1 u v w)
theorem pr_fit (I : qI h p X k) (u : Int32) : ∃ h1 h2 p', qPair h X k 92 160 [.int u] (some (.int (opFit p u).2)) h1 h2 p' := q_pair I (x_fit I.1 I.2.2.1 u) (fun g hg => y_fit hg I.2.2.1 u)
theorem pr_shows (I : qI h p X k) (u v w : Int32) : ∃ h1 h2 p', qPair h X k 93 162 [.int u, .int v, .int w] (some (.int (qShows p u v w))) h1 h2 p' := q_pair I (q_rd I.1 I.2.2.1 (x_shows I.1 I.2.2.1 u v w)) (fun g hg => y_shows hg I.2.2.1 u v w)
theorem pr_shown (I : qI h p X k) (u v : Int32) : ∃ h1 h2 p', qPair h X k 94 164 [.int u, .int v] (some (.int (qShown p u v))) h1 h2 p' := q_pair I (q_rd I.1 I.2.2.1 (x_shown I.1 I.2.2.1 u v)) (fun g hg => y_shown hg I.2.2.1 u v)
theorem pr_crowd (I : qI h p X k) : ∃ h1 h2 p', qPair h X k 95 166 [] (some (.int (qCrowd p))) h1 h2 p' := q_pair I (q_rd I.1 I.2.2.1 (x_crowd I.1 I.2.2.1)) (fun g hg => q_rm hg (y_crowd hg I.2.2.1))
theorem pr_sung (I : qI h p X k) (u : Int32) : ∃ h1 h2 p', qPair h X k 96 167 [.int u] (some (.float (qSung p u))) h1 h2 p' := q_pair I (q_rd I.1 I.2.2.1 (x_sung I.1 I.2.2.1 u)) (fun g hg => y_sung hg I.2.2.1 u)
theorem pr_unlike (I : qI h p X k) : ∃ h1 h2 p', qPair h X k 97 169 [] (some (.int (nI 0))) h1 h2 p' := q_pair I ((by obtain ⟨h1, f, r, w⟩ := x_unlike I.1 I.2.2.1; exact ⟨h1, f, ⟨r, I.2.2.1⟩, w⟩)) (fun g hg => y_unlike hg I.2.2.1)
theorem pr_undo (I : qI h p X k) : ∃ h1 h2 p', qPair h X k 98 170 [] (some (.int (opUndo p).2)) h1 h2 p' := q_pair I (x_undo I.1 I.2.2.1) (fun g hg => y_undo hg I.2.2.1)
theorem pr_fingerprint (I : qI h p X k) : ∃ h1 h2 p', qPair h X k 99 171 [] (some (.long (qFp p))) h1 h2 p' := q_pair I ((by obtain ⟨h1, f, r, w⟩ := x_fingerprint I.1 I.2.2.1; exact ⟨h1, f, ⟨r, I.2.2.1⟩, w⟩)) (fun g hg => y_fingerprint hg I.2.2.1)
end QN
