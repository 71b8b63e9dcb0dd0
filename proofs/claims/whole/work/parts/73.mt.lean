/-! a new model -/
section MT
variable {h : Hp} {M : Nat}
theorem c_Model (hz : h.2.1 = M) (hK : HpK h) : ∃ h', Gw h h' M 15 20653 ∧ rM h' M p0 ∧ ∀ Q : Option Value → Hp → Prop, WPm 107 [.ref M] (hadd h M (.inr (10, [.null, .null, .int 0, .null, .null, .int 0, .int 0, .int 0, .null, .int 0, .null, .int 0, .null, .null, .int 0, .null, .null, .null, .null, .null, .null])) 21) Q = Q none h' := by
  obtain ⟨g0, e0⟩ : ∃ g, g = hadd h M (.inr (10, [.null, .null, .int 0, .null, .null, .int 0, .int 0, .int 0, .null, .int 0, .null, .int 0, .null, .null, .int 0, .null, .null, .null, .null, .null, .null])) 21 := ⟨_, rfl⟩
  have w0 : Gw h g0 M 1 21 := by rw [e0]; exact Gw.new hz hK
  have c0 : g0.1 M = some (.inr (10, [.null, .null, .int 0, .null, .null, .int 0, .int 0, .int 0, .null, .int 0, .null, .int 0, .null, .null, .int 0, .null, .null, .null, .null, .null, .null])) := by rw [e0]; exact hadd_at
  obtain ⟨f1, ef1⟩ : ∃ g, g = hadd g0 (M + 1) (.inl (0, 2760, .inl z0)) 2760 := ⟨_, rfl⟩
  have wf1 : Gw g0 f1 (M + 1) 1 2760 := by rw [ef1]; exact Gw.new w0.1 w0.2.1
  have d1 := wf1.cell (by omega) c0
  have a1 : f1.1 (M + 1) = some (.inl (0, 2760, .inl z0)) := by rw [ef1]; exact hadd_at
  obtain ⟨g1, e1⟩ : ∃ g, g = hset f1 M (.inr (10, [.ref (M + 1), .null, .int 0, .null, .null, .int 0, .int 0, .int 0, .null, .int 0, .null, .int 0, .null, .null, .int 0, .null, .null, .null, .null, .null, .null])) := ⟨_, rfl⟩
  have w1 : Gw h g1 M 2 2781 := by rw [e1]; exact w0.more wf1 (by omega)
  have c1 : g1.1 M = some (.inr (10, [.ref (M + 1), .null, .int 0, .null, .null, .int 0, .int 0, .int 0, .null, .int 0, .null, .int 0, .null, .null, .int 0, .null, .null, .null, .null, .null, .null])) := by rw [e1]; exact hset_same
  have u1 : Uq (M + 1) f1 g1 := by rw [e1]; exact Uq.st (by omega)
  obtain ⟨f2, ef2⟩ : ∃ g, g = hadd g1 (M + 2) (.inl (0, 13800, .inl z0)) 13800 := ⟨_, rfl⟩
  have wf2 : Gw g1 f2 (M + 2) 1 13800 := by rw [ef2]; exact Gw.new w1.1 w1.2.1
  have d2 := wf2.cell (by omega) c1
  have a2 : f2.1 (M + 2) = some (.inl (0, 13800, .inl z0)) := by rw [ef2]; exact hadd_at
  obtain ⟨g2, e2⟩ : ∃ g, g = hset f2 M (.inr (10, [.ref (M + 1), .ref (M + 2), .int 0, .null, .null, .int 0, .int 0, .int 0, .null, .int 0, .null, .int 0, .null, .null, .int 0, .null, .null, .null, .null, .null, .null])) := ⟨_, rfl⟩
  have w2 : Gw h g2 M 3 16581 := by rw [e2]; exact w1.more wf2 (by omega)
  have c2 : g2.1 M = some (.inr (10, [.ref (M + 1), .ref (M + 2), .int 0, .null, .null, .int 0, .int 0, .int 0, .null, .int 0, .null, .int 0, .null, .null, .int 0, .null, .null, .null, .null, .null, .null])) := by rw [e2]; exact hset_same
  have u2 : Uq (M + 1) f2 g2 := by rw [e2]; exact Uq.st (by omega)
  have v2 : Uq (M + 1) g1 g2 := by rw [e2]; exact w1.uq wf2 (by omega)
  obtain ⟨f3, ef3⟩ : ∃ g, g = hadd g2 (M + 3) (.inl (0, 60, .inl z0)) 60 := ⟨_, rfl⟩
  have wf3 : Gw g2 f3 (M + 3) 1 60 := by rw [ef3]; exact Gw.new w2.1 w2.2.1
  have d3 := wf3.cell (by omega) c2
  have a3 : f3.1 (M + 3) = some (.inl (0, 60, .inl z0)) := by rw [ef3]; exact hadd_at
  obtain ⟨g3, e3⟩ : ∃ g, g = hset f3 M (.inr (10, [.ref (M + 1), .ref (M + 2), .int 0, .ref (M + 3), .null, .int 0, .int 0, .int 0, .null, .int 0, .null, .int 0, .null, .null, .int 0, .null, .null, .null, .null, .null, .null])) := ⟨_, rfl⟩
  have w3 : Gw h g3 M 4 16641 := by rw [e3]; exact w2.more wf3 (by omega)
  have c3 : g3.1 M = some (.inr (10, [.ref (M + 1), .ref (M + 2), .int 0, .ref (M + 3), .null, .int 0, .int 0, .int 0, .null, .int 0, .null, .int 0, .null, .null, .int 0, .null, .null, .null, .null, .null, .null])) := by rw [e3]; exact hset_same
  have u3 : Uq (M + 1) f3 g3 := by rw [e3]; exact Uq.st (by omega)
  have v3 : Uq (M + 1) g2 g3 := by rw [e3]; exact w2.uq wf3 (by omega)
  obtain ⟨f4, ef4⟩ : ∃ g, g = hadd g3 (M + 4) (.inl (0, 80, .inl z0)) 80 := ⟨_, rfl⟩
  have wf4 : Gw g3 f4 (M + 4) 1 80 := by rw [ef4]; exact Gw.new w3.1 w3.2.1
  have d4 := wf4.cell (by omega) c3
  have a4 : f4.1 (M + 4) = some (.inl (0, 80, .inl z0)) := by rw [ef4]; exact hadd_at
  obtain ⟨g4, e4⟩ : ∃ g, g = hset f4 M (.inr (10, [.ref (M + 1), .ref (M + 2), .int 0, .ref (M + 3), .ref (M + 4), .int 0, .int 0, .int 0, .null, .int 0, .null, .int 0, .null, .null, .int 0, .null, .null, .null, .null, .null, .null])) := ⟨_, rfl⟩
  have w4 : Gw h g4 M 5 16721 := by rw [e4]; exact w3.more wf4 (by omega)
  have c4 : g4.1 M = some (.inr (10, [.ref (M + 1), .ref (M + 2), .int 0, .ref (M + 3), .ref (M + 4), .int 0, .int 0, .int 0, .null, .int 0, .null, .int 0, .null, .null, .int 0, .null, .null, .null, .null, .null, .null])) := by rw [e4]; exact hset_same
  have u4 : Uq (M + 1) f4 g4 := by rw [e4]; exact Uq.st (by omega)
  have v4 : Uq (M + 1) g3 g4 := by rw [e4]; exact w3.uq wf4 (by omega)
  obtain ⟨f5, ef5⟩ : ∃ g, g = hadd g4 (M + 5) (.inl (0, 160, .inl z0)) 160 := ⟨_, rfl⟩
  have wf5 : Gw g4 f5 (M + 5) 1 160 := by rw [ef5]; exact Gw.new w4.1 w4.2.1
  have d5 := wf5.cell (by omega) c4
  have a5 : f5.1 (M + 5) = some (.inl (0, 160, .inl z0)) := by rw [ef5]; exact hadd_at
  obtain ⟨g5, e5⟩ : ∃ g, g = hset f5 M (.inr (10, [.ref (M + 1), .ref (M + 2), .int 0, .ref (M + 3), .ref (M + 4), .int 0, .int 0, .int 0, .ref (M + 5), .int 0, .null, .int 0, .null, .null, .int 0, .null, .null, .null, .null, .null, .null])) := ⟨_, rfl⟩
  have w5 : Gw h g5 M 6 16881 := by rw [e5]; exact w4.more wf5 (by omega)
  have c5 : g5.1 M = some (.inr (10, [.ref (M + 1), .ref (M + 2), .int 0, .ref (M + 3), .ref (M + 4), .int 0, .int 0, .int 0, .ref (M + 5), .int 0, .null, .int 0, .null, .null, .int 0, .null, .null, .null, .null, .null, .null])) := by rw [e5]; exact hset_same
  have u5 : Uq (M + 1) f5 g5 := by rw [e5]; exact Uq.st (by omega)
  have v5 : Uq (M + 1) g4 g5 := by rw [e5]; exact w4.uq wf5 (by omega)
  obtain ⟨f6, ef6⟩ : ∃ g, g = hadd g5 (M + 6) (.inl (0, 480, .inl z0)) 480 := ⟨_, rfl⟩
  have wf6 : Gw g5 f6 (M + 6) 1 480 := by rw [ef6]; exact Gw.new w5.1 w5.2.1
  have d6 := wf6.cell (by omega) c5
  have a6 : f6.1 (M + 6) = some (.inl (0, 480, .inl z0)) := by rw [ef6]; exact hadd_at
  obtain ⟨g6, e6⟩ : ∃ g, g = hset f6 M (.inr (10, [.ref (M + 1), .ref (M + 2), .int 0, .ref (M + 3), .ref (M + 4), .int 0, .int 0, .int 0, .ref (M + 5), .int 0, .ref (M + 6), .int 0, .null, .null, .int 0, .null, .null, .null, .null, .null, .null])) := ⟨_, rfl⟩
  have w6 : Gw h g6 M 7 17361 := by rw [e6]; exact w5.more wf6 (by omega)
  have c6 : g6.1 M = some (.inr (10, [.ref (M + 1), .ref (M + 2), .int 0, .ref (M + 3), .ref (M + 4), .int 0, .int 0, .int 0, .ref (M + 5), .int 0, .ref (M + 6), .int 0, .null, .null, .int 0, .null, .null, .null, .null, .null, .null])) := by rw [e6]; exact hset_same
  have u6 : Uq (M + 1) f6 g6 := by rw [e6]; exact Uq.st (by omega)
  have v6 : Uq (M + 1) g5 g6 := by rw [e6]; exact w5.uq wf6 (by omega)
  obtain ⟨f7, ef7⟩ : ∃ g, g = hadd g6 (M + 7) (.inl (0, 80, .inl z0)) 80 := ⟨_, rfl⟩
  have wf7 : Gw g6 f7 (M + 7) 1 80 := by rw [ef7]; exact Gw.new w6.1 w6.2.1
  have d7 := wf7.cell (by omega) c6
  have a7 : f7.1 (M + 7) = some (.inl (0, 80, .inl z0)) := by rw [ef7]; exact hadd_at
  obtain ⟨g7, e7⟩ : ∃ g, g = hset f7 M (.inr (10, [.ref (M + 1), .ref (M + 2), .int 0, .ref (M + 3), .ref (M + 4), .int 0, .int 0, .int 0, .ref (M + 5), .int 0, .ref (M + 6), .int 0, .ref (M + 7), .null, .int 0, .null, .null, .null, .null, .null, .null])) := ⟨_, rfl⟩
  have w7 : Gw h g7 M 8 17441 := by rw [e7]; exact w6.more wf7 (by omega)
  have c7 : g7.1 M = some (.inr (10, [.ref (M + 1), .ref (M + 2), .int 0, .ref (M + 3), .ref (M + 4), .int 0, .int 0, .int 0, .ref (M + 5), .int 0, .ref (M + 6), .int 0, .ref (M + 7), .null, .int 0, .null, .null, .null, .null, .null, .null])) := by rw [e7]; exact hset_same
  have u7 : Uq (M + 1) f7 g7 := by rw [e7]; exact Uq.st (by omega)
  have v7 : Uq (M + 1) g6 g7 := by rw [e7]; exact w6.uq wf7 (by omega)
  obtain ⟨f8, ef8⟩ : ∃ g, g = hadd g7 (M + 8) (.inl (0, 80, .inl z0)) 80 := ⟨_, rfl⟩
  have wf8 : Gw g7 f8 (M + 8) 1 80 := by rw [ef8]; exact Gw.new w7.1 w7.2.1
  have d8 := wf8.cell (by omega) c7
  have a8 : f8.1 (M + 8) = some (.inl (0, 80, .inl z0)) := by rw [ef8]; exact hadd_at
  obtain ⟨g8, e8⟩ : ∃ g, g = hset f8 M (.inr (10, [.ref (M + 1), .ref (M + 2), .int 0, .ref (M + 3), .ref (M + 4), .int 0, .int 0, .int 0, .ref (M + 5), .int 0, .ref (M + 6), .int 0, .ref (M + 7), .ref (M + 8), .int 0, .null, .null, .null, .null, .null, .null])) := ⟨_, rfl⟩
  have w8 : Gw h g8 M 9 17521 := by rw [e8]; exact w7.more wf8 (by omega)
  have c8 : g8.1 M = some (.inr (10, [.ref (M + 1), .ref (M + 2), .int 0, .ref (M + 3), .ref (M + 4), .int 0, .int 0, .int 0, .ref (M + 5), .int 0, .ref (M + 6), .int 0, .ref (M + 7), .ref (M + 8), .int 0, .null, .null, .null, .null, .null, .null])) := by rw [e8]; exact hset_same
  have u8 : Uq (M + 1) f8 g8 := by rw [e8]; exact Uq.st (by omega)
  have v8 : Uq (M + 1) g7 g8 := by rw [e8]; exact w7.uq wf8 (by omega)
  obtain ⟨f9, ef9⟩ : ∃ g, g = hadd g8 (M + 9) (.inl (0, 4, .inl z0)) 4 := ⟨_, rfl⟩
  have wf9 : Gw g8 f9 (M + 9) 1 4 := by rw [ef9]; exact Gw.new w8.1 w8.2.1
  have d9 := wf9.cell (by omega) c8
  have a9 : f9.1 (M + 9) = some (.inl (0, 4, .inl z0)) := by rw [ef9]; exact hadd_at
  obtain ⟨g9, e9⟩ : ∃ g, g = hset f9 M (.inr (10, [.ref (M + 1), .ref (M + 2), .int 0, .ref (M + 3), .ref (M + 4), .int 0, .int 0, .int 0, .ref (M + 5), .int 0, .ref (M + 6), .int 0, .ref (M + 7), .ref (M + 8), .int 0, .ref (M + 9), .null, .null, .null, .null, .null])) := ⟨_, rfl⟩
  have w9 : Gw h g9 M 10 17525 := by rw [e9]; exact w8.more wf9 (by omega)
  have c9 : g9.1 M = some (.inr (10, [.ref (M + 1), .ref (M + 2), .int 0, .ref (M + 3), .ref (M + 4), .int 0, .int 0, .int 0, .ref (M + 5), .int 0, .ref (M + 6), .int 0, .ref (M + 7), .ref (M + 8), .int 0, .ref (M + 9), .null, .null, .null, .null, .null])) := by rw [e9]; exact hset_same
  have u9 : Uq (M + 1) f9 g9 := by rw [e9]; exact Uq.st (by omega)
  have v9 : Uq (M + 1) g8 g9 := by rw [e9]; exact w8.uq wf9 (by omega)
  obtain ⟨f10, ef10⟩ : ∃ g, g = hadd g9 (M + 10) (.inl (0, 16, .inl z0)) 16 := ⟨_, rfl⟩
  have wf10 : Gw g9 f10 (M + 10) 1 16 := by rw [ef10]; exact Gw.new w9.1 w9.2.1
  have d10 := wf10.cell (by omega) c9
  have a10 : f10.1 (M + 10) = some (.inl (0, 16, .inl z0)) := by rw [ef10]; exact hadd_at
  obtain ⟨g10, e10⟩ : ∃ g, g = hset f10 M (.inr (10, [.ref (M + 1), .ref (M + 2), .int 0, .ref (M + 3), .ref (M + 4), .int 0, .int 0, .int 0, .ref (M + 5), .int 0, .ref (M + 6), .int 0, .ref (M + 7), .ref (M + 8), .int 0, .ref (M + 9), .ref (M + 10), .null, .null, .null, .null])) := ⟨_, rfl⟩
  have w10 : Gw h g10 M 11 17541 := by rw [e10]; exact w9.more wf10 (by omega)
  have c10 : g10.1 M = some (.inr (10, [.ref (M + 1), .ref (M + 2), .int 0, .ref (M + 3), .ref (M + 4), .int 0, .int 0, .int 0, .ref (M + 5), .int 0, .ref (M + 6), .int 0, .ref (M + 7), .ref (M + 8), .int 0, .ref (M + 9), .ref (M + 10), .null, .null, .null, .null])) := by rw [e10]; exact hset_same
  have u10 : Uq (M + 1) f10 g10 := by rw [e10]; exact Uq.st (by omega)
  have v10 : Uq (M + 1) g9 g10 := by rw [e10]; exact w9.uq wf10 (by omega)
  obtain ⟨f11, ef11⟩ : ∃ g, g = hadd g10 (M + 11) (.inl (0, 16, .inl z0)) 16 := ⟨_, rfl⟩
  have wf11 : Gw g10 f11 (M + 11) 1 16 := by rw [ef11]; exact Gw.new w10.1 w10.2.1
  have d11 := wf11.cell (by omega) c10
  have a11 : f11.1 (M + 11) = some (.inl (0, 16, .inl z0)) := by rw [ef11]; exact hadd_at
  obtain ⟨g11, e11⟩ : ∃ g, g = hset f11 M (.inr (10, [.ref (M + 1), .ref (M + 2), .int 0, .ref (M + 3), .ref (M + 4), .int 0, .int 0, .int 0, .ref (M + 5), .int 0, .ref (M + 6), .int 0, .ref (M + 7), .ref (M + 8), .int 0, .ref (M + 9), .ref (M + 10), .ref (M + 11), .null, .null, .null])) := ⟨_, rfl⟩
  have w11 : Gw h g11 M 12 17557 := by rw [e11]; exact w10.more wf11 (by omega)
  have c11 : g11.1 M = some (.inr (10, [.ref (M + 1), .ref (M + 2), .int 0, .ref (M + 3), .ref (M + 4), .int 0, .int 0, .int 0, .ref (M + 5), .int 0, .ref (M + 6), .int 0, .ref (M + 7), .ref (M + 8), .int 0, .ref (M + 9), .ref (M + 10), .ref (M + 11), .null, .null, .null])) := by rw [e11]; exact hset_same
  have u11 : Uq (M + 1) f11 g11 := by rw [e11]; exact Uq.st (by omega)
  have v11 : Uq (M + 1) g10 g11 := by rw [e11]; exact w10.uq wf11 (by omega)
  obtain ⟨f12, ef12⟩ : ∃ g, g = hadd g11 (M + 12) (.inl (1, 16, .inl z0)) 16 := ⟨_, rfl⟩
  have wf12 : Gw g11 f12 (M + 12) 1 16 := by rw [ef12]; exact Gw.new w11.1 w11.2.1
  have d12 := wf12.cell (by omega) c11
  have a12 : f12.1 (M + 12) = some (.inl (1, 16, .inl z0)) := by rw [ef12]; exact hadd_at
  obtain ⟨g12, e12⟩ : ∃ g, g = hset f12 M (.inr (10, [.ref (M + 1), .ref (M + 2), .int 0, .ref (M + 3), .ref (M + 4), .int 0, .int 0, .int 0, .ref (M + 5), .int 0, .ref (M + 6), .int 0, .ref (M + 7), .ref (M + 8), .int 0, .ref (M + 9), .ref (M + 10), .ref (M + 11), .ref (M + 12), .null, .null])) := ⟨_, rfl⟩
  have w12 : Gw h g12 M 13 17573 := by rw [e12]; exact w11.more wf12 (by omega)
  have c12 : g12.1 M = some (.inr (10, [.ref (M + 1), .ref (M + 2), .int 0, .ref (M + 3), .ref (M + 4), .int 0, .int 0, .int 0, .ref (M + 5), .int 0, .ref (M + 6), .int 0, .ref (M + 7), .ref (M + 8), .int 0, .ref (M + 9), .ref (M + 10), .ref (M + 11), .ref (M + 12), .null, .null])) := by rw [e12]; exact hset_same
  have u12 : Uq (M + 1) f12 g12 := by rw [e12]; exact Uq.st (by omega)
  have v12 : Uq (M + 1) g11 g12 := by rw [e12]; exact w11.uq wf12 (by omega)
  obtain ⟨f13, ef13⟩ : ∃ g, g = hadd g12 (M + 13) (.inl (0, 2760, .inl z0)) 2760 := ⟨_, rfl⟩
  have wf13 : Gw g12 f13 (M + 13) 1 2760 := by rw [ef13]; exact Gw.new w12.1 w12.2.1
  have d13 := wf13.cell (by omega) c12
  have a13 : f13.1 (M + 13) = some (.inl (0, 2760, .inl z0)) := by rw [ef13]; exact hadd_at
  obtain ⟨g13, e13⟩ : ∃ g, g = hset f13 M (.inr (10, [.ref (M + 1), .ref (M + 2), .int 0, .ref (M + 3), .ref (M + 4), .int 0, .int 0, .int 0, .ref (M + 5), .int 0, .ref (M + 6), .int 0, .ref (M + 7), .ref (M + 8), .int 0, .ref (M + 9), .ref (M + 10), .ref (M + 11), .ref (M + 12), .ref (M + 13), .null])) := ⟨_, rfl⟩
  have w13 : Gw h g13 M 14 20333 := by rw [e13]; exact w12.more wf13 (by omega)
  have c13 : g13.1 M = some (.inr (10, [.ref (M + 1), .ref (M + 2), .int 0, .ref (M + 3), .ref (M + 4), .int 0, .int 0, .int 0, .ref (M + 5), .int 0, .ref (M + 6), .int 0, .ref (M + 7), .ref (M + 8), .int 0, .ref (M + 9), .ref (M + 10), .ref (M + 11), .ref (M + 12), .ref (M + 13), .null])) := by rw [e13]; exact hset_same
  have u13 : Uq (M + 1) f13 g13 := by rw [e13]; exact Uq.st (by omega)
  have v13 : Uq (M + 1) g12 g13 := by rw [e13]; exact w12.uq wf13 (by omega)
  obtain ⟨f14, ef14⟩ : ∃ g, g = hadd g13 (M + 14) (.inl (0, 320, .inl z0)) 320 := ⟨_, rfl⟩
  have wf14 : Gw g13 f14 (M + 14) 1 320 := by rw [ef14]; exact Gw.new w13.1 w13.2.1
  have d14 := wf14.cell (by omega) c13
  have a14 : f14.1 (M + 14) = some (.inl (0, 320, .inl z0)) := by rw [ef14]; exact hadd_at
  obtain ⟨g14, e14⟩ : ∃ g, g = hset f14 M (.inr (10, [.ref (M + 1), .ref (M + 2), .int 0, .ref (M + 3), .ref (M + 4), .int 0, .int 0, .int 0, .ref (M + 5), .int 0, .ref (M + 6), .int 0, .ref (M + 7), .ref (M + 8), .int 0, .ref (M + 9), .ref (M + 10), .ref (M + 11), .ref (M + 12), .ref (M + 13), .ref (M + 14)])) := ⟨_, rfl⟩
  have w14 : Gw h g14 M 15 20653 := by rw [e14]; exact w13.more wf14 (by omega)
  have c14 : g14.1 M = some (.inr (10, [.ref (M + 1), .ref (M + 2), .int 0, .ref (M + 3), .ref (M + 4), .int 0, .int 0, .int 0, .ref (M + 5), .int 0, .ref (M + 6), .int 0, .ref (M + 7), .ref (M + 8), .int 0, .ref (M + 9), .ref (M + 10), .ref (M + 11), .ref (M + 12), .ref (M + 13), .ref (M + 14)])) := by rw [e14]; exact hset_same
  have u14 : Uq (M + 1) f14 g14 := by rw [e14]; exact Uq.st (by omega)
  have v14 : Uq (M + 1) g13 g14 := by rw [e14]; exact w13.uq wf14 (by omega)
  have t14 : Uq (M + 1) g14 g14 := Uq.rf
  have t13 : Uq (M + 1) g13 g14 := v14.tr t14
  have t12 : Uq (M + 1) g12 g14 := v13.tr t13
  have t11 : Uq (M + 1) g11 g14 := v12.tr t12
  have t10 : Uq (M + 1) g10 g14 := v11.tr t11
  have t9 : Uq (M + 1) g9 g14 := v10.tr t10
  have t8 : Uq (M + 1) g8 g14 := v9.tr t9
  have t7 : Uq (M + 1) g7 g14 := v8.tr t8
  have t6 : Uq (M + 1) g6 g14 := v7.tr t7
  have t5 : Uq (M + 1) g5 g14 := v6.tr t6
  have t4 : Uq (M + 1) g4 g14 := v5.tr t5
  have t3 : Uq (M + 1) g3 g14 := v4.tr t4
  have t2 : Uq (M + 1) g2 g14 := v3.tr t3
  have t1 : Uq (M + 1) g1 g14 := v2.tr t2
  have b1 : g14.1 (M + 1) = some (.inl (0, 2760, .inl z0)) := t1 _ _ (by omega) (u1 _ _ (by omega) a1)
  have b2 : g14.1 (M + 2) = some (.inl (0, 13800, .inl z0)) := t2 _ _ (by omega) (u2 _ _ (by omega) a2)
  have b3 : g14.1 (M + 3) = some (.inl (0, 60, .inl z0)) := t3 _ _ (by omega) (u3 _ _ (by omega) a3)
  have b4 : g14.1 (M + 4) = some (.inl (0, 80, .inl z0)) := t4 _ _ (by omega) (u4 _ _ (by omega) a4)
  have b5 : g14.1 (M + 5) = some (.inl (0, 160, .inl z0)) := t5 _ _ (by omega) (u5 _ _ (by omega) a5)
  have b6 : g14.1 (M + 6) = some (.inl (0, 480, .inl z0)) := t6 _ _ (by omega) (u6 _ _ (by omega) a6)
  have b7 : g14.1 (M + 7) = some (.inl (0, 80, .inl z0)) := t7 _ _ (by omega) (u7 _ _ (by omega) a7)
  have b8 : g14.1 (M + 8) = some (.inl (0, 80, .inl z0)) := t8 _ _ (by omega) (u8 _ _ (by omega) a8)
  have b9 : g14.1 (M + 9) = some (.inl (0, 4, .inl z0)) := t9 _ _ (by omega) (u9 _ _ (by omega) a9)
  have b10 : g14.1 (M + 10) = some (.inl (0, 16, .inl z0)) := t10 _ _ (by omega) (u10 _ _ (by omega) a10)
  have b11 : g14.1 (M + 11) = some (.inl (0, 16, .inl z0)) := t11 _ _ (by omega) (u11 _ _ (by omega) a11)
  have b12 : g14.1 (M + 12) = some (.inl (1, 16, .inl z0)) := t12 _ _ (by omega) (u12 _ _ (by omega) a12)
  have b13 : g14.1 (M + 13) = some (.inl (0, 2760, .inl z0)) := t13 _ _ (by omega) (u13 _ _ (by omega) a13)
  have b14 : g14.1 (M + 14) = some (.inl (0, 320, .inl z0)) := t14 _ _ (by omega) (u14 _ _ (by omega) a14)
  obtain ⟨gE, eE⟩ : ∃ g, g = hset g14 (M + 1) (.inl (0, 2760, .inl (upd z0 2 (nI 300)))) := ⟨_, rfl⟩
  have wE : Gw h gE M 15 20653 := by
    rw [eE]
    exact ⟨w14.1, w14.2.1.set (by rw [w14.1]; omega), fun q hq => by rw [hset_ne (by omega)]; exact w14.2.2.1 q hq, w14.2.2.2⟩
  have id_ : gE = mkM gE M (upd z0 2 (nI 300)) z0 (nI 0) z0 z0 (nI 0) (nI 0) (nI 0) z0 (nI 0) z0 (nI 0) z0 z0 (nI 0) z0 z0 z0 z0 z0 z0 := by
    refine mkM_id (fun d hd => ?_)
    rw [eE]
    match d, hd with
    | 0, _ => rw [hset_ne (by omega)]; exact c14
    | 1, _ => exact hset_same
    | 2, _ => rw [hset_ne (by omega)]; exact b2
    | 3, _ => rw [hset_ne (by omega)]; exact b3
    | 4, _ => rw [hset_ne (by omega)]; exact b4
    | 5, _ => rw [hset_ne (by omega)]; exact b5
    | 6, _ => rw [hset_ne (by omega)]; exact b6
    | 7, _ => rw [hset_ne (by omega)]; exact b7
    | 8, _ => rw [hset_ne (by omega)]; exact b8
    | 9, _ => rw [hset_ne (by omega)]; exact b9
    | 10, _ => rw [hset_ne (by omega)]; exact b10
    | 11, _ => rw [hset_ne (by omega)]; exact b11
    | 12, _ => rw [hset_ne (by omega)]; exact b12
    | 13, _ => rw [hset_ne (by omega)]; exact b13
    | 14, _ => rw [hset_ne (by omega)]; exact b14
    | k + 15, h => exact absurd h (by omega)
  have hv : encV (upd z0 2 (nI 300)) p0.1 := ⟨⟨by rfl, fun s hs => absurd hs (Nat.not_lt_zero _)⟩, by rfl, by rfl, fun i x hx => by cases hx⟩
  refine ⟨gE, wE, ?_, fun Q => ?_⟩
  · rw [id_]
    exact rM.mk (p := p0) hv (fun k st hx => by cases hx) (fun i c hc => by cases hc)
  · rw [eX10_init, ← e0]
    simp (disch := (first | omega | assumption | (simp (disch := omega) only [Int32.lt_iff_toInt_lt, Int32.le_iff_toInt_le, ← Int32.toInt_inj, nI_toInt, zi_m1, zi_m2, zi_m3, zi_m9]; omega) | decide)) only [sX10_init_0, sX10_init_1, sX10_init_4, sX10_init_5, sX10_init_8, sX10_init_10, sX10_init_13, sX10_init_14, sX10_init_17, sX10_init_19, sX10_init_22, sX10_init_23, sX10_init_25, sX10_init_27, sX10_init_30, sX10_init_31, sX10_init_33, sX10_init_35, sX10_init_38, sX10_init_39, sX10_init_42, sX10_init_44, sX10_init_47, sX10_init_48, sX10_init_51, sX10_init_53, sX10_init_56, sX10_init_57, sX10_init_59, sX10_init_61, sX10_init_64, sX10_init_65, sX10_init_67, sX10_init_69, sX10_init_72, sX10_init_73, sX10_init_74, sX10_init_76, sX10_init_79, sX10_init_80, sX10_init_82, sX10_init_84, sX10_init_87, sX10_init_88, sX10_init_90, sX10_init_92, sX10_init_95, sX10_init_96, sX10_init_98, sX10_init_100, sX10_init_103, sX10_init_104, sX10_init_107, sX10_init_109, sX10_init_112, sX10_init_113, sX10_init_116, sX10_init_118, sX10_init_121, sX10_init_122, sX10_init_125, sX10_init_126, sX10_init_129, sX10_init_130, gG10_0, gG10_1, gG10_2, gG10_3, gG10_4, gG10_5, gG10_6, gG10_7, gG10_8, gG10_9, gG10_10, gG10_11, gG10_12, gG10_13, gG10_14, gG10_15, gG10_16, gG10_17, gG10_18, gG10_19, gG10_20, gP10_0, gP10_1, gP10_2, gP10_3, gP10_4, gP10_5, gP10_6, gP10_7, gP10_8, gP10_9, gP10_10, gP10_11, gP10_12, gP10_13, gP10_14, gP10_15, gP10_16, gP10_17, gP10_18, gP10_19, gP10_20, zpush_v, zpush_n, gCk, gAi, gSi, gSz, gLi, gLq, ↓if_pos, ↓if_neg, hnew_hadd, nI_nn, nI_cl, true_and, if_true, w0.1, ← ef1, d1, ← e1, w1.1, ← ef2, d2, ← e2, w2.1, ← ef3, d3, ← e3, w3.1, ← ef4, d4, ← e4, w4.1, ← ef5, d5, ← e5, w5.1, ← ef6, d6, ← e6, w6.1, ← ef7, d7, ← e7, w7.1, ← ef8, d8, ← e8, w8.1, ← ef9, d9, ← e9, w9.1, ← ef10, d10, ← e10, w10.1, ← ef11, d11, ← e11, w11.1, ← ef12, d12, ← e12, w12.1, ← ef13, d13, ← e13, w13.1, ← ef14, d14, ← e14, c0, c14, b1, ← eE]
end MT
