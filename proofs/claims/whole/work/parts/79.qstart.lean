/-! the law: its start -/
theorem q_inst : ∀ ci, ci < 11 → (Cond.instantiable (zR ci) (zN ci)) ∈ lw_tbl
  | 0, _ => List.mem_of_getElem? (i := 162) (by decide +kernel)
  | 1, _ => List.mem_of_getElem? (i := 547) (by decide +kernel)
  | 2, _ => List.mem_of_getElem? (i := 189) (by decide +kernel)
  | 3, _ => List.mem_of_getElem? (i := 182) (by decide +kernel)
  | 4, _ => List.mem_of_getElem? (i := 80) (by decide +kernel)
  | 5, _ => List.mem_of_getElem? (i := 69) (by decide +kernel)
  | 6, _ => List.mem_of_getElem? (i := 116) (by decide +kernel)
  | 7, _ => List.mem_of_getElem? (i := 122) (by decide +kernel)
  | 8, _ => List.mem_of_getElem? (i := 525) (by decide +kernel)
  | 9, _ => List.mem_of_getElem? (i := 61) (by decide +kernel)
  | 10, _ => List.mem_of_getElem? (i := 780) (by decide +kernel)
  | n + 11, h => absurd h (by omega)
theorem q_sta {args : Array Value} {s : State} {nm : String} {f : List Int32} (hl : (Cond.laysStatic RX9 nm "[I").before args s = true) (hini : (Cond.initialized RX9).before args s = true) (har : (Cond.arrayOf (.static RX9 nm "[I") .int).before args s = true) (hle : (Cond.eq (.length (.static RX9 nm "[I")) (.int 6)).before args s = true) (hel : ∀ j : Nat, j < 6 → (Cond.eq (.elem (.static RX9 nm "[I") (.int (Int32.ofNat j))) (.int (f.getD j 0))).before args s = true) : ∃ t, zSta s.heap.size nm t f s := by
  have hA : ∀ a : Nat, a < s.heap.size → ¬ s.heap.size ≤ a := fun a h => Nat.not_le.mpr h
  obtain ⟨t, ht, hT⟩ := va_Tof (N := 6) (f := fun j => .int (f.getD j 0)) (A := fun q => s.heap.size ≤ q) (by decide) har (va_eqt hle) (fun j hj => va_eqt (hel j hj)) hA
  exact ⟨t, va_Zref hl hini ht hA, hT⟩
theorem q_arrP {args : Array Value} {s : State} {ty : FieldType} (h : (Cond.arrayClass ty).before args s = true) : ∃ cA, ArrOfT s cA ty ∧ s.vm.findClass ("[" ++ ty.toString) = some cA := by
  obtain ⟨cA, kA, comp, h1, h2, h3⟩ := Cond.arrayClass_spec h
  exact ⟨cA, fun n z => ⟨fun k h => (by cases h), kA, h2, comp, h3⟩, h1⟩
theorem q_arrO {args : Array Value} {s : State} {n : String} (h : (Cond.arrayOver (.object n)).before args s = true) : ∃ cA, ArrOfT s cA (.object n) ∧ va_RA s cA (.object n) := by
  obtain ⟨comp, cA, kA, g1, g2, g3, g4, g5⟩ := Cond.arrayOver_spec h
  exact ⟨cA, fun N z => ⟨fun k h => (by cases h), kA, g3, comp, g4⟩, kA, comp, g3, g4, g1, g5⟩
theorem q_words {p : Program} {s : State} {m : MethodId} {meth : Method} {c : Code} {b L : Nat} {xs : Nat → Int32} (C0 : lw_At p s m meth c b L xs) : ∃ D cT S, zKC D cT s.heap.size S s := by
  obtain ⟨hx, hb, hr, hml, hown, hts, hX, hbl, hlocks, hgv⟩ := C0
  have hs := flat_of_before _ hgv
  have hkn : ∀ ci : Nat, ∃ x : ClassId × (Nat → Nat), ci < 11 → u_Kn s (zR ci) (zT ci) (zN ci) x.1 x.2 := by
    intro ci
    by_cases h : ci < 11
    · obtain ⟨a, b', h1⟩ := u_known hts (zin_lays h).2.1 (hts _ (q_inst ci h))
      exact ⟨(a, b'), fun _ => h1⟩
    · exact ⟨(0, fun _ => 0), fun h' => absurd h' h⟩
  obtain ⟨ad, had⟩ := Classical.axiomOfChoice hkn
  obtain ⟨c0, a0, b0⟩ := q_arrP (hts _ zAO_in.2.2.2.1)
  obtain ⟨c1, a1, b1⟩ := q_arrP (hts _ zAO_in.2.2.2.2)
  obtain ⟨c2, a2, b2⟩ := q_arrO (hts _ zAO_in.1)
  obtain ⟨c3, a3, b3⟩ := q_arrO (hts _ zAO_in.2.1)
  obtain ⟨c4, a4, b4⟩ := q_arrO (hts _ zAO_in.2.2.1)
  have hini : (Cond.initialized RX9).before #[Value.ref b] s = true := hts _ (List.mem_of_getElem? (i := 48) (by decide +kernel))
  obtain ⟨t0, e0⟩ := q_sta (nm := "BASIC") (f := zbasic) (hts _ (List.mem_of_getElem? (i := 362) (by decide +kernel))) hini (hs _ (by decide +kernel)) (hs _ (by decide +kernel)) (fun j hj => by
    match j, hj with
    | 0, _ => exact hs _ (by decide +kernel)
    | 1, _ => exact hs _ (by decide +kernel)
    | 2, _ => exact hs _ (by decide +kernel)
    | 3, _ => exact hs _ (by decide +kernel)
    | 4, _ => exact hs _ (by decide +kernel)
    | 5, _ => exact hs _ (by decide +kernel)
    | j + 6, h => exact absurd h (by omega))
  obtain ⟨t1, e1⟩ := q_sta (nm := "LEAST") (f := zleast) (hts _ (List.mem_of_getElem? (i := 427) (by decide +kernel))) hini (hs _ (by decide +kernel)) (hs _ (by decide +kernel)) (fun j hj => by
    match j, hj with
    | 0, _ => exact hs _ (by decide +kernel)
    | 1, _ => exact hs _ (by decide +kernel)
    | 2, _ => exact hs _ (by decide +kernel)
    | 3, _ => exact hs _ (by decide +kernel)
    | 4, _ => exact hs _ (by decide +kernel)
    | 5, _ => exact hs _ (by decide +kernel)
    | j + 6, h => exact absurd h (by omega))
  obtain ⟨t2, e2⟩ := q_sta (nm := "GREATEST") (f := zgreat) (hts _ (List.mem_of_getElem? (i := 429) (by decide +kernel))) hini (hs _ (by decide +kernel)) (hs _ (by decide +kernel)) (fun j hj => by
    match j, hj with
    | 0, _ => exact hs _ (by decide +kernel)
    | 1, _ => exact hs _ (by decide +kernel)
    | 2, _ => exact hs _ (by decide +kernel)
    | 3, _ => exact hs _ (by decide +kernel)
    | 4, _ => exact hs _ (by decide +kernel)
    | 5, _ => exact hs _ (by decide +kernel)
    | j + 6, h => exact absurd h (by omega))
  refine ⟨(fun ci => (ad ci).1, fun ci => (ad ci).2), (fun t => match t with
    | 0 => c0
    | 1 => c1
    | 2 => c2
    | 3 => c3
    | _ => c4), (t0, t1, t2), ⟨fun ci q hq => ?_, fun k q hq => ?_⟩, fun w hw => ?_, ⟨hts _ zAO_in.1, hts _ zAO_in.2.1, hts _ zAO_in.2.2.1⟩, e0, e1, e2⟩
  · have h : ci < 11 := (List.getElem?_eq_some_iff.mp hq).1
    rw [(zin_lays h).1] at hq
    cases hq
    exact had ci h
  · match k, hq with
    | 0, hq => cases hq; exact ⟨a0, b0⟩
    | 1, hq => cases hq; exact ⟨a1, b1⟩
    | 2, hq => cases hq; exact ⟨a2, b2⟩
    | 3, hq => cases hq; exact ⟨a3, b3⟩
    | 4, hq => cases hq; exact ⟨a4, b4⟩
    | k + 5, hq => cases hq
  · exact va_Nw.of (zNest_of hw).1 (hts w (List.mem_filter.mp hw).1)
theorem q_begin {p : Program} {l : Launch} {e : Env} {s : State} {m : MethodId} {below : List Frame} {meth : Method} {c : Code} {b L : Nat} {xs : Nat → Int32} {D : va_G} {cT : Nat → ClassId} {S : Nat × Nat × Nat} {X : Nat} {h : Hp} (C : qC p s m meth c b L xs D cT S) (hN : X = s.heap.size) (hz : h.2.1 = X) (hK : HpK h) (h0 : h.2.2 = 0) : qK p l e s m below meth c b D cT 0 [some (.ref b), none, none, none, none, none, none, none] [] h := by
  obtain ⟨h1, w1, r1, q1⟩ := c_Main hz hK
  obtain ⟨h2, w2, r2, q2⟩ := c_Model (M := X + 180) w1.1 w1.2.1
  have k2 := w2.kp w1.2.1 w1.1
  have z1 : h1.2.1 = X + 180 := w1.1
  have z2 : h2.2.1 = X + 180 + 15 := w2.1
  have y1 : h1.2.2 = 10451 := by have := w1.2.2.2; rw [h0] at this; rw [this]
  have y2 : h2.2.2 = 31104 := by have := w2.2.2.2; rw [y1] at this; rw [this]
  have f1 : rP h2 X (X + 180) p0 := ⟨r1.1.grow k2 w2.2.1 (by rw [z1, z2]; omega), r1.2.kp k2⟩
  have I : qI h2 p0 X 0 := ⟨f1.reB (by omega) (by rw [z2]; omega), r2, WfP_0, by rw [z2]; omega, by rw [y2]; exact Nat.le_refl _⟩
  refine q_new (pc := 0) (ci := 9) (ps := [60, 61, 48]) C (by decide +kernel) dL_law_0 (by rw [hz, hN]; omega) (by rw [h0]; decide +kernel) ?_
  rw [hz]
  refine q_dup (pc := 3) C dL_law_3 ?_
  refine q_callI (pc := 4) (y := 70) (a := X) (rest := [.ref X]) (h' := h1) (ps := [62, 48, 63]) C (by decide +kernel) dL_law_4 (by decide +kernel) ?_ ⟨(show 0 = mN 70 by decide +kernel), (show 1 ≤ mL 70 by decide +kernel), (show mL 70 ≤ 10 by decide +kernel), (show 1 ≤ 4 by decide)⟩ (by rw [z1, hN]; omega) (by rw [y1]; decide) ?_
  · have e : WPm 70 [.ref X] (hadd h X (.inr (9, [.null, .int 0, .null, .null, .null, .null, .null, .null])) 8) (fun r g => r = none ∧ g = h1) := by
      rw [q1]
      exact ⟨rfl, rfl⟩
    refine Eq.mp (congrArg (fun z => WPm 70 [.ref X] z _) ?_) e
    rw [← hz]
    rfl
  refine q_astore (pc := 7) (k := 1) C dL_law_7 ⟨(show 1 < 8 by decide), rfl⟩ ?_
  refine q_new (pc := 8) (ci := 10) (ps := [779, 780, 56]) C (by decide +kernel) dL_law_8 (by rw [z1, hN]; omega) (by rw [y1]; decide +kernel) ?_
  rw [z1]
  refine q_dup (pc := 11) C dL_law_11 ?_
  refine q_callI (pc := 12) (y := 107) (a := X + 180) (rest := [.ref (X + 180)]) (h' := h2) (ps := [781, 56, 782]) C (by decide +kernel) dL_law_12 (by decide +kernel) ?_ ⟨(show 0 = mN 107 by decide +kernel), (show 1 ≤ mL 107 by decide +kernel), (show mL 107 ≤ 10 by decide +kernel), (show 1 ≤ 4 by decide)⟩ (by rw [z2, hN]; omega) (by rw [y2]; decide) ?_
  · have e : WPm 107 [.ref (X + 180)] (hadd h1 (X + 180) (.inr (10, [.null, .null, .int 0, .null, .null, .int 0, .int 0, .int 0, .null, .int 0, .null, .int 0, .null, .null, .int 0, .null, .null, .null, .null, .null, .null])) 21) (fun r g => r = none ∧ g = h2) := by
      rw [q2]
      exact ⟨rfl, rfl⟩
    refine Eq.mp (congrArg (fun z => WPm 107 [.ref (X + 180)] z _) ?_) e
    rw [← z1]
    rfl
  refine q_astore (pc := 15) (k := 2) C dL_law_15 ⟨(show 2 < 8 by decide), rfl⟩ ?_
  refine q_iconst (pc := 16) (v := nI 0) C dL_law_16 (by decide) ?_
  refine q_istore (pc := 17) (k := 3) C dL_law_17 ⟨(show 3 < 8 by decide), rfl⟩ ?_
  exact q_loop C hN L 0 0 p0 h2 none none none none (by omega) (by omega) (Nat.zero_le _) I
/-- from the entry, for every script of at most 2048 ints, the law comes to its end with true -/
theorem whole_start {p : Program} {e : Env} {s : State} {m : MethodId} {below : List Frame} {meth : Method} {c : Code} (l : Launch) (hflags : l.flags = flags0) {b L : Nat} {xs : Nat → Int32} (hL : L ≤ 2048) (C0 : lw_At p s m meth c b L xs) : W p l e room_1 s m #[Value.ref b] below meth c s.heap [] 0 0 (lw_Z below #[Value.ref b] s) (entryFrame m ([Value.ref b] : List Value).toArray 8) := by
  obtain ⟨D, cT, S, hKC⟩ := q_words C0
  have C : qC p s m meth c b L xs D cT S := ⟨C0, hKC, hL⟩
  have hl := lv_entry ([.ref b]) (n := 8) (Nat.le_of_ble_eq_true rfl)
  rw [lg_entry_eq]
  exact q_begin (h := (fun _ => none, s.heap.size, 0)) C rfl rfl (fun _ _ => rfl) rfl s.heap [] 0 0 _ ⟨⟨rfl, hl⟩, ⟨rfl, Nat.le_refl _, fun a e he => (by cases he)⟩, va_S.rf, rfl, rfl⟩
