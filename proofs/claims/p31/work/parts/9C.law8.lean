/-! THE CLAIM OUT OF ONE WALK OF THE LAW'S BODY. Your part is whole_start (and what it stands on); all else here is the same for every law, but numbers. -/
def R_law : String := "SubtitleStylesLaw"
def lw_P (b : Addr) (xs : List Int32) (args : Array Value) (s : State) : Prop := args = #[.ref b] ∧ s.IntsAt b xs ∧ xs.length ≤ 260 ∧ (Jvm.Cond.and given_1 narrow_1).before args s = true
/-- what a walk over the start with the record d0 says of its end, said of the start itself -/
theorem lw_closed {s t : State} {o : Outcome} {d0 : Drawn} {L : List Loc} {k n : Nat} (hd0 : s.drawn.sameBut d0 lw_cs) (hv : ∃ v, o = .returned v) (hW : (s.setDrawn d0).WarmedH t.vm) (hs : (s.setDrawn d0).sameButNew ({ t with vm := s.vm } : State) L k n) : State.butDraws s t lw_cs (fun t1 => Framed s o t1 L k n) := by
  have h2 : t.drawn = d0 := congrArg State.drawn hs.1
  refine ⟨⟨hv, hW, State.sameButNew.setDrawn hs s.drawn⟩, ?_, by decide⟩
  rw [h2]
  exact hd0
def lw_Q (_ : Array Value) (s : State) (o : Outcome) (t : State) : Prop := o = .returned (some (.int 1)) ∧ State.butDraws s t lw_cs (fun t1 => Framed s o t1 [] 645589 7165480)
def lw_Z (below : List Frame) (a : Array Value) (s : State) : State → Prop := fun t => ∃ o, t.status = .running ∧ Ended t below o ∧ lw_Q a s o t
/-- the law's own end, with 1 on the stack, nothing written that was there before, its room as the claim has it; d0: the record of draws at this point (at the entry s.drawn: begin with 'refine W.base ?_' and 'have hd0 := Drawn.sameBut.refl s.drawn lw_cs') -/
theorem lw_ret {p : Program} {l : Launch} {e : Env} {s : State} {m : MethodId} {below : List Frame} {meth : Method} {c : Code} {b : Nat} {d0 : Drawn} (hd0 : s.drawn.sameBut d0 lw_cs) (hx : p.tables.exec = Jvm.exec) (hb : c.code = code) (hr : meth.sig.returnType = ret) (hlocks : meth.locks = false) {pc : Nat} {H : Heap} {ls : Array Slot} (hdg : decode code pc = .ok (.ireturn, 1)) : W p l e room_1 (s.setDrawn d0) m #[Value.ref b] below meth c H [] 645589 7165480 (lw_Z below #[Value.ref b] s) (F0 m pc ls [.int 1]) := by
  intro T hT X
  obtain ⟨fs, hret, hrun, hended, hW, hframe⟩ := X.leave (v := some (.int 1)) (hlocks := hlocks) (fun h => by rw [hr] at h; cases h)
  have hmeth' : T.vm.method? m = some meth := X.method'
  refine ⟨T.setFrames fs, ?_, .returned (some (.int 1)), hrun, hended, rfl, lw_closed hd0 ⟨_, rfl⟩ hW hframe⟩
  jvm_step X.here [X.here.top, hx, hb, hdg, hmeth', hr, ret, narrow_b1]
  (try refine ⟨rfl, ?_⟩); (try refine ⟨rfl, ?_⟩)
  first | (intro acts; rw [hret _ acts rfl rfl rfl]) | rw [hret _ _ rfl rfl rfl]
  exact Steps.refl _
/-- what holds at the law's entry: the machine, the code, the tables' words (any of lw_tbl by 'hts w (by decide +kernel)'), the script of L ints xs at the cell b, what the Statement gives of the start (any of its parts by flat_of_before) -/
def lw_At (p : Program) (s : State) (m : MethodId) (meth : Method) (c : Code) (b L : Nat) (xs : Nat → Int32) : Prop :=
  p.tables.exec = Jvm.exec ∧ c.code = code ∧ meth.sig.returnType = ret ∧ c.maxLocals = 17 ∧ s.vm.findClass R_law = some m.cls ∧ (∀ w ∈ lw_tbl, w.before #[Value.ref b] s = true) ∧ va_X b L xs s s.heap ∧ b < s.heap.size ∧ meth.locks = false ∧ (Jvm.Cond.and given_1 narrow_1).before #[Value.ref b] s = true
/-! the law: its start -/
theorem q_inst : ∀ ci, ci < 11 → (Cond.instantiable (zR ci) (zN ci)) ∈ lw_tbl
  | 0, _ => List.mem_of_getElem? (i := 131) (by decide +kernel)
  | 1, _ => List.mem_of_getElem? (i := 495) (by decide +kernel)
  | 2, _ => List.mem_of_getElem? (i := 158) (by decide +kernel)
  | 3, _ => List.mem_of_getElem? (i := 151) (by decide +kernel)
  | 4, _ => List.mem_of_getElem? (i := 49) (by decide +kernel)
  | 5, _ => List.mem_of_getElem? (i := 38) (by decide +kernel)
  | 6, _ => List.mem_of_getElem? (i := 85) (by decide +kernel)
  | 7, _ => List.mem_of_getElem? (i := 91) (by decide +kernel)
  | 8, _ => List.mem_of_getElem? (i := 473) (by decide +kernel)
  | 9, _ => List.mem_of_getElem? (i := 30) (by decide +kernel)
  | 10, _ => List.mem_of_getElem? (i := 30) (by decide +kernel)
  | n + 11, h => absurd h (by omega)
theorem q_sta {args : Array Value} {s : State} {nm : String} {f : List Int32} (hl : (Cond.laysStatic RX9 nm "[I").before args s = true) (hini : (Cond.initialized RX9).before args s = true) (har : (Cond.arrayOf (.static RX9 nm "[I") .int).before args s = true) (hle : (Cond.eq (.length (.static RX9 nm "[I")) (.int 6)).before args s = true) (hel : ∀ j : Nat, j < 6 → (Cond.eq (.elem (.static RX9 nm "[I") (.int (Int32.ofNat j))) (.int (f.getD j 0))).before args s = true) : ∃ t, zSta s.heap.size nm t f s := by
  have hA : ∀ a : Nat, a < s.heap.size → ¬ s.heap.size ≤ a := fun a h => Nat.not_le.mpr h
  obtain ⟨t, ht, hT⟩ := va_Tof (N := 6) (f := fun j => .int (f.getD j 0)) (A := fun q => s.heap.size ≤ q) (by decide) har (va_eqt hle) (fun j hj => va_eqt (hel j hj)) hA
  exact ⟨t, va_Zref hl hini ht hA, hT⟩
theorem q_arrP {args : Array Value} {s : State} {ty : FieldType} (h : (Cond.arrayClass ty).before args s = true) : ∃ cA, ArrOfT s cA ty ∧ s.vm.findClass ("[" ++ ty.toString) = some cA := by
  obtain ⟨cA, kA, comp, h1, h2, h3⟩ := Cond.arrayClass_spec h
  exact ⟨cA, fun n z => ⟨fun k h => (by cases h), kA, h2, comp, h3⟩, h1⟩
theorem q_arrO {args : Array Value} {s : State} {n : String} (h : (Cond.arrayOver (.object n)).before args s = true) : ∃ cA, ArrOfT s cA (.object n) ∧ va_RA s cA (.object n) := by
  obtain ⟨comp, cA, kA, g1, g2, g3, g4, g5⟩ := Cond.arrayOver_spec h
  exact ⟨cA, fun N z => ⟨fun k h => (by cases h), kA, g3, comp, g4⟩, kA, comp, g3, g4, g1, g5⟩
theorem q_words {p : Program} {s : State} {m : MethodId} {meth : Method} {c : Code} {b L : Nat} {xs : Nat → Int32} (hL : L ≤ 260) (C0 : lw_At p s m meth c b L xs) : ∃ D cT t0 t1 t2, zKC D cT s.heap.size (t0, t1, t2, b, L, xs) s := by
  obtain ⟨hx, hb, hr, hml, hown, hts, hX, hbl, hlocks, hgv⟩ := C0
  have hs := flat_of_before _ hgv
  have hkn : ∀ ci : Nat, ∃ x : ClassId × (Nat → Nat), ci < 11 → u_Kn s (zR ci) (zT ci) (zN ci) x.1 x.2 := by
    intro ci
    by_cases h : ci < 11
    · obtain ⟨a, b', h1⟩ := u_known hts (zin_lays h).2.1 (hts _ (q_inst ci h))
      exact ⟨(a, b'), fun _ => h1⟩
    · exact ⟨(0, fun _ => 0), fun h' => absurd h' h⟩
  obtain ⟨ad, had⟩ := Classical.axiomOfChoice hkn
  obtain ⟨c0, a0, b0⟩ := q_arrP (hts _ zAO_in.2.2.2)
  obtain ⟨c2, a2, b2⟩ := q_arrO (hts _ zAO_in.1)
  obtain ⟨c3, a3, b3⟩ := q_arrO (hts _ zAO_in.2.1)
  obtain ⟨c4, a4, b4⟩ := q_arrO (hts _ zAO_in.2.2.1)
  have hini : (Cond.initialized RX9).before #[Value.ref b] s = true := hts _ (List.mem_of_getElem? (i := 18) (by decide +kernel))
  obtain ⟨t0, e0⟩ := q_sta (nm := "BASIC") (f := zbasic) (hts _ (List.mem_of_getElem? (i := 331) (by decide +kernel))) hini (hs _ (by decide +kernel)) (hs _ (by decide +kernel)) (fun j hj => by
    match j, hj with
    | 0, _ => exact hs _ (by decide +kernel)
    | 1, _ => exact hs _ (by decide +kernel)
    | 2, _ => exact hs _ (by decide +kernel)
    | 3, _ => exact hs _ (by decide +kernel)
    | 4, _ => exact hs _ (by decide +kernel)
    | 5, _ => exact hs _ (by decide +kernel)
    | j + 6, h => exact absurd h (by omega))
  obtain ⟨t1, e1⟩ := q_sta (nm := "LEAST") (f := zleast) (hts _ (List.mem_of_getElem? (i := 396) (by decide +kernel))) hini (hs _ (by decide +kernel)) (hs _ (by decide +kernel)) (fun j hj => by
    match j, hj with
    | 0, _ => exact hs _ (by decide +kernel)
    | 1, _ => exact hs _ (by decide +kernel)
    | 2, _ => exact hs _ (by decide +kernel)
    | 3, _ => exact hs _ (by decide +kernel)
    | 4, _ => exact hs _ (by decide +kernel)
    | 5, _ => exact hs _ (by decide +kernel)
    | j + 6, h => exact absurd h (by omega))
  obtain ⟨t2, e2⟩ := q_sta (nm := "GREATEST") (f := zgreat) (hts _ (List.mem_of_getElem? (i := 398) (by decide +kernel))) hini (hs _ (by decide +kernel)) (hs _ (by decide +kernel)) (fun j hj => by
    match j, hj with
    | 0, _ => exact hs _ (by decide +kernel)
    | 1, _ => exact hs _ (by decide +kernel)
    | 2, _ => exact hs _ (by decide +kernel)
    | 3, _ => exact hs _ (by decide +kernel)
    | 4, _ => exact hs _ (by decide +kernel)
    | 5, _ => exact hs _ (by decide +kernel)
    | j + 6, h => exact absurd h (by omega))
  refine ⟨(fun ci => (ad ci).1, fun ci => (ad ci).2), (fun t => match t with
    | 0 => c0
    | 1 => c0
    | 2 => c2
    | 3 => c3
    | _ => c4), t0, t1, t2, ⟨fun ci q hq => ?_, fun k q hq => ?_⟩, fun w hw => ?_, ⟨hts _ zAO_in.1, hts _ zAO_in.2.1, hts _ zAO_in.2.2.1⟩, e0, e1, e2, ?_, by show L < 2147483648; omega⟩
  · have h : ci < 11 := (List.getElem?_eq_some_iff.mp hq).1
    rw [(zin_lays h).1] at hq
    cases hq
    exact had ci h
  · match k, hq with
    | 0, hq => cases hq; exact ⟨a0, b0⟩
    | 1, hq => cases hq; exact ⟨a0, b0⟩
    | 2, hq => cases hq; exact ⟨a2, b2⟩
    | 3, hq => cases hq; exact ⟨a3, b3⟩
    | 4, hq => cases hq; exact ⟨a4, b4⟩
    | k + 5, hq => cases hq
  · exact va_Nw.of (zNest_of hw).1 (hts w (List.mem_filter.mp hw).1)
  · obtain ⟨scr, g1, g2, g3, g4, g5⟩ := hX
    exact ⟨scr, g1, g2, g3, by rw [g4]; exact Nat.le_refl _, by rw [g4] <;> rfl, g5, Nat.not_le.mpr hbl⟩
/-- from the entry, for every script of at most 260 ints, the law comes to its end with true -/
theorem whole_start {p : Program} {e : Env} {s : State} {m : MethodId} {below : List Frame} {meth : Method} {c : Code} (l : Launch) (hflags : l.flags = flags0) {b L : Nat} {xs : Nat → Int32} (hL : L ≤ 260) (C0 : lw_At p s m meth c b L xs) : W p l e room_1 s m #[Value.ref b] below meth c s.heap [] 0 0 (lw_Z below #[Value.ref b] s) (entryFrame m ([Value.ref b] : List Value).toArray 17) := by
  obtain ⟨D, cT, t0, t1, t2, hKC⟩ := q_words hL C0
  obtain ⟨hx, hb, hr, hml, hown, hts, hX, hbl, hlocks, hgv⟩ := id C0
  obtain ⟨h, he⟩ : ∃ h : Hp, h = (fun q => if q = b then some (.inl (1, L, .inl xs)) else none, s.heap.size, 0) := ⟨_, rfl⟩
  have hs : h.1 b = some (.inl (1, L, .inl xs)) := by rw [he]; exact if_pos rfl
  have hz : h.2.1 = s.heap.size := by rw [he]
  have h0 : h.2.2 = 0 := by rw [he]
  have hcell : ∀ a q, h.1 a = some q → a = b ∧ q = .inl (1, L, .inl xs) := by
    intro a q hq
    rw [he] at hq
    have hq : (if a = b then some (.inl (1, L, .inl xs)) else none) = some q := hq
    by_cases g : a = b
    · rw [if_pos g] at hq
      cases hq
      exact ⟨g, rfl⟩
    · rw [if_neg g] at hq
      cases hq
  have hK : HpK h := fun q hq => by
    rw [he]
    exact if_neg (by rw [hz] at hq; intro g; subst g; omega)
  obtain ⟨k, r, hgo, r1, r2, r3, r4⟩ := y_law (X := s.heap.size) (Q := fun r g => r = some (.int (nI 1)) ∧ s.heap.size ≤ g.2.1 ∧ g.2.1 ≤ s.heap.size + 10000 ∧ g.2.2 ≤ 1000000) hs hbl (by omega) hz hK h0 (fun h' q1 q2 q3 => ⟨rfl, q1, q2, q3⟩)
  obtain ⟨rv, hf⟩ := r
  have r1 : rv = some (.int (nI 1)) := r1
  subst r1
  obtain ⟨-, S⟩ := zsoundQ l D cT s.heap.size (t0, t1, t2, b, L, xs) k 116 0 _ _ _ _ _ hgo (by omega)
  have hl := zent_has (j := 116) (vs := [.ref b]) (show 1 ≤ mL 116 by decide +kernel)
  rw [lg_entry_eq]
  refine S p e room_1 s m #[Value.ref b] below meth c s.heap.size 0 (hf.2.1 - s.heap.size) hf.2.2 (lw_Z below #[Value.ref b] s) ⟨hx, hb, hml, hown, fun w hw => hts w (List.mem_filter.mp hw).1, hr, hlocks, fun q => absurd q (by decide +kernel), hKC, ⟨(by decide +kernel : mH 116 ≤ room_1.frames), ?_, ?_, (by decide +kernel : 29 * mH 116 ≤ room_1.locals)⟩, Nat.le_refl _⟩ (by have r2 : s.heap.size ≤ hf.2.1 := r2; omega) (by omega) ?_ s.heap [] 0 0 _ ⟨hl, ⟨hz.symm, by rw [hz]; exact Nat.le_refl _, fun a q hq => Or.inr ?_⟩, va_S.rf, hz, h0⟩
  · have r3 : hf.2.1 ≤ s.heap.size + 10000 := r3
    show hf.2.1 - s.heap.size ≤ 645589
    omega
  · have r4 : hf.2.2 ≤ 1000000 := r4
    show hf.2.2 ≤ 7165480
    omega
  · intro pc ls st kk hd hret H locs cells slots la Z
    have r3 : hf.2.1 ≤ s.heap.size + 10000 := r3
    have r4 : hf.2.2 ≤ 1000000 := r4
    have hst : kk = 0 ∧ st = [.int 1] := by
      have hT : mT 116 = some .boolean := by decide +kernel
      unfold zret at hret
      rw [hT] at hret
      split at hret
      · next w =>
        simp only at hret
        split at hret
        · cases hret
          exact ⟨rfl, rfl⟩
        · cases hret
      · cases hret
      · cases hret
      · cases hret
      · cases hret
      · cases hret
      · cases hret
    obtain ⟨rfl, rfl⟩ := hst
    have hd : decode code pc = .ok (.ireturn, 1) := by
      have hd2 : decode (mC 116) pc = .ok (.ireturn, 1) := by rcases hd with q | q | q | q | q <;> first | exact q.2 | exact absurd q.1 (by decide)
      exact hd2
    obtain ⟨Z1, Z2, Z3, Z4, Z5⟩ := Z
    refine W.base ?_
    refine va_forget Z3.2.2 ?_
    refine W.widen (k := 645589) (n := 7165480) (by omega) (by omega) ?_
    exact lw_ret (Drawn.sameBut.refl s.drawn lw_cs) hx hb hr hlocks hd
  · obtain ⟨rfl, rfl⟩ := hcell a q hq
    exact ⟨hbl, rfl, rfl⟩
