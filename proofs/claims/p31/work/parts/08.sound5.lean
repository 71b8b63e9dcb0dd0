section ZK4
variable {p : Program} {l : Launch} {e : Env} {R : Room} {s : State} {m : MethodId} {args : Array Value} {below : List Frame} {meth : Method} {c : Code} {Q : State → Prop} {D : va_G} {cT : Nat → ClassId} {b n0 w0 j pc : Nat} {S : zSc} {mc ms : Nat} {ls ls' : Ls} {st st' r : List Value} {h h' : Hp} {pc' n : Nat}
theorem zk_ret {i : Nat} {v : Option Value} (C : zCx p s m args meth c R D cT b S j mc ms)
    (hd : (i = 0 ∧ decode (mC j) pc = .ok (.ireturn, 1)) ∨ (i = 1 ∧ decode (mC j) pc = .ok (.lreturn, 1)) ∨ (i = 2 ∧ decode (mC j) pc = .ok (.freturn, 1)) ∨ (i = 3 ∧ decode (mC j) pc = .ok (.areturn, 1)) ∨ (i = 4 ∧ decode (mC j) pc = .ok (.return_, 1)))
    (hs : zret j st i = some (.inr (.inl v))) (h1 : h.2.1 = n0 + mc) (h2 : h.2.2 = w0 + ms) : zK p l e R s m args below meth c (MQ below (zQ D cT b S v h) args s mc ms (fun q => b ≤ q)) D cT b S n0 w0 j pc ls st h := by
  intro H locs cells slots la Z
  obtain ⟨hx, hb, hml, hown, hts, hret, hlk, hin, hKC, hR, hbs⟩ := id C
  obtain ⟨hZl, hZr, hZs, hZ1, hZ2⟩ := Z
  have e1 : cells = mc := by omega
  have e2 : slots = ms := by omega
  subst e1; subst e2
  have hq : ∀ t : State, t.heap = H → s.WarmedH t.vm → zQ D cT b S v h args s (.returned v) t := fun t ht _ => ⟨rfl, by rw [ht]; exact hZr, hZs.F ht⟩
  have hf : ∀ q ∈ locs, b ≤ q.base := hZs.2.2
  unfold zret at hs
  split at hs
  · next w =>
    have hd : decode (mC j) pc = .ok (.ireturn, 1) := by rcases hd with q | q | q | q | q <;> first | exact q.2 | exact absurd q.1 (by decide)
    split at hs
    · next hT => cases hs; exact W.iret hx hb (hret.trans hT) hq hf hd hlk
    · next hT =>
      split at hs
      · next hw =>
        cases hs
        refine W.zret hx hb (hret.trans hT) ?_ hq hf hd hlk
        rcases hw with rfl | rfl <;> rfl
      · cases hs
    · cases hs
  · next w =>
    have hd : decode (mC j) pc = .ok (.lreturn, 1) := by rcases hd with q | q | q | q | q <;> first | exact q.2 | exact absurd q.1 (by decide)
    split at hs
    · next hT => cases hs; exact W.lret hx hb (hret.trans hT) hq hf hd hlk
    · cases hs
  · next w =>
    have hd : decode (mC j) pc = .ok (.freturn, 1) := by rcases hd with q | q | q | q | q <;> first | exact q.2 | exact absurd q.1 (by decide)
    split at hs
    · next hT => cases hs; exact W.fret hx hb (hret.trans hT) hq hf hd hlk
    · cases hs
  · next w =>
    have hd : decode (mC j) pc = .ok (.areturn, 1) := by rcases hd with q | q | q | q | q <;> first | exact q.2 | exact absurd q.1 (by decide)
    split at hs
    · next nm hT => cases hs; exact W.aret hx hb (hret.trans hT) (Or.inl ⟨_, rfl⟩) (Or.inr ⟨_, rfl⟩) hq hf hd hlk
    · cases hs
  · have hd : decode (mC j) pc = .ok (.areturn, 1) := by rcases hd with q | q | q | q | q <;> first | exact q.2 | exact absurd q.1 (by decide)
    split at hs
    · next nm hT => cases hs; exact W.aret hx hb (hret.trans hT) (Or.inl ⟨_, rfl⟩) (Or.inl rfl) hq hf hd hlk
    · cases hs
  · have hd : decode (mC j) pc = .ok (.return_, 1) := by rcases hd with q | q | q | q | q <;> first | exact q.2 | exact absurd q.1 (by decide)
    split at hs
    · next hT => cases hs; exact W.vret hx hb (hret.trans hT) hq hf hd hlk
    · cases hs
  · cases hs
/-- a method's contract out of its body -/
theorem zMet_mk {as : List Value} {v : Option Value} (hj : j < 116) (hlen : (zlay as).length ≤ mL j)
    (body : ∀ (p : Program) (e : Env) (s : State) (m : MethodId) (below : List Frame) (meth : Method) (c : Code) (R : Room) (mc ms : Nat), zCx p s m as.toArray meth c R D cT b S j mc ms → h'.2.1 = h.2.1 + mc → h'.2.2 = h.2.2 + ms →
      zK p l e R s m as.toArray below meth c (MQ below (zQ D cT b S v h') as.toArray s mc ms (fun q => b ≤ q)) D cT b S h.2.1 h.2.2 j 0 (zent j as) [] h) : zMet l D cT b S j as h v h' := by
  intro mc ms h1 h2
  obtain ⟨y1, y2, y3, y4, y5, y6⟩ := zM_at (j := j) (by omega)
  refine Met.ofW (cc := mC j) (maxL := mL j) (ret := mT j) y3 rfl ?_
  intro p e s m args below meth c s₁ B hml hv
  obtain ⟨rfl, hKC, hZr⟩ := hv
  have hts := atoms_spec (ws := zws j) B.pre
  have hown : s.vm.findClass (zR (mK j)) = some m.cls := by rw [← y1]; exact findClass_of_methodNamed B.named
  have hl := zent_has hlen
  rw [lg_entry_eq]
  refine body p e s m below meth c _ mc ms ⟨B.exec, B.bytes, hml, hown, fun w hw => hts w (List.mem_cons_of_mem _ hw), B.returns, B.notSynchronized, fun hi => ?_, hKC, ⟨Nat.le_refl _, Nat.le_refl _, Nat.le_refl _, Nat.le_refl _⟩, by rw [hZr.1]; exact hZr.2.1⟩ h1 h2 s.heap [] 0 0 _ ⟨hl, hZr, va_S.rf, by omega, by omega⟩
  rw [(name_of_methodNamed B.named B.method).1]
  exact hi
theorem zin_six {x : Int32} (c0 : 0 ≤ x) (c6 : x < 6) : vp_in x 6 := by
  have h3 := Int32.lt_iff_toInt_lt.mp c6
  have h4 := Int32.le_iff_toInt_le.mp c0
  have e6 : (6 : Int32).toInt = 6 := by decide
  have e0 : (0 : Int32).toInt = 0 := by decide
  exact vp_in_iff.mpr ⟨by omega, by omega⟩
/-- SubtitleStyles.basicValue -/
theorem zmet_basic {x : Int32} : zMet l D cT b S jX9_basicValue [.int x] h (some (.int (zbasicV x))) h := by
  refine zMet_mk (by decide) (Nat.le_of_ble_eq_true rfl) ?_
  intro p e s m below meth c R mc ms C h1 h2 H locs cells slots la Z
  obtain ⟨hx, hb, hml, hown, hts, hret, hlk, hin, hKC, hR, hbs⟩ := id C
  have hb : c.code = cX9_basicValue := hb.trans mCX9_basicValue
  have l0 : la[0]? = some (.val (.int x)) := Z.1.at (i := 0) rfl
  have hret : meth.sig.returnType = some .int := hret.trans rfl
  have e1 : cells = mc := by have := Z.2.2.2.1; omega
  have e2 : slots = ms := by have := Z.2.2.2.2; omega
  subst e1; subst e2
  have hq : ∀ (w : Int32), w = zbasicV x → ∀ t : State, t.heap = H → s.WarmedH t.vm → zQ D cT b S (some (.int (zbasicV x))) h [Value.int x].toArray s (.returned (some (.int w))) t := fun w hw t ht _ => ⟨by rw [hw], by rw [ht]; exact Z.2.1, Z.2.2.1.F ht⟩
  have hf : ∀ q ∈ locs, b ≤ q.base := Z.2.2.1.2.2
  have hS := Z.2.2.1
  have hown : s.vm.findClass RX9 = some m.cls := hown
  obtain ⟨hZ, hT⟩ := hKC.2.2.2.1
  have w1 : (Cond.fieldLink RX9 334 "SubtitleStyles" "BASIC" "[I") ∈ lw_tbl := List.mem_of_getElem? (i := 330) (by decide +kernel)
  refine lv_iload_n hx hb dX9_basicValue_0 rfl l0 ?_
  refine lv_if_lt (tgt := 20) hx hb dX9_basicValue_1 (by decide) (fun c1 => ?_) (fun c1 => ?_)
  · refine lv_iconst (v := 0) hx hb dX9_basicValue_20 (by decide) ?_
    refine W.iret hx hb hret (hq 0 ?_) hf dX9_basicValue_21 hlk
    unfold zbasicV
    rw [if_neg]
    intro q
    exact absurd c1 (Int32.not_lt.mpr q.1)
  · refine lv_iload_n hx hb dX9_basicValue_4 rfl l0 ?_
    refine va_gets hx hb hZ hS hown (hts _ (zW_in w1 rfl)) (fun _ q => q) dX9_basicValue_5 ?_
    refine va_tlen hx hb hT hS (v := 6) rfl dX9_basicValue_8 ?_
    refine lv_icmp_ge (tgt := 20) hx hb dX9_basicValue_9 (by decide) (fun c2 => ?_) (fun c2 => ?_)
    · refine lv_iconst (v := 0) hx hb dX9_basicValue_20 (by decide) ?_
      refine W.iret hx hb hret (hq 0 ?_) hf dX9_basicValue_21 hlk
      unfold zbasicV
      rw [if_neg]
      intro q
      exact absurd q.2 (Int32.not_lt.mpr c2)
    · have c0 : 0 ≤ x := Int32.not_lt.mp c1
      have c6 : x < 6 := Int32.not_le.mp c2
      have hi : vp_in x 6 := zin_six c0 c6
      refine va_gets hx hb hZ hS hown (hts _ (zW_in w1 rfl)) (fun _ q => q) dX9_basicValue_12 ?_
      refine lv_iload_n hx hb dX9_basicValue_15 rfl l0 ?_
      refine va_ti hx hb hT hS hi rfl dX9_basicValue_16 ?_
      refine lv_goto (tgt := 21) hx hb dX9_basicValue_17 (by decide) ?_
      refine W.iret hx hb hret (hq _ ?_) hf dX9_basicValue_21 hlk
      unfold zbasicV
      rw [if_pos ⟨c0, c6⟩]
/-- SubtitleStyles.allows -/
theorem zmet_allows {x y : Int32} : zMet l D cT b S jX9_allows [.int x, .int y] h (some (.int (zallows x y))) h := by
  refine zMet_mk (by decide) (Nat.le_of_ble_eq_true rfl) ?_
  intro p e s m below meth c R mc ms C h1 h2 H locs cells slots la Z
  obtain ⟨hx, hb, hml, hown, hts, hret, hlk, hin, hKC, hR, hbs⟩ := id C
  have hb : c.code = cX9_allows := hb.trans mCX9_allows
  have l0 : la[0]? = some (.val (.int x)) := Z.1.at (i := 0) rfl
  have l1 : la[1]? = some (.val (.int y)) := Z.1.at (i := 1) rfl
  have hret : meth.sig.returnType = some .boolean := hret.trans rfl
  have e1 : cells = mc := by have := Z.2.2.2.1; omega
  have e2 : slots = ms := by have := Z.2.2.2.2; omega
  subst e1; subst e2
  have hq : ∀ (w : Int32), w = zallows x y → ∀ t : State, t.heap = H → s.WarmedH t.vm → zQ D cT b S (some (.int (zallows x y))) h [Value.int x, Value.int y].toArray s (.returned (some (.int w))) t := fun w hw t ht _ => ⟨by rw [hw], by rw [ht]; exact Z.2.1, Z.2.2.1.F ht⟩
  have hf : ∀ q ∈ locs, b ≤ q.base := Z.2.2.1.2.2
  have hS := Z.2.2.1
  have hown : s.vm.findClass RX9 = some m.cls := hown
  obtain ⟨hZ1, hT1⟩ := hKC.2.2.2.2.1
  obtain ⟨hZ2, hT2⟩ := hKC.2.2.2.2.2.1
  have w1 : (Cond.fieldLink RX9 327 "SubtitleStyles" "LEAST" "[I") ∈ lw_tbl := List.mem_of_getElem? (i := 395) (by decide +kernel)
  have w2 : (Cond.fieldLink RX9 331 "SubtitleStyles" "GREATEST" "[I") ∈ lw_tbl := List.mem_of_getElem? (i := 397) (by decide +kernel)
  have no : (0 : Int32) = zallows x y → W p l e R s m [Value.int x, Value.int y].toArray below meth c H locs cells slots (MQ below (zQ D cT b S (some (.int (zallows x y))) h) [Value.int x, Value.int y].toArray s cells slots (fun q => b ≤ q)) (F0 m 42 la []) := by
    intro hw
    refine lv_iconst (v := 0) hx hb dX9_allows_42 (by decide) ?_
    exact W.zret hx hb hret rfl (hq 0 hw) hf dX9_allows_43 hlk
  refine lv_iload_n hx hb dX9_allows_0 rfl l0 ?_
  refine lv_if_lt (tgt := 42) hx hb dX9_allows_1 (by decide) (fun c1 => no ?_) (fun c1 => ?_)
  · unfold zallows
    rw [if_neg]
    intro q
    exact absurd c1 (Int32.not_lt.mpr q.1)
  refine lv_iload_n hx hb dX9_allows_4 rfl l0 ?_
  refine va_gets hx hb hZ1 hS hown (hts _ (zW_in w1 rfl)) (fun _ q => q) dX9_allows_5 ?_
  refine va_tlen hx hb hT1 hS (v := 6) rfl dX9_allows_8 ?_
  refine lv_icmp_ge (tgt := 42) hx hb dX9_allows_9 (by decide) (fun c2 => no ?_) (fun c2 => ?_)
  · unfold zallows
    rw [if_neg]
    intro q
    exact absurd q.2.1 (Int32.not_lt.mpr c2)
  have c0 : 0 ≤ x := Int32.not_lt.mp c1
  have c6 : x < 6 := Int32.not_le.mp c2
  have hi : vp_in x 6 := zin_six c0 c6
  refine lv_iload_n hx hb dX9_allows_12 rfl l0 ?_
  refine va_gets hx hb hZ2 hS hown (hts _ (zW_in w2 rfl)) (fun _ q => q) dX9_allows_13 ?_
  refine va_tlen hx hb hT2 hS (v := 6) rfl dX9_allows_16 ?_
  refine lv_icmp_ge (tgt := 42) hx hb dX9_allows_17 (by decide) (fun c3 => absurd c3 c2) (fun c3 => ?_)
  refine lv_iload_n hx hb dX9_allows_20 rfl l1 ?_
  refine va_gets hx hb hZ1 hS hown (hts _ (zW_in w1 rfl)) (fun _ q => q) dX9_allows_21 ?_
  refine lv_iload_n hx hb dX9_allows_24 rfl l0 ?_
  refine va_ti hx hb hT1 hS hi rfl dX9_allows_25 ?_
  refine lv_icmp_lt (tgt := 42) hx hb dX9_allows_26 (by decide) (fun c4 => no ?_) (fun c4 => ?_)
  · unfold zallows
    rw [if_neg]
    intro q
    exact absurd c4 (Int32.not_lt.mpr q.2.2.1)
  refine lv_iload_n hx hb dX9_allows_29 rfl l1 ?_
  refine va_gets hx hb hZ2 hS hown (hts _ (zW_in w2 rfl)) (fun _ q => q) dX9_allows_30 ?_
  refine lv_iload_n hx hb dX9_allows_33 rfl l0 ?_
  refine va_ti hx hb hT2 hS hi rfl dX9_allows_34 ?_
  refine lv_icmp_gt (tgt := 42) hx hb dX9_allows_35 (by decide) (fun c5 => no ?_) (fun c5 => ?_)
  · unfold zallows
    rw [if_neg]
    intro q
    exact absurd c5 (Int32.not_lt.mpr q.2.2.2)
  refine lv_iconst (v := 1) hx hb dX9_allows_38 (by decide) ?_
  refine lv_goto (tgt := 43) hx hb dX9_allows_39 (by decide) ?_
  refine W.zret hx hb hret rfl (hq 1 ?_) hf dX9_allows_43 hlk
  unfold zallows
  rw [if_pos ⟨c0, c6, Int32.not_lt.mp c4, Int32.not_lt.mp c5⟩]
end ZK4
