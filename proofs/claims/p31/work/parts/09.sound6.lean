theorem zcall_at {j c k : Nat} {h : Hp} {st : List Value} {x} (hs : zcall j h st c k = some x) : ∃ args rest, x = .inr (.inr (c, args, rest)) ∧ st = args.reverse ++ rest ∧ args.length = mN c + (if Nat.ble 2 k then 0 else 1) ∧ mH c < mH j ∧ rest.length ≤ 4 ∧ (zlay args).length ≤ mL c ∧ zchk h c args k = true := by
  unfold zcall at hs
  split at hs
  · next args rest hz =>
    obtain ⟨z1, z2⟩ := zsplit_at hz
    split at hs
    · next hc =>
      simp only [Bool.and_eq_true] at hc
      obtain ⟨⟨⟨h1, h2⟩, h3⟩, h4⟩ := hc
      cases hs
      exact ⟨args, rest, rfl, z1, z2, Nat.le_of_ble_eq_true h1, Nat.le_of_ble_eq_true h2, Nat.le_of_ble_eq_true h3, h4⟩
    · cases hs
  · cases hs
theorem zkd_of {own idx y k : Nat} (h : zmth own idx = some (y, k)) : zCl.any (fun q => Nat.beq q.2.2.1 y && Nat.beq q.2.2.2.1 k) = true := by
  unfold zmth at h
  cases hq : zCl.find? (fun q => Nat.beq q.1 own && Nat.beq q.2.1 idx) with
  | none => rw [hq] at h; cases h
  | some q =>
    rw [hq] at h
    refine List.any_eq_true.mpr ⟨q, List.mem_of_find?_eq_some hq, ?_⟩
    simp only [Option.map_some, Option.some.injEq, Prod.mk.injEq] at h
    rw [h.1, h.2]
    simp
theorem zkd_ok : zCl.all (fun q => if Nat.beq q.2.2.1 104 || Nat.beq q.2.2.1 105 then Nat.beq q.2.2.2.1 2 || Nat.beq q.2.2.2.1 3 else true) = true := by decide +kernel
theorem zkd_st {own idx y k : Nat} (h : zmth own idx = some (y, k)) (hy : y = 104 ∨ y = 105) : k = 2 ∨ k = 3 := by
  obtain ⟨q, hm, hp⟩ := List.any_eq_true.mp (zkd_of h)
  have ok := List.all_eq_true.mp zkd_ok q hm
  simp only [Bool.and_eq_true] at hp
  have e1 : q.2.2.1 = y := Nat.eq_of_beq_eq_true hp.1
  have e2 : q.2.2.2.1 = k := Nat.eq_of_beq_eq_true hp.2
  rw [e1, e2] at ok
  rcases hy with rfl | rfl
  · simp only [Nat.beq_refl, Bool.true_or, if_true, Bool.or_eq_true] at ok
    exact ok.imp Nat.eq_of_beq_eq_true Nat.eq_of_beq_eq_true
  · simp only [Nat.beq_refl, Bool.or_true, if_true, Bool.or_eq_true] at ok
    exact ok.imp Nat.eq_of_beq_eq_true Nat.eq_of_beq_eq_true
section ZK5
variable {p : Program} {l : Launch} {e : Env} {R : Room} {s : State} {m : MethodId} {args : Array Value} {below : List Frame} {meth : Method} {c : Code} {Q : State → Prop} {D : va_G} {cT : Nat → ClassId} {b n0 w0 j pc : Nat} {S : zSc} {mc ms : Nat} {ls ls' : Ls} {st st' r : List Value} {h h' : Hp} {pc' n : Nat}
/-- a static call that the stepper makes in one step: Math.max, allows, basicValue -/
theorem zk_stat {idx : Nat} (C : zCx p s m args meth c R D cT b S j mc ms) (hj : j < 117) (hd : decode (mC j) pc = .ok (.invokestatic idx, 3)) (hs : zstat j pc ls h st idx = some (.inl (pc', ls', st', h'))) (hm : h'.2.1 ≤ n0 + mc ∧ h'.2.2 ≤ w0 + ms)
    (K : zK p l e R s m args below meth c Q D cT b S n0 w0 j pc' ls' st' h') : zK p l e R s m args below meth c Q D cT b S n0 w0 j pc ls st h := by
  unfold zstat at hs
  split at hs
  · next hk =>
    simp only [Bool.and_eq_true] at hk
    have k1 : mK j = 2 := Nat.eq_of_beq_eq_true hk.1
    have k2 : idx = 101 := Nat.eq_of_beq_eq_true hk.2
    split at hs
    · next y x r =>
      split at hs
      · next hc =>
        simp only [Bool.and_eq_true] at hc
        cases hs
        intro H locs cells slots la Z
        obtain ⟨hx, hb, hml, hown, hts, hret, hlk, hin, hKC, hR, hbs⟩ := id C
        rw [k1] at hown
        subst k2
        obtain ⟨w1, w2, w3, w4⟩ := zmax_in
        have h1 := Nat.le_of_ble_eq_true hc.1
        have h2 := zroom (Nat.le_of_ble_eq_true hc.2)
        have hcs : cells ≤ mc ∧ slots ≤ ms := by have := Z.2.2.2.1; have := Z.2.2.2.2; omega
        refine va_mmax hx hb (hml.trans Z.1.2.1.symm) hown (hts _ (zW_in w1 rfl)) (hts _ (zW_in w2 rfl)) (hts _ (zW_in w3 rfl)) (hts _ (zW_in w4 rfl)) (Nat.le_trans h1 hR.1) ?_ (Nat.le_trans hcs.1 hR.2.1) (Nat.le_trans hcs.2 hR.2.2.1) hd (K H locs cells slots la Z)
        refine Nat.le_trans ?_ hR.2.2.2
        show _ + 13 ≤ 29 * mH j
        omega
      · cases hs
    · cases hs
  · split at hs
    · next y kd hz =>
      split at hs
      · next hy =>
        have hy : y = jX9_allows := Nat.eq_of_beq_eq_true hy
        subst hy
        split at hs
        · next q x r =>
          split at hs
          · next hc =>
            simp only [Bool.and_eq_true] at hc
            cases hs
            have h1 := Nat.le_of_ble_eq_true hc.1
            have h2 := Nat.le_of_ble_eq_true hc.2
            have hkd : kd = 2 ∨ kd = 3 := zkd_st hz (Or.inl rfl)
            refine zk_go (as := [.int x, .int q]) (v := some (.int (zallows x q))) C hj zmet_allows hz h1 h2 ?_ ?_ ⟨Nat.le_refl _, Nat.le_refl _⟩ hm (Or.inr (Or.inr ⟨hkd, hd⟩)) K
            · rcases hkd with rfl | rfl <;> rfl
            · rcases hkd with rfl | rfl <;> rfl
          · cases hs
        · cases hs
      · split at hs
        · next hy =>
          have hy : y = jX9_basicValue := Nat.eq_of_beq_eq_true hy
          subst hy
          split at hs
          · next x r =>
            split at hs
            · next hc =>
              simp only [Bool.and_eq_true] at hc
              cases hs
              have h1 := Nat.le_of_ble_eq_true hc.1
              have h2 := Nat.le_of_ble_eq_true hc.2
              have hkd : kd = 2 ∨ kd = 3 := zkd_st hz (Or.inr rfl)
              refine zk_go (as := [.int x]) (v := some (.int (zbasicV x))) C hj zmet_basic hz h1 h2 ?_ ?_ ⟨Nat.le_refl _, Nat.le_refl _⟩ hm (Or.inr (Or.inr ⟨hkd, hd⟩)) K
              · rcases hkd with rfl | rfl <;> rfl
              · rcases hkd with rfl | rfl <;> rfl
            · cases hs
          · cases hs
        · split at hs
          · obtain ⟨a1, r1, q1, -⟩ := zcall_at hs
            cases q1
          · cases hs
    · cases hs
theorem zk_spec {idx : Nat} (C : zCx p s m args meth c R D cT b S j mc ms) (hj : j < 117) (hd : decode (mC j) pc = .ok (.invokespecial idx, 3)) (hs : zspec j pc ls h st idx = some (.inl (pc', ls', st', h')))
    (K : zK p l e R s m args below meth c Q D cT b S n0 w0 j pc' ls' st' h') : zK p l e R s m args below meth c Q D cT b S n0 w0 j pc ls st h := by
  unfold zspec at hs
  split at hs
  · next ho =>
    split at hs
    · next a r =>
      split at hs
      · next hc =>
        simp only [Bool.and_eq_true] at hc
        cases hs
        intro H locs cells slots la Z
        obtain ⟨hx, hb, hml, hown, hts, hret, hlk, hin, hKC, hR, hbs⟩ := id C
        have h1 := Nat.le_of_ble_eq_true hc.1
        have h2 := zroom (Nat.le_of_ble_eq_true hc.2)
        refine W.objInit hx hb hown (hts _ (zW_in (zO_at ho) rfl)) (hts _ (zW_in zO_in.1 rfl)) (hts _ (zW_in zO_in.2 rfl)) rfl (Z.1.2.1.trans hml.symm) rfl hd (Nat.le_trans h1 hR.1) ?_ (K H locs cells slots la Z)
        refine Nat.le_trans ?_ hR.2.2.2
        show 2 * 0 + _ + 12 ≤ 29 * mH j
        omega
      · cases hs
    · cases hs
  · split at hs
    · next y kd hz =>
      split at hs
      · obtain ⟨a1, r1, q1, -⟩ := zcall_at hs
        cases q1
      · cases hs
    · cases hs
end ZK5
