def zQ (D : va_G) (cT : Nat → ClassId) (b : Nat) (S : zSc) (v : Option Value) (h' : Hp) : Array Value → State → Outcome → State → Prop := fun _ st oc t => oc = .returned v ∧ zRep D cT b S h' t.heap ∧ va_F (fun q => b ≤ q) st t
def zws (j : Nat) : List Cond := Cond.code (mY j) (mC j) (mL j) (mT j) :: zW
def zPc (D : va_G) (cT : Nat → ClassId) (b : Nat) (S : zSc) (h : Hp) : State → Prop := fun U => zKC D cT b S U ∧ zRep D cT b S h U.heap
/-- what a method does, as a contract -/
def zMet (l : Launch) (D : va_G) (cT : Nat → ClassId) (b : Nat) (S : zSc) (j : Nat) (as : List Value) (h : Hp) (v : Option Value) (h' : Hp) : Prop :=
  ∀ mc ms : Nat, h'.2.1 = h.2.1 + mc → h'.2.2 = h.2.2 + ms → Met l (mY j) (zws j) { frames := mH j, cells := mc, slots := ms, locals := 29 * mH j } (va_Pc as (zPc D cT b S h)) (zQ D cT b S v h') mc ms (fun q => b ≤ q)
theorem zws_good {j : Nat} (hj : j < 116) : GoodIn zW (zws j) := by
  have hz : ∀ w ∈ zW, w ∈ zW ∧ ((w.onTables && w.keeps) = true ∨ ∃ ty, w = .arrayClass ty) := fun w hw => ⟨hw, good_of_word (List.mem_filter.mp hw).2⟩
  intro w hw
  rcases List.mem_cons.mp hw with rfl | hw
  · exact hz _ (zW_in (zM_code hj) rfl)
  · exact hz w hw
section ZK2
variable {p : Program} {l : Launch} {e : Env} {R : Room} {s : State} {m : MethodId} {args : Array Value} {below : List Frame} {meth : Method} {c : Code} {Q : State → Prop} {D : va_G} {cT : Nat → ClassId} {b n0 w0 j pc : Nat} {S : zSc} {mc ms : Nat} {ls ls' : Ls} {st st' r : List Value} {h h' : Hp} {pc' n : Nat}
theorem zk_ald (C : zCx p s m args meth c R D cT b S j mc ms) (hd : decode (mC j) pc = .ok (.iaload, 1)) (hs : zald pc ls st h 0 = some (.inl (pc', ls', st', h')))
    (K : zK p l e R s m args below meth c Q D cT b S n0 w0 j pc' ls' st' h') : zK p l e R s m args below meth c Q D cT b S n0 w0 j pc ls st h := by
  intro H locs cells slots la Z
  obtain ⟨hx, hb, hml, hown, hts, hret, hlk, hin, hKC, hR, hbs⟩ := id C
  unfold zald at hs
  split at hs
  · next i a r =>
    split at hs
    · next t' n f ha =>
      split at hs
      · next hc =>
        obtain ⟨hc, hi⟩ := hc
        cases hs
        have k' := K H locs cells slots la Z
        rcases hc with rfl | rfl
        · exact va_iald (D := D) hx hb hKC.1 (Z.2.1.one ha rfl) 0 0 rfl (ztys_at cT (t := 0) (by decide)) hi hd k'
        · rcases Z.2.1.2.2 a _ ha with q | ⟨q1, q2, q3⟩
          · cases q.1
          · cases q3
            subst q2
            exact va_ti hx hb hKC.2.2.2.2.2.2.1 Z.2.2.1 hi rfl hd k'
      · cases hs
    · cases hs
  · cases hs
theorem zk_ast (C : zCx p s m args meth c R D cT b S j mc ms) (hd : decode (mC j) pc = .ok (.iastore, 1)) (hs : zast pc ls st h 0 = some (.inl (pc', ls', st', h')))
    (K : zK p l e R s m args below meth c Q D cT b S n0 w0 j pc' ls' st' h') : zK p l e R s m args below meth c Q D cT b S n0 w0 j pc ls st h := by
  intro H locs cells slots la Z
  obtain ⟨hx, hb, hml, hown, hts, hret, hlk, hin, hKC, hR, hbs⟩ := id C
  unfold zast at hs
  split at hs
  · next x i a r =>
    split at hs
    · next t' n f ha =>
      split at hs
      · next hc =>
        obtain ⟨rfl, hi⟩ := hc
        obtain ⟨hZl, hZr, hZs, hZ1, hZ2⟩ := Z
        have hba := (hZr.ok ha rfl)
        cases hs
        refine W.iast hx hb hba.2 ((hKC.1.2 0 _ (ztys_at cT (t := 0) (by decide))).1 n (fun j => .int (f j))) (fun q => by cases q) (by show ¬ (i < 0 ∨ (arrV _ _ _).slots.size ≤ _); rw [arrV_size]; exact hi) rfl rfl hd fun H1 e z oq => ?_
        refine K H1 _ cells slots la ⟨hZl, hZr.put ha rfl rfl z oq ?_, hZs.put z oq hba.1, hZ1, hZ2⟩
        show H1[a]? = some (vp_cell _ _)
        rw [e]
        show some ((vp_cell (cT 0) (n, .inl f)).setSlot _ _) = some (vp_cell (cT 0) (n, .inl (upd f i.toNatClampNeg (if 0 = 1 then x &&& 1 else x))))
        rw [vp_cell_i, vp_cell_i, arrV_store]
        congr 2
        funext q
        by_cases hq : q = i.toNatClampNeg
        · subst hq
          simp [updV, upd]
        · simp [updV, upd, hq]
      · cases hs
    · cases hs
  · cases hs
theorem ztyp_q {t : Nat} (h : 2 ≤ t ∧ t ≤ 4) : ztyp t = .object (zR (ztc t)) ∧ t ≤ 4 := by
  obtain ⟨h1, h2⟩ := h
  match t, h1, h2 with
  | 2, _, _ => exact ⟨rfl, by decide⟩
  | 3, _, _ => exact ⟨rfl, by decide⟩
  | 4, _, _ => exact ⟨rfl, by decide⟩
  | k + 5, _, h2 => exact absurd h2 (by omega)
theorem ztc_lt (t : Nat) : ztc t < 11 := by
  unfold ztc
  split <;> decide
theorem zk_alq (C : zCx p s m args meth c R D cT b S j mc ms) (hd : decode (mC j) pc = .ok (.aaload, 1)) (hs : zalq pc ls st h = some (.inl (pc', ls', st', h')))
    (K : zK p l e R s m args below meth c Q D cT b S n0 w0 j pc' ls' st' h') : zK p l e R s m args below meth c Q D cT b S n0 w0 j pc ls st h := by
  intro H locs cells slots la Z
  obtain ⟨hx, hb, hml, hown, hts, hret, hlk, hin, hKC, hR, hbs⟩ := id C
  unfold zalq at hs
  split at hs
  · next i a r =>
    split at hs
    · next t n f ha =>
      split at hs
      · next hc =>
        obtain ⟨ht, hi⟩ := hc
        cases hs
        have k' := K H locs cells slots la Z
        have hP := Z.2.1.one ha (zro_q ht)
        obtain ⟨t1, t2⟩ := ztyp_q ht
        exact va_aldq (D := D) (C := zR (ztc t)) hx hb hKC.1 hP 0 t rfl (by rw [← t1]; exact ztys_at cT t2) hi hd k'
      · cases hs
    · cases hs
  · cases hs
theorem zcls_at {v ci : Nat} (hv : zcls h v = some ci) : ∃ fs, h.1 v = some (.inr (ci, fs)) := by
  unfold zcls at hv
  split at hv
  · next c' fs hc => cases hv; exact ⟨fs, hc⟩
  · cases hv
theorem zk_asq (C : zCx p s m args meth c R D cT b S j mc ms) (hd : decode (mC j) pc = .ok (.aastore, 1)) (hs : zasq pc ls st h = some (.inl (pc', ls', st', h')))
    (K : zK p l e R s m args below meth c Q D cT b S n0 w0 j pc' ls' st' h') : zK p l e R s m args below meth c Q D cT b S n0 w0 j pc ls st h := by
  intro H locs cells slots la Z
  obtain ⟨hx, hb, hml, hown, hts, hret, hlk, hin, hKC, hR, hbs⟩ := id C
  unfold zasq at hs
  obtain ⟨hZl, hZr, hZs, hZ1, hZ2⟩ := Z
  split at hs
  · next v i a r =>
    split at hs
    · next t n f ha =>
      split at hs
      · next hc =>
        obtain ⟨⟨ht, hi⟩, hcv⟩ := hc
        obtain ⟨vs, hv⟩ := zcls_at hcv
        cases hs
        have hba := (hZr.ok ha (zro_q ht))
        obtain ⟨t1, t2⟩ := ztyp_q ht
        have hty : (ztys cT)[t]? = some (cT t, .object (zR (ztc t))) := by rw [← t1]; exact ztys_at cT t2
        have hlt : i.toNatClampNeg < n := Nat.not_le.mp fun q => hi (Or.inr q)
        have h0 : ¬ i < 0 := fun q => hi (Or.inl q)
        have hcl := (zin_lays (ztc_lt t)).1
        obtain ⟨r', hr', cellV, g1, g2, g3, -⟩ := (hZr.ok hv rfl).2
        have hcls := (hKC.1.1 (ztc t) _ hcl).2
        obtain ⟨kA, comp, k1, k2, k3, -⟩ := (hKC.1.2 t _ hty).2
        have hcomp : comp = D.1 (ztc t) := Option.some.inj (k3.symm.trans hcls.1)
        subst hcomp
        obtain ⟨kC, hkC, -⟩ := hcls.2
        refine W.aast hx hb hba.2 (fun q h => by cases h) (fun h => by cases h) k1 k2 rfl hkC ⟨h0, by show _ < (arrV _ _ _).slots.size; rw [arrV_size]; exact hlt⟩ g1 (fun q h => by rw [g3] at h; cases h) (by rw [g2]; exact hkC) (by rw [g2]; exact va_assign hcls) rfl rfl hd fun H1 e z oq => ?_
        refine K H1 _ cells slots la ⟨hZl, hZr.put ha (zro_q ht) (zro_q ht) z oq ?_, hZs.put z oq hba.1, hZ1, hZ2⟩
        show H1[a]? = some (vp_cell _ _)
        rw [e]
        show some ((vp_cell (cT t) (n, .inr (.inr (.inr (.inr f))))).setSlot _ _) = some (vp_cell (cT t) (n, .inr (.inr (.inr (.inr (va_up f i.toNatClampNeg (some v)))))))
        rw [vp_cell_q, vp_cell_q, arrV_store]
        congr 2
        funext q
        by_cases hq : q = i.toNatClampNeg
        · subst hq
          simp [updV, va_up, va_rf]
        · simp [updV, va_up, hq]
      · cases hs
    · cases hs
  · next i a r =>
    split at hs
    · next t n f ha =>
      split at hs
      · next hc =>
        obtain ⟨ht, hi⟩ := hc
        cases hs
        have hba := (hZr.ok ha (zro_q ht))
        obtain ⟨t1, t2⟩ := ztyp_q ht
        have hty : (ztys cT)[t]? = some (cT t, .object (zR (ztc t))) := by rw [← t1]; exact ztys_at cT t2
        refine va_WaastN (C := zR (ztc t)) hx hb hba.2 ((hKC.1.2 t _ hty).1 n (fun j => va_rf (f j))) (fun h => by cases h) (by show ¬ (i < 0 ∨ (arrV _ _ _).slots.size ≤ _); rw [arrV_size]; exact hi) rfl rfl hd fun H1 e z oq => ?_
        refine K H1 _ cells slots la ⟨hZl, hZr.put ha (zro_q ht) (zro_q ht) z oq ?_, hZs.put z oq hba.1, hZ1, hZ2⟩
        show H1[a]? = some (vp_cell _ _)
        rw [e]
        show some ((vp_cell (cT t) (n, .inr (.inr (.inr (.inr f))))).setSlot _ _) = some (vp_cell (cT t) (n, .inr (.inr (.inr (.inr (va_up f i.toNatClampNeg none))))))
        rw [vp_cell_q, vp_cell_q, arrV_store]
        congr 2
        funext q
        by_cases hq : q = i.toNatClampNeg
        · subst hq
          simp [updV, va_up, va_rf]
        · simp [updV, va_up, hq]
      · cases hs
    · cases hs
  · cases hs
theorem zk_aln (C : zCx p s m args meth c R D cT b S j mc ms) (hd : decode (mC j) pc = .ok (.arraylength, 1)) (hs : zaln pc ls st h = some (.inl (pc', ls', st', h')))
    (K : zK p l e R s m args below meth c Q D cT b S n0 w0 j pc' ls' st' h') : zK p l e R s m args below meth c Q D cT b S n0 w0 j pc ls st h := by
  intro H locs cells slots la Z
  obtain ⟨hx, hb, hml, hown, hts, hret, hlk, hin, hKC, hR, hbs⟩ := id C
  unfold zaln at hs
  split at hs
  · next a r =>
    split at hs
    · next n hn =>
      cases hs
      have k' := K H locs cells slots la Z
      unfold zlen at hn
      split at hn
      · next t n' f ha =>
        split at hn
        · next ht =>
          cases hn
          match t, ht, ha with
          | 0, _, ha => exact va_alen (D := D) hx hb hKC.1 (Z.2.1.one ha rfl) 0 0 rfl (ztys_at cT (t := 0) (by decide)) rfl hd k'
          | 1, _, ha =>
            rcases Z.2.1.2.2 a _ ha with q | ⟨q1, q2, q3⟩
            · cases q.1
            · cases q3
              subst q2
              exact va_tlen hx hb hKC.2.2.2.2.2.2.1 Z.2.2.1 rfl hd k'
          | t + 2, ht, _ => exact (Nat.not_succ_le_zero _ (Nat.le_of_succ_le_succ ht)).elim
        · cases hn
      · next t n' f ha =>
        split at hn
        · next ht =>
          cases hn
          exact va_alen (D := D) hx hb hKC.1 (Z.2.1.one ha (zro_q ht)) 0 t rfl (ztys_at cT ht.2) rfl hd k'
        · cases hn
      · cases hn
    · cases hs
  · cases hs
theorem zk_nea {ty : ArrayType} (C : zCx p s m args meth c R D cT b S j mc ms) (hd : decode (mC j) pc = .ok (.newarray ty, 2)) (hs : znea pc ls st h ty = some (.inl (pc', ls', st', h'))) (hm : h'.2.1 ≤ n0 + mc ∧ h'.2.2 ≤ w0 + ms)
    (K : zK p l e R s m args below meth c Q D cT b S n0 w0 j pc' ls' st' h') : zK p l e R s m args below meth c Q D cT b S n0 w0 j pc ls st h := by
  intro H locs cells slots la Z
  obtain ⟨hx, hb, hml, hown, hts, hret, hlk, hin, hKC, hR, hbs⟩ := id C
  unfold znea at hs
  split at hs
  · next n r =>
    split at hs
    · next hc =>
      obtain ⟨h0, hmax⟩ := hc
      obtain ⟨hZl, hZr, hZs, hZ1, hZ2⟩ := Z
      cases ty with
      | int =>
        cases hs
        simp only [hnew] at hm
        refine va_newaK hx hb (atype := .int) (hts _ (zW_in zAO_in.2.2.2 rfl)) rfl hd rfl h0 rfl (by show n.toNatClampNeg * 4 ≤ _; omega) (by have := hR.2.1; omega) (by have := hR.2.2.1; omega) rfl fun H1 cA e1 z1 o1 hAr hNm => ?_
        have hcA : cA = cT 0 := Option.some.inj (hNm.symm.trans ((hKC.1.2 0 _ (ztys_at cT (t := 0) (by decide))).2))
        subst hcA
        rw [hZr.1] at e1 z1 o1 ⊢
        refine K H1 _ _ _ la ⟨hZl, hZr.new rfl (by rw [hZr.1]; exact z1) (by rw [hZr.1]; exact o1) ?_, ⟨Nat.le_trans hZs.1 (by rw [hZr.1]; omega), fun x h1 h2 => (o1 x (Nat.lt_of_lt_of_le h1 (by rw [← hZr.1]; exact hZs.1))).trans (hZs.2.1 x h1 h2), hZs.2.2⟩, by simp only [hnew]; omega, by simp only [hnew]; omega⟩
        show H1[H.size]? = some (vp_cell _ _)
        rw [hZr.1, e1]
        rfl
      | _ => cases hs
    · cases hs
  · cases hs
end ZK2
