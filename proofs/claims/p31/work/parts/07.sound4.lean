theorem zdef_ok : ∀ ci, ci < 11 → ∀ k, k < zN ci → defaultValue (zty ci k) = zdef (zty ci k) := by decide +kernel
section ZK3
variable {p : Program} {l : Launch} {e : Env} {R : Room} {s : State} {m : MethodId} {args : Array Value} {below : List Frame} {meth : Method} {c : Code} {Q : State → Prop} {D : va_G} {cT : Nat → ClassId} {b n0 w0 j pc : Nat} {S : zSc} {mc ms : Nat} {ls ls' : Ls} {st st' r : List Value} {h h' : Hp} {pc' n : Nat}
theorem zk_neq {idx : Nat} (C : zCx p s m args meth c R D cT b S j mc ms) (hd : decode (mC j) pc = .ok (.anewarray idx, 3)) (hs : zneq j pc ls st h idx = some (.inl (pc', ls', st', h'))) (hm : h'.2.1 ≤ n0 + mc ∧ h'.2.2 ≤ w0 + ms)
    (K : zK p l e R s m args below meth c Q D cT b S n0 w0 j pc' ls' st' h') : zK p l e R s m args below meth c Q D cT b S n0 w0 j pc ls st h := by
  intro H locs cells slots la Z
  obtain ⟨hx, hb, hml, hown, hts, hret, hlk, hin, hKC, hR, hbs⟩ := id C
  unfold zneq at hs
  split at hs
  · next n r =>
    split at hs
    · next hc =>
      obtain ⟨h0, hmax⟩ := hc
      split at hs
      · next t hz =>
        obtain ⟨hZl, hZr, hZs, hZ1, hZ2⟩ := Z
        obtain ⟨w1, w2⟩ := zAn_at hz
        cases hs
        simp only [hnew] at hm
        obtain ⟨t1, t2⟩ := ztyp_q (t := t) (by omega)
        have hty : (ztys cT)[t]? = some (cT t, .object (zR (ztc t))) := by rw [← t1]; exact ztys_at cT t2
        have hAO : va_AO (zR (ztc t)) s := by
          rcases w2 with rfl | rfl | rfl
          · exact hKC.2.2.1.1
          · exact hKC.2.2.1.2.1
          · exact hKC.2.2.1.2.2
        refine W.anew hx hb hown (hts _ (zW_in w1 rfl)) (va_AO.use hAO) rfl hd rfl h0 (by omega) (by have := hR.2.1; omega) (by have := hR.2.2.1; omega) fun cA kA comp f1 f2 f3 f4 => ?_
        have hcA : cA = cT t := by
          obtain ⟨_, _, _, _, _, k4⟩ := (hKC.1.2 t _ hty).2
          exact Option.some.inj (f1.symm.trans k4)
        subst hcA
        generalize hH1 : H.push ({ cls := cT t, slots := Array.replicate n.toNatClampNeg .null, vm := .none } : Cell) = H1
        have z1 : H1.size = H.size + 1 := by rw [← hH1, Array.size_push]
        have e1 : H1[H.size]? = some (arrV (cT t) n.toNatClampNeg (fun _ => .null)) := by rw [← hH1, Array.getElem?_push_size, ← arrV_new]
        have o1 : ∀ q : Nat, q < H.size → H1[q]? = H[q]? := fun q hq => by rw [← hH1, Array.getElem?_push, if_neg (Nat.ne_of_lt hq)]
        have hsz := hZr.1
        have k' := K H1 locs (cells + 1) (slots + n.toNatClampNeg) la ⟨hZl, hZr.new (zro_q (t := t) (by omega)) z1 o1 (by
          show H1[H.size]? = some (vp_cell _ _)
          rw [e1]
          rfl), ⟨Nat.le_trans hZs.1 (by omega), fun x h1 h2 => (o1 x (Nat.lt_of_lt_of_le h1 hZs.1)).trans (hZs.2.1 x h1 h2), hZs.2.2⟩, by simp only [hnew]; omega, by simp only [hnew]; omega⟩
        rw [← hsz] at k'
        exact k'
      · cases hs
    · cases hs
  · cases hs
theorem zk_neo {idx : Nat} (C : zCx p s m args meth c R D cT b S j mc ms) (hd : decode (mC j) pc = .ok (.new idx, 3)) (hs : zneo j pc ls st h idx = some (.inl (pc', ls', st', h'))) (hm : h'.2.1 ≤ n0 + mc ∧ h'.2.2 ≤ w0 + ms)
    (K : zK p l e R s m args below meth c Q D cT b S n0 w0 j pc' ls' st' h') : zK p l e R s m args below meth c Q D cT b S n0 w0 j pc ls st h := by
  intro H locs cells slots la Z
  obtain ⟨hx, hb, hml, hown, hts, hret, hlk, hin, hKC, hR, hbs⟩ := id C
  unfold zneo at hs
  split at hs
  · next ci hz =>
    obtain ⟨hZl, hZr, hZs, hZ1, hZ2⟩ := Z
    obtain ⟨w1, w2⟩ := zNw_at hz
    obtain ⟨z1, z2, z3, z4⟩ := zin_lays w2
    cases hs
    simp only [hnew] at hm
    have hKn := hKC.1.1 ci _ z1
    have z5 : ∀ w ∈ u_ws (zR ci) (zT ci) (zN ci), w ∈ zW := fun w hw => zW_in (z2 w hw) (by unfold u_ws at hw; obtain ⟨q, -, rfl⟩ := List.mem_map.mp hw; unfold u_lay; split <;> rfl)
    refine W.newcK hx hb hown (hts _ (zW_in (w1 _ (List.mem_cons_self)) rfl)) (hts _ (zW_in (w1 _ (List.mem_cons_of_mem _ List.mem_cons_self)) rfl)) (hts _ (zW_in (w1 _ (List.mem_cons_of_mem _ (List.mem_cons_of_mem _ List.mem_cons_self))) rfl)) rfl hd (by have := hR.2.1; omega) (by have := hR.2.2.1; omega) hKn.2.1 rfl fun H1 kC hkC e1 q1 o1 => ?_
    have hsz := hZr.1
    have k' := K H1 locs (cells + 1) (slots + zN ci) la ⟨hZl, hZr.new rfl q1 o1 (by
      refine ⟨_, z1, (u_born (zty ci) hts z5 hKn hkC e1 z3).to (fun k hk => ?_)⟩
      rw [zdef_ok ci w2 k hk]
      simp [vp_V, hk]), ⟨Nat.le_trans hZs.1 (by omega), fun x h1 h2 => (o1 x (Nat.lt_of_lt_of_le h1 hZs.1)).trans (hZs.2.1 x h1 h2), hZs.2.2⟩, by simp only [hnew]; omega, by simp only [hnew]; omega⟩
    rw [← hsz] at k'
    exact k'
  · cases hs
/-- behind a call -/
theorem zk_back {rest : List Value} {v : Option Value} {a : Array Value} {H : Heap} {locs : List Loc} {cells slots : Nat} {la : Array Slot} {st0 : List Value} {mc1 ms1 : Nat} (C : zCx p s m args meth c R D cT b S j mc ms)
    (hr : va_Run p l e R s m args below meth c H locs cells slots mc1 ms1 (F0 m pc la st0) rest (zQ D cT b S v h' a) (fun q => b ≤ q)) (Z : zSt D cT b S n0 w0 s j ls h la H locs cells slots) (h1 : h'.2.1 = h.2.1 + mc1) (h2 : h'.2.2 = h.2.2 + ms1)
    (K : zK p l e R s m args below meth c Q D cT b S n0 w0 j (pc + 3) ls (v.toList ++ rest) h') : W p l e R s m args below meth c H locs cells slots Q (F0 m pc la st0) := by
  intro T hT X
  obtain ⟨v', st₀, t, T', L, g0, X', hL, e1, e2, ⟨hv, hRep, hz, hk⟩, stp⟩ := hr T hT X
  cases hv
  obtain ⟨hZl, hZr, hZs, hZ1, hZ2⟩ := Z
  rw [g0] at hz hk
  have k' := K T'.heap (locs ++ L) (cells + mc1) (slots + ms1) la ⟨hZl, by rw [e1]; exact hRep, ⟨Nat.le_trans hZs.1 (by rw [e1]; exact hz), fun q q1 q2 => by rw [e1, hk q (Nat.lt_of_lt_of_le q1 hZs.1) q2]; exact hZs.2.1 q q1 q2, fun q hq => by
      rcases List.mem_append.mp hq with x | x
      · exact hZs.2.2 q x
      · exact hL q x⟩, by omega, by omega⟩
  obtain ⟨t2, a1, b1⟩ := k' T' rfl X'
  exact ⟨t2, stp t2 a1, b1⟩
theorem zPc_pre {as : List Value} {H : Heap} {locs : List Loc} (hbs : b ≤ s.heap.size) (hKC : zKC D cT b S s) (hZr : zRep D cT b S h H) (hZs : va_S (fun q => b ≤ q) s.heap H locs) :
    FrameBlind (va_Pc as (zPc D cT b S h)) ∧ ∀ U : State, U.heap = H → s.WarmedH U.vm → va_Pc as (zPc D cT b S h) as.toArray U := by
  refine ⟨fun a U g mk q => ⟨q.1, q.2.1.call, q.2.2⟩, fun U hU hW => ⟨rfl, ?_, by rw [hU]; exact hZr⟩⟩
  exact hKC.moved hW.alike (fun w hw hz => (zNest_of hw).2 hW hz) (fun a h1 h2 => by rw [hU]; exact hZs.2.1 a h1 h2)
theorem zsplit_at {st as rest : List Value} {n : Nat} (h : zsplit st n = some (as, rest)) : st = as.reverse ++ rest ∧ as.length = n := by
  unfold zsplit at h
  split at h
  · next hn =>
    cases h
    refine ⟨by rw [List.reverse_reverse]; exact (List.take_append_drop n st).symm, by simp; omega⟩
  · cases h
theorem zroom {rest : List Value} (h : rest.length ≤ 4) : (rest.map fun v => v.category).sum ≤ 8 := by
  have h1 : ∀ l : List Value, (l.map fun v => v.category).sum ≤ 2 * l.length := by
    intro l
    induction l with
    | nil => simp
    | cons v l ih =>
      rcases lv_cat v with q | q <;> simp [q] at ih ⊢ <;> omega
  have := h1 rest
  omega
theorem zchk0 {y : Nat} {as : List Value} (hck : zchk h y as 0 = true) : ∃ a As fs, as = .ref a :: As ∧ h.1 a = some (.inr (mK y, fs)) := by
  simp only [zchk] at hck
  split at hck
  · next a As =>
    split at hck
    · next ci fs ha =>
      have hci : ci = mK y := Nat.eq_of_beq_eq_true hck
      subst hci
      exact ⟨a, As, fs, rfl, ha⟩
    · cases hck
  · cases hck
theorem zchk1 {y : Nat} {as : List Value} (hck : zchk h y as 1 = true) : ∃ a As, as = .ref a :: As ∧ mT y = none := by
  simp only [zchk] at hck
  split at hck
  · next a As =>
    refine ⟨a, As, rfl, ?_⟩
    cases hq : mT y with
    | none => rfl
    | some q => rw [hq] at hck; cases hck
  · cases hck
/-- a call of method y, whose contract is known -/
theorem zk_go {y kd idx : Nat} {as rest : List Value} {v : Option Value} (C : zCx p s m args meth c R D cT b S j mc ms) (hj : j < 117)
    (hM : zMet l D cT b S y as h v h') (hz : zmth (mK j) idx = some (y, kd)) (hyh : mH y < mH j) (hrest : rest.length ≤ 4) (has : as.length = mN y + (if Nat.ble 2 kd then 0 else 1)) (hck : zchk h y as kd = true)
    (hle : h.2.1 ≤ h'.2.1 ∧ h.2.2 ≤ h'.2.2) (hm : h'.2.1 ≤ n0 + mc ∧ h'.2.2 ≤ w0 + ms)
    (hd : (kd = 0 ∧ decode (mC j) pc = .ok (.invokevirtual idx, 3)) ∨ (kd = 1 ∧ decode (mC j) pc = .ok (.invokespecial idx, 3)) ∨ ((kd = 2 ∨ kd = 3) ∧ decode (mC j) pc = .ok (.invokestatic idx, 3)))
    (K : zK p l e R s m args below meth c Q D cT b S n0 w0 j (pc + 3) ls (v.toList ++ rest) h') : zK p l e R s m args below meth c Q D cT b S n0 w0 j pc ls (as.reverse ++ rest) h := by
  intro H locs cells slots la Z
  obtain ⟨hx, hb, hml, hown, hts, hret, hlk, hin, hKC, hR, hbs⟩ := id C
  obtain ⟨w1, w2, w3⟩ := zCl_at hz
  obtain ⟨y1, y2, y3, y4, y5, y6⟩ := zM_at (j := y) (by omega)
  obtain ⟨mc1, hmc1⟩ : ∃ mc1, h'.2.1 = h.2.1 + mc1 := ⟨h'.2.1 - h.2.1, by omega⟩
  obtain ⟨ms1, hms1⟩ : ∃ ms1, h'.2.2 = h.2.2 + ms1 := ⟨h'.2.2 - h.2.2, by omega⟩
  have hM := hM mc1 ms1 hmc1 hms1
  have hG := zws_good w2
  obtain ⟨hZl, hZr, hZs, hZ1, hZ2⟩ := id Z
  have hRm : ({ frames := mH y, cells := mc1, slots := ms1, locals := 29 * mH y } : Room).frames + 1 ≤ R.frames ∧ 8 + (mL y + 11) + ({ frames := mH y, cells := mc1, slots := ms1, locals := 29 * mH y } : Room).locals ≤ R.locals := by
    refine ⟨Nat.le_trans hyh hR.1, Nat.le_trans ?_ hR.2.2.2⟩
    have := zM_loc (y := y) (by omega) hj hyh
    show 8 + (mL y + 11) + 29 * mH y ≤ 29 * mH j
    omega
  have hf : cells + mc1 ≤ R.cells ∧ slots + ms1 ≤ R.slots := by
    exact ⟨Nat.le_trans (by omega) hR.2.1, Nat.le_trans (by omega) hR.2.2.1⟩
  have hsz : la.size = mL j := hZl.2.1
  obtain ⟨pb, pu⟩ := zPc_pre (as := as) hbs hKC hZr hZs
  rcases hd with ⟨rfl, hd⟩ | ⟨rfl, hd⟩ | ⟨hk, hd⟩
  · obtain ⟨a, As, fs, rfl, ha⟩ := zchk0 hck
    have hk11 : mK y < 11 := by
      obtain ⟨r, hr, -⟩ := (hZr.ok ha rfl).2
      exact (List.getElem?_eq_some_iff.mp hr).1
    have hcl := (zin_lays hk11).1
    have hrecv := va_recv hKC.1 (hZr.one ha rfl) (q0 := 0) hcl rfl
    have g1 : (Cond.methodLink (zR (mK j)) idx (mY y)) ∈ lw_tbl := w1 _ (by simp [zCw])
    have g2 : (Cond.initialized (mY y).cls) ∈ lw_tbl := w1 _ (by simp [zCw])
    have g3 : (Cond.instanceMethod (mY y)) ∈ lw_tbl := w1 _ (by simp [zCw])
    have g4 : (Cond.selects (zR (mK y)) (mY y) (mY y)) ∈ lw_tbl := w1 _ (by simp [zCw])
    have cb : CallB R s args (zR (mK j)) idx (mY y) (mC y) (mL y) (mT y) (zws y) _ mc1 ms1 (mN y) := callB_of (mN y) hts hG rfl rfl rfl (hts _ (zW_in g2 rfl)) (hts _ (zW_in g1 rfl)) ⟨y6.1, y6.2, y2⟩ hRm
    refine zk_back C (va_runV (As := As) (rest := rest) ⟨hx, hb, hml, hown, hts⟩ hM ⟨cb, hts _ (zW_in g3 rfl), hts _ (zW_in g4 rfl)⟩ ⟨pb, hrecv, pu⟩ rfl ?_ hsz ?_ (lv_room (zroom hrest)) hd hf) Z hmc1 hms1 K
    · have : (Value.ref a :: As).length = mN y + 1 := has
      simpa using this
    · show (Value.ref a :: As).reverse ++ rest = As.reverse ++ Value.ref a :: rest
      simp
  · obtain ⟨a, As, rfl, hT⟩ := zchk1 hck
    have g1 : (Cond.methodLink (zR (mK j)) idx (mY y)) ∈ lw_tbl := w1 _ (by simp [zCw])
    have g2 : (Cond.initialized (mY y).cls) ∈ lw_tbl := w1 _ (by simp [zCw])
    have g3 : (Cond.instanceMethod (mY y)) ∈ lw_tbl := w1 _ (by simp [zCw])
    have hws : zws y = Cond.code (mY y) (mC y) (mL y) none :: zW := by unfold zws; rw [hT]
    have cb : CallB R s args (zR (mK j)) idx (mY y) (mC y) (mL y) none (zws y) _ mc1 ms1 (mN y) := callB_of (mN y) hts hG hws rfl rfl (hts _ (zW_in g2 rfl)) (hts _ (zW_in g1 rfl)) ⟨y6.1, y6.2, y2⟩ hRm
    refine zk_back C (va_runI (As := As) (b := a) (rest := rest) ⟨hx, hb, hml, hown, hts⟩ hM ⟨cb, w3.mp rfl, hts _ (zW_in g3 rfl)⟩ ⟨pb, pu⟩ rfl ?_ hsz ?_ (lv_room (zroom hrest)) hd hf) Z hmc1 hms1 K
    · have : (Value.ref a :: As).length = mN y + 1 := has
      simpa using this
    · show (Value.ref a :: As).reverse ++ rest = As.reverse ++ Value.ref a :: rest
      simp
  · rcases hk with rfl | rfl
    · have g1 : (Cond.methodLink (zR (mK j)) idx (mY y)) ∈ lw_tbl := w1 _ (by simp [zCw])
      have g2 : (Cond.initialized (mY y).cls) ∈ lw_tbl := w1 _ (by simp [zCw])
      have g3 : (Cond.static (mY y)) ∈ lw_tbl := w1 _ (by simp [zCw])
      have cb : CallB R s args (zR (mK j)) idx (mY y) (mC y) (mL y) (mT y) (zws y) _ mc1 ms1 (mN y) := callB_of (mN y) hts hG rfl rfl rfl (hts _ (zW_in g2 rfl)) (hts _ (zW_in g1 rfl)) ⟨y6.1, y6.2, y2⟩ hRm
      exact zk_back C (va_runS (As := as) (rest := rest) ⟨hx, hb, hml, hown, hts⟩ hM ⟨cb, hts _ (zW_in g3 rfl)⟩ ⟨pb, pu⟩ rfl has hsz rfl (lv_room (zroom hrest)) hd hf) Z hmc1 hms1 K
    · have g1 : (Cond.methodLinkNest (zR (mK j)) idx (mY y) "SubtitleStyles") ∈ lw_tbl := w1 _ (by simp [zCw])
      have g2 : (Cond.initialized (mY y).cls) ∈ lw_tbl := w1 _ (by simp [zCw])
      have g3 : (Cond.static (mY y)) ∈ lw_tbl := w1 _ (by simp [zCw])
      have cb : va_CN R s args (zR (mK j)) idx (mY y) "SubtitleStyles" (mC y) (mL y) (mT y) (zws y) _ mc1 ms1 (mN y) := va_cnB (mN y) hts hG rfl rfl rfl (hKC.2.1 _ (List.mem_filter.mpr ⟨g1, rfl⟩)) (hts _ (zW_in g2 rfl)) ⟨y6.1, y6.2, y2⟩ hRm
      exact zk_back C (va_runSN (As := as) (rest := rest) ⟨hx, hb, hml, hown, hts⟩ hM ⟨cb, hts _ (zW_in g3 rfl), trivial⟩ ⟨pb, pu⟩ rfl has hsz rfl (lv_room (zroom hrest)) hd hf) Z hmc1 hms1 K
end ZK3
