/-! one step: the rows of the kit, over the picture -/
def zCx (p : Program) (s : State) (m : MethodId) (args : Array Value) (meth : Method) (c : Code) (R : Room) (D : va_G) (cT : Nat → ClassId) (b : Nat) (S : zSc) (j mc ms : Nat) : Prop :=
  p.tables.exec = Jvm.exec ∧ c.code = mC j ∧ c.maxLocals = mL j ∧ s.vm.findClass (zR (mK j)) = some m.cls ∧ (∀ w ∈ zW, w.before args s = true) ∧ meth.sig.returnType = mT j ∧ meth.locks = false ∧ ((mY j).name = "<init>" → meth.name = "<init>") ∧ zKC D cT b S s ∧ (mH j ≤ R.frames ∧ mc ≤ R.cells ∧ ms ≤ R.slots ∧ 29 * mH j ≤ R.locals) ∧ b ≤ s.heap.size
def zSt (D : va_G) (cT : Nat → ClassId) (b : Nat) (S : zSc) (n0 w0 : Nat) (s : State) (j : Nat) (ls : Ls) (h : Hp) (la : Array Slot) (H : Heap) (locs : List Loc) (cells slots : Nat) : Prop :=
  zhas la (mL j) ls ∧ zRep D cT b S h H ∧ va_S (fun q => b ≤ q) s.heap H locs ∧ h.2.1 = n0 + cells ∧ h.2.2 = w0 + slots
def zK (p : Program) (l : Launch) (e : Env) (R : Room) (s : State) (m : MethodId) (args : Array Value) (below : List Frame) (meth : Method) (c : Code) (Q : State → Prop) (D : va_G) (cT : Nat → ClassId) (b : Nat) (S : zSc) (n0 w0 j pc : Nat) (ls : Ls) (st : List Value) (h : Hp) : Prop :=
  ∀ (H : Heap) (locs : List Loc) (cells slots : Nat) (la : Array Slot), zSt D cT b S n0 w0 s j ls h la H locs cells slots → W p l e R s m args below meth c H locs cells slots Q (F0 m pc la st)
theorem zW_in {w : Cond} (h : w ∈ lw_tbl) (hg : goodWord w = true) : w ∈ zW := List.mem_filter.mpr ⟨h, hg⟩
/-- a cell is written, all else stays -/
theorem zRep.ok {D : va_G} {cT : Nat → ClassId} {b : Nat} {S : zSc} {h : Hp} {H : Heap} {a : Nat} {e : va_E} (hR : zRep D cT b S h H) (ha : h.1 a = some e) (hz : zro e = false) : b ≤ a ∧ va_at D vwCl (a, zconv cT e) H := by
  rcases hR.2.2 a e ha with q | ⟨-, -, rfl⟩
  · exact q.2
  · cases hz
theorem zro_q {t n : Nat} {x} (h : 2 ≤ t ∧ t ≤ 4) : zro (.inl (t, n, x)) = false := by
  show Nat.beq t 1 = false
  cases hq : Nat.beq t 1 with
  | false => rfl
  | true => have := Nat.eq_of_beq_eq_true hq; omega
theorem zRep.put {D : va_G} {cT : Nat → ClassId} {b : Nat} {S : zSc} {h : Hp} {H H1 : Heap} {a : Nat} {e0 e : va_E} (hR : zRep D cT b S h H) (ha : h.1 a = some e0) (z0 : zro e0 = false) (z1 : zro e = false) (z : H1.size = H.size) (oq : ∀ q : Nat, q ≠ a → H1[q]? = H[q]?) (he : va_at D vwCl (a, zconv cT e) H1) : zRep D cT b S (hset h a e) H1 := by
  have hk := hR.ok ha z0
  obtain ⟨h1, h2, h3⟩ := hR
  refine ⟨by rw [z]; exact h1, h2, fun q e' hq => ?_⟩
  by_cases hqa : q = a
  · subst hqa
    simp only [hset, if_true] at hq
    cases hq
    exact Or.inl ⟨z1, hk.1, he⟩
  · simp only [hset, if_neg hqa] at hq
    rcases h3 _ _ hq with ⟨g0, g1, g2⟩ | g
    · exact Or.inl ⟨g0, g1, g2.kept (oq q hqa)⟩
    · exact Or.inr g
/-- a cell is made -/
theorem zRep.new {D : va_G} {cT : Nat → ClassId} {b : Nat} {S : zSc} {h : Hp} {H H1 : Heap} {e : va_E} {k : Nat} (hR : zRep D cT b S h H) (hz : zro e = false) (z : H1.size = H.size + 1) (oq : ∀ q : Nat, q < H.size → H1[q]? = H[q]?) (he : va_at D vwCl (H.size, zconv cT e) H1) : zRep D cT b S (hnew h e k) H1 := by
  obtain ⟨h1, h2, h3⟩ := hR
  refine ⟨by rw [z, h1]; rfl, Nat.le_succ_of_le h2, fun q e' hq => ?_⟩
  by_cases hqa : q = h.2.1
  · subst hqa
    simp only [hnew, if_true] at hq
    cases hq
    exact Or.inl ⟨hz, h2, by rw [← h1]; exact he⟩
  · simp only [hnew, if_neg hqa] at hq
    rcases h3 _ _ hq with ⟨g0, g1, g2⟩ | g
    · exact Or.inl ⟨g0, g1, g2.kept (oq q g2.lt)⟩
    · exact Or.inr g
theorem zRep.one {D : va_G} {cT : Nat → ClassId} {b : Nat} {S : zSc} {h : Hp} {H : Heap} {a : Nat} {e : va_E} (hR : zRep D cT b S h H) (ha : h.1 a = some e) (hz : zro e = false) : va_P D vwCl [(a, zconv cT e)] H := by
  intro k q hk
  cases k with
  | zero => cases hk; exact (hR.ok ha hz).2
  | succ k => simp at hk
section ZK
variable {p : Program} {l : Launch} {e : Env} {R : Room} {s : State} {m : MethodId} {args : Array Value} {below : List Frame} {meth : Method} {c : Code} {Q : State → Prop} {D : va_G} {cT : Nat → ClassId} {b n0 w0 j pc : Nat} {S : zSc} {mc ms : Nat} {ls ls' : Ls} {st st' r : List Value} {h h' : Hp} {pc' n : Nat}
theorem zk_to {off : Int} (C : zCx p s m args meth c R D cT b S j mc ms) (hs : zto pc off ls st h = some (.inl (pc', ls', st', h'))) : (pc : Int) + off = (pc' : Int) ∧ ls' = ls ∧ st' = st ∧ h' = h := by
  unfold zto at hs
  split at hs
  · next h0 =>
    cases hs
    exact ⟨by omega, rfl, rfl, rfl⟩
  · cases hs
theorem zk_br {i : ClassFile.Cond} {off : Int} {x : Int32} (C : zCx p s m args meth c R D cT b S j mc ms) (hd : decode (mC j) pc = .ok (.ifCond i off, 3)) (hs : zbr pc off (zc i x 0) ls r h = some (.inl (pc', ls', st', h')))
    (K : zK p l e R s m args below meth c Q D cT b S n0 w0 j pc' ls' st' h') : zK p l e R s m args below meth c Q D cT b S n0 w0 j pc ls (.int x :: r) h := by
  intro H locs cells slots la Z
  obtain ⟨hx, hb, -⟩ := id C
  unfold zbr at hs
  split at hs
  · next h0 =>
    obtain ⟨tgt, ht⟩ : ∃ tgt : Nat, (pc : Int) + off = (tgt : Int) := ⟨((pc : Int) + off).toNat, by omega⟩
    have ht2 : ((pc : Int) + off).toNat = tgt := by omega
    rw [ht2] at hs
    cases hs
    by_cases hc : zc i x 0 = true
    · rw [if_pos hc] at K
      have k := K H locs cells slots la Z
      cases i <;> simp only [zc, decide_eq_true_eq] at hc
      · exact lv_if_eq hx hb hd ht (fun _ => k) (fun q => absurd hc q)
      · exact lv_if_ne hx hb hd ht (fun _ => k) (fun q => absurd q hc)
      · exact lv_if_lt hx hb hd ht (fun _ => k) (fun q => absurd hc q)
      · exact lv_if_ge hx hb hd ht (fun _ => k) (fun q => absurd hc q)
      · exact lv_if_gt hx hb hd ht (fun _ => k) (fun q => absurd hc q)
      · exact lv_if_le hx hb hd ht (fun _ => k) (fun q => absurd hc q)
    · rw [if_neg hc] at K
      have k := K H locs cells slots la Z
      cases i <;> simp only [zc, decide_eq_true_eq] at hc
      · exact lv_if_eq hx hb hd ht (fun q => absurd q hc) (fun _ => k)
      · exact lv_if_ne hx hb hd ht (fun q => absurd q hc) (fun _ => k)
      · exact lv_if_lt hx hb hd ht (fun q => absurd q hc) (fun _ => k)
      · exact lv_if_ge hx hb hd ht (fun q => absurd q hc) (fun _ => k)
      · exact lv_if_gt hx hb hd ht (fun q => absurd q hc) (fun _ => k)
      · exact lv_if_le hx hb hd ht (fun q => absurd q hc) (fun _ => k)
  · cases hs
theorem zk_br2 {i : ClassFile.Cond} {off : Int} {x y : Int32} (C : zCx p s m args meth c R D cT b S j mc ms) (hd : decode (mC j) pc = .ok (.if_icmp i off, 3)) (hs : zbr pc off (zc i x y) ls r h = some (.inl (pc', ls', st', h')))
    (K : zK p l e R s m args below meth c Q D cT b S n0 w0 j pc' ls' st' h') : zK p l e R s m args below meth c Q D cT b S n0 w0 j pc ls (.int y :: .int x :: r) h := by
  intro H locs cells slots la Z
  obtain ⟨hx, hb, -⟩ := id C
  unfold zbr at hs
  split at hs
  · next h0 =>
    obtain ⟨tgt, ht⟩ : ∃ tgt : Nat, (pc : Int) + off = (tgt : Int) := ⟨((pc : Int) + off).toNat, by omega⟩
    have ht2 : ((pc : Int) + off).toNat = tgt := by omega
    rw [ht2] at hs
    cases hs
    by_cases hc : zc i x y = true
    · rw [if_pos hc] at K
      have k := K H locs cells slots la Z
      cases i <;> simp only [zc, decide_eq_true_eq] at hc
      · exact lv_icmp_eq hx hb hd ht (fun _ => k) (fun q => absurd hc q)
      · exact lv_icmp_ne hx hb hd ht (fun _ => k) (fun q => absurd q hc)
      · exact lv_icmp_lt hx hb hd ht (fun _ => k) (fun q => absurd hc q)
      · exact lv_icmp_ge hx hb hd ht (fun _ => k) (fun q => absurd hc q)
      · exact lv_icmp_gt hx hb hd ht (fun _ => k) (fun q => absurd hc q)
      · exact lv_icmp_le hx hb hd ht (fun _ => k) (fun q => absurd hc q)
    · rw [if_neg hc] at K
      have k := K H locs cells slots la Z
      cases i <;> simp only [zc, decide_eq_true_eq] at hc
      · exact lv_icmp_eq hx hb hd ht (fun q => absurd q hc) (fun _ => k)
      · exact lv_icmp_ne hx hb hd ht (fun q => absurd q hc) (fun _ => k)
      · exact lv_icmp_lt hx hb hd ht (fun q => absurd q hc) (fun _ => k)
      · exact lv_icmp_ge hx hb hd ht (fun q => absurd q hc) (fun _ => k)
      · exact lv_icmp_gt hx hb hd ht (fun q => absurd q hc) (fun _ => k)
      · exact lv_icmp_le hx hb hd ht (fun q => absurd q hc) (fun _ => k)
  · cases hs
theorem zk_get {idx : Nat} {a : Nat} (C : zCx p s m args meth c R D cT b S j mc ms) (hj : j < 117) (hd : decode (mC j) pc = .ok (.getfield idx, 3)) (hs : zgetf j pc ls st h idx = some (.inl (pc', ls', st', h')))
    (K : zK p l e R s m args below meth c Q D cT b S n0 w0 j pc' ls' st' h') : zK p l e R s m args below meth c Q D cT b S n0 w0 j pc ls st h := by
  intro H locs cells slots la Z
  obtain ⟨hx, hb, hml, hown, hts, hret, hlk, hin, hKC, hR, hbs⟩ := id C
  unfold zgetf at hs
  split at hs
  · next a r =>
    split at hs
    · next ci k hf =>
      split at hs
      · next c' fs ha =>
        split at hs
        · next hc =>
          subst hc
          split at hs
          · next v hv =>
            cases hs
            have k' := K H locs cells slots la Z
            have hP := Z.2.1.one ha rfl
            obtain ⟨g1, g2, g3, g5, g4⟩ := zF_at hf
            obtain ⟨z1, z2, z3, z4⟩ := zin_lays g2
            rcases g4 with g4 | g4
            · exact va_get (D := D) hx hb hts (fun w hw => zW_in (z2 w hw) (by unfold u_ws at hw; obtain ⟨q, -, rfl⟩ := List.mem_map.mp hw; unfold u_lay; split <;> rfl)) hown hKC.1 hP 0 rfl z1 k g1 (hts _ (zW_in g4 rfl)) (fun x hx2 => by rw [← g3]; exact hx2) hv hd k'
            · exact va_getN (D := D) hx hb hts (fun w hw => zW_in (z2 w hw) (by unfold u_ws at hw; obtain ⟨q, -, rfl⟩ := List.mem_map.mp hw; unfold u_lay; split <;> rfl)) hown hKC.1 hP 0 rfl z1 k g1 (va_Nw.use rfl (hKC.2.1 _ (List.mem_filter.mpr ⟨g4, rfl⟩))) (fun x hx2 => by rw [← g3]; exact hx2) hv hd k'
          · cases hs
        · cases hs
      · cases hs
    · cases hs
  · cases hs
theorem zokf_ok {ty : FieldType} {v : Value} (h : zokf ty v = true) : narrow ty v = v ∧ fits ty v = true := by
  cases ty <;> cases v <;> simp [zokf] at h <;> exact ⟨rfl, rfl⟩
theorem zk_put {idx : Nat} (C : zCx p s m args meth c R D cT b S j mc ms) (hj : j < 117) (hd : decode (mC j) pc = .ok (.putfield idx, 3)) (hs : zputf j pc ls st h idx = some (.inl (pc', ls', st', h')))
    (K : zK p l e R s m args below meth c Q D cT b S n0 w0 j pc' ls' st' h') : zK p l e R s m args below meth c Q D cT b S n0 w0 j pc ls st h := by
  intro H locs cells slots la Z
  obtain ⟨hx, hb, hml, hown, hts, hret, hlk, hin, hKC, hR, hbs⟩ := id C
  unfold zputf at hs
  split at hs
  · next v a r =>
    split at hs
    · next ci k hf =>
      split at hs
      · next c' fs ha =>
        split at hs
        · next hc =>
          obtain ⟨rfl, hkl, hok, hfi⟩ := hc
          cases hs
          obtain ⟨hn, hfit⟩ := zokf_ok hok
          obtain ⟨hZl, hZr, hZs, hZ1, hZ2⟩ := Z
          obtain ⟨g1, g2, g3, g5, g4⟩ := zF_at hf
          obtain ⟨z1, z2, z3, z4⟩ := zin_lays g2
          have hba := (hZr.ok ha rfl).1
          have z5 : ∀ w ∈ u_ws (zR c') (zT c') (zN c'), w ∈ zW := fun w hw => zW_in (z2 w hw) (by unfold u_ws at hw; obtain ⟨q, -, rfl⟩ := List.mem_map.mp hw; unfold u_lay; split <;> rfl)
          have hap := va_apart (own := zR (mK j)) hts z5 (zty c') z3 z4 hKC.1 z1
          obtain ⟨rr, h1, cell, q1, q2, q3, q4⟩ := (hZr.ok ha rfl).2
          have hr : rr = (zR c', zT c', zN c') := Option.some.inj (h1.symm.trans z1)
          subst hr
          obtain ⟨hSl, hfc, kC, hkC, hkind⟩ := hKC.1.1 c' _ z1
          obtain ⟨cf, kf, fi, f, hi, hsl⟩ := hSl k g1
          have hlay := hts _ (z5 _ (u_in_lay g1))
          have hst := (u_facts hfc hkC (u_lays hts z5 g1) hi).1
          have fin : ∀ H' : Heap, H'[a]? = some (cell.setSlot f.slot v) → H'.size = H.size → (∀ q, q ≠ a → H'[q]? = H[q]?) → W p l e R s m args below meth c H' (locs ++ [⟨a, f.slot⟩]) cells slots Q (F0 m (pc + 3) la st') := by
            intro H' e1 e2 e3
            rw [hsl] at e1
            refine K H' _ cells slots la ⟨hZl, hZr.put ha rfl rfl e2 e3 ?_, hZs.put e2 e3 hba, hZ1, hZ2⟩
            exact ⟨_, z1, t_OB.to (V := updV (vp_V fs) k v) ⟨_, e1, q2, q3, t_set q4 hap g1 v⟩ (fun j _ => vp_updV_set hkl v j)⟩
          unfold u_lay at hlay
          by_cases hfin : (zT c' k).2.2.2 = true
          · obtain ⟨f1, f2⟩ := hfi hfin
            rw [if_pos hfin] at hlay
            have hcf : m.cls = cf := by
              obtain ⟨_, _, c2, _, _, _, -, -, hf', -, -, -, hown2, -⟩ := Cond.laysFinal_spec hlay
              have e1 : c2 = cf := by have := hi.symm.trans hf'; simp at this; exact this.1.symm
              rw [g3, ← f2] at hown2
              rw [← e1]; exact Option.some.inj (hown.symm.trans hown2)
            have h6 := u_fits hfc hkC hkind (Or.inr hlay) hi (z3 k g1) hn hfit
            exact W.putFinK hx hb hown (hts _ (zW_in (g5 f2) rfl)) (by rw [← g3]; exact hi) hst hcf (hin f1) (by rw [q2]; exact h6) q1 q3 (by rw [hsl]; exact k2_hasslot (q4 k g1)) rfl rfl hd fin
          · rw [if_neg hfin] at hlay
            have h6 := u_store hfc hkC hkind hlay hi (z3 k g1) hn hfit
            rcases g4 with g4 | g4
            · exact W.putK hx hb (f := f) ⟨hown, hts _ (zW_in g4 rfl), ⟨_, _, _, by rw [← g3]; exact hi⟩, hst⟩ (by rw [q2]; exact h6) q1 q3 (by rw [hsl]; exact k2_hasslot (q4 k g1)) rfl rfl hd fin
            · exact va_WputK hx hb (f := f) hown (va_Nw.use rfl (hKC.2.1 _ (List.mem_filter.mpr ⟨g4, rfl⟩))) (by rw [← g3]; exact hi) hst (by rw [q2]; exact h6) q1 q3 (by rw [hsl]; exact k2_hasslot (q4 k g1)) rfl rfl hd fin
        · cases hs
      · cases hs
    · cases hs
  · cases hs
end ZK
