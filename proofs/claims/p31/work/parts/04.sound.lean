/-! THE STEPPER IS THE MACHINE: what zgo computes, the Java machine does -/
theorem zF_at {own idx ci k : Nat} (h : zfld own idx = some (ci, k)) : k < zN ci ∧ ci < 11 ∧ (zT ci k).1 = zR ci ∧ (own = ci → (Cond.fieldLink (zR own) idx (zR ci) (zT ci k).2.1 (zT ci k).2.2.1) ∈ lw_tbl) ∧
    ((Cond.fieldLink (zR own) idx (zR ci) (zT ci k).2.1 (zT ci k).2.2.1) ∈ lw_tbl ∨ (Cond.fieldLinkNest (zR own) idx (zR ci) (zT ci k).2.1 (zT ci k).2.2.1 "SubtitleStyles") ∈ lw_tbl) := by
  unfold zfld at h
  cases hq : zF.find? (fun q => Nat.beq q.1 own && Nat.beq q.2.1 idx) with
  | none => rw [hq] at h; cases h
  | some q =>
    rw [hq] at h
    have hp := List.find?_some hq
    have hm := List.mem_of_find?_eq_some hq
    have ok := List.all_eq_true.mp zF_ok q hm
    obtain ⟨o, i, ci', k', nb, ps⟩ := q
    simp only [Bool.and_eq_true, decide_eq_true_eq, Option.map_some, Option.some.injEq, Prod.mk.injEq] at ok hp h
    obtain ⟨rfl, rfl⟩ := h
    have e1 : o = own := Nat.eq_of_beq_eq_true hp.1
    have e2 : i = idx := Nat.eq_of_beq_eq_true hp.2
    subst e1; subst e2
    obtain ⟨⟨⟨⟨h1, h2⟩, h3⟩, h4⟩, h5⟩ := ok
    have hw := List.mem_of_getElem? h1
    refine ⟨Nat.le_of_ble_eq_true h2, Nat.le_of_ble_eq_true h3, h4, fun he => ?_, ?_⟩
    · cases nb with
      | false => exact hw
      | true => subst he; simp at h5
    · cases nb with
      | false => exact Or.inl hw
      | true => exact Or.inr hw
theorem zCl_at {own idx j k : Nat} (h : zmth own idx = some (j, k)) : (∀ w ∈ zCw own idx j k, w ∈ lw_tbl) ∧ j < 116 ∧ (k = 1 ↔ (mY j).name = "<init>") := by
  unfold zmth at h
  cases hq : zCl.find? (fun q => Nat.beq q.1 own && Nat.beq q.2.1 idx) with
  | none => rw [hq] at h; cases h
  | some q =>
    rw [hq] at h
    have hp := List.find?_some hq
    have hm := List.mem_of_find?_eq_some hq
    have ok := List.all_eq_true.mp zCl_ok q hm
    obtain ⟨o, i, j', k', ps⟩ := q
    simp only [Bool.and_eq_true, decide_eq_true_eq, Option.map_some, Option.some.injEq, Prod.mk.injEq] at ok hp h
    obtain ⟨rfl, rfl⟩ := h
    have e1 : o = own := Nat.eq_of_beq_eq_true hp.1
    have e2 : i = idx := Nat.eq_of_beq_eq_true hp.2
    subst e1; subst e2
    obtain ⟨⟨h1, h2⟩, h3⟩ := ok
    refine ⟨fun w hw => ?_, Nat.le_of_ble_eq_true h2, ?_⟩
    · have h4 : some w ∈ ps.map (fun i => lw_tbl[i]?) := by rw [h1]; exact List.mem_map_of_mem hw
      obtain ⟨i, -, hi⟩ := List.mem_map.mp h4
      exact List.mem_of_getElem? hi
    · have h4 := eq_of_beq h3
      constructor
      · intro e
        rw [e] at h4
        exact of_decide_eq_true h4.symm
      · intro e
        rw [decide_eq_true e] at h4
        exact Nat.eq_of_beq_eq_true h4
theorem zO_at {own idx : Nat} (h : zobj own idx = true) : (Cond.methodLink (zR own) idx objectInit) ∈ lw_tbl := by
  unfold zobj at h
  obtain ⟨q, hm, hp⟩ := List.any_eq_true.mp h
  have ok := List.all_eq_true.mp zO_ok q hm
  obtain ⟨o, i, ps⟩ := q
  simp only [Bool.and_eq_true, decide_eq_true_eq] at ok hp
  have e1 : o = own := Nat.eq_of_beq_eq_true hp.1
  have e2 : i = idx := Nat.eq_of_beq_eq_true hp.2
  subst e1; subst e2
  exact List.mem_of_getElem? ok
theorem zKi_at {own idx : Nat} {v : Int32} (h : zcst own idx = some v) : (Cond.constant (zR own) idx v) ∈ lw_tbl := by
  unfold zcst at h
  cases hq : zKi.find? (fun q => Nat.beq q.1 own && Nat.beq q.2.1 idx) with
  | none => rw [hq] at h; cases h
  | some q =>
    rw [hq] at h
    have hp := List.find?_some hq
    have ok := List.all_eq_true.mp zKi_ok q (List.mem_of_find?_eq_some hq)
    obtain ⟨o, i, v', ps⟩ := q
    simp only [Bool.and_eq_true, decide_eq_true_eq, Option.map_some, Option.some.injEq] at ok hp h
    have e1 : o = own := Nat.eq_of_beq_eq_true hp.1
    have e2 : i = idx := Nat.eq_of_beq_eq_true hp.2
    subst e1; subst e2; subst h
    exact List.mem_of_getElem? ok
theorem zKl_at {own idx : Nat} {v : Int64} (h : zcsl own idx = some v) : (Cond.constantLong (zR own) idx v) ∈ lw_tbl := by
  unfold zcsl at h
  cases hq : zKl.find? (fun q => Nat.beq q.1 own && Nat.beq q.2.1 idx) with
  | none => rw [hq] at h; cases h
  | some q =>
    rw [hq] at h
    have hp := List.find?_some hq
    have ok := List.all_eq_true.mp zKl_ok q (List.mem_of_find?_eq_some hq)
    obtain ⟨o, i, v', ps⟩ := q
    simp only [Bool.and_eq_true, decide_eq_true_eq, Option.map_some, Option.some.injEq] at ok hp h
    have e1 : o = own := Nat.eq_of_beq_eq_true hp.1
    have e2 : i = idx := Nat.eq_of_beq_eq_true hp.2
    subst e1; subst e2; subst h
    exact List.mem_of_getElem? ok
theorem zNw_at {own idx ci : Nat} (h : znew own idx = some ci) : (∀ w ∈ ([.classLink (zR own) idx (zR ci), .instantiable (zR ci) (zN ci), .initialized (zR ci)] : List Cond), w ∈ lw_tbl) ∧ ci < 11 := by
  unfold znew at h
  cases hq : zNw.find? (fun q => Nat.beq q.1 own && Nat.beq q.2.1 idx) with
  | none => rw [hq] at h; cases h
  | some q =>
    rw [hq] at h
    have hp := List.find?_some hq
    have ok := List.all_eq_true.mp zNw_ok q (List.mem_of_find?_eq_some hq)
    obtain ⟨o, i, c', ps⟩ := q
    simp only [Bool.and_eq_true, decide_eq_true_eq, Option.map_some, Option.some.injEq] at ok hp h
    have e1 : o = own := Nat.eq_of_beq_eq_true hp.1
    have e2 : i = idx := Nat.eq_of_beq_eq_true hp.2
    subst e1; subst e2; subst h
    refine ⟨fun w hw => ?_, Nat.le_of_ble_eq_true ok.2⟩
    have h4 : some w ∈ ps.map (fun i => lw_tbl[i]?) := by rw [ok.1]; exact List.mem_map_of_mem hw
    obtain ⟨i, -, hi⟩ := List.mem_map.mp h4
    exact List.mem_of_getElem? hi
theorem zAn_at {own idx t : Nat} (h : zanw own idx = some t) : (Cond.classLink (zR own) idx (zR (ztc t))) ∈ lw_tbl ∧ (t = 2 ∨ t = 3 ∨ t = 4) := by
  unfold zanw at h
  cases hq : zAn.find? (fun q => Nat.beq q.1 own && Nat.beq q.2.1 idx) with
  | none => rw [hq] at h; cases h
  | some q =>
    rw [hq] at h
    have hp := List.find?_some hq
    have ok := List.all_eq_true.mp zAn_ok q (List.mem_of_find?_eq_some hq)
    obtain ⟨o, i, c', ps⟩ := q
    simp only [Bool.and_eq_true, Bool.or_eq_true, decide_eq_true_eq, Option.map_some, Option.some.injEq] at ok hp h
    have e1 : o = own := Nat.eq_of_beq_eq_true hp.1
    have e2 : i = idx := Nat.eq_of_beq_eq_true hp.2
    subst e1; subst e2; subst h
    refine ⟨List.mem_of_getElem? ok.1, ?_⟩
    rcases ok.2 with (h | h) | h
    · exact Or.inl (Nat.eq_of_beq_eq_true h)
    · exact Or.inr (Or.inl (Nat.eq_of_beq_eq_true h))
    · exact Or.inr (Or.inr (Nat.eq_of_beq_eq_true h))
theorem zM_at {j : Nat} (h : j < 117) : (mY j).cls = zR (mK j) ∧ (parseMethodDescriptor (mY j).desc).map (fun d => d.parameters.length) = some (mN j) ∧ plainName (mY j).cls = true ∧ mL j ≤ 21 ∧ mK j < 12 ∧ ((mY j).cls ≠ "java/lang/invoke/MethodHandle" ∧ (mY j).cls ≠ "java/lang/invoke/VarHandle") := by
  have ok := List.all_eq_true.mp zM_ok j (List.mem_range.mpr h)
  simp only [Bool.and_eq_true, decide_eq_true_eq] at ok
  obtain ⟨⟨⟨⟨⟨h1, h2⟩, h3⟩, h4⟩, h5⟩, h6⟩ := ok
  exact ⟨h1, h2, h3, Nat.le_of_ble_eq_true h4, Nat.le_of_ble_eq_true h5, h6⟩
theorem zM_len : zM.length = 117 := by decide +kernel
theorem zM_code {j : Nat} (h : j < 116) : (Cond.code (mY j) (mC j) (mL j) (mT j)) ∈ lw_tbl := by
  refine zMc_in _ ?_
  have hl : j < zM.length := by rw [zM_len]; omega
  have e : zm j = zM[j] := by simp [zm, hl]
  have hl2 : j < (zM.take 116).length := by rw [List.length_take, zM_len]; omega
  refine List.mem_map.mpr ⟨zm j, by rw [e, ← List.getElem_take (h := hl2)]; exact List.getElem_mem hl2, rfl⟩
/-- the locals of a call fit the caller's room -/
theorem zM_loc {y j : Nat} (hy : y < 117) (hj : j < 117) (h : mH y < mH j) : mL y + 19 + 29 * mH y ≤ 29 * mH j := by
  have ok := List.all_eq_true.mp (List.all_eq_true.mp zM_pair y (List.mem_range.mpr hy)) j (List.mem_range.mpr hj)
  simp only [Bool.or_eq_true, Bool.not_eq_true'] at ok
  rcases ok with q | q
  · rw [show Nat.blt (mH y) (mH j) = true from Nat.ble_eq_true_of_le h] at q
    cases q
  · exact Nat.le_of_ble_eq_true q
theorem zin_lays {ci : Nat} (h : ci < 11) : vwCl[ci]? = some (zR ci, zT ci, zN ci) ∧ (∀ w ∈ u_ws (zR ci) (zT ci) (zN ci), w ∈ lw_tbl) ∧ (∀ k, k < zN ci → parseFieldDescriptor (zT ci k).2.2.1 = some (zty ci k)) ∧ (∀ a, a < zN ci → ∀ b, b < zN ci → a ≠ b → (zT ci a).2.1 ≠ (zT ci b).2.1) := by
  match ci, h with
  | 0, _ => exact ⟨rfl, zin0, tyX0_ok, nmX0⟩
  | 1, _ => exact ⟨rfl, zin1, tyX1_ok, nmX1⟩
  | 2, _ => exact ⟨rfl, zin2, tyX2_ok, nmX2⟩
  | 3, _ => exact ⟨rfl, zin3, tyX3_ok, nmX3⟩
  | 4, _ => exact ⟨rfl, zin4, tyX4_ok, nmX4⟩
  | 5, _ => exact ⟨rfl, zin5, tyX5_ok, nmX5⟩
  | 6, _ => exact ⟨rfl, zin6, tyX6_ok, nmX6⟩
  | 7, _ => exact ⟨rfl, zin7, tyX7_ok, nmX7⟩
  | 8, _ => exact ⟨rfl, zin8, tyX8_ok, nmX8⟩
  | 9, _ => exact ⟨rfl, zin9, tyX9_ok, nmX9⟩
  | 10, _ => exact ⟨rfl, zin9, tyX9_ok, nmX9⟩
  | n + 11, h => exact absurd h (by omega)
/-! the picture of the cells -/
def zconv (cT : Nat → ClassId) (e : va_E) : va_E := match e with
  | .inl (t, x) => .inl (cT t, x)
  | .inr o => .inr o
def ztyp : Nat → FieldType
  | 0 => .int
  | 1 => .int
  | t => .object (zR (ztc t))
def ztys (cT : Nat → ClassId) : List (ClassId × FieldType) := [(cT 0, ztyp 0), (cT 1, ztyp 1), (cT 2, ztyp 2), (cT 3, ztyp 3), (cT 4, ztyp 4)]
theorem ztys_at (cT : Nat → ClassId) {t : Nat} (h : t ≤ 4) : (ztys cT)[t]? = some (cT t, ztyp t) := by
  match t, h with
  | 0, _ => rfl
  | 1, _ => rfl
  | 2, _ => rfl
  | 3, _ => rfl
  | 4, _ => rfl
  | n + 5, h => exact absurd h (by omega)
/-- where the class's three static arrays lie; the script: its address, length, contents -/
abbrev zSc : Type := Nat × Nat × Nat × Nat × Nat × (Nat → Int32)
/-- the script's own cell, which is only read -/
def zro (e : va_E) : Bool := match e with
  | .inl (t, _) => Nat.beq t 1
  | _ => false
def zRep (D : va_G) (cT : Nat → ClassId) (b : Nat) (S : zSc) (h : Hp) (H : Heap) : Prop := H.size = h.2.1 ∧ b ≤ h.2.1 ∧ ∀ (a : Nat) (e : va_E), h.1 a = some e → (zro e = false ∧ b ≤ a ∧ va_at D vwCl (a, zconv cT e) H) ∨ (a < b ∧ a = S.2.2.2.1 ∧ e = .inl (1, S.2.2.2.2.1, .inl S.2.2.2.2.2))
def zSta (b : Nat) (nm : String) (t : Nat) (f : List Int32) (U : State) : Prop := va_Z RX9 nm "[I" (.ref t) (fun q => b ≤ q) U U.heap ∧ va_T .int t 6 (fun j => .int (f.getD j 0)) (fun q => b ≤ q) U U.heap
def zKC (D : va_G) (cT : Nat → ClassId) (b : Nat) (S : zSc) (U : State) : Prop :=
  va_K D vwCl (ztys cT) U ∧ (∀ w ∈ zNest, va_Nw w U) ∧ (va_AO (zR 1) U ∧ va_AO (zR 6) U ∧ va_AO (zR 2) U) ∧ zSta b "BASIC" S.1 zbasic U ∧ zSta b "LEAST" S.2.1 zleast U ∧ zSta b "GREATEST" S.2.2.1 zgreat U ∧ (va_T .int S.2.2.2.1 S.2.2.2.2.1 (fun j => .int (S.2.2.2.2.2 j)) (fun q => b ≤ q) U U.heap ∧ S.2.2.2.2.1 < 2147483648)
theorem zNest_of {w : Cond} (h : w ∈ zNest) : w.onTables = true ∧ ∀ {s U : State}, s.WarmedH U.vm → va_Nw w s → va_Nw w U := by
  have h2 := (List.mem_filter.mp h).2
  cases w <;> simp [zisN] at h2
  · exact ⟨rfl, fun hW hZ => va_Nw.warmM hW hZ⟩
  · exact ⟨rfl, fun hW hZ => va_Nw.warmF hW hZ⟩
theorem zSta.moved {b : Nat} {nm : String} {t : Nat} {f : List Int32} {u U : State} (hvm : u.vm.Alike U.vm) (hH : ∀ a : Nat, a < u.heap.size → ¬ b ≤ a → U.heap[a]? = u.heap[a]?) (h : zSta b nm t f u) : zSta b nm t f U :=
  ⟨(h.1.moved hvm).kept hH, (h.2.moved hvm).kept hH⟩
theorem zKC.moved {D : va_G} {cT : Nat → ClassId} {b : Nat} {S : zSc} {u U : State} (hvm : u.vm.Alike U.vm) (hN : ∀ w ∈ zNest, va_Nw w u → va_Nw w U) (hH : ∀ a : Nat, a < u.heap.size → ¬ b ≤ a → U.heap[a]? = u.heap[a]?) (h : zKC D cT b S u) : zKC D cT b S U := by
  obtain ⟨h1, h2, ⟨h3, h4, h5⟩, h6, h7, h8, h9, h10⟩ := h
  exact ⟨h1.moved hvm, fun w hw => hN w hw (h2 w hw), ⟨h3.moved hvm, h4.moved hvm, h5.moved hvm⟩, h6.moved hvm hH, h7.moved hvm hH, h8.moved hvm hH, (h9.moved hvm).kept hH, h10⟩
theorem zKC.call {D : va_G} {cT : Nat → ClassId} {b : Nat} {S : zSc} {U : State} {g : JFrame} {mk : MethodId} {a : Array Value} (h : zKC D cT b S U) : zKC D cT b S (U.calling g mk a) :=
  h.moved (U := U.calling g mk a) (Vm.Alike.refl U.vm) (fun w hw hz => va_Nw.same (u := U) (U := U.calling g mk a) (zNest_of hw).1 rfl hz) (fun _ _ _ => rfl)
/-! the picture of the locals -/
def zas (ls : Ls) : List (Nat × Value) := (List.range ls.length).filterMap (fun i => match ls[i]? with
  | some (some v) => some (i, v)
  | _ => none)
theorem mem_zas {ls : Ls} {i : Nat} {v : Value} : (i, v) ∈ zas ls ↔ ls[i]? = some (some v) := by
  unfold zas
  rw [List.mem_filterMap]
  constructor
  · rintro ⟨k, hk, h⟩
    split at h
    · next w hw => cases h; exact hw
    · cases h
  · intro h
    refine ⟨i, List.mem_range.mpr (List.getElem?_eq_some_iff.mp h).1, ?_⟩
    rw [h]
def zhas (la : Array Slot) (n : Nat) (ls : Ls) : Prop := ls.length = n ∧ lv_has la n (zas ls)
theorem zhas.at {la : Array Slot} {n : Nat} {ls : Ls} (h : zhas la n ls) {i : Nat} {v : Value} (hi : ls[i]? = some (some v)) : la[i]? = some (.val v) := h.2.2.2 (i, v) (mem_zas.mpr hi)
theorem zl2_not {ls : Ls} {k i : Nat} {v : Value} (h : zl2 ls k = false) (hi : ls[i]? = some (some v)) (hk : i + 1 = k) : ¬ v.category = 2 := by
  subst hk
  rw [zl2, hi] at h
  cases v <;> simp [Value.category] at h ⊢
theorem zhas.st1 {la la' : Array Slot} {n k : Nat} {ls : Ls} {v : Value} (h : zhas la n ls) (hk : k < ls.length) (hl : zl2 ls k = false)
    (h' : lv_has la' n ((k, v) :: (zas ls).filter (fun q => !(q.1 == k) && !(q.1 + 1 == k && q.2.category == 2)))) : zhas la' n (ls.set k (some v)) := by
  refine ⟨by rw [List.length_set]; exact h.1, h'.1, h'.2.1, fun q hq => h'.2.2 q ?_⟩
  obtain ⟨i, w⟩ := q
  have h1 := mem_zas.mp hq
  by_cases hi : i = k
  · subst hi
    rw [List.getElem?_set_self hk] at h1
    cases h1
    exact List.mem_cons_self
  · rw [List.getElem?_set_ne (Ne.symm hi)] at h1
    refine List.mem_cons_of_mem _ (List.mem_filter.mpr ⟨mem_zas.mpr h1, ?_⟩)
    have h2 : ¬ (i + 1 = k ∧ w.category = 2) := fun q => zl2_not hl h1 q.1 q.2
    simp only [Bool.and_eq_true, Bool.not_eq_true', beq_eq_false_iff_ne, ne_eq, Bool.and_eq_false_imp, beq_iff_eq]
    exact ⟨hi, fun q => fun z => h2 ⟨q, z⟩⟩
theorem zhas.st2 {la la' : Array Slot} {n k : Nat} {ls : Ls} {v : Value} (h : zhas la n ls) (hk : k + 1 < ls.length) (hl : zl2 ls k = false)
    (h' : lv_has la' n ((k, v) :: (zas ls).filter (fun q => !(q.1 == k) && (!(q.1 == k + 1) && !(q.1 + 1 == k && q.2.category == 2))))) : zhas la' n ((ls.set k (some v)).set (k + 1) none) := by
  refine ⟨by rw [List.length_set, List.length_set]; exact h.1, h'.1, h'.2.1, fun q hq => h'.2.2 q ?_⟩
  obtain ⟨i, w⟩ := q
  have h1 := mem_zas.mp hq
  by_cases hj : i = k + 1
  · subst hj
    rw [List.getElem?_set_self (by rw [List.length_set]; exact hk)] at h1
    cases h1
  · rw [List.getElem?_set_ne (Ne.symm hj)] at h1
    by_cases hi : i = k
    · subst hi
      rw [List.getElem?_set_self (by omega)] at h1
      cases h1
      exact List.mem_cons_self
    · rw [List.getElem?_set_ne (Ne.symm hi)] at h1
      refine List.mem_cons_of_mem _ (List.mem_filter.mpr ⟨mem_zas.mpr h1, ?_⟩)
      have h2 : ¬ (i + 1 = k ∧ w.category = 2) := fun q => zl2_not hl h1 q.1 q.2
      simp only [Bool.and_eq_true, Bool.not_eq_true', beq_eq_false_iff_ne, ne_eq, Bool.and_eq_false_imp, beq_iff_eq]
      exact ⟨hi, hj, fun q => fun z => h2 ⟨q, z⟩⟩
theorem zlay_len (vs : List Value) : (zlay vs).length = (lg_sl vs).length := by
  induction vs with
  | nil => rfl
  | cons v vs ih =>
    rcases lv_cat v with hc | hc <;> simp [zlay, lg_sl, hc] at ih ⊢ <;> omega
theorem zlay_args : ∀ (vs : List Value) (k i : Nat) (v : Value), (zlay vs)[i]? = some (some v) → (k + i, v) ∈ lv_args k vs := by
  intro vs
  induction vs with
  | nil => intro k i v h; simp [zlay] at h
  | cons w vs ih =>
    intro k i v h
    by_cases hc : w.category = 2
    · rw [zlay, if_pos hc] at h
      rw [lv_args, if_pos hc]
      match i, h with
      | 0, h => simp at h; subst h; exact List.mem_cons_self
      | 1, h => simp at h
      | i + 2, h =>
        have h2 := ih (k + 2) i v (by simpa using h)
        rw [show k + (i + 2) = k + 2 + i by omega]
        exact List.mem_cons_of_mem _ h2
    · rw [zlay, if_neg hc] at h
      rw [lv_args, if_neg hc]
      match i, h with
      | 0, h => simp at h; subst h; exact List.mem_cons_self
      | i + 1, h =>
        have h2 := ih (k + 1) i v (by simpa using h)
        rw [show k + (i + 1) = k + 1 + i by omega]
        exact List.mem_cons_of_mem _ h2
theorem zent_has {j : Nat} {vs : List Value} (h : (zlay vs).length ≤ mL j) : zhas ((lg_sl vs ++ List.replicate (mL j - (lg_sl vs).length) Slot.unset).toArray) (mL j) (zent j vs) := by
  have h1 := lv_entry vs (n := mL j) (by rw [← zlay_len]; exact h)
  refine ⟨by simp [zent]; omega, h1.1, h1.2.1, fun q hq => h1.2.2 q ?_⟩
  obtain ⟨i, v⟩ := q
  have h2 := mem_zas.mp hq
  unfold zent at h2
  by_cases hi : i < (zlay vs).length
  · rw [List.getElem?_append_left hi] at h2
    have := zlay_args vs 0 i v h2
    rwa [Nat.zero_add] at this
  · rw [List.getElem?_append_right (by omega), List.getElem?_replicate] at h2
    split at h2 <;> cases h2
