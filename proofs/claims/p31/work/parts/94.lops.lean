/-! what the law's calls do, by numbers -/
def prO : Nat → Option Nat
  | 0 => none
  | u + 1 => some u
theorem prO_eq {u : Nat} (hu : u < 2147483648) : nI u - nI 1 = eN (prO u) := by
  cases u with
  | zero => decide
  | succ u => exact nI_sub (by omega) hu
theorem prO_lt {u m : Nat} (hu : u ≤ m) : ∀ s, prO u = some s → s < m := by
  intro s hs
  cases u with
  | zero => cases hs
  | succ u => cases hs; omega
theorem dO_eN {n : Nat} {o : Option Nat} (hn : n < 2147483648) (ho : ∀ s, o = some s → s < n) : dO n (eN o) = some o := by
  cases o with
  | none => exact dO_m1
  | some s => exact dO_nI hn (ho s rfl)
theorem dR_in {lo hi v : Nat} (hh : hi < 2147483648) (h1 : lo ≤ v) (h2 : v ≤ hi) : dR lo hi (nI v) = some v := by
  rcases dR_cases lo hi (nI v) hh (by omega) with ⟨k, hk, e1, e2⟩ | ⟨g, -⟩
  · rw [nI_eq (by omega) (by omega)] at e1
    subst e1
    exact e2
  · exfalso
    rcases g with g | g
    · rw [Int32.lt_iff_toInt_lt, nI_toInt (by omega), nI_toInt (by omega)] at g
      omega
    · rw [Int32.lt_iff_toInt_lt, nI_toInt (by omega), nI_toInt (by omega)] at g
      omega
theorem dV_in {q v : Nat} (h1 : loP q ≤ v) (h2 : v ≤ hiP q) : dV q (nI v) = some (some v) := by
  have := hiP_le q
  unfold dV
  rw [if_neg (nI_nm1 (by omega)), dR_in (by omega) h1 h2]
  rfl
theorem dV_eN {o : Option Nat} (ho : ∀ v, o = some v → v ≤ 200) : dV 5 (eN o) = some o := by
  cases o with
  | none => exact if_pos rfl
  | some v => exact dV_in (by show 0 ≤ v; omega) (by show v ≤ 200; exact ho v rfl)
section LQO
variable {p : PS}
theorem op_style {k u : Nat} (hk : p.1.1.1 = k) (h10 : k < 10) (hu : u ≤ k) : opStyle p (eN (prO u)) = (kp p (addS p.1.1 (prO u), p.1.2), nI k) := by
  unfold opStyle
  rw [hk, dO_eN (by omega) (prO_lt hu)]
  exact if_neg (by omega)
theorem op_setStyle {s q v : Nat} (h10 : p.1.1.1 ≤ 10) (hs : s < p.1.1.1) (hq : q < 6) (h1 : loP q ≤ v) (h2 : v ≤ hiP q) : opSetStyle p (nI s) (nI q) (nI v) = (kp p (setO p.1.1 s q (some v), p.1.2), eN (p.1.1.2.2 s q)) := by
  unfold opSetStyle
  rw [dN_nI (by omega) hs]
  simp only
  rw [dN_nI (by omega) hq]
  simp only
  rw [dV_in h1 h2]
theorem op_line {b e : Nat} {o : Option Nat} (h10 : p.1.1.1 ≤ 10) (hb : b ≤ 99999) (he : e ≤ 100000) (hbe : b < e) (ho : ∀ s, o = some s → s < p.1.1.1) (h16 : p.1.2.1.length < 16) (ht : pErr p.2.2 = none) :
    opLine p (nI b) (nI e) (eN o) = (((p.1.1, p.1.2.1 ++ [(b, e, o, none, pIts p.2.2)], p.1.2.2), kept p.2.1 p.1, []), nI p.1.2.1.length) := by
  unfold opLine
  rw [dR_in (by omega) (by omega) hb]
  simp only
  rw [dR_in (by omega) (by omega) he]
  simp only
  rw [if_neg (by omega), dO_eN (by omega) ho]
  simp only
  rw [if_neg (by omega), ht]
theorem op_setParent {s : Nat} {o : Option Nat} (h10 : p.1.1.1 ≤ 10) (hs : s < p.1.1.1) (ho : ∀ q, o = some q → q < p.1.1.1) : opSetParent p (nI s) (eN o) = if ldT p.1.1 s 10 o = true then (p, -2) else (kp p (setP p.1.1 s o, p.1.2), eN (p.1.1.2.1 s)) := by
  unfold opSetParent
  rw [dN_nI (by omega) hs]
  simp only
  rw [dO_eN (by omega) ho]
theorem op_change0 {i : Nat} {o : Option Nat} (h10 : p.1.1.1 ≤ 10) (h16 : p.1.2.1.length ≤ 16) (hi : i < p.1.2.1.length) (ho : ∀ q, o = some q → q < p.1.1.1) : opChange p (nI i) (nI 0) (eN o) = (kp p (putL p.1 i ((lnA p.1.2.1 i).1, (lnA p.1.2.1 i).2.1, o, (lnA p.1.2.1 i).2.2.2.1, (lnA p.1.2.1 i).2.2.2.2)), eN (lnA p.1.2.1 i).2.2.1) := by
  unfold opChange
  rw [dN_nI (by omega) hi]
  simp only
  rw [show dN 2 (nI 0) = some 0 by decide]
  simp only
  rw [dO_eN (by omega) ho]
theorem op_change1 {i : Nat} {o : Option Nat} (h16 : p.1.2.1.length ≤ 16) (hi : i < p.1.2.1.length) (ho : ∀ v, o = some v → v ≤ 200) : opChange p (nI i) (nI 1) (eN o) = (kp p (putL p.1 i ((lnA p.1.2.1 i).1, (lnA p.1.2.1 i).2.1, (lnA p.1.2.1 i).2.2.1, o, (lnA p.1.2.1 i).2.2.2.2)), eN (lnA p.1.2.1 i).2.2.2.1) := by
  unfold opChange
  rw [dN_nI (by omega) hi]
  simp only
  rw [show dN 2 (nI 1) = some 1 by decide]
  simp only
  rw [dV_eN ho]
theorem by_toInt {u : Nat} (hu : u ≤ 80) : (nI u - nI 40).toInt = (u : Int) - 40 := by
  rw [Int32.toInt_sub, nI_toInt (by omega), nI_toInt (by omega)]
  exact Int.bmod_eq_of_le (by omega) (by omega)
theorem op_shift {i u : Nat} (h16 : p.1.2.1.length ≤ 16) (hi : i < p.1.2.1.length) (hu : u ≤ 80) (he : (lnA p.1.2.1 i).2.1 ≤ 99000) (hb : (lnA p.1.2.1 i).1 < (lnA p.1.2.1 i).2.1) : opShift p (nI i) (nI u - nI 40) = if (lnA p.1.2.1 i).1 + u < 40 then (p, -2) else
    (kp p (putL p.1 i ((lnA p.1.2.1 i).1 + u - 40, (lnA p.1.2.1 i).2.1 + u - 40, (lnA p.1.2.1 i).2.2)), nI ((lnA p.1.2.1 i).1 + u - 40)) := by
  unfold opShift
  rw [dN_nI (by omega) hi]
  simp only
  rw [by_toInt hu, if_neg (by omega)]
  by_cases c : (lnA p.1.2.1 i).1 + u < 40
  · rw [if_pos c, if_pos (by omega)]
  · rw [if_neg c, if_neg (by omega)]
    have e1 : (((lnA p.1.2.1 i).1 : Int) + ((u : Int) - 40)).toNat = (lnA p.1.2.1 i).1 + u - 40 := by omega
    have e2 : (((lnA p.1.2.1 i).2.1 : Int) + ((u : Int) - 40)).toNat = (lnA p.1.2.1 i).2.1 + u - 40 := by omega
    rw [e1, e2]
theorem op_remove {i : Nat} (h16 : p.1.2.1.length ≤ 16) (hi : i < p.1.2.1.length) : opRemove p (nI i) = (kp p (p.1.1, p.1.2.1.eraseIdx i, p.1.2.2), nI (p.1.2.1.length - 1)) := by
  unfold opRemove
  rw [dN_nI (by omega) hi]
theorem undo_kp {q : PS} {st : Stt} (h5 : p.2.1.length ≤ 5) (hq : q = kp p st) : ∃ r m, m ≤ 5 ∧ r.1 = p.1 ∧ r.2.2 = p.2.2 ∧ opUndo q = (r, nI m) := by
  refine ⟨_, _, ?_, ?_, ?_, undo_kept (hist := p.2.1) (st := p.1) (by rw [hq]; rfl)⟩
  · split
    · rw [List.length_drop]; omega
    · exact h5
  · rfl
  · rw [hq]; rfl
theorem putL_len {st : Stt} {i : Nat} {ln : Ln} : (putL st i ln).2.1.length = st.2.1.length := by
  show (st.2.1.set i ln).length = _
  rw [List.length_set]
theorem putL_mem {st : Stt} {i : Nat} {ln x : Ln} (h : x ∈ (putL st i ln).2.1) : x ∈ st.2.1 ∨ x = ln := by
  have h : x ∈ st.2.1.set i ln := h
  exact List.mem_or_eq_of_mem_set h
theorem putL_at {st : Stt} {i : Nat} {ln : Ln} (hi : i < st.2.1.length) : lnA (putL st i ln).2.1 i = ln := by
  refine lnA_at ?_
  show (st.2.1.set i ln)[i]? = some ln
  rw [List.getElem?_set_self hi]
end LQO
