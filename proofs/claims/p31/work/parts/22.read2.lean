/-! Look.read, whole -/
def WfL (ln : Ln) : Prop := ln.1 < ln.2.1 ∧ ln.2.1 ≤ 100000 ∧ okO ln.2.2.1 ∧ (∀ v, ln.2.2.2.1 = some v → v ≤ 200) ∧ ln.2.2.2.2.length ≤ 80 ∧ (∀ x ∈ ln.2.2.2.2, okI x) ∧ (ln.2.2.2.2.filter isK).length ≤ 20
def mrg (S : Sh) (ln : Ln) : Nat := match ln.2.2.2.1 with
  | some v => v
  | none => valS S 5 ln.2.2.1
def rdL (S : Sh) (ln : Ln) : Rd := runL S ln.2.2.1 ln.2.2.2.2
def hgL (S : Sh) (ln : Ln) : Nat := if (rdL S ln).2.1.length = 0 then valS S 0 ln.2.2.1 else hgS (rdL S ln).2.1
def fLook (h : Hp) (k : Nat) (S : Sh) (ln : Ln) (o : Int32) : Prop := ∃ sg sy hd, oLook h k (nI ln.1) (nI ln.2.1) (nI (valS S 4 ln.2.2.1)) (nI (mrg S ln)) (nI (hgL S ln)) o (nI (rdL S ln).2.1.length) (nI (rdL S ln).2.2.length) (nI (rdL S ln).2.2.sum) sg sy hd ∧ rTab sg (rdL S ln).2.1 ∧ rSyl sy ln.1 (rdL S ln).2.2 (rdL S ln).2.1
theorem valS_le {S : Sh} (hw : WfS S) {p : Nat} (hp : p < 6) (o : Option Nat) : valS S p o ≤ 200 := Nat.le_trans (valS_range hw hp o).2 (hiP_le p)
theorem okR_step {S : Sh} (hw : WfS S) {st : Option Nat} {r : Rd} {n m : Nat} {x : Itm} (h : okR r n m) (hx : okI x) : okR (runI S st r x) (n + 1) (m + (if isK x then 1 else 0)) := by
  cases x with
  | inl c => exact okR_in c h
  | inr y =>
    obtain ⟨l, o⟩ := y
    obtain ⟨h1, h2, h3, h4, h5⟩ := h
    by_cases hl : l = 107
    · subst hl
      simp only [runI, if_true]
      have hk : isK (.inr (107, o)) = true := rfl
      rw [hk, if_pos rfl]
      refine ⟨by show r.2.1.length ≤ n + 1; omega, by show (r.2.2 ++ [o.getD 0]).length ≤ m + 1; simp; omega, h3, fun x hx => ⟨(h4 x hx).1, fun j hj => ?_⟩, fun x hx2 => ?_⟩
      · have := (h4 x hx).2 j hj
        show j < (r.2.2 ++ [o.getD 0]).length
        simp
        omega
      · rcases List.mem_append.mp hx2 with q | q
        · exact h5 x q
        · rw [List.mem_singleton.mp q]
          simp only [okI] at hx
          rcases hx with ⟨a, b⟩ | ⟨a, n', b, c⟩ | ⟨a, b⟩ | ⟨a, b⟩ | ⟨a, b⟩ | ⟨a, b⟩
          · omega
          · rw [b]; exact c
          · omega
          · omega
          · omega
          · omega
    · by_cases hl2 : l = 114
      · subst hl2
        simp only [runI, show ¬ (114 : Nat) = 107 by decide, if_false, if_true]
        refine ⟨by show r.2.1.length ≤ n + 1; omega, by show r.2.2.length ≤ _; omega, fun p hp => valS_le hw (by omega) _, h4, h5⟩
      · simp only [runI, hl, hl2, if_false]
        refine ⟨by show r.2.1.length ≤ n + 1; omega, by show r.2.2.length ≤ _; omega, fun p hp => ?_, h4, h5⟩
        show updN r.1 (prT l) (o.getD 0) p ≤ 200
        unfold updN
        split
        · simp only [okI] at hx
          rcases hx with ⟨a, b⟩ | ⟨a, b⟩ | ⟨a, n', b, c⟩ | ⟨a, n', b, c⟩ | ⟨a, n', b, c⟩ | ⟨a, n', b, c⟩
          · omega
          · omega
          all_goals (rw [b]; show n' ≤ 200; omega)
        · exact h3 p hp
theorem runL_take {S : Sh} {st : Option Nat} {its : List Itm} {i : Nat} {x : Itm} (hx : its[i]? = some x) : runL S st (its.take (i + 1)) = runI S st (runL S st (its.take i)) x := by
  unfold runL
  rw [List.take_succ, hx, List.foldl_append]
  rfl
theorem kc_take {its : List Itm} {i : Nat} {x : Itm} (hx : its[i]? = some x) : ((its.take (i + 1)).filter isK).length = ((its.take i).filter isK).length + (if isK x then 1 else 0) := by
  rw [List.take_succ, hx, List.filter_append, List.length_append]
  congr 1
  by_cases h : isK x = true
  · simp [h]
  · simp [h]
theorem kc_le {its : List Itm} (i : Nat) : ((its.take i).filter isK).length ≤ (its.filter isK).length := by
  have : its.filter isK = (its.take i).filter isK ++ (its.drop i).filter isK := by rw [← List.filter_append, List.take_append_drop]
  rw [this, List.length_append]
  omega
theorem okR_take {S : Sh} (hw : WfS S) {st : Option Nat} {its : List Itm} (hx : ∀ x ∈ its, okI x) : ∀ i, i ≤ its.length → okR (runL S st (its.take i)) i ((its.take i).filter isK).length := by
  intro i
  induction i with
  | zero =>
    intro _
    refine ⟨Nat.le_refl _, Nat.le_refl _, fun p hp => valS_le hw (by omega) _, fun x h => ?_, fun x h => ?_⟩
    · cases h
    · cases h
  | succ i ih =>
    intro hi
    obtain ⟨x, hxi⟩ : ∃ x, its[i]? = some x := ⟨its[i], List.getElem?_eq_getElem (by omega)⟩
    rw [runL_take hxi, kc_take hxi]
    exact okR_step hw (ih (by omega)) (hx x (List.mem_of_getElem? hxi))
section RD2
variable {h : Hp} {k q a t b e g m : Nat} {o : Int32} {S : Sh} {ln : Ln}
theorem l_X2_read (hw : WfS S) (hok : WfL ln) (hSh : rSheet h a S) (hak : a + 5 ≤ k ∨ k + 7 ≤ a)
    (hL : ∀ h', Same h h' k 7 → h'.1 q = some (.inr (1, [.int (nI ln.1), .int (nI ln.2.1), .int (eN ln.2.2.1), .int (eN ln.2.2.2.1), .ref t])) ∧ rText h' t ln.2.2.2.2) :
    ∀ (m' i : Nat), m' + i = ln.2.2.2.2.length → ∀ (h1 : Hp) (l5 l6 : Option Value), Same h h1 k 7 → pLook h1 k ln.1 e g m o (runL S ln.2.2.1 (ln.2.2.2.2.take i)) →
      ∃ h' k5 k6, Same h h' k 7 ∧ pLook h' k ln.1 e g m o (rdL S ln) ∧ ∀ Q : Option Value → Hp → Prop, WP 10 94 [some (.ref k), some (.ref q), some (.ref a), some (.ref t), some (.int (nI i)), l5, l6] [] h1 Q = WP 10 221 [some (.ref k), some (.ref q), some (.ref a), some (.ref t), some (.int (nI ln.2.2.2.2.length)), k5, k6] [] h' Q := by
  obtain ⟨w1, w2, w3, w4, w5, w6, w7⟩ := hok
  intro m'
  induction m' with
  | zero =>
    intro i hi h1 l5 l6 hs hp
    have hi : i = ln.2.2.2.2.length := by omega
    subst hi
    obtain ⟨c1, kf, nf, c2, c3⟩ := hL h1 hs
    rw [List.take_length] at hp
    refine ⟨h1, l5, l6, hs, hp, fun Q => ?_⟩
    rw [sX2_read_94]
    simp (disch := (first | omega | assumption | (simp (disch := omega) only [Int32.lt_iff_toInt_lt, Int32.le_iff_toInt_le, ← Int32.toInt_inj, nI_toInt, zi_m1, zi_m2, zi_m3, zi_m9]; omega) | decide)) only [sX2_read_96, sX2_read_96n, sX2_read_97, sX2_read_100, gG2_0, gG2_1, gG2_2, gG2_3, gG2_4, gG2_5, gG2_6, gG2_7, gG2_8, gG2_9, gG2_10, gG2_11, gP2_0, gP2_1, gP2_2, gP2_3, gP2_4, gP2_5, gP2_6, gP2_7, gP2_8, gP2_9, gP2_10, gP2_11, gG8_0, gG8_1, gG8_2, gP8_0, gP8_1, gP8_2, zpush_v, zpush_n, gCk, gAi, gSi, gLi, gLq, ↓if_pos, ↓if_neg, c2]
  | succ m' ih =>
    intro i hi h1 l5 l6 hs hp
    obtain ⟨c1, kf, nf, c2, c3, c4, c5⟩ := hL h1 hs
    obtain ⟨x, hx⟩ : ∃ x, ln.2.2.2.2[i]? = some x := ⟨ln.2.2.2.2[i], List.getElem?_eq_getElem (by omega)⟩
    obtain ⟨f1, f2⟩ := c5 i x hx
    have hoi := w6 x (List.mem_of_getElem? hx)
    have hr := okR_take hw (st := ln.2.2.1) w6 i (by omega)
    have hkc := kc_le (its := ln.2.2.2.2) i
    have hkc2 := kc_le (its := ln.2.2.2.2) (i + 1)
    rw [kc_take hx] at hkc2
    have hS1 := hSh.off hs (by omega)
    have cS := hS1.cell.1
    have hpL : ∀ {r'}, pLook h1 k ln.1 e g m o r' → ∃ fs, h1.1 k = some (.inr (2, fs)) := fun hp => by
      obtain ⟨sg, sy, hd, hO, -⟩ := hp
      exact ⟨_, hO.1⟩
    have nxt : ∀ (h2 : Hp) (k5 k6 : Option Value), Same h1 h2 k 7 → pLook h2 k ln.1 e g m o (runI S ln.2.2.1 (runL S ln.2.2.1 (ln.2.2.2.2.take i)) x) →
        ∃ h' j5 j6, Same h h' k 7 ∧ pLook h' k ln.1 e g m o (rdL S ln) ∧ ∀ Q : Option Value → Hp → Prop, WP 10 94 [some (.ref k), some (.ref q), some (.ref a), some (.ref t), some (.int (nI (i + 1))), k5, k6] [] h2 Q = WP 10 221 [some (.ref k), some (.ref q), some (.ref a), some (.ref t), some (.int (nI ln.2.2.2.2.length)), j5, j6] [] h' Q := by
      intro h2 k5 k6 s2 p2
      rw [← runL_take hx] at p2
      exact ih (i + 1) (by omega) h2 k5 k6 (hs.tr s2) p2
    obtain ⟨fsk, ck⟩ := hpL hp
    cases x with
    | inl c =>
      obtain ⟨h2, p1, p2, p3⟩ := p_addSign (S := S) (st := ln.2.2.1) (c := c) hp hr (by omega) (by omega)
      obtain ⟨h', j5, j6, r1, r2, r3⟩ := nxt h2 (some (.int (nI 0))) (some (.int (nI c))) p1 p2
      refine ⟨h', j5, j6, r1, r2, fun Q => ?_⟩
      rw [← r3, sX2_read_94]
      simp only [iK, iN] at f1 f2
      simp (disch := (first | omega | assumption | (simp (disch := omega) only [Int32.lt_iff_toInt_lt, Int32.le_iff_toInt_le, ← Int32.toInt_inj, nI_toInt, zi_m1, zi_m2, zi_m3, zi_m9]; omega) | decide)) only [sX2_read_96, sX2_read_96n, sX2_read_97, sX2_read_100, sX2_read_103, sX2_read_103n, sX2_read_104, sX2_read_107, sX2_read_109, sX2_read_112i, sX2_read_112r, sX2_read_112z, sX2_read_112o, sX2_read_114, sX2_read_114n, sX2_read_115, sX2_read_118, sX2_read_120, sX2_read_123i, sX2_read_123r, sX2_read_123z, sX2_read_123o, sX2_read_125, sX2_read_127, sX2_read_160, sX2_read_161, sX2_read_163, sX2_read_166, sX2_read_169, sX2_read_170, sX2_read_172, sX2_read_175, sX2_read_178, sX2_read_179, sX2_read_181, sX2_read_182, sX2_read_185, sX2_read_185n, sX2_read_186, sX2_read_189, sX2_read_192, sX2_read_194, sX2_read_194n, sX2_read_195, sX2_read_198, sX2_read_201, sX2_read_202, sX2_read_205, sX2_read_207, sX2_read_210, sX2_read_212, sX2_read_215i, sX2_read_215r, sX2_read_215z, sX2_read_215o, sX2_read_218, gG2_0, gG2_1, gG2_2, gG2_3, gG2_4, gG2_5, gG2_6, gG2_7, gG2_8, gG2_9, gG2_10, gG2_11, gP2_0, gP2_1, gP2_2, gP2_3, gP2_4, gP2_5, gP2_6, gP2_7, gP2_8, gP2_9, gP2_10, gP2_11, gG8_0, gG8_1, gG8_2, gP8_0, gP8_1, gP8_2, gG5_0, gP5_0, zpush_v, zpush_n, gCk, gAi, gSi, gLi, gLq, ↓if_pos, ↓if_neg, c2, c3.1, c4.1, m_X5_get c3, m_X5_get c4, f1, f2, ck, p3, nI_add]
    | inr y =>
      obtain ⟨l, oo⟩ := y
      simp only [iK, iN] at f1 f2
      by_cases hl : l = 107
      · subst hl
        have hk1 : isK (.inr (107, oo)) = true := rfl
        rw [hk1, if_pos rfl] at hkc2
        obtain ⟨n', hn1, hn2⟩ : ∃ n', oo = some n' ∧ n' ≤ 9999 := by
          simp only [okI] at hoi
          rcases hoi with ⟨a1, b1⟩ | ⟨a1, n', b1, c1'⟩ | ⟨a1, b1⟩ | ⟨a1, b1⟩ | ⟨a1, b1⟩ | ⟨a1, b1⟩
          · omega
          · exact ⟨n', b1, c1'⟩
          all_goals omega
        subst hn1
        obtain ⟨h2, p1, p2, p3⟩ := p_addSyl (x := n') hp hr (by omega) (by omega) hn2 (by omega)
        obtain ⟨h', j5, j6, r1, r2, r3⟩ := nxt h2 (some (.int (nI 107))) (some (.int (nI n'))) p1 (by simp only [runI, if_true]; exact p2)
        refine ⟨h', j5, j6, r1, r2, fun Q => ?_⟩
        rw [eN_s] at f2
        rw [← r3, sX2_read_94]
        simp (disch := (first | omega | assumption | (simp (disch := omega) only [Int32.lt_iff_toInt_lt, Int32.le_iff_toInt_le, ← Int32.toInt_inj, nI_toInt, zi_m1, zi_m2, zi_m3, zi_m9]; omega) | decide)) only [sX2_read_96, sX2_read_96n, sX2_read_97, sX2_read_100, sX2_read_103, sX2_read_103n, sX2_read_104, sX2_read_107, sX2_read_109, sX2_read_112i, sX2_read_112r, sX2_read_112z, sX2_read_112o, sX2_read_114, sX2_read_114n, sX2_read_115, sX2_read_118, sX2_read_120, sX2_read_123i, sX2_read_123r, sX2_read_123z, sX2_read_123o, sX2_read_125, sX2_read_127, sX2_read_160, sX2_read_161, sX2_read_163, sX2_read_166, sX2_read_169, sX2_read_170, sX2_read_172, sX2_read_175, sX2_read_178, sX2_read_179, sX2_read_181, sX2_read_182, sX2_read_185, sX2_read_185n, sX2_read_186, sX2_read_189, sX2_read_192, sX2_read_194, sX2_read_194n, sX2_read_195, sX2_read_198, sX2_read_201, sX2_read_202, sX2_read_205, sX2_read_207, sX2_read_210, sX2_read_212, sX2_read_215i, sX2_read_215r, sX2_read_215z, sX2_read_215o, sX2_read_218, gG2_0, gG2_1, gG2_2, gG2_3, gG2_4, gG2_5, gG2_6, gG2_7, gG2_8, gG2_9, gG2_10, gG2_11, gP2_0, gP2_1, gP2_2, gP2_3, gP2_4, gP2_5, gP2_6, gP2_7, gP2_8, gP2_9, gP2_10, gP2_11, gG8_0, gG8_1, gG8_2, gP8_0, gP8_1, gP8_2, gG5_0, gP5_0, zpush_v, zpush_n, gCk, gAi, gSi, gLi, gLq, ↓if_pos, ↓if_neg, c2, c3.1, c4.1, m_X5_get c3, m_X5_get c4, f1, f2, ck, p3, nI_add]
      · by_cases hl2 : l = 114
        · subst hl2
          cases oo with
          | none =>
            obtain ⟨h2, p1, p2, p3⟩ := p_hold hp hS1 hw w3 hak
            obtain ⟨h', j5, j6, r1, r2, r3⟩ := nxt h2 (some (.int (nI 114))) (some (.int (-1))) p1 (by simp only [runI, show ¬ (114 : Nat) = 107 by decide, if_false, if_true]; exact p2)
            refine ⟨h', j5, j6, r1, r2, fun Q => ?_⟩
            rw [eN_n] at f2
            rw [← r3, sX2_read_94]
            simp (disch := (first | omega | assumption | (simp (disch := omega) only [Int32.lt_iff_toInt_lt, Int32.le_iff_toInt_le, ← Int32.toInt_inj, nI_toInt, zi_m1, zi_m2, zi_m3, zi_m9]; omega) | decide)) only [sX2_read_96, sX2_read_96n, sX2_read_97, sX2_read_100, sX2_read_103, sX2_read_103n, sX2_read_104, sX2_read_107, sX2_read_109, sX2_read_112i, sX2_read_112r, sX2_read_112z, sX2_read_112o, sX2_read_114, sX2_read_114n, sX2_read_115, sX2_read_118, sX2_read_120, sX2_read_123i, sX2_read_123r, sX2_read_123z, sX2_read_123o, sX2_read_125, sX2_read_127, sX2_read_160, sX2_read_161, sX2_read_163, sX2_read_166, sX2_read_169, sX2_read_170, sX2_read_172, sX2_read_175, sX2_read_178, sX2_read_179, sX2_read_181, sX2_read_182, sX2_read_185, sX2_read_185n, sX2_read_186, sX2_read_189, sX2_read_192, sX2_read_194, sX2_read_194n, sX2_read_195, sX2_read_198, sX2_read_201, sX2_read_202, sX2_read_205, sX2_read_207, sX2_read_210, sX2_read_212, sX2_read_215i, sX2_read_215r, sX2_read_215z, sX2_read_215o, sX2_read_218, gG1_0, gG1_1, gG1_2, gG1_3, gG1_4, gP1_0, gP1_1, gP1_2, gP1_3, gP1_4, gG2_0, gG2_1, gG2_2, gG2_3, gG2_4, gG2_5, gG2_6, gG2_7, gG2_8, gG2_9, gG2_10, gG2_11, gP2_0, gP2_1, gP2_2, gP2_3, gP2_4, gP2_5, gP2_6, gP2_7, gP2_8, gP2_9, gP2_10, gP2_11, gG8_0, gG8_1, gG8_2, gP8_0, gP8_1, gP8_2, gG5_0, gP5_0, zpush_v, zpush_n, gCk, gAi, gSi, gLi, gLq, ↓if_pos, ↓if_neg, c1, c2, c3.1, c4.1, m_X5_get c3, m_X5_get c4, f1, f2, ck, p3, nI_add]
          | some n' =>
            have hn' : n' ≤ 9 := by
              simp only [okI] at hoi
              rcases hoi with ⟨a1, b1⟩ | ⟨a1, b1⟩ | ⟨a1, b1⟩ | ⟨a1, b1⟩ | ⟨a1, b1⟩ | ⟨a1, b1⟩
              · exact b1 n' rfl
              all_goals omega
            obtain ⟨h2, p1, p2, p3⟩ := p_hold (st := some n') hp hS1 hw (fun s hs => by cases hs; omega) hak
            obtain ⟨h', j5, j6, r1, r2, r3⟩ := nxt h2 (some (.int (nI 114))) (some (.int (nI n'))) p1 (by simp only [runI, show ¬ (114 : Nat) = 107 by decide, if_false, if_true]; exact p2)
            refine ⟨h', j5, j6, r1, r2, fun Q => ?_⟩
            rw [eN_s] at f2 p3
            rw [← r3, sX2_read_94]
            simp (disch := (first | omega | assumption | (simp (disch := omega) only [Int32.lt_iff_toInt_lt, Int32.le_iff_toInt_le, ← Int32.toInt_inj, nI_toInt, zi_m1, zi_m2, zi_m3, zi_m9]; omega) | decide)) only [sX2_read_96, sX2_read_96n, sX2_read_97, sX2_read_100, sX2_read_103, sX2_read_103n, sX2_read_104, sX2_read_107, sX2_read_109, sX2_read_112i, sX2_read_112r, sX2_read_112z, sX2_read_112o, sX2_read_114, sX2_read_114n, sX2_read_115, sX2_read_118, sX2_read_120, sX2_read_123i, sX2_read_123r, sX2_read_123z, sX2_read_123o, sX2_read_125, sX2_read_127, sX2_read_160, sX2_read_161, sX2_read_163, sX2_read_166, sX2_read_169, sX2_read_170, sX2_read_172, sX2_read_175, sX2_read_178, sX2_read_179, sX2_read_181, sX2_read_182, sX2_read_185, sX2_read_185n, sX2_read_186, sX2_read_189, sX2_read_192, sX2_read_194, sX2_read_194n, sX2_read_195, sX2_read_198, sX2_read_201, sX2_read_202, sX2_read_205, sX2_read_207, sX2_read_210, sX2_read_212, sX2_read_215i, sX2_read_215r, sX2_read_215z, sX2_read_215o, sX2_read_218, gG1_0, gG1_1, gG1_2, gG1_3, gG1_4, gP1_0, gP1_1, gP1_2, gP1_3, gP1_4, gG2_0, gG2_1, gG2_2, gG2_3, gG2_4, gG2_5, gG2_6, gG2_7, gG2_8, gG2_9, gG2_10, gG2_11, gP2_0, gP2_1, gP2_2, gP2_3, gP2_4, gP2_5, gP2_6, gP2_7, gP2_8, gP2_9, gP2_10, gP2_11, gG8_0, gG8_1, gG8_2, gP8_0, gP8_1, gP8_2, gG5_0, gP5_0, zpush_v, zpush_n, gCk, gAi, gSi, gLi, gLq, ↓if_pos, ↓if_neg, c1, c2, c3.1, c4.1, m_X5_get c3, m_X5_get c4, f1, f2, ck, p3, nI_add, nI_nm1]
        · have hlx : l = 115 ∨ l = 99 ∨ l = 116 ∨ l = 98 := by
            simp only [okI] at hoi
            omega
          obtain ⟨n', hn1, hn2⟩ : ∃ n', oo = some n' ∧ n' ≤ 99 := by
            simp only [okI] at hoi
            rcases hoi with ⟨a1, b1⟩ | ⟨a1, b1⟩ | ⟨a1, n', b1, c1'⟩ | ⟨a1, n', b1, c1'⟩ | ⟨a1, n', b1, c1'⟩ | ⟨a1, n', b1, c1'⟩
            · omega
            · omega
            all_goals exact ⟨n', b1, by omega⟩
          subst hn1
          have hpq : prT l < 4 := by
            unfold prT
            split
            · omega
            · split
              · omega
              · split <;> omega
          obtain ⟨h2, p1, p2, p3⟩ := p_set (x := n') hp hpq
          obtain ⟨h', j5, j6, r1, r2, r3⟩ := nxt h2 (some (.int (nI l))) (some (.int (nI n'))) p1 (by simp only [runI, hl, hl2, if_false]; exact p2)
          refine ⟨h', j5, j6, r1, r2, fun Q => ?_⟩
          rw [eN_s] at f2
          obtain ⟨sg, sy, hd, hO, -⟩ := hp
          rw [← r3, sX2_read_94]
          simp (disch := (first | omega | assumption | (simp (disch := omega) only [Int32.lt_iff_toInt_lt, Int32.le_iff_toInt_le, ← Int32.toInt_inj, nI_toInt, zi_m1, zi_m2, zi_m3, zi_m9]; omega) | decide)) only [sX2_read_96, sX2_read_96n, sX2_read_97, sX2_read_100, sX2_read_103, sX2_read_103n, sX2_read_104, sX2_read_107, sX2_read_109, sX2_read_112i, sX2_read_112r, sX2_read_112z, sX2_read_112o, sX2_read_114, sX2_read_114n, sX2_read_115, sX2_read_118, sX2_read_120, sX2_read_123i, sX2_read_123r, sX2_read_123z, sX2_read_123o, sX2_read_125, sX2_read_127, sX2_read_160, sX2_read_161, sX2_read_163, sX2_read_166, sX2_read_169, sX2_read_170, sX2_read_172, sX2_read_175, sX2_read_178, sX2_read_179, sX2_read_181, sX2_read_182, sX2_read_185, sX2_read_185n, sX2_read_186, sX2_read_189, sX2_read_192, sX2_read_194, sX2_read_194n, sX2_read_195, sX2_read_198, sX2_read_201, sX2_read_202, sX2_read_205, sX2_read_207, sX2_read_210, sX2_read_212, sX2_read_215i, sX2_read_215r, sX2_read_215z, sX2_read_215o, sX2_read_218, gG1_0, gG1_1, gG1_2, gG1_3, gG1_4, gP1_0, gP1_1, gP1_2, gP1_3, gP1_4, gG2_0, gG2_1, gG2_2, gG2_3, gG2_4, gG2_5, gG2_6, gG2_7, gG2_8, gG2_9, gG2_10, gG2_11, gP2_0, gP2_1, gP2_2, gP2_3, gP2_4, gP2_5, gP2_6, gP2_7, gP2_8, gP2_9, gP2_10, gP2_11, gG8_0, gG8_1, gG8_2, gP8_0, gP8_1, gP8_2, gG5_0, gP5_0, zpush_v, zpush_n, gCk, gAi, gSi, gLi, gLq, ↓if_pos, ↓if_neg, c1, c2, c3.1, c4.1, m_X5_get c3, m_X5_get c4, f1, f2, hO.1, hO.2.2.2.1, p3, nI_add, m_X9_prT hlx]
end RD2
