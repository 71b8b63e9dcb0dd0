/-! SubtitleStyles: sung -/
theorem nn32 (x : UInt32) : x &&& 0x7fffffff ≤ 0x7f800000 ↔ FP.Core.fIsNaN x = false := by
  rw [UInt32.le_iff_toNat_le, UInt32.toNat_and, show (0x7fffffff : UInt32).toNat = 2 ^ 31 - 1 by decide, show (0x7f800000 : UInt32).toNat = 2139095040 by decide, Nat.and_two_pow_sub_one_eq_mod, ← Bool.not_eq_true, FP.Core.isNaN_bits32]
  omega
theorem nn64 (x : UInt64) : x &&& 0x7fffffffffffffff ≤ 0x7ff0000000000000 ↔ FP.Core.dIsNaN x = false := by
  rw [UInt64.le_iff_toNat_le, UInt64.toNat_and, show (0x7fffffffffffffff : UInt64).toNat = 2 ^ 63 - 1 by decide, show (0x7ff0000000000000 : UInt64).toNat = 9218868437227405312 by decide, Nat.and_two_pow_sub_one_eq_mod, ← Bool.not_eq_true, FP.Core.isNaN_bits]
  omega
theorem fq_ok {a b : Int32} (hb : b ≠ 0) : FP.fdiv (FP.i2f a) (FP.i2f b) &&& 0x7fffffff ≤ 0x7f800000 := by
  have ha := (FP.Core.fin_bits32 _).mp (FP.Core.i2f_fin a)
  have hn : FP.Core.fIsNaN (FP.Core.i2f a) = false := by
    rw [← Bool.not_eq_true, FP.Core.isNaN_bits32]
    omega
  exact (nn32 _).mpr (FP.Core.fdiv_out hn (FP.Core.i2f_fin b) (fun q => FP.Core.i2f_ne_zero hb ((FP.Core.zero_bits232 _).mp q)))
theorem f2d_ok {x : UInt32} (h : x &&& 0x7fffffff ≤ 0x7f800000) : FP.f2d x &&& 0x7fffffffffffffff ≤ 0x7ff0000000000000 := by
  rw [nn64, show FP.Core.dIsNaN (FP.f2d x) = FP.Core.fIsNaN x from FP.f2d_nan x]
  exact (nn32 x).mp h
theorem dcmp_same {x : UInt64} (h : x &&& 0x7fffffffffffffff ≤ 0x7ff0000000000000) : FP.dcmp x x = some .eq := by
  have h1 := (nn64 x).mp h
  refine FP.Core.dcmp_self (fun q => ?_)
  rw [← FP.Core.dIsNaN_iff, h1] at q
  cases q
section XK
variable {h h' : Hp} {X B : Nat} {p : PS}
theorem sng_le {S : Sh} {L : List Ln} (hw : WfS S) (hL : WfLs L) (t : Int32) : ∀ i, (sng S L t i).1 ≤ 80 * i ∧ (sng S L t i).2 ≤ (sng S L t i).1 := by
  intro i
  induction i with
  | zero => exact ⟨Nat.le_refl 0, Nat.le_refl 0⟩
  | succ i ih =>
    have a := (rdL_ok hw (lnA_wf hL i)).1
    have b := cntU_le (lnA L i).1 (rdL S (lnA L i)) t (rdL S (lnA L i)).2.1.length
    simp only [sng]
    split
    · simp only
      omega
    · omega
theorem l_sung (hr : rP h X B p) (hw : WfP p) (t : Int32) (Q : Option Value → Hp → Prop) : ∀ (m i : Nat) (o : Option Value), m + i = p.1.2.1.length → okLc o →
    WP 96 7 [some (.ref X), some (.int t), some (.int (nI (sng p.1.1 p.1.2.1 t i).1)), some (.int (nI (sng p.1.1 p.1.2.1 t i).2)), some (.int (nI i)), o] [] h Q = Q (some (.float (qSung p t))) h := by
  obtain ⟨c1, c2, hS⟩ := hr.facts
  obtain ⟨fs2, cp⟩ := hr.pic
  have h16 := hw.1.2.1.1
  intro m
  induction m with
  | zero =>
    intro i o hi ho
    have hi : i = p.1.2.1.length := by omega
    subst hi
    have le := sng_le hw.1.1 hw.1.2.1 t p.1.2.1.length
    unfold qSung
    rw [sX9_sung_7]
    by_cases z : (sng p.1.1 p.1.2.1 t p.1.2.1.length).1 = 0
    · rw [if_pos z, z]
      simp (disch := (first | omega | assumption | (simp (disch := omega) only [Int32.lt_iff_toInt_lt, Int32.le_iff_toInt_le, ← Int32.toInt_inj, nI_toInt, zi_m1, zi_m2, zi_m3, zi_m9]; omega) | decide)) only [sX9_sung_0, sX9_sung_1i, sX9_sung_1r, sX9_sung_1z, sX9_sung_1o, sX9_sung_2, sX9_sung_3i, sX9_sung_3r, sX9_sung_3z, sX9_sung_3o, sX9_sung_4, sX9_sung_5i, sX9_sung_5r, sX9_sung_5z, sX9_sung_5o, sX9_sung_9, sX9_sung_10, sX9_sung_13, sX9_sung_16, sX9_sung_19, sX9_sung_20, sX9_sung_23, sX9_sung_25, sX9_sung_28i, sX9_sung_28iN, sX9_sung_28r, sX9_sung_28rN, sX9_sung_28z, sX9_sung_28zN, sX9_sung_28o, sX9_sung_28oN, sX9_sung_30, sX9_sung_30n, sX9_sung_32, sX9_sung_32n, sX9_sung_35, sX9_sung_35n, sX9_sung_37, sX9_sung_38, sX9_sung_41, sX9_sung_44, sX9_sung_45, sX9_sung_45n, sX9_sung_47, sX9_sung_50, sX9_sung_51i, sX9_sung_51r, sX9_sung_51z, sX9_sung_51o, sX9_sung_52, sX9_sung_53, sX9_sung_53n, sX9_sung_55, sX9_sung_56, sX9_sung_59, sX9_sung_60i, sX9_sung_60r, sX9_sung_60z, sX9_sung_60o, sX9_sung_61i, sX9_sung_61r, sX9_sung_61z, sX9_sung_61o, sX9_sung_64, sX9_sung_67, sX9_sung_68, sX9_sung_71, sX9_sung_72, sX9_sung_75, sX9_sung_76, sX9_sung_77, sX9_sung_78, sX9_sung_79, sX9_sung_80, gG9_0, gG9_1, gG9_2, gG9_3, gG9_4, gG9_5, gG9_6, gG9_7, gP9_0, gP9_1, gP9_2, gP9_3, gP9_4, gP9_5, gP9_6, gP9_7, gG6_0, gG6_1, gG6_2, gG6_3, gP6_0, gP6_1, gP6_2, gP6_3, zpush_v, zpush_n, gCk, gAi, gSi, gLi, gLq, ↓if_pos, ↓if_neg, c1, c2]
    · rw [if_neg z]
      have nz : nI (sng p.1.1 p.1.2.1 t p.1.2.1.length).1 ≠ 0 := by
        intro q
        have q : nI (sng p.1.1 p.1.2.1 t p.1.2.1.length).1 = nI 0 := q
        rw [nI_eq (by omega) (by omega)] at q
        exact z q
      have fo := fq_ok (a := nI (sng p.1.1 p.1.2.1 t p.1.2.1.length).2) nz
      simp (disch := (first | omega | assumption | (simp (disch := omega) only [Int32.lt_iff_toInt_lt, Int32.le_iff_toInt_le, ← Int32.toInt_inj, nI_toInt, zi_m1, zi_m2, zi_m3, zi_m9]; omega) | decide)) only [sX9_sung_0, sX9_sung_1i, sX9_sung_1r, sX9_sung_1z, sX9_sung_1o, sX9_sung_2, sX9_sung_3i, sX9_sung_3r, sX9_sung_3z, sX9_sung_3o, sX9_sung_4, sX9_sung_5i, sX9_sung_5r, sX9_sung_5z, sX9_sung_5o, sX9_sung_9, sX9_sung_10, sX9_sung_13, sX9_sung_16, sX9_sung_19, sX9_sung_20, sX9_sung_23, sX9_sung_25, sX9_sung_28i, sX9_sung_28iN, sX9_sung_28r, sX9_sung_28rN, sX9_sung_28z, sX9_sung_28zN, sX9_sung_28o, sX9_sung_28oN, sX9_sung_30, sX9_sung_30n, sX9_sung_32, sX9_sung_32n, sX9_sung_35, sX9_sung_35n, sX9_sung_37, sX9_sung_38, sX9_sung_41, sX9_sung_44, sX9_sung_45, sX9_sung_45n, sX9_sung_47, sX9_sung_50, sX9_sung_51i, sX9_sung_51r, sX9_sung_51z, sX9_sung_51o, sX9_sung_52, sX9_sung_53, sX9_sung_53n, sX9_sung_55, sX9_sung_56, sX9_sung_59, sX9_sung_60i, sX9_sung_60r, sX9_sung_60z, sX9_sung_60o, sX9_sung_61i, sX9_sung_61r, sX9_sung_61z, sX9_sung_61o, sX9_sung_64, sX9_sung_67, sX9_sung_68, sX9_sung_71, sX9_sung_72, sX9_sung_75, sX9_sung_76, sX9_sung_77, sX9_sung_78, sX9_sung_79, sX9_sung_80, gG9_0, gG9_1, gG9_2, gG9_3, gG9_4, gG9_5, gG9_6, gG9_7, gP9_0, gP9_1, gP9_2, gP9_3, gP9_4, gP9_5, gP9_6, gP9_7, gG6_0, gG6_1, gG6_2, gG6_3, gP6_0, gP6_1, gP6_2, gP6_3, zpush_v, zpush_n, gCk, gAi, gSi, gLi, gLq, ↓if_pos, ↓if_neg, c1, c2]
  | succ m ih =>
    intro i o hi ho
    have hi2 : i < p.1.2.1.length := by omega
    have le := sng_le hw.1.1 hw.1.2.1 t i
    obtain ⟨k1, k2, k3⟩ := hr.look hw hi2
    have ck := k1.cell.1
    have wl := hw.1.2.1.2 _ (lnA_mem hi2)
    have l80 := (rdL_ok hw.1.1 wl).1
    have cu := cntU_le (lnA p.1.2.1 i).1 (rdL p.1.1 (lnA p.1.2.1 i)) t (rdL p.1.1 (lnA p.1.2.1 i)).2.1.length
    have sh := m_X2_isShownAt k1 t
    have su := m_X2_countSungAt k1 hw.1.1 wl t
    have E := ih (i + 1) (some (.ref (X + 52 + 2 + 7 * i))) (by omega) (Or.inr (Or.inr ⟨_, rfl⟩))
    simp only [sng] at E
    rw [sX9_sung_7]
    by_cases z : shownP (lnA p.1.2.1 i) t = true
    · rw [if_pos z] at E
      rw [bI_t z] at sh
      rw [← E]
      rcases ho with rfl | rfl | ⟨y, rfl⟩
      all_goals simp (disch := (first | omega | assumption | (simp (disch := omega) only [Int32.lt_iff_toInt_lt, Int32.le_iff_toInt_le, ← Int32.toInt_inj, nI_toInt, zi_m1, zi_m2, zi_m3, zi_m9]; omega) | decide)) only [sX9_sung_0, sX9_sung_1i, sX9_sung_1r, sX9_sung_1z, sX9_sung_1o, sX9_sung_2, sX9_sung_3i, sX9_sung_3r, sX9_sung_3z, sX9_sung_3o, sX9_sung_4, sX9_sung_5i, sX9_sung_5r, sX9_sung_5z, sX9_sung_5o, sX9_sung_9, sX9_sung_10, sX9_sung_13, sX9_sung_16, sX9_sung_19, sX9_sung_20, sX9_sung_23, sX9_sung_25, sX9_sung_28i, sX9_sung_28iN, sX9_sung_28r, sX9_sung_28rN, sX9_sung_28z, sX9_sung_28zN, sX9_sung_28o, sX9_sung_28oN, sX9_sung_30, sX9_sung_30n, sX9_sung_32, sX9_sung_32n, sX9_sung_35, sX9_sung_35n, sX9_sung_37, sX9_sung_38, sX9_sung_41, sX9_sung_44, sX9_sung_45, sX9_sung_45n, sX9_sung_47, sX9_sung_50, sX9_sung_51i, sX9_sung_51r, sX9_sung_51z, sX9_sung_51o, sX9_sung_52, sX9_sung_53, sX9_sung_53n, sX9_sung_55, sX9_sung_56, sX9_sung_59, sX9_sung_60i, sX9_sung_60r, sX9_sung_60z, sX9_sung_60o, sX9_sung_61i, sX9_sung_61r, sX9_sung_61z, sX9_sung_61o, sX9_sung_64, sX9_sung_67, sX9_sung_68, sX9_sung_71, sX9_sung_72, sX9_sung_75, sX9_sung_76, sX9_sung_77, sX9_sung_78, sX9_sung_79, sX9_sung_80, gG9_0, gG9_1, gG9_2, gG9_3, gG9_4, gG9_5, gG9_6, gG9_7, gP9_0, gP9_1, gP9_2, gP9_3, gP9_4, gP9_5, gP9_6, gP9_7, gG6_0, gG6_1, gG6_2, gG6_3, gP6_0, gP6_1, gP6_2, gP6_3, gG2_0, gG2_1, gG2_2, gG2_3, gG2_4, gG2_5, gG2_6, gG2_7, gG2_8, gG2_9, gG2_10, gG2_11, gP2_0, gP2_1, gP2_2, gP2_3, gP2_4, gP2_5, gP2_6, gP2_7, gP2_8, gP2_9, gP2_10, gP2_11, zpush_v, zpush_n, gCk, gAi, gSi, gLi, gLq, ↓if_pos, ↓if_neg, c1, c2, cp, k3, ck, sh, su, nI_add]
    · rw [if_neg z] at E
      rw [bI_f z] at sh
      rw [← E]
      rcases ho with rfl | rfl | ⟨y, rfl⟩
      all_goals simp (disch := (first | omega | assumption | (simp (disch := omega) only [Int32.lt_iff_toInt_lt, Int32.le_iff_toInt_le, ← Int32.toInt_inj, nI_toInt, zi_m1, zi_m2, zi_m3, zi_m9]; omega) | decide)) only [sX9_sung_0, sX9_sung_1i, sX9_sung_1r, sX9_sung_1z, sX9_sung_1o, sX9_sung_2, sX9_sung_3i, sX9_sung_3r, sX9_sung_3z, sX9_sung_3o, sX9_sung_4, sX9_sung_5i, sX9_sung_5r, sX9_sung_5z, sX9_sung_5o, sX9_sung_9, sX9_sung_10, sX9_sung_13, sX9_sung_16, sX9_sung_19, sX9_sung_20, sX9_sung_23, sX9_sung_25, sX9_sung_28i, sX9_sung_28iN, sX9_sung_28r, sX9_sung_28rN, sX9_sung_28z, sX9_sung_28zN, sX9_sung_28o, sX9_sung_28oN, sX9_sung_30, sX9_sung_30n, sX9_sung_32, sX9_sung_32n, sX9_sung_35, sX9_sung_35n, sX9_sung_37, sX9_sung_38, sX9_sung_41, sX9_sung_44, sX9_sung_45, sX9_sung_45n, sX9_sung_47, sX9_sung_50, sX9_sung_51i, sX9_sung_51r, sX9_sung_51z, sX9_sung_51o, sX9_sung_52, sX9_sung_53, sX9_sung_53n, sX9_sung_55, sX9_sung_56, sX9_sung_59, sX9_sung_60i, sX9_sung_60r, sX9_sung_60z, sX9_sung_60o, sX9_sung_61i, sX9_sung_61r, sX9_sung_61z, sX9_sung_61o, sX9_sung_64, sX9_sung_67, sX9_sung_68, sX9_sung_71, sX9_sung_72, sX9_sung_75, sX9_sung_76, sX9_sung_77, sX9_sung_78, sX9_sung_79, sX9_sung_80, gG9_0, gG9_1, gG9_2, gG9_3, gG9_4, gG9_5, gG9_6, gG9_7, gP9_0, gP9_1, gP9_2, gP9_3, gP9_4, gP9_5, gP9_6, gP9_7, gG6_0, gG6_1, gG6_2, gG6_3, gP6_0, gP6_1, gP6_2, gP6_3, gG2_0, gG2_1, gG2_2, gG2_3, gG2_4, gG2_5, gG2_6, gG2_7, gG2_8, gG2_9, gG2_10, gG2_11, gP2_0, gP2_1, gP2_2, gP2_3, gP2_4, gP2_5, gP2_6, gP2_7, gP2_8, gP2_9, gP2_10, gP2_11, zpush_v, zpush_n, gCk, gAi, gSi, gLi, gLq, ↓if_pos, ↓if_neg, c1, c2, cp, k3, ck, sh, nI_add]
theorem x_sung (hr : rP h X B p) (hw : WfP p) (t : Int32) (Q : Option Value → Hp → Prop) : WPm 96 [.ref X, .int t] h Q = Q (some (.float (qSung p t))) h := by
  have := l_sung hr hw t Q _ 0 none rfl (Or.inl rfl)
  rw [← this, eX9_sung]
  simp (disch := (first | omega | assumption | (simp (disch := omega) only [Int32.lt_iff_toInt_lt, Int32.le_iff_toInt_le, ← Int32.toInt_inj, nI_toInt, zi_m1, zi_m2, zi_m3, zi_m9]; omega) | decide)) only [sX9_sung_0, sX9_sung_1i, sX9_sung_1r, sX9_sung_1z, sX9_sung_1o, sX9_sung_2, sX9_sung_3i, sX9_sung_3r, sX9_sung_3z, sX9_sung_3o, sX9_sung_4, sX9_sung_5i, sX9_sung_5r, sX9_sung_5z, sX9_sung_5o, zpush_v, zpush_n, gCk, gAi, gSi, gLi, gLq, ↓if_pos, ↓if_neg]
  rfl
theorem qSung_ok (p : PS) (t : Int32) (hw : WfP p) : qSung p t &&& 0x7fffffff ≤ 0x7f800000 := by
  unfold qSung
  have h16 := hw.1.2.1.1
  have le := sng_le hw.1.1 hw.1.2.1 t p.1.2.1.length
  by_cases z : (sng p.1.1 p.1.2.1 t p.1.2.1.length).1 = 0
  · rw [if_pos z]
    decide
  · rw [if_neg z]
    refine fq_ok (fun q => ?_)
    have q : nI (sng p.1.1 p.1.2.1 t p.1.2.1.length).1 = nI 0 := q
    rw [nI_eq (by omega) (by omega)] at q
    exact z q
end XK
