/-! the model: a line is gone through -/
def gR (sg lat hat nw : Nat → Int32) (r : Rd) : Prop := rTab sg r.2.1 ∧ (∀ i, i < r.2.2.length → lat i = nI (r.2.2.getD i 0) ∧ hat i = nI (cntS r.2.1 i)) ∧ ∀ p, p < 4 → nw p = nI (r.1 p)
def rsF (nw : Nat → Int32) (S : Sh) (o : Option Nat) (i : Nat) : Nat → Int32 := fun q => if q < i then nI (valS S q o) else nw q
theorem rsF_0 (nw : Nat → Int32) (S : Sh) (o : Option Nat) : rsF nw S o 0 = nw := by funext q; exact if_neg (by omega)
theorem rsF_step (nw : Nat → Int32) (S : Sh) (o : Option Nat) (i : Nat) : upd (rsF nw S o i) i (nI (valS S i o)) = rsF nw S o (i + 1) := by
  funext q
  simp only [rsF, upd]
  by_cases c : q = i
  · subst c
    rw [if_pos rfl, if_pos (by omega)]
  · rw [if_neg c]
    by_cases d : q < i
    · rw [if_pos d, if_pos (by omega)]
    · rw [if_neg d, if_neg (by omega)]
section MH
variable {h0 : Hp} {M : Nat} {v pa fl tx it sg lat hat nw os hgh pl asd lks : Nat → Int32} {pm ty ct wr im sm sy : Int32}
theorem l_restyles {S : Sh} (hv : encS v S) (hw : WfS S) {o : Option Nat} (ho : ∀ s, o = some s → s < S.1) (Q : Option Value → Hp → Prop) : ∀ (m i : Nat), m + i = 4 → WP 143 2 [some (.ref M), some (.int (eN o)), some (.int (nI i))] [] (mkM h0 M v pa pm fl tx ty ct wr it im sg sm lat hat sy (rsF nw S o i) os hgh pl asd lks) Q = Q none (mkM h0 M v pa pm fl tx ty ct wr it im sg sm lat hat sy (rsF nw S o 4) os hgh pl asd lks) := by
  intro m
  induction m with
  | zero =>
    intro i hi
    have hi : i = 4 := by omega
    subst hi
    rw [sX10_restyles_2]
    simp (disch := (first | omega | assumption | (simp (disch := omega) only [Int32.lt_iff_toInt_lt, Int32.le_iff_toInt_le, ← Int32.toInt_inj, nI_toInt, zi_m1, zi_m2, zi_m3, zi_m9]; omega) | decide)) only [sX10_restyles_3, sX10_restyles_4, sX10_restyles_25, zpush_v, zpush_n, gCk, gAi, gSi, gSz, gLi, gLq, ↓if_pos, ↓if_neg]
  | succ m ih =>
    intro i hi
    rw [← ih (i + 1) (by omega), sX10_restyles_2]
    simp (disch := (first | omega | assumption | (simp (disch := omega) only [Int32.lt_iff_toInt_lt, Int32.le_iff_toInt_le, ← Int32.toInt_inj, nI_toInt, zi_m1, zi_m2, zi_m3, zi_m9]; omega) | decide)) only [sX10_restyles_3, sX10_restyles_4, sX10_restyles_7, sX10_restyles_8, sX10_restyles_11, sX10_restyles_12, sX10_restyles_13, sX10_restyles_14, sX10_restyles_15, sX10_restyles_18, sX10_restyles_19i, sX10_restyles_19r, sX10_restyles_19z, sX10_restyles_19o, sX10_restyles_22, mCk, mG0, mG1, mG2, mG3, mG4, mG5, mG6, mG7, mG8, mG9, mG10, mG11, mG12, mG13, mG14, mG15, mG16, mG17, mG18, mG19, mG20, mP2, mP5, mP6, mP7, mP9, mP11, mP14, mA1, mS1, mA2, mS2, mA3, mS3, mA4, mS4, mA5, mS5, mA6, mS6, mA7, mS7, mA8, mS8, mA9, mS9, mA10, mS10, mA11, mS11, mA12, mS12, mA13, mS13, mA14, mS14, zpush_v, zpush_n, gCk, gAi, gSi, gSz, gLi, gLq, ↓if_pos, ↓if_neg, m_valued hv hw (show i < 6 by omega) ho, nI_add, rsF_step]
theorem m_restyles {S : Sh} (hv : encS v S) (hw : WfS S) {o : Option Nat} (ho : ∀ s, o = some s → s < S.1) (Q : Option Value → Hp → Prop) : WPm 143 [.ref M, .int (eN o)] (mkM h0 M v pa pm fl tx ty ct wr it im sg sm lat hat sy nw os hgh pl asd lks) Q = Q none (mkM h0 M v pa pm fl tx ty ct wr it im sg sm lat hat sy (rsF nw S o 4) os hgh pl asd lks) := by
  rw [eX10_restyles, ← l_restyles hv hw ho Q 4 0 rfl, rsF_0]
  simp (disch := (first | omega | assumption | (simp (disch := omega) only [Int32.lt_iff_toInt_lt, Int32.le_iff_toInt_le, ← Int32.toInt_inj, nI_toInt, zi_m1, zi_m2, zi_m3, zi_m9]; omega) | decide)) only [sX10_restyles_0, sX10_restyles_1i, sX10_restyles_1r, sX10_restyles_1z, sX10_restyles_1o, zpush_v, zpush_n, gCk, gAi, gSi, gSz, gLi, gLq, ↓if_pos, ↓if_neg]
theorem rsF_ok {S : Sh} {o : Option Nat} {p : Nat} (hp : p < 4) : rsF nw S o 4 p = nI (valS S p o) := if_pos hp
theorem gR.now {r : Rd} {f : Nat → Nat} {nw' : Nat → Int32} (h : gR sg lat hat nw r) (hn : ∀ p, p < 4 → nw' p = nI (f p)) : gR sg lat hat nw' (f, r.2.1, r.2.2) := ⟨h.1, h.2.1, hn⟩
theorem m_tags {S : Sh} (hv : encS v S) (hw : WfS S) {st : Option Nat} (hst : ∀ s, st = some s → s < S.1) {r : Rd} {n m : Nat} (hr : gR sg lat hat nw r) (hok : okR r n m) (hm : m ≤ 20) {l : Nat} {o : Option Nat} (hi : okI (.inr (l, o))) :
    ∃ lat' hat' nw', gR sg lat' hat' nw' (runI S st r (.inr (l, o))) ∧ ∀ Q : Option Value → Hp → Prop, WPm 144 [.ref M, .int (eN st), .int (nI l), .int (eN o)] (mkM h0 M v pa pm fl tx ty ct wr it im sg sm lat hat (nI r.2.2.length) nw os hgh pl asd lks) Q = Q none (mkM h0 M v pa pm fl tx ty ct wr it im sg sm lat' hat' (nI (runI S st r (.inr (l, o))).2.2.length) nw' os hgh pl asd lks) := by
  have h10 := hw.1
  have set4 : ∀ (q x : Nat), q < 4 → ∀ p, p < 4 → upd nw q (nI x) p = nI (updN r.1 q x p) := by
    intro q x hq p hp
    unfold upd updN
    split
    · rfl
    · exact hr.2.2 p hp
  rcases hi with ⟨rfl, h1⟩ | ⟨rfl, x, rfl, h1⟩ | ⟨rfl, x, rfl, h1⟩ | ⟨rfl, x, rfl, h1⟩ | ⟨rfl, x, rfl, h1⟩ | ⟨rfl, x, rfl, h1⟩
  · cases o with
    | none =>
      refine ⟨lat, hat, rsF nw S st 4, hr.now (f := fun p => valS S p st) (fun p hp => rsF_ok hp), fun Q => ?_⟩
      rw [eX10_tags]
      simp (disch := (first | omega | assumption | (simp (disch := omega) only [Int32.lt_iff_toInt_lt, Int32.le_iff_toInt_le, ← Int32.toInt_inj, nI_toInt, zi_m1, zi_m2, zi_m3, zi_m9]; omega) | decide)) only [sX10_tags_0, sX10_tags_1, sX10_tags_52, sX10_tags_53, sX10_tags_56, sX10_tags_57, sX10_tags_58, sX10_tags_59, sX10_tags_62, sX10_tags_63, sX10_tags_66, sX10_tags_67, sX10_tags_68, sX10_tags_69, sX10_tags_72, sX10_tags_73, sX10_tags_76, sX10_tags_77, sX10_tags_78, sX10_tags_79, sX10_tags_82, sX10_tags_83, sX10_tags_86, sX10_tags_87, sX10_tags_88, sX10_tags_89, sX10_tags_92, sX10_tags_93, sX10_tags_94, sX10_tags_97, sX10_tags_98, sX10_tags_101, sX10_tags_102, sX10_tags_103, sX10_tags_106, sX10_tags_109, sX10_tags_110, sX10_tags_113, sX10_tags_114, sX10_tags_117, sX10_tags_120, sX10_tags_121, sX10_tags_124, sX10_tags_125, sX10_tags_128, sX10_tags_129, sX10_tags_130, sX10_tags_131, sX10_tags_134, sX10_tags_135, sX10_tags_138, sX10_tags_139, sX10_tags_140, sX10_tags_141, sX10_tags_141i, sX10_tags_142, sX10_tags_145, sX10_tags_146, sX10_tags_147, sX10_tags_150, mCk, mG0, mG1, mG2, mG3, mG4, mG5, mG6, mG7, mG8, mG9, mG10, mG11, mG12, mG13, mG14, mG15, mG16, mG17, mG18, mG19, mG20, mP2, mP5, mP6, mP7, mP9, mP11, mP14, mA1, mS1, mA2, mS2, mA3, mS3, mA4, mS4, mA5, mS5, mA6, mS6, mA7, mS7, mA8, mS8, mA9, mS9, mA10, mS10, mA11, mS11, mA12, mS12, mA13, mS13, mA14, mS14, zpush_v, zpush_n, gCk, gAi, gSi, gSz, gLi, gLq, ↓if_pos, ↓if_neg, eN_n, m_restyles hv hw hst]
      rfl
    | some k =>
      have hk := h1 k rfl
      by_cases c : k < S.1
      · refine ⟨lat, hat, rsF nw S (some k) 4, hr.now (f := fun p => valS S p (some k)) (fun p hp => rsF_ok hp), fun Q => ?_⟩
        have R := fun Q => m_restyles (h0 := h0) (M := M) (v := v) (pa := pa) (pm := pm) (fl := fl) (tx := tx) (ty := ty) (ct := ct) (wr := wr) (it := it) (im := im) (sg := sg) (sm := sm) (lat := lat) (hat := hat) (sy := nI r.2.2.length) (nw := nw) (os := os) (hgh := hgh) (pl := pl) (asd := asd) (lks := lks) hv hw (o := some k) (fun s hs => by cases hs; exact c) Q
        rw [eN_s] at R
        rw [eX10_tags]
        simp (disch := (first | omega | assumption | (simp (disch := omega) only [Int32.lt_iff_toInt_lt, Int32.le_iff_toInt_le, ← Int32.toInt_inj, nI_toInt, zi_m1, zi_m2, zi_m3, zi_m9]; omega) | decide)) only [sX10_tags_0, sX10_tags_1, sX10_tags_52, sX10_tags_53, sX10_tags_56, sX10_tags_57, sX10_tags_58, sX10_tags_59, sX10_tags_62, sX10_tags_63, sX10_tags_66, sX10_tags_67, sX10_tags_68, sX10_tags_69, sX10_tags_72, sX10_tags_73, sX10_tags_76, sX10_tags_77, sX10_tags_78, sX10_tags_79, sX10_tags_82, sX10_tags_83, sX10_tags_86, sX10_tags_87, sX10_tags_88, sX10_tags_89, sX10_tags_92, sX10_tags_93, sX10_tags_94, sX10_tags_97, sX10_tags_98, sX10_tags_101, sX10_tags_102, sX10_tags_103, sX10_tags_106, sX10_tags_109, sX10_tags_110, sX10_tags_113, sX10_tags_114, sX10_tags_117, sX10_tags_120, sX10_tags_121, sX10_tags_124, sX10_tags_125, sX10_tags_128, sX10_tags_129, sX10_tags_130, sX10_tags_131, sX10_tags_134, sX10_tags_135, sX10_tags_138, sX10_tags_139, sX10_tags_140, sX10_tags_141, sX10_tags_141i, sX10_tags_142, sX10_tags_145, sX10_tags_146, sX10_tags_147, sX10_tags_150, mCk, mG0, mG1, mG2, mG3, mG4, mG5, mG6, mG7, mG8, mG9, mG10, mG11, mG12, mG13, mG14, mG15, mG16, mG17, mG18, mG19, mG20, mP2, mP5, mP6, mP7, mP9, mP11, mP14, mA1, mS1, mA2, mS2, mA3, mS3, mA4, mS4, mA5, mS5, mA6, mS6, mA7, mS7, mA8, mS8, mA9, mS9, mA10, mS10, mA11, mS11, mA12, mS12, mA13, mS13, mA14, mS14, zpush_v, zpush_n, gCk, gAi, gSi, gSz, gLi, gLq, ↓if_pos, ↓if_neg, eN_s, isSt_t hv.1 h10 c, R]
        rfl
      · refine ⟨lat, hat, rsF nw S none 4, hr.now (f := fun p => valS S p (some k)) (fun p hp => by rw [rsF_ok hp, valS_out c]; rfl), fun Q => ?_⟩
        have R := fun Q => m_restyles (h0 := h0) (M := M) (v := v) (pa := pa) (pm := pm) (fl := fl) (tx := tx) (ty := ty) (ct := ct) (wr := wr) (it := it) (im := im) (sg := sg) (sm := sm) (lat := lat) (hat := hat) (sy := nI r.2.2.length) (nw := nw) (os := os) (hgh := hgh) (pl := pl) (asd := asd) (lks := lks) hv hw (o := none) (fun s hs => by cases hs) Q
        rw [eN_n] at R
        rw [eX10_tags]
        simp (disch := (first | omega | assumption | (simp (disch := omega) only [Int32.lt_iff_toInt_lt, Int32.le_iff_toInt_le, ← Int32.toInt_inj, nI_toInt, zi_m1, zi_m2, zi_m3, zi_m9]; omega) | decide)) only [sX10_tags_0, sX10_tags_1, sX10_tags_52, sX10_tags_53, sX10_tags_56, sX10_tags_57, sX10_tags_58, sX10_tags_59, sX10_tags_62, sX10_tags_63, sX10_tags_66, sX10_tags_67, sX10_tags_68, sX10_tags_69, sX10_tags_72, sX10_tags_73, sX10_tags_76, sX10_tags_77, sX10_tags_78, sX10_tags_79, sX10_tags_82, sX10_tags_83, sX10_tags_86, sX10_tags_87, sX10_tags_88, sX10_tags_89, sX10_tags_92, sX10_tags_93, sX10_tags_94, sX10_tags_97, sX10_tags_98, sX10_tags_101, sX10_tags_102, sX10_tags_103, sX10_tags_106, sX10_tags_109, sX10_tags_110, sX10_tags_113, sX10_tags_114, sX10_tags_117, sX10_tags_120, sX10_tags_121, sX10_tags_124, sX10_tags_125, sX10_tags_128, sX10_tags_129, sX10_tags_130, sX10_tags_131, sX10_tags_134, sX10_tags_135, sX10_tags_138, sX10_tags_139, sX10_tags_140, sX10_tags_141, sX10_tags_141i, sX10_tags_142, sX10_tags_145, sX10_tags_146, sX10_tags_147, sX10_tags_150, mCk, mG0, mG1, mG2, mG3, mG4, mG5, mG6, mG7, mG8, mG9, mG10, mG11, mG12, mG13, mG14, mG15, mG16, mG17, mG18, mG19, mG20, mP2, mP5, mP6, mP7, mP9, mP11, mP14, mA1, mS1, mA2, mS2, mA3, mS3, mA4, mS4, mA5, mS5, mA6, mS6, mA7, mS7, mA8, mS8, mA9, mS9, mA10, mS10, mA11, mS11, mA12, mS12, mA13, mS13, mA14, mS14, zpush_v, zpush_n, gCk, gAi, gSi, gSz, gLi, gLq, ↓if_pos, ↓if_neg, eN_s, isSt_f hv.1 h10 (x := nI k) (Or.inr (nI_le (by omega) (by omega))), R]
        rfl
  · have hl := hok.2.1
    refine ⟨upd lat r.2.2.length (nI x), upd hat r.2.2.length (nI 0), nw, ⟨hr.1, fun i hi => ?_, hr.2.2⟩, fun Q => ?_⟩
    · have hi : i < (r.2.2 ++ [x]).length := hi
      rw [List.length_append] at hi
      have hi : i < r.2.2.length + 1 := hi
      show upd lat r.2.2.length (nI x) i = nI ((r.2.2 ++ [x]).getD i 0) ∧ upd hat r.2.2.length (nI 0) i = nI (cntS r.2.1 i)
      by_cases c : i = r.2.2.length
      · subst c
        rw [upd_at, upd_at, getD_app_r]
        refine ⟨rfl, ?_⟩
        have hc : cntS r.2.1 r.2.2.length = 0 := by
          unfold cntS
          rw [List.length_eq_zero_iff, List.filter_eq_nil_iff]
          intro y hy
          simp only [beq_iff_eq]
          intro z
          exact absurd ((hok.2.2.2.1 y hy).2 _ z) (by omega)
        rw [hc]
      · rw [upd_off c, upd_off c, getD_app_l (by omega)]
        exact hr.2.1 i (by omega)
    · have e : (runI S st r (.inr (107, some x))).2.2.length = r.2.2.length + 1 := by
        show (r.2.2 ++ [x]).length = _
        rw [List.length_append]
        rfl
      rw [e, eX10_tags]
      simp (disch := (first | omega | assumption | (simp (disch := omega) only [Int32.lt_iff_toInt_lt, Int32.le_iff_toInt_le, ← Int32.toInt_inj, nI_toInt, zi_m1, zi_m2, zi_m3, zi_m9]; omega) | decide)) only [sX10_tags_0, sX10_tags_1, sX10_tags_52, sX10_tags_53, sX10_tags_56, sX10_tags_57, sX10_tags_58, sX10_tags_59, sX10_tags_62, sX10_tags_63, sX10_tags_66, sX10_tags_67, sX10_tags_68, sX10_tags_69, sX10_tags_72, sX10_tags_73, sX10_tags_76, sX10_tags_77, sX10_tags_78, sX10_tags_79, sX10_tags_82, sX10_tags_83, sX10_tags_86, sX10_tags_87, sX10_tags_88, sX10_tags_89, sX10_tags_92, sX10_tags_93, sX10_tags_94, sX10_tags_97, sX10_tags_98, sX10_tags_101, sX10_tags_102, sX10_tags_103, sX10_tags_106, sX10_tags_109, sX10_tags_110, sX10_tags_113, sX10_tags_114, sX10_tags_117, sX10_tags_120, sX10_tags_121, sX10_tags_124, sX10_tags_125, sX10_tags_128, sX10_tags_129, sX10_tags_130, sX10_tags_131, sX10_tags_134, sX10_tags_135, sX10_tags_138, sX10_tags_139, sX10_tags_140, sX10_tags_141, sX10_tags_141i, sX10_tags_142, sX10_tags_145, sX10_tags_146, sX10_tags_147, sX10_tags_150, mCk, mG0, mG1, mG2, mG3, mG4, mG5, mG6, mG7, mG8, mG9, mG10, mG11, mG12, mG13, mG14, mG15, mG16, mG17, mG18, mG19, mG20, mP2, mP5, mP6, mP7, mP9, mP11, mP14, mA1, mS1, mA2, mS2, mA3, mS3, mA4, mS4, mA5, mS5, mA6, mS6, mA7, mS7, mA8, mS8, mA9, mS9, mA10, mS10, mA11, mS11, mA12, mS12, mA13, mS13, mA14, mS14, zpush_v, zpush_n, gCk, gAi, gSi, gSz, gLi, gLq, ↓if_pos, ↓if_neg, eN_s, nI_add]
  · refine ⟨lat, hat, upd nw 0 (nI x), hr.now (f := updN r.1 0 x) (set4 0 x (by omega)), fun Q => ?_⟩
    rw [eX10_tags]
    simp (disch := (first | omega | assumption | (simp (disch := omega) only [Int32.lt_iff_toInt_lt, Int32.le_iff_toInt_le, ← Int32.toInt_inj, nI_toInt, zi_m1, zi_m2, zi_m3, zi_m9]; omega) | decide)) only [sX10_tags_0, sX10_tags_1, sX10_tags_52, sX10_tags_53, sX10_tags_56, sX10_tags_57, sX10_tags_58, sX10_tags_59, sX10_tags_62, sX10_tags_63, sX10_tags_66, sX10_tags_67, sX10_tags_68, sX10_tags_69, sX10_tags_72, sX10_tags_73, sX10_tags_76, sX10_tags_77, sX10_tags_78, sX10_tags_79, sX10_tags_82, sX10_tags_83, sX10_tags_86, sX10_tags_87, sX10_tags_88, sX10_tags_89, sX10_tags_92, sX10_tags_93, sX10_tags_94, sX10_tags_97, sX10_tags_98, sX10_tags_101, sX10_tags_102, sX10_tags_103, sX10_tags_106, sX10_tags_109, sX10_tags_110, sX10_tags_113, sX10_tags_114, sX10_tags_117, sX10_tags_120, sX10_tags_121, sX10_tags_124, sX10_tags_125, sX10_tags_128, sX10_tags_129, sX10_tags_130, sX10_tags_131, sX10_tags_134, sX10_tags_135, sX10_tags_138, sX10_tags_139, sX10_tags_140, sX10_tags_141, sX10_tags_141i, sX10_tags_142, sX10_tags_145, sX10_tags_146, sX10_tags_147, sX10_tags_150, mCk, mG0, mG1, mG2, mG3, mG4, mG5, mG6, mG7, mG8, mG9, mG10, mG11, mG12, mG13, mG14, mG15, mG16, mG17, mG18, mG19, mG20, mP2, mP5, mP6, mP7, mP9, mP11, mP14, mA1, mS1, mA2, mS2, mA3, mS3, mA4, mS4, mA5, mS5, mA6, mS6, mA7, mS7, mA8, mS8, mA9, mS9, mA10, mS10, mA11, mS11, mA12, mS12, mA13, mS13, mA14, mS14, zpush_v, zpush_n, gCk, gAi, gSi, gSz, gLi, gLq, ↓if_pos, ↓if_neg, eN_s]
    rfl
  · refine ⟨lat, hat, upd nw 1 (nI x), hr.now (f := updN r.1 1 x) (set4 1 x (by omega)), fun Q => ?_⟩
    rw [eX10_tags]
    simp (disch := (first | omega | assumption | (simp (disch := omega) only [Int32.lt_iff_toInt_lt, Int32.le_iff_toInt_le, ← Int32.toInt_inj, nI_toInt, zi_m1, zi_m2, zi_m3, zi_m9]; omega) | decide)) only [sX10_tags_0, sX10_tags_1, sX10_tags_52, sX10_tags_53, sX10_tags_56, sX10_tags_57, sX10_tags_58, sX10_tags_59, sX10_tags_62, sX10_tags_63, sX10_tags_66, sX10_tags_67, sX10_tags_68, sX10_tags_69, sX10_tags_72, sX10_tags_73, sX10_tags_76, sX10_tags_77, sX10_tags_78, sX10_tags_79, sX10_tags_82, sX10_tags_83, sX10_tags_86, sX10_tags_87, sX10_tags_88, sX10_tags_89, sX10_tags_92, sX10_tags_93, sX10_tags_94, sX10_tags_97, sX10_tags_98, sX10_tags_101, sX10_tags_102, sX10_tags_103, sX10_tags_106, sX10_tags_109, sX10_tags_110, sX10_tags_113, sX10_tags_114, sX10_tags_117, sX10_tags_120, sX10_tags_121, sX10_tags_124, sX10_tags_125, sX10_tags_128, sX10_tags_129, sX10_tags_130, sX10_tags_131, sX10_tags_134, sX10_tags_135, sX10_tags_138, sX10_tags_139, sX10_tags_140, sX10_tags_141, sX10_tags_141i, sX10_tags_142, sX10_tags_145, sX10_tags_146, sX10_tags_147, sX10_tags_150, mCk, mG0, mG1, mG2, mG3, mG4, mG5, mG6, mG7, mG8, mG9, mG10, mG11, mG12, mG13, mG14, mG15, mG16, mG17, mG18, mG19, mG20, mP2, mP5, mP6, mP7, mP9, mP11, mP14, mA1, mS1, mA2, mS2, mA3, mS3, mA4, mS4, mA5, mS5, mA6, mS6, mA7, mS7, mA8, mS8, mA9, mS9, mA10, mS10, mA11, mS11, mA12, mS12, mA13, mS13, mA14, mS14, zpush_v, zpush_n, gCk, gAi, gSi, gSz, gLi, gLq, ↓if_pos, ↓if_neg, eN_s]
    rfl
  · refine ⟨lat, hat, upd nw 2 (nI x), hr.now (f := updN r.1 2 x) (set4 2 x (by omega)), fun Q => ?_⟩
    rw [eX10_tags]
    simp (disch := (first | omega | assumption | (simp (disch := omega) only [Int32.lt_iff_toInt_lt, Int32.le_iff_toInt_le, ← Int32.toInt_inj, nI_toInt, zi_m1, zi_m2, zi_m3, zi_m9]; omega) | decide)) only [sX10_tags_0, sX10_tags_1, sX10_tags_52, sX10_tags_53, sX10_tags_56, sX10_tags_57, sX10_tags_58, sX10_tags_59, sX10_tags_62, sX10_tags_63, sX10_tags_66, sX10_tags_67, sX10_tags_68, sX10_tags_69, sX10_tags_72, sX10_tags_73, sX10_tags_76, sX10_tags_77, sX10_tags_78, sX10_tags_79, sX10_tags_82, sX10_tags_83, sX10_tags_86, sX10_tags_87, sX10_tags_88, sX10_tags_89, sX10_tags_92, sX10_tags_93, sX10_tags_94, sX10_tags_97, sX10_tags_98, sX10_tags_101, sX10_tags_102, sX10_tags_103, sX10_tags_106, sX10_tags_109, sX10_tags_110, sX10_tags_113, sX10_tags_114, sX10_tags_117, sX10_tags_120, sX10_tags_121, sX10_tags_124, sX10_tags_125, sX10_tags_128, sX10_tags_129, sX10_tags_130, sX10_tags_131, sX10_tags_134, sX10_tags_135, sX10_tags_138, sX10_tags_139, sX10_tags_140, sX10_tags_141, sX10_tags_141i, sX10_tags_142, sX10_tags_145, sX10_tags_146, sX10_tags_147, sX10_tags_150, mCk, mG0, mG1, mG2, mG3, mG4, mG5, mG6, mG7, mG8, mG9, mG10, mG11, mG12, mG13, mG14, mG15, mG16, mG17, mG18, mG19, mG20, mP2, mP5, mP6, mP7, mP9, mP11, mP14, mA1, mS1, mA2, mS2, mA3, mS3, mA4, mS4, mA5, mS5, mA6, mS6, mA7, mS7, mA8, mS8, mA9, mS9, mA10, mS10, mA11, mS11, mA12, mS12, mA13, mS13, mA14, mS14, zpush_v, zpush_n, gCk, gAi, gSi, gSz, gLi, gLq, ↓if_pos, ↓if_neg, eN_s]
    rfl
  · refine ⟨lat, hat, upd nw 3 (nI x), hr.now (f := updN r.1 3 x) (set4 3 x (by omega)), fun Q => ?_⟩
    rw [eX10_tags]
    simp (disch := (first | omega | assumption | (simp (disch := omega) only [Int32.lt_iff_toInt_lt, Int32.le_iff_toInt_le, ← Int32.toInt_inj, nI_toInt, zi_m1, zi_m2, zi_m3, zi_m9]; omega) | decide)) only [sX10_tags_0, sX10_tags_1, sX10_tags_52, sX10_tags_53, sX10_tags_56, sX10_tags_57, sX10_tags_58, sX10_tags_59, sX10_tags_62, sX10_tags_63, sX10_tags_66, sX10_tags_67, sX10_tags_68, sX10_tags_69, sX10_tags_72, sX10_tags_73, sX10_tags_76, sX10_tags_77, sX10_tags_78, sX10_tags_79, sX10_tags_82, sX10_tags_83, sX10_tags_86, sX10_tags_87, sX10_tags_88, sX10_tags_89, sX10_tags_92, sX10_tags_93, sX10_tags_94, sX10_tags_97, sX10_tags_98, sX10_tags_101, sX10_tags_102, sX10_tags_103, sX10_tags_106, sX10_tags_109, sX10_tags_110, sX10_tags_113, sX10_tags_114, sX10_tags_117, sX10_tags_120, sX10_tags_121, sX10_tags_124, sX10_tags_125, sX10_tags_128, sX10_tags_129, sX10_tags_130, sX10_tags_131, sX10_tags_134, sX10_tags_135, sX10_tags_138, sX10_tags_139, sX10_tags_140, sX10_tags_141, sX10_tags_141i, sX10_tags_142, sX10_tags_145, sX10_tags_146, sX10_tags_147, sX10_tags_150, mCk, mG0, mG1, mG2, mG3, mG4, mG5, mG6, mG7, mG8, mG9, mG10, mG11, mG12, mG13, mG14, mG15, mG16, mG17, mG18, mG19, mG20, mP2, mP5, mP6, mP7, mP9, mP11, mP14, mA1, mS1, mA2, mS2, mA3, mS3, mA4, mS4, mA5, mS5, mA6, mS6, mA7, mS7, mA8, mS8, mA9, mS9, mA10, mS10, mA11, mS11, mA12, mS12, mA13, mS13, mA14, mS14, zpush_v, zpush_n, gCk, gAi, gSi, gSz, gLi, gLq, ↓if_pos, ↓if_neg, eN_s]
    rfl
theorem l_goes2 {a : Nat} (ha : a + 6 ≤ 480) (x1 x2 x3 x4 x5 : Int32) (Q : Option Value → Hp → Prop) : ∀ (m i : Nat), m + i = 4 → WP 145 118 [some (.ref M), some (.int x1), some (.int x2), some (.int x3), some (.int x4), some (.int x5), some (.int (nI a)), some (.int (nI i))] [] (mkM h0 M v pa pm fl tx ty ct wr it im (pst sg nw (a + 1) i) sm lat hat sy nw os hgh pl asd lks) Q = WP 145 149 [some (.ref M), some (.int x1), some (.int x2), some (.int x3), some (.int x4), some (.int x5), some (.int (nI a)), some (.int (nI 4))] [] (mkM h0 M v pa pm fl tx ty ct wr it im (pst sg nw (a + 1) 4) sm lat hat sy nw os hgh pl asd lks) Q := by
  intro m
  induction m with
  | zero =>
    intro i hi
    have hi : i = 4 := by omega
    subst hi
    rw [sX10_goes_118]
    simp (disch := (first | omega | assumption | (simp (disch := omega) only [Int32.lt_iff_toInt_lt, Int32.le_iff_toInt_le, ← Int32.toInt_inj, nI_toInt, zi_m1, zi_m2, zi_m3, zi_m9]; omega) | decide)) only [sX10_goes_120, sX10_goes_121, zpush_v, zpush_n, gCk, gAi, gSi, gSz, gLi, gLq, ↓if_pos, ↓if_neg]
  | succ m ih =>
    intro i hi
    rw [← ih (i + 1) (by omega), sX10_goes_118]
    simp (disch := (first | omega | assumption | (simp (disch := omega) only [Int32.lt_iff_toInt_lt, Int32.le_iff_toInt_le, ← Int32.toInt_inj, nI_toInt, zi_m1, zi_m2, zi_m3, zi_m9]; omega) | decide)) only [sX10_goes_120, sX10_goes_121, sX10_goes_124, sX10_goes_125, sX10_goes_128, sX10_goes_130, sX10_goes_131, sX10_goes_132, sX10_goes_134, sX10_goes_135, sX10_goes_136, sX10_goes_139, sX10_goes_141, sX10_goes_142, sX10_goes_143i, sX10_goes_143r, sX10_goes_143z, sX10_goes_143o, sX10_goes_146, mCk, mG0, mG1, mG2, mG3, mG4, mG5, mG6, mG7, mG8, mG9, mG10, mG11, mG12, mG13, mG14, mG15, mG16, mG17, mG18, mG19, mG20, mP2, mP5, mP6, mP7, mP9, mP11, mP14, mA1, mS1, mA2, mS2, mA3, mS3, mA4, mS4, mA5, mS5, mA6, mS6, mA7, mS7, mA8, mS8, mA9, mS9, mA10, mS10, mA11, mS11, mA12, mS12, mA13, mS13, mA14, mS14, zpush_v, zpush_n, gCk, gAi, gSi, gSz, gLi, gLq, ↓if_pos, ↓if_neg, nI_add, pst_step]
theorem l_goes20 {a : Nat} (ha : a + 6 ≤ 480) (x1 x2 x3 x4 x5 : Int32) (Q : Option Value → Hp → Prop) : WP 145 118 [some (.ref M), some (.int x1), some (.int x2), some (.int x3), some (.int x4), some (.int x5), some (.int (nI a)), some (.int (nI 0))] [] (mkM h0 M v pa pm fl tx ty ct wr it im sg sm lat hat sy nw os hgh pl asd lks) Q = WP 145 149 [some (.ref M), some (.int x1), some (.int x2), some (.int x3), some (.int x4), some (.int x5), some (.int (nI a)), some (.int (nI 4))] [] (mkM h0 M v pa pm fl tx ty ct wr it im (pst sg nw (a + 1) 4) sm lat hat sy nw os hgh pl asd lks) Q := by
  rw [← l_goes2 ha x1 x2 x3 x4 x5 Q 4 0 rfl, pst_0]
theorem gR.sign {S : Sh} {st : Option Nat} {r : Rd} {n m c : Nat} (h : gR sg lat hat nw r) (hok : okR r n m) : gR (upd (pst (upd sg (6 * r.2.1.length) (nI c)) nw (6 * r.2.1.length + 1) 4) (6 * r.2.1.length + 5) (eS (sylOf r.2.2))) lat (if r.2.2.length = 0 then hat else upd hat (r.2.2.length - 1) (hat (r.2.2.length - 1) + nI 1)) nw (runI S st r (.inl c)) := by
  refine ⟨?_, fun i hi => ?_, h.2.2⟩
  · have := rTab_up (x := (c, r.1, sylOf r.2.2)) h.1 h.2.2
    rw [Nat.mul_comm] at this
    exact this
  · have hi : i < r.2.2.length := hi
    obtain ⟨a, b⟩ := h.2.1 i hi
    refine ⟨a, ?_⟩
    have hsy : sylOf r.2.2 = some (r.2.2.length - 1) := if_neg (by omega)
    show _ = nI (cntS (r.2.1 ++ [(c, r.1, sylOf r.2.2)]) i)
    rw [cntS_app, if_neg (show ¬ r.2.2.length = 0 by omega)]
    show _ = nI (cntS r.2.1 i + if sylOf r.2.2 = some i then 1 else 0)
    by_cases hq : i = r.2.2.length - 1
    · rw [upd_is hq, if_pos (by rw [hsy, hq]), ← hq, b, nI_add]
    · rw [upd_off hq, if_neg (by rw [hsy]; intro z; cases z; exact hq rfl), Nat.add_zero]
      exact b
theorem l_goes {S : Sh} (hv : encS v S) (hw : WfS S) {ln : Ln} (hl : WfL ln) (hst : ∀ s, ln.2.2.1 = some s → s < S.1) {k : Nat} (hk : k + 166 ≤ 2760) (eL : encL v k ln) (x : Int32) : ∀ (m' i : Nat), m' + i = ln.2.2.2.2.length → ∀ (sg lat hat nw : Nat → Int32), gR sg lat hat nw (runL S ln.2.2.1 (ln.2.2.2.2.take i)) →
    ∃ sg' lat' hat' nw', gR sg' lat' hat' nw' (rdL S ln) ∧ ∀ (l4 l5 l6 l7 : Option Value) (Q : Option Value → Hp → Prop),
      WP 145 29 [some (.ref M), some (.int x), some (.int (nI k)), some (.int (nI i)), l4, l5, l6, l7] [] (mkM h0 M v pa pm fl tx ty ct wr it im sg (nI (runL S ln.2.2.1 (ln.2.2.2.2.take i)).2.1.length) lat hat (nI (runL S ln.2.2.1 (ln.2.2.2.2.take i)).2.2.length) nw os hgh pl asd lks) Q =
      Q none (mkM h0 M v pa pm fl tx ty ct wr it im sg' (nI (rdL S ln).2.1.length) lat' hat' (nI (rdL S ln).2.2.length) nw' os hgh pl asd lks) := by
  obtain ⟨b1, b2, b3, b4, b5, b6⟩ := id eL
  obtain ⟨w1, w2, w3, w4, w5, w6, w7⟩ := id hl
  intro m'
  induction m' with
  | zero =>
    intro i hi sg lat hat nw hr
    have hi : i = ln.2.2.2.2.length := by omega
    subst hi
    rw [List.take_length] at hr ⊢
    refine ⟨sg, lat, hat, nw, hr, fun l4 l5 l6 l7 Q => ?_⟩
    rw [sX10_goes_29]
    simp (disch := (first | omega | assumption | (simp (disch := omega) only [Int32.lt_iff_toInt_lt, Int32.le_iff_toInt_le, ← Int32.toInt_inj, nI_toInt, zi_m1, zi_m2, zi_m3, zi_m9]; omega) | decide)) only [sX10_goes_30, sX10_goes_31, sX10_goes_34, sX10_goes_35, sX10_goes_36, sX10_goes_37, sX10_goes_38, sX10_goes_214, mCk, mG0, mG1, mG2, mG3, mG4, mG5, mG6, mG7, mG8, mG9, mG10, mG11, mG12, mG13, mG14, mG15, mG16, mG17, mG18, mG19, mG20, mP2, mP5, mP6, mP7, mP9, mP11, mP14, mA1, mS1, mA2, mS2, mA3, mS3, mA4, mS4, mA5, mS5, mA6, mS6, mA7, mS7, mA8, mS8, mA9, mS9, mA10, mS10, mA11, mS11, mA12, mS12, mA13, mS13, mA14, mS14, zpush_v, zpush_n, gCk, gAi, gSi, gSz, gLi, gLq, ↓if_pos, ↓if_neg, nI_add, b5]
    rfl
  | succ m' ih =>
    intro i hi sg lat hat nw hr
    obtain ⟨it1, hx⟩ : ∃ x, ln.2.2.2.2[i]? = some x := ⟨ln.2.2.2.2[i], List.getElem?_eq_getElem (by omega)⟩
    have hoi := w6 it1 (List.mem_of_getElem? hx)
    have hok := okR_take hw (st := ln.2.2.1) w6 i (by omega)
    have hkc := kc_le (its := ln.2.2.2.2) i
    obtain ⟨c1, c2⟩ := b6 i it1 hx
    have e := runL_take (S := S) (st := ln.2.2.1) hx
    have ih := fun sg lat hat nw => ih (i + 1) (by omega) sg lat hat nw
    rw [e] at ih
    generalize runL S ln.2.2.1 (ln.2.2.2.2.take i) = r at hr hok ih ⊢
    cases it1 with
    | inl c =>
      have c1 : v (k + 5 + 2 * i) = nI c := c1
      have c2 : v (k + 5 + 2 * i + 1) = -2 := c2
      have hr1 := hok.1
      have hr2 := hok.2.1
      obtain ⟨sg', lat', hat', nw', q1, q2⟩ := ih _ _ _ _ (hr.sign (S := S) (st := ln.2.2.1) (c := c) hok)
      have el : (runI S ln.2.2.1 r (.inl c)).2.1.length = r.2.1.length + 1 := by
        show (r.2.1 ++ [_]).length = _
        rw [List.length_append]
        rfl
      have el2 : (runI S ln.2.2.1 r (.inl c)).2.2.length = r.2.2.length := rfl
      rw [el, el2] at q2
      refine ⟨sg', lat', hat', nw', q1, fun l4 l5 l6 l7 Q => ?_⟩
      have q2 := q2 (some (.int (nI c))) (some (.int (-2))) (some (.int (nI (6 * r.2.1.length)))) (some (.int (nI 4))) Q
      rw [← q2, sX10_goes_29]
      by_cases y0 : r.2.2.length = 0
      · have es : eS (sylOf r.2.2) = -9 := by
          unfold sylOf
          rw [if_pos y0]
          rfl
        rw [if_pos y0, y0, es]
        simp (disch := (first | omega | assumption | (simp (disch := omega) only [Int32.lt_iff_toInt_lt, Int32.le_iff_toInt_le, ← Int32.toInt_inj, nI_toInt, zi_m1, zi_m2, zi_m3, zi_m9]; omega) | decide)) only [sX10_goes_30, sX10_goes_31, sX10_goes_34, sX10_goes_35, sX10_goes_36, sX10_goes_37, sX10_goes_38, sX10_goes_41, sX10_goes_42, sX10_goes_45, sX10_goes_46, sX10_goes_47, sX10_goes_48, sX10_goes_49, sX10_goes_50, sX10_goes_51, sX10_goes_52, sX10_goes_53i, sX10_goes_53r, sX10_goes_53z, sX10_goes_53o, sX10_goes_55, sX10_goes_56, sX10_goes_59, sX10_goes_60, sX10_goes_61, sX10_goes_62, sX10_goes_63, sX10_goes_64, sX10_goes_65, sX10_goes_66, sX10_goes_67, sX10_goes_68, sX10_goes_69i, sX10_goes_69r, sX10_goes_69z, sX10_goes_69o, sX10_goes_71, sX10_goes_73, sX10_goes_75, sX10_goes_78, sX10_goes_79, sX10_goes_80, sX10_goes_83, sX10_goes_84, sX10_goes_85, sX10_goes_86, sX10_goes_87, sX10_goes_89, sX10_goes_91, sX10_goes_94, sX10_goes_97, sX10_goes_99, sX10_goes_100, sX10_goes_103, sX10_goes_104i, sX10_goes_104r, sX10_goes_104z, sX10_goes_104o, sX10_goes_106, sX10_goes_107, sX10_goes_110, sX10_goes_112, sX10_goes_114, sX10_goes_115, sX10_goes_116i, sX10_goes_116r, sX10_goes_116z, sX10_goes_116o, sX10_goes_149, sX10_goes_150, sX10_goes_153, sX10_goes_155, sX10_goes_156, sX10_goes_157, sX10_goes_158, sX10_goes_161, sX10_goes_164, sX10_goes_166, sX10_goes_169, sX10_goes_170, sX10_goes_173, sX10_goes_174, sX10_goes_175, sX10_goes_176, sX10_goes_177, sX10_goes_180, sX10_goes_183, sX10_goes_184, sX10_goes_187, sX10_goes_188, sX10_goes_191, sX10_goes_192, sX10_goes_193, sX10_goes_194, sX10_goes_195, sX10_goes_196, sX10_goes_197, sX10_goes_198, sX10_goes_199, sX10_goes_199i, sX10_goes_200, sX10_goes_203, sX10_goes_204, sX10_goes_205, sX10_goes_208i, sX10_goes_208r, sX10_goes_208z, sX10_goes_208o, sX10_goes_211, mCk, mG0, mG1, mG2, mG3, mG4, mG5, mG6, mG7, mG8, mG9, mG10, mG11, mG12, mG13, mG14, mG15, mG16, mG17, mG18, mG19, mG20, mP2, mP5, mP6, mP7, mP9, mP11, mP14, mA1, mS1, mA2, mS2, mA3, mS3, mA4, mS4, mA5, mS5, mA6, mS6, mA7, mS7, mA8, mS8, mA9, mS9, mA10, mS10, mA11, mS11, mA12, mS12, mA13, mS13, mA14, mS14, zpush_v, zpush_n, gCk, gAi, gSi, gSz, gLi, gLq, ↓if_pos, ↓if_neg, nI_add, nI_mul, b5, c1, c2, l_goes20 (show 6 * r.2.1.length + 6 ≤ 480 by omega)]
      · have es : eS (sylOf r.2.2) = nI (r.2.2.length - 1) := by
          unfold sylOf
          rw [if_neg y0]
          rfl
        rw [if_neg y0, es]
        simp (disch := (first | omega | assumption | (simp (disch := omega) only [Int32.lt_iff_toInt_lt, Int32.le_iff_toInt_le, ← Int32.toInt_inj, nI_toInt, zi_m1, zi_m2, zi_m3, zi_m9]; omega) | decide)) only [sX10_goes_30, sX10_goes_31, sX10_goes_34, sX10_goes_35, sX10_goes_36, sX10_goes_37, sX10_goes_38, sX10_goes_41, sX10_goes_42, sX10_goes_45, sX10_goes_46, sX10_goes_47, sX10_goes_48, sX10_goes_49, sX10_goes_50, sX10_goes_51, sX10_goes_52, sX10_goes_53i, sX10_goes_53r, sX10_goes_53z, sX10_goes_53o, sX10_goes_55, sX10_goes_56, sX10_goes_59, sX10_goes_60, sX10_goes_61, sX10_goes_62, sX10_goes_63, sX10_goes_64, sX10_goes_65, sX10_goes_66, sX10_goes_67, sX10_goes_68, sX10_goes_69i, sX10_goes_69r, sX10_goes_69z, sX10_goes_69o, sX10_goes_71, sX10_goes_73, sX10_goes_75, sX10_goes_78, sX10_goes_79, sX10_goes_80, sX10_goes_83, sX10_goes_84, sX10_goes_85, sX10_goes_86, sX10_goes_87, sX10_goes_89, sX10_goes_91, sX10_goes_94, sX10_goes_97, sX10_goes_99, sX10_goes_100, sX10_goes_103, sX10_goes_104i, sX10_goes_104r, sX10_goes_104z, sX10_goes_104o, sX10_goes_106, sX10_goes_107, sX10_goes_110, sX10_goes_112, sX10_goes_114, sX10_goes_115, sX10_goes_116i, sX10_goes_116r, sX10_goes_116z, sX10_goes_116o, sX10_goes_149, sX10_goes_150, sX10_goes_153, sX10_goes_155, sX10_goes_156, sX10_goes_157, sX10_goes_158, sX10_goes_161, sX10_goes_164, sX10_goes_166, sX10_goes_169, sX10_goes_170, sX10_goes_173, sX10_goes_174, sX10_goes_175, sX10_goes_176, sX10_goes_177, sX10_goes_180, sX10_goes_183, sX10_goes_184, sX10_goes_187, sX10_goes_188, sX10_goes_191, sX10_goes_192, sX10_goes_193, sX10_goes_194, sX10_goes_195, sX10_goes_196, sX10_goes_197, sX10_goes_198, sX10_goes_199, sX10_goes_199i, sX10_goes_200, sX10_goes_203, sX10_goes_204, sX10_goes_205, sX10_goes_208i, sX10_goes_208r, sX10_goes_208z, sX10_goes_208o, sX10_goes_211, mCk, mG0, mG1, mG2, mG3, mG4, mG5, mG6, mG7, mG8, mG9, mG10, mG11, mG12, mG13, mG14, mG15, mG16, mG17, mG18, mG19, mG20, mP2, mP5, mP6, mP7, mP9, mP11, mP14, mA1, mS1, mA2, mS2, mA3, mS3, mA4, mS4, mA5, mS5, mA6, mS6, mA7, mS7, mA8, mS8, mA9, mS9, mA10, mS10, mA11, mS11, mA12, mS12, mA13, mS13, mA14, mS14, zpush_v, zpush_n, gCk, gAi, gSi, gSz, gLi, gLq, ↓if_pos, ↓if_neg, nI_add, nI_sub, nI_mul, b5, c1, c2, l_goes20 (show 6 * r.2.1.length + 6 ≤ 480 by omega)]
    | inr lo =>
      obtain ⟨l, o⟩ := lo
      have c1 : v (k + 5 + 2 * i) = nI l := c1
      have c2 : v (k + 5 + 2 * i + 1) = eN o := c2
      obtain ⟨lat1, hat1, nw1, t1, t2⟩ := m_tags (h0 := h0) (M := M) (v := v) (pa := pa) (pm := pm) (fl := fl) (tx := tx) (ty := ty) (ct := ct) (wr := wr) (it := it) (im := im) (sg := sg) (sm := nI r.2.1.length) (lat := lat) (hat := hat) (nw := nw) (os := os) (hgh := hgh) (pl := pl) (asd := asd) (lks := lks) hv hw hst hr hok (by omega) hoi
      obtain ⟨sg', lat', hat', nw', q1, q2⟩ := ih _ _ _ _ t1
      have el : (runI S ln.2.2.1 r (.inr (l, o))).2.1.length = r.2.1.length := by
        simp only [runI]
        split
        · rfl
        · split <;> rfl
      rw [el] at q2
      have gt : ¬ eN o ≤ -2 := by
        cases o with
        | none => decide
        | some n =>
          have hn : n ≤ 9999 := by
            simp only [okI] at hoi
            rcases hoi with ⟨a, b⟩ | ⟨a, n', b, c⟩ | ⟨a, n', b, c⟩ | ⟨a, n', b, c⟩ | ⟨a, n', b, c⟩ | ⟨a, n', b, c⟩
            · have := b n rfl; omega
            all_goals (cases b; omega)
          rw [eN_s, Int32.le_iff_toInt_le, nI_toInt (by omega), zi_m2]
          omega
      refine ⟨sg', lat', hat', nw', q1, fun l4 l5 l6 l7 Q => ?_⟩
      have q2 := q2 (some (.int (nI l))) (some (.int (eN o))) l6 l7 Q
      rw [← q2, sX10_goes_29]
      simp (disch := (first | omega | assumption | (simp (disch := omega) only [Int32.lt_iff_toInt_lt, Int32.le_iff_toInt_le, ← Int32.toInt_inj, nI_toInt, zi_m1, zi_m2, zi_m3, zi_m9]; omega) | decide)) only [sX10_goes_30, sX10_goes_31, sX10_goes_34, sX10_goes_35, sX10_goes_36, sX10_goes_37, sX10_goes_38, sX10_goes_41, sX10_goes_42, sX10_goes_45, sX10_goes_46, sX10_goes_47, sX10_goes_48, sX10_goes_49, sX10_goes_50, sX10_goes_51, sX10_goes_52, sX10_goes_53i, sX10_goes_53r, sX10_goes_53z, sX10_goes_53o, sX10_goes_55, sX10_goes_56, sX10_goes_59, sX10_goes_60, sX10_goes_61, sX10_goes_62, sX10_goes_63, sX10_goes_64, sX10_goes_65, sX10_goes_66, sX10_goes_67, sX10_goes_68, sX10_goes_69i, sX10_goes_69r, sX10_goes_69z, sX10_goes_69o, sX10_goes_71, sX10_goes_73, sX10_goes_75, sX10_goes_78, sX10_goes_79, sX10_goes_80, sX10_goes_83, sX10_goes_84, sX10_goes_85, sX10_goes_86, sX10_goes_87, sX10_goes_89, sX10_goes_91, sX10_goes_94, sX10_goes_208i, sX10_goes_208r, sX10_goes_208z, sX10_goes_208o, sX10_goes_211, mCk, mG0, mG1, mG2, mG3, mG4, mG5, mG6, mG7, mG8, mG9, mG10, mG11, mG12, mG13, mG14, mG15, mG16, mG17, mG18, mG19, mG20, mP2, mP5, mP6, mP7, mP9, mP11, mP14, mA1, mS1, mA2, mS2, mA3, mS3, mA4, mS4, mA5, mS5, mA6, mS6, mA7, mS7, mA8, mS8, mA9, mS9, mA10, mS10, mA11, mS11, mA12, mS12, mA13, mS13, mA14, mS14, zpush_v, zpush_n, gCk, gAi, gSi, gSz, gLi, gLq, ↓if_pos, ↓if_neg, nI_add, nI_mul, b5, b3, c1, c2, gt, t2]
theorem m_goes {st : Stt} (hv : encV v st) (hw : WfSt st) {i : Nat} (hi : i < st.2.1.length) :
    ∃ sg' lat' hat' nw', gR sg' lat' hat' nw' (rdL st.1 (lnA st.2.1 i)) ∧ ∀ Q : Option Value → Hp → Prop, WPm 145 [.ref M, .int (nI i)] (mkM h0 M v pa pm fl tx ty ct wr it im sg sm lat hat sy nw os hgh pl asd lks) Q = Q none (mkM h0 M v pa pm fl tx ty ct wr it im sg' (nI (rdL st.1 (lnA st.2.1 i)).2.1.length) lat' hat' (nI (rdL st.1 (lnA st.2.1 i)).2.2.length) nw' os hgh pl asd lks) := by
  have h16 := hw.2.1.1
  have eL := encL.at hv.2.2.2 hi
  have wl := hw.mem _ (lnA_mem hi)
  obtain ⟨b1, b2, b3, b4, b5, b6⟩ := id eL
  have g0 : gR sg lat hat (rsF nw st.1 (lnA st.2.1 i).2.2.1 4) (runL st.1 (lnA st.2.1 i).2.2.1 ((lnA st.2.1 i).2.2.2.2.take 0)) := ⟨fun i x hx => (by cases hx), fun i hi => absurd hi (Nat.not_lt_zero _), fun p hp => rsF_ok hp⟩
  obtain ⟨sg', lat', hat', nw', q1, q2⟩ := l_goes (h0 := h0) (M := M) (v := v) (pa := pa) (pm := pm) (fl := fl) (tx := tx) (ty := ty) (ct := ct) (wr := wr) (it := it) (im := im) (os := os) (hgh := hgh) (pl := pl) (asd := asd) (lks := lks) hv.1 hw.1 wl.1 wl.2 (k := 100 + 166 * i) (by omega) eL (nI i) _ 0 rfl _ _ _ _ g0
  refine ⟨sg', lat', hat', nw', q1, fun Q => ?_⟩
  have q2 := q2 none none none none Q
  rw [← q2, eX10_goes]
  simp (disch := (first | omega | assumption | (simp (disch := omega) only [Int32.lt_iff_toInt_lt, Int32.le_iff_toInt_le, ← Int32.toInt_inj, nI_toInt, zi_m1, zi_m2, zi_m3, zi_m9]; omega) | decide)) only [sX10_goes_0, sX10_goes_1, sX10_goes_4i, sX10_goes_4r, sX10_goes_4z, sX10_goes_4o, sX10_goes_5, sX10_goes_6, sX10_goes_7, sX10_goes_10, sX10_goes_11, sX10_goes_12, sX10_goes_15, sX10_goes_16, sX10_goes_17, sX10_goes_20, sX10_goes_21, sX10_goes_22, sX10_goes_23, sX10_goes_24, sX10_goes_27, sX10_goes_28i, sX10_goes_28r, sX10_goes_28z, sX10_goes_28o, mCk, mG0, mG1, mG2, mG3, mG4, mG5, mG6, mG7, mG8, mG9, mG10, mG11, mG12, mG13, mG14, mG15, mG16, mG17, mG18, mG19, mG20, mP2, mP5, mP6, mP7, mP9, mP11, mP14, mA1, mS1, mA2, mS2, mA3, mS3, mA4, mS4, mA5, mS5, mA6, mS6, mA7, mS7, mA8, mS8, mA9, mS9, mA10, mS10, mA11, mS11, mA12, mS12, mA13, mS13, mA14, mS14, zpush_v, zpush_n, gCk, gAi, gSi, gSz, gLi, gLq, ↓if_pos, ↓if_neg, nI_add, m_lineAt, b3, m_restyles hv.1 hw.1 wl.2]
  rfl
end MH
