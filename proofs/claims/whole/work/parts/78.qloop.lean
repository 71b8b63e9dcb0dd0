/-! the law: its loop -/
theorem q_and31 (x : Int32) : ∃ n, n < 32 ∧ x &&& 31 = nI n := by
  refine ⟨(x &&& 31).toBitVec.toNat, ?_, ?_⟩
  · rw [Int32.toBitVec_and, BitVec.toNat_and]
    exact Nat.lt_of_le_of_lt Nat.and_le_right (by decide)
  · apply Int32.toBitVec_inj.mp
    show (x &&& 31).toBitVec = BitVec.ofNat 32 (x &&& 31).toBitVec.toNat
    rw [BitVec.ofNat_toNat, BitVec.setWidth_eq]
theorem qI.w {h : Hp} {g : PS} {X k : Nat} (I : qI h g X k) : qI h g X (k + 1) := ⟨I.1, I.2.1, I.2.2.1, Nat.le_trans I.2.2.2.1 (by rw [Nat.mul_add]; omega), Nat.le_trans I.2.2.2.2 (by rw [Nat.mul_add]; omega)⟩
section QL
variable {p : Program} {l : Launch} {e : Env} {s : State} {m : MethodId} {below : List Frame} {meth : Method} {c : Code} {b L : Nat} {xs : Nat → Int32} {D : va_G} {cT : Nat → ClassId} {S : Nat × Nat × Nat} {X i k : Nat} {a4 a5 a6 a7 : Option Value} {h : Hp} {g : PS}
theorem q_disp (C : qC p s m meth c b L xs D cT S) (hN : X = s.heap.size) (hi : i + 4 ≤ L) (hk : k ≤ 512) (I : qI h g X k) (K : qNext p l e s m below meth c b D cT X i k) : ∀ n, n < 32 → qK p l e s m below meth c b D cT 32 (qLs b X i a4 a5 a6 a7) [.int (nI n)] h
  | 0, _ => q_tabIn (tgt := 160) (off := 128) C dL_law_32 (by decide) (by decide) (by decide +kernel) (by decide) (cs_style C hN hi hk I K)
  | 1, _ => q_tabIn (tgt := 183) (off := 151) C dL_law_32 (by decide) (by decide) (by decide +kernel) (by decide) (cs_setParent C hN hi hk I K)
  | 2, _ => q_tabIn (tgt := 216) (off := 184) C dL_law_32 (by decide) (by decide) (by decide +kernel) (by decide) (cs_setStyle C hN hi hk I K)
  | 3, _ => q_tabIn (tgt := 259) (off := 227) C dL_law_32 (by decide) (by decide) (by decide +kernel) (by decide) (cs_unstyle C hN hi hk I K)
  | 4, _ => q_tabIn (tgt := 272) (off := 240) C dL_law_32 (by decide) (by decide) (by decide +kernel) (by decide) (cs_flatten C hN hi hk I K)
  | 5, _ => q_tabIn (tgt := 285) (off := 253) C dL_law_32 (by decide) (by decide) (by decide +kernel) (by decide) (cs_styleAt C hN hi hk I K)
  | 6, _ => q_tabIn (tgt := 318) (off := 286) C dL_law_32 (by decide) (by decide) (by decide +kernel) (by decide) (cs_valueOf C hN hi hk I K)
  | 7, _ => q_tabIn (tgt := 351) (off := 319) C dL_law_32 (by decide) (by decide) (by decide +kernel) (by decide) (cs_from C hN hi hk I K)
  | 8, _ => q_tabIn (tgt := 384) (off := 352) C dL_law_32 (by decide) (by decide) (by decide +kernel) (by decide) (cs_styles C hN hi hk I K)
  | 9, _ => q_tabIn (tgt := 397) (off := 365) C dL_law_32 (by decide) (by decide) (by decide +kernel) (by decide) (cs_type C hN hi hk I K)
  | 10, _ => q_tabIn (tgt := 420) (off := 388) C dL_law_32 (by decide) (by decide) (by decide +kernel) (by decide) (cs_clear C hN hi hk I K)
  | 11, _ => q_tabIn (tgt := 433) (off := 401) C dL_law_32 (by decide) (by decide) (by decide +kernel) (by decide) (cs_line C hN hi hk I K)
  | 12, _ => q_tabIn (tgt := 476) (off := 444) C dL_law_32 (by decide) (by decide) (by decide +kernel) (by decide) (cs_remove C hN hi hk I K)
  | 13, _ => q_tabIn (tgt := 499) (off := 467) C dL_law_32 (by decide) (by decide) (by decide +kernel) (by decide) (cs_change C hN hi hk I K)
  | 14, _ => q_tabIn (tgt := 542) (off := 510) C dL_law_32 (by decide) (by decide) (by decide +kernel) (by decide) (cs_shift C hN hi hk I K)
  | 15, _ => q_tabIn (tgt := 575) (off := 543) C dL_law_32 (by decide) (by decide) (by decide +kernel) (by decide) (cs_setHeight C hN hi hk I K)
  | 16, _ => q_tabIn (tgt := 598) (off := 566) C dL_law_32 (by decide) (by decide) (by decide +kernel) (by decide) (cs_about C hN hi hk I K)
  | 17, _ => q_tabIn (tgt := 631) (off := 599) C dL_law_32 (by decide) (by decide) (by decide +kernel) (by decide) (cs_lines C hN hi hk I K)
  | 18, _ => q_tabIn (tgt := 644) (off := 612) C dL_law_32 (by decide) (by decide) (by decide +kernel) (by decide) (cs_sign C hN hi hk I K)
  | 19, _ => q_tabIn (tgt := 687) (off := 655) C dL_law_32 (by decide) (by decide) (by decide +kernel) (by decide) (cs_syllable C hN hi hk I K)
  | 20, _ => q_tabIn (tgt := 730) (off := 698) C dL_law_32 (by decide) (by decide) (by decide +kernel) (by decide) (cs_fit C hN hi hk I K)
  | 21, _ => q_tabIn (tgt := 753) (off := 721) C dL_law_32 (by decide) (by decide) (by decide +kernel) (by decide) (cs_shows C hN hi hk I K)
  | 22, _ => q_tabIn (tgt := 796) (off := 764) C dL_law_32 (by decide) (by decide) (by decide +kernel) (by decide) (cs_shown C hN hi hk I K)
  | 23, _ => q_tabIn (tgt := 829) (off := 797) C dL_law_32 (by decide) (by decide) (by decide +kernel) (by decide) (cs_crowd C hN hi hk I K)
  | 24, _ => q_tabIn (tgt := 842) (off := 810) C dL_law_32 (by decide) (by decide) (by decide +kernel) (by decide) (cs_sung C hN hi hk I K)
  | 25, _ => q_tabIn (tgt := 895) (off := 863) C dL_law_32 (by decide) (by decide) (by decide +kernel) (by decide) (cs_unlike C hN hi hk I K)
  | 26, _ => q_tabIn (tgt := 908) (off := 876) C dL_law_32 (by decide) (by decide) (by decide +kernel) (by decide) (cs_undo C hN hi hk I K)
  | 27, _ => q_tabIn (tgt := 921) (off := 889) C dL_law_32 (by decide) (by decide) (by decide +kernel) (by decide) (cs_fingerprint C hN hi hk I K)
  | 28, _ => q_tabOut (tgt := 935) C dL_law_32 (Or.inr (by decide)) (by decide) (K h g _ _ _ _ I.w)
  | 29, _ => q_tabOut (tgt := 935) C dL_law_32 (Or.inr (by decide)) (by decide) (K h g _ _ _ _ I.w)
  | 30, _ => q_tabOut (tgt := 935) C dL_law_32 (Or.inr (by decide)) (by decide) (K h g _ _ _ _ I.w)
  | 31, _ => q_tabOut (tgt := 935) C dL_law_32 (Or.inr (by decide)) (by decide) (K h g _ _ _ _ I.w)
  | n + 32, hn => absurd hn (by omega)
theorem q_end (C : qC p s m meth c b L xs D cT S) (hN : X = s.heap.size) (hk : k ≤ 512) (I : qI h g X k) {ls : Ls} : qK p l e s m below meth c b D cT 941 ls [] h := by
  refine q_iconst (pc := 941) C dL_law_941 (v := 1) (by decide) ?_
  exact q_ret (pc := 942) C dL_law_942 (q_room1 hN hk I.w.2.2.2.1) (q_room2 hk I.w.2.2.2.2)
theorem q_loop (C : qC p s m meth c b L xs D cT S) (hN : X = s.heap.size) : ∀ (n i k : Nat) (g : PS) (h : Hp) (a4 a5 a6 a7 : Option Value), L ≤ i + n → i = 4 * k → i ≤ L → qI h g X k → qK p l e s m below meth c b D cT 18 (qLs b X i a4 a5 a6 a7) [] h := by
  have hL := C.2.2
  intro n
  induction n with
  | zero =>
    intro i k g h a4 a5 a6 a7 h1 h2 h3 I
    refine q_iload (pc := 18) (k := 3) (x := nI i) C dL_law_18 rfl ?_
    refine q_aload (pc := 19) (k := 0) (x := b) C dL_law_19 rfl ?_
    refine q_slen (pc := 20) C dL_law_20 ?_
    refine q_iconst (pc := 21) (v := nI 4) C dL_law_21 (by decide) ?_
    refine q_isub (pc := 22) C dL_law_22 ?_
    refine q_gtT (pc := 23) (tgt := 941) C dL_law_23 (by decide) ?_ (q_end C hN (by omega) I)
    rw [Int32.lt_iff_toInt_lt, nI_subT (by omega) (by omega), nI_toInt (by omega)]
    omega
  | succ n ih =>
    intro i k g h a4 a5 a6 a7 h1 h2 h3 I
    refine q_iload (pc := 18) (k := 3) (x := nI i) C dL_law_18 rfl ?_
    refine q_aload (pc := 19) (k := 0) (x := b) C dL_law_19 rfl ?_
    refine q_slen (pc := 20) C dL_law_20 ?_
    refine q_iconst (pc := 21) (v := nI 4) C dL_law_21 (by decide) ?_
    refine q_isub (pc := 22) C dL_law_22 ?_
    by_cases hi : i + 4 ≤ L
    · refine q_gtF (pc := 23) (tgt := 941) C dL_law_23 (by decide) ?_ ?_
      · rw [Int32.lt_iff_toInt_lt, nI_subT (by omega) (by omega), nI_toInt (by omega)]
        omega
      refine q_aload (pc := 26) (k := 0) (x := b) C dL_law_26 rfl ?_
      refine q_iload (pc := 27) (k := 3) (x := nI i) C dL_law_27 rfl ?_
      refine q_sld (pc := 28) C (by omega) dL_law_28 ?_
      refine q_bipush (pc := 29) (v := 31) C dL_law_29 (by decide) ?_
      refine q_iand (pc := 31) C dL_law_31 ?_
      obtain ⟨z, hz, e⟩ := q_and31 (xs i)
      rw [e]
      refine q_disp C hN hi (by omega) I (fun h2 g' a4 a5 a6 a7 J => ?_) z hz
      refine q_iinc (pc := 935) (x := nI i) (v := nI 4) C dL_law_935 ⟨rfl, rfl⟩ (by decide) ?_
      rw [nI_add]
      refine q_goto (pc := 938) (tgt := 18) C dL_law_938 (by decide) ?_
      exact ih (i + 4) (k + 1) g' h2 a4 a5 a6 a7 (by omega) (by omega) (by omega) J
    · refine q_gtT (pc := 23) (tgt := 941) C dL_law_23 (by decide) ?_ (q_end C hN (by omega) I)
      rw [Int32.lt_iff_toInt_lt, nI_subT (by omega) (by omega), nI_toInt (by omega)]
      omega
end QL
