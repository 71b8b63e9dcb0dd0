/-! the model: its object and its fourteen arrays as one heap -/
def mkC (M : Nat) (v : Nat → Int32) (pa : Nat → Int32) (pm : Int32) (fl : Nat → Int32) (tx : Nat → Int32) (ty : Int32) (ct : Int32) (wr : Int32) (it : Nat → Int32) (im : Int32) (sg : Nat → Int32) (sm : Int32) (lat : Nat → Int32) (hat : Nat → Int32) (sy : Int32) (nw : Nat → Int32) (os : Nat → Int32) (hgh : Nat → Int32) (pl : Nat → Int32) (asd : Nat → Int32) (lks : Nat → Int32) : Nat → Option va_E
  | 0 => some (.inr (10, [.ref (M + 1), .ref (M + 2), .int pm, .ref (M + 3), .ref (M + 4), .int ty, .int ct, .int wr, .ref (M + 5), .int im, .ref (M + 6), .int sm, .ref (M + 7), .ref (M + 8), .int sy, .ref (M + 9), .ref (M + 10), .ref (M + 11), .ref (M + 12), .ref (M + 13), .ref (M + 14)]))
  | 1 => some (.inl (0, 2760, .inl v))
  | 2 => some (.inl (0, 13800, .inl pa))
  | 3 => some (.inl (0, 60, .inl fl))
  | 4 => some (.inl (0, 80, .inl tx))
  | 5 => some (.inl (0, 160, .inl it))
  | 6 => some (.inl (0, 480, .inl sg))
  | 7 => some (.inl (0, 80, .inl lat))
  | 8 => some (.inl (0, 80, .inl hat))
  | 9 => some (.inl (0, 4, .inl nw))
  | 10 => some (.inl (0, 16, .inl os))
  | 11 => some (.inl (0, 16, .inl hgh))
  | 12 => some (.inl (1, 16, .inl pl))
  | 13 => some (.inl (0, 2760, .inl asd))
  | 14 => some (.inl (0, 320, .inl lks))
  | _ => none
def mkM (h0 : Hp) (M : Nat) (v : Nat → Int32) (pa : Nat → Int32) (pm : Int32) (fl : Nat → Int32) (tx : Nat → Int32) (ty : Int32) (ct : Int32) (wr : Int32) (it : Nat → Int32) (im : Int32) (sg : Nat → Int32) (sm : Int32) (lat : Nat → Int32) (hat : Nat → Int32) (sy : Int32) (nw : Nat → Int32) (os : Nat → Int32) (hgh : Nat → Int32) (pl : Nat → Int32) (asd : Nat → Int32) (lks : Nat → Int32) : Hp := (fun q => if M ≤ q ∧ q < M + 15 then mkC M v pa pm fl tx ty ct wr it im sg sm lat hat sy nw os hgh pl asd lks (q - M) else h0.1 q, h0.2)
section MM
variable {h0 : Hp} {M : Nat} {v pa fl tx it sg lat hat nw os hgh pl asd lks : Nat → Int32} {pm ty ct wr im sm sy : Int32}
theorem mkM_at {k : Nat} (hk : k < 15) : (mkM h0 M v pa pm fl tx ty ct wr it im sg sm lat hat sy nw os hgh pl asd lks).1 (M + k) = mkC M v pa pm fl tx ty ct wr it im sg sm lat hat sy nw os hgh pl asd lks k := by
  show (if M ≤ M + k ∧ M + k < M + 15 then _ else _) = _
  rw [if_pos (by omega), Nat.add_sub_cancel_left]
theorem mkM_o : (mkM h0 M v pa pm fl tx ty ct wr it im sg sm lat hat sy nw os hgh pl asd lks).1 M = some (.inr (10, [.ref (M + 1), .ref (M + 2), .int pm, .ref (M + 3), .ref (M + 4), .int ty, .int ct, .int wr, .ref (M + 5), .int im, .ref (M + 6), .int sm, .ref (M + 7), .ref (M + 8), .int sy, .ref (M + 9), .ref (M + 10), .ref (M + 11), .ref (M + 12), .ref (M + 13), .ref (M + 14)])) := mkM_at (k := 0) (by omega)
theorem mkM_1 : (mkM h0 M v pa pm fl tx ty ct wr it im sg sm lat hat sy nw os hgh pl asd lks).1 (M + 1) = some (.inl (0, 2760, .inl v)) := mkM_at (by omega)
theorem mkM_2 : (mkM h0 M v pa pm fl tx ty ct wr it im sg sm lat hat sy nw os hgh pl asd lks).1 (M + 2) = some (.inl (0, 13800, .inl pa)) := mkM_at (by omega)
theorem mkM_3 : (mkM h0 M v pa pm fl tx ty ct wr it im sg sm lat hat sy nw os hgh pl asd lks).1 (M + 3) = some (.inl (0, 60, .inl fl)) := mkM_at (by omega)
theorem mkM_4 : (mkM h0 M v pa pm fl tx ty ct wr it im sg sm lat hat sy nw os hgh pl asd lks).1 (M + 4) = some (.inl (0, 80, .inl tx)) := mkM_at (by omega)
theorem mkM_5 : (mkM h0 M v pa pm fl tx ty ct wr it im sg sm lat hat sy nw os hgh pl asd lks).1 (M + 5) = some (.inl (0, 160, .inl it)) := mkM_at (by omega)
theorem mkM_6 : (mkM h0 M v pa pm fl tx ty ct wr it im sg sm lat hat sy nw os hgh pl asd lks).1 (M + 6) = some (.inl (0, 480, .inl sg)) := mkM_at (by omega)
theorem mkM_7 : (mkM h0 M v pa pm fl tx ty ct wr it im sg sm lat hat sy nw os hgh pl asd lks).1 (M + 7) = some (.inl (0, 80, .inl lat)) := mkM_at (by omega)
theorem mkM_8 : (mkM h0 M v pa pm fl tx ty ct wr it im sg sm lat hat sy nw os hgh pl asd lks).1 (M + 8) = some (.inl (0, 80, .inl hat)) := mkM_at (by omega)
theorem mkM_9 : (mkM h0 M v pa pm fl tx ty ct wr it im sg sm lat hat sy nw os hgh pl asd lks).1 (M + 9) = some (.inl (0, 4, .inl nw)) := mkM_at (by omega)
theorem mkM_10 : (mkM h0 M v pa pm fl tx ty ct wr it im sg sm lat hat sy nw os hgh pl asd lks).1 (M + 10) = some (.inl (0, 16, .inl os)) := mkM_at (by omega)
theorem mkM_11 : (mkM h0 M v pa pm fl tx ty ct wr it im sg sm lat hat sy nw os hgh pl asd lks).1 (M + 11) = some (.inl (0, 16, .inl hgh)) := mkM_at (by omega)
theorem mkM_12 : (mkM h0 M v pa pm fl tx ty ct wr it im sg sm lat hat sy nw os hgh pl asd lks).1 (M + 12) = some (.inl (1, 16, .inl pl)) := mkM_at (by omega)
theorem mkM_13 : (mkM h0 M v pa pm fl tx ty ct wr it im sg sm lat hat sy nw os hgh pl asd lks).1 (M + 13) = some (.inl (0, 2760, .inl asd)) := mkM_at (by omega)
theorem mkM_14 : (mkM h0 M v pa pm fl tx ty ct wr it im sg sm lat hat sy nw os hgh pl asd lks).1 (M + 14) = some (.inl (0, 320, .inl lks)) := mkM_at (by omega)
theorem mkM_set {w : Nat → Option va_E} {k : Nat} {e : va_E} (hk : k < 15) (h1 : w k = some e) (h2 : ∀ d, d ≠ k → mkC M v pa pm fl tx ty ct wr it im sg sm lat hat sy nw os hgh pl asd lks d = w d) : hset (mkM h0 M v pa pm fl tx ty ct wr it im sg sm lat hat sy nw os hgh pl asd lks) (M + k) e = (fun q => if M ≤ q ∧ q < M + 15 then w (q - M) else h0.1 q, h0.2) := by
  unfold hset
  refine Prod.ext ?_ rfl
  funext q
  show (if q = M + k then some e else if M ≤ q ∧ q < M + 15 then _ else _) = (if M ≤ q ∧ q < M + 15 then w (q - M) else _)
  by_cases hq : q = M + k
  · subst hq
    rw [if_pos rfl, if_pos (by omega), Nat.add_sub_cancel_left, h1]
  · rw [if_neg hq]
    by_cases c : M ≤ q ∧ q < M + 15
    · rw [if_pos c, if_pos c]
      exact h2 _ (by omega)
    · rw [if_neg c, if_neg c]
theorem mCk {P : Prop} : zCk ((mkM h0 M v pa pm fl tx ty ct wr it im sg sm lat hat sy nw os hgh pl asd lks).1 M) 10 P = P := by rw [mkM_o, gCk]
theorem mG0 {K : Value → Prop} : zG ((mkM h0 M v pa pm fl tx ty ct wr it im sg sm lat hat sy nw os hgh pl asd lks).1 M) 10 0 K = K (.ref (M + 1)) := by rw [mkM_o]; rfl
theorem mG1 {K : Value → Prop} : zG ((mkM h0 M v pa pm fl tx ty ct wr it im sg sm lat hat sy nw os hgh pl asd lks).1 M) 10 1 K = K (.ref (M + 2)) := by rw [mkM_o]; rfl
theorem mG2 {K : Value → Prop} : zG ((mkM h0 M v pa pm fl tx ty ct wr it im sg sm lat hat sy nw os hgh pl asd lks).1 M) 10 2 K = K (.int pm) := by rw [mkM_o]; rfl
theorem mG3 {K : Value → Prop} : zG ((mkM h0 M v pa pm fl tx ty ct wr it im sg sm lat hat sy nw os hgh pl asd lks).1 M) 10 3 K = K (.ref (M + 3)) := by rw [mkM_o]; rfl
theorem mG4 {K : Value → Prop} : zG ((mkM h0 M v pa pm fl tx ty ct wr it im sg sm lat hat sy nw os hgh pl asd lks).1 M) 10 4 K = K (.ref (M + 4)) := by rw [mkM_o]; rfl
theorem mG5 {K : Value → Prop} : zG ((mkM h0 M v pa pm fl tx ty ct wr it im sg sm lat hat sy nw os hgh pl asd lks).1 M) 10 5 K = K (.int ty) := by rw [mkM_o]; rfl
theorem mG6 {K : Value → Prop} : zG ((mkM h0 M v pa pm fl tx ty ct wr it im sg sm lat hat sy nw os hgh pl asd lks).1 M) 10 6 K = K (.int ct) := by rw [mkM_o]; rfl
theorem mG7 {K : Value → Prop} : zG ((mkM h0 M v pa pm fl tx ty ct wr it im sg sm lat hat sy nw os hgh pl asd lks).1 M) 10 7 K = K (.int wr) := by rw [mkM_o]; rfl
theorem mG8 {K : Value → Prop} : zG ((mkM h0 M v pa pm fl tx ty ct wr it im sg sm lat hat sy nw os hgh pl asd lks).1 M) 10 8 K = K (.ref (M + 5)) := by rw [mkM_o]; rfl
theorem mG9 {K : Value → Prop} : zG ((mkM h0 M v pa pm fl tx ty ct wr it im sg sm lat hat sy nw os hgh pl asd lks).1 M) 10 9 K = K (.int im) := by rw [mkM_o]; rfl
theorem mG10 {K : Value → Prop} : zG ((mkM h0 M v pa pm fl tx ty ct wr it im sg sm lat hat sy nw os hgh pl asd lks).1 M) 10 10 K = K (.ref (M + 6)) := by rw [mkM_o]; rfl
theorem mG11 {K : Value → Prop} : zG ((mkM h0 M v pa pm fl tx ty ct wr it im sg sm lat hat sy nw os hgh pl asd lks).1 M) 10 11 K = K (.int sm) := by rw [mkM_o]; rfl
theorem mG12 {K : Value → Prop} : zG ((mkM h0 M v pa pm fl tx ty ct wr it im sg sm lat hat sy nw os hgh pl asd lks).1 M) 10 12 K = K (.ref (M + 7)) := by rw [mkM_o]; rfl
theorem mG13 {K : Value → Prop} : zG ((mkM h0 M v pa pm fl tx ty ct wr it im sg sm lat hat sy nw os hgh pl asd lks).1 M) 10 13 K = K (.ref (M + 8)) := by rw [mkM_o]; rfl
theorem mG14 {K : Value → Prop} : zG ((mkM h0 M v pa pm fl tx ty ct wr it im sg sm lat hat sy nw os hgh pl asd lks).1 M) 10 14 K = K (.int sy) := by rw [mkM_o]; rfl
theorem mG15 {K : Value → Prop} : zG ((mkM h0 M v pa pm fl tx ty ct wr it im sg sm lat hat sy nw os hgh pl asd lks).1 M) 10 15 K = K (.ref (M + 9)) := by rw [mkM_o]; rfl
theorem mG16 {K : Value → Prop} : zG ((mkM h0 M v pa pm fl tx ty ct wr it im sg sm lat hat sy nw os hgh pl asd lks).1 M) 10 16 K = K (.ref (M + 10)) := by rw [mkM_o]; rfl
theorem mG17 {K : Value → Prop} : zG ((mkM h0 M v pa pm fl tx ty ct wr it im sg sm lat hat sy nw os hgh pl asd lks).1 M) 10 17 K = K (.ref (M + 11)) := by rw [mkM_o]; rfl
theorem mG18 {K : Value → Prop} : zG ((mkM h0 M v pa pm fl tx ty ct wr it im sg sm lat hat sy nw os hgh pl asd lks).1 M) 10 18 K = K (.ref (M + 12)) := by rw [mkM_o]; rfl
theorem mG19 {K : Value → Prop} : zG ((mkM h0 M v pa pm fl tx ty ct wr it im sg sm lat hat sy nw os hgh pl asd lks).1 M) 10 19 K = K (.ref (M + 13)) := by rw [mkM_o]; rfl
theorem mG20 {K : Value → Prop} : zG ((mkM h0 M v pa pm fl tx ty ct wr it im sg sm lat hat sy nw os hgh pl asd lks).1 M) 10 20 K = K (.ref (M + 14)) := by rw [mkM_o]; rfl
theorem mP2 {y : Int32} {K : Hp → Prop} : zPf ((mkM h0 M v pa pm fl tx ty ct wr it im sg sm lat hat sy nw os hgh pl asd lks).1 M) (mkM h0 M v pa pm fl tx ty ct wr it im sg sm lat hat sy nw os hgh pl asd lks) M 10 2 (.int y) K = K (mkM h0 M v pa y fl tx ty ct wr it im sg sm lat hat sy nw os hgh pl asd lks) := by
  rw [mkM_o]
  show K (hset (mkM h0 M v pa pm fl tx ty ct wr it im sg sm lat hat sy nw os hgh pl asd lks) M (.inr (10, [.ref (M + 1), .ref (M + 2), .int y, .ref (M + 3), .ref (M + 4), .int ty, .int ct, .int wr, .ref (M + 5), .int im, .ref (M + 6), .int sm, .ref (M + 7), .ref (M + 8), .int sy, .ref (M + 9), .ref (M + 10), .ref (M + 11), .ref (M + 12), .ref (M + 13), .ref (M + 14)]))) = _
  congr 1
  refine mkM_set (k := 0) (by omega) rfl (fun d hd => ?_)
  match d with
  | 0 => exact absurd rfl hd
  | 1 => rfl
  | 2 => rfl
  | 3 => rfl
  | 4 => rfl
  | 5 => rfl
  | 6 => rfl
  | 7 => rfl
  | 8 => rfl
  | 9 => rfl
  | 10 => rfl
  | 11 => rfl
  | 12 => rfl
  | 13 => rfl
  | 14 => rfl
  | d + 15 => rfl
theorem mP5 {y : Int32} {K : Hp → Prop} : zPf ((mkM h0 M v pa pm fl tx ty ct wr it im sg sm lat hat sy nw os hgh pl asd lks).1 M) (mkM h0 M v pa pm fl tx ty ct wr it im sg sm lat hat sy nw os hgh pl asd lks) M 10 5 (.int y) K = K (mkM h0 M v pa pm fl tx y ct wr it im sg sm lat hat sy nw os hgh pl asd lks) := by
  rw [mkM_o]
  show K (hset (mkM h0 M v pa pm fl tx ty ct wr it im sg sm lat hat sy nw os hgh pl asd lks) M (.inr (10, [.ref (M + 1), .ref (M + 2), .int pm, .ref (M + 3), .ref (M + 4), .int y, .int ct, .int wr, .ref (M + 5), .int im, .ref (M + 6), .int sm, .ref (M + 7), .ref (M + 8), .int sy, .ref (M + 9), .ref (M + 10), .ref (M + 11), .ref (M + 12), .ref (M + 13), .ref (M + 14)]))) = _
  congr 1
  refine mkM_set (k := 0) (by omega) rfl (fun d hd => ?_)
  match d with
  | 0 => exact absurd rfl hd
  | 1 => rfl
  | 2 => rfl
  | 3 => rfl
  | 4 => rfl
  | 5 => rfl
  | 6 => rfl
  | 7 => rfl
  | 8 => rfl
  | 9 => rfl
  | 10 => rfl
  | 11 => rfl
  | 12 => rfl
  | 13 => rfl
  | 14 => rfl
  | d + 15 => rfl
theorem mP6 {y : Int32} {K : Hp → Prop} : zPf ((mkM h0 M v pa pm fl tx ty ct wr it im sg sm lat hat sy nw os hgh pl asd lks).1 M) (mkM h0 M v pa pm fl tx ty ct wr it im sg sm lat hat sy nw os hgh pl asd lks) M 10 6 (.int y) K = K (mkM h0 M v pa pm fl tx ty y wr it im sg sm lat hat sy nw os hgh pl asd lks) := by
  rw [mkM_o]
  show K (hset (mkM h0 M v pa pm fl tx ty ct wr it im sg sm lat hat sy nw os hgh pl asd lks) M (.inr (10, [.ref (M + 1), .ref (M + 2), .int pm, .ref (M + 3), .ref (M + 4), .int ty, .int y, .int wr, .ref (M + 5), .int im, .ref (M + 6), .int sm, .ref (M + 7), .ref (M + 8), .int sy, .ref (M + 9), .ref (M + 10), .ref (M + 11), .ref (M + 12), .ref (M + 13), .ref (M + 14)]))) = _
  congr 1
  refine mkM_set (k := 0) (by omega) rfl (fun d hd => ?_)
  match d with
  | 0 => exact absurd rfl hd
  | 1 => rfl
  | 2 => rfl
  | 3 => rfl
  | 4 => rfl
  | 5 => rfl
  | 6 => rfl
  | 7 => rfl
  | 8 => rfl
  | 9 => rfl
  | 10 => rfl
  | 11 => rfl
  | 12 => rfl
  | 13 => rfl
  | 14 => rfl
  | d + 15 => rfl
theorem mP7 {y : Int32} {K : Hp → Prop} : zPf ((mkM h0 M v pa pm fl tx ty ct wr it im sg sm lat hat sy nw os hgh pl asd lks).1 M) (mkM h0 M v pa pm fl tx ty ct wr it im sg sm lat hat sy nw os hgh pl asd lks) M 10 7 (.int y) K = K (mkM h0 M v pa pm fl tx ty ct y it im sg sm lat hat sy nw os hgh pl asd lks) := by
  rw [mkM_o]
  show K (hset (mkM h0 M v pa pm fl tx ty ct wr it im sg sm lat hat sy nw os hgh pl asd lks) M (.inr (10, [.ref (M + 1), .ref (M + 2), .int pm, .ref (M + 3), .ref (M + 4), .int ty, .int ct, .int y, .ref (M + 5), .int im, .ref (M + 6), .int sm, .ref (M + 7), .ref (M + 8), .int sy, .ref (M + 9), .ref (M + 10), .ref (M + 11), .ref (M + 12), .ref (M + 13), .ref (M + 14)]))) = _
  congr 1
  refine mkM_set (k := 0) (by omega) rfl (fun d hd => ?_)
  match d with
  | 0 => exact absurd rfl hd
  | 1 => rfl
  | 2 => rfl
  | 3 => rfl
  | 4 => rfl
  | 5 => rfl
  | 6 => rfl
  | 7 => rfl
  | 8 => rfl
  | 9 => rfl
  | 10 => rfl
  | 11 => rfl
  | 12 => rfl
  | 13 => rfl
  | 14 => rfl
  | d + 15 => rfl
theorem mP9 {y : Int32} {K : Hp → Prop} : zPf ((mkM h0 M v pa pm fl tx ty ct wr it im sg sm lat hat sy nw os hgh pl asd lks).1 M) (mkM h0 M v pa pm fl tx ty ct wr it im sg sm lat hat sy nw os hgh pl asd lks) M 10 9 (.int y) K = K (mkM h0 M v pa pm fl tx ty ct wr it y sg sm lat hat sy nw os hgh pl asd lks) := by
  rw [mkM_o]
  show K (hset (mkM h0 M v pa pm fl tx ty ct wr it im sg sm lat hat sy nw os hgh pl asd lks) M (.inr (10, [.ref (M + 1), .ref (M + 2), .int pm, .ref (M + 3), .ref (M + 4), .int ty, .int ct, .int wr, .ref (M + 5), .int y, .ref (M + 6), .int sm, .ref (M + 7), .ref (M + 8), .int sy, .ref (M + 9), .ref (M + 10), .ref (M + 11), .ref (M + 12), .ref (M + 13), .ref (M + 14)]))) = _
  congr 1
  refine mkM_set (k := 0) (by omega) rfl (fun d hd => ?_)
  match d with
  | 0 => exact absurd rfl hd
  | 1 => rfl
  | 2 => rfl
  | 3 => rfl
  | 4 => rfl
  | 5 => rfl
  | 6 => rfl
  | 7 => rfl
  | 8 => rfl
  | 9 => rfl
  | 10 => rfl
  | 11 => rfl
  | 12 => rfl
  | 13 => rfl
  | 14 => rfl
  | d + 15 => rfl
theorem mP11 {y : Int32} {K : Hp → Prop} : zPf ((mkM h0 M v pa pm fl tx ty ct wr it im sg sm lat hat sy nw os hgh pl asd lks).1 M) (mkM h0 M v pa pm fl tx ty ct wr it im sg sm lat hat sy nw os hgh pl asd lks) M 10 11 (.int y) K = K (mkM h0 M v pa pm fl tx ty ct wr it im sg y lat hat sy nw os hgh pl asd lks) := by
  rw [mkM_o]
  show K (hset (mkM h0 M v pa pm fl tx ty ct wr it im sg sm lat hat sy nw os hgh pl asd lks) M (.inr (10, [.ref (M + 1), .ref (M + 2), .int pm, .ref (M + 3), .ref (M + 4), .int ty, .int ct, .int wr, .ref (M + 5), .int im, .ref (M + 6), .int y, .ref (M + 7), .ref (M + 8), .int sy, .ref (M + 9), .ref (M + 10), .ref (M + 11), .ref (M + 12), .ref (M + 13), .ref (M + 14)]))) = _
  congr 1
  refine mkM_set (k := 0) (by omega) rfl (fun d hd => ?_)
  match d with
  | 0 => exact absurd rfl hd
  | 1 => rfl
  | 2 => rfl
  | 3 => rfl
  | 4 => rfl
  | 5 => rfl
  | 6 => rfl
  | 7 => rfl
  | 8 => rfl
  | 9 => rfl
  | 10 => rfl
  | 11 => rfl
  | 12 => rfl
  | 13 => rfl
  | 14 => rfl
  | d + 15 => rfl
theorem mP14 {y : Int32} {K : Hp → Prop} : zPf ((mkM h0 M v pa pm fl tx ty ct wr it im sg sm lat hat sy nw os hgh pl asd lks).1 M) (mkM h0 M v pa pm fl tx ty ct wr it im sg sm lat hat sy nw os hgh pl asd lks) M 10 14 (.int y) K = K (mkM h0 M v pa pm fl tx ty ct wr it im sg sm lat hat y nw os hgh pl asd lks) := by
  rw [mkM_o]
  show K (hset (mkM h0 M v pa pm fl tx ty ct wr it im sg sm lat hat sy nw os hgh pl asd lks) M (.inr (10, [.ref (M + 1), .ref (M + 2), .int pm, .ref (M + 3), .ref (M + 4), .int ty, .int ct, .int wr, .ref (M + 5), .int im, .ref (M + 6), .int sm, .ref (M + 7), .ref (M + 8), .int y, .ref (M + 9), .ref (M + 10), .ref (M + 11), .ref (M + 12), .ref (M + 13), .ref (M + 14)]))) = _
  congr 1
  refine mkM_set (k := 0) (by omega) rfl (fun d hd => ?_)
  match d with
  | 0 => exact absurd rfl hd
  | 1 => rfl
  | 2 => rfl
  | 3 => rfl
  | 4 => rfl
  | 5 => rfl
  | 6 => rfl
  | 7 => rfl
  | 8 => rfl
  | 9 => rfl
  | 10 => rfl
  | 11 => rfl
  | 12 => rfl
  | 13 => rfl
  | 14 => rfl
  | d + 15 => rfl
theorem mA1 {k : Nat} {K : Int32 → Prop} (hk : k < 2760) : zAi ((mkM h0 M v pa pm fl tx ty ct wr it im sg sm lat hat sy nw os hgh pl asd lks).1 (M + 1)) 0 (nI k) K = K (v k) := by rw [mkM_1, gAi hk (by omega)]
theorem mU1 {g : Nat → Int32} : hset (mkM h0 M v pa pm fl tx ty ct wr it im sg sm lat hat sy nw os hgh pl asd lks) (M + 1) (.inl (0, 2760, .inl g)) = (mkM h0 M g pa pm fl tx ty ct wr it im sg sm lat hat sy nw os hgh pl asd lks) := by
  refine mkM_set (k := 1) (by omega) rfl (fun d hd => ?_)
  match d with
  | 0 => rfl
  | 1 => exact absurd rfl hd
  | 2 => rfl
  | 3 => rfl
  | 4 => rfl
  | 5 => rfl
  | 6 => rfl
  | 7 => rfl
  | 8 => rfl
  | 9 => rfl
  | 10 => rfl
  | 11 => rfl
  | 12 => rfl
  | 13 => rfl
  | 14 => rfl
  | d + 15 => rfl
theorem mS1 {k : Nat} {x : Int32} {K : Hp → Prop} (hk : k < 2760) : zSi ((mkM h0 M v pa pm fl tx ty ct wr it im sg sm lat hat sy nw os hgh pl asd lks).1 (M + 1)) (mkM h0 M v pa pm fl tx ty ct wr it im sg sm lat hat sy nw os hgh pl asd lks) (M + 1) 0 (nI k) x K = K (mkM h0 M (upd v k x) pa pm fl tx ty ct wr it im sg sm lat hat sy nw os hgh pl asd lks) := by rw [mkM_1, gSi hk (by omega), mU1]
theorem mA2 {k : Nat} {K : Int32 → Prop} (hk : k < 13800) : zAi ((mkM h0 M v pa pm fl tx ty ct wr it im sg sm lat hat sy nw os hgh pl asd lks).1 (M + 2)) 0 (nI k) K = K (pa k) := by rw [mkM_2, gAi hk (by omega)]
theorem mU2 {g : Nat → Int32} : hset (mkM h0 M v pa pm fl tx ty ct wr it im sg sm lat hat sy nw os hgh pl asd lks) (M + 2) (.inl (0, 13800, .inl g)) = (mkM h0 M v g pm fl tx ty ct wr it im sg sm lat hat sy nw os hgh pl asd lks) := by
  refine mkM_set (k := 2) (by omega) rfl (fun d hd => ?_)
  match d with
  | 0 => rfl
  | 1 => rfl
  | 2 => exact absurd rfl hd
  | 3 => rfl
  | 4 => rfl
  | 5 => rfl
  | 6 => rfl
  | 7 => rfl
  | 8 => rfl
  | 9 => rfl
  | 10 => rfl
  | 11 => rfl
  | 12 => rfl
  | 13 => rfl
  | 14 => rfl
  | d + 15 => rfl
theorem mS2 {k : Nat} {x : Int32} {K : Hp → Prop} (hk : k < 13800) : zSi ((mkM h0 M v pa pm fl tx ty ct wr it im sg sm lat hat sy nw os hgh pl asd lks).1 (M + 2)) (mkM h0 M v pa pm fl tx ty ct wr it im sg sm lat hat sy nw os hgh pl asd lks) (M + 2) 0 (nI k) x K = K (mkM h0 M v (upd pa k x) pm fl tx ty ct wr it im sg sm lat hat sy nw os hgh pl asd lks) := by rw [mkM_2, gSi hk (by omega), mU2]
theorem mA3 {k : Nat} {K : Int32 → Prop} (hk : k < 60) : zAi ((mkM h0 M v pa pm fl tx ty ct wr it im sg sm lat hat sy nw os hgh pl asd lks).1 (M + 3)) 0 (nI k) K = K (fl k) := by rw [mkM_3, gAi hk (by omega)]
theorem mU3 {g : Nat → Int32} : hset (mkM h0 M v pa pm fl tx ty ct wr it im sg sm lat hat sy nw os hgh pl asd lks) (M + 3) (.inl (0, 60, .inl g)) = (mkM h0 M v pa pm g tx ty ct wr it im sg sm lat hat sy nw os hgh pl asd lks) := by
  refine mkM_set (k := 3) (by omega) rfl (fun d hd => ?_)
  match d with
  | 0 => rfl
  | 1 => rfl
  | 2 => rfl
  | 3 => exact absurd rfl hd
  | 4 => rfl
  | 5 => rfl
  | 6 => rfl
  | 7 => rfl
  | 8 => rfl
  | 9 => rfl
  | 10 => rfl
  | 11 => rfl
  | 12 => rfl
  | 13 => rfl
  | 14 => rfl
  | d + 15 => rfl
theorem mS3 {k : Nat} {x : Int32} {K : Hp → Prop} (hk : k < 60) : zSi ((mkM h0 M v pa pm fl tx ty ct wr it im sg sm lat hat sy nw os hgh pl asd lks).1 (M + 3)) (mkM h0 M v pa pm fl tx ty ct wr it im sg sm lat hat sy nw os hgh pl asd lks) (M + 3) 0 (nI k) x K = K (mkM h0 M v pa pm (upd fl k x) tx ty ct wr it im sg sm lat hat sy nw os hgh pl asd lks) := by rw [mkM_3, gSi hk (by omega), mU3]
theorem mA4 {k : Nat} {K : Int32 → Prop} (hk : k < 80) : zAi ((mkM h0 M v pa pm fl tx ty ct wr it im sg sm lat hat sy nw os hgh pl asd lks).1 (M + 4)) 0 (nI k) K = K (tx k) := by rw [mkM_4, gAi hk (by omega)]
theorem mU4 {g : Nat → Int32} : hset (mkM h0 M v pa pm fl tx ty ct wr it im sg sm lat hat sy nw os hgh pl asd lks) (M + 4) (.inl (0, 80, .inl g)) = (mkM h0 M v pa pm fl g ty ct wr it im sg sm lat hat sy nw os hgh pl asd lks) := by
  refine mkM_set (k := 4) (by omega) rfl (fun d hd => ?_)
  match d with
  | 0 => rfl
  | 1 => rfl
  | 2 => rfl
  | 3 => rfl
  | 4 => exact absurd rfl hd
  | 5 => rfl
  | 6 => rfl
  | 7 => rfl
  | 8 => rfl
  | 9 => rfl
  | 10 => rfl
  | 11 => rfl
  | 12 => rfl
  | 13 => rfl
  | 14 => rfl
  | d + 15 => rfl
theorem mS4 {k : Nat} {x : Int32} {K : Hp → Prop} (hk : k < 80) : zSi ((mkM h0 M v pa pm fl tx ty ct wr it im sg sm lat hat sy nw os hgh pl asd lks).1 (M + 4)) (mkM h0 M v pa pm fl tx ty ct wr it im sg sm lat hat sy nw os hgh pl asd lks) (M + 4) 0 (nI k) x K = K (mkM h0 M v pa pm fl (upd tx k x) ty ct wr it im sg sm lat hat sy nw os hgh pl asd lks) := by rw [mkM_4, gSi hk (by omega), mU4]
theorem mA5 {k : Nat} {K : Int32 → Prop} (hk : k < 160) : zAi ((mkM h0 M v pa pm fl tx ty ct wr it im sg sm lat hat sy nw os hgh pl asd lks).1 (M + 5)) 0 (nI k) K = K (it k) := by rw [mkM_5, gAi hk (by omega)]
theorem mU5 {g : Nat → Int32} : hset (mkM h0 M v pa pm fl tx ty ct wr it im sg sm lat hat sy nw os hgh pl asd lks) (M + 5) (.inl (0, 160, .inl g)) = (mkM h0 M v pa pm fl tx ty ct wr g im sg sm lat hat sy nw os hgh pl asd lks) := by
  refine mkM_set (k := 5) (by omega) rfl (fun d hd => ?_)
  match d with
  | 0 => rfl
  | 1 => rfl
  | 2 => rfl
  | 3 => rfl
  | 4 => rfl
  | 5 => exact absurd rfl hd
  | 6 => rfl
  | 7 => rfl
  | 8 => rfl
  | 9 => rfl
  | 10 => rfl
  | 11 => rfl
  | 12 => rfl
  | 13 => rfl
  | 14 => rfl
  | d + 15 => rfl
theorem mS5 {k : Nat} {x : Int32} {K : Hp → Prop} (hk : k < 160) : zSi ((mkM h0 M v pa pm fl tx ty ct wr it im sg sm lat hat sy nw os hgh pl asd lks).1 (M + 5)) (mkM h0 M v pa pm fl tx ty ct wr it im sg sm lat hat sy nw os hgh pl asd lks) (M + 5) 0 (nI k) x K = K (mkM h0 M v pa pm fl tx ty ct wr (upd it k x) im sg sm lat hat sy nw os hgh pl asd lks) := by rw [mkM_5, gSi hk (by omega), mU5]
theorem mA6 {k : Nat} {K : Int32 → Prop} (hk : k < 480) : zAi ((mkM h0 M v pa pm fl tx ty ct wr it im sg sm lat hat sy nw os hgh pl asd lks).1 (M + 6)) 0 (nI k) K = K (sg k) := by rw [mkM_6, gAi hk (by omega)]
theorem mU6 {g : Nat → Int32} : hset (mkM h0 M v pa pm fl tx ty ct wr it im sg sm lat hat sy nw os hgh pl asd lks) (M + 6) (.inl (0, 480, .inl g)) = (mkM h0 M v pa pm fl tx ty ct wr it im g sm lat hat sy nw os hgh pl asd lks) := by
  refine mkM_set (k := 6) (by omega) rfl (fun d hd => ?_)
  match d with
  | 0 => rfl
  | 1 => rfl
  | 2 => rfl
  | 3 => rfl
  | 4 => rfl
  | 5 => rfl
  | 6 => exact absurd rfl hd
  | 7 => rfl
  | 8 => rfl
  | 9 => rfl
  | 10 => rfl
  | 11 => rfl
  | 12 => rfl
  | 13 => rfl
  | 14 => rfl
  | d + 15 => rfl
theorem mS6 {k : Nat} {x : Int32} {K : Hp → Prop} (hk : k < 480) : zSi ((mkM h0 M v pa pm fl tx ty ct wr it im sg sm lat hat sy nw os hgh pl asd lks).1 (M + 6)) (mkM h0 M v pa pm fl tx ty ct wr it im sg sm lat hat sy nw os hgh pl asd lks) (M + 6) 0 (nI k) x K = K (mkM h0 M v pa pm fl tx ty ct wr it im (upd sg k x) sm lat hat sy nw os hgh pl asd lks) := by rw [mkM_6, gSi hk (by omega), mU6]
theorem mA7 {k : Nat} {K : Int32 → Prop} (hk : k < 80) : zAi ((mkM h0 M v pa pm fl tx ty ct wr it im sg sm lat hat sy nw os hgh pl asd lks).1 (M + 7)) 0 (nI k) K = K (lat k) := by rw [mkM_7, gAi hk (by omega)]
theorem mU7 {g : Nat → Int32} : hset (mkM h0 M v pa pm fl tx ty ct wr it im sg sm lat hat sy nw os hgh pl asd lks) (M + 7) (.inl (0, 80, .inl g)) = (mkM h0 M v pa pm fl tx ty ct wr it im sg sm g hat sy nw os hgh pl asd lks) := by
  refine mkM_set (k := 7) (by omega) rfl (fun d hd => ?_)
  match d with
  | 0 => rfl
  | 1 => rfl
  | 2 => rfl
  | 3 => rfl
  | 4 => rfl
  | 5 => rfl
  | 6 => rfl
  | 7 => exact absurd rfl hd
  | 8 => rfl
  | 9 => rfl
  | 10 => rfl
  | 11 => rfl
  | 12 => rfl
  | 13 => rfl
  | 14 => rfl
  | d + 15 => rfl
theorem mS7 {k : Nat} {x : Int32} {K : Hp → Prop} (hk : k < 80) : zSi ((mkM h0 M v pa pm fl tx ty ct wr it im sg sm lat hat sy nw os hgh pl asd lks).1 (M + 7)) (mkM h0 M v pa pm fl tx ty ct wr it im sg sm lat hat sy nw os hgh pl asd lks) (M + 7) 0 (nI k) x K = K (mkM h0 M v pa pm fl tx ty ct wr it im sg sm (upd lat k x) hat sy nw os hgh pl asd lks) := by rw [mkM_7, gSi hk (by omega), mU7]
theorem mA8 {k : Nat} {K : Int32 → Prop} (hk : k < 80) : zAi ((mkM h0 M v pa pm fl tx ty ct wr it im sg sm lat hat sy nw os hgh pl asd lks).1 (M + 8)) 0 (nI k) K = K (hat k) := by rw [mkM_8, gAi hk (by omega)]
theorem mU8 {g : Nat → Int32} : hset (mkM h0 M v pa pm fl tx ty ct wr it im sg sm lat hat sy nw os hgh pl asd lks) (M + 8) (.inl (0, 80, .inl g)) = (mkM h0 M v pa pm fl tx ty ct wr it im sg sm lat g sy nw os hgh pl asd lks) := by
  refine mkM_set (k := 8) (by omega) rfl (fun d hd => ?_)
  match d with
  | 0 => rfl
  | 1 => rfl
  | 2 => rfl
  | 3 => rfl
  | 4 => rfl
  | 5 => rfl
  | 6 => rfl
  | 7 => rfl
  | 8 => exact absurd rfl hd
  | 9 => rfl
  | 10 => rfl
  | 11 => rfl
  | 12 => rfl
  | 13 => rfl
  | 14 => rfl
  | d + 15 => rfl
theorem mS8 {k : Nat} {x : Int32} {K : Hp → Prop} (hk : k < 80) : zSi ((mkM h0 M v pa pm fl tx ty ct wr it im sg sm lat hat sy nw os hgh pl asd lks).1 (M + 8)) (mkM h0 M v pa pm fl tx ty ct wr it im sg sm lat hat sy nw os hgh pl asd lks) (M + 8) 0 (nI k) x K = K (mkM h0 M v pa pm fl tx ty ct wr it im sg sm lat (upd hat k x) sy nw os hgh pl asd lks) := by rw [mkM_8, gSi hk (by omega), mU8]
theorem mA9 {k : Nat} {K : Int32 → Prop} (hk : k < 4) : zAi ((mkM h0 M v pa pm fl tx ty ct wr it im sg sm lat hat sy nw os hgh pl asd lks).1 (M + 9)) 0 (nI k) K = K (nw k) := by rw [mkM_9, gAi hk (by omega)]
theorem mU9 {g : Nat → Int32} : hset (mkM h0 M v pa pm fl tx ty ct wr it im sg sm lat hat sy nw os hgh pl asd lks) (M + 9) (.inl (0, 4, .inl g)) = (mkM h0 M v pa pm fl tx ty ct wr it im sg sm lat hat sy g os hgh pl asd lks) := by
  refine mkM_set (k := 9) (by omega) rfl (fun d hd => ?_)
  match d with
  | 0 => rfl
  | 1 => rfl
  | 2 => rfl
  | 3 => rfl
  | 4 => rfl
  | 5 => rfl
  | 6 => rfl
  | 7 => rfl
  | 8 => rfl
  | 9 => exact absurd rfl hd
  | 10 => rfl
  | 11 => rfl
  | 12 => rfl
  | 13 => rfl
  | 14 => rfl
  | d + 15 => rfl
theorem mS9 {k : Nat} {x : Int32} {K : Hp → Prop} (hk : k < 4) : zSi ((mkM h0 M v pa pm fl tx ty ct wr it im sg sm lat hat sy nw os hgh pl asd lks).1 (M + 9)) (mkM h0 M v pa pm fl tx ty ct wr it im sg sm lat hat sy nw os hgh pl asd lks) (M + 9) 0 (nI k) x K = K (mkM h0 M v pa pm fl tx ty ct wr it im sg sm lat hat sy (upd nw k x) os hgh pl asd lks) := by rw [mkM_9, gSi hk (by omega), mU9]
theorem mA10 {k : Nat} {K : Int32 → Prop} (hk : k < 16) : zAi ((mkM h0 M v pa pm fl tx ty ct wr it im sg sm lat hat sy nw os hgh pl asd lks).1 (M + 10)) 0 (nI k) K = K (os k) := by rw [mkM_10, gAi hk (by omega)]
theorem mU10 {g : Nat → Int32} : hset (mkM h0 M v pa pm fl tx ty ct wr it im sg sm lat hat sy nw os hgh pl asd lks) (M + 10) (.inl (0, 16, .inl g)) = (mkM h0 M v pa pm fl tx ty ct wr it im sg sm lat hat sy nw g hgh pl asd lks) := by
  refine mkM_set (k := 10) (by omega) rfl (fun d hd => ?_)
  match d with
  | 0 => rfl
  | 1 => rfl
  | 2 => rfl
  | 3 => rfl
  | 4 => rfl
  | 5 => rfl
  | 6 => rfl
  | 7 => rfl
  | 8 => rfl
  | 9 => rfl
  | 10 => exact absurd rfl hd
  | 11 => rfl
  | 12 => rfl
  | 13 => rfl
  | 14 => rfl
  | d + 15 => rfl
theorem mS10 {k : Nat} {x : Int32} {K : Hp → Prop} (hk : k < 16) : zSi ((mkM h0 M v pa pm fl tx ty ct wr it im sg sm lat hat sy nw os hgh pl asd lks).1 (M + 10)) (mkM h0 M v pa pm fl tx ty ct wr it im sg sm lat hat sy nw os hgh pl asd lks) (M + 10) 0 (nI k) x K = K (mkM h0 M v pa pm fl tx ty ct wr it im sg sm lat hat sy nw (upd os k x) hgh pl asd lks) := by rw [mkM_10, gSi hk (by omega), mU10]
theorem mA11 {k : Nat} {K : Int32 → Prop} (hk : k < 16) : zAi ((mkM h0 M v pa pm fl tx ty ct wr it im sg sm lat hat sy nw os hgh pl asd lks).1 (M + 11)) 0 (nI k) K = K (hgh k) := by rw [mkM_11, gAi hk (by omega)]
theorem mU11 {g : Nat → Int32} : hset (mkM h0 M v pa pm fl tx ty ct wr it im sg sm lat hat sy nw os hgh pl asd lks) (M + 11) (.inl (0, 16, .inl g)) = (mkM h0 M v pa pm fl tx ty ct wr it im sg sm lat hat sy nw os g pl asd lks) := by
  refine mkM_set (k := 11) (by omega) rfl (fun d hd => ?_)
  match d with
  | 0 => rfl
  | 1 => rfl
  | 2 => rfl
  | 3 => rfl
  | 4 => rfl
  | 5 => rfl
  | 6 => rfl
  | 7 => rfl
  | 8 => rfl
  | 9 => rfl
  | 10 => rfl
  | 11 => exact absurd rfl hd
  | 12 => rfl
  | 13 => rfl
  | 14 => rfl
  | d + 15 => rfl
theorem mS11 {k : Nat} {x : Int32} {K : Hp → Prop} (hk : k < 16) : zSi ((mkM h0 M v pa pm fl tx ty ct wr it im sg sm lat hat sy nw os hgh pl asd lks).1 (M + 11)) (mkM h0 M v pa pm fl tx ty ct wr it im sg sm lat hat sy nw os hgh pl asd lks) (M + 11) 0 (nI k) x K = K (mkM h0 M v pa pm fl tx ty ct wr it im sg sm lat hat sy nw os (upd hgh k x) pl asd lks) := by rw [mkM_11, gSi hk (by omega), mU11]
theorem mA12 {k : Nat} {K : Int32 → Prop} (hk : k < 16) : zAi ((mkM h0 M v pa pm fl tx ty ct wr it im sg sm lat hat sy nw os hgh pl asd lks).1 (M + 12)) 1 (nI k) K = K (pl k) := by rw [mkM_12, gAi hk (by omega)]
theorem mU12 {g : Nat → Int32} : hset (mkM h0 M v pa pm fl tx ty ct wr it im sg sm lat hat sy nw os hgh pl asd lks) (M + 12) (.inl (1, 16, .inl g)) = (mkM h0 M v pa pm fl tx ty ct wr it im sg sm lat hat sy nw os hgh g asd lks) := by
  refine mkM_set (k := 12) (by omega) rfl (fun d hd => ?_)
  match d with
  | 0 => rfl
  | 1 => rfl
  | 2 => rfl
  | 3 => rfl
  | 4 => rfl
  | 5 => rfl
  | 6 => rfl
  | 7 => rfl
  | 8 => rfl
  | 9 => rfl
  | 10 => rfl
  | 11 => rfl
  | 12 => exact absurd rfl hd
  | 13 => rfl
  | 14 => rfl
  | d + 15 => rfl
theorem mS12 {k : Nat} {x : Int32} {K : Hp → Prop} (hk : k < 16) : zSi ((mkM h0 M v pa pm fl tx ty ct wr it im sg sm lat hat sy nw os hgh pl asd lks).1 (M + 12)) (mkM h0 M v pa pm fl tx ty ct wr it im sg sm lat hat sy nw os hgh pl asd lks) (M + 12) 1 (nI k) x K = K (mkM h0 M v pa pm fl tx ty ct wr it im sg sm lat hat sy nw os hgh (upd pl k (x &&& 1)) asd lks) := by rw [mkM_12, gSz hk (by omega), mU12]
theorem mA13 {k : Nat} {K : Int32 → Prop} (hk : k < 2760) : zAi ((mkM h0 M v pa pm fl tx ty ct wr it im sg sm lat hat sy nw os hgh pl asd lks).1 (M + 13)) 0 (nI k) K = K (asd k) := by rw [mkM_13, gAi hk (by omega)]
theorem mU13 {g : Nat → Int32} : hset (mkM h0 M v pa pm fl tx ty ct wr it im sg sm lat hat sy nw os hgh pl asd lks) (M + 13) (.inl (0, 2760, .inl g)) = (mkM h0 M v pa pm fl tx ty ct wr it im sg sm lat hat sy nw os hgh pl g lks) := by
  refine mkM_set (k := 13) (by omega) rfl (fun d hd => ?_)
  match d with
  | 0 => rfl
  | 1 => rfl
  | 2 => rfl
  | 3 => rfl
  | 4 => rfl
  | 5 => rfl
  | 6 => rfl
  | 7 => rfl
  | 8 => rfl
  | 9 => rfl
  | 10 => rfl
  | 11 => rfl
  | 12 => rfl
  | 13 => exact absurd rfl hd
  | 14 => rfl
  | d + 15 => rfl
theorem mS13 {k : Nat} {x : Int32} {K : Hp → Prop} (hk : k < 2760) : zSi ((mkM h0 M v pa pm fl tx ty ct wr it im sg sm lat hat sy nw os hgh pl asd lks).1 (M + 13)) (mkM h0 M v pa pm fl tx ty ct wr it im sg sm lat hat sy nw os hgh pl asd lks) (M + 13) 0 (nI k) x K = K (mkM h0 M v pa pm fl tx ty ct wr it im sg sm lat hat sy nw os hgh pl (upd asd k x) lks) := by rw [mkM_13, gSi hk (by omega), mU13]
theorem mA14 {k : Nat} {K : Int32 → Prop} (hk : k < 320) : zAi ((mkM h0 M v pa pm fl tx ty ct wr it im sg sm lat hat sy nw os hgh pl asd lks).1 (M + 14)) 0 (nI k) K = K (lks k) := by rw [mkM_14, gAi hk (by omega)]
theorem mU14 {g : Nat → Int32} : hset (mkM h0 M v pa pm fl tx ty ct wr it im sg sm lat hat sy nw os hgh pl asd lks) (M + 14) (.inl (0, 320, .inl g)) = (mkM h0 M v pa pm fl tx ty ct wr it im sg sm lat hat sy nw os hgh pl asd g) := by
  refine mkM_set (k := 14) (by omega) rfl (fun d hd => ?_)
  match d with
  | 0 => rfl
  | 1 => rfl
  | 2 => rfl
  | 3 => rfl
  | 4 => rfl
  | 5 => rfl
  | 6 => rfl
  | 7 => rfl
  | 8 => rfl
  | 9 => rfl
  | 10 => rfl
  | 11 => rfl
  | 12 => rfl
  | 13 => rfl
  | 14 => exact absurd rfl hd
  | d + 15 => rfl
theorem mS14 {k : Nat} {x : Int32} {K : Hp → Prop} (hk : k < 320) : zSi ((mkM h0 M v pa pm fl tx ty ct wr it im sg sm lat hat sy nw os hgh pl asd lks).1 (M + 14)) (mkM h0 M v pa pm fl tx ty ct wr it im sg sm lat hat sy nw os hgh pl asd lks) (M + 14) 0 (nI k) x K = K (mkM h0 M v pa pm fl tx ty ct wr it im sg sm lat hat sy nw os hgh pl asd (upd lks k x)) := by rw [mkM_14, gSi hk (by omega), mU14]
end MM
