/-! calls that change the state, as continuations; calls that are refused -/
section CK
variable {h : Hp} {X B : Nat} {p p' : PS} {Q : Option Value → Hp → Prop} {v : Int32}
theorem FrK.wd {k k' : Nat} {a b : Hp} (h1 : FrK k X a b) (hk : k ≤ k') : FrK k' X a b := ⟨⟨h1.1.1, Nat.le_trans h1.1.2.1 (Nat.add_le_add_left (Nat.mul_le_mul_left 6 hk) _), Nat.le_trans h1.1.2.2 (Nat.add_le_add_left (Nat.mul_le_mul_left 400 hk) _)⟩, h1.2⟩
theorem FrK.rf : FrK 0 X h h := ⟨by omega, fun _ _ => rfl⟩
theorem k_style (hr : rP h X B p) (hw : WfP p) {x : Int32} (e : opStyle p x = (p', v)) (K : ∀ h', FrK 1 X h h' → rP h' X B p' → WfP p' → Q (some (.int v)) h') : WPm 71 [.ref X, .int x] h Q := by
  obtain ⟨h', a, ⟨b, c⟩, q⟩ := x_style hr hw x
  rw [e] at b c q
  rw [q]
  exact K h' a b c
theorem k_setParent (hr : rP h X B p) (hw : WfP p) {x y : Int32} (e : opSetParent p x y = (p', v)) (K : ∀ h', FrK 1 X h h' → rP h' X B p' → WfP p' → Q (some (.int v)) h') : WPm 72 [.ref X, .int x, .int y] h Q := by
  obtain ⟨h', a, ⟨b, c⟩, q⟩ := x_setParent hr hw x y
  rw [e] at b c q
  rw [q]
  exact K h' a b c
theorem k_setStyle (hr : rP h X B p) (hw : WfP p) {x y z : Int32} (e : opSetStyle p x y z = (p', v)) (K : ∀ h', FrK 1 X h h' → rP h' X B p' → WfP p' → Q (some (.int v)) h') : WPm 73 [.ref X, .int x, .int y, .int z] h Q := by
  obtain ⟨h', a, ⟨b, c⟩, q⟩ := x_setStyle hr hw x y z
  rw [e] at b c q
  rw [q]
  exact K h' a b c
theorem k_unstyle (hr : rP h X B p) (hw : WfP p) (e : opUnstyle p = (p', v)) (K : ∀ h', FrK 1 X h h' → rP h' X B p' → WfP p' → Q (some (.int v)) h') : WPm 74 [.ref X] h Q := by
  obtain ⟨h', a, ⟨b, c⟩, q⟩ := x_unstyle hr hw
  rw [e] at b c q
  rw [q]
  exact K h' a b c
theorem k_flatten (hr : rP h X B p) (hw : WfP p) (e : opFlatten p = (p', v)) (K : ∀ h', FrK 1 X h h' → rP h' X B p' → WfP p' → Q (some (.int v)) h') : WPm 75 [.ref X] h Q := by
  obtain ⟨h', a, ⟨b, c⟩, q⟩ := x_flatten hr hw
  rw [e] at b c q
  rw [q]
  exact K h' a b c
theorem k_type (hr : rP h X B p) (hw : WfP p) {x : Int32} (e : opType p x = (p', v)) (K : ∀ h', FrK 1 X h h' → rP h' X B p' → WfP p' → Q (some (.int v)) h') : WPm 80 [.ref X, .int x] h Q := by
  obtain ⟨h', a, ⟨b, c⟩, q⟩ := x_type hr hw x
  rw [e] at b c q
  rw [q]
  exact K h' a b c
theorem k_clear (hr : rP h X B p) (hw : WfP p) (e : opClear p = (p', v)) (K : ∀ h', FrK 1 X h h' → rP h' X B p' → WfP p' → Q (some (.int v)) h') : WPm 81 [.ref X] h Q := by
  obtain ⟨h', a, ⟨b, c⟩, q⟩ := x_clear hr hw
  rw [e] at b c q
  rw [q]
  exact K h' a b c
theorem k_line (hr : rP h X B p) (hw : WfP p) {x y z : Int32} (e : opLine p x y z = (p', v)) (K : ∀ h', FrK 1 X h h' → rP h' X B p' → WfP p' → Q (some (.int v)) h') : WPm 82 [.ref X, .int x, .int y, .int z] h Q := by
  obtain ⟨h', a, ⟨b, c⟩, q⟩ := x_line hr hw x y z
  rw [e] at b c q
  rw [q]
  exact K h' a b c
theorem k_remove (hr : rP h X B p) (hw : WfP p) {x : Int32} (e : opRemove p x = (p', v)) (K : ∀ h', FrK 1 X h h' → rP h' X B p' → WfP p' → Q (some (.int v)) h') : WPm 83 [.ref X, .int x] h Q := by
  obtain ⟨h', a, ⟨b, c⟩, q⟩ := x_remove hr hw x
  rw [e] at b c q
  rw [q]
  exact K h' a b c
theorem k_change (hr : rP h X B p) (hw : WfP p) {x y z : Int32} (e : opChange p x y z = (p', v)) (K : ∀ h', FrK 1 X h h' → rP h' X B p' → WfP p' → Q (some (.int v)) h') : WPm 84 [.ref X, .int x, .int y, .int z] h Q := by
  obtain ⟨h', a, ⟨b, c⟩, q⟩ := x_change hr hw x y z
  rw [e] at b c q
  rw [q]
  exact K h' a b c
theorem k_shift (hr : rP h X B p) (hw : WfP p) {x y : Int32} (e : opShift p x y = (p', v)) (K : ∀ h', FrK 1 X h h' → rP h' X B p' → WfP p' → Q (some (.int v)) h') : WPm 86 [.ref X, .int x, .int y] h Q := by
  obtain ⟨h', a, ⟨b, c⟩, q⟩ := x_shift hr hw x y
  rw [e] at b c q
  rw [q]
  exact K h' a b c
theorem k_setHeight (hr : rP h X B p) (hw : WfP p) {x : Int32} (e : opSetHeight p x = (p', v)) (K : ∀ h', FrK 1 X h h' → rP h' X B p' → WfP p' → Q (some (.int v)) h') : WPm 87 [.ref X, .int x] h Q := by
  obtain ⟨h', a, ⟨b, c⟩, q⟩ := x_setHeight hr hw x
  rw [e] at b c q
  rw [q]
  exact K h' a b c
theorem k_fit (hr : rP h X B p) (hw : WfP p) {x : Int32} (e : opFit p x = (p', v)) (K : ∀ h', FrK 1 X h h' → rP h' X B p' → WfP p' → Q (some (.int v)) h') : WPm 92 [.ref X, .int x] h Q := by
  obtain ⟨h', a, ⟨b, c⟩, q⟩ := x_fit hr hw x
  rw [e] at b c q
  rw [q]
  exact K h' a b c
theorem k_undo (hr : rP h X B p) (hw : WfP p) (e : opUndo p = (p', v)) (K : ∀ h', FrK 1 X h h' → rP h' X B p' → WfP p' → Q (some (.int v)) h') : WPm 98 [.ref X] h Q := by
  obtain ⟨h', a, ⟨b, c⟩, q⟩ := x_undo hr hw
  rw [e] at b c q
  rw [q]
  exact K h' a b c
theorem k_unlike (hr : rP h X B p) (hw : WfP p) (K : ∀ h', FrK 1 X h h' → rP h' X B p → Q (some (.int (nI 0))) h') : WPm 97 [.ref X] h Q := by
  obtain ⟨h', a, b, q⟩ := x_unlike hr hw
  rw [q]
  exact K h' a b
theorem k_fp (hr : rP h X B p) (hw : WfP p) (K : ∀ h', FrK 1 X h h' → rP h' X B p → Q (some (.long (qFp p))) h') : WPm 99 [.ref X] h Q := by
  obtain ⟨h', a, b, q⟩ := x_fingerprint hr hw
  rw [q]
  exact K h' a b
theorem qFp_eq {p q : PS} (h : p.1 = q.1) : qFp p = qFp q := by
  unfold qFp qCrowd
  rw [h]
theorem lg_self (x : Int64) : lg_cmp x x = nI 0 := by
  unfold lg_cmp
  rw [if_neg (fun q => Int64.lt_irrefl q), if_pos rfl]
  rfl
theorem dN_big {n : Nat} (hn : n < 2147483648) : dN n (nI n) = none := by
  unfold dN
  exact if_neg (fun q => Int32.lt_irrefl q.2)
theorem dO_big {n : Nat} (hn : n < 2147483648) : dO n (nI n) = none := by
  unfold dO
  rw [if_neg (nI_nm1 (by omega)), dN_big hn]
  rfl
theorem dN_m {n : Nat} {x : Int32} (hx : x < nI 0) : dN n x = none := by
  unfold dN
  exact if_neg (fun q => Int32.not_lt.mpr q.1 hx)
theorem dO_m2 {n : Nat} : dO n (-2) = none := by
  unfold dO
  rw [if_neg (by decide), dN_m (by decide)]
  rfl
end CK
