/-! RULES of the stepper as equations, instruction by instruction -/
def zpush : Option Value → List Value → List Value
  | none, s => s
  | some v, s => v :: s
def zG (o : Option va_E) (ci k : Nat) (K : Value → Prop) : Prop := match o with
  | some (.inr (c, fs)) => if c = ci then (match fs[k]? with
    | some v => K v
    | none => False) else False
  | _ => False
def zPf (o : Option va_E) (h : Hp) (a ci k : Nat) (v : Value) (K : Hp → Prop) : Prop := match o with
  | some (.inr (c, fs)) => if c = ci ∧ k < fs.length then K (hset h a (.inr (ci, fs.set k v))) else False
  | _ => False
def zAi (o : Option va_E) (t : Nat) (i : Int32) (K : Int32 → Prop) : Prop := match o with
  | some (.inl (t', n, .inl f)) => if (t' = t ∨ t' = 1) ∧ zin i n then K (f i.toNatClampNeg) else False
  | _ => False
def zSi (o : Option va_E) (h : Hp) (a t : Nat) (i x : Int32) (K : Hp → Prop) : Prop := match o with
  | some (.inl (t', n, .inl f)) => if t' = t ∧ zin i n then K (hset h a (.inl (t', n, .inl (upd f i.toNatClampNeg (if t = 1 then x &&& 1 else x))))) else False
  | _ => False
def zAq (o : Option va_E) (i : Int32) (K : Value → Prop) : Prop := match o with
  | some (.inl (t, n, .inr (.inr (.inr (.inr f))))) => if (2 ≤ t ∧ t ≤ 4) ∧ zin i n then K (va_rf (f i.toNatClampNeg)) else False
  | _ => False
/-- 'ok': the class of what is stored -/
def zSq (o : Option va_E) (h : Hp) (a : Nat) (i : Int32) (v : Option Nat) (K : Hp → Prop) : Prop := match o with
  | some (.inl (t, n, .inr (.inr (.inr (.inr f))))) => if ((2 ≤ t ∧ t ≤ 4) ∧ zin i n) ∧ (∀ q, v = some q → zcls h q = some (ztc t)) then K (hset h a (.inl (t, n, .inr (.inr (.inr (.inr (va_up f i.toNatClampNeg v))))))) else False
  | _ => False
def zLn (o : Option va_E) (K : Int32 → Prop) : Prop := match zlen o with
  | some n => K (nI n)
  | none => False
def zCk (o : Option va_E) (ci : Nat) (P : Prop) : Prop := match o with
  | some (.inr (c, _)) => if c = ci then P else False
  | _ => False
theorem zsplit_one {as rest : List Value} {a m : Nat} (h1 : as.length = m) : zsplit (as.reverse ++ .ref a :: rest) (m + 1) = some (.ref a :: as, rest) := by
  subst h1
  unfold zsplit
  rw [if_pos (by simp)]
  have e1 : (as.reverse ++ Value.ref a :: rest) = (Value.ref a :: as).reverse ++ rest := by simp
  rw [e1, show as.length + 1 = ((Value.ref a :: as).reverse).length by simp, List.take_left, List.drop_left, List.reverse_reverse]
theorem zsplit_none {as rest : List Value} {m : Nat} (h1 : as.length = m) : zsplit (as.reverse ++ rest) m = some (as, rest) := by
  subst h1
  unfold zsplit
  rw [if_pos (by simp)]
  rw [show as.length = (as.reverse).length by simp, List.take_left, List.drop_left, List.reverse_reverse]
section WR
variable {j pc n : Nat} {cc : ByteArray} {ls : Ls} {st rest : List Value} {h : Hp} {Q : Option Value → Hp → Prop}
theorem wr_iconst {x : Int} {v : Int32} (hc : mC j = cc) (hd : decode cc pc = .ok (.iconst x, 1)) (hv : Int32.ofInt x = v) : WP j pc ls st h Q = WP j (pc + 1) ls (.int v :: st) h Q := by
  subst hv
  exact wp_next hc hd rfl
theorem wr_bipush {x : Int} {v : Int32} (hc : mC j = cc) (hd : decode cc pc = .ok (.bipush x, 2)) (hv : (Int8.ofInt x).toInt32 = v) : WP j pc ls st h Q = WP j (pc + 2) ls (.int v :: st) h Q := by
  subst hv
  exact wp_next hc hd rfl
theorem wr_sipush {x : Int} {v : Int32} (hc : mC j = cc) (hd : decode cc pc = .ok (.sipush x, 3)) (hv : (Int16.ofInt x).toInt32 = v) : WP j pc ls st h Q = WP j (pc + 3) ls (.int v :: st) h Q := by
  subst hv
  exact wp_next hc hd rfl
theorem wr_null (hc : mC j = cc) (hd : decode cc pc = .ok (.aconst_null, 1)) : WP j pc ls st h Q = WP j (pc + 1) ls (.null :: st) h Q := wp_next hc hd rfl
theorem wr_fconst (hc : mC j = cc) (hd : decode cc pc = .ok (.fconst 0, 1)) : WP j pc ls st h Q = WP j (pc + 1) ls (.float FP.fconst0 :: st) h Q := wp_next hc hd rfl
theorem wr_ldc {idx : Nat} {v : Int32} (hc : mC j = cc) (hd : decode cc pc = .ok (.ldc idx, 2)) (hv : zcst (mK j) idx = some v) : WP j pc ls st h Q = WP j (pc + 2) ls (.int v :: st) h Q := by
  refine wp_next hc hd ?_
  show (match zcst (mK j) idx with
    | some v => sN (pc + 2) ls (.int v :: st) h
    | none => none) = _
  rw [hv]
  rfl
theorem wr_ldc2 {idx : Nat} {v : Int64} (hc : mC j = cc) (hd : decode cc pc = .ok (.ldc2_w idx, 3)) (hv : zcsl (mK j) idx = some v) : WP j pc ls st h Q = WP j (pc + 3) ls (.long v :: st) h Q := by
  refine wp_next hc hd ?_
  show (match zcsl (mK j) idx with
    | some v => sN (pc + 3) ls (.long v :: st) h
    | none => none) = _
  rw [hv]
  rfl
theorem wr_iload {k : Nat} {x : Int32} (hc : mC j = cc) (hd : decode cc pc = .ok (.iload k, 2)) (hl : ls[k]? = some (some (.int x))) : WP j pc ls st h Q = WP j (pc + 2) ls (.int x :: st) h Q := by
  refine wp_next hc hd ?_
  show zldi (pc + 2) ls st h k = _
  rw [zldi, hl]
  rfl
theorem wr_iload_n {k : Fin 4} {x : Int32} (hc : mC j = cc) (hd : decode cc pc = .ok (.iload_n k, 1)) (hl : ls[(k : Nat)]? = some (some (.int x))) : WP j pc ls st h Q = WP j (pc + 1) ls (.int x :: st) h Q := by
  refine wp_next hc hd ?_
  show zldi (pc + 1) ls st h k = _
  rw [zldi, hl]
  rfl
theorem wr_lload {k : Nat} {x : Int64} (hc : mC j = cc) (hd : decode cc pc = .ok (.lload k, 2)) (hl : ls[k]? = some (some (.long x))) : WP j pc ls st h Q = WP j (pc + 2) ls (.long x :: st) h Q := by
  refine wp_next hc hd ?_
  show zldl (pc + 2) ls st h k = _
  rw [zldl, hl]
  rfl
theorem wr_lload_n {k : Fin 4} {x : Int64} (hc : mC j = cc) (hd : decode cc pc = .ok (.lload_n k, 1)) (hl : ls[(k : Nat)]? = some (some (.long x))) : WP j pc ls st h Q = WP j (pc + 1) ls (.long x :: st) h Q := by
  refine wp_next hc hd ?_
  show zldl (pc + 1) ls st h k = _
  rw [zldl, hl]
  rfl
theorem wr_aload {k x : Nat} (hc : mC j = cc) (hd : decode cc pc = .ok (.aload k, 2)) (hl : ls[k]? = some (some (.ref x))) : WP j pc ls st h Q = WP j (pc + 2) ls (.ref x :: st) h Q := by
  refine wp_next hc hd ?_
  show zlda (pc + 2) ls st h k = _
  rw [zlda, hl]
  rfl
theorem wr_aload_n {k : Fin 4} {x : Nat} (hc : mC j = cc) (hd : decode cc pc = .ok (.aload_n k, 1)) (hl : ls[(k : Nat)]? = some (some (.ref x))) : WP j pc ls st h Q = WP j (pc + 1) ls (.ref x :: st) h Q := by
  refine wp_next hc hd ?_
  show zlda (pc + 1) ls st h k = _
  rw [zlda, hl]
  rfl
theorem wr_aloadN {k : Nat} (hc : mC j = cc) (hd : decode cc pc = .ok (.aload k, 2)) (hl : ls[k]? = some (some .null)) : WP j pc ls st h Q = WP j (pc + 2) ls (.null :: st) h Q := by
  refine wp_next hc hd ?_
  show zlda (pc + 2) ls st h k = _
  rw [zlda, hl]
  rfl
theorem wr_aload_nN {k : Fin 4} (hc : mC j = cc) (hd : decode cc pc = .ok (.aload_n k, 1)) (hl : ls[(k : Nat)]? = some (some .null)) : WP j pc ls st h Q = WP j (pc + 1) ls (.null :: st) h Q := by
  refine wp_next hc hd ?_
  show zlda (pc + 1) ls st h k = _
  rw [zlda, hl]
  rfl
theorem wr_istore {k : Nat} {x : Int32} (hc : mC j = cc) (hd : decode cc pc = .ok (.istore k, 2)) (hk : k < ls.length ∧ zl2 ls k = false) : WP j pc ls (.int x :: st) h Q = WP j (pc + 2) (ls.set k (some (.int x))) st h Q := by
  refine wp_next hc hd ?_
  show zsti (pc + 2) ls (.int x :: st) h k = _
  simp only [zsti]
  rw [if_pos hk]
  rfl
theorem wr_istore_n {k : Fin 4} {x : Int32} (hc : mC j = cc) (hd : decode cc pc = .ok (.istore_n k, 1)) (hk : (k : Nat) < ls.length ∧ zl2 ls k = false) : WP j pc ls (.int x :: st) h Q = WP j (pc + 1) (ls.set k (some (.int x))) st h Q := by
  refine wp_next hc hd ?_
  show zsti (pc + 1) ls (.int x :: st) h k = _
  simp only [zsti]
  rw [if_pos hk]
  rfl
theorem wr_astore {k x : Nat} (hc : mC j = cc) (hd : decode cc pc = .ok (.astore k, 2)) (hk : k < ls.length ∧ zl2 ls k = false) : WP j pc ls (.ref x :: st) h Q = WP j (pc + 2) (ls.set k (some (.ref x))) st h Q := by
  refine wp_next hc hd ?_
  show zsta (pc + 2) ls (.ref x :: st) h k = _
  simp only [zsta]
  rw [if_pos hk]
  rfl
theorem wr_astore_n {k : Fin 4} {x : Nat} (hc : mC j = cc) (hd : decode cc pc = .ok (.astore_n k, 1)) (hk : (k : Nat) < ls.length ∧ zl2 ls k = false) : WP j pc ls (.ref x :: st) h Q = WP j (pc + 1) (ls.set k (some (.ref x))) st h Q := by
  refine wp_next hc hd ?_
  show zsta (pc + 1) ls (.ref x :: st) h k = _
  simp only [zsta]
  rw [if_pos hk]
  rfl
theorem wr_astoreN {k : Nat} (hc : mC j = cc) (hd : decode cc pc = .ok (.astore k, 2)) (hk : k < ls.length ∧ zl2 ls k = false) : WP j pc ls (.null :: st) h Q = WP j (pc + 2) (ls.set k (some .null)) st h Q := by
  refine wp_next hc hd ?_
  show zsta (pc + 2) ls (.null :: st) h k = _
  simp only [zsta]
  rw [if_pos hk]
  rfl
theorem wr_astore_nN {k : Fin 4} (hc : mC j = cc) (hd : decode cc pc = .ok (.astore_n k, 1)) (hk : (k : Nat) < ls.length ∧ zl2 ls k = false) : WP j pc ls (.null :: st) h Q = WP j (pc + 1) (ls.set k (some .null)) st h Q := by
  refine wp_next hc hd ?_
  show zsta (pc + 1) ls (.null :: st) h k = _
  simp only [zsta]
  rw [if_pos hk]
  rfl
theorem wr_lstore {k : Nat} {x : Int64} (hc : mC j = cc) (hd : decode cc pc = .ok (.lstore k, 2)) (hk : k + 1 < ls.length ∧ zl2 ls k = false) : WP j pc ls (.long x :: st) h Q = WP j (pc + 2) ((ls.set k (some (.long x))).set (k + 1) none) st h Q := by
  refine wp_next hc hd ?_
  show zstl (pc + 2) ls (.long x :: st) h k = _
  simp only [zstl]
  rw [if_pos hk]
  rfl
theorem wr_lstore_n {k : Fin 4} {x : Int64} (hc : mC j = cc) (hd : decode cc pc = .ok (.lstore_n k, 1)) (hk : (k : Nat) + 1 < ls.length ∧ zl2 ls k = false) : WP j pc ls (.long x :: st) h Q = WP j (pc + 1) ((ls.set k (some (.long x))).set (k + 1) none) st h Q := by
  refine wp_next hc hd ?_
  show zstl (pc + 1) ls (.long x :: st) h k = _
  simp only [zstl]
  rw [if_pos hk]
  rfl
theorem wr_iinc {k : Nat} {q : Int} {x v : Int32} (hc : mC j = cc) (hd : decode cc pc = .ok (.iinc k q, 3)) (hl : ls[k]? = some (some (.int x)) ∧ zl2 ls k = false) (hv : Int32.ofInt q = v) : WP j pc ls st h Q = WP j (pc + 3) (ls.set k (some (.int (x + v)))) st h Q := by
  subst hv
  refine wp_next hc hd ?_
  show zinc (pc + 3) ls st h k q = _
  rw [zinc, hl.1]
  show (if zl2 ls k = false then _ else _) = _
  rw [if_pos hl.2]
  rfl
theorem wr_iadd {x y : Int32} (hc : mC j = cc) (hd : decode cc pc = .ok (.iadd, 1)) : WP j pc ls (.int y :: .int x :: st) h Q = WP j (pc + 1) ls (.int (x + y) :: st) h Q := wp_next hc hd rfl
theorem wr_isub {x y : Int32} (hc : mC j = cc) (hd : decode cc pc = .ok (.isub, 1)) : WP j pc ls (.int y :: .int x :: st) h Q = WP j (pc + 1) ls (.int (x - y) :: st) h Q := wp_next hc hd rfl
theorem wr_imul {x y : Int32} (hc : mC j = cc) (hd : decode cc pc = .ok (.imul, 1)) : WP j pc ls (.int y :: .int x :: st) h Q = WP j (pc + 1) ls (.int (x * y) :: st) h Q := wp_next hc hd rfl
theorem wr_iand {x y : Int32} (hc : mC j = cc) (hd : decode cc pc = .ok (.iand, 1)) : WP j pc ls (.int y :: .int x :: st) h Q = WP j (pc + 1) ls (.int (x &&& y) :: st) h Q := wp_next hc hd rfl
theorem wr_ishr {x y : Int32} (hc : mC j = cc) (hd : decode cc pc = .ok (.ishr, 1)) : WP j pc ls (.int y :: .int x :: st) h Q = WP j (pc + 1) ls (.int (x >>> (y &&& 31)) :: st) h Q := wp_next hc hd rfl
theorem wr_lcmp {x y : Int64} (hc : mC j = cc) (hd : decode cc pc = .ok (.lcmp, 1)) : WP j pc ls (.long y :: .long x :: st) h Q = WP j (pc + 1) ls (.int (lg_cmp x y) :: st) h Q := wp_next hc hd rfl
theorem wr_fcmp {x y : UInt32} {op : CmpOp} (hc : mC j = cc) (hd : decode cc pc = .ok (.fcmp op, 1)) : WP j pc ls (.float y :: .float x :: st) h Q = WP j (pc + 1) ls (.int (Op.cmpValue (FP.fcmp x y) op) :: st) h Q := wp_next hc hd rfl
theorem wr_fload {k : Nat} {x : UInt32} (hc : mC j = cc) (hd : decode cc pc = .ok (.fload k, 2)) (hl : ls[k]? = some (some (.float x))) : WP j pc ls st h Q = WP j (pc + 2) ls (.float x :: st) h Q := by
  refine wp_next hc hd ?_
  show zldf (pc + 2) ls st h k = _
  rw [zldf, hl]
  rfl
theorem wr_fstore {k : Nat} {x : UInt32} (hc : mC j = cc) (hd : decode cc pc = .ok (.fstore k, 2)) (hk : k < ls.length ∧ zl2 ls k = false) : WP j pc ls (.float x :: st) h Q = WP j (pc + 2) (ls.set k (some (.float x))) st h Q := by
  refine wp_next hc hd ?_
  show zstf (pc + 2) ls (.float x :: st) h k = _
  simp only [zstf]
  rw [if_pos hk]
  rfl
theorem wr_idiv {x y : Int32} (hc : mC j = cc) (hd : decode cc pc = .ok (.idiv, 1)) (hy : ¬ y = 0) : WP j pc ls (.int y :: .int x :: st) h Q = WP j (pc + 1) ls (.int (x / y) :: st) h Q := by
  refine wp_next hc hd ?_
  show zbd (pc + 1) ls (.int y :: .int x :: st) h _ = _
  simp only [zbd]
  rw [if_neg hy]
  rfl
theorem wr_irem {x y : Int32} (hc : mC j = cc) (hd : decode cc pc = .ok (.irem, 1)) (hy : ¬ y = 0) : WP j pc ls (.int y :: .int x :: st) h Q = WP j (pc + 1) ls (.int (x - x / y * y) :: st) h Q := by
  refine wp_next hc hd ?_
  show zbd (pc + 1) ls (.int y :: .int x :: st) h (fun x y => x - x / y * y) = _
  simp only [zbd]
  rw [if_neg hy]
  rfl
theorem wr_ladd {x y : Int64} (hc : mC j = cc) (hd : decode cc pc = .ok (.ladd, 1)) : WP j pc ls (.long y :: .long x :: st) h Q = WP j (pc + 1) ls (.long (x + y) :: st) h Q := wp_next hc hd rfl
theorem wr_lmul {x y : Int64} (hc : mC j = cc) (hd : decode cc pc = .ok (.lmul, 1)) : WP j pc ls (.long y :: .long x :: st) h Q = WP j (pc + 1) ls (.long (x * y) :: st) h Q := wp_next hc hd rfl
theorem wr_i2l {x : Int32} (hc : mC j = cc) (hd : decode cc pc = .ok (.i2l, 1)) : WP j pc ls (.int x :: st) h Q = WP j (pc + 1) ls (.long x.toInt64 :: st) h Q := wp_next hc hd rfl
theorem wr_i2f {x : Int32} (hc : mC j = cc) (hd : decode cc pc = .ok (.i2f, 1)) : WP j pc ls (.int x :: st) h Q = WP j (pc + 1) ls (.float (FP.i2f x) :: st) h Q := wp_next hc hd rfl
theorem wr_fdiv {x y : UInt32} (hc : mC j = cc) (hd : decode cc pc = .ok (.fdiv, 1)) : WP j pc ls (.float y :: .float x :: st) h Q = if FP.fdiv x y &&& 0x7fffffff ≤ 0x7f800000 then WP j (pc + 1) ls (.float (FP.fdiv x y) :: st) h Q else False := by
  split
  · next hq => exact wp_next hc hd (show (if FP.fdiv x y &&& 0x7fffffff ≤ 0x7f800000 then sN (pc + 1) ls (.float (FP.fdiv x y) :: st) h else none) = _ by rw [if_pos hq]; rfl)
  · next hq => exact wp_none hc hd (show (if FP.fdiv x y &&& 0x7fffffff ≤ 0x7f800000 then sN (pc + 1) ls (.float (FP.fdiv x y) :: st) h else none) = _ by rw [if_neg hq])
theorem wr_dup {v : Value} (hc : mC j = cc) (hd : decode cc pc = .ok (.dup, 1)) (hv : zone v = true) : WP j pc ls (v :: st) h Q = WP j (pc + 1) ls (v :: v :: st) h Q := wp_next hc hd (show (if zone v then sN (pc + 1) ls (v :: v :: st) h else none) = _ by rw [if_pos hv]; rfl)
theorem wr_dup2 {v w : Value} (hc : mC j = cc) (hd : decode cc pc = .ok (.dup2, 1)) (hv : (zone v && zone w) = true) : WP j pc ls (v :: w :: st) h Q = WP j (pc + 1) ls (v :: w :: v :: w :: st) h Q := wp_next hc hd (show (if (zone v && zone w) = true then sN (pc + 1) ls (v :: w :: v :: w :: st) h else none) = _ by rw [if_pos hv]; rfl)
theorem wr_pop {v : Value} (hc : mC j = cc) (hd : decode cc pc = .ok (.pop, 1)) (hv : zone v = true) : WP j pc ls (v :: st) h Q = WP j (pc + 1) ls st h Q := wp_next hc hd (show (if zone v then sN (pc + 1) ls st h else none) = _ by rw [if_pos hv]; rfl)
theorem zto_at {off : Int} {tgt : Nat} (ht : (pc : Int) + off = (tgt : Int)) : zto pc off ls st h = sN tgt ls st h := by
  unfold zto
  rw [if_pos (by omega), show ((pc : Int) + off).toNat = tgt by omega]
theorem zbr_at {off : Int} {tgt : Nat} {bb : Bool} (ht : (pc : Int) + off = (tgt : Int)) : zbr pc off bb ls st h = sN (if bb then tgt else pc + 3) ls st h := by
  unfold zbr
  rw [if_pos (by omega), show ((pc : Int) + off).toNat = tgt by omega]
theorem wr_goto {off : Int} {tgt : Nat} (hc : mC j = cc) (hd : decode cc pc = .ok (.goto off, 3)) (ht : (pc : Int) + off = (tgt : Int)) : WP j pc ls st h Q = WP j tgt ls st h Q := wp_next hc hd (show zto pc off ls st h = _ from zto_at ht)
theorem wr_if {i : ClassFile.Cond} {off : Int} {tgt : Nat} {x : Int32} {P : Prop} [Decidable P] (hc : mC j = cc) (hd : decode cc pc = .ok (.ifCond i off, 3)) (ht : (pc : Int) + off = (tgt : Int)) (hP : zc i x 0 = decide P) : WP j pc ls (.int x :: st) h Q = if P then WP j tgt ls st h Q else WP j (pc + 3) ls st h Q := by
  split
  · next hq => exact wp_next hc hd (show zbr pc off (zc i x 0) ls st h = _ by rw [zbr_at ht, hP, decide_eq_true hq]; rfl)
  · next hq => exact wp_next hc hd (show zbr pc off (zc i x 0) ls st h = _ by rw [zbr_at ht, hP, decide_eq_false hq]; rfl)
theorem wr_icmp {i : ClassFile.Cond} {off : Int} {tgt : Nat} {x y : Int32} {P : Prop} [Decidable P] (hc : mC j = cc) (hd : decode cc pc = .ok (.if_icmp i off, 3)) (ht : (pc : Int) + off = (tgt : Int)) (hP : zc i x y = decide P) : WP j pc ls (.int y :: .int x :: st) h Q = if P then WP j tgt ls st h Q else WP j (pc + 3) ls st h Q := by
  split
  · next hq => exact wp_next hc hd (show zbr pc off (zc i x y) ls st h = _ by rw [zbr_at ht, hP, decide_eq_true hq]; rfl)
  · next hq => exact wp_next hc hd (show zbr pc off (zc i x y) ls st h = _ by rw [zbr_at ht, hP, decide_eq_false hq]; rfl)
theorem wr_ifnull_r {off : Int} {a : Nat} (hc : mC j = cc) (hd : decode cc pc = .ok (.ifnull off, 3)) : WP j pc ls (.ref a :: st) h Q = WP j (pc + 3) ls st h Q := wp_next hc hd rfl
theorem wr_ifnull_n {off : Int} {tgt : Nat} (hc : mC j = cc) (hd : decode cc pc = .ok (.ifnull off, 3)) (ht : (pc : Int) + off = (tgt : Int)) : WP j pc ls (.null :: st) h Q = WP j tgt ls st h Q := wp_next hc hd (show zto pc off ls st h = _ from zto_at ht)
theorem wr_ifnn_r {off : Int} {tgt a : Nat} (hc : mC j = cc) (hd : decode cc pc = .ok (.ifnonnull off, 3)) (ht : (pc : Int) + off = (tgt : Int)) : WP j pc ls (.ref a :: st) h Q = WP j tgt ls st h Q := wp_next hc hd (show zto pc off ls st h = _ from zto_at ht)
theorem wr_ifnn_n {off : Int} (hc : mC j = cc) (hd : decode cc pc = .ok (.ifnonnull off, 3)) : WP j pc ls (.null :: st) h Q = WP j (pc + 3) ls st h Q := wp_next hc hd rfl
theorem wr_get {idx ci k a : Nat} (hc : mC j = cc) (hd : decode cc pc = .ok (.getfield idx, 3)) (hf : zfld (mK j) idx = some (ci, k)) : WP j pc ls (.ref a :: st) h Q = zG (h.1 a) ci k (fun v => WP j (pc + 3) ls (v :: st) h Q) := by
  have hs : zst j (.getfield idx) pc 3 ls (.ref a :: st) h = zgetf j pc ls (.ref a :: st) h idx := rfl
  simp only [zgetf, hf] at hs
  unfold zG
  split at hs
  · next c fs hq =>
    rw [hq]
    simp only
    split at hs
    · next he =>
      rw [if_pos he]
      split at hs
      · next v hv => rw [hv]; exact wp_next hc hd hs
      · next hv => rw [hv]; exact wp_none hc hd hs
    · next he => rw [if_neg he]; exact wp_none hc hd hs
  · next hq =>
    split
    · next c fs hq2 => exact absurd hq2 (hq c fs)
    · exact wp_none hc hd hs
theorem wr_put {idx ci k a : Nat} {v : Value} (hc : mC j = cc) (hd : decode cc pc = .ok (.putfield idx, 3)) (hf : zfld (mK j) idx = some (ci, k)) (hv : zokf (zty ci k) v = true) (hfin : (zT ci k).2.2.2 = true → (mY j).name = "<init>" ∧ mK j = ci) : WP j pc ls (v :: .ref a :: st) h Q = zPf (h.1 a) h a ci k v (fun h' => WP j (pc + 3) ls st h' Q) := by
  have hs : zst j (.putfield idx) pc 3 ls (v :: .ref a :: st) h = zputf j pc ls (v :: .ref a :: st) h idx := rfl
  simp only [zputf, hf] at hs
  unfold zPf
  split at hs
  · next c fs hq =>
    rw [hq]
    simp only
    split at hs
    · next he => rw [if_pos ⟨he.1, he.2.1⟩]; exact wp_next hc hd hs
    · next he => rw [if_neg (fun q => he ⟨q.1, q.2, hv, hfin⟩)]; exact wp_none hc hd hs
  · next hq =>
    split
    · next c fs hq2 => exact absurd hq2 (hq c fs)
    · exact wp_none hc hd hs
theorem wr_ald {i : Instr} {t : Nat} {x : Int32} {a : Nat} (hc : mC j = cc) (hd : decode cc pc = .ok (i, 1)) (hi : zst j i pc 1 ls (.int x :: .ref a :: st) h = zald pc ls (.int x :: .ref a :: st) h t) : WP j pc ls (.int x :: .ref a :: st) h Q = zAi (h.1 a) t x (fun v => WP j (pc + 1) ls (.int v :: st) h Q) := by
  have hs := hi
  simp only [zald] at hs
  unfold zAi
  split at hs
  · next t' n f hq =>
    rw [hq]
    simp only
    split at hs
    · next he => rw [if_pos he]; exact wp_next hc hd hs
    · next he => rw [if_neg he]; exact wp_none hc hd hs
  · next hq =>
    split
    · next c fs f hq2 => exact absurd hq2 (hq c fs f)
    · exact wp_none hc hd hs
theorem wr_ast {i : Instr} {t : Nat} {x y : Int32} {a : Nat} (hc : mC j = cc) (hd : decode cc pc = .ok (i, 1)) (hi : zst j i pc 1 ls (.int y :: .int x :: .ref a :: st) h = zast pc ls (.int y :: .int x :: .ref a :: st) h t) : WP j pc ls (.int y :: .int x :: .ref a :: st) h Q = zSi (h.1 a) h a t x y (fun h' => WP j (pc + 1) ls st h' Q) := by
  have hs := hi
  simp only [zast] at hs
  unfold zSi
  split at hs
  · next t' n f hq =>
    rw [hq]
    simp only
    split at hs
    · next he => rw [if_pos he]; exact wp_next hc hd hs
    · next he => rw [if_neg he]; exact wp_none hc hd hs
  · next hq =>
    split
    · next c fs f hq2 => exact absurd hq2 (hq c fs f)
    · exact wp_none hc hd hs
theorem wr_alq {x : Int32} {a : Nat} (hc : mC j = cc) (hd : decode cc pc = .ok (.aaload, 1)) : WP j pc ls (.int x :: .ref a :: st) h Q = zAq (h.1 a) x (fun v => WP j (pc + 1) ls (v :: st) h Q) := by
  have hs : zst j .aaload pc 1 ls (.int x :: .ref a :: st) h = zalq pc ls (.int x :: .ref a :: st) h := rfl
  simp only [zalq] at hs
  unfold zAq
  split at hs
  · next t' n f hq =>
    rw [hq]
    simp only
    split at hs
    · next he => rw [if_pos he]; exact wp_next hc hd hs
    · next he => rw [if_neg he]; exact wp_none hc hd hs
  · next hq =>
    split
    · next c fs f hq2 => exact absurd hq2 (hq c fs f)
    · exact wp_none hc hd hs
theorem wr_asq {x : Int32} {a v : Nat} (hc : mC j = cc) (hd : decode cc pc = .ok (.aastore, 1)) : WP j pc ls (.ref v :: .int x :: .ref a :: st) h Q = zSq (h.1 a) h a x (some v) (fun h' => WP j (pc + 1) ls st h' Q) := by
  have hs : zst j .aastore pc 1 ls (.ref v :: .int x :: .ref a :: st) h = zasq pc ls (.ref v :: .int x :: .ref a :: st) h := rfl
  simp only [zasq] at hs
  unfold zSq
  split at hs
  · next t' n f hq =>
    rw [hq]
    simp only
    split at hs
    · next he => rw [if_pos ⟨he.1, fun q hq => by cases hq; exact he.2⟩]; exact wp_next hc hd hs
    · next he => rw [if_neg (fun z => he ⟨z.1, z.2 v rfl⟩)]; exact wp_none hc hd hs
  · next hq =>
    split
    · next c fs f hq2 => exact absurd hq2 (hq c fs f)
    · exact wp_none hc hd hs
theorem wr_asqN {x : Int32} {a : Nat} (hc : mC j = cc) (hd : decode cc pc = .ok (.aastore, 1)) : WP j pc ls (.null :: .int x :: .ref a :: st) h Q = zSq (h.1 a) h a x none (fun h' => WP j (pc + 1) ls st h' Q) := by
  have hs : zst j .aastore pc 1 ls (.null :: .int x :: .ref a :: st) h = zasq pc ls (.null :: .int x :: .ref a :: st) h := rfl
  simp only [zasq] at hs
  unfold zSq
  split at hs
  · next t' n f hq =>
    rw [hq]
    simp only
    split at hs
    · next he => rw [if_pos ⟨he, fun q hq => by cases hq⟩]; exact wp_next hc hd hs
    · next he => rw [if_neg (fun z => he z.1)]; exact wp_none hc hd hs
  · next hq =>
    split
    · next c fs f hq2 => exact absurd hq2 (hq c fs f)
    · exact wp_none hc hd hs
theorem wr_len {a : Nat} (hc : mC j = cc) (hd : decode cc pc = .ok (.arraylength, 1)) : WP j pc ls (.ref a :: st) h Q = zLn (h.1 a) (fun x => WP j (pc + 1) ls (.int x :: st) h Q) := by
  have hs : zst j .arraylength pc 1 ls (.ref a :: st) h = zaln pc ls (.ref a :: st) h := rfl
  simp only [zaln] at hs
  unfold zLn
  split at hs
  · next n hq => rw [hq]; exact wp_next hc hd hs
  · next hq => rw [hq]; exact wp_none hc hd hs
theorem wr_newi {x : Int32} (hc : mC j = cc) (hd : decode cc pc = .ok (.newarray .int, 2)) : WP j pc ls (.int x :: st) h Q = if ¬ x < 0 ∧ x.toNatClampNeg ≤ 100000 then WP j (pc + 2) ls (.ref h.2.1 :: st) (hnew h (.inl (0, x.toNatClampNeg, .inl (fun _ => 0))) x.toNatClampNeg) Q else False := by
  have hs : zst j (.newarray .int) pc 2 ls (.int x :: st) h = znea pc ls (.int x :: st) h .int := rfl
  simp only [znea] at hs
  split at hs
  · next he => rw [if_pos he]; exact wp_next hc hd hs
  · next he => rw [if_neg he]; exact wp_none hc hd hs
theorem wr_newq {x : Int32} {idx t : Nat} (hc : mC j = cc) (hd : decode cc pc = .ok (.anewarray idx, 3)) (ht : zanw (mK j) idx = some t) : WP j pc ls (.int x :: st) h Q = if ¬ x < 0 ∧ x.toNatClampNeg ≤ 100000 then WP j (pc + 3) ls (.ref h.2.1 :: st) (hnew h (.inl (t, x.toNatClampNeg, .inr (.inr (.inr (.inr (fun _ => none)))))) x.toNatClampNeg) Q else False := by
  have hs : zst j (.anewarray idx) pc 3 ls (.int x :: st) h = zneq j pc ls (.int x :: st) h idx := rfl
  simp only [zneq, ht] at hs
  split at hs
  · next he => rw [if_pos he]; exact wp_next hc hd hs
  · next he => rw [if_neg he]; exact wp_none hc hd hs
theorem wr_new {idx ci : Nat} {fs : List Value} {N : Nat} (hc : mC j = cc) (hd : decode cc pc = .ok (.new idx, 3)) (ht : znew (mK j) idx = some ci) (hfs : (List.range (zN ci)).map (fun k => zdef (zty ci k)) = fs) (hN : zN ci = N) : WP j pc ls st h Q = WP j (pc + 3) ls (.ref h.2.1 :: st) (hnew h (.inr (ci, fs)) N) Q := by
  subst hfs; subst hN
  have hs : zst j (.new idx) pc 3 ls st h = zneo j pc ls st h idx := rfl
  simp only [zneo, ht] at hs
  exact wp_next hc hd hs
theorem wr_obj {idx a : Nat} (hc : mC j = cc) (hd : decode cc pc = .ok (.invokespecial idx, 3)) (ho : zobj (mK j) idx = true) (hr : (Nat.ble 1 (mH j) && Nat.ble st.length 4) = true) : WP j pc ls (.ref a :: st) h Q = WP j (pc + 3) ls st h Q := by
  have hs : zst j (.invokespecial idx) pc 3 ls (.ref a :: st) h = zspec j pc ls h (.ref a :: st) idx := rfl
  simp only [zspec, ho, if_true, hr] at hs
  exact wp_next hc hd hs
theorem wp_callp {i : Instr} {c : Nat} {args rest : List Value} (hc : mC j = cc) (hd : decode cc pc = .ok (i, n)) (hs : zst j i pc n ls st h = some (.inr (.inr (c, args, rest)))) : WP j pc ls st h Q = WPm c args h (fun v h' => WP j (pc + 3) ls (zpush v rest) h' Q) := by
  rw [wp_call hc hd hs]
  congr 1
  funext v h'
  cases v <;> rfl
theorem wr_callV {idx c ci a : Nat} {as : List Value} (hc : mC j = cc) (hd : decode cc pc = .ok (.invokevirtual idx, 3)) (hm : zmth (mK j) idx = some (c, 0)) (hst : st = as.reverse ++ .ref a :: rest) (hk : mK c = ci)
    (hok : (decide (as.length = mN c) && Nat.blt (mH c) (mH j) && Nat.ble rest.length 4 && Nat.ble (zlay (.ref a :: as)).length (mL c)) = true) :
    WP j pc ls st h Q = zCk (h.1 a) ci (WPm c (.ref a :: as) h (fun v h' => WP j (pc + 3) ls (zpush v rest) h' Q)) := by
  simp only [Bool.and_eq_true, decide_eq_true_eq] at hok
  obtain ⟨⟨⟨h1, h2⟩, h3⟩, h4⟩ := hok
  have hs : zst j (.invokevirtual idx) pc 3 ls st h = zvirt j h st idx := rfl
  have hsp : zsplit st (mN c + (if Nat.ble 2 0 then 0 else 1)) = some (.ref a :: as, rest) := by
    subst hst
    exact zsplit_one h1
  have hv : zvirt j h st idx = (if (Nat.blt (mH c) (mH j) && Nat.ble rest.length 4 && Nat.ble (zlay (.ref a :: as)).length (mL c) && zchk h c (.ref a :: as) 0) = true then some (.inr (.inr (c, .ref a :: as, rest))) else none) := by
    unfold zvirt
    rw [hm]
    show zcall j h st c 0 = _
    unfold zcall
    rw [hsp]
  rw [hv, h2, h3, h4] at hs
  simp only [Bool.true_and] at hs
  unfold zCk
  split
  · next c' fs hq =>
    have e2 : zchk h c (.ref a :: as) 0 = Nat.beq c' (mK c) := by simp only [zchk, hq]
    rw [e2] at hs
    split
    · next he =>
      rw [if_pos (by rw [he, hk]; exact Nat.beq_refl _)] at hs
      exact wp_callp hc hd hs
    · next he =>
      rw [if_neg (fun z => he (by rw [← hk]; exact Nat.eq_of_beq_eq_true z))] at hs
      exact wp_none hc hd hs
  · next hq =>
    have e2 : zchk h c (.ref a :: as) 0 = false := by
      simp only [zchk]
    rw [e2, if_neg (by decide)] at hs
    exact wp_none hc hd hs
theorem wr_callI {idx c a : Nat} {as : List Value} (hc : mC j = cc) (hd : decode cc pc = .ok (.invokespecial idx, 3)) (hm : zmth (mK j) idx = some (c, 1)) (ho : zobj (mK j) idx = false) (hst : st = as.reverse ++ .ref a :: rest)
    (hok : (decide (as.length = mN c) && Nat.blt (mH c) (mH j) && Nat.ble rest.length 4 && Nat.ble (zlay (.ref a :: as)).length (mL c) && (mT c).isNone) = true) :
    WP j pc ls st h Q = WPm c (.ref a :: as) h (fun v h' => WP j (pc + 3) ls (zpush v rest) h' Q) := by
  simp only [Bool.and_eq_true, decide_eq_true_eq] at hok
  obtain ⟨⟨⟨⟨h1, h2⟩, h3⟩, h4⟩, h5⟩ := hok
  have hs : zst j (.invokespecial idx) pc 3 ls st h = zspec j pc ls h st idx := rfl
  have hsp : zsplit st (mN c + (if Nat.ble 2 1 then 0 else 1)) = some (.ref a :: as, rest) := by
    subst hst
    exact zsplit_one h1
  have hv : zspec j pc ls h st idx = (if (Nat.blt (mH c) (mH j) && Nat.ble rest.length 4 && Nat.ble (zlay (.ref a :: as)).length (mL c) && zchk h c (.ref a :: as) 1) = true then some (.inr (.inr (c, .ref a :: as, rest))) else none) := by
    unfold zspec
    rw [ho, hm]
    show zcall j h st c 1 = _
    unfold zcall
    rw [hsp]
  have e2 : zchk h c (.ref a :: as) 1 = true := by simp only [zchk]; exact h5
  rw [hv, h2, h3, h4, e2] at hs
  exact wp_callp hc hd hs
theorem wr_callS {idx c k : Nat} {as : List Value} (hc : mC j = cc) (hd : decode cc pc = .ok (.invokestatic idx, 3)) (hm : zmth (mK j) idx = some (c, k)) (hk : k = 2 ∨ k = 3) (hmax : (Nat.beq (mK j) 2 && Nat.beq idx 101) = false) (hni : Nat.beq c jX9_allows = false ∧ Nat.beq c jX9_basicValue = false) (hst : st = as.reverse ++ rest)
    (hok : (decide (as.length = mN c) && Nat.blt (mH c) (mH j) && Nat.ble rest.length 4 && Nat.ble (zlay as).length (mL c)) = true) :
    WP j pc ls st h Q = WPm c as h (fun v h' => WP j (pc + 3) ls (zpush v rest) h' Q) := by
  simp only [Bool.and_eq_true, decide_eq_true_eq] at hok
  obtain ⟨⟨⟨h1, h2⟩, h3⟩, h4⟩ := hok
  have hs : zst j (.invokestatic idx) pc 3 ls st h = zstat j pc ls h st idx := rfl
  have hkb : Nat.ble 2 k = true := by rcases hk with rfl | rfl <;> rfl
  have hsp : zsplit st (mN c + (if Nat.ble 2 k then 0 else 1)) = some (as, rest) := by
    rw [hkb]
    subst hst
    exact zsplit_none h1
  have hz : zchk h c as k = true := by rcases hk with rfl | rfl <;> rfl
  have hv : zstat j pc ls h st idx = some (.inr (.inr (c, as, rest))) := by
    unfold zstat
    rw [hmax, hm]
    simp only [hni.1, hni.2, hkb]
    show zcall j h st c k = _
    unfold zcall
    rw [hsp]
    simp only [h2, h3, h4, hz]
    rfl
  rw [hv] at hs
  exact wp_callp hc hd hs
theorem wr_max {idx : Nat} {x y : Int32} (hc : mC j = cc) (hd : decode cc pc = .ok (.invokestatic idx, 3)) (hmax : (Nat.beq (mK j) 2 && Nat.beq idx 101) = true) (hr : (Nat.ble 1 (mH j) && Nat.ble st.length 4) = true) : WP j pc ls (.int y :: .int x :: st) h Q = WP j (pc + 3) ls (.int (if x < y then y else x) :: st) h Q := by
  have hs : zst j (.invokestatic idx) pc 3 ls (.int y :: .int x :: st) h = zstat j pc ls h (.int y :: .int x :: st) idx := rfl
  simp only [zstat, hmax, if_true, hr] at hs
  exact wp_next hc hd hs
theorem wr_allows {idx k : Nat} {x y : Int32} (hc : mC j = cc) (hd : decode cc pc = .ok (.invokestatic idx, 3)) (hm : zmth (mK j) idx = some (jX9_allows, k)) (hmax : (Nat.beq (mK j) 2 && Nat.beq idx 101) = false) (hr : (Nat.ble 1 (mH j) && Nat.ble st.length 4) = true) : WP j pc ls (.int y :: .int x :: st) h Q = WP j (pc + 3) ls (.int (zallows x y) :: st) h Q := by
  have hs : zst j (.invokestatic idx) pc 3 ls (.int y :: .int x :: st) h = zstat j pc ls h (.int y :: .int x :: st) idx := rfl
  have e : Nat.beq jX9_allows jX9_allows = true := rfl
  simp only [zstat, hmax, hm, e, if_true, hr] at hs
  exact wp_next hc hd hs
theorem wr_basic {idx k : Nat} {x : Int32} (hc : mC j = cc) (hd : decode cc pc = .ok (.invokestatic idx, 3)) (hm : zmth (mK j) idx = some (jX9_basicValue, k)) (hmax : (Nat.beq (mK j) 2 && Nat.beq idx 101) = false) (hr : (Nat.ble 1 (mH j) && Nat.ble st.length 4) = true) : WP j pc ls (.int x :: st) h Q = WP j (pc + 3) ls (.int (zbasicV x) :: st) h Q := by
  have hs : zst j (.invokestatic idx) pc 3 ls (.int x :: st) h = zstat j pc ls h (.int x :: st) idx := rfl
  have e : Nat.beq jX9_basicValue jX9_allows = false := rfl
  have e2 : Nat.beq jX9_basicValue jX9_basicValue = true := rfl
  simp only [zstat, hmax, hm, e, e2, if_true, hr] at hs
  exact wp_next hc hd hs
theorem wr_iret {v : Int32} (hc : mC j = cc) (hd : decode cc pc = .ok (.ireturn, 1)) (hT : mT j = some .int) : WP j pc ls [.int v] h Q = Q (some (.int v)) h := wp_stop hc hd (show zret j [.int v] 0 = _ by simp only [zret, hT])
theorem wr_zret {v : Int32} (hc : mC j = cc) (hd : decode cc pc = .ok (.ireturn, 1)) (hT : mT j = some .boolean) : WP j pc ls [.int v] h Q = if v = nI 0 ∨ v = nI 1 then Q (some (.int v)) h else False := by
  split
  · next hv => exact wp_stop hc hd (show zret j [.int v] 0 = _ by simp only [zret, hT]; exact if_pos hv)
  · next hv => exact wp_none hc hd (show zret j [.int v] 0 = _ by simp only [zret, hT]; exact if_neg hv)
theorem wr_lret {v : Int64} (hc : mC j = cc) (hd : decode cc pc = .ok (.lreturn, 1)) (hT : mT j = some .long) : WP j pc ls [.long v] h Q = Q (some (.long v)) h := wp_stop hc hd (show zret j [.long v] 1 = _ by simp only [zret, hT])
theorem wr_fret {v : UInt32} (hc : mC j = cc) (hd : decode cc pc = .ok (.freturn, 1)) (hT : mT j = some .float) : WP j pc ls [.float v] h Q = Q (some (.float v)) h := wp_stop hc hd (show zret j [.float v] 2 = _ by simp only [zret, hT])
theorem wr_aret {v : Nat} {C : String} (hc : mC j = cc) (hd : decode cc pc = .ok (.areturn, 1)) (hT : mT j = some (.object C)) : WP j pc ls [.ref v] h Q = Q (some (.ref v)) h := wp_stop hc hd (show zret j [.ref v] 3 = _ by simp only [zret, hT])
theorem wr_aretN {C : String} (hc : mC j = cc) (hd : decode cc pc = .ok (.areturn, 1)) (hT : mT j = some (.object C)) : WP j pc ls [.null] h Q = Q (some .null) h := wp_stop hc hd (show zret j [.null] 3 = _ by simp only [zret, hT])
theorem wr_ret (hc : mC j = cc) (hd : decode cc pc = .ok (.return_, 1)) (hT : mT j = none) : WP j pc ls [] h Q = Q none h := wp_stop hc hd (show zret j [] 4 = _ by simp only [zret, hT])
end WR
