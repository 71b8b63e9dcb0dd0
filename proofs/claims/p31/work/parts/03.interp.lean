/-! THE STEPPER: a machine of its own over pure states: method number j, place pc, locals, operand stack, cells. Part 04 shows that what it does, the Java machine does. -/
abbrev Hp : Type := (Nat → Option va_E) × Nat × Nat
abbrev Ls : Type := List (Option Value)
def hset (h : Hp) (a : Nat) (e : va_E) : Hp := (fun q => if q = a then some e else h.1 q, h.2)
def hnew (h : Hp) (e : va_E) (k : Nat) : Hp := (fun q => if q = h.2.1 then some e else h.1 q, h.2.1 + 1, h.2.2 + k)
abbrev SR : Type := Option ((Nat × Ls × List Value × Hp) ⊕ (Option Value ⊕ (Nat × List Value × List Value)))
def sN (pc : Nat) (ls : Ls) (st : List Value) (h : Hp) : SR := some (.inl (pc, ls, st, h))
/-- a long (or double) stands just ahead of place i -/
def zl2 (ls : Ls) : Nat → Bool
  | 0 => false
  | i + 1 => match ls[i]? with
    | some (some (.long _)) => true
    | some (some (.double _)) => true
    | _ => false
def zldi (pc : Nat) (ls : Ls) (st : List Value) (h : Hp) (k : Nat) : SR := match ls[k]? with
  | some (some (.int x)) => sN pc ls (.int x :: st) h
  | _ => none
def zldl (pc : Nat) (ls : Ls) (st : List Value) (h : Hp) (k : Nat) : SR := match ls[k]? with
  | some (some (.long x)) => sN pc ls (.long x :: st) h
  | _ => none
def zldf (pc : Nat) (ls : Ls) (st : List Value) (h : Hp) (k : Nat) : SR := match ls[k]? with
  | some (some (.float x)) => sN pc ls (.float x :: st) h
  | _ => none
def zstf (pc : Nat) (ls : Ls) (st : List Value) (h : Hp) (k : Nat) : SR := match st with
  | .float x :: r => if k < ls.length ∧ zl2 ls k = false then sN pc (ls.set k (some (.float x))) r h else none
  | _ => none
def zlda (pc : Nat) (ls : Ls) (st : List Value) (h : Hp) (k : Nat) : SR := match ls[k]? with
  | some (some (.ref x)) => sN pc ls (.ref x :: st) h
  | some (some .null) => sN pc ls (.null :: st) h
  | _ => none
def zsti (pc : Nat) (ls : Ls) (st : List Value) (h : Hp) (k : Nat) : SR := match st with
  | .int x :: r => if k < ls.length ∧ zl2 ls k = false then sN pc (ls.set k (some (.int x))) r h else none
  | _ => none
def zsta (pc : Nat) (ls : Ls) (st : List Value) (h : Hp) (k : Nat) : SR := match st with
  | .ref x :: r => if k < ls.length ∧ zl2 ls k = false then sN pc (ls.set k (some (.ref x))) r h else none
  | .null :: r => if k < ls.length ∧ zl2 ls k = false then sN pc (ls.set k (some .null)) r h else none
  | _ => none
def zstl (pc : Nat) (ls : Ls) (st : List Value) (h : Hp) (k : Nat) : SR := match st with
  | .long x :: r => if k + 1 < ls.length ∧ zl2 ls k = false then sN pc ((ls.set k (some (.long x))).set (k + 1) none) r h else none
  | _ => none
def zinc (pc : Nat) (ls : Ls) (st : List Value) (h : Hp) (k : Nat) (n : Int) : SR := match ls[k]? with
  | some (some (.int x)) => if zl2 ls k = false then sN pc (ls.set k (some (.int (x + Int32.ofInt n)))) st h else none
  | _ => none
def zb2 (pc : Nat) (ls : Ls) (st : List Value) (h : Hp) (f : Int32 → Int32 → Int32) : SR := match st with
  | .int y :: .int x :: r => sN pc ls (.int (f x y) :: r) h
  | _ => none
def zbl (pc : Nat) (ls : Ls) (st : List Value) (h : Hp) (f : Int64 → Int64 → Int64) : SR := match st with
  | .long y :: .long x :: r => sN pc ls (.long (f x y) :: r) h
  | _ => none
def zbd (pc : Nat) (ls : Ls) (st : List Value) (h : Hp) (f : Int32 → Int32 → Int32) : SR := match st with
  | .int y :: .int x :: r => if y = 0 then none else sN pc ls (.int (f x y) :: r) h
  | _ => none
def zc (c : ClassFile.Cond) (x y : Int32) : Bool := match c with
  | .eq => decide (x = y)
  | .ne => decide (¬ x = y)
  | .lt => decide (x < y)
  | .ge => decide (y ≤ x)
  | .gt => decide (y < x)
  | .le => decide (x ≤ y)
/-- to a branch's target -/
def zto (pc : Nat) (off : Int) (ls : Ls) (st : List Value) (h : Hp) : SR := if 0 ≤ (pc : Int) + off then sN ((pc : Int) + off).toNat ls st h else none
def zbr (pc : Nat) (off : Int) (b : Bool) (ls : Ls) (st : List Value) (h : Hp) : SR := if 0 ≤ (pc : Int) + off then sN (if b then ((pc : Int) + off).toNat else pc + 3) ls st h else none
def zone (v : Value) : Bool := match v with
  | .long _ => false
  | .double _ => false
  | _ => true
def zokf : FieldType → Value → Bool
  | .int, .int _ => true
  | .object _, .ref _ => true
  | .object _, .null => true
  | .array _, .ref _ => true
  | .array _, .null => true
  | _, _ => false
def zsplit (st : List Value) (n : Nat) : Option (List Value × List Value) := if n ≤ st.length then some ((st.take n).reverse, st.drop n) else none
def zlay : List Value → Ls
  | [] => []
  | v :: vs => if v.category = 2 then some v :: none :: zlay vs else some v :: zlay vs
def zent (j : Nat) (args : List Value) : Ls := zlay args ++ List.replicate (mL j - (zlay args).length) none
/-- 0: virtual, 1: constructor, 2: static, 3: static of a nest mate -/
def zchk (h : Hp) (c : Nat) (args : List Value) : Nat → Bool
  | 0 => match args with
    | .ref a :: _ => match h.1 a with
      | some (.inr (ci, _)) => Nat.beq ci (mK c)
      | _ => false
    | _ => false
  | 1 => match args with
    | .ref _ :: _ => (mT c).isNone
    | _ => false
  | _ => true
def zcall (j : Nat) (h : Hp) (st : List Value) (c k : Nat) : SR :=
  match zsplit st (mN c + (if Nat.ble 2 k then 0 else 1)) with
  | some (args, rest) => if (Nat.blt (mH c) (mH j) && Nat.ble rest.length 4 && Nat.ble (zlay args).length (mL c) && zchk h c args k) = true then some (.inr (.inr (c, args, rest))) else none
  | none => none
def zbasic : List Int32 := [20, 7, 1, 0, 0, 10]
def zleast : List Int32 := [1, 0, 0, 0, 0, 0]
def zgreat : List Int32 := [99, 7, 7, 1, 2, 200]
/-- SubtitleStyles.allows and basicValue, which read the class's static arrays -/
def zallows (p v : Int32) : Int32 := if 0 ≤ p ∧ p < 6 ∧ zleast.getD p.toNatClampNeg 0 ≤ v ∧ v ≤ zgreat.getD p.toNatClampNeg 0 then 1 else 0
def zbasicV (p : Int32) : Int32 := if 0 ≤ p ∧ p < 6 then zbasic.getD p.toNatClampNeg 0 else 0
def zstat (j : Nat) (pc : Nat) (ls : Ls) (h : Hp) (st : List Value) (idx : Nat) : SR :=
  if Nat.beq (mK j) 2 && Nat.beq idx 101 then
    match st with
    | .int y :: .int x :: r => if (Nat.ble 1 (mH j) && Nat.ble r.length 4) = true then sN (pc + 3) ls (.int (if x < y then y else x) :: r) h else none
    | _ => none
  else match zmth (mK j) idx with
    | some (c, k) =>
      if Nat.beq c jX9_allows then
        match st with
        | .int y :: .int x :: r => if (Nat.ble 1 (mH j) && Nat.ble r.length 4) = true then sN (pc + 3) ls (.int (zallows x y) :: r) h else none
        | _ => none
      else if Nat.beq c jX9_basicValue then
        match st with
        | .int x :: r => if (Nat.ble 1 (mH j) && Nat.ble r.length 4) = true then sN (pc + 3) ls (.int (zbasicV x) :: r) h else none
        | _ => none
      else if Nat.ble 2 k then zcall j h st c k else none
    | none => none
def zspec (j : Nat) (pc : Nat) (ls : Ls) (h : Hp) (st : List Value) (idx : Nat) : SR :=
  if zobj (mK j) idx then
    match st with
    | .ref _ :: r => if (Nat.ble 1 (mH j) && Nat.ble r.length 4) = true then sN (pc + 3) ls r h else none
    | _ => none
  else match zmth (mK j) idx with
    | some (c, k) => if Nat.beq k 1 then zcall j h st c 1 else none
    | none => none
def zvirt (j : Nat) (h : Hp) (st : List Value) (idx : Nat) : SR := match zmth (mK j) idx with
  | some (c, k) => if Nat.beq k 0 then zcall j h st c 0 else none
  | none => none
def zgetf (j pc : Nat) (ls : Ls) (st : List Value) (h : Hp) (idx : Nat) : SR := match st with
  | .ref a :: r => match zfld (mK j) idx with
    | some (ci, k) => match h.1 a with
      | some (.inr (c, fs)) => if c = ci then match fs[k]? with
          | some v => sN (pc + 3) ls (v :: r) h
          | none => none
        else none
      | _ => none
    | none => none
  | _ => none
def zputf (j pc : Nat) (ls : Ls) (st : List Value) (h : Hp) (idx : Nat) : SR := match st with
  | v :: .ref a :: r => match zfld (mK j) idx with
    | some (ci, k) => match h.1 a with
      | some (.inr (c, fs)) => if c = ci ∧ k < fs.length ∧ zokf (zty ci k) v = true ∧ ((zT ci k).2.2.2 = true → (mY j).name = "<init>" ∧ mK j = ci) then sN (pc + 3) ls r (hset h a (.inr (ci, fs.set k v))) else none
      | _ => none
    | none => none
  | _ => none
/-- an index within -/
abbrev zin (i : Int32) (n : Nat) : Prop := ¬ (i < 0 ∨ n ≤ i.toNatClampNeg)
def zald (pc : Nat) (ls : Ls) (st : List Value) (h : Hp) (t : Nat) : SR := match st with
  | .int i :: .ref a :: r => match h.1 a with
    | some (.inl (t', n, .inl f)) => if (t' = t ∨ t' = 1) ∧ zin i n then sN (pc + 1) ls (.int (f i.toNatClampNeg) :: r) h else none
    | _ => none
  | _ => none
def zast (pc : Nat) (ls : Ls) (st : List Value) (h : Hp) (t : Nat) : SR := match st with
  | .int x :: .int i :: .ref a :: r => match h.1 a with
    | some (.inl (t', n, .inl f)) => if t' = t ∧ zin i n then sN (pc + 1) ls r (hset h a (.inl (t', n, .inl (upd f i.toNatClampNeg (if t = 1 then x &&& 1 else x))))) else none
    | _ => none
  | _ => none
def zalq (pc : Nat) (ls : Ls) (st : List Value) (h : Hp) : SR := match st with
  | .int i :: .ref a :: r => match h.1 a with
    | some (.inl (t, n, .inr (.inr (.inr (.inr f))))) => if (2 ≤ t ∧ t ≤ 4) ∧ zin i n then sN (pc + 1) ls (va_rf (f i.toNatClampNeg) :: r) h else none
    | _ => none
  | _ => none
/-- the class of the object at an address -/
def zcls (h : Hp) (a : Nat) : Option Nat := match h.1 a with
  | some (.inr (c, _)) => some c
  | _ => none
def zasq (pc : Nat) (ls : Ls) (st : List Value) (h : Hp) : SR := match st with
  | .ref v :: .int i :: .ref a :: r => match h.1 a with
    | some (.inl (t, n, .inr (.inr (.inr (.inr f))))) => if ((2 ≤ t ∧ t ≤ 4) ∧ zin i n) ∧ zcls h v = some (ztc t) then sN (pc + 1) ls r (hset h a (.inl (t, n, .inr (.inr (.inr (.inr (va_up f i.toNatClampNeg (some v)))))))) else none
    | _ => none
  | .null :: .int i :: .ref a :: r => match h.1 a with
    | some (.inl (t, n, .inr (.inr (.inr (.inr f))))) => if (2 ≤ t ∧ t ≤ 4) ∧ zin i n then sN (pc + 1) ls r (hset h a (.inl (t, n, .inr (.inr (.inr (.inr (va_up f i.toNatClampNeg none))))))) else none
    | _ => none
  | _ => none
def zlen (e : Option va_E) : Option Nat := match e with
  | some (.inl (t, n, .inl _)) => if t ≤ 1 then some n else none
  | some (.inl (t, n, .inr (.inr (.inr (.inr _))))) => if 2 ≤ t ∧ t ≤ 4 then some n else none
  | _ => none
def zaln (pc : Nat) (ls : Ls) (st : List Value) (h : Hp) : SR := match st with
  | .ref a :: r => match zlen (h.1 a) with
    | some n => sN (pc + 1) ls (.int (Int32.ofNat n) :: r) h
    | none => none
  | _ => none
def znea (pc : Nat) (ls : Ls) (st : List Value) (h : Hp) (ty : ArrayType) : SR := match st with
  | .int n :: r => if ¬ n < 0 ∧ n.toNatClampNeg ≤ 100000 then
      match ty with
      | .int => sN (pc + 2) ls (.ref h.2.1 :: r) (hnew h (.inl (0, n.toNatClampNeg, .inl (fun _ => 0))) n.toNatClampNeg)
      | _ => none
    else none
  | _ => none
def zneq (j pc : Nat) (ls : Ls) (st : List Value) (h : Hp) (idx : Nat) : SR := match st with
  | .int n :: r => if ¬ n < 0 ∧ n.toNatClampNeg ≤ 100000 then
      match zanw (mK j) idx with
      | some t => sN (pc + 3) ls (.ref h.2.1 :: r) (hnew h (.inl (t, n.toNatClampNeg, .inr (.inr (.inr (.inr (fun _ => none)))))) n.toNatClampNeg)
      | none => none
    else none
  | _ => none
def zdef : FieldType → Value
  | .int => .int 0
  | _ => .null
def zneo (j pc : Nat) (ls : Ls) (st : List Value) (h : Hp) (idx : Nat) : SR := match znew (mK j) idx with
  | some ci => sN (pc + 3) ls (.ref h.2.1 :: st) (hnew h (.inr (ci, (List.range (zN ci)).map (fun k => zdef (zty ci k)))) (zN ci))
  | none => none
def zret (j : Nat) (st : List Value) (i : Nat) : SR := match i, st with
  | 0, [.int v] => match mT j with
    | some .int => some (.inr (.inl (some (.int v))))
    | some .boolean => if v = 0 ∨ v = 1 then some (.inr (.inl (some (.int v)))) else none
    | _ => none
  | 1, [.long v] => match mT j with
    | some .long => some (.inr (.inl (some (.long v))))
    | _ => none
  | 2, [.float v] => match mT j with
    | some .float => some (.inr (.inl (some (.float v))))
    | _ => none
  | 3, [.ref v] => match mT j with
    | some (.object _) => some (.inr (.inl (some (.ref v))))
    | _ => none
  | 3, [.null] => match mT j with
    | some (.object _) => some (.inr (.inl (some .null)))
    | _ => none
  | 4, [] => match mT j with
    | none => some (.inr (.inl none))
    | _ => none
  | _, _ => none
def ztsw (pc : Nat) (ls : Ls) (st : List Value) (h : Hp) (dflt lo hi : Int) (offs : Array Int) : SR := match st with
  | .int x :: r => if x.toInt < lo ∨ hi < x.toInt then zto pc dflt ls r h else match offs[(x.toInt - lo).toNat]? with
      | some off => zto pc off ls r h
      | none => none
  | _ => none
def zlsw (pc : Nat) (ls : Ls) (st : List Value) (h : Hp) (dflt : Int) (ps : Array (Int × Int)) : SR := match st with
  | .int x :: r => if (ps.toList.zip (ps.toList.drop 1)).all (fun (a, next) => a.1 < next.1) = true then zto pc (Op.lookupswitch.offset ps.toList dflt x.toInt) ls r h else none
  | _ => none
def zs (j : Nat) (i : Instr) (pc n : Nat) (ls : Ls) (st : List Value) (h : Hp) : SR := match i with
  | .aconst_null => sN (pc + 1) ls (.null :: st) h
  | .iconst x => sN (pc + 1) ls (.int (Int32.ofInt x) :: st) h
  | .bipush x => sN (pc + 2) ls (.int (Int8.ofInt x).toInt32 :: st) h
  | .sipush x => sN (pc + 3) ls (.int (Int16.ofInt x).toInt32 :: st) h
  | .fconst f => if f = 0 then sN (pc + 1) ls (.float FP.fconst0 :: st) h else none
  | .ldc idx => match zcst (mK j) idx with
    | some v => sN (pc + 2) ls (.int v :: st) h
    | none => none
  | .ldc2_w idx => match zcsl (mK j) idx with
    | some v => sN (pc + 3) ls (.long v :: st) h
    | none => none
  | .iload k => zldi (pc + 2) ls st h k
  | .iload_n k => zldi (pc + 1) ls st h k
  | .lload k => zldl (pc + 2) ls st h k
  | .lload_n k => zldl (pc + 1) ls st h k
  | .aload k => zlda (pc + 2) ls st h k
  | .aload_n k => zlda (pc + 1) ls st h k
  | .istore k => zsti (pc + 2) ls st h k
  | .istore_n k => zsti (pc + 1) ls st h k
  | .astore k => zsta (pc + 2) ls st h k
  | .astore_n k => zsta (pc + 1) ls st h k
  | .lstore k => zstl (pc + 2) ls st h k
  | .lstore_n k => zstl (pc + 1) ls st h k
  | .iinc k c => zinc (pc + 3) ls st h k c
  | .iadd => zb2 (pc + 1) ls st h (fun x y => x + y)
  | .isub => zb2 (pc + 1) ls st h (fun x y => x - y)
  | .imul => zb2 (pc + 1) ls st h (fun x y => x * y)
  | .idiv => zbd (pc + 1) ls st h (fun x y => x / y)
  | .iand => zb2 (pc + 1) ls st h (fun x y => x &&& y)
  | .ishr => zb2 (pc + 1) ls st h (fun x y => x >>> (y &&& 31))
  | .lcmp => match st with
    | .long y :: .long x :: r => sN (pc + 1) ls (.int (lg_cmp x y) :: r) h
    | _ => none
  | .fcmp op => match st with
    | .float y :: .float x :: r => sN (pc + 1) ls (.int (Op.cmpValue (FP.fcmp x y) op) :: r) h
    | _ => none
  | .fload k => zldf (pc + 2) ls st h k
  | .fstore k => zstf (pc + 2) ls st h k
  | .irem => zbd (pc + 1) ls st h (fun x y => x - x / y * y)
  | .ladd => zbl (pc + 1) ls st h (fun x y => x + y)
  | .lmul => zbl (pc + 1) ls st h (fun x y => x * y)
  | .i2l => match st with
    | .int x :: r => sN (pc + 1) ls (.long x.toInt64 :: r) h
    | _ => none
  | .i2f => match st with
    | .int x :: r => sN (pc + 1) ls (.float (FP.i2f x) :: r) h
    | _ => none
  | .fdiv => match st with
    | .float y :: .float x :: r => if FP.fdiv x y &&& 0x7fffffff ≤ 0x7f800000 then sN (pc + 1) ls (.float (FP.fdiv x y) :: r) h else none
    | _ => none
  | .dup => match st with
    | v :: r => if zone v then sN (pc + 1) ls (v :: v :: r) h else none
    | _ => none
  | .dup2 => match st with
    | v :: w :: r => if (zone v && zone w) = true then sN (pc + 1) ls (v :: w :: v :: w :: r) h else none
    | _ => none
  | .pop => match st with
    | v :: r => if zone v then sN (pc + 1) ls r h else none
    | _ => none
  | .goto off => zto pc off ls st h
  | .ifCond c off => match st with
    | .int x :: r => zbr pc off (zc c x 0) ls r h
    | _ => none
  | .if_icmp c off => match st with
    | .int y :: .int x :: r => zbr pc off (zc c x y) ls r h
    | _ => none
  | .ifnull off => match st with
    | .null :: r => zto pc off ls r h
    | .ref _ :: r => sN (pc + 3) ls r h
    | _ => none
  | .ifnonnull off => match st with
    | .ref _ :: r => zto pc off ls r h
    | .null :: r => sN (pc + 3) ls r h
    | _ => none
  | .tableswitch dflt lo hi offs => ztsw pc ls st h dflt lo hi offs
  | .lookupswitch dflt ps => zlsw pc ls st h dflt ps
  | .getfield idx => zgetf j pc ls st h idx
  | .putfield idx => zputf j pc ls st h idx
  | .iaload => zald pc ls st h 0
  | .iastore => zast pc ls st h 0
  | .aaload => zalq pc ls st h
  | .aastore => zasq pc ls st h
  | .arraylength => zaln pc ls st h
  | .newarray ty => znea pc ls st h ty
  | .anewarray idx => zneq j pc ls st h idx
  | .new idx => zneo j pc ls st h idx
  | .invokevirtual idx => zvirt j h st idx
  | .invokespecial idx => zspec j pc ls h st idx
  | .invokestatic idx => zstat j pc ls h st idx
  | .ireturn => zret j st 0
  | .lreturn => zret j st 1
  | .freturn => zret j st 2
  | .areturn => zret j st 3
  | .return_ => zret j st 4
  | _ => none
/-- how long the instructions are that the stepper knows -/
def zsz (i : Instr) (n : Nat) : Nat := match i with
  | .bipush _ => 2
  | .sipush _ => 3
  | .ldc _ => 2
  | .ldc2_w _ => 3
  | .iload _ => 2
  | .lload _ => 2
  | .fload _ => 2
  | .fstore _ => 2
  | .aload _ => 2
  | .istore _ => 2
  | .astore _ => 2
  | .lstore _ => 2
  | .iinc _ _ => 3
  | .goto _ => 3
  | .ifCond _ _ => 3
  | .if_icmp _ _ => 3
  | .ifnull _ => 3
  | .ifnonnull _ => 3
  | .tableswitch _ _ _ _ => n
  | .lookupswitch _ _ => n
  | .getfield _ => 3
  | .putfield _ => 3
  | .newarray _ => 2
  | .anewarray _ => 3
  | .new _ => 3
  | .invokevirtual _ => 3
  | .invokespecial _ => 3
  | .invokestatic _ => 3
  | _ => 1
/-- one step, of an instruction of the right length -/
def zst (j : Nat) (i : Instr) (pc n : Nat) (ls : Ls) (st : List Value) (h : Hp) : SR := if Nat.beq (zsz i n) n then zs j i pc n ls st h else none
def zgo : Nat → Nat → Nat → Ls → List Value → Hp → Option (Option Value × Hp)
  | 0, _, _, _, _, _ => none
  | k + 1, j, pc, ls, st, h => match decode (mC j) pc with
    | .ok (i, n) => match zst j i pc n ls st h with
      | some (.inl (pc', ls', st', h')) => zgo k j pc' ls' st' h'
      | some (.inr (.inl v)) => some (v, h)
      | some (.inr (.inr (c, args, rest))) => match zgo k c 0 (zent c args) [] h with
        | some (v, h') => zgo k j (pc + 3) ls (v.toList ++ rest) h'
        | none => none
      | none => none
    | .error _ => none
/-- more steps do no harm -/
theorem zgo_mono1 : ∀ (k j pc : Nat) (ls : Ls) (st : List Value) (h : Hp) (r : Option Value × Hp), zgo k j pc ls st h = some r → zgo (k + 1) j pc ls st h = some r := by
  intro k
  induction k with
  | zero => intro j pc ls st h r hz; simp [zgo] at hz
  | succ k ih =>
    intro j pc ls st h r hz
    rw [zgo] at hz ⊢
    cases hd : decode (mC j) pc with
    | error e => rw [hd] at hz; simp at hz
    | ok q =>
      obtain ⟨i, n⟩ := q
      rw [hd] at hz
      simp only at hz ⊢
      cases hs : zst j i pc n ls st h with
      | none => rw [hs] at hz; simp at hz
      | some x =>
        rw [hs] at hz
        obtain ⟨pc', ls', st', h'⟩ | v | ⟨c, args, rest⟩ := x
        · exact ih _ _ _ _ _ _ hz
        · exact hz
        · simp only at hz ⊢
          cases hc : zgo k c 0 (zent c args) [] h with
          | none => rw [hc] at hz; simp at hz
          | some y =>
            obtain ⟨v, h'⟩ := y
            rw [hc] at hz
            rw [ih _ _ _ _ _ _ hc]
            exact ih _ _ _ _ _ _ hz
theorem zgo_mono {k k' j pc : Nat} {ls : Ls} {st : List Value} {h : Hp} {r : Option Value × Hp} (hk : k ≤ k') (hz : zgo k j pc ls st h = some r) : zgo k' j pc ls st h = some r := by
  obtain ⟨d, rfl⟩ := Nat.le.dest hk
  induction d with
  | zero => exact hz
  | succ d ih => exact zgo_mono1 _ _ _ _ _ _ _ (ih (Nat.le_add_right _ _))
/-- from this place the stepper comes to the method's end, with an answer and cells of which Q holds -/
def WP (j pc : Nat) (ls : Ls) (st : List Value) (h : Hp) (Q : Option Value → Hp → Prop) : Prop := ∃ k r, zgo k j pc ls st h = some r ∧ Q r.1 r.2
def WPm (j : Nat) (args : List Value) (h : Hp) (Q : Option Value → Hp → Prop) : Prop := WP j 0 (zent j args) [] h Q
theorem wp_next {j pc n : Nat} {cc : ByteArray} {i : Instr} {ls ls' : Ls} {st st' : List Value} {h h' : Hp} {Q : Option Value → Hp → Prop} {pc' : Nat} (hc : mC j = cc) (hd : decode cc pc = .ok (i, n)) (hs : zst j i pc n ls st h = some (.inl (pc', ls', st', h'))) : WP j pc ls st h Q = WP j pc' ls' st' h' Q := by
  subst hc
  refine propext ⟨?_, ?_⟩
  · rintro ⟨k, r, hz, hq⟩
    cases k with
    | zero => simp [zgo] at hz
    | succ k =>
      rw [zgo, hd] at hz
      simp only [hs] at hz
      exact ⟨k, r, hz, hq⟩
  · rintro ⟨k, r, hz, hq⟩
    refine ⟨k + 1, r, ?_, hq⟩
    rw [zgo, hd]
    simp only [hs]
    exact hz
theorem wp_stop {j pc n : Nat} {cc : ByteArray} {i : Instr} {ls : Ls} {st : List Value} {h : Hp} {Q : Option Value → Hp → Prop} {v : Option Value} (hc : mC j = cc) (hd : decode cc pc = .ok (i, n)) (hs : zst j i pc n ls st h = some (.inr (.inl v))) : WP j pc ls st h Q = Q v h := by
  subst hc
  refine propext ⟨?_, ?_⟩
  · rintro ⟨k, r, hz, hq⟩
    cases k with
    | zero => simp [zgo] at hz
    | succ k =>
      rw [zgo, hd] at hz
      simp only [hs] at hz
      cases hz
      exact hq
  · intro hq
    refine ⟨1, (v, h), ?_, hq⟩
    rw [zgo, hd]
    simp only [hs]
theorem wp_call {j pc n : Nat} {cc : ByteArray} {i : Instr} {ls : Ls} {st : List Value} {h : Hp} {Q : Option Value → Hp → Prop} {c : Nat} {args rest : List Value} (hc : mC j = cc) (hd : decode cc pc = .ok (i, n)) (hs : zst j i pc n ls st h = some (.inr (.inr (c, args, rest)))) : WP j pc ls st h Q = WPm c args h (fun v h' => WP j (pc + 3) ls (v.toList ++ rest) h' Q) := by
  subst hc
  refine propext ⟨?_, ?_⟩
  · rintro ⟨k, r, hz, hq⟩
    cases k with
    | zero => simp [zgo] at hz
    | succ k =>
      rw [zgo, hd] at hz
      simp only [hs] at hz
      cases hz1 : zgo k c 0 (zent c args) [] h with
      | none => rw [hz1] at hz; simp at hz
      | some y =>
        obtain ⟨v, h'⟩ := y
        rw [hz1] at hz
        exact ⟨k, (v, h'), hz1, k, r, hz, hq⟩
  · rintro ⟨k1, ⟨v, h'⟩, hz1, k2, r, hz, hq⟩
    refine ⟨k1 + k2 + 1, r, ?_, hq⟩
    rw [zgo, hd]
    simp only [hs]
    rw [zgo_mono (Nat.le_add_right k1 k2) hz1]
    exact zgo_mono (Nat.le_add_left k2 k1) hz
theorem wp_none {j pc n : Nat} {cc : ByteArray} {i : Instr} {ls : Ls} {st : List Value} {h : Hp} {Q : Option Value → Hp → Prop} (hc : mC j = cc) (hd : decode cc pc = .ok (i, n)) (hs : zst j i pc n ls st h = none) : WP j pc ls st h Q = False := by
  subst hc
  refine propext ⟨?_, False.elim⟩
  rintro ⟨k, r, hz, hq⟩
  cases k with
  | zero => simp [zgo] at hz
  | succ k =>
    rw [zgo, hd] at hz
    simp only [hs] at hz
    cases hz
theorem WP.imp {j pc : Nat} {ls : Ls} {st : List Value} {h : Hp} {Q Q' : Option Value → Hp → Prop} (hw : WP j pc ls st h Q) (hq : ∀ v h', Q v h' → Q' v h') : WP j pc ls st h Q' := by
  obtain ⟨k, r, hz, q⟩ := hw
  exact ⟨k, r, hz, hq _ _ q⟩
theorem WPm.imp {j : Nat} {args : List Value} {h : Hp} {Q Q' : Option Value → Hp → Prop} (hw : WPm j args h Q) (hq : ∀ v h', Q v h' → Q' v h') : WPm j args h Q' := WP.imp hw hq
/-- what holds of one answer is what the method does -/
theorem WPm.eq {j : Nat} {args : List Value} {h : Hp} {v : Option Value} {h' : Hp} (hw : WPm j args h (fun r g => r = v ∧ g = h')) (Q : Option Value → Hp → Prop) : WPm j args h Q = Q v h' := by
  refine propext ⟨?_, fun hq => hw.imp (fun r g hr => by rw [hr.1, hr.2]; exact hq)⟩
  rintro ⟨k, r, hz, q⟩
  obtain ⟨k2, r2, hz2, e1, e2⟩ := hw
  have h1 := zgo_mono (Nat.le_add_right k k2) hz
  have h2 := zgo_mono (Nat.le_add_left k2 k) hz2
  rw [h1] at h2
  cases h2
  rw [e1, e2] at q
  exact q
