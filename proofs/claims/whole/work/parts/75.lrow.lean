/-! the law: its pool -/
def qCl : List (Nat × Nat × Nat × List Nat) := [(9, 70, 1, [62, 48, 63]), (12, 107, 1, [781, 56, 782]), (13, 71, 0, [284, 48, 285, 286]), (17, 116, 0, [850, 56, 851, 852]), (18, 72, 0, [405, 48, 406, 407]), (22, 117, 0, [872, 56, 873, 874]), (23, 73, 0, [416, 48, 417, 418]), (27, 118, 0, [880, 56, 881, 882]), (28, 74, 0, [432, 48, 433, 434]), (32, 119, 0, [887, 56, 888, 889]), (33, 75, 0, [448, 48, 449, 450]), (36, 123, 0, [894, 56, 895, 896]), (37, 76, 0, [457, 48, 458, 459]), (40, 125, 0, [913, 56, 914, 915]), (41, 77, 0, [465, 48, 466, 467]), (44, 126, 0, [921, 56, 922, 923]), (45, 78, 0, [470, 48, 471, 472]), (48, 127, 0, [925, 56, 926, 927]), (49, 79, 0, [475, 48, 476, 477]), (52, 128, 0, [929, 56, 930, 931]), (53, 80, 0, [479, 48, 480, 481]), (56, 129, 0, [933, 56, 934, 935]), (57, 81, 0, [483, 48, 484, 485]), (60, 130, 0, [937, 56, 938, 939]), (61, 82, 0, [487, 48, 488, 489]), (64, 138, 0, [941, 56, 942, 943]), (65, 83, 0, [587, 48, 588, 589]), (68, 139, 0, [966, 56, 967, 968]), (69, 84, 0, [596, 48, 597, 598]), (72, 140, 0, [974, 56, 975, 976]), (73, 86, 0, [615, 48, 616, 617]), (76, 141, 0, [978, 56, 979, 980]), (77, 87, 0, [624, 48, 625, 626]), (80, 142, 0, [983, 56, 984, 985]), (81, 88, 0, [628, 48, 629, 630]), (84, 154, 0, [987, 56, 988, 989]), (85, 89, 0, [633, 48, 634, 635]), (88, 155, 0, [1035, 56, 1036, 1037]), (89, 90, 0, [637, 48, 638, 639]), (92, 156, 0, [1039, 56, 1040, 1041]), (93, 91, 0, [649, 48, 650, 651]), (96, 159, 0, [1043, 56, 1044, 1045]), (97, 92, 0, [661, 48, 662, 663]), (100, 160, 0, [1055, 56, 1056, 1057]), (101, 93, 0, [677, 48, 678, 679]), (104, 162, 0, [1059, 56, 1060, 1061]), (105, 94, 0, [691, 48, 692, 693]), (108, 164, 0, [1067, 56, 1068, 1069]), (109, 95, 0, [713, 48, 714, 715]), (112, 166, 0, [1075, 56, 1076, 1077]), (113, 96, 0, [722, 48, 723, 724]), (117, 167, 0, [1083, 56, 1084, 1085]), (118, 97, 0, [731, 48, 732, 733]), (121, 169, 0, [1087, 56, 1088, 1089]), (122, 98, 0, [745, 48, 746, 747]), (125, 170, 0, [1095, 56, 1096, 1097]), (126, 99, 0, [753, 48, 754, 755]), (130, 171, 0, [1099, 56, 1100, 1101])]
def qCw (idx j : Nat) : Nat → List Cond
  | 0 => [.methodLink R_law idx (mY j), .initialized (mY j).cls, .instanceMethod (mY j), .selects (zR (mK j)) (mY j) (mY j)]
  | _ => [.methodLink R_law idx (mY j), .initialized (mY j).cls, .instanceMethod (mY j)]
theorem qCl_ok : qCl.all (fun q => decide (q.2.2.2.map (fun i => lw_tbl[i]?) = (qCw q.1 q.2.1 q.2.2.1).map some) && Nat.blt q.2.1 172 && (Nat.beq q.2.2.1 1 == decide ((mY q.2.1).name = "<init>")) && Nat.ble (mH q.2.1) 8) = true := by decide +kernel
def qNw : List (Nat × Nat × List Nat) := [(7, 9, [60, 61, 48]), (10, 10, [779, 780, 56])]
theorem qNw_ok : qNw.all (fun q => decide (q.2.2.map (fun i => lw_tbl[i]?) = ([.classLink R_law q.1 (zR q.2.1), .instantiable (zR q.2.1) (zN q.2.1), .initialized (zR q.2.1)] : List Cond).map some) && Nat.blt q.2.1 11) = true := by decide +kernel
theorem qCl_at {idx j k : Nat} {ps : List Nat} (h : (idx, j, k, ps) ∈ qCl) : (∀ w ∈ qCw idx j k, w ∈ lw_tbl) ∧ j < 172 ∧ (k = 1 ↔ (mY j).name = "<init>") ∧ mH j ≤ 8 := by
  have ok := List.all_eq_true.mp qCl_ok _ h
  simp only [Bool.and_eq_true, decide_eq_true_eq] at ok
  obtain ⟨⟨⟨h1, h2⟩, h3⟩, h5⟩ := ok
  refine ⟨fun w hw => ?_, Nat.le_of_ble_eq_true h2, ?_, Nat.le_of_ble_eq_true h5⟩
  · have h4 : some w ∈ ps.map (fun i => lw_tbl[i]?) := by rw [h1]; exact List.mem_map_of_mem hw
    obtain ⟨i, -, hi⟩ := List.mem_map.mp h4
    exact List.mem_of_getElem? hi
  · have h4 := eq_of_beq h3
    constructor
    · intro e
      rw [e] at h4
      exact of_decide_eq_true h4.symm
    · intro e
      rw [decide_eq_true e] at h4
      exact Nat.eq_of_beq_eq_true h4
theorem qNw_at {idx ci : Nat} {ps : List Nat} (h : (idx, ci, ps) ∈ qNw) : (∀ w ∈ ([.classLink R_law idx (zR ci), .instantiable (zR ci) (zN ci), .initialized (zR ci)] : List Cond), w ∈ lw_tbl) ∧ ci < 11 := by
  have ok := List.all_eq_true.mp qNw_ok _ h
  simp only [Bool.and_eq_true, decide_eq_true_eq] at ok
  refine ⟨fun w hw => ?_, Nat.le_of_ble_eq_true ok.2⟩
  have h4 : some w ∈ ps.map (fun i => lw_tbl[i]?) := by rw [ok.1]; exact List.mem_map_of_mem hw
  obtain ⟨i, -, hi⟩ := List.mem_map.mp h4
  exact List.mem_of_getElem? hi
/-! the law: its state, its rows -/
def qC (p : Program) (s : State) (m : MethodId) (meth : Method) (c : Code) (b L : Nat) (xs : Nat → Int32) (D : va_G) (cT : Nat → ClassId) (S : Nat × Nat × Nat) : Prop := lw_At p s m meth c b L xs ∧ zKC D cT s.heap.size S s ∧ L ≤ 2048
def qSt (D : va_G) (cT : Nat → ClassId) (s : State) (ls : Ls) (h : Hp) (la : Array Slot) (H : Heap) (locs : List Loc) (cells slots : Nat) : Prop :=
  zhas la 8 ls ∧ zRep D cT s.heap.size h H ∧ va_S (fun q => s.heap.size ≤ q) s.heap H locs ∧ h.2.1 = s.heap.size + cells ∧ h.2.2 = slots
def qK (p : Program) (l : Launch) (e : Env) (s : State) (m : MethodId) (below : List Frame) (meth : Method) (c : Code) (b : Nat) (D : va_G) (cT : Nat → ClassId) (pc : Nat) (ls : Ls) (st : List Value) (h : Hp) : Prop :=
  ∀ (H : Heap) (locs : List Loc) (cells slots : Nat) (la : Array Slot), qSt D cT s ls h la H locs cells slots → W p l e room_1 s m #[Value.ref b] below meth c H locs cells slots (lw_Z below #[Value.ref b] s) (F0 m pc la st)
section QR
variable {p : Program} {l : Launch} {e : Env} {s : State} {m : MethodId} {below : List Frame} {meth : Method} {c : Code} {b L : Nat} {xs : Nat → Int32} {D : va_G} {cT : Nat → ClassId} {S : Nat × Nat × Nat} {pc : Nat} {ls : Ls} {st : List Value} {h : Hp}
theorem q_aload {k : Fin 4} {x : Nat} (C : qC p s m meth c b L xs D cT S) (hd : decode code pc = .ok (.aload_n k, 1)) (hl : ls[(k : Nat)]? = some (some (.ref x))) (K : qK p l e s m below meth c b D cT (pc + 1) ls (.ref x :: st) h) : qK p l e s m below meth c b D cT pc ls st h :=
  fun H locs cells slots la Z => lv_aload_n C.1.1 C.1.2.1 hd rfl (Z.1.at hl) (K H locs cells slots la Z)
theorem q_iload {k : Fin 4} {x : Int32} (C : qC p s m meth c b L xs D cT S) (hd : decode code pc = .ok (.iload_n k, 1)) (hl : ls[(k : Nat)]? = some (some (.int x))) (K : qK p l e s m below meth c b D cT (pc + 1) ls (.int x :: st) h) : qK p l e s m below meth c b D cT pc ls st h :=
  fun H locs cells slots la Z => lv_iload_n C.1.1 C.1.2.1 hd rfl (Z.1.at hl) (K H locs cells slots la Z)
theorem q_dload {k : Nat} {x : UInt64} (C : qC p s m meth c b L xs D cT S) (hd : decode code pc = .ok (.dload k, 2)) (hl : ls[k]? = some (some (.double x))) (K : qK p l e s m below meth c b D cT (pc + 2) ls (.double x :: st) h) : qK p l e s m below meth c b D cT pc ls st h :=
  fun H locs cells slots la Z => lv_dload C.1.1 C.1.2.1 hd (Z.1.at hl) (K H locs cells slots la Z)
theorem q_iconst {x : Int} {v : Int32} (C : qC p s m meth c b L xs D cT S) (hd : decode code pc = .ok (.iconst x, 1)) (hv : Int32.ofInt x = v) (K : qK p l e s m below meth c b D cT (pc + 1) ls (.int v :: st) h) : qK p l e s m below meth c b D cT pc ls st h :=
  fun H locs cells slots la Z => lv_iconst C.1.1 C.1.2.1 hd hv (K H locs cells slots la Z)
theorem q_bipush {x : Int} {v : Int32} (C : qC p s m meth c b L xs D cT S) (hd : decode code pc = .ok (.bipush x, 2)) (hv : (Int8.ofInt x).toInt32 = v) (K : qK p l e s m below meth c b D cT (pc + 2) ls (.int v :: st) h) : qK p l e s m below meth c b D cT pc ls st h :=
  fun H locs cells slots la Z => lv_bipush C.1.1 C.1.2.1 hd hv (K H locs cells slots la Z)
theorem q_iadd {x y : Int32} (C : qC p s m meth c b L xs D cT S) (hd : decode code pc = .ok (.iadd, 1)) (K : qK p l e s m below meth c b D cT (pc + 1) ls (.int (x + y) :: st) h) : qK p l e s m below meth c b D cT pc ls (.int y :: .int x :: st) h :=
  fun H locs cells slots la Z => lv_iadd C.1.1 C.1.2.1 hd (K H locs cells slots la Z)
theorem q_isub {x y : Int32} (C : qC p s m meth c b L xs D cT S) (hd : decode code pc = .ok (.isub, 1)) (K : qK p l e s m below meth c b D cT (pc + 1) ls (.int (x - y) :: st) h) : qK p l e s m below meth c b D cT pc ls (.int y :: .int x :: st) h :=
  fun H locs cells slots la Z => lv_isub C.1.1 C.1.2.1 hd (K H locs cells slots la Z)
theorem q_iand {x y : Int32} (C : qC p s m meth c b L xs D cT S) (hd : decode code pc = .ok (.iand, 1)) (K : qK p l e s m below meth c b D cT (pc + 1) ls (.int (x &&& y) :: st) h) : qK p l e s m below meth c b D cT pc ls (.int y :: .int x :: st) h :=
  fun H locs cells slots la Z => lv_iand C.1.1 C.1.2.1 hd (K H locs cells slots la Z)
theorem q_goto {off : Int} {tgt : Nat} (C : qC p s m meth c b L xs D cT S) (hd : decode code pc = .ok (.goto off, 3)) (ht : (pc : Int) + off = (tgt : Int)) (K : qK p l e s m below meth c b D cT tgt ls st h) : qK p l e s m below meth c b D cT pc ls st h :=
  fun H locs cells slots la Z => lv_goto C.1.1 C.1.2.1 hd ht (K H locs cells slots la Z)
theorem q_eq {off : Int} {tgt : Nat} {x : Int32} (C : qC p s m meth c b L xs D cT S) (hd : decode code pc = .ok (.if_icmp .eq off, 3)) (ht : (pc : Int) + off = (tgt : Int)) (K : qK p l e s m below meth c b D cT tgt ls st h) : qK p l e s m below meth c b D cT pc ls (.int x :: .int x :: st) h :=
  fun H locs cells slots la Z => lv_icmp_eq C.1.1 C.1.2.1 hd ht (fun _ => K H locs cells slots la Z) (fun q => absurd rfl q)
theorem q_gtT {off : Int} {tgt : Nat} {x y : Int32} (C : qC p s m meth c b L xs D cT S) (hd : decode code pc = .ok (.if_icmp .gt off, 3)) (ht : (pc : Int) + off = (tgt : Int)) (hc : y < x) (K : qK p l e s m below meth c b D cT tgt ls st h) : qK p l e s m below meth c b D cT pc ls (.int y :: .int x :: st) h :=
  fun H locs cells slots la Z => lv_icmp_gt C.1.1 C.1.2.1 hd ht (fun _ => K H locs cells slots la Z) (fun q => absurd hc q)
theorem q_gtF {off : Int} {tgt : Nat} {x y : Int32} (C : qC p s m meth c b L xs D cT S) (hd : decode code pc = .ok (.if_icmp .gt off, 3)) (ht : (pc : Int) + off = (tgt : Int)) (hc : ¬ y < x) (K : qK p l e s m below meth c b D cT (pc + 3) ls st h) : qK p l e s m below meth c b D cT pc ls (.int y :: .int x :: st) h :=
  fun H locs cells slots la Z => lv_icmp_gt C.1.1 C.1.2.1 hd ht (fun q => absurd q hc) (fun _ => K H locs cells slots la Z)
theorem q_ifeq {off : Int} {tgt : Nat} (C : qC p s m meth c b L xs D cT S) (hd : decode code pc = .ok (.ifCond .eq off, 3)) (ht : (pc : Int) + off = (tgt : Int)) (K : qK p l e s m below meth c b D cT tgt ls st h) : qK p l e s m below meth c b D cT pc ls (.int 0 :: st) h :=
  fun H locs cells slots la Z => lv_if_eq C.1.1 C.1.2.1 hd ht (fun _ => K H locs cells slots la Z) (fun q => absurd rfl q)
theorem q_istore {k : Fin 4} {x : Int32} (C : qC p s m meth c b L xs D cT S) (hd : decode code pc = .ok (.istore_n k, 1)) (hk : (k : Nat) < ls.length ∧ zl2 ls k = false) (K : qK p l e s m below meth c b D cT (pc + 1) (ls.set k (some (.int x))) st h) : qK p l e s m below meth c b D cT pc ls (.int x :: st) h :=
  fun H locs cells slots la Z => lv_istore_n C.1.1 C.1.2.1 hd rfl Z.1.2 (by rw [← Z.1.1]; exact hk.1) rfl (fun la' hl' => K H locs cells slots la' ⟨Z.1.st1 hk.1 hk.2 hl', Z.2⟩)
theorem q_astore {k : Fin 4} {x : Nat} (C : qC p s m meth c b L xs D cT S) (hd : decode code pc = .ok (.astore_n k, 1)) (hk : (k : Nat) < ls.length ∧ zl2 ls k = false) (K : qK p l e s m below meth c b D cT (pc + 1) (ls.set k (some (.ref x))) st h) : qK p l e s m below meth c b D cT pc ls (.ref x :: st) h :=
  fun H locs cells slots la Z => lv_astore_n C.1.1 C.1.2.1 hd rfl Z.1.2 (by rw [← Z.1.1]; exact hk.1) rfl (fun la' hl' => K H locs cells slots la' ⟨Z.1.st1 hk.1 hk.2 hl', Z.2⟩)
theorem q_dstore {k : Nat} {x : UInt64} (C : qC p s m meth c b L xs D cT S) (hd : decode code pc = .ok (.dstore k, 2)) (hk : k + 1 < ls.length ∧ zl2 ls k = false) (K : qK p l e s m below meth c b D cT (pc + 2) ((ls.set k (some (.double x))).set (k + 1) none) st h) : qK p l e s m below meth c b D cT pc ls (.double x :: st) h :=
  fun H locs cells slots la Z => lv_dstore C.1.1 C.1.2.1 hd Z.1.2 (by rw [← Z.1.1]; exact hk.1) rfl (fun la' hl' => K H locs cells slots la' ⟨Z.1.st2 hk.1 hk.2 hl', Z.2⟩)
theorem q_iinc {k : Nat} {q : Int} {x v : Int32} (C : qC p s m meth c b L xs D cT S) (hd : decode code pc = .ok (.iinc k q, 3)) (hl : ls[k]? = some (some (.int x)) ∧ zl2 ls k = false) (hv : Int32.ofInt q = v) (K : qK p l e s m below meth c b D cT (pc + 3) (ls.set k (some (.int (x + v)))) st h) : qK p l e s m below meth c b D cT pc ls st h := by
  subst hv
  have hk : k < ls.length := (List.getElem?_eq_some_iff.mp hl.1).1
  intro H locs cells slots la Z
  obtain ⟨kk, hkk⟩ := List.getElem?_of_mem (mem_zas.mpr hl.1)
  exact lv_iinc C.1.1 C.1.2.1 hd Z.1.2 hkk rfl (by rw [← Z.1.1]; exact hk) rfl (fun la' hl' => K H locs cells slots la' ⟨Z.1.st1 hk hl.2 hl', Z.2⟩)
theorem q_dup {x : Nat} (C : qC p s m meth c b L xs D cT S) (hd : decode code pc = .ok (.dup, 1)) (K : qK p l e s m below meth c b D cT (pc + 1) ls (.ref x :: .ref x :: st) h) : qK p l e s m below meth c b D cT pc ls (.ref x :: st) h :=
  fun H locs cells slots la Z => lv_dup C.1.1 C.1.2.1 hd rfl (K H locs cells slots la Z)
theorem q_f2d {x : UInt32} (C : qC p s m meth c b L xs D cT S) (hd : decode code pc = .ok (.f2d, 1)) (hn : FP.f2d x &&& 0x7fffffffffffffff ≤ 0x7ff0000000000000) (K : qK p l e s m below meth c b D cT (pc + 1) ls (.double (FP.f2d x) :: st) h) : qK p l e s m below meth c b D cT pc ls (.float x :: st) h :=
  fun H locs cells slots la Z => lv_f2d C.1.1 C.1.2.1 hd hn (K H locs cells slots la Z)
theorem q_dcmp {x : UInt64} {op : CmpOp} (C : qC p s m meth c b L xs D cT S) (hd : decode code pc = .ok (.dcmp op, 1)) (hn : FP.dcmp x x = some .eq) (K : qK p l e s m below meth c b D cT (pc + 1) ls (.int 0 :: st) h) : qK p l e s m below meth c b D cT pc ls (.double x :: .double x :: st) h :=
  fun H locs cells slots la Z => lv_dcmp C.1.1 C.1.2.1 hd (by rw [hn]; exact K H locs cells slots la Z)
theorem q_slen (C : qC p s m meth c b L xs D cT S) (hd : decode code pc = .ok (.arraylength, 1)) (K : qK p l e s m below meth c b D cT (pc + 1) ls (.int (nI L) :: st) h) : qK p l e s m below meth c b D cT pc ls (.ref b :: st) h := by
  obtain ⟨hx, hb, hr, hml, hown, hts, hX, hbl, hlocks, hgv⟩ := C.1
  exact fun H locs cells slots la Z => va_slen hx hb hX hbl (Nat.not_le.mpr hbl) Z.2.2.1 hd (K H locs cells slots la Z)
theorem q_sld {k : Nat} (C : qC p s m meth c b L xs D cT S) (hk : k < L) (hd : decode code pc = .ok (.iaload, 1)) (K : qK p l e s m below meth c b D cT (pc + 1) ls (.int (xs k) :: st) h) : qK p l e s m below meth c b D cT pc ls (.int (nI k) :: .ref b :: st) h := by
  have hL := C.2.2
  obtain ⟨hx, hb, hr, hml, hown, hts, hX, hbl, hlocks, hgv⟩ := C.1
  intro H locs cells slots la Z
  have k' := K H locs cells slots la Z
  rw [← nI_clamp (show k < 2147483648 by omega)] at k'
  exact va_sld hx hb hX hbl (Nat.not_le.mpr hbl) Z.2.2.1 (nI_in hk (by omega)) hd k'
theorem q_tabIn {dflt lo hi : Int} {offs : Array Int} {len : Nat} {x : Int32} {off : Int} {tgt : Nat} (C : qC p s m meth c b L xs D cT S) (hd : decode code pc = .ok (.tableswitch dflt lo hi offs, len)) (h1 : ¬ x.toInt < lo) (h2 : ¬ hi < x.toInt) (ho : offs[(x.toInt - lo).toNat]? = some off) (ht : (pc : Int) + off = (tgt : Int)) (K : qK p l e s m below meth c b D cT tgt ls st h) : qK p l e s m below meth c b D cT pc ls (.int x :: st) h :=
  fun H locs cells slots la Z => lv_tableIn C.1.1 C.1.2.1 hd h1 h2 ho ht (K H locs cells slots la Z)
theorem q_tabOut {dflt lo hi : Int} {offs : Array Int} {len : Nat} {x : Int32} {tgt : Nat} (C : qC p s m meth c b L xs D cT S) (hd : decode code pc = .ok (.tableswitch dflt lo hi offs, len)) (h1 : x.toInt < lo ∨ hi < x.toInt) (ht : (pc : Int) + dflt = (tgt : Int)) (K : qK p l e s m below meth c b D cT tgt ls st h) : qK p l e s m below meth c b D cT pc ls (.int x :: st) h :=
  fun H locs cells slots la Z => lv_tableOut C.1.1 C.1.2.1 hd h1 ht (K H locs cells slots la Z)
theorem q_lcmp {x : Int64} (C : qC p s m meth c b L xs D cT S) (hd : decode code pc = .ok (.lcmp, 1)) (K : qK p l e s m below meth c b D cT (pc + 1) ls (.int 0 :: st) h) : qK p l e s m below meth c b D cT pc ls (.long x :: .long x :: st) h := by
  intro H locs cells slots la Z
  refine W.lcmp C.1.1 C.1.2.1 hd ?_
  have e1 : lg_cmp x x = 0 := by simp [lg_cmp]
  rw [e1]
  exact K H locs cells slots la Z
theorem q_ret (C : qC p s m meth c b L xs D cT S) (hd : decode code pc = .ok (.ireturn, 1)) (h1 : h.2.1 ≤ s.heap.size + 600000) (h2 : h.2.2 ≤ 7302250) : qK p l e s m below meth c b D cT pc ls [.int 1] h := by
  obtain ⟨hx, hb, hr, hml, hown, hts, hX, hbl, hlocks, hgv⟩ := C.1
  intro H locs cells slots la Z
  obtain ⟨Z1, Z2, Z3, Z4, Z5⟩ := Z
  refine W.base ?_
  refine va_forget Z3.2.2 ?_
  refine W.widen (k := 600000) (n := 7302250) (by omega) (by omega) ?_
  exact lw_ret (Drawn.sameBut.refl s.drawn lw_cs) hx hb hr hlocks hd
theorem q_new {idx ci : Nat} {ps : List Nat} (C : qC p s m meth c b L xs D cT S) (hz : (idx, ci, ps) ∈ qNw) (hd : decode code pc = .ok (.new idx, 3)) (h1 : h.2.1 + 1 ≤ s.heap.size + 600000) (h2 : h.2.2 + zN ci ≤ 7302250)
    (K : qK p l e s m below meth c b D cT (pc + 3) ls (.ref h.2.1 :: st) (hnew h (.inr (ci, (List.range (zN ci)).map (fun k => zdef (zty ci k)))) (zN ci))) : qK p l e s m below meth c b D cT pc ls st h := by
  obtain ⟨hx, hb, hr, hml, hown, hts, hX, hbl, hlocks, hgv⟩ := C.1
  have hKC := C.2.1
  intro H locs cells slots la Z
  obtain ⟨hZl, hZr, hZs, hZ1, hZ2⟩ := Z
  obtain ⟨w1, w2⟩ := qNw_at hz
  obtain ⟨z1, z2, z3, z4⟩ := zin_lays w2
  have hKn := hKC.1.1 ci _ z1
  refine W.newcK hx hb hown (hts _ (w1 _ (List.mem_cons_self))) (hts _ (w1 _ (List.mem_cons_of_mem _ List.mem_cons_self))) (hts _ (w1 _ (List.mem_cons_of_mem _ (List.mem_cons_of_mem _ List.mem_cons_self)))) rfl hd (by show cells + 1 ≤ 600000; omega) (by show slots + zN ci ≤ 7302250; omega) hKn.2.1 rfl fun H1 kC hkC e1 q1 o1 => ?_
  have hsz := hZr.1
  have k' := K H1 locs (cells + 1) (slots + zN ci) la ⟨hZl, hZr.new q1 o1 (by
    refine ⟨_, z1, (u_born (zty ci) hts z2 hKn hkC e1 z3).to (fun k hk => ?_)⟩
    rw [zdef_ok ci w2 k hk]
    simp [vp_V, hk]), ⟨Nat.le_trans hZs.1 (by omega), fun x h1 h2 => (o1 x (Nat.lt_of_lt_of_le h1 hZs.1)).trans (hZs.2.1 x h1 h2), hZs.2.2⟩, by simp only [hnew]; omega, by simp only [hnew]; omega⟩
  rw [← hsz] at k'
  exact k'
theorem qk_back {rest : List Value} {v : Option Value} {a : Array Value} {H : Heap} {locs : List Loc} {cells slots : Nat} {la : Array Slot} {st0 : List Value} {mc1 ms1 : Nat} {h' : Hp}
    (hr : va_Run p l e room_1 s m #[Value.ref b] below meth c H locs cells slots mc1 ms1 (F0 m pc la st0) rest (zQ D cT s.heap.size v h' a) (fun q => s.heap.size ≤ q)) (Z : qSt D cT s ls h la H locs cells slots) (h1 : h'.2.1 = h.2.1 + mc1) (h2 : h'.2.2 = h.2.2 + ms1)
    (K : qK p l e s m below meth c b D cT (pc + 3) ls (v.toList ++ rest) h') : W p l e room_1 s m #[Value.ref b] below meth c H locs cells slots (lw_Z below #[Value.ref b] s) (F0 m pc la st0) := by
  intro T hT X
  obtain ⟨v', st₀, t, T', L, g0, X', hL, e1, e2, ⟨hv, hRep, hz, hk⟩, stp⟩ := hr T hT X
  cases hv
  obtain ⟨hZl, hZr, hZs, hZ1, hZ2⟩ := Z
  rw [g0] at hz hk
  have k' := K T'.heap (locs ++ L) (cells + mc1) (slots + ms1) la ⟨hZl, by rw [e1]; exact hRep, ⟨Nat.le_trans hZs.1 (by rw [e1]; exact hz), fun q q1 q2 => by rw [e1, hk q (Nat.lt_of_lt_of_le q1 hZs.1) q2]; exact hZs.2.1 q q1 q2, fun q hq => by
      rcases List.mem_append.mp hq with x | x
      · exact hZs.2.2 q x
      · exact hL q x⟩, by omega, by omega⟩
  obtain ⟨t2, a1, b1⟩ := k' T' rfl X'
  exact ⟨t2, stp t2 a1, b1⟩
theorem q_callV {idx y a : Nat} {ps : List Nat} {As rest : List Value} {fs : List Value} {v : Option Value} {h' : Hp} (C : qC p s m meth c b L xs D cT S) (hz : (idx, y, 0, ps) ∈ qCl) (hd : decode code pc = .ok (.invokevirtual idx, 3)) (hw : WPm y (.ref a :: As) h (fun r g => r = v ∧ g = h')) (ha : h.1 a = some (.inr (mK y, fs))) (hn : As.length = mN y ∧ (zlay (.ref a :: As)).length ≤ mL y ∧ mL y ≤ 10 ∧ rest.length ≤ 4)
    (h1 : h'.2.1 ≤ s.heap.size + 600000) (h2 : h'.2.2 ≤ 7302250) (K : qK p l e s m below meth c b D cT (pc + 3) ls (v.toList ++ rest) h') : qK p l e s m below meth c b D cT pc ls (As.reverse ++ .ref a :: rest) h := by
  obtain ⟨hx, hb, hr, hml, hown, hts, hX, hbl, hlocks, hgv⟩ := C.1
  have hKC := C.2.1
  intro H locs cells slots la Z
  obtain ⟨w1, w2, w3, w4⟩ := qCl_at hz
  obtain ⟨y1, y2, y3, y4, y5, y6⟩ := zM_at w2
  obtain ⟨hle, hM⟩ := zmet_of l D cT s.heap.size S w2 hn.2.1 hw
  obtain ⟨mc1, hmc1⟩ : ∃ mc1, h'.2.1 = h.2.1 + mc1 := ⟨h'.2.1 - h.2.1, by have := hle.1; omega⟩
  obtain ⟨ms1, hms1⟩ : ∃ ms1, h'.2.2 = h.2.2 + ms1 := ⟨h'.2.2 - h.2.2, by have := hle.2; omega⟩
  have hM := hM mc1 ms1 hmc1 hms1
  have hG := zws_good w2
  obtain ⟨hZl, hZr, hZs, hZ1, hZ2⟩ := id Z
  have hRm : ({ frames := mH y, cells := mc1, slots := ms1, locals := 29 * mH y } : Room).frames + 1 ≤ room_1.frames ∧ 8 + (mL y + 11) + ({ frames := mH y, cells := mc1, slots := ms1, locals := 29 * mH y } : Room).locals ≤ room_1.locals := by
    refine ⟨?_, ?_⟩
    · show mH y + 1 ≤ 11
      omega
    · show 8 + (mL y + 11) + 29 * mH y ≤ 418
      omega
  have hf : cells + mc1 ≤ room_1.cells ∧ slots + ms1 ≤ room_1.slots := ⟨by show cells + mc1 ≤ 600000; omega, by show slots + ms1 ≤ 7302250; omega⟩
  have hsz : la.size = 8 := hZl.2.1
  obtain ⟨pb, pu⟩ := zPc_pre (as := .ref a :: As) (Nat.le_refl _) hKC hZr hZs
  have htz : ∀ w ∈ zW, w.before #[Value.ref b] s = true := fun w hw => hts w (List.mem_filter.mp hw).1
  have hcl := (zin_lays y5).1
  have hrecv := va_recv hKC.1 (hZr.one ha) (q0 := 0) hcl rfl
  have g1 : (Cond.methodLink R_law idx (mY y)) ∈ lw_tbl := w1 _ (by simp [qCw])
  have g2 : (Cond.initialized (mY y).cls) ∈ lw_tbl := w1 _ (by simp [qCw])
  have g3 : (Cond.instanceMethod (mY y)) ∈ lw_tbl := w1 _ (by simp [qCw])
  have g4 : (Cond.selects (zR (mK y)) (mY y) (mY y)) ∈ lw_tbl := w1 _ (by simp [qCw])
  have cb : CallB room_1 s #[Value.ref b] R_law idx (mY y) (mC y) (mL y) (mT y) (zws y) _ mc1 ms1 (mN y) := callB_of (mN y) htz hG rfl rfl rfl (hts _ g2) (hts _ g1) ⟨y6.1, y6.2, y2⟩ hRm
  refine qk_back (va_runV (As := As) (rest := rest) ⟨hx, hb, hml, hown, htz⟩ hM ⟨cb, hts _ g3, hts _ g4⟩ ⟨pb, hrecv, pu⟩ rfl hn.1 hsz rfl (lv_room (zroom hn.2.2.2)) hd hf) Z hmc1 hms1 K
theorem q_callI {idx y a : Nat} {ps : List Nat} {rest : List Value} {h' : Hp} (C : qC p s m meth c b L xs D cT S) (hz : (idx, y, 1, ps) ∈ qCl) (hd : decode code pc = .ok (.invokespecial idx, 3)) (hT : mT y = none) (hw : WPm y [.ref a] h (fun r g => r = none ∧ g = h')) (hn : 0 = mN y ∧ (zlay [.ref a]).length ≤ mL y ∧ mL y ≤ 10 ∧ rest.length ≤ 4)
    (h1 : h'.2.1 ≤ s.heap.size + 600000) (h2 : h'.2.2 ≤ 7302250) (K : qK p l e s m below meth c b D cT (pc + 3) ls rest h') : qK p l e s m below meth c b D cT pc ls (.ref a :: rest) h := by
  obtain ⟨hx, hb, hr, hml, hown, hts, hX, hbl, hlocks, hgv⟩ := C.1
  have hKC := C.2.1
  intro H locs cells slots la Z
  obtain ⟨w1, w2, w3, w4⟩ := qCl_at hz
  obtain ⟨y1, y2, y3, y4, y5, y6⟩ := zM_at w2
  obtain ⟨hle, hM⟩ := zmet_of l D cT s.heap.size S w2 hn.2.1 hw
  obtain ⟨mc1, hmc1⟩ : ∃ mc1, h'.2.1 = h.2.1 + mc1 := ⟨h'.2.1 - h.2.1, by have := hle.1; omega⟩
  obtain ⟨ms1, hms1⟩ : ∃ ms1, h'.2.2 = h.2.2 + ms1 := ⟨h'.2.2 - h.2.2, by have := hle.2; omega⟩
  have hM := hM mc1 ms1 hmc1 hms1
  have hG := zws_good w2
  obtain ⟨hZl, hZr, hZs, hZ1, hZ2⟩ := id Z
  have hRm : ({ frames := mH y, cells := mc1, slots := ms1, locals := 29 * mH y } : Room).frames + 1 ≤ room_1.frames ∧ 8 + (mL y + 11) + ({ frames := mH y, cells := mc1, slots := ms1, locals := 29 * mH y } : Room).locals ≤ room_1.locals := by
    refine ⟨?_, ?_⟩
    · show mH y + 1 ≤ 11
      omega
    · show 8 + (mL y + 11) + 29 * mH y ≤ 418
      omega
  have hf : cells + mc1 ≤ room_1.cells ∧ slots + ms1 ≤ room_1.slots := ⟨by show cells + mc1 ≤ 600000; omega, by show slots + ms1 ≤ 7302250; omega⟩
  have hsz : la.size = 8 := hZl.2.1
  obtain ⟨pb, pu⟩ := zPc_pre (as := [.ref a]) (Nat.le_refl _) hKC hZr hZs
  have htz : ∀ w ∈ zW, w.before #[Value.ref b] s = true := fun w hw => hts w (List.mem_filter.mp hw).1
  have g1 : (Cond.methodLink R_law idx (mY y)) ∈ lw_tbl := w1 _ (by simp [qCw])
  have g2 : (Cond.initialized (mY y).cls) ∈ lw_tbl := w1 _ (by simp [qCw])
  have g3 : (Cond.instanceMethod (mY y)) ∈ lw_tbl := w1 _ (by simp [qCw])
  have hws : zws y = Cond.code (mY y) (mC y) (mL y) none :: zW := by unfold zws; rw [hT]
  have cb : CallB room_1 s #[Value.ref b] R_law idx (mY y) (mC y) (mL y) none (zws y) _ mc1 ms1 (mN y) := callB_of (mN y) htz hG hws rfl rfl (hts _ g2) (hts _ g1) ⟨y6.1, y6.2, y2⟩ hRm
  exact qk_back (va_runI (As := []) (b := a) (rest := rest) ⟨hx, hb, hml, hown, htz⟩ hM ⟨cb, w3.mp rfl, hts _ g3⟩ ⟨pb, pu⟩ rfl hn.1 hsz rfl (lv_room (zroom hn.2.2.2)) hd hf) Z hmc1 hms1 K
end QR
