/-! the law: its cases -/
section QA
variable {p : Program} {l : Launch} {e : Env} {s : State} {m : MethodId} {below : List Frame} {meth : Method} {c : Code} {b L : Nat} {xs : Nat → Int32} {D : va_G} {cT : Nat → ClassId} {S : Nat × Nat × Nat} {pc X i k : Nat} {a4 a5 a6 a7 : Option Value} {st : List Value} {h : Hp} {g : PS}
def qLs (b X i : Nat) (a4 a5 a6 a7 : Option Value) : Ls := [some (.ref b), some (.ref X), some (.ref (X + 180)), some (.int (nI i)), a4, a5, a6, a7]
theorem q_arg {k : Nat} {kk : Int} (C : qC p s m meth c b L xs D cT S) (hk : i + k < L) (hkk : Int32.ofInt kk = nI k) (d0 : decode code pc = .ok (.aload_n 0, 1)) (d1 : decode code (pc + 1) = .ok (.iload_n 3, 1)) (d2 : decode code (pc + 2) = .ok (.iconst kk, 1)) (d3 : decode code (pc + 3) = .ok (.iadd, 1)) (d4 : decode code (pc + 4) = .ok (.iaload, 1)) (K : qK p l e s m below meth c b D cT (pc + 5) (qLs b X i a4 a5 a6 a7) (.int (xs (i + k)) :: st) h) : qK p l e s m below meth c b D cT pc (qLs b X i a4 a5 a6 a7) st h := by
  refine q_aload (k := 0) (x := b) C d0 rfl ?_
  refine q_iload (pc := pc + 1) (k := 3) (x := nI i) C d1 rfl ?_
  refine q_iconst (pc := pc + 2) C d2 hkk ?_
  refine q_iadd (pc := pc + 3) C d3 ?_
  rw [nI_add]
  exact q_sld (pc := pc + 4) C hk d4 K
theorem q_cV {idx y a : Nat} {ps : List Nat} {As rest fs stk : List Value} {ls : Ls} {v : Value} {h' : Hp} (C : qC p s m meth c b L xs D cT S) (hz : (idx, y, 0, ps) ∈ qCl) (hd : decode code pc = .ok (.invokevirtual idx, 3)) (hw : WPm y (.ref a :: As) h (fun r g => r = some v ∧ g = h')) (ha : h.1 a = some (.inr (mK y, fs))) (hn : As.length = mN y ∧ (zlay (.ref a :: As)).length ≤ mL y ∧ mL y ≤ 10 ∧ rest.length ≤ 4)
    (h1 : h'.2.1 ≤ s.heap.size + 600000) (h2 : h'.2.2 ≤ 7302250) (hs : stk = As.reverse ++ .ref a :: rest) (K : qK p l e s m below meth c b D cT (pc + 3) ls (v :: rest) h') : qK p l e s m below meth c b D cT pc ls stk h := by
  subst hs
  exact q_callV C hz hd hw ha hn h1 h2 K
theorem q_room1 {x : Nat} (hN : X = s.heap.size) (hk : k ≤ 512) (h : x ≤ X + 195 + 6 * (k + 1)) : x ≤ s.heap.size + 600000 := by
  rw [Nat.mul_add] at h
  subst hN
  generalize s.heap.size = n at h ⊢
  omega
theorem q_room2 {x : Nat} (hk : k ≤ 512) (h : x ≤ 31104 + 400 * (k + 1)) : x ≤ 7302250 := Nat.le_trans h (Nat.le_trans (Nat.add_le_add_left (Nat.mul_le_mul_left 400 (Nat.add_le_add_right hk 1)) 31104) (by decide))
def qNext (p : Program) (l : Launch) (e : Env) (s : State) (m : MethodId) (below : List Frame) (meth : Method) (c : Code) (b : Nat) (D : va_G) (cT : Nat → ClassId) (X i k : Nat) : Prop := ∀ (h2 : Hp) (g' : PS) (a4 a5 a6 a7 : Option Value), qI h2 g' X (k + 1) → qK p l e s m below meth c b D cT 935 (qLs b X i a4 a5 a6 a7) [] h2
theorem qz_13 : ((13, 71, 0, [284, 48, 285, 286]) : Nat × Nat × Nat × List Nat) ∈ qCl := by decide +kernel
theorem qz_17 : ((17, 116, 0, [850, 56, 851, 852]) : Nat × Nat × Nat × List Nat) ∈ qCl := by decide +kernel
theorem qz_18 : ((18, 72, 0, [405, 48, 406, 407]) : Nat × Nat × Nat × List Nat) ∈ qCl := by decide +kernel
theorem qz_22 : ((22, 117, 0, [872, 56, 873, 874]) : Nat × Nat × Nat × List Nat) ∈ qCl := by decide +kernel
theorem qz_23 : ((23, 73, 0, [416, 48, 417, 418]) : Nat × Nat × Nat × List Nat) ∈ qCl := by decide +kernel
theorem qz_27 : ((27, 118, 0, [880, 56, 881, 882]) : Nat × Nat × Nat × List Nat) ∈ qCl := by decide +kernel
theorem qz_28 : ((28, 74, 0, [432, 48, 433, 434]) : Nat × Nat × Nat × List Nat) ∈ qCl := by decide +kernel
theorem qz_32 : ((32, 119, 0, [887, 56, 888, 889]) : Nat × Nat × Nat × List Nat) ∈ qCl := by decide +kernel
theorem qz_33 : ((33, 75, 0, [448, 48, 449, 450]) : Nat × Nat × Nat × List Nat) ∈ qCl := by decide +kernel
theorem qz_36 : ((36, 123, 0, [894, 56, 895, 896]) : Nat × Nat × Nat × List Nat) ∈ qCl := by decide +kernel
theorem qz_37 : ((37, 76, 0, [457, 48, 458, 459]) : Nat × Nat × Nat × List Nat) ∈ qCl := by decide +kernel
theorem qz_40 : ((40, 125, 0, [913, 56, 914, 915]) : Nat × Nat × Nat × List Nat) ∈ qCl := by decide +kernel
theorem qz_41 : ((41, 77, 0, [465, 48, 466, 467]) : Nat × Nat × Nat × List Nat) ∈ qCl := by decide +kernel
theorem qz_44 : ((44, 126, 0, [921, 56, 922, 923]) : Nat × Nat × Nat × List Nat) ∈ qCl := by decide +kernel
theorem qz_45 : ((45, 78, 0, [470, 48, 471, 472]) : Nat × Nat × Nat × List Nat) ∈ qCl := by decide +kernel
theorem qz_48 : ((48, 127, 0, [925, 56, 926, 927]) : Nat × Nat × Nat × List Nat) ∈ qCl := by decide +kernel
theorem qz_49 : ((49, 79, 0, [475, 48, 476, 477]) : Nat × Nat × Nat × List Nat) ∈ qCl := by decide +kernel
theorem qz_52 : ((52, 128, 0, [929, 56, 930, 931]) : Nat × Nat × Nat × List Nat) ∈ qCl := by decide +kernel
theorem qz_53 : ((53, 80, 0, [479, 48, 480, 481]) : Nat × Nat × Nat × List Nat) ∈ qCl := by decide +kernel
theorem qz_56 : ((56, 129, 0, [933, 56, 934, 935]) : Nat × Nat × Nat × List Nat) ∈ qCl := by decide +kernel
theorem qz_57 : ((57, 81, 0, [483, 48, 484, 485]) : Nat × Nat × Nat × List Nat) ∈ qCl := by decide +kernel
theorem qz_60 : ((60, 130, 0, [937, 56, 938, 939]) : Nat × Nat × Nat × List Nat) ∈ qCl := by decide +kernel
theorem qz_61 : ((61, 82, 0, [487, 48, 488, 489]) : Nat × Nat × Nat × List Nat) ∈ qCl := by decide +kernel
theorem qz_64 : ((64, 138, 0, [941, 56, 942, 943]) : Nat × Nat × Nat × List Nat) ∈ qCl := by decide +kernel
theorem qz_65 : ((65, 83, 0, [587, 48, 588, 589]) : Nat × Nat × Nat × List Nat) ∈ qCl := by decide +kernel
theorem qz_68 : ((68, 139, 0, [966, 56, 967, 968]) : Nat × Nat × Nat × List Nat) ∈ qCl := by decide +kernel
theorem qz_69 : ((69, 84, 0, [596, 48, 597, 598]) : Nat × Nat × Nat × List Nat) ∈ qCl := by decide +kernel
theorem qz_72 : ((72, 140, 0, [974, 56, 975, 976]) : Nat × Nat × Nat × List Nat) ∈ qCl := by decide +kernel
theorem qz_73 : ((73, 86, 0, [615, 48, 616, 617]) : Nat × Nat × Nat × List Nat) ∈ qCl := by decide +kernel
theorem qz_76 : ((76, 141, 0, [978, 56, 979, 980]) : Nat × Nat × Nat × List Nat) ∈ qCl := by decide +kernel
theorem qz_77 : ((77, 87, 0, [624, 48, 625, 626]) : Nat × Nat × Nat × List Nat) ∈ qCl := by decide +kernel
theorem qz_80 : ((80, 142, 0, [983, 56, 984, 985]) : Nat × Nat × Nat × List Nat) ∈ qCl := by decide +kernel
theorem qz_81 : ((81, 88, 0, [628, 48, 629, 630]) : Nat × Nat × Nat × List Nat) ∈ qCl := by decide +kernel
theorem qz_84 : ((84, 154, 0, [987, 56, 988, 989]) : Nat × Nat × Nat × List Nat) ∈ qCl := by decide +kernel
theorem qz_85 : ((85, 89, 0, [633, 48, 634, 635]) : Nat × Nat × Nat × List Nat) ∈ qCl := by decide +kernel
theorem qz_88 : ((88, 155, 0, [1035, 56, 1036, 1037]) : Nat × Nat × Nat × List Nat) ∈ qCl := by decide +kernel
theorem qz_89 : ((89, 90, 0, [637, 48, 638, 639]) : Nat × Nat × Nat × List Nat) ∈ qCl := by decide +kernel
theorem qz_92 : ((92, 156, 0, [1039, 56, 1040, 1041]) : Nat × Nat × Nat × List Nat) ∈ qCl := by decide +kernel
theorem qz_93 : ((93, 91, 0, [649, 48, 650, 651]) : Nat × Nat × Nat × List Nat) ∈ qCl := by decide +kernel
theorem qz_96 : ((96, 159, 0, [1043, 56, 1044, 1045]) : Nat × Nat × Nat × List Nat) ∈ qCl := by decide +kernel
theorem qz_97 : ((97, 92, 0, [661, 48, 662, 663]) : Nat × Nat × Nat × List Nat) ∈ qCl := by decide +kernel
theorem qz_100 : ((100, 160, 0, [1055, 56, 1056, 1057]) : Nat × Nat × Nat × List Nat) ∈ qCl := by decide +kernel
theorem qz_101 : ((101, 93, 0, [677, 48, 678, 679]) : Nat × Nat × Nat × List Nat) ∈ qCl := by decide +kernel
theorem qz_104 : ((104, 162, 0, [1059, 56, 1060, 1061]) : Nat × Nat × Nat × List Nat) ∈ qCl := by decide +kernel
theorem qz_105 : ((105, 94, 0, [691, 48, 692, 693]) : Nat × Nat × Nat × List Nat) ∈ qCl := by decide +kernel
theorem qz_108 : ((108, 164, 0, [1067, 56, 1068, 1069]) : Nat × Nat × Nat × List Nat) ∈ qCl := by decide +kernel
theorem qz_109 : ((109, 95, 0, [713, 48, 714, 715]) : Nat × Nat × Nat × List Nat) ∈ qCl := by decide +kernel
theorem qz_112 : ((112, 166, 0, [1075, 56, 1076, 1077]) : Nat × Nat × Nat × List Nat) ∈ qCl := by decide +kernel
theorem qz_113 : ((113, 96, 0, [722, 48, 723, 724]) : Nat × Nat × Nat × List Nat) ∈ qCl := by decide +kernel
theorem qz_117 : ((117, 167, 0, [1083, 56, 1084, 1085]) : Nat × Nat × Nat × List Nat) ∈ qCl := by decide +kernel
theorem qz_118 : ((118, 97, 0, [731, 48, 732, 733]) : Nat × Nat × Nat × List Nat) ∈ qCl := by decide +kernel
theorem qz_121 : ((121, 169, 0, [1087, 56, 1088, 1089]) : Nat × Nat × Nat × List Nat) ∈ qCl := by decide +kernel
theorem qz_122 : ((122, 98, 0, [745, 48, 746, 747]) : Nat × Nat × Nat × List Nat) ∈ qCl := by decide +kernel
theorem qz_125 : ((125, 170, 0, [1095, 56, 1096, 1097]) : Nat × Nat × Nat × List Nat) ∈ qCl := by decide +kernel
theorem qz_126 : ((126, 99, 0, [753, 48, 754, 755]) : Nat × Nat × Nat × List Nat) ∈ qCl := by decide +kernel
theorem qz_130 : ((130, 171, 0, [1099, 56, 1100, 1101]) : Nat × Nat × Nat × List Nat) ∈ qCl := by decide +kernel
theorem cs_style (C : qC p s m meth c b L xs D cT S) (hN : X = s.heap.size) (hi : i + 4 ≤ L) (hk : k ≤ 512) (I : qI h g X k) (K : qNext p l e s m below meth c b D cT X i k) : qK p l e s m below meth c b D cT 160 (qLs b X i a4 a5 a6 a7) [] h := by
  obtain ⟨h1, h2, g', q1, q2, ⟨f1, c1⟩, ⟨f2, c2⟩, n1, n2, J⟩ := pr_style I (xs (i + 1))
  have r1 := q_room1 hN hk n1
  have r2 := q_room2 hk n2
  have r3 := q_room1 hN hk J.2.2.2.1
  have r4 := q_room2 hk J.2.2.2.2
  refine q_aload (pc := 160) (k := 1) (x := X) C dL_law_160 rfl ?_
  refine q_arg (pc := 161) (k := 1) C (by omega) rfl dL_law_161 dL_law_162 dL_law_163 dL_law_164 dL_law_165 ?_
  refine q_cV (pc := 166) (As := [.int (xs (i + 1))]) (rest := []) C qz_13 dL_law_166 q1 c1 ⟨(show 1 = mN 71 by decide +kernel), (show 2 ≤ mL 71 by decide +kernel), (show mL 71 ≤ 10 by decide +kernel), (show 0 ≤ 4 by decide)⟩ r1 r2 rfl ?_
  refine q_aload (pc := 169) (k := 2) (x := X + 180) C dL_law_169 rfl ?_
  refine q_arg (pc := 170) (k := 1) C (by omega) rfl dL_law_170 dL_law_171 dL_law_172 dL_law_173 dL_law_174 ?_
  refine q_cV (pc := 175) (As := [.int (xs (i + 1))]) (rest := [_]) C qz_17 dL_law_175 q2 c2 ⟨(show 1 = mN 116 by decide +kernel), (show 2 ≤ mL 116 by decide +kernel), (show mL 116 ≤ 10 by decide +kernel), (show 1 ≤ 4 by decide)⟩ r3 r4 rfl ?_
  exact q_eq (pc := 178) (tgt := 935) C dL_law_178 (by decide) (K h2 g' _ _ _ _ J)
theorem cs_setParent (C : qC p s m meth c b L xs D cT S) (hN : X = s.heap.size) (hi : i + 4 ≤ L) (hk : k ≤ 512) (I : qI h g X k) (K : qNext p l e s m below meth c b D cT X i k) : qK p l e s m below meth c b D cT 183 (qLs b X i a4 a5 a6 a7) [] h := by
  obtain ⟨h1, h2, g', q1, q2, ⟨f1, c1⟩, ⟨f2, c2⟩, n1, n2, J⟩ := pr_setParent I (xs (i + 1)) (xs (i + 2))
  have r1 := q_room1 hN hk n1
  have r2 := q_room2 hk n2
  have r3 := q_room1 hN hk J.2.2.2.1
  have r4 := q_room2 hk J.2.2.2.2
  refine q_aload (pc := 183) (k := 1) (x := X) C dL_law_183 rfl ?_
  refine q_arg (pc := 184) (k := 1) C (by omega) rfl dL_law_184 dL_law_185 dL_law_186 dL_law_187 dL_law_188 ?_
  refine q_arg (pc := 189) (k := 2) C (by omega) rfl dL_law_189 dL_law_190 dL_law_191 dL_law_192 dL_law_193 ?_
  refine q_cV (pc := 194) (As := [.int (xs (i + 1)), .int (xs (i + 2))]) (rest := []) C qz_18 dL_law_194 q1 c1 ⟨(show 2 = mN 72 by decide +kernel), (show 3 ≤ mL 72 by decide +kernel), (show mL 72 ≤ 10 by decide +kernel), (show 0 ≤ 4 by decide)⟩ r1 r2 rfl ?_
  refine q_aload (pc := 197) (k := 2) (x := X + 180) C dL_law_197 rfl ?_
  refine q_arg (pc := 198) (k := 1) C (by omega) rfl dL_law_198 dL_law_199 dL_law_200 dL_law_201 dL_law_202 ?_
  refine q_arg (pc := 203) (k := 2) C (by omega) rfl dL_law_203 dL_law_204 dL_law_205 dL_law_206 dL_law_207 ?_
  refine q_cV (pc := 208) (As := [.int (xs (i + 1)), .int (xs (i + 2))]) (rest := [_]) C qz_22 dL_law_208 q2 c2 ⟨(show 2 = mN 117 by decide +kernel), (show 3 ≤ mL 117 by decide +kernel), (show mL 117 ≤ 10 by decide +kernel), (show 1 ≤ 4 by decide)⟩ r3 r4 rfl ?_
  exact q_eq (pc := 211) (tgt := 935) C dL_law_211 (by decide) (K h2 g' _ _ _ _ J)
theorem cs_setStyle (C : qC p s m meth c b L xs D cT S) (hN : X = s.heap.size) (hi : i + 4 ≤ L) (hk : k ≤ 512) (I : qI h g X k) (K : qNext p l e s m below meth c b D cT X i k) : qK p l e s m below meth c b D cT 216 (qLs b X i a4 a5 a6 a7) [] h := by
  obtain ⟨h1, h2, g', q1, q2, ⟨f1, c1⟩, ⟨f2, c2⟩, n1, n2, J⟩ := pr_setStyle I (xs (i + 1)) (xs (i + 2)) (xs (i + 3))
  have r1 := q_room1 hN hk n1
  have r2 := q_room2 hk n2
  have r3 := q_room1 hN hk J.2.2.2.1
  have r4 := q_room2 hk J.2.2.2.2
  refine q_aload (pc := 216) (k := 1) (x := X) C dL_law_216 rfl ?_
  refine q_arg (pc := 217) (k := 1) C (by omega) rfl dL_law_217 dL_law_218 dL_law_219 dL_law_220 dL_law_221 ?_
  refine q_arg (pc := 222) (k := 2) C (by omega) rfl dL_law_222 dL_law_223 dL_law_224 dL_law_225 dL_law_226 ?_
  refine q_arg (pc := 227) (k := 3) C (by omega) rfl dL_law_227 dL_law_228 dL_law_229 dL_law_230 dL_law_231 ?_
  refine q_cV (pc := 232) (As := [.int (xs (i + 1)), .int (xs (i + 2)), .int (xs (i + 3))]) (rest := []) C qz_23 dL_law_232 q1 c1 ⟨(show 3 = mN 73 by decide +kernel), (show 4 ≤ mL 73 by decide +kernel), (show mL 73 ≤ 10 by decide +kernel), (show 0 ≤ 4 by decide)⟩ r1 r2 rfl ?_
  refine q_aload (pc := 235) (k := 2) (x := X + 180) C dL_law_235 rfl ?_
  refine q_arg (pc := 236) (k := 1) C (by omega) rfl dL_law_236 dL_law_237 dL_law_238 dL_law_239 dL_law_240 ?_
  refine q_arg (pc := 241) (k := 2) C (by omega) rfl dL_law_241 dL_law_242 dL_law_243 dL_law_244 dL_law_245 ?_
  refine q_arg (pc := 246) (k := 3) C (by omega) rfl dL_law_246 dL_law_247 dL_law_248 dL_law_249 dL_law_250 ?_
  refine q_cV (pc := 251) (As := [.int (xs (i + 1)), .int (xs (i + 2)), .int (xs (i + 3))]) (rest := [_]) C qz_27 dL_law_251 q2 c2 ⟨(show 3 = mN 118 by decide +kernel), (show 4 ≤ mL 118 by decide +kernel), (show mL 118 ≤ 10 by decide +kernel), (show 1 ≤ 4 by decide)⟩ r3 r4 rfl ?_
  exact q_eq (pc := 254) (tgt := 935) C dL_law_254 (by decide) (K h2 g' _ _ _ _ J)
theorem cs_unstyle (C : qC p s m meth c b L xs D cT S) (hN : X = s.heap.size) (hi : i + 4 ≤ L) (hk : k ≤ 512) (I : qI h g X k) (K : qNext p l e s m below meth c b D cT X i k) : qK p l e s m below meth c b D cT 259 (qLs b X i a4 a5 a6 a7) [] h := by
  obtain ⟨h1, h2, g', q1, q2, ⟨f1, c1⟩, ⟨f2, c2⟩, n1, n2, J⟩ := pr_unstyle I
  have r1 := q_room1 hN hk n1
  have r2 := q_room2 hk n2
  have r3 := q_room1 hN hk J.2.2.2.1
  have r4 := q_room2 hk J.2.2.2.2
  refine q_aload (pc := 259) (k := 1) (x := X) C dL_law_259 rfl ?_
  refine q_cV (pc := 260) (As := []) (rest := []) C qz_28 dL_law_260 q1 c1 ⟨(show 0 = mN 74 by decide +kernel), (show 1 ≤ mL 74 by decide +kernel), (show mL 74 ≤ 10 by decide +kernel), (show 0 ≤ 4 by decide)⟩ r1 r2 rfl ?_
  refine q_aload (pc := 263) (k := 2) (x := X + 180) C dL_law_263 rfl ?_
  refine q_cV (pc := 264) (As := []) (rest := [_]) C qz_32 dL_law_264 q2 c2 ⟨(show 0 = mN 119 by decide +kernel), (show 1 ≤ mL 119 by decide +kernel), (show mL 119 ≤ 10 by decide +kernel), (show 1 ≤ 4 by decide)⟩ r3 r4 rfl ?_
  exact q_eq (pc := 267) (tgt := 935) C dL_law_267 (by decide) (K h2 g' _ _ _ _ J)
theorem cs_flatten (C : qC p s m meth c b L xs D cT S) (hN : X = s.heap.size) (hi : i + 4 ≤ L) (hk : k ≤ 512) (I : qI h g X k) (K : qNext p l e s m below meth c b D cT X i k) : qK p l e s m below meth c b D cT 272 (qLs b X i a4 a5 a6 a7) [] h := by
  obtain ⟨h1, h2, g', q1, q2, ⟨f1, c1⟩, ⟨f2, c2⟩, n1, n2, J⟩ := pr_flatten I
  have r1 := q_room1 hN hk n1
  have r2 := q_room2 hk n2
  have r3 := q_room1 hN hk J.2.2.2.1
  have r4 := q_room2 hk J.2.2.2.2
  refine q_aload (pc := 272) (k := 1) (x := X) C dL_law_272 rfl ?_
  refine q_cV (pc := 273) (As := []) (rest := []) C qz_33 dL_law_273 q1 c1 ⟨(show 0 = mN 75 by decide +kernel), (show 1 ≤ mL 75 by decide +kernel), (show mL 75 ≤ 10 by decide +kernel), (show 0 ≤ 4 by decide)⟩ r1 r2 rfl ?_
  refine q_aload (pc := 276) (k := 2) (x := X + 180) C dL_law_276 rfl ?_
  refine q_cV (pc := 277) (As := []) (rest := [_]) C qz_36 dL_law_277 q2 c2 ⟨(show 0 = mN 123 by decide +kernel), (show 1 ≤ mL 123 by decide +kernel), (show mL 123 ≤ 10 by decide +kernel), (show 1 ≤ 4 by decide)⟩ r3 r4 rfl ?_
  exact q_eq (pc := 280) (tgt := 935) C dL_law_280 (by decide) (K h2 g' _ _ _ _ J)
theorem cs_styleAt (C : qC p s m meth c b L xs D cT S) (hN : X = s.heap.size) (hi : i + 4 ≤ L) (hk : k ≤ 512) (I : qI h g X k) (K : qNext p l e s m below meth c b D cT X i k) : qK p l e s m below meth c b D cT 285 (qLs b X i a4 a5 a6 a7) [] h := by
  obtain ⟨h1, h2, g', q1, q2, ⟨f1, c1⟩, ⟨f2, c2⟩, n1, n2, J⟩ := pr_styleAt I (xs (i + 1)) (xs (i + 2))
  have r1 := q_room1 hN hk n1
  have r2 := q_room2 hk n2
  have r3 := q_room1 hN hk J.2.2.2.1
  have r4 := q_room2 hk J.2.2.2.2
  refine q_aload (pc := 285) (k := 1) (x := X) C dL_law_285 rfl ?_
  refine q_arg (pc := 286) (k := 1) C (by omega) rfl dL_law_286 dL_law_287 dL_law_288 dL_law_289 dL_law_290 ?_
  refine q_arg (pc := 291) (k := 2) C (by omega) rfl dL_law_291 dL_law_292 dL_law_293 dL_law_294 dL_law_295 ?_
  refine q_cV (pc := 296) (As := [.int (xs (i + 1)), .int (xs (i + 2))]) (rest := []) C qz_37 dL_law_296 q1 c1 ⟨(show 2 = mN 76 by decide +kernel), (show 3 ≤ mL 76 by decide +kernel), (show mL 76 ≤ 10 by decide +kernel), (show 0 ≤ 4 by decide)⟩ r1 r2 rfl ?_
  refine q_aload (pc := 299) (k := 2) (x := X + 180) C dL_law_299 rfl ?_
  refine q_arg (pc := 300) (k := 1) C (by omega) rfl dL_law_300 dL_law_301 dL_law_302 dL_law_303 dL_law_304 ?_
  refine q_arg (pc := 305) (k := 2) C (by omega) rfl dL_law_305 dL_law_306 dL_law_307 dL_law_308 dL_law_309 ?_
  refine q_cV (pc := 310) (As := [.int (xs (i + 1)), .int (xs (i + 2))]) (rest := [_]) C qz_40 dL_law_310 q2 c2 ⟨(show 2 = mN 125 by decide +kernel), (show 3 ≤ mL 125 by decide +kernel), (show mL 125 ≤ 10 by decide +kernel), (show 1 ≤ 4 by decide)⟩ r3 r4 rfl ?_
  exact q_eq (pc := 313) (tgt := 935) C dL_law_313 (by decide) (K h2 g' _ _ _ _ J)
theorem cs_valueOf (C : qC p s m meth c b L xs D cT S) (hN : X = s.heap.size) (hi : i + 4 ≤ L) (hk : k ≤ 512) (I : qI h g X k) (K : qNext p l e s m below meth c b D cT X i k) : qK p l e s m below meth c b D cT 318 (qLs b X i a4 a5 a6 a7) [] h := by
  obtain ⟨h1, h2, g', q1, q2, ⟨f1, c1⟩, ⟨f2, c2⟩, n1, n2, J⟩ := pr_valueOf I (xs (i + 1)) (xs (i + 2))
  have r1 := q_room1 hN hk n1
  have r2 := q_room2 hk n2
  have r3 := q_room1 hN hk J.2.2.2.1
  have r4 := q_room2 hk J.2.2.2.2
  refine q_aload (pc := 318) (k := 1) (x := X) C dL_law_318 rfl ?_
  refine q_arg (pc := 319) (k := 1) C (by omega) rfl dL_law_319 dL_law_320 dL_law_321 dL_law_322 dL_law_323 ?_
  refine q_arg (pc := 324) (k := 2) C (by omega) rfl dL_law_324 dL_law_325 dL_law_326 dL_law_327 dL_law_328 ?_
  refine q_cV (pc := 329) (As := [.int (xs (i + 1)), .int (xs (i + 2))]) (rest := []) C qz_41 dL_law_329 q1 c1 ⟨(show 2 = mN 77 by decide +kernel), (show 3 ≤ mL 77 by decide +kernel), (show mL 77 ≤ 10 by decide +kernel), (show 0 ≤ 4 by decide)⟩ r1 r2 rfl ?_
  refine q_aload (pc := 332) (k := 2) (x := X + 180) C dL_law_332 rfl ?_
  refine q_arg (pc := 333) (k := 1) C (by omega) rfl dL_law_333 dL_law_334 dL_law_335 dL_law_336 dL_law_337 ?_
  refine q_arg (pc := 338) (k := 2) C (by omega) rfl dL_law_338 dL_law_339 dL_law_340 dL_law_341 dL_law_342 ?_
  refine q_cV (pc := 343) (As := [.int (xs (i + 1)), .int (xs (i + 2))]) (rest := [_]) C qz_44 dL_law_343 q2 c2 ⟨(show 2 = mN 126 by decide +kernel), (show 3 ≤ mL 126 by decide +kernel), (show mL 126 ≤ 10 by decide +kernel), (show 1 ≤ 4 by decide)⟩ r3 r4 rfl ?_
  exact q_eq (pc := 346) (tgt := 935) C dL_law_346 (by decide) (K h2 g' _ _ _ _ J)
theorem cs_from (C : qC p s m meth c b L xs D cT S) (hN : X = s.heap.size) (hi : i + 4 ≤ L) (hk : k ≤ 512) (I : qI h g X k) (K : qNext p l e s m below meth c b D cT X i k) : qK p l e s m below meth c b D cT 351 (qLs b X i a4 a5 a6 a7) [] h := by
  obtain ⟨h1, h2, g', q1, q2, ⟨f1, c1⟩, ⟨f2, c2⟩, n1, n2, J⟩ := pr_from I (xs (i + 1)) (xs (i + 2))
  have r1 := q_room1 hN hk n1
  have r2 := q_room2 hk n2
  have r3 := q_room1 hN hk J.2.2.2.1
  have r4 := q_room2 hk J.2.2.2.2
  refine q_aload (pc := 351) (k := 1) (x := X) C dL_law_351 rfl ?_
  refine q_arg (pc := 352) (k := 1) C (by omega) rfl dL_law_352 dL_law_353 dL_law_354 dL_law_355 dL_law_356 ?_
  refine q_arg (pc := 357) (k := 2) C (by omega) rfl dL_law_357 dL_law_358 dL_law_359 dL_law_360 dL_law_361 ?_
  refine q_cV (pc := 362) (As := [.int (xs (i + 1)), .int (xs (i + 2))]) (rest := []) C qz_45 dL_law_362 q1 c1 ⟨(show 2 = mN 78 by decide +kernel), (show 3 ≤ mL 78 by decide +kernel), (show mL 78 ≤ 10 by decide +kernel), (show 0 ≤ 4 by decide)⟩ r1 r2 rfl ?_
  refine q_aload (pc := 365) (k := 2) (x := X + 180) C dL_law_365 rfl ?_
  refine q_arg (pc := 366) (k := 1) C (by omega) rfl dL_law_366 dL_law_367 dL_law_368 dL_law_369 dL_law_370 ?_
  refine q_arg (pc := 371) (k := 2) C (by omega) rfl dL_law_371 dL_law_372 dL_law_373 dL_law_374 dL_law_375 ?_
  refine q_cV (pc := 376) (As := [.int (xs (i + 1)), .int (xs (i + 2))]) (rest := [_]) C qz_48 dL_law_376 q2 c2 ⟨(show 2 = mN 127 by decide +kernel), (show 3 ≤ mL 127 by decide +kernel), (show mL 127 ≤ 10 by decide +kernel), (show 1 ≤ 4 by decide)⟩ r3 r4 rfl ?_
  exact q_eq (pc := 379) (tgt := 935) C dL_law_379 (by decide) (K h2 g' _ _ _ _ J)
theorem cs_styles (C : qC p s m meth c b L xs D cT S) (hN : X = s.heap.size) (hi : i + 4 ≤ L) (hk : k ≤ 512) (I : qI h g X k) (K : qNext p l e s m below meth c b D cT X i k) : qK p l e s m below meth c b D cT 384 (qLs b X i a4 a5 a6 a7) [] h := by
  obtain ⟨h1, h2, g', q1, q2, ⟨f1, c1⟩, ⟨f2, c2⟩, n1, n2, J⟩ := pr_styles I
  have r1 := q_room1 hN hk n1
  have r2 := q_room2 hk n2
  have r3 := q_room1 hN hk J.2.2.2.1
  have r4 := q_room2 hk J.2.2.2.2
  refine q_aload (pc := 384) (k := 1) (x := X) C dL_law_384 rfl ?_
  refine q_cV (pc := 385) (As := []) (rest := []) C qz_49 dL_law_385 q1 c1 ⟨(show 0 = mN 79 by decide +kernel), (show 1 ≤ mL 79 by decide +kernel), (show mL 79 ≤ 10 by decide +kernel), (show 0 ≤ 4 by decide)⟩ r1 r2 rfl ?_
  refine q_aload (pc := 388) (k := 2) (x := X + 180) C dL_law_388 rfl ?_
  refine q_cV (pc := 389) (As := []) (rest := [_]) C qz_52 dL_law_389 q2 c2 ⟨(show 0 = mN 128 by decide +kernel), (show 1 ≤ mL 128 by decide +kernel), (show mL 128 ≤ 10 by decide +kernel), (show 1 ≤ 4 by decide)⟩ r3 r4 rfl ?_
  exact q_eq (pc := 392) (tgt := 935) C dL_law_392 (by decide) (K h2 g' _ _ _ _ J)
theorem cs_type (C : qC p s m meth c b L xs D cT S) (hN : X = s.heap.size) (hi : i + 4 ≤ L) (hk : k ≤ 512) (I : qI h g X k) (K : qNext p l e s m below meth c b D cT X i k) : qK p l e s m below meth c b D cT 397 (qLs b X i a4 a5 a6 a7) [] h := by
  obtain ⟨h1, h2, g', q1, q2, ⟨f1, c1⟩, ⟨f2, c2⟩, n1, n2, J⟩ := pr_type I (xs (i + 1))
  have r1 := q_room1 hN hk n1
  have r2 := q_room2 hk n2
  have r3 := q_room1 hN hk J.2.2.2.1
  have r4 := q_room2 hk J.2.2.2.2
  refine q_aload (pc := 397) (k := 1) (x := X) C dL_law_397 rfl ?_
  refine q_arg (pc := 398) (k := 1) C (by omega) rfl dL_law_398 dL_law_399 dL_law_400 dL_law_401 dL_law_402 ?_
  refine q_cV (pc := 403) (As := [.int (xs (i + 1))]) (rest := []) C qz_53 dL_law_403 q1 c1 ⟨(show 1 = mN 80 by decide +kernel), (show 2 ≤ mL 80 by decide +kernel), (show mL 80 ≤ 10 by decide +kernel), (show 0 ≤ 4 by decide)⟩ r1 r2 rfl ?_
  refine q_aload (pc := 406) (k := 2) (x := X + 180) C dL_law_406 rfl ?_
  refine q_arg (pc := 407) (k := 1) C (by omega) rfl dL_law_407 dL_law_408 dL_law_409 dL_law_410 dL_law_411 ?_
  refine q_cV (pc := 412) (As := [.int (xs (i + 1))]) (rest := [_]) C qz_56 dL_law_412 q2 c2 ⟨(show 1 = mN 129 by decide +kernel), (show 2 ≤ mL 129 by decide +kernel), (show mL 129 ≤ 10 by decide +kernel), (show 1 ≤ 4 by decide)⟩ r3 r4 rfl ?_
  exact q_eq (pc := 415) (tgt := 935) C dL_law_415 (by decide) (K h2 g' _ _ _ _ J)
theorem cs_clear (C : qC p s m meth c b L xs D cT S) (hN : X = s.heap.size) (hi : i + 4 ≤ L) (hk : k ≤ 512) (I : qI h g X k) (K : qNext p l e s m below meth c b D cT X i k) : qK p l e s m below meth c b D cT 420 (qLs b X i a4 a5 a6 a7) [] h := by
  obtain ⟨h1, h2, g', q1, q2, ⟨f1, c1⟩, ⟨f2, c2⟩, n1, n2, J⟩ := pr_clear I
  have r1 := q_room1 hN hk n1
  have r2 := q_room2 hk n2
  have r3 := q_room1 hN hk J.2.2.2.1
  have r4 := q_room2 hk J.2.2.2.2
  refine q_aload (pc := 420) (k := 1) (x := X) C dL_law_420 rfl ?_
  refine q_cV (pc := 421) (As := []) (rest := []) C qz_57 dL_law_421 q1 c1 ⟨(show 0 = mN 81 by decide +kernel), (show 1 ≤ mL 81 by decide +kernel), (show mL 81 ≤ 10 by decide +kernel), (show 0 ≤ 4 by decide)⟩ r1 r2 rfl ?_
  refine q_aload (pc := 424) (k := 2) (x := X + 180) C dL_law_424 rfl ?_
  refine q_cV (pc := 425) (As := []) (rest := [_]) C qz_60 dL_law_425 q2 c2 ⟨(show 0 = mN 130 by decide +kernel), (show 1 ≤ mL 130 by decide +kernel), (show mL 130 ≤ 10 by decide +kernel), (show 1 ≤ 4 by decide)⟩ r3 r4 rfl ?_
  exact q_eq (pc := 428) (tgt := 935) C dL_law_428 (by decide) (K h2 g' _ _ _ _ J)
theorem cs_line (C : qC p s m meth c b L xs D cT S) (hN : X = s.heap.size) (hi : i + 4 ≤ L) (hk : k ≤ 512) (I : qI h g X k) (K : qNext p l e s m below meth c b D cT X i k) : qK p l e s m below meth c b D cT 433 (qLs b X i a4 a5 a6 a7) [] h := by
  obtain ⟨h1, h2, g', q1, q2, ⟨f1, c1⟩, ⟨f2, c2⟩, n1, n2, J⟩ := pr_line I (xs (i + 1)) (xs (i + 2)) (xs (i + 3))
  have r1 := q_room1 hN hk n1
  have r2 := q_room2 hk n2
  have r3 := q_room1 hN hk J.2.2.2.1
  have r4 := q_room2 hk J.2.2.2.2
  refine q_aload (pc := 433) (k := 1) (x := X) C dL_law_433 rfl ?_
  refine q_arg (pc := 434) (k := 1) C (by omega) rfl dL_law_434 dL_law_435 dL_law_436 dL_law_437 dL_law_438 ?_
  refine q_arg (pc := 439) (k := 2) C (by omega) rfl dL_law_439 dL_law_440 dL_law_441 dL_law_442 dL_law_443 ?_
  refine q_arg (pc := 444) (k := 3) C (by omega) rfl dL_law_444 dL_law_445 dL_law_446 dL_law_447 dL_law_448 ?_
  refine q_cV (pc := 449) (As := [.int (xs (i + 1)), .int (xs (i + 2)), .int (xs (i + 3))]) (rest := []) C qz_61 dL_law_449 q1 c1 ⟨(show 3 = mN 82 by decide +kernel), (show 4 ≤ mL 82 by decide +kernel), (show mL 82 ≤ 10 by decide +kernel), (show 0 ≤ 4 by decide)⟩ r1 r2 rfl ?_
  refine q_aload (pc := 452) (k := 2) (x := X + 180) C dL_law_452 rfl ?_
  refine q_arg (pc := 453) (k := 1) C (by omega) rfl dL_law_453 dL_law_454 dL_law_455 dL_law_456 dL_law_457 ?_
  refine q_arg (pc := 458) (k := 2) C (by omega) rfl dL_law_458 dL_law_459 dL_law_460 dL_law_461 dL_law_462 ?_
  refine q_arg (pc := 463) (k := 3) C (by omega) rfl dL_law_463 dL_law_464 dL_law_465 dL_law_466 dL_law_467 ?_
  refine q_cV (pc := 468) (As := [.int (xs (i + 1)), .int (xs (i + 2)), .int (xs (i + 3))]) (rest := [_]) C qz_64 dL_law_468 q2 c2 ⟨(show 3 = mN 138 by decide +kernel), (show 4 ≤ mL 138 by decide +kernel), (show mL 138 ≤ 10 by decide +kernel), (show 1 ≤ 4 by decide)⟩ r3 r4 rfl ?_
  exact q_eq (pc := 471) (tgt := 935) C dL_law_471 (by decide) (K h2 g' _ _ _ _ J)
theorem cs_remove (C : qC p s m meth c b L xs D cT S) (hN : X = s.heap.size) (hi : i + 4 ≤ L) (hk : k ≤ 512) (I : qI h g X k) (K : qNext p l e s m below meth c b D cT X i k) : qK p l e s m below meth c b D cT 476 (qLs b X i a4 a5 a6 a7) [] h := by
  obtain ⟨h1, h2, g', q1, q2, ⟨f1, c1⟩, ⟨f2, c2⟩, n1, n2, J⟩ := pr_remove I (xs (i + 1))
  have r1 := q_room1 hN hk n1
  have r2 := q_room2 hk n2
  have r3 := q_room1 hN hk J.2.2.2.1
  have r4 := q_room2 hk J.2.2.2.2
  refine q_aload (pc := 476) (k := 1) (x := X) C dL_law_476 rfl ?_
  refine q_arg (pc := 477) (k := 1) C (by omega) rfl dL_law_477 dL_law_478 dL_law_479 dL_law_480 dL_law_481 ?_
  refine q_cV (pc := 482) (As := [.int (xs (i + 1))]) (rest := []) C qz_65 dL_law_482 q1 c1 ⟨(show 1 = mN 83 by decide +kernel), (show 2 ≤ mL 83 by decide +kernel), (show mL 83 ≤ 10 by decide +kernel), (show 0 ≤ 4 by decide)⟩ r1 r2 rfl ?_
  refine q_aload (pc := 485) (k := 2) (x := X + 180) C dL_law_485 rfl ?_
  refine q_arg (pc := 486) (k := 1) C (by omega) rfl dL_law_486 dL_law_487 dL_law_488 dL_law_489 dL_law_490 ?_
  refine q_cV (pc := 491) (As := [.int (xs (i + 1))]) (rest := [_]) C qz_68 dL_law_491 q2 c2 ⟨(show 1 = mN 139 by decide +kernel), (show 2 ≤ mL 139 by decide +kernel), (show mL 139 ≤ 10 by decide +kernel), (show 1 ≤ 4 by decide)⟩ r3 r4 rfl ?_
  exact q_eq (pc := 494) (tgt := 935) C dL_law_494 (by decide) (K h2 g' _ _ _ _ J)
theorem cs_change (C : qC p s m meth c b L xs D cT S) (hN : X = s.heap.size) (hi : i + 4 ≤ L) (hk : k ≤ 512) (I : qI h g X k) (K : qNext p l e s m below meth c b D cT X i k) : qK p l e s m below meth c b D cT 499 (qLs b X i a4 a5 a6 a7) [] h := by
  obtain ⟨h1, h2, g', q1, q2, ⟨f1, c1⟩, ⟨f2, c2⟩, n1, n2, J⟩ := pr_change I (xs (i + 1)) (xs (i + 2)) (xs (i + 3))
  have r1 := q_room1 hN hk n1
  have r2 := q_room2 hk n2
  have r3 := q_room1 hN hk J.2.2.2.1
  have r4 := q_room2 hk J.2.2.2.2
  refine q_aload (pc := 499) (k := 1) (x := X) C dL_law_499 rfl ?_
  refine q_arg (pc := 500) (k := 1) C (by omega) rfl dL_law_500 dL_law_501 dL_law_502 dL_law_503 dL_law_504 ?_
  refine q_arg (pc := 505) (k := 2) C (by omega) rfl dL_law_505 dL_law_506 dL_law_507 dL_law_508 dL_law_509 ?_
  refine q_arg (pc := 510) (k := 3) C (by omega) rfl dL_law_510 dL_law_511 dL_law_512 dL_law_513 dL_law_514 ?_
  refine q_cV (pc := 515) (As := [.int (xs (i + 1)), .int (xs (i + 2)), .int (xs (i + 3))]) (rest := []) C qz_69 dL_law_515 q1 c1 ⟨(show 3 = mN 84 by decide +kernel), (show 4 ≤ mL 84 by decide +kernel), (show mL 84 ≤ 10 by decide +kernel), (show 0 ≤ 4 by decide)⟩ r1 r2 rfl ?_
  refine q_aload (pc := 518) (k := 2) (x := X + 180) C dL_law_518 rfl ?_
  refine q_arg (pc := 519) (k := 1) C (by omega) rfl dL_law_519 dL_law_520 dL_law_521 dL_law_522 dL_law_523 ?_
  refine q_arg (pc := 524) (k := 2) C (by omega) rfl dL_law_524 dL_law_525 dL_law_526 dL_law_527 dL_law_528 ?_
  refine q_arg (pc := 529) (k := 3) C (by omega) rfl dL_law_529 dL_law_530 dL_law_531 dL_law_532 dL_law_533 ?_
  refine q_cV (pc := 534) (As := [.int (xs (i + 1)), .int (xs (i + 2)), .int (xs (i + 3))]) (rest := [_]) C qz_72 dL_law_534 q2 c2 ⟨(show 3 = mN 140 by decide +kernel), (show 4 ≤ mL 140 by decide +kernel), (show mL 140 ≤ 10 by decide +kernel), (show 1 ≤ 4 by decide)⟩ r3 r4 rfl ?_
  exact q_eq (pc := 537) (tgt := 935) C dL_law_537 (by decide) (K h2 g' _ _ _ _ J)
theorem cs_shift (C : qC p s m meth c b L xs D cT S) (hN : X = s.heap.size) (hi : i + 4 ≤ L) (hk : k ≤ 512) (I : qI h g X k) (K : qNext p l e s m below meth c b D cT X i k) : qK p l e s m below meth c b D cT 542 (qLs b X i a4 a5 a6 a7) [] h := by
  obtain ⟨h1, h2, g', q1, q2, ⟨f1, c1⟩, ⟨f2, c2⟩, n1, n2, J⟩ := pr_shift I (xs (i + 1)) (xs (i + 2))
  have r1 := q_room1 hN hk n1
  have r2 := q_room2 hk n2
  have r3 := q_room1 hN hk J.2.2.2.1
  have r4 := q_room2 hk J.2.2.2.2
  refine q_aload (pc := 542) (k := 1) (x := X) C dL_law_542 rfl ?_
  refine q_arg (pc := 543) (k := 1) C (by omega) rfl dL_law_543 dL_law_544 dL_law_545 dL_law_546 dL_law_547 ?_
  refine q_arg (pc := 548) (k := 2) C (by omega) rfl dL_law_548 dL_law_549 dL_law_550 dL_law_551 dL_law_552 ?_
  refine q_cV (pc := 553) (As := [.int (xs (i + 1)), .int (xs (i + 2))]) (rest := []) C qz_73 dL_law_553 q1 c1 ⟨(show 2 = mN 86 by decide +kernel), (show 3 ≤ mL 86 by decide +kernel), (show mL 86 ≤ 10 by decide +kernel), (show 0 ≤ 4 by decide)⟩ r1 r2 rfl ?_
  refine q_aload (pc := 556) (k := 2) (x := X + 180) C dL_law_556 rfl ?_
  refine q_arg (pc := 557) (k := 1) C (by omega) rfl dL_law_557 dL_law_558 dL_law_559 dL_law_560 dL_law_561 ?_
  refine q_arg (pc := 562) (k := 2) C (by omega) rfl dL_law_562 dL_law_563 dL_law_564 dL_law_565 dL_law_566 ?_
  refine q_cV (pc := 567) (As := [.int (xs (i + 1)), .int (xs (i + 2))]) (rest := [_]) C qz_76 dL_law_567 q2 c2 ⟨(show 2 = mN 141 by decide +kernel), (show 3 ≤ mL 141 by decide +kernel), (show mL 141 ≤ 10 by decide +kernel), (show 1 ≤ 4 by decide)⟩ r3 r4 rfl ?_
  exact q_eq (pc := 570) (tgt := 935) C dL_law_570 (by decide) (K h2 g' _ _ _ _ J)
theorem cs_setHeight (C : qC p s m meth c b L xs D cT S) (hN : X = s.heap.size) (hi : i + 4 ≤ L) (hk : k ≤ 512) (I : qI h g X k) (K : qNext p l e s m below meth c b D cT X i k) : qK p l e s m below meth c b D cT 575 (qLs b X i a4 a5 a6 a7) [] h := by
  obtain ⟨h1, h2, g', q1, q2, ⟨f1, c1⟩, ⟨f2, c2⟩, n1, n2, J⟩ := pr_setHeight I (xs (i + 1))
  have r1 := q_room1 hN hk n1
  have r2 := q_room2 hk n2
  have r3 := q_room1 hN hk J.2.2.2.1
  have r4 := q_room2 hk J.2.2.2.2
  refine q_aload (pc := 575) (k := 1) (x := X) C dL_law_575 rfl ?_
  refine q_arg (pc := 576) (k := 1) C (by omega) rfl dL_law_576 dL_law_577 dL_law_578 dL_law_579 dL_law_580 ?_
  refine q_cV (pc := 581) (As := [.int (xs (i + 1))]) (rest := []) C qz_77 dL_law_581 q1 c1 ⟨(show 1 = mN 87 by decide +kernel), (show 2 ≤ mL 87 by decide +kernel), (show mL 87 ≤ 10 by decide +kernel), (show 0 ≤ 4 by decide)⟩ r1 r2 rfl ?_
  refine q_aload (pc := 584) (k := 2) (x := X + 180) C dL_law_584 rfl ?_
  refine q_arg (pc := 585) (k := 1) C (by omega) rfl dL_law_585 dL_law_586 dL_law_587 dL_law_588 dL_law_589 ?_
  refine q_cV (pc := 590) (As := [.int (xs (i + 1))]) (rest := [_]) C qz_80 dL_law_590 q2 c2 ⟨(show 1 = mN 142 by decide +kernel), (show 2 ≤ mL 142 by decide +kernel), (show mL 142 ≤ 10 by decide +kernel), (show 1 ≤ 4 by decide)⟩ r3 r4 rfl ?_
  exact q_eq (pc := 593) (tgt := 935) C dL_law_593 (by decide) (K h2 g' _ _ _ _ J)
theorem cs_about (C : qC p s m meth c b L xs D cT S) (hN : X = s.heap.size) (hi : i + 4 ≤ L) (hk : k ≤ 512) (I : qI h g X k) (K : qNext p l e s m below meth c b D cT X i k) : qK p l e s m below meth c b D cT 598 (qLs b X i a4 a5 a6 a7) [] h := by
  obtain ⟨h1, h2, g', q1, q2, ⟨f1, c1⟩, ⟨f2, c2⟩, n1, n2, J⟩ := pr_about I (xs (i + 1)) (xs (i + 2))
  have r1 := q_room1 hN hk n1
  have r2 := q_room2 hk n2
  have r3 := q_room1 hN hk J.2.2.2.1
  have r4 := q_room2 hk J.2.2.2.2
  refine q_aload (pc := 598) (k := 1) (x := X) C dL_law_598 rfl ?_
  refine q_arg (pc := 599) (k := 1) C (by omega) rfl dL_law_599 dL_law_600 dL_law_601 dL_law_602 dL_law_603 ?_
  refine q_arg (pc := 604) (k := 2) C (by omega) rfl dL_law_604 dL_law_605 dL_law_606 dL_law_607 dL_law_608 ?_
  refine q_cV (pc := 609) (As := [.int (xs (i + 1)), .int (xs (i + 2))]) (rest := []) C qz_81 dL_law_609 q1 c1 ⟨(show 2 = mN 88 by decide +kernel), (show 3 ≤ mL 88 by decide +kernel), (show mL 88 ≤ 10 by decide +kernel), (show 0 ≤ 4 by decide)⟩ r1 r2 rfl ?_
  refine q_aload (pc := 612) (k := 2) (x := X + 180) C dL_law_612 rfl ?_
  refine q_arg (pc := 613) (k := 1) C (by omega) rfl dL_law_613 dL_law_614 dL_law_615 dL_law_616 dL_law_617 ?_
  refine q_arg (pc := 618) (k := 2) C (by omega) rfl dL_law_618 dL_law_619 dL_law_620 dL_law_621 dL_law_622 ?_
  refine q_cV (pc := 623) (As := [.int (xs (i + 1)), .int (xs (i + 2))]) (rest := [_]) C qz_84 dL_law_623 q2 c2 ⟨(show 2 = mN 154 by decide +kernel), (show 3 ≤ mL 154 by decide +kernel), (show mL 154 ≤ 10 by decide +kernel), (show 1 ≤ 4 by decide)⟩ r3 r4 rfl ?_
  exact q_eq (pc := 626) (tgt := 935) C dL_law_626 (by decide) (K h2 g' _ _ _ _ J)
theorem cs_lines (C : qC p s m meth c b L xs D cT S) (hN : X = s.heap.size) (hi : i + 4 ≤ L) (hk : k ≤ 512) (I : qI h g X k) (K : qNext p l e s m below meth c b D cT X i k) : qK p l e s m below meth c b D cT 631 (qLs b X i a4 a5 a6 a7) [] h := by
  obtain ⟨h1, h2, g', q1, q2, ⟨f1, c1⟩, ⟨f2, c2⟩, n1, n2, J⟩ := pr_lines I
  have r1 := q_room1 hN hk n1
  have r2 := q_room2 hk n2
  have r3 := q_room1 hN hk J.2.2.2.1
  have r4 := q_room2 hk J.2.2.2.2
  refine q_aload (pc := 631) (k := 1) (x := X) C dL_law_631 rfl ?_
  refine q_cV (pc := 632) (As := []) (rest := []) C qz_85 dL_law_632 q1 c1 ⟨(show 0 = mN 89 by decide +kernel), (show 1 ≤ mL 89 by decide +kernel), (show mL 89 ≤ 10 by decide +kernel), (show 0 ≤ 4 by decide)⟩ r1 r2 rfl ?_
  refine q_aload (pc := 635) (k := 2) (x := X + 180) C dL_law_635 rfl ?_
  refine q_cV (pc := 636) (As := []) (rest := [_]) C qz_88 dL_law_636 q2 c2 ⟨(show 0 = mN 155 by decide +kernel), (show 1 ≤ mL 155 by decide +kernel), (show mL 155 ≤ 10 by decide +kernel), (show 1 ≤ 4 by decide)⟩ r3 r4 rfl ?_
  exact q_eq (pc := 639) (tgt := 935) C dL_law_639 (by decide) (K h2 g' _ _ _ _ J)
theorem cs_sign (C : qC p s m meth c b L xs D cT S) (hN : X = s.heap.size) (hi : i + 4 ≤ L) (hk : k ≤ 512) (I : qI h g X k) (K : qNext p l e s m below meth c b D cT X i k) : qK p l e s m below meth c b D cT 644 (qLs b X i a4 a5 a6 a7) [] h := by
  obtain ⟨h1, h2, g', q1, q2, ⟨f1, c1⟩, ⟨f2, c2⟩, n1, n2, J⟩ := pr_sign I (xs (i + 1)) (xs (i + 2)) (xs (i + 3))
  have r1 := q_room1 hN hk n1
  have r2 := q_room2 hk n2
  have r3 := q_room1 hN hk J.2.2.2.1
  have r4 := q_room2 hk J.2.2.2.2
  refine q_aload (pc := 644) (k := 1) (x := X) C dL_law_644 rfl ?_
  refine q_arg (pc := 645) (k := 1) C (by omega) rfl dL_law_645 dL_law_646 dL_law_647 dL_law_648 dL_law_649 ?_
  refine q_arg (pc := 650) (k := 2) C (by omega) rfl dL_law_650 dL_law_651 dL_law_652 dL_law_653 dL_law_654 ?_
  refine q_arg (pc := 655) (k := 3) C (by omega) rfl dL_law_655 dL_law_656 dL_law_657 dL_law_658 dL_law_659 ?_
  refine q_cV (pc := 660) (As := [.int (xs (i + 1)), .int (xs (i + 2)), .int (xs (i + 3))]) (rest := []) C qz_89 dL_law_660 q1 c1 ⟨(show 3 = mN 90 by decide +kernel), (show 4 ≤ mL 90 by decide +kernel), (show mL 90 ≤ 10 by decide +kernel), (show 0 ≤ 4 by decide)⟩ r1 r2 rfl ?_
  refine q_aload (pc := 663) (k := 2) (x := X + 180) C dL_law_663 rfl ?_
  refine q_arg (pc := 664) (k := 1) C (by omega) rfl dL_law_664 dL_law_665 dL_law_666 dL_law_667 dL_law_668 ?_
  refine q_arg (pc := 669) (k := 2) C (by omega) rfl dL_law_669 dL_law_670 dL_law_671 dL_law_672 dL_law_673 ?_
  refine q_arg (pc := 674) (k := 3) C (by omega) rfl dL_law_674 dL_law_675 dL_law_676 dL_law_677 dL_law_678 ?_
  refine q_cV (pc := 679) (As := [.int (xs (i + 1)), .int (xs (i + 2)), .int (xs (i + 3))]) (rest := [_]) C qz_92 dL_law_679 q2 c2 ⟨(show 3 = mN 156 by decide +kernel), (show 4 ≤ mL 156 by decide +kernel), (show mL 156 ≤ 10 by decide +kernel), (show 1 ≤ 4 by decide)⟩ r3 r4 rfl ?_
  exact q_eq (pc := 682) (tgt := 935) C dL_law_682 (by decide) (K h2 g' _ _ _ _ J)
theorem cs_syllable (C : qC p s m meth c b L xs D cT S) (hN : X = s.heap.size) (hi : i + 4 ≤ L) (hk : k ≤ 512) (I : qI h g X k) (K : qNext p l e s m below meth c b D cT X i k) : qK p l e s m below meth c b D cT 687 (qLs b X i a4 a5 a6 a7) [] h := by
  obtain ⟨h1, h2, g', q1, q2, ⟨f1, c1⟩, ⟨f2, c2⟩, n1, n2, J⟩ := pr_syllable I (xs (i + 1)) (xs (i + 2)) (xs (i + 3))
  have r1 := q_room1 hN hk n1
  have r2 := q_room2 hk n2
  have r3 := q_room1 hN hk J.2.2.2.1
  have r4 := q_room2 hk J.2.2.2.2
  refine q_aload (pc := 687) (k := 1) (x := X) C dL_law_687 rfl ?_
  refine q_arg (pc := 688) (k := 1) C (by omega) rfl dL_law_688 dL_law_689 dL_law_690 dL_law_691 dL_law_692 ?_
  refine q_arg (pc := 693) (k := 2) C (by omega) rfl dL_law_693 dL_law_694 dL_law_695 dL_law_696 dL_law_697 ?_
  refine q_arg (pc := 698) (k := 3) C (by omega) rfl dL_law_698 dL_law_699 dL_law_700 dL_law_701 dL_law_702 ?_
  refine q_cV (pc := 703) (As := [.int (xs (i + 1)), .int (xs (i + 2)), .int (xs (i + 3))]) (rest := []) C qz_93 dL_law_703 q1 c1 ⟨(show 3 = mN 91 by decide +kernel), (show 4 ≤ mL 91 by decide +kernel), (show mL 91 ≤ 10 by decide +kernel), (show 0 ≤ 4 by decide)⟩ r1 r2 rfl ?_
  refine q_aload (pc := 706) (k := 2) (x := X + 180) C dL_law_706 rfl ?_
  refine q_arg (pc := 707) (k := 1) C (by omega) rfl dL_law_707 dL_law_708 dL_law_709 dL_law_710 dL_law_711 ?_
  refine q_arg (pc := 712) (k := 2) C (by omega) rfl dL_law_712 dL_law_713 dL_law_714 dL_law_715 dL_law_716 ?_
  refine q_arg (pc := 717) (k := 3) C (by omega) rfl dL_law_717 dL_law_718 dL_law_719 dL_law_720 dL_law_721 ?_
  refine q_cV (pc := 722) (As := [.int (xs (i + 1)), .int (xs (i + 2)), .int (xs (i + 3))]) (rest := [_]) C qz_96 dL_law_722 q2 c2 ⟨(show 3 = mN 159 by decide +kernel), (show 4 ≤ mL 159 by decide +kernel), (show mL 159 ≤ 10 by decide +kernel), (show 1 ≤ 4 by decide)⟩ r3 r4 rfl ?_
  exact q_eq (pc := 725) (tgt := 935) C dL_law_725 (by decide) (K h2 g' _ _ _ _ J)
theorem cs_fit (C : qC p s m meth c b L xs D cT S) (hN : X = s.heap.size) (hi : i + 4 ≤ L) (hk : k ≤ 512) (I : qI h g X k) (K : qNext p l e s m below meth c b D cT X i k) : qK p l e s m below meth c b D cT 730 (qLs b X i a4 a5 a6 a7) [] h := by
  obtain ⟨h1, h2, g', q1, q2, ⟨f1, c1⟩, ⟨f2, c2⟩, n1, n2, J⟩ := pr_fit I (xs (i + 1))
  have r1 := q_room1 hN hk n1
  have r2 := q_room2 hk n2
  have r3 := q_room1 hN hk J.2.2.2.1
  have r4 := q_room2 hk J.2.2.2.2
  refine q_aload (pc := 730) (k := 1) (x := X) C dL_law_730 rfl ?_
  refine q_arg (pc := 731) (k := 1) C (by omega) rfl dL_law_731 dL_law_732 dL_law_733 dL_law_734 dL_law_735 ?_
  refine q_cV (pc := 736) (As := [.int (xs (i + 1))]) (rest := []) C qz_97 dL_law_736 q1 c1 ⟨(show 1 = mN 92 by decide +kernel), (show 2 ≤ mL 92 by decide +kernel), (show mL 92 ≤ 10 by decide +kernel), (show 0 ≤ 4 by decide)⟩ r1 r2 rfl ?_
  refine q_aload (pc := 739) (k := 2) (x := X + 180) C dL_law_739 rfl ?_
  refine q_arg (pc := 740) (k := 1) C (by omega) rfl dL_law_740 dL_law_741 dL_law_742 dL_law_743 dL_law_744 ?_
  refine q_cV (pc := 745) (As := [.int (xs (i + 1))]) (rest := [_]) C qz_100 dL_law_745 q2 c2 ⟨(show 1 = mN 160 by decide +kernel), (show 2 ≤ mL 160 by decide +kernel), (show mL 160 ≤ 10 by decide +kernel), (show 1 ≤ 4 by decide)⟩ r3 r4 rfl ?_
  exact q_eq (pc := 748) (tgt := 935) C dL_law_748 (by decide) (K h2 g' _ _ _ _ J)
theorem cs_shows (C : qC p s m meth c b L xs D cT S) (hN : X = s.heap.size) (hi : i + 4 ≤ L) (hk : k ≤ 512) (I : qI h g X k) (K : qNext p l e s m below meth c b D cT X i k) : qK p l e s m below meth c b D cT 753 (qLs b X i a4 a5 a6 a7) [] h := by
  obtain ⟨h1, h2, g', q1, q2, ⟨f1, c1⟩, ⟨f2, c2⟩, n1, n2, J⟩ := pr_shows I (xs (i + 1)) (xs (i + 2)) (xs (i + 3))
  have r1 := q_room1 hN hk n1
  have r2 := q_room2 hk n2
  have r3 := q_room1 hN hk J.2.2.2.1
  have r4 := q_room2 hk J.2.2.2.2
  refine q_aload (pc := 753) (k := 1) (x := X) C dL_law_753 rfl ?_
  refine q_arg (pc := 754) (k := 1) C (by omega) rfl dL_law_754 dL_law_755 dL_law_756 dL_law_757 dL_law_758 ?_
  refine q_arg (pc := 759) (k := 2) C (by omega) rfl dL_law_759 dL_law_760 dL_law_761 dL_law_762 dL_law_763 ?_
  refine q_arg (pc := 764) (k := 3) C (by omega) rfl dL_law_764 dL_law_765 dL_law_766 dL_law_767 dL_law_768 ?_
  refine q_cV (pc := 769) (As := [.int (xs (i + 1)), .int (xs (i + 2)), .int (xs (i + 3))]) (rest := []) C qz_101 dL_law_769 q1 c1 ⟨(show 3 = mN 93 by decide +kernel), (show 4 ≤ mL 93 by decide +kernel), (show mL 93 ≤ 10 by decide +kernel), (show 0 ≤ 4 by decide)⟩ r1 r2 rfl ?_
  refine q_aload (pc := 772) (k := 2) (x := X + 180) C dL_law_772 rfl ?_
  refine q_arg (pc := 773) (k := 1) C (by omega) rfl dL_law_773 dL_law_774 dL_law_775 dL_law_776 dL_law_777 ?_
  refine q_arg (pc := 778) (k := 2) C (by omega) rfl dL_law_778 dL_law_779 dL_law_780 dL_law_781 dL_law_782 ?_
  refine q_arg (pc := 783) (k := 3) C (by omega) rfl dL_law_783 dL_law_784 dL_law_785 dL_law_786 dL_law_787 ?_
  refine q_cV (pc := 788) (As := [.int (xs (i + 1)), .int (xs (i + 2)), .int (xs (i + 3))]) (rest := [_]) C qz_104 dL_law_788 q2 c2 ⟨(show 3 = mN 162 by decide +kernel), (show 4 ≤ mL 162 by decide +kernel), (show mL 162 ≤ 10 by decide +kernel), (show 1 ≤ 4 by decide)⟩ r3 r4 rfl ?_
  exact q_eq (pc := 791) (tgt := 935) C dL_law_791 (by decide) (K h2 g' _ _ _ _ J)
theorem cs_shown (C : qC p s m meth c b L xs D cT S) (hN : X = s.heap.size) (hi : i + 4 ≤ L) (hk : k ≤ 512) (I : qI h g X k) (K : qNext p l e s m below meth c b D cT X i k) : qK p l e s m below meth c b D cT 796 (qLs b X i a4 a5 a6 a7) [] h := by
  obtain ⟨h1, h2, g', q1, q2, ⟨f1, c1⟩, ⟨f2, c2⟩, n1, n2, J⟩ := pr_shown I (xs (i + 1)) (xs (i + 2))
  have r1 := q_room1 hN hk n1
  have r2 := q_room2 hk n2
  have r3 := q_room1 hN hk J.2.2.2.1
  have r4 := q_room2 hk J.2.2.2.2
  refine q_aload (pc := 796) (k := 1) (x := X) C dL_law_796 rfl ?_
  refine q_arg (pc := 797) (k := 1) C (by omega) rfl dL_law_797 dL_law_798 dL_law_799 dL_law_800 dL_law_801 ?_
  refine q_arg (pc := 802) (k := 2) C (by omega) rfl dL_law_802 dL_law_803 dL_law_804 dL_law_805 dL_law_806 ?_
  refine q_cV (pc := 807) (As := [.int (xs (i + 1)), .int (xs (i + 2))]) (rest := []) C qz_105 dL_law_807 q1 c1 ⟨(show 2 = mN 94 by decide +kernel), (show 3 ≤ mL 94 by decide +kernel), (show mL 94 ≤ 10 by decide +kernel), (show 0 ≤ 4 by decide)⟩ r1 r2 rfl ?_
  refine q_aload (pc := 810) (k := 2) (x := X + 180) C dL_law_810 rfl ?_
  refine q_arg (pc := 811) (k := 1) C (by omega) rfl dL_law_811 dL_law_812 dL_law_813 dL_law_814 dL_law_815 ?_
  refine q_arg (pc := 816) (k := 2) C (by omega) rfl dL_law_816 dL_law_817 dL_law_818 dL_law_819 dL_law_820 ?_
  refine q_cV (pc := 821) (As := [.int (xs (i + 1)), .int (xs (i + 2))]) (rest := [_]) C qz_108 dL_law_821 q2 c2 ⟨(show 2 = mN 164 by decide +kernel), (show 3 ≤ mL 164 by decide +kernel), (show mL 164 ≤ 10 by decide +kernel), (show 1 ≤ 4 by decide)⟩ r3 r4 rfl ?_
  exact q_eq (pc := 824) (tgt := 935) C dL_law_824 (by decide) (K h2 g' _ _ _ _ J)
theorem cs_crowd (C : qC p s m meth c b L xs D cT S) (hN : X = s.heap.size) (hi : i + 4 ≤ L) (hk : k ≤ 512) (I : qI h g X k) (K : qNext p l e s m below meth c b D cT X i k) : qK p l e s m below meth c b D cT 829 (qLs b X i a4 a5 a6 a7) [] h := by
  obtain ⟨h1, h2, g', q1, q2, ⟨f1, c1⟩, ⟨f2, c2⟩, n1, n2, J⟩ := pr_crowd I
  have r1 := q_room1 hN hk n1
  have r2 := q_room2 hk n2
  have r3 := q_room1 hN hk J.2.2.2.1
  have r4 := q_room2 hk J.2.2.2.2
  refine q_aload (pc := 829) (k := 1) (x := X) C dL_law_829 rfl ?_
  refine q_cV (pc := 830) (As := []) (rest := []) C qz_109 dL_law_830 q1 c1 ⟨(show 0 = mN 95 by decide +kernel), (show 1 ≤ mL 95 by decide +kernel), (show mL 95 ≤ 10 by decide +kernel), (show 0 ≤ 4 by decide)⟩ r1 r2 rfl ?_
  refine q_aload (pc := 833) (k := 2) (x := X + 180) C dL_law_833 rfl ?_
  refine q_cV (pc := 834) (As := []) (rest := [_]) C qz_112 dL_law_834 q2 c2 ⟨(show 0 = mN 166 by decide +kernel), (show 1 ≤ mL 166 by decide +kernel), (show mL 166 ≤ 10 by decide +kernel), (show 1 ≤ 4 by decide)⟩ r3 r4 rfl ?_
  exact q_eq (pc := 837) (tgt := 935) C dL_law_837 (by decide) (K h2 g' _ _ _ _ J)
theorem cs_sung (C : qC p s m meth c b L xs D cT S) (hN : X = s.heap.size) (hi : i + 4 ≤ L) (hk : k ≤ 512) (I : qI h g X k) (K : qNext p l e s m below meth c b D cT X i k) : qK p l e s m below meth c b D cT 842 (qLs b X i a4 a5 a6 a7) [] h := by
  obtain ⟨h1, h2, g', q1, q2, ⟨f1, c1⟩, ⟨f2, c2⟩, n1, n2, J⟩ := pr_sung I (xs (i + 1))
  have r1 := q_room1 hN hk n1
  have r2 := q_room2 hk n2
  have r3 := q_room1 hN hk J.2.2.2.1
  have r4 := q_room2 hk J.2.2.2.2
  refine q_aload (pc := 842) (k := 1) (x := X) C dL_law_842 rfl ?_
  refine q_arg (pc := 843) (k := 1) C (by omega) rfl dL_law_843 dL_law_844 dL_law_845 dL_law_846 dL_law_847 ?_
  refine q_cV (pc := 848) (As := [.int (xs (i + 1))]) (rest := []) C qz_113 dL_law_848 q1 c1 ⟨(show 1 = mN 96 by decide +kernel), (show 2 ≤ mL 96 by decide +kernel), (show mL 96 ≤ 10 by decide +kernel), (show 0 ≤ 4 by decide)⟩ r1 r2 rfl ?_
  have z1 := f2d_ok (qSung_ok g (xs (i + 1)) I.2.2.1)
  refine q_f2d (pc := 851) C dL_law_851 z1 ?_
  refine q_dstore (pc := 852) (k := 4) C dL_law_852 ⟨(show 5 < 8 by decide), rfl⟩ ?_
  show qK p l e s m below meth c b D cT 854 (qLs b X i (some (.double (FP.f2d (qSung g (xs (i + 1)))))) none a6 a7) [] h1
  refine q_aload (pc := 854) (k := 2) (x := X + 180) C dL_law_854 rfl ?_
  refine q_arg (pc := 855) (k := 1) C (by omega) rfl dL_law_855 dL_law_856 dL_law_857 dL_law_858 dL_law_859 ?_
  refine q_cV (pc := 860) (As := [.int (xs (i + 1))]) (rest := []) C qz_117 dL_law_860 q2 c2 ⟨(show 1 = mN 167 by decide +kernel), (show 2 ≤ mL 167 by decide +kernel), (show mL 167 ≤ 10 by decide +kernel), (show 0 ≤ 4 by decide)⟩ r3 r4 rfl ?_
  refine q_f2d (pc := 863) C dL_law_863 z1 ?_
  refine q_dstore (pc := 864) (k := 6) C dL_law_864 ⟨(show 7 < 8 by decide), rfl⟩ ?_
  show qK p l e s m below meth c b D cT 866 (qLs b X i (some (.double (FP.f2d (qSung g (xs (i + 1)))))) none (some (.double (FP.f2d (qSung g (xs (i + 1)))))) none) [] h2
  refine q_dload (pc := 866) (k := 4) C dL_law_866 rfl ?_
  refine q_dload (pc := 868) (k := 6) C dL_law_868 rfl ?_
  refine q_dcmp (pc := 870) C dL_law_870 (dcmp_same z1) ?_
  refine q_ifeq (pc := 871) (tgt := 892) C dL_law_871 (by decide) ?_
  exact q_goto (pc := 892) (tgt := 935) C dL_law_892 (by decide) (K h2 g' _ _ _ _ J)
theorem cs_unlike (C : qC p s m meth c b L xs D cT S) (hN : X = s.heap.size) (hi : i + 4 ≤ L) (hk : k ≤ 512) (I : qI h g X k) (K : qNext p l e s m below meth c b D cT X i k) : qK p l e s m below meth c b D cT 895 (qLs b X i a4 a5 a6 a7) [] h := by
  obtain ⟨h1, h2, g', q1, q2, ⟨f1, c1⟩, ⟨f2, c2⟩, n1, n2, J⟩ := pr_unlike I
  have r1 := q_room1 hN hk n1
  have r2 := q_room2 hk n2
  have r3 := q_room1 hN hk J.2.2.2.1
  have r4 := q_room2 hk J.2.2.2.2
  refine q_aload (pc := 895) (k := 1) (x := X) C dL_law_895 rfl ?_
  refine q_cV (pc := 896) (As := []) (rest := []) C qz_118 dL_law_896 q1 c1 ⟨(show 0 = mN 97 by decide +kernel), (show 1 ≤ mL 97 by decide +kernel), (show mL 97 ≤ 10 by decide +kernel), (show 0 ≤ 4 by decide)⟩ r1 r2 rfl ?_
  refine q_aload (pc := 899) (k := 2) (x := X + 180) C dL_law_899 rfl ?_
  refine q_cV (pc := 900) (As := []) (rest := [_]) C qz_121 dL_law_900 q2 c2 ⟨(show 0 = mN 169 by decide +kernel), (show 1 ≤ mL 169 by decide +kernel), (show mL 169 ≤ 10 by decide +kernel), (show 1 ≤ 4 by decide)⟩ r3 r4 rfl ?_
  exact q_eq (pc := 903) (tgt := 935) C dL_law_903 (by decide) (K h2 g' _ _ _ _ J)
theorem cs_undo (C : qC p s m meth c b L xs D cT S) (hN : X = s.heap.size) (hi : i + 4 ≤ L) (hk : k ≤ 512) (I : qI h g X k) (K : qNext p l e s m below meth c b D cT X i k) : qK p l e s m below meth c b D cT 908 (qLs b X i a4 a5 a6 a7) [] h := by
  obtain ⟨h1, h2, g', q1, q2, ⟨f1, c1⟩, ⟨f2, c2⟩, n1, n2, J⟩ := pr_undo I
  have r1 := q_room1 hN hk n1
  have r2 := q_room2 hk n2
  have r3 := q_room1 hN hk J.2.2.2.1
  have r4 := q_room2 hk J.2.2.2.2
  refine q_aload (pc := 908) (k := 1) (x := X) C dL_law_908 rfl ?_
  refine q_cV (pc := 909) (As := []) (rest := []) C qz_122 dL_law_909 q1 c1 ⟨(show 0 = mN 98 by decide +kernel), (show 1 ≤ mL 98 by decide +kernel), (show mL 98 ≤ 10 by decide +kernel), (show 0 ≤ 4 by decide)⟩ r1 r2 rfl ?_
  refine q_aload (pc := 912) (k := 2) (x := X + 180) C dL_law_912 rfl ?_
  refine q_cV (pc := 913) (As := []) (rest := [_]) C qz_125 dL_law_913 q2 c2 ⟨(show 0 = mN 170 by decide +kernel), (show 1 ≤ mL 170 by decide +kernel), (show mL 170 ≤ 10 by decide +kernel), (show 1 ≤ 4 by decide)⟩ r3 r4 rfl ?_
  exact q_eq (pc := 916) (tgt := 935) C dL_law_916 (by decide) (K h2 g' _ _ _ _ J)
theorem cs_fingerprint (C : qC p s m meth c b L xs D cT S) (hN : X = s.heap.size) (hi : i + 4 ≤ L) (hk : k ≤ 512) (I : qI h g X k) (K : qNext p l e s m below meth c b D cT X i k) : qK p l e s m below meth c b D cT 921 (qLs b X i a4 a5 a6 a7) [] h := by
  obtain ⟨h1, h2, g', q1, q2, ⟨f1, c1⟩, ⟨f2, c2⟩, n1, n2, J⟩ := pr_fingerprint I
  have r1 := q_room1 hN hk n1
  have r2 := q_room2 hk n2
  have r3 := q_room1 hN hk J.2.2.2.1
  have r4 := q_room2 hk J.2.2.2.2
  refine q_aload (pc := 921) (k := 1) (x := X) C dL_law_921 rfl ?_
  refine q_cV (pc := 922) (As := []) (rest := []) C qz_126 dL_law_922 q1 c1 ⟨(show 0 = mN 99 by decide +kernel), (show 1 ≤ mL 99 by decide +kernel), (show mL 99 ≤ 10 by decide +kernel), (show 0 ≤ 4 by decide)⟩ r1 r2 rfl ?_
  refine q_aload (pc := 925) (k := 2) (x := X + 180) C dL_law_925 rfl ?_
  refine q_cV (pc := 926) (As := []) (rest := [_]) C qz_130 dL_law_926 q2 c2 ⟨(show 0 = mN 171 by decide +kernel), (show 1 ≤ mL 171 by decide +kernel), (show mL 171 ≤ 10 by decide +kernel), (show 1 ≤ 4 by decide)⟩ r3 r4 rfl ?_
  refine q_lcmp (pc := 929) C dL_law_929 ?_
  exact q_ifeq (pc := 930) (tgt := 935) C dL_law_930 (by decide) (K h2 g' _ _ _ _ J)
end QA
