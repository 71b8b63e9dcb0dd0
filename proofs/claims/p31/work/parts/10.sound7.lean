/-- what a step makes is counted -/
def zle (h h' : Hp) : Prop := h.2.1 ≤ h'.2.1 ∧ h.2.2 ≤ h'.2.2
theorem zle.rf (h : Hp) : zle h h := ⟨Nat.le_refl _, Nat.le_refl _⟩
theorem zle.tr {a b c : Hp} (h1 : zle a b) (h2 : zle b c) : zle a c := ⟨Nat.le_trans h1.1 h2.1, Nat.le_trans h1.2 h2.2⟩
theorem zkd_three : zCl.all (fun q => Nat.ble q.2.2.2.1 3) = true := by decide +kernel
theorem zkd_two {own idx y k : Nat} (h : zmth own idx = some (y, k)) (hk : 2 ≤ k) : k = 2 ∨ k = 3 := by
  obtain ⟨q, hm, hp⟩ := List.any_eq_true.mp (zkd_of h)
  have ok := Nat.le_of_ble_eq_true (List.all_eq_true.mp zkd_three q hm)
  simp only [Bool.and_eq_true] at hp
  have e2 : q.2.2.2.1 = k := Nat.eq_of_beq_eq_true hp.2
  omega
section ZK6
variable {p : Program} {l : Launch} {e : Env} {R : Room} {s : State} {m : MethodId} {args : Array Value} {below : List Frame} {meth : Method} {c : Code} {Q : State → Prop} {D : va_G} {cT : Nat → ClassId} {b n0 w0 j pc : Nat} {S : zSc} {mc ms : Nat} {ls ls' : Ls} {st st' r : List Value} {h h' : Hp} {pc' n : Nat}
theorem zldi_le {k : Nat} (hs : zldi pc ls st h k = some (.inl (pc', ls', st', h'))) : zle h h' := by
  unfold zldi at hs
  (repeat' split at hs) <;> first | (cases hs; done) | (cases hs; exact zle.rf _) | (cases hs; exact ⟨Nat.le_refl _, Nat.le_refl _⟩)
theorem zldl_le {k : Nat} (hs : zldl pc ls st h k = some (.inl (pc', ls', st', h'))) : zle h h' := by
  unfold zldl at hs
  (repeat' split at hs) <;> first | (cases hs; done) | (cases hs; exact zle.rf _) | (cases hs; exact ⟨Nat.le_refl _, Nat.le_refl _⟩)
theorem zldf_le {k : Nat} (hs : zldf pc ls st h k = some (.inl (pc', ls', st', h'))) : zle h h' := by
  unfold zldf at hs
  (repeat' split at hs) <;> first | (cases hs; done) | (cases hs; exact zle.rf _) | (cases hs; exact ⟨Nat.le_refl _, Nat.le_refl _⟩)
theorem zlda_le {k : Nat} (hs : zlda pc ls st h k = some (.inl (pc', ls', st', h'))) : zle h h' := by
  unfold zlda at hs
  (repeat' split at hs) <;> first | (cases hs; done) | (cases hs; exact zle.rf _) | (cases hs; exact ⟨Nat.le_refl _, Nat.le_refl _⟩)
theorem zsti_le {k : Nat} (hs : zsti pc ls st h k = some (.inl (pc', ls', st', h'))) : zle h h' := by
  unfold zsti at hs
  (repeat' split at hs) <;> first | (cases hs; done) | (cases hs; exact zle.rf _) | (cases hs; exact ⟨Nat.le_refl _, Nat.le_refl _⟩)
theorem zstf_le {k : Nat} (hs : zstf pc ls st h k = some (.inl (pc', ls', st', h'))) : zle h h' := by
  unfold zstf at hs
  (repeat' split at hs) <;> first | (cases hs; done) | (cases hs; exact zle.rf _) | (cases hs; exact ⟨Nat.le_refl _, Nat.le_refl _⟩)
theorem zsta_le {k : Nat} (hs : zsta pc ls st h k = some (.inl (pc', ls', st', h'))) : zle h h' := by
  unfold zsta at hs
  (repeat' split at hs) <;> first | (cases hs; done) | (cases hs; exact zle.rf _) | (cases hs; exact ⟨Nat.le_refl _, Nat.le_refl _⟩)
theorem zstl_le {k : Nat} (hs : zstl pc ls st h k = some (.inl (pc', ls', st', h'))) : zle h h' := by
  unfold zstl at hs
  (repeat' split at hs) <;> first | (cases hs; done) | (cases hs; exact zle.rf _) | (cases hs; exact ⟨Nat.le_refl _, Nat.le_refl _⟩)
theorem zinc_le {k : Nat} {q : Int} (hs : zinc pc ls st h k q = some (.inl (pc', ls', st', h'))) : zle h h' := by
  unfold zinc at hs
  (repeat' split at hs) <;> first | (cases hs; done) | (cases hs; exact zle.rf _) | (cases hs; exact ⟨Nat.le_refl _, Nat.le_refl _⟩)
theorem zb2_le {f : Int32 → Int32 → Int32} (hs : zb2 pc ls st h f = some (.inl (pc', ls', st', h'))) : zle h h' := by
  unfold zb2 at hs
  (repeat' split at hs) <;> first | (cases hs; done) | (cases hs; exact zle.rf _) | (cases hs; exact ⟨Nat.le_refl _, Nat.le_refl _⟩)
theorem zbl_le {f : Int64 → Int64 → Int64} (hs : zbl pc ls st h f = some (.inl (pc', ls', st', h'))) : zle h h' := by
  unfold zbl at hs
  (repeat' split at hs) <;> first | (cases hs; done) | (cases hs; exact zle.rf _) | (cases hs; exact ⟨Nat.le_refl _, Nat.le_refl _⟩)
theorem zbd_le {f : Int32 → Int32 → Int32} (hs : zbd pc ls st h f = some (.inl (pc', ls', st', h'))) : zle h h' := by
  unfold zbd at hs
  (repeat' split at hs) <;> first | (cases hs; done) | (cases hs; exact zle.rf _) | (cases hs; exact ⟨Nat.le_refl _, Nat.le_refl _⟩)
theorem zto_le {off : Int} (hs : zto pc off ls st h = some (.inl (pc', ls', st', h'))) : zle h h' := by
  unfold zto at hs
  (repeat' split at hs) <;> first | (cases hs; done) | (cases hs; exact zle.rf _) | (cases hs; exact ⟨Nat.le_refl _, Nat.le_refl _⟩)
theorem zbr_le {off : Int} {bb : Bool} (hs : zbr pc off bb ls st h = some (.inl (pc', ls', st', h'))) : zle h h' := by
  unfold zbr at hs
  (repeat' split at hs) <;> first | (cases hs; done) | (cases hs; exact zle.rf _) | (cases hs; exact ⟨Nat.le_refl _, Nat.le_refl _⟩)
theorem zgetf_le {idx : Nat} (hs : zgetf j pc ls st h idx = some (.inl (pc', ls', st', h'))) : zle h h' := by
  unfold zgetf at hs
  (repeat' split at hs) <;> first | (cases hs; done) | (cases hs; exact zle.rf _) | (cases hs; exact ⟨Nat.le_refl _, Nat.le_refl _⟩)
theorem zputf_le {idx : Nat} (hs : zputf j pc ls st h idx = some (.inl (pc', ls', st', h'))) : zle h h' := by
  unfold zputf at hs
  (repeat' split at hs) <;> first | (cases hs; done) | (cases hs; exact zle.rf _) | (cases hs; exact ⟨Nat.le_refl _, Nat.le_refl _⟩)
theorem zald_le {t : Nat} (hs : zald pc ls st h t = some (.inl (pc', ls', st', h'))) : zle h h' := by
  unfold zald at hs
  (repeat' split at hs) <;> first | (cases hs; done) | (cases hs; exact zle.rf _) | (cases hs; exact ⟨Nat.le_refl _, Nat.le_refl _⟩)
theorem zast_le {t : Nat} (hs : zast pc ls st h t = some (.inl (pc', ls', st', h'))) : zle h h' := by
  unfold zast at hs
  (repeat' split at hs) <;> first | (cases hs; done) | (cases hs; exact zle.rf _) | (cases hs; exact ⟨Nat.le_refl _, Nat.le_refl _⟩)
theorem zalq_le  (hs : zalq pc ls st h = some (.inl (pc', ls', st', h'))) : zle h h' := by
  unfold zalq at hs
  (repeat' split at hs) <;> first | (cases hs; done) | (cases hs; exact zle.rf _) | (cases hs; exact ⟨Nat.le_refl _, Nat.le_refl _⟩)
theorem zasq_le  (hs : zasq pc ls st h = some (.inl (pc', ls', st', h'))) : zle h h' := by
  unfold zasq at hs
  (repeat' split at hs) <;> first | (cases hs; done) | (cases hs; exact zle.rf _) | (cases hs; exact ⟨Nat.le_refl _, Nat.le_refl _⟩)
theorem zaln_le  (hs : zaln pc ls st h = some (.inl (pc', ls', st', h'))) : zle h h' := by
  unfold zaln at hs
  (repeat' split at hs) <;> first | (cases hs; done) | (cases hs; exact zle.rf _) | (cases hs; exact ⟨Nat.le_refl _, Nat.le_refl _⟩)
theorem znea_le {ty : ArrayType} (hs : znea pc ls st h ty = some (.inl (pc', ls', st', h'))) : zle h h' := by
  unfold znea at hs
  (repeat' split at hs) <;> first | (cases hs; done) | (cases hs; exact ⟨Nat.le_succ _, Nat.le_add_right _ _⟩)
theorem zneq_le {idx : Nat} (hs : zneq j pc ls st h idx = some (.inl (pc', ls', st', h'))) : zle h h' := by
  unfold zneq at hs
  (repeat' split at hs) <;> first | (cases hs; done) | (cases hs; exact ⟨Nat.le_succ _, Nat.le_add_right _ _⟩)
theorem zneo_le {idx : Nat} (hs : zneo j pc ls st h idx = some (.inl (pc', ls', st', h'))) : zle h h' := by
  unfold zneo at hs
  (repeat' split at hs) <;> first | (cases hs; done) | (cases hs; exact ⟨Nat.le_succ _, Nat.le_add_right _ _⟩)
theorem zcall_no {y k : Nat} (hs : zcall j h st y k = some (.inl (pc', ls', st', h'))) : False := by
  obtain ⟨a1, r1, q1, -⟩ := zcall_at hs
  cases q1
theorem zspec_le {idx : Nat} (hs : zspec j pc ls h st idx = some (.inl (pc', ls', st', h'))) : zle h h' := by
  unfold zspec at hs
  (repeat' split at hs) <;> first | (cases hs; done) | (cases hs; exact zle.rf _) | exact (zcall_no hs).elim
theorem zstat_le {idx : Nat} (hs : zstat j pc ls h st idx = some (.inl (pc', ls', st', h'))) : zle h h' := by
  unfold zstat at hs
  (repeat' split at hs) <;> first | (cases hs; done) | (cases hs; exact zle.rf _) | exact (zcall_no hs).elim
theorem zvirt_no {idx : Nat} (hs : zvirt j h st idx = some (.inl (pc', ls', st', h'))) : False := by
  unfold zvirt at hs
  (repeat' split at hs) <;> first | (cases hs; done) | exact zcall_no hs
theorem zret_no {i : Nat} (hs : zret j st i = some (.inl (pc', ls', st', h'))) : False := by
  unfold zret at hs
  (repeat' split at hs) <;> (cases hs; done)
theorem ztsw_le {dflt lo hi : Int} {offs : Array Int} (hs : ztsw pc ls st h dflt lo hi offs = some (.inl (pc', ls', st', h'))) : zle h h' := by
  unfold ztsw at hs
  (repeat' split at hs) <;> first | (cases hs; done) | exact zto_le hs
theorem zlsw_le {dflt : Int} {ps : Array (Int × Int)} (hs : zlsw pc ls st h dflt ps = some (.inl (pc', ls', st', h'))) : zle h h' := by
  unfold zlsw at hs
  (repeat' split at hs) <;> first | (cases hs; done) | exact zto_le hs
theorem zs_le {i : Instr} (hs : zs j i pc n ls st h = some (.inl (pc', ls', st', h'))) : zle h h' := by
  cases i
  all_goals (simp only [zs] at hs)
  all_goals first
    | (cases hs; done)
    | (cases hs; exact zle.rf _)
    | exact zldi_le hs
    | exact zldl_le hs
    | exact zldf_le hs
    | exact zstf_le hs
    | exact zlda_le hs
    | exact zsti_le hs
    | exact zsta_le hs
    | exact zstl_le hs
    | exact zinc_le hs
    | exact zb2_le hs
    | exact zbl_le hs
    | exact zbd_le hs
    | exact zto_le hs
    | exact zbr_le hs
    | exact zgetf_le hs
    | exact zputf_le hs
    | exact zald_le hs
    | exact zast_le hs
    | exact zalq_le hs
    | exact zasq_le hs
    | exact zaln_le hs
    | exact znea_le hs
    | exact zneq_le hs
    | exact zneo_le hs
    | exact zspec_le hs
    | exact zstat_le hs
    | exact ztsw_le hs
    | exact zlsw_le hs
    | exact (zvirt_no hs).elim
    | exact (zret_no hs).elim
    | ((repeat' split at hs) <;> first | (cases hs; done) | (cases hs; exact zle.rf _) | exact zto_le hs | exact zbr_le hs)
theorem zone_cat {v : Value} (h : zone v = true) : v.category = 1 := by
  cases v <;> first | rfl | cases h
theorem zk_step {i : Instr} (C : zCx p s m args meth c R D cT b S j mc ms) (hj : j < 117) (hd : decode (mC j) pc = .ok (i, n)) (hz : zsz i n = n) (hs : zs j i pc n ls st h = some (.inl (pc', ls', st', h'))) (hm : h'.2.1 ≤ n0 + mc ∧ h'.2.2 ≤ w0 + ms)
    (K : zK p l e R s m args below meth c Q D cT b S n0 w0 j pc' ls' st' h') : zK p l e R s m args below meth c Q D cT b S n0 w0 j pc ls st h := by
  cases i
  case aconst_null =>
    simp only [zs] at hs
    simp only [zsz] at hz
    subst hz
    obtain ⟨hx, hb, hml, hown, hts, hret, hlk, hin, hKC, hR, hbs⟩ := id C
    cases hs
    exact fun H locs cells slots la Z => lv_null hx hb hd  (K H locs cells slots la Z)
  case iconst x =>
    simp only [zs] at hs
    simp only [zsz] at hz
    subst hz
    obtain ⟨hx, hb, hml, hown, hts, hret, hlk, hin, hKC, hR, hbs⟩ := id C
    cases hs
    exact fun H locs cells slots la Z => lv_iconst hx hb hd rfl (K H locs cells slots la Z)
  case bipush x =>
    simp only [zs] at hs
    simp only [zsz] at hz
    subst hz
    obtain ⟨hx, hb, hml, hown, hts, hret, hlk, hin, hKC, hR, hbs⟩ := id C
    cases hs
    exact fun H locs cells slots la Z => lv_bipush hx hb hd rfl (K H locs cells slots la Z)
  case sipush x =>
    simp only [zs] at hs
    simp only [zsz] at hz
    subst hz
    obtain ⟨hx, hb, hml, hown, hts, hret, hlk, hin, hKC, hR, hbs⟩ := id C
    cases hs
    exact fun H locs cells slots la Z => lv_sipush hx hb hd rfl (K H locs cells slots la Z)
  case fconst f =>
    simp only [zs] at hs
    simp only [zsz] at hz
    subst hz
    obtain ⟨hx, hb, hml, hown, hts, hret, hlk, hin, hKC, hR, hbs⟩ := id C
    split at hs
    · next hf =>
      subst hf
      cases hs
      exact fun H locs cells slots la Z => lv_fconst0 hx hb hd (K H locs cells slots la Z)
    · cases hs
  case ldc idx =>
    simp only [zs] at hs
    simp only [zsz] at hz
    subst hz
    obtain ⟨hx, hb, hml, hown, hts, hret, hlk, hin, hKC, hR, hbs⟩ := id C
    split at hs
    · next v hv =>
      cases hs
      exact fun H locs cells slots la Z => lv_ldc hx hb hown (hts _ (zW_in (zKi_at hv) rfl)) hd (K H locs cells slots la Z)
    · cases hs
  case ldc2_w idx =>
    simp only [zs] at hs
    simp only [zsz] at hz
    subst hz
    obtain ⟨hx, hb, hml, hown, hts, hret, hlk, hin, hKC, hR, hbs⟩ := id C
    split at hs
    · next v hv =>
      cases hs
      exact fun H locs cells slots la Z => lv_ldc2 hx hb hown (hts _ (zW_in (zKl_at hv) rfl)) hd (K H locs cells slots la Z)
    · cases hs
  case iload k =>
    simp only [zs] at hs
    simp only [zsz] at hz
    subst hz
    obtain ⟨hx, hb, hml, hown, hts, hret, hlk, hin, hKC, hR, hbs⟩ := id C
    unfold zldi at hs
    split at hs
    · next x hx2 =>
      cases hs
      exact fun H locs cells slots la Z => lv_iload hx hb hd (Z.1.at hx2) (K H locs cells slots la Z)
    · cases hs
  case iload_n k =>
    simp only [zs] at hs
    simp only [zsz] at hz
    subst hz
    obtain ⟨hx, hb, hml, hown, hts, hret, hlk, hin, hKC, hR, hbs⟩ := id C
    unfold zldi at hs
    split at hs
    · next x hx2 =>
      cases hs
      exact fun H locs cells slots la Z => lv_iload_n hx hb hd rfl (Z.1.at hx2) (K H locs cells slots la Z)
    · cases hs
  case lload k =>
    simp only [zs] at hs
    simp only [zsz] at hz
    subst hz
    obtain ⟨hx, hb, hml, hown, hts, hret, hlk, hin, hKC, hR, hbs⟩ := id C
    unfold zldl at hs
    split at hs
    · next x hx2 =>
      cases hs
      exact fun H locs cells slots la Z => lv_lload hx hb hd (Z.1.at hx2) (K H locs cells slots la Z)
    · cases hs
  case lload_n k =>
    simp only [zs] at hs
    simp only [zsz] at hz
    subst hz
    obtain ⟨hx, hb, hml, hown, hts, hret, hlk, hin, hKC, hR, hbs⟩ := id C
    unfold zldl at hs
    split at hs
    · next x hx2 =>
      cases hs
      exact fun H locs cells slots la Z => lv_lload_n hx hb hd rfl (Z.1.at hx2) (K H locs cells slots la Z)
    · cases hs
  case aload k =>
    simp only [zs] at hs
    simp only [zsz] at hz
    subst hz
    obtain ⟨hx, hb, hml, hown, hts, hret, hlk, hin, hKC, hR, hbs⟩ := id C
    unfold zlda at hs
    split at hs
    · next x hx2 =>
      cases hs
      exact fun H locs cells slots la Z => lv_aload hx hb hd (Z.1.at hx2) (K H locs cells slots la Z)
    · next hx2 =>
      cases hs
      exact fun H locs cells slots la Z => lv_aloadN hx hb hd (Z.1.at hx2) (K H locs cells slots la Z)
    · cases hs
  case aload_n k =>
    simp only [zs] at hs
    simp only [zsz] at hz
    subst hz
    obtain ⟨hx, hb, hml, hown, hts, hret, hlk, hin, hKC, hR, hbs⟩ := id C
    unfold zlda at hs
    split at hs
    · next x hx2 =>
      cases hs
      exact fun H locs cells slots la Z => lv_aload_n hx hb hd rfl (Z.1.at hx2) (K H locs cells slots la Z)
    · next hx2 =>
      cases hs
      exact fun H locs cells slots la Z => lv_aload_nN hx hb hd rfl (Z.1.at hx2) (K H locs cells slots la Z)
    · cases hs
  case istore k =>
    simp only [zs] at hs
    simp only [zsz] at hz
    subst hz
    obtain ⟨hx, hb, hml, hown, hts, hret, hlk, hin, hKC, hR, hbs⟩ := id C
    unfold zsti at hs
    split at hs
    · split at hs
      · next hc =>
        cases hs
        exact fun H locs cells slots la Z => lv_istore hx hb hd Z.1.2 (by rw [← Z.1.1]; exact hc.1) rfl (fun la' hl' => K H locs cells slots la' ⟨Z.1.st1 hc.1 hc.2 hl', Z.2⟩)
      · cases hs
    · cases hs
  case istore_n k =>
    simp only [zs] at hs
    simp only [zsz] at hz
    subst hz
    obtain ⟨hx, hb, hml, hown, hts, hret, hlk, hin, hKC, hR, hbs⟩ := id C
    unfold zsti at hs
    split at hs
    · split at hs
      · next hc =>
        cases hs
        exact fun H locs cells slots la Z => lv_istore_n hx hb hd rfl Z.1.2 (by rw [← Z.1.1]; exact hc.1) rfl (fun la' hl' => K H locs cells slots la' ⟨Z.1.st1 hc.1 hc.2 hl', Z.2⟩)
      · cases hs
    · cases hs
  case astore k =>
    simp only [zs] at hs
    simp only [zsz] at hz
    subst hz
    obtain ⟨hx, hb, hml, hown, hts, hret, hlk, hin, hKC, hR, hbs⟩ := id C
    unfold zsta at hs
    split at hs
    · split at hs
      · next hc =>
        cases hs
        exact fun H locs cells slots la Z => lv_astore hx hb hd Z.1.2 (by rw [← Z.1.1]; exact hc.1) rfl (fun la' hl' => K H locs cells slots la' ⟨Z.1.st1 hc.1 hc.2 hl', Z.2⟩)
      · cases hs
    · split at hs
      · next hc =>
        cases hs
        exact fun H locs cells slots la Z => lv_astoreN hx hb hd Z.1.2 (by rw [← Z.1.1]; exact hc.1) rfl (fun la' hl' => K H locs cells slots la' ⟨Z.1.st1 hc.1 hc.2 hl', Z.2⟩)
      · cases hs
    · cases hs
  case astore_n k =>
    simp only [zs] at hs
    simp only [zsz] at hz
    subst hz
    obtain ⟨hx, hb, hml, hown, hts, hret, hlk, hin, hKC, hR, hbs⟩ := id C
    unfold zsta at hs
    split at hs
    · split at hs
      · next hc =>
        cases hs
        exact fun H locs cells slots la Z => lv_astore_n hx hb hd rfl Z.1.2 (by rw [← Z.1.1]; exact hc.1) rfl (fun la' hl' => K H locs cells slots la' ⟨Z.1.st1 hc.1 hc.2 hl', Z.2⟩)
      · cases hs
    · split at hs
      · next hc =>
        cases hs
        exact fun H locs cells slots la Z => lv_astore_nN hx hb hd rfl Z.1.2 (by rw [← Z.1.1]; exact hc.1) rfl (fun la' hl' => K H locs cells slots la' ⟨Z.1.st1 hc.1 hc.2 hl', Z.2⟩)
      · cases hs
    · cases hs
  case lstore k =>
    simp only [zs] at hs
    simp only [zsz] at hz
    subst hz
    obtain ⟨hx, hb, hml, hown, hts, hret, hlk, hin, hKC, hR, hbs⟩ := id C
    unfold zstl at hs
    split at hs
    · split at hs
      · next hc =>
        cases hs
        exact fun H locs cells slots la Z => lv_lstore hx hb hd Z.1.2 (by rw [← Z.1.1]; exact hc.1) rfl (fun la' hl' => K H locs cells slots la' ⟨Z.1.st2 hc.1 hc.2 hl', Z.2⟩)
      · cases hs
    · cases hs
  case lstore_n k =>
    simp only [zs] at hs
    simp only [zsz] at hz
    subst hz
    obtain ⟨hx, hb, hml, hown, hts, hret, hlk, hin, hKC, hR, hbs⟩ := id C
    unfold zstl at hs
    split at hs
    · split at hs
      · next hc =>
        cases hs
        exact fun H locs cells slots la Z => lv_lstore_n hx hb hd rfl Z.1.2 (by rw [← Z.1.1]; exact hc.1) rfl (fun la' hl' => K H locs cells slots la' ⟨Z.1.st2 hc.1 hc.2 hl', Z.2⟩)
      · cases hs
    · cases hs
  case iinc k q =>
    simp only [zs] at hs
    simp only [zsz] at hz
    subst hz
    obtain ⟨hx, hb, hml, hown, hts, hret, hlk, hin, hKC, hR, hbs⟩ := id C
    unfold zinc at hs
    split at hs
    · next x hx2 =>
      split at hs
      · next hc =>
        cases hs
        have hk : k < ls.length := (List.getElem?_eq_some_iff.mp hx2).1
        intro H locs cells slots la Z
        obtain ⟨kk, hkk⟩ := List.getElem?_of_mem (mem_zas.mpr hx2)
        exact lv_iinc hx hb hd Z.1.2 hkk rfl (by rw [← Z.1.1]; exact hk) rfl (fun la' hl' => K H locs cells slots la' ⟨Z.1.st1 hk hc hl', Z.2⟩)
      · cases hs
    · cases hs
  case iadd =>
    simp only [zs] at hs
    simp only [zsz] at hz
    subst hz
    obtain ⟨hx, hb, hml, hown, hts, hret, hlk, hin, hKC, hR, hbs⟩ := id C
    unfold zb2 at hs
    split at hs
    · cases hs
      exact fun H locs cells slots la Z => lv_iadd hx hb hd (K H locs cells slots la Z)
    · cases hs
  case isub =>
    simp only [zs] at hs
    simp only [zsz] at hz
    subst hz
    obtain ⟨hx, hb, hml, hown, hts, hret, hlk, hin, hKC, hR, hbs⟩ := id C
    unfold zb2 at hs
    split at hs
    · cases hs
      exact fun H locs cells slots la Z => lv_isub hx hb hd (K H locs cells slots la Z)
    · cases hs
  case imul =>
    simp only [zs] at hs
    simp only [zsz] at hz
    subst hz
    obtain ⟨hx, hb, hml, hown, hts, hret, hlk, hin, hKC, hR, hbs⟩ := id C
    unfold zb2 at hs
    split at hs
    · cases hs
      exact fun H locs cells slots la Z => lv_imul hx hb hd (K H locs cells slots la Z)
    · cases hs
  case ladd =>
    simp only [zs] at hs
    simp only [zsz] at hz
    subst hz
    obtain ⟨hx, hb, hml, hown, hts, hret, hlk, hin, hKC, hR, hbs⟩ := id C
    unfold zbl at hs
    split at hs
    · cases hs
      exact fun H locs cells slots la Z => lv_ladd hx hb hd (K H locs cells slots la Z)
    · cases hs
  case lmul =>
    simp only [zs] at hs
    simp only [zsz] at hz
    subst hz
    obtain ⟨hx, hb, hml, hown, hts, hret, hlk, hin, hKC, hR, hbs⟩ := id C
    unfold zbl at hs
    split at hs
    · cases hs
      exact fun H locs cells slots la Z => lv_lmul hx hb hd (K H locs cells slots la Z)
    · cases hs
  case idiv =>
    simp only [zs] at hs
    simp only [zsz] at hz
    subst hz
    obtain ⟨hx, hb, hml, hown, hts, hret, hlk, hin, hKC, hR, hbs⟩ := id C
    unfold zbd at hs
    split at hs
    · split at hs
      · cases hs
      · next h0 =>
        cases hs
        exact fun H locs cells slots la Z => lv_idiv hx hb hd h0 (K H locs cells slots la Z)
    · cases hs
  case irem =>
    simp only [zs] at hs
    simp only [zsz] at hz
    subst hz
    obtain ⟨hx, hb, hml, hown, hts, hret, hlk, hin, hKC, hR, hbs⟩ := id C
    unfold zbd at hs
    split at hs
    · split at hs
      · cases hs
      · next h0 =>
        cases hs
        exact fun H locs cells slots la Z => lv_irem hx hb hd h0 (K H locs cells slots la Z)
    · cases hs
  case iand =>
    simp only [zs] at hs
    simp only [zsz] at hz
    subst hz
    obtain ⟨hx, hb, hml, hown, hts, hret, hlk, hin, hKC, hR, hbs⟩ := id C
    unfold zb2 at hs
    split at hs
    · cases hs
      exact fun H locs cells slots la Z => lv_iand hx hb hd (K H locs cells slots la Z)
    · cases hs
  case ishr =>
    simp only [zs] at hs
    simp only [zsz] at hz
    subst hz
    obtain ⟨hx, hb, hml, hown, hts, hret, hlk, hin, hKC, hR, hbs⟩ := id C
    unfold zb2 at hs
    split at hs
    · cases hs
      exact fun H locs cells slots la Z => lv_ishr hx hb hd (K H locs cells slots la Z)
    · cases hs
  case lcmp =>
    simp only [zs] at hs
    simp only [zsz] at hz
    subst hz
    obtain ⟨hx, hb, hml, hown, hts, hret, hlk, hin, hKC, hR, hbs⟩ := id C
    split at hs
    · cases hs
      exact fun H locs cells slots la Z => W.lcmp hx hb hd (K H locs cells slots la Z)
    · cases hs
  case fcmp op =>
    simp only [zs] at hs
    simp only [zsz] at hz
    subst hz
    obtain ⟨hx, hb, hml, hown, hts, hret, hlk, hin, hKC, hR, hbs⟩ := id C
    split at hs
    · cases hs
      exact fun H locs cells slots la Z => lv_fcmp hx hb hd (K H locs cells slots la Z)
    · cases hs
  case fload k =>
    simp only [zs] at hs
    simp only [zsz] at hz
    subst hz
    obtain ⟨hx, hb, hml, hown, hts, hret, hlk, hin, hKC, hR, hbs⟩ := id C
    unfold zldf at hs
    split at hs
    · next x hx2 =>
      cases hs
      exact fun H locs cells slots la Z => lv_fload hx hb hd (Z.1.at hx2) (K H locs cells slots la Z)
    · cases hs
  case fstore k =>
    simp only [zs] at hs
    simp only [zsz] at hz
    subst hz
    obtain ⟨hx, hb, hml, hown, hts, hret, hlk, hin, hKC, hR, hbs⟩ := id C
    unfold zstf at hs
    split at hs
    · split at hs
      · next hc =>
        cases hs
        exact fun H locs cells slots la Z => lv_fstore hx hb hd Z.1.2 (by rw [← Z.1.1]; exact hc.1) rfl (fun la' hl' => K H locs cells slots la' ⟨Z.1.st1 hc.1 hc.2 hl', Z.2⟩)
      · cases hs
    · cases hs
  case i2l =>
    simp only [zs] at hs
    simp only [zsz] at hz
    subst hz
    obtain ⟨hx, hb, hml, hown, hts, hret, hlk, hin, hKC, hR, hbs⟩ := id C
    split at hs
    · cases hs
      exact fun H locs cells slots la Z => lv_i2l hx hb hd rfl (K H locs cells slots la Z)
    · cases hs
  case i2f =>
    simp only [zs] at hs
    simp only [zsz] at hz
    subst hz
    obtain ⟨hx, hb, hml, hown, hts, hret, hlk, hin, hKC, hR, hbs⟩ := id C
    split at hs
    · cases hs
      exact fun H locs cells slots la Z => lv_i2f hx hb hd (K H locs cells slots la Z)
    · cases hs
  case fdiv =>
    simp only [zs] at hs
    simp only [zsz] at hz
    subst hz
    obtain ⟨hx, hb, hml, hown, hts, hret, hlk, hin, hKC, hR, hbs⟩ := id C
    split at hs
    · split at hs
      · next hc =>
        cases hs
        exact fun H locs cells slots la Z => lv_fdiv hx hb hd hc (K H locs cells slots la Z)
      · cases hs
    · cases hs
  case dup =>
    simp only [zs] at hs
    simp only [zsz] at hz
    subst hz
    obtain ⟨hx, hb, hml, hown, hts, hret, hlk, hin, hKC, hR, hbs⟩ := id C
    split at hs
    · split at hs
      · next hc =>
        cases hs
        exact fun H locs cells slots la Z => lv_dup hx hb hd (zone_cat hc) (K H locs cells slots la Z)
      · cases hs
    · cases hs
  case pop =>
    simp only [zs] at hs
    simp only [zsz] at hz
    subst hz
    obtain ⟨hx, hb, hml, hown, hts, hret, hlk, hin, hKC, hR, hbs⟩ := id C
    split at hs
    · split at hs
      · next hc =>
        cases hs
        exact fun H locs cells slots la Z => lv_pop hx hb hd (zone_cat hc) (K H locs cells slots la Z)
      · cases hs
    · cases hs
  case dup2 =>
    simp only [zs] at hs
    simp only [zsz] at hz
    subst hz
    obtain ⟨hx, hb, hml, hown, hts, hret, hlk, hin, hKC, hR, hbs⟩ := id C
    split at hs
    · split at hs
      · next hc =>
        simp only [Bool.and_eq_true] at hc
        cases hs
        exact fun H locs cells slots la Z => lv_dup2_11 hx hb hd (zone_cat hc.1) (zone_cat hc.2) (K H locs cells slots la Z)
      · cases hs
    · cases hs
  case goto off =>
    simp only [zs] at hs
    simp only [zsz] at hz
    subst hz
    obtain ⟨hx, hb, hml, hown, hts, hret, hlk, hin, hKC, hR, hbs⟩ := id C
    obtain ⟨ht, rfl, rfl, rfl⟩ := zk_to C hs
    exact fun H locs cells slots la Z => lv_goto hx hb hd ht (K H locs cells slots la Z)
  case ifCond i off =>
    simp only [zs] at hs
    simp only [zsz] at hz
    subst hz
    obtain ⟨hx, hb, hml, hown, hts, hret, hlk, hin, hKC, hR, hbs⟩ := id C
    split at hs
    · exact zk_br C hd hs K
    · cases hs
  case if_icmp i off =>
    simp only [zs] at hs
    simp only [zsz] at hz
    subst hz
    obtain ⟨hx, hb, hml, hown, hts, hret, hlk, hin, hKC, hR, hbs⟩ := id C
    split at hs
    · exact zk_br2 C hd hs K
    · cases hs
  case ifnull off =>
    simp only [zs] at hs
    simp only [zsz] at hz
    subst hz
    obtain ⟨hx, hb, hml, hown, hts, hret, hlk, hin, hKC, hR, hbs⟩ := id C
    split at hs
    · obtain ⟨ht, rfl, rfl, rfl⟩ := zk_to C hs
      exact fun H locs cells slots la Z => lv_ifnullN hx hb hd ht (K H locs cells slots la Z)
    · cases hs
      exact fun H locs cells slots la Z => lv_ifnull hx hb hd (K H locs cells slots la Z)
    · cases hs
  case ifnonnull off =>
    simp only [zs] at hs
    simp only [zsz] at hz
    subst hz
    obtain ⟨hx, hb, hml, hown, hts, hret, hlk, hin, hKC, hR, hbs⟩ := id C
    split at hs
    · obtain ⟨ht, rfl, rfl, rfl⟩ := zk_to C hs
      exact fun H locs cells slots la Z => lv_ifnonnull hx hb hd ht (K H locs cells slots la Z)
    · cases hs
      exact fun H locs cells slots la Z => lv_ifnonnullN hx hb hd (K H locs cells slots la Z)
    · cases hs
  case tableswitch dflt lo hi offs =>
    simp only [zs] at hs
    obtain ⟨hx, hb, hml, hown, hts, hret, hlk, hin, hKC, hR, hbs⟩ := id C
    unfold ztsw at hs
    split at hs
    · split at hs
      · next hc =>
        obtain ⟨ht, rfl, rfl, rfl⟩ := zk_to C hs
        exact fun H locs cells slots la Z => lv_tableOut hx hb hd hc ht (K H locs cells slots la Z)
      · next hc =>
        split at hs
        · next off ho =>
          obtain ⟨ht, rfl, rfl, rfl⟩ := zk_to C hs
          exact fun H locs cells slots la Z => lv_tableIn hx hb hd (fun q => hc (Or.inl q)) (fun q => hc (Or.inr q)) ho ht (K H locs cells slots la Z)
        · cases hs
    · cases hs
  case lookupswitch dflt ps =>
    simp only [zs] at hs
    obtain ⟨hx, hb, hml, hown, hts, hret, hlk, hin, hKC, hR, hbs⟩ := id C
    unfold zlsw at hs
    split at hs
    · split at hs
      · next hc =>
        obtain ⟨ht, rfl, rfl, rfl⟩ := zk_to C hs
        exact fun H locs cells slots la Z => lv_lookup hx hb hd hc rfl ht (K H locs cells slots la Z)
      · cases hs
    · cases hs
  case getfield idx =>
    simp only [zs] at hs
    simp only [zsz] at hz
    subst hz
    exact zk_get (a := 0) C hj hd hs K
  case putfield idx =>
    simp only [zs] at hs
    simp only [zsz] at hz
    subst hz
    exact zk_put C hj hd hs K
  case iaload =>
    simp only [zs] at hs
    simp only [zsz] at hz
    subst hz
    exact zk_ald C hd hs K
  case iastore =>
    simp only [zs] at hs
    simp only [zsz] at hz
    subst hz
    exact zk_ast C hd hs K
  case aaload =>
    simp only [zs] at hs
    simp only [zsz] at hz
    subst hz
    exact zk_alq C hd hs K
  case aastore =>
    simp only [zs] at hs
    simp only [zsz] at hz
    subst hz
    exact zk_asq C hd hs K
  case arraylength =>
    simp only [zs] at hs
    simp only [zsz] at hz
    subst hz
    exact zk_aln C hd hs K
  case newarray ty =>
    simp only [zs] at hs
    simp only [zsz] at hz
    subst hz
    exact zk_nea C hd hs hm K
  case anewarray idx =>
    simp only [zs] at hs
    simp only [zsz] at hz
    subst hz
    exact zk_neq C hd hs hm K
  case new idx =>
    simp only [zs] at hs
    simp only [zsz] at hz
    subst hz
    exact zk_neo C hd hs hm K
  case invokespecial idx =>
    simp only [zs] at hs
    simp only [zsz] at hz
    subst hz
    exact zk_spec C hj hd hs K
  case invokestatic idx =>
    simp only [zs] at hs
    simp only [zsz] at hz
    subst hz
    exact zk_stat C hj hd hs hm K
  case invokevirtual idx =>
    simp only [zs] at hs
    exact (zvirt_no hs).elim
  case ireturn =>
    simp only [zs] at hs
    exact (zret_no hs).elim
  case lreturn =>
    simp only [zs] at hs
    exact (zret_no hs).elim
  case freturn =>
    simp only [zs] at hs
    exact (zret_no hs).elim
  case areturn =>
    simp only [zs] at hs
    exact (zret_no hs).elim
  case return_ =>
    simp only [zs] at hs
    exact (zret_no hs).elim
  all_goals (simp only [zs] at hs; cases hs)
theorem zs_ret {i : Instr} {v : Option Value} (hd : decode (mC j) pc = .ok (i, n)) (hz : zsz i n = n) (hs : zs j i pc n ls st h = some (.inr (.inl v))) :
    ∃ k, ((k = 0 ∧ decode (mC j) pc = .ok (.ireturn, 1)) ∨ (k = 1 ∧ decode (mC j) pc = .ok (.lreturn, 1)) ∨ (k = 2 ∧ decode (mC j) pc = .ok (.freturn, 1)) ∨ (k = 3 ∧ decode (mC j) pc = .ok (.areturn, 1)) ∨ (k = 4 ∧ decode (mC j) pc = .ok (.return_, 1))) ∧ zret j st k = some (.inr (.inl v)) := by
  cases i
  case ireturn => simp only [zsz] at hz; subst hz; exact ⟨0, Or.inl ⟨rfl, hd⟩, hs⟩
  case lreturn => simp only [zsz] at hz; subst hz; exact ⟨1, Or.inr (Or.inl ⟨rfl, hd⟩), hs⟩
  case freturn => simp only [zsz] at hz; subst hz; exact ⟨2, Or.inr (Or.inr (Or.inl ⟨rfl, hd⟩)), hs⟩
  case areturn => simp only [zsz] at hz; subst hz; exact ⟨3, Or.inr (Or.inr (Or.inr (Or.inl ⟨rfl, hd⟩))), hs⟩
  case return_ => simp only [zsz] at hz; subst hz; exact ⟨4, Or.inr (Or.inr (Or.inr (Or.inr ⟨rfl, hd⟩))), hs⟩
  all_goals exfalso
  all_goals (simp only [zs, zldi, zldl, zldf, zstf, zlda, zsti, zsta, zstl, zinc, zb2, zbl, zbd, zto, zbr, zgetf, zputf, zald, zast, zalq, zasq, zaln, znea, zneq, zneo, zspec, zstat, zvirt, ztsw, zlsw, sN] at hs)
  all_goals first
    | (cases hs; done)
    | ((repeat' split at hs) <;> first | (cases hs; done) | (obtain ⟨a1, r1, q1, -⟩ := zcall_at hs; cases q1))
theorem zs_call {i : Instr} {y : Nat} {as rest : List Value} (hd : decode (mC j) pc = .ok (i, n)) (hz : zsz i n = n) (hs : zs j i pc n ls st h = some (.inr (.inr (y, as, rest)))) :
    ∃ idx kd, zmth (mK j) idx = some (y, kd) ∧ ((kd = 0 ∧ decode (mC j) pc = .ok (.invokevirtual idx, 3)) ∨ (kd = 1 ∧ decode (mC j) pc = .ok (.invokespecial idx, 3)) ∨ ((kd = 2 ∨ kd = 3) ∧ decode (mC j) pc = .ok (.invokestatic idx, 3))) ∧
      st = as.reverse ++ rest ∧ as.length = mN y + (if Nat.ble 2 kd then 0 else 1) ∧ mH y < mH j ∧ rest.length ≤ 4 ∧ (zlay as).length ≤ mL y ∧ zchk h y as kd = true := by
  cases i
  case invokevirtual idx =>
    simp only [zsz] at hz
    subst hz
    simp only [zs, zvirt] at hs
    split at hs
    · next c k hm =>
      split at hs
      · next hk =>
        have hk := Nat.eq_of_beq_eq_true hk
        subst hk
        obtain ⟨a1, r1, q1, q2, q3, q4⟩ := zcall_at hs
        cases q1
        exact ⟨idx, 0, hm, Or.inl ⟨rfl, hd⟩, q2, q3, q4⟩
      · cases hs
    · cases hs
  case invokespecial idx =>
    simp only [zsz] at hz
    subst hz
    simp only [zs, zspec] at hs
    split at hs
    · (repeat' split at hs) <;> cases hs
    · split at hs
      · next c k hm =>
        split at hs
        · next hk =>
          have hk := Nat.eq_of_beq_eq_true hk
          subst hk
          obtain ⟨a1, r1, q1, q2, q3, q4⟩ := zcall_at hs
          cases q1
          exact ⟨idx, 1, hm, Or.inr (Or.inl ⟨rfl, hd⟩), q2, q3, q4⟩
        · cases hs
      · cases hs
  case invokestatic idx =>
    simp only [zsz] at hz
    subst hz
    simp only [zs, zstat] at hs
    split at hs
    · (repeat' split at hs) <;> cases hs
    · split at hs
      · next c k hm =>
        split at hs
        · (repeat' split at hs) <;> cases hs
        · split at hs
          · (repeat' split at hs) <;> cases hs
          · split at hs
            · next hk =>
              have hk := Nat.le_of_ble_eq_true hk
              obtain ⟨a1, r1, q1, q2, q3, q4⟩ := zcall_at hs
              cases q1
              exact ⟨idx, k, hm, Or.inr (Or.inr ⟨zkd_two hm hk, hd⟩), q2, q3, q4⟩
            · cases hs
      · cases hs
  all_goals exfalso
  all_goals (simp only [zs, zldi, zldl, zldf, zstf, zlda, zsti, zsta, zstl, zinc, zb2, zbl, zbd, zto, zbr, zgetf, zputf, zald, zast, zalq, zasq, zaln, znea, zneq, zneo, zret, ztsw, zlsw, sN] at hs)
  all_goals first
    | (cases hs; done)
    | ((repeat' split at hs) <;> (cases hs; done))
end ZK6
/-- THE STEPPER IS THE MACHINE -/
theorem zsoundQ (l : Launch) (D : va_G) (cT : Nat → ClassId) (b : Nat) (S : zSc) : ∀ (k j pc : Nat) (ls : Ls) (st : List Value) (h : Hp) (v : Option Value) (hf : Hp), zgo k j pc ls st h = some (v, hf) → j < 117 →
    zle h hf ∧ ∀ (p : Program) (e : Env) (R : Room) (s : State) (m : MethodId) (args : Array Value) (below : List Frame) (meth : Method) (c : Code) (n0 w0 mc ms : Nat) (Q : State → Prop), zCx p s m args meth c R D cT b S j mc ms → hf.2.1 = n0 + mc → hf.2.2 = w0 + ms →
      (∀ (pc : Nat) (ls : Ls) (st : List Value) (k : Nat), ((k = 0 ∧ decode (mC j) pc = .ok (.ireturn, 1)) ∨ (k = 1 ∧ decode (mC j) pc = .ok (.lreturn, 1)) ∨ (k = 2 ∧ decode (mC j) pc = .ok (.freturn, 1)) ∨ (k = 3 ∧ decode (mC j) pc = .ok (.areturn, 1)) ∨ (k = 4 ∧ decode (mC j) pc = .ok (.return_, 1))) → zret j st k = some (.inr (.inl v)) → zK p l e R s m args below meth c Q D cT b S n0 w0 j pc ls st hf) →
      zK p l e R s m args below meth c Q D cT b S n0 w0 j pc ls st h := by
  intro k
  induction k with
  | zero => intro j pc ls st h v hf hz; simp [zgo] at hz
  | succ k ih =>
    intro j pc ls st h v hf hz hj
    rw [zgo] at hz
    cases hd : decode (mC j) pc with
    | error er => rw [hd] at hz; simp at hz
    | ok q =>
      obtain ⟨i, n⟩ := q
      rw [hd] at hz
      simp only at hz
      unfold zst at hz
      by_cases hb : Nat.beq (zsz i n) n = true
      · rw [if_pos hb] at hz
        have hzn := Nat.eq_of_beq_eq_true hb
        cases hs : zs j i pc n ls st h with
        | none => rw [hs] at hz; simp at hz
        | some x =>
          rw [hs] at hz
          obtain ⟨pc', ls', st', h'⟩ | w | ⟨y, as, rest⟩ := x
          · simp only at hz
            obtain ⟨g1, g2⟩ := ih _ _ _ _ _ _ _ hz hj
            refine ⟨(zs_le hs).tr g1, ?_⟩
            intro p e R s m args below meth c n0 w0 mc ms Q C e1 e2 hE
            refine zk_step C hj hd hzn hs ?_ (g2 p e R s m args below meth c n0 w0 mc ms Q C e1 e2 hE)
            rw [← e1, ← e2]
            exact g1
          · simp only [Option.some.injEq, Prod.mk.injEq] at hz
            obtain ⟨rfl, rfl⟩ := hz
            refine ⟨zle.rf _, ?_⟩
            intro p e R s m args below meth c n0 w0 mc ms Q C e1 e2 hE
            obtain ⟨kk, q1, q2⟩ := zs_ret hd hzn hs
            exact hE _ _ _ kk q1 q2
          · simp only at hz
            cases hc : zgo k y 0 (zent y as) [] h with
            | none => rw [hc] at hz; simp at hz
            | some z =>
              obtain ⟨v1, h1⟩ := z
              rw [hc] at hz
              simp only at hz
              obtain ⟨idx, kd, q1, q2, q3, q4, q5, q6, q7, q8⟩ := zs_call hd hzn hs
              have hy := (zCl_at q1).2.1
              obtain ⟨a1, a2⟩ := ih _ _ _ _ _ _ _ hc (by omega)
              obtain ⟨g1, g2⟩ := ih _ _ _ _ _ _ _ hz hj
              refine ⟨a1.tr g1, ?_⟩
              intro p e R s m args below meth c n0 w0 mc ms Q C e1 e2 hE
              have hM : zMet l D cT b S y as h v1 h1 := zMet_mk hy q7 (fun p e s m below meth c R mc ms C' e1' e2' => a2 p e R s m as.toArray below meth c h.2.1 h.2.2 mc ms _ C' e1' e2' (fun _ _ _ _ w1 w2 => zk_ret C' w1 w2 e1' e2'))
              rw [q3]
              refine zk_go C hj hM q1 q5 q6 q4 q8 a1 ?_ q2 (g2 p e R s m args below meth c n0 w0 mc ms Q C e1 e2 hE)
              rw [← e1, ← e2]
              exact g1
      · rw [if_neg hb] at hz
        simp at hz
