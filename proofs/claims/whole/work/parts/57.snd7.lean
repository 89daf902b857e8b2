/-! THE TINY MACHINE IS TRUE, 7: all together -/
section S14
variable {p : Program} {l : Launch} {e : Env} {R : Room} {s : State} {mid : MethodId} {args : Array Value} {below : List Frame} {meth : Method} {c : Code} {H : Heap} {locs : List Loc} {cells slots : Nat} {Q : State → Prop}
variable {ad : Nat → Nat} {m pc len nL base : Nat} {real : Array Slot} {i : Instr} {ls st ls' st' : List TV} {D : va_G} {dA : Nat → ClassId} {h h' : TH} {sc : Nat × (Nat → Int32)}
theorem snd_clone {k : Nat} {r : List TV} (hx : p.tables.exec = Jvm.exec) (hb : c.code = mB m) (hml : c.maxLocals = mL m) (hown' : s.vm.findClass (cNm (mO m)) = some mid.cls) (hts : ∀ w ∈ lw_good, w.before args s = true) (hA : tAll sc base ad D dA s s.heap) (hP : va_P D vwCl (twl ad dA h) H) (hw : tWf h) (had : ∀ k, k < 1000000000 → ad k = base + k) (hS : va_S (fun q => base ≤ q) s.heap H locs) (hsz : base ≤ s.heap.size) (hcn : s.heap.size + cells = base + h.2.1) (hl : real.size = mL m)
    (hfr : mF m ≤ R.frames) (hlo : mW m ≤ R.locals) (hr4 : r.length ≤ 4) (hf1 : 1 ≤ mF m) (hf2 : 22 ≤ mW m) (hlk : Cond.methodLink (cNm (mO m)) k ⟨"[I", "clone", "()Ljava/lang/Object;"⟩ ∈ lw_good) (hg : tnew h (.inl (0, 4, .inl tfirst)) 4 = some h') (hd : decode (mB m) pc = .ok (.invokevirtual k, 3))
    (hrc : cells + (h'.2.1 - h.2.1) ≤ R.cells) (hrs : slots + (h'.2.2 - h.2.2) ≤ R.slots)
    (kk : ∀ (H' : Heap) (locs' : List Loc), va_P D vwCl (twl ad dA h') H' → va_S (fun q => base ≤ q) s.heap H' locs' → tWf h' → W p l e R s mid args below meth c H' locs' (cells + (h'.2.1 - h.2.1)) (slots + (h'.2.2 - h.2.2)) Q (F0 mid (pc + 3) real ((vR (some h.2.1) :: r).map (tcv ad)))) : W p l e R s mid args below meth c H locs cells slots Q (F0 mid pc real ((vR (some 1000000001) :: r).map (tcv ad))) := by
  obtain ⟨hn, rfl⟩ := inv_new hg
  simp only [Nat.add_sub_cancel_left] at hrc hrs kk
  obtain ⟨cell, h1, h2, h3, h4, h5, h6⟩ := hA.1.2.2.2.2.2.2.2.2.2.2.2
  have hnm := va_nm_int ((hA.1.1.2 0 _ rfl).2)
  have hcls : cell.cls = dA 0 := Option.some.inj (h5.symm.trans hnm)
  obtain ⟨q0, q1, q2, q3, q4⟩ := Cond.castable_spec (va_Nw.use (A := args) rfl (hA.1.2.2.2.2.2.2.2.1 _ (by decide +kernel : Cond.castable "[I" "java/lang/Cloneable" ∈ nwC)))
  cases h5.symm.trans q2
  have hsize4 : cell.slots.size = 4 := by rw [h4]; rfl
  have hm8 := catsum (ad := ad) r hr4
  intro T hT X
  have hcellT : T.heap[ad 1000000001]? = some cell := by
    rw [hT, hS.2.1 _ (Nat.lt_of_lt_of_le h6 hsz) (Nat.not_le.mpr h6)]
    exact h1
  obtain ⟨hst, kA, hkA, comp, hkind⟩ := State.isArrayOf_alike X.warmed.alike h2
  obtain ⟨-, kS, hkS, compS, hkindS⟩ := h2
  obtain ⟨vm', X', stp⟩ := X.cloneArray hx hown' (hts _ hlk) (hts _ clS_ok) (hts _ clN_ok) (hts _ clI_ok) (hts _ clE_ok) (a := ad 1000000001) (cell := cell) hcellT hst h3 h5 q3 q4
    (fun i v hv => by
      have hk' : T.vm.classes[cell.cls]? = some kA := hkA
      have hv2 : ∃ x : Int32, v = .int x := by
        rw [h4] at hv
        match i, hv with
        | 0, hv => cases hv; exact ⟨_, rfl⟩
        | 1, hv => cases hv; exact ⟨_, rfl⟩
        | 2, hv => cases hv; exact ⟨_, rfl⟩
        | 3, hv => cases hv; exact ⟨_, rfl⟩
        | i + 4, hv => simp at hv
      obtain ⟨x, rfl⟩ := hv2
      simp [State.fitsSlot, State.slotType?, hk', hkind, fits])
    (g := F0 mid pc real ((vR (some 1000000001) :: r).map (tcv ad))) rfl (hl.trans hml.symm) (rest := r.map (tcv ad)) rfl (by rw [hb]; exact hd) (by omega) (Nat.le_trans (Nat.add_le_add_right (lv_room hm8) 14) (by omega)) (by omega) (by rw [hsize4]; omega) (hloader := Vm.clonesLoader_of_array hkS hkindS)
  rw [hsize4] at X'
  have hcv : ({ cls := cell.cls, slots := cell.slots } : Cell) = vp_cell (dA 0) (4, .inl tfirst) := by
    rw [h4, hcls]
    rfl
  rw [hcv] at X' stp
  have hTz : T.heap.size = base + h.2.1 := by
    have g1 := X.heapSize
    have g2 := tHsz (s := s) had hP hw hS hsz
    rw [hT] at g1 ⊢
    omega
  have had0 : ad h.2.1 = base + h.2.1 := had _ (by have := hw.2; omega)
  generalize hH1 : H.push (vp_cell (dA 0) (4, .inl tfirst)) = H1
  have hHz : H.size = base + h.2.1 := by rw [← hT]; exact hTz
  have o1 : ∀ q : Nat, q < H.size → H1[q]? = H[q]? := fun q hq => by rw [← hH1, Array.getElem?_push, if_neg (Nat.ne_of_lt hq)]
  have hP1 : va_P D vwCl (twl ad dA (va_up h.1 h.2.1 (some (.inl (0, 4, .inl tfirst))), h.2.1 + 1, h.2.2 + 4)) H1 := by
    rw [← twl_push]
    refine va_P.app (hP.kept (fun k y hy => o1 y.1 ((hP k y hy).lt))) (fun k y hy => ?_)
    have hz : k < 1 := (List.getElem?_eq_some_iff.mp hy).1
    rw [show k = 0 by omega] at hy
    cases hy
    show H1[ad h.2.1]? = some (vp_cell _ _)
    rw [had0, ← hHz, ← hH1, Array.getElem?_push_size]
  have hS1 : va_S (fun q => base ≤ q) s.heap H1 locs := ⟨Nat.le_trans hS.1 (by rw [← hH1, Array.size_push]; omega), fun q g1 g2 => (o1 q (Nat.lt_of_lt_of_le g1 hS.1)).trans (hS.2.1 q g1 g2), hS.2.2⟩
  obtain ⟨t, b1, b2⟩ := kk H1 locs hP1 hS1 (tWf_new hw hn) ((T.setVm vm').pushCell (vp_cell (dA 0) (4, .inl tfirst))) (by rw [← hH1, ← hT]; rfl) X'
  refine ⟨t, stp t ?_, b2⟩
  rw [hTz, ← had0]
  exact b1
set_option maxHeartbeats 4000000 in
theorem snd_intr {pc' ar mode k kd : Nat} {alts : List (Nat × Nat)} (hx : p.tables.exec = Jvm.exec) (hb : c.code = mB m) (hml : c.maxLocals = mL m) (hown : s.vm.findClass (mY m).cls = some mid.cls) (hts : ∀ w ∈ lw_good, w.before args s = true) (hA : tAll sc base ad D dA s s.heap) (hP : va_P D vwCl (twl ad dA h) H) (hw : tWf h) (had : ∀ k, k < 1000000000 → ad k = base + k) (hS : va_S (fun q => base ≤ q) s.heap H locs) (hsz : base ≤ s.heap.size) (hcn : s.heap.size + cells = base + h.2.1) (hl : real.size = mL m)
    (hfr : mF m ≤ R.frames) (hlo : mW m ≤ R.locals) (hcs : tlk2 cST (mO m) k = some (ar, mode, alts)) (hkd : tinv i = some (kd, k)) (hmk : tmk mode = kd) (hd : decode (mB m) pc = .ok (i, 3)) (hcall : tcall m pc ls st h ar mode alts = some (.inl (pc', ls', st', h')))
    (hrc : cells + (h'.2.1 - h.2.1) ≤ R.cells) (hrs : slots + (h'.2.2 - h.2.2) ≤ R.slots)
    (kk : ∀ (H' : Heap) (locs' : List Loc), va_P D vwCl (twl ad dA h') H' → va_S (fun q => base ≤ q) s.heap H' locs' → tWf h' → W p l e R s mid args below meth c H' locs' (cells + (h'.2.1 - h.2.1)) (slots + (h'.2.2 - h.2.2)) Q (F0 mid (pc + 3) real (st'.map (tcv ad)))) : W p l e R s mid args below meth c H locs cells slots Q (F0 mid pc real (st.map (tcv ad))) := by
  have hown' : s.vm.findClass (cNm (mO m)) = some mid.cls := by rw [← mOwn]; exact hown
  have hcok := cST_ok _ (tlk2_mem hcs)
  have hkind : ∀ z : Nat × Nat, tinv i = some z → (z.1 = 0 → i = .invokevirtual z.2) ∧ (z.1 = 1 → i = .invokestatic z.2) ∧ (z.1 = 2 → i = .invokespecial z.2) := by
    intro z hz
    cases i <;> simp [tinv] at hz <;> subst hz <;> simp
  obtain ⟨kv, ks, ksp⟩ := hkind _ hkd
  simp only at kv ks ksp
  have kk1 : h' = h → W p l e R s mid args below meth c H locs cells slots Q (F0 mid (pc + 3) real (st'.map (tcv ad))) := by
    intro e2
    subst e2
    have h1 := kk H locs hP hS hw
    rw [Nat.sub_self, Nat.sub_self] at h1
    exact h1
  have hmR : ∀ r : List TV, r.length ≤ 4 → ((r.map (tcv ad)).map fun v => v.category).sum ≤ 8 := fun r hr => catsum r hr
  have hc0 : cells ≤ R.cells := by omega
  have hs0 : slots ≤ R.slots := by omega
  match mode, hcok, hmk, hcall with
  | 0, hcok, hmk, hcall => exfalso; simp only [tcall] at hcall; (repeat' split at hcall); all_goals cases hcall
  | 1, hcok, hmk, hcall => exfalso; simp only [tcall] at hcall; (repeat' split at hcall); all_goals cases hcall
  | 2, hcok, hmk, hcall => exfalso; simp only [tcall] at hcall; (repeat' split at hcall); all_goals cases hcall
  | 3, hcok, hmk, hcall => exfalso; simp only [tcall] at hcall; (repeat' split at hcall); all_goals cases hcall
  | 4, hcok, hmk, hcall =>
    have hi := ksp (by rw [← hmk]; rfl)
    subst hi
    simp only [tcall] at hcall
    split at hcall
    · split at hcall
      · rename_i o r hr
        cases hcall
        exact W.objInit hx hb hown' (hts _ hcok.2) (hts _ obI_ok) (hts _ obC_ok) rfl (hl.trans hml.symm) rfl hd (by omega) (Nat.le_trans (Nat.add_le_add_right (lv_room (hmR _ hr.1)) 12) (by omega)) (kk1 rfl)
      · cases hcall
    · cases hcall
  | 5, hcok, hmk, hcall =>
    have hi := kv (by rw [← hmk]; rfl)
    subst hi
    simp only [tcall] at hcall
    split at hcall
    · split at hcall
      · rename_i o r hr
        cases hcall
        exact snd_strlen hx hb hml hown' hts hA hS hsz hl hfr hlo hc0 hs0 hcok.2.2 hr hd (kk1 rfl)
      · cases hcall
    · cases hcall
  | 6, hcok, hmk, hcall =>
    have hi := kv (by rw [← hmk]; rfl)
    subst hi
    simp only [tcall] at hcall
    split at hcall
    · split at hcall
      · rename_i j o r hr
        cases hcall
        exact snd_strchar hx hb hml hown' hts hA hS hsz hl hfr hlo hc0 hs0 hcok.2.2 hr hd (kk1 rfl)
      · cases hcall
    · cases hcall
  | 7, hcok, hmk, hcall =>
    have hi := ks (by rw [← hmk]; rfl)
    subst hi
    simp only [tcall] at hcall
    split at hcall
    · split at hcall
      · rename_i n dp a1 sp a0 r _ hr
        obtain ⟨h2, hg, e1⟩ := omap hcall
        cases e1
        obtain ⟨n0, n1, f, g, z0, z1, q1, q2, q3, q4, q5, rfl⟩ := inv_cpy hg
        have hm8 := hmR _ hr.1
        refine va_copyi (D := D) (ws := twl ad dA h) hx hb (hml.trans hl.symm) hown' (hts _ hcok.2) (hts _ acN_ok) (hts _ acS_ok) (hts _ acI_ok) hA.1.1 hP (twl_D hw had) hS _ _ 0 0 (ty := .int) (twl_get hw z0) (twl_get hw z1) rfl rfl rfl q1 q2 q3 q4 q5 (fun _ _ => rfl) (by omega) ?_ hd (fun H1 l1 b1 b2 b3 => ?_)
        · have e9 : nativeFrameWords "java/lang/System" "arraycopy" 5 = 7 := by decide
          rw [e9]
          omega
        · have e9 := twl_set (ad := ad) (dA := dA) (c := .inl (0, n1, .inl (va_cpy f g sp.toNatClampNeg dp.toNatClampNeg n.toNatClampNeg))) hw z1
          have h1 := kk H1 l1 (by rw [← e9]; exact b1) b3 (tWf_set hw z1)
          simp only [tset, Nat.sub_self, Nat.add_zero] at h1
          exact h1
      · cases hcall
    · cases hcall
  | 8, hcok, hmk, hcall =>
    have hi := kv (by rw [← hmk]; rfl)
    subst hi
    simp only [tcall] at hcall
    split at hcall
    · split at hcall
      · rename_i hr
        obtain ⟨ha, hr4, hf1, hf2⟩ := hr
        obtain ⟨h2, hg, e1⟩ := omap hcall
        cases e1
        subst ha
        exact snd_clone hx hb hml hown' hts hA hP hw had hS hsz hcn hl hfr hlo hr4 hf1 hf2 hcok.2 hg hd hrc hrs kk
      · cases hcall
    · cases hcall
  | 9, hcok, hmk, hcall =>
    have hi := ks (by rw [← hmk]; rfl)
    subst hi
    simp only [tcall] at hcall
    split at hcall
    · split at hcall
      · rename_i y x r hr
        cases hcall
        have hm8 := hmR _ hr.1
        exact va_mmax hx hb (hml.trans hl.symm) hown' (hts _ hcok) (hts _ mtS0_ok) (hts _ mtI_ok) (hts _ mtC0_ok) (by omega) (by omega) hc0 hs0 hd (kk1 rfl)
      · cases hcall
    · cases hcall
  | 10, hcok, hmk, hcall =>
    have hi := ks (by rw [← hmk]; rfl)
    subst hi
    simp only [tcall] at hcall
    split at hcall
    · split at hcall
      · rename_i y x r hr
        cases hcall
        have hm8 := hmR _ hr.1
        exact va_mmin hx hb (hml.trans hl.symm) hown' (hts _ hcok) (hts _ mtS1_ok) (hts _ mtI_ok) (hts _ mtC1_ok) (by omega) (by omega) hc0 hs0 hd (kk1 rfl)
      · cases hcall
    · cases hcall
  | 11, hcok, hmk, hcall =>
    have hi := ks (by rw [← hmk]; rfl)
    subst hi
    simp only [tcall] at hcall
    split at hcall
    · split at hcall
      · rename_i y x r hr
        cases hcall
        have hm8 := hmR _ hr.1
        exact va_mmax_long hx hb (hml.trans hl.symm) hown' (hts _ hcok) (hts _ mtS2_ok) (hts _ mtI_ok) (hts _ mtC2_ok) (by omega) (by omega) hc0 hs0 hd (kk1 rfl)
      · cases hcall
    · cases hcall
  | 12, hcok, hmk, hcall =>
    have hi := ks (by rw [← hmk]; rfl)
    subst hi
    simp only [tcall] at hcall
    split at hcall
    · split at hcall
      · rename_i x r hr
        cases hcall
        have hm8 := hmR _ hr.1
        exact va_mabs_long hx hb (hml.trans hl.symm) hown' (hts _ hcok) (hts _ mtS3_ok) (hts _ mtI_ok) (hts _ mtC3_ok) (by omega) (by omega) hc0 hs0 hd (kk1 rfl)
      · cases hcall
    · cases hcall
  | n + 13, hcok, hmk, hcall => exfalso; simp only [tcall] at hcall; cases hcall
end S14
