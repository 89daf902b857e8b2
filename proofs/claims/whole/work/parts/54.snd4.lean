/-! THE TINY MACHINE IS TRUE, 4: the heap group as one -/
section S10
variable {p : Program} {l : Launch} {e : Env} {R : Room} {s : State} {mid : MethodId} {args : Array Value} {below : List Frame} {meth : Method} {c : Code} {H : Heap} {locs : List Loc} {cells slots : Nat} {Q : State → Prop}
variable {ad : Nat → Nat} {m pc len nL base : Nat} {real : Array Slot} {i : Instr} {ls st ls' st' : List TV} {D : va_G} {dA : Nat → ClassId} {h h' : TH} {sc : Nat × (Nat → Int32)}
theorem tcl_cell {o ci : Nat} (hci : tcl h o = some ci) : ∃ f, h.1 o = some (.inr (ci, f)) := by
  unfold tcl at hci
  split at hci
  · rename_i ci2 f hc
    cases hci
    exact ⟨f, hc⟩
  · cases hci
theorem trecv {o ci : Nat} {q : vw_C} (hK : va_K D vwCl (tTy dA) s) (hP : va_P D vwCl (twl ad dA h) H) (hw : tWf h) (hci : tcl h o = some ci) (hc : vwCl[ci]? = some q) : ∃ cell : Cell, H[ad o]? = some cell ∧ cell.vm.isStatics = false ∧ s.vm.findClass q.1 = some cell.cls := by
  obtain ⟨f, hcell⟩ := tcl_cell hci
  exact va_recv hK hP hc (twl_get hw hcell)
theorem snd_inst {k o ci : Nat} {cis : List Nat} {r : List TV} (hx : p.tables.exec = Jvm.exec) (hb : c.code = mB m) (hown : s.vm.findClass (mY m).cls = some mid.cls) (hts : ∀ w ∈ lw_good, w.before args s = true) (hK : va_K D vwCl (tTy dA) s) (hnw : ∀ w ∈ nwC, va_Nw w s) (hnc : ∀ q ∈ ncC, va_Nc q.1 q.2 s) (hP : va_P D vwCl (twl ad dA h) H) (hw : tWf h)
    (hf : tlk2 iNT (mO m) k = some cis) (hci : tcl h o = some ci) (hmem : ([0, 2, 3, 4, 6, 7] : List Nat).contains ci = true) (hd : decode (mB m) pc = .ok (.instanceof k, 3))
    (kk : W p l e R s mid args below meth c H locs cells slots Q (F0 mid (pc + 3) real ((vI (if cis.contains ci = true then 1 else 0) :: r).map (tcv ad)))) : W p l e R s mid args below meth c H locs cells slots Q (F0 mid pc real ((vR (some o) :: r).map (tcv ad))) := by
  have hown' : s.vm.findClass (cNm (mO m)) = some mid.cls := by rw [← mOwn]; exact hown
  obtain ⟨nci, h1, h2⟩ := iNT_ok _ (tlk2_mem hf)
  simp only at h1 h2
  have hm2 : ci ∈ ([0, 2, 3, 4, 6, 7] : List Nat) := by simpa using hmem
  have hq : ∃ q, vwCl[ci]? = some q ∧ q.1 = cNm ci := by
    simp only [List.mem_cons, List.not_mem_nil, or_false] at hm2
    rcases hm2 with rfl | rfl | rfl | rfl | rfl | rfl <;> exact ⟨_, rfl, rfl⟩
  obtain ⟨q, hq1, hq2⟩ := hq
  have hr := trecv (ad := ad) hK hP hw hci hq1
  rw [hq2] at hr
  rcases h2 ci hm2 with ⟨z1, z2⟩ | ⟨z1, z2⟩
  · rw [if_pos z1] at kk
    rcases z2 with z2 | z2
    · have hca := (hK.1 ci q hq1).2
      rw [hq2] at hca
      subst z2
      exact va_instS hx hb hown' (hts _ h1) hca hr hd kk
    · exact va_instY hx hb hown' (hts _ h1) (hnw _ z2) hr hd kk
  · rw [if_neg (by rw [z1]; decide)] at kk
    exact va_instNo hx hb hown' (hts _ h1) (hnc _ z2) hr hd kk
set_option maxHeartbeats 4000000 in
theorem snd_heap (hx : p.tables.exec = Jvm.exec) (hb : c.code = mB m) (hown : s.vm.findClass (mY m).cls = some mid.cls) (hname : (mY m).name = "<init>" → meth.name = "<init>") (hts : ∀ w ∈ lw_good, w.before args s = true) (hG : tGx sc base ad D dA s s.heap) (hP : va_P D vwCl (twl ad dA h) H) (hw : tWf h) (had : ∀ k, k < 1000000000 → ad k = base + k) (hS : va_S (fun q => base ≤ q) s.heap H locs)
    (hsz : base ≤ s.heap.size) (hcn : s.heap.size + cells = base + h.2.1) (hd : decode (mB m) pc = .ok (i, len)) (hp : theap sc m i len st h = some (st', h')) (hrc : cells + (h'.2.1 - h.2.1) ≤ R.cells) (hrs : slots + (h'.2.2 - h.2.2) ≤ R.slots)
    (kk : ∀ (H' : Heap) (locs' : List Loc), va_P D vwCl (twl ad dA h') H' → va_S (fun q => base ≤ q) s.heap H' locs' → tWf h' → h.2.1 ≤ h'.2.1 → h.2.2 ≤ h'.2.2 → W p l e R s mid args below meth c H' locs' (cells + (h'.2.1 - h.2.1)) (slots + (h'.2.2 - h.2.2)) Q (F0 mid (pc + len) real (st'.map (tcv ad)))) : W p l e R s mid args below meth c H locs cells slots Q (F0 mid pc real (st.map (tcv ad))) := by
  have hown' : s.vm.findClass (cNm (mO m)) = some mid.cls := by rw [← mOwn]; exact hown
  have hK := hG.1
  have hnw := hG.2.2.2.2.2.2.2.1
  have hnc := hG.2.2.2.2.2.2.2.2.1
  have hA4 := hG.2.2.2.2.2.2.2.2.2.1
  have hA5 := hG.2.2.2.2.2.2.2.2.2.2.1
  have kk0 : h'.2 = h.2 → ∀ (H' : Heap) (locs' : List Loc), va_P D vwCl (twl ad dA h') H' → va_S (fun q => base ≤ q) s.heap H' locs' → tWf h' → W p l e R s mid args below meth c H' locs' cells slots Q (F0 mid (pc + len) real (st'.map (tcv ad))) := by
    intro e2 H' locs' a1 a2 a3
    have h1 := kk H' locs' a1 a2 a3 (by rw [e2]; exact Nat.le_refl _) (by rw [e2]; exact Nat.le_refl _)
    rw [e2, Nat.sub_self, Nat.sub_self] at h1
    exact h1
  have kk1 : h' = h → W p l e R s mid args below meth c H locs cells slots Q (F0 mid (pc + len) real (st'.map (tcv ad))) := by
    intro e2
    subst e2
    exact kk0 rfl H locs hP hS hw
  cases i
  case getfield k =>
    simp only [theap] at hp
    split at hp
    · subst len
      split at hp
      · rename_i cis sl kind o r hf
        cases hg : tget h o cis sl with
        | none => rw [hg] at hp; cases hp
        | some v =>
          rw [hg] at hp
          cases hp
          exact snd_get hx hb hown hts hK hP hw rfl hf hg hd (kk1 rfl)
      · cases hp
    · cases hp
  case putfield k =>
    simp only [theap] at hp
    split at hp
    · subst len
      split at hp
      · rename_i cis sl kind v o r hf
        split at hp
        · rename_i hfin
          cases hg : tput h o cis sl (kind % 10) v with
          | none => rw [hg] at hp; cases hp
          | some h2 =>
            rw [hg] at hp
            cases hp
            exact snd_put hx hb hown hname hts hK hP hw had hS hf hfin hg hd (fun H1 l1 a1 a2 a3 a4 => kk0 a4 H1 l1 a1 a2 a3)
        · cases hp
      · cases hp
    · cases hp
  case getstatic k =>
    simp only [theap] at hp
    split at hp
    · subst len
      split at hp
      · rename_i q hf
        cases hp
        have hmem := tlk2_mem hf
        simp only [gST, List.mem_cons, List.not_mem_nil, or_false, Prod.mk.injEq] at hmem
        rcases hmem with ⟨e1, rfl, rfl⟩ | ⟨e1, rfl, rfl⟩
        · rw [e1] at hown'
          exact va_getsN hx hb hG.2.2.2.1 hS hown' ((hnw _ (by decide +kernel : Cond.fieldLinkNest RX9 27 RX10 "LAW_AT_FIRST" "[I" RX10 ∈ nwC)).use rfl) (fun _ z => z) hd (kk1 rfl)
        · rw [e1] at hown'
          exact va_gets hx hb hG.2.2.2.2.2.1 hS hown' (hts _ sl_ok) (fun _ z => z) hd (kk1 rfl)
      · cases hp
    · cases hp
  case iaload =>
    simp only [theap] at hp
    split at hp
    · subst len
      split at hp
      · rename_i j a r
        cases hg : tald sc h 0 a j with
        | none => rw [hg] at hp; cases hp
        | some v =>
          rw [hg] at hp
          cases hp
          exact snd_ald hx hb hG hsz hP hw hS hg (Or.inl ⟨rfl, hd⟩) (kk1 rfl)
      · cases hp
    · cases hp
  case baload =>
    simp only [theap] at hp
    split at hp
    · subst len
      split at hp
      · rename_i j a r
        cases hg : tald sc h 1 a j with
        | none => rw [hg] at hp; cases hp
        | some v =>
          rw [hg] at hp
          cases hp
          exact snd_ald hx hb hG hsz hP hw hS hg (Or.inr ⟨rfl, hd⟩) (kk1 rfl)
      · cases hp
    · cases hp
  case laload =>
    simp only [theap] at hp
    split at hp
    · subst len
      split at hp
      · rename_i j a r
        cases hg : tldl h a j with
        | none => rw [hg] at hp; cases hp
        | some v =>
          rw [hg] at hp
          cases hp
          exact snd_ldl hx hb hK hP hw hg hd (kk1 rfl)
      · cases hp
    · cases hp
  case aaload =>
    simp only [theap] at hp
    split at hp
    · subst len
      split at hp
      · rename_i j a r
        cases hg : tldr h a j with
        | none => rw [hg] at hp; cases hp
        | some v =>
          rw [hg] at hp
          cases hp
          exact snd_ldr hx hb hK hP hw hg hd (kk1 rfl)
      · cases hp
    · cases hp
  case iastore =>
    simp only [theap] at hp
    split at hp
    · subst len
      split at hp
      · rename_i x j a r
        cases hg : tasi h a j x with
        | none => rw [hg] at hp; cases hp
        | some h2 =>
          rw [hg] at hp
          cases hp
          exact snd_asi hx hb hK hP hw had hS hg hd (fun H1 l1 a1 a2 a3 a4 => kk0 a4 H1 l1 a1 a2 a3)
      · cases hp
    · cases hp
  case bastore =>
    simp only [theap] at hp
    split at hp
    · subst len
      split at hp
      · rename_i x j a r
        cases hg : tasb h a j x with
        | none => rw [hg] at hp; cases hp
        | some h2 =>
          rw [hg] at hp
          cases hp
          exact snd_asb hx hb hK hP hw had hS hg hd (fun H1 l1 a1 a2 a3 a4 => kk0 a4 H1 l1 a1 a2 a3)
      · cases hp
    · cases hp
  case lastore =>
    simp only [theap] at hp
    split at hp
    · subst len
      split at hp
      · rename_i x j a r
        cases hg : tasl h a j x with
        | none => rw [hg] at hp; cases hp
        | some h2 =>
          rw [hg] at hp
          cases hp
          exact snd_asl hx hb hK hP hw had hS hg hd (fun H1 l1 a1 a2 a3 a4 => kk0 a4 H1 l1 a1 a2 a3)
      · cases hp
    · cases hp
  case aastore =>
    simp only [theap] at hp
    split at hp
    · subst len
      split at hp
      · rename_i x j a r
        cases hg : tasr h a j x with
        | none => rw [hg] at hp; cases hp
        | some h2 =>
          rw [hg] at hp
          cases hp
          exact snd_asr hx hb hK hnw hP hw had hS hg hd (fun H1 l1 a1 a2 a3 a4 => kk0 a4 H1 l1 a1 a2 a3)
      · cases hp
    · cases hp
  case arraylength =>
    simp only [theap] at hp
    split at hp
    · subst len
      split at hp
      · rename_i a r
        cases hg : tlen sc h a with
        | none => rw [hg] at hp; cases hp
        | some v =>
          rw [hg] at hp
          cases hp
          exact snd_len hx hb hG hsz hP hw hS hg hd (kk1 rfl)
      · cases hp
    · cases hp
  case newarray ty =>
    have fin : ∀ (t : Nat) (n : Int32) (r : List TV) (h2 : TH), tna h t n = some h2 → st = vI n :: r → st' = vR (some h.2.1) :: r → h' = h2 → len = 2 → (t = 0 ∧ ty = .int ∨ t = 1 ∧ ty = .byte ∨ t = 2 ∧ ty = .long) → W p l e R s mid args below meth c H locs cells slots Q (F0 mid pc real (st.map (tcv ad))) := by
      intro t n r h2 hg e1 e2 e3 e4 ht
      subst e1; subst e2; subst e3; subst e4
      obtain ⟨q0, q1, cl, hnew, -⟩ := inv_na hg
      obtain ⟨hn, e5⟩ := inv_new hnew
      have c1 : h'.2.1 = h.2.1 + 1 := by rw [e5]
      have c2 : h'.2.2 = h.2.2 + n.toNatClampNeg := by rw [e5]
      refine snd_na (t := t) (pc' := pc + 2) hx hb hown hts hK hA4 hA5 hP hw had hS hsz hcn hg (by omega) (by omega) ?_ (fun H1 a1 a2 a3 => ?_)
      · rcases ht with ⟨rfl, rfl⟩ | ⟨rfl, rfl⟩ | ⟨rfl, rfl⟩
        · exact Or.inl ⟨rfl, hd, rfl⟩
        · exact Or.inr (Or.inl ⟨rfl, hd, rfl⟩)
        · exact Or.inr (Or.inr (Or.inl ⟨rfl, hd, rfl⟩))
      · have := kk H1 locs a1 a2 a3 (by omega) (by omega)
        rwa [c1, c2, Nat.add_sub_cancel_left, Nat.add_sub_cancel_left] at this
    simp only [theap] at hp
    split at hp
    · split at hp
      · rename_i n r
        cases hg : tna h 0 n with
        | none => rw [hg] at hp; cases hp
        | some h2 =>
          rw [hg] at hp
          cases hp
          exact fin 0 n _ _ hg rfl rfl rfl (by assumption) (Or.inl ⟨rfl, rfl⟩)
      · rename_i n r
        cases hg : tna h 1 n with
        | none => rw [hg] at hp; cases hp
        | some h2 =>
          rw [hg] at hp
          cases hp
          exact fin 1 n _ _ hg rfl rfl rfl (by assumption) (Or.inr (Or.inl ⟨rfl, rfl⟩))
      · rename_i n r
        cases hg : tna h 2 n with
        | none => rw [hg] at hp; cases hp
        | some h2 =>
          rw [hg] at hp
          cases hp
          exact fin 2 n _ _ hg rfl rfl rfl (by assumption) (Or.inr (Or.inr ⟨rfl, rfl⟩))
      · cases hp
    · cases hp
  case anewarray k =>
    simp only [theap] at hp
    split at hp
    · subst len
      split at hp
      · rename_i t n r hf
        cases hg : tna h t n with
        | none => rw [hg] at hp; cases hp
        | some h2 =>
          rw [hg] at hp
          cases hp
          obtain ⟨q0, q1, cl, hnew, -⟩ := inv_na hg
          obtain ⟨hn, e5⟩ := inv_new hnew
          have c1 : h'.2.1 = h.2.1 + 1 := by rw [e5]
          have c2 : h'.2.2 = h.2.2 + n.toNatClampNeg := by rw [e5]
          refine snd_na (t := t) (pc' := pc + 3) hx hb hown hts hK hA4 hA5 hP hw had hS hsz hcn hg (by omega) (by omega) ?_ (fun H1 a1 a2 a3 => ?_)
          · rcases aNT_ok _ (tlk2_mem hf) with ⟨e1, e2⟩ | ⟨e1, e2⟩
            · exact Or.inr (Or.inr (Or.inr (Or.inl ⟨k, e1, e2, hd, rfl⟩)))
            · exact Or.inr (Or.inr (Or.inr (Or.inr ⟨k, e1, e2, hd, rfl⟩)))
          · have := kk H1 locs a1 a2 a3 (by omega) (by omega)
            rwa [c1, c2, Nat.add_sub_cancel_left, Nat.add_sub_cancel_left] at this
      · cases hp
    · cases hp
  case new k =>
    simp only [theap] at hp
    split at hp
    · subst len
      split at hp
      · rename_i ci n hf
        cases hg : tnew h (.inr (ci, tdf ci)) n with
        | none => rw [hg] at hp; cases hp
        | some h2 =>
          rw [hg] at hp
          cases hp
          obtain ⟨hn, e5⟩ := inv_new hg
          have c1 : h'.2.1 = h.2.1 + 1 := by rw [e5]
          have c2 : h'.2.2 = h.2.2 + n := by rw [e5]
          refine snd_new hx hb hown hts hK hP hw had hS hsz hcn hf hg (by omega) (by omega) hd (fun H1 a1 a2 a3 => ?_)
          have := kk H1 locs a1 a2 a3 (by omega) (by omega)
          rwa [c1, c2, Nat.add_sub_cancel_left, Nat.add_sub_cancel_left] at this
      · cases hp
    · cases hp
  case instanceof k =>
    simp only [theap] at hp
    split at hp
    · subst len
      split at hp
      · cases hp
        exact lv_instN hx hb hd (kk1 rfl)
      · rename_i cis o r hf
        split at hp
        · rename_i ci hci
          split at hp
          · rename_i hmem
            cases hp
            exact snd_inst hx hb hown hts hK hnw hnc hP hw hf hci hmem hd (kk1 rfl)
          · cases hp
        · cases hp
      · cases hp
    · cases hp
  case checkcast k =>
    simp only [theap] at hp
    split at hp
    · rename_i hc
      obtain ⟨rfl, e1, rfl⟩ := hc
      split at hp
      · rename_i a r
        split at hp
        · rename_i x1 x2 hcell
          cases hp
          have hl := hts _ tCC_ok
          rw [← e1] at hl
          have key : ∃ (x : vp_A), tce ad dA (.inl (0, x1, x2)) = .inl (dA 0, x) := by
            match x2 with
            | .inl f => exact ⟨_, rfl⟩
            | .inr (.inl f) => exact ⟨_, rfl⟩
            | .inr (.inr (.inl f)) => exact ⟨_, rfl⟩
            | .inr (.inr (.inr (.inl f))) => exact ⟨_, rfl⟩
            | .inr (.inr (.inr (.inr f))) => exact ⟨_, rfl⟩
          obtain ⟨y, ey⟩ := key
          have hcl := twl_get (ad := ad) (dA := dA) hw hcell
          rw [ey] at hcl
          exact va_castA (D := D) (ws := twl ad dA h) hx hb hown' hl hP a hcl (va_nm_int ((hK.2 0 _ rfl).2)) hd (kk1 rfl)
        · cases hp
      · cases hp
    · cases hp
  all_goals exact nomatch (show (none : Option (List TV × TH)) = some (st', h') from hp)
end S10
