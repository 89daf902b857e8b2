/-! THE TINY MACHINE IS TRUE, 7: all together -/
section S14
variable {p : Program} {l : Launch} {e : Env} {R : Room} {s : State} {mid : MethodId} {args : Array Value} {below : List Frame} {meth : Method} {c : Code} {H : Heap} {locs : List Loc} {cells slots : Nat} {Q : State → Prop}
variable {ad : Nat → Nat} {m pc len nL base : Nat} {real : Array Slot} {i : Instr} {ls st ls' st' : List TV} {D : va_G} {dA : Nat → ClassId} {h h' : TH} {sc : Nat × (Nat → Int32)}
set_option maxHeartbeats 4000000 in
theorem snd_intr {pc' ar mode k kd : Nat} {alts : List (Nat × Nat)} (hx : p.tables.exec = Jvm.exec) (hb : c.code = mB m) (hml : c.maxLocals = mL m) (hown : s.vm.findClass (mY m).cls = some mid.cls) (hts : ∀ w ∈ lw_good, w.before args s = true) (hA : tAll sc base ad D dA s s.heap) (hP : va_P D vwCl (twl ad dA h) H) (hw : tWf h) (had : ∀ k, k < 1000000000 → ad k = base + k) (hS : va_S (fun q => base ≤ q) s.heap H locs) (hsz : base ≤ s.heap.size) (hcn : s.heap.size + cells = base + h.2.1) (hl : real.size = mL m)
    (hfr : mF m ≤ R.frames) (hlo : mW m ≤ R.locals) (hcs : tlk2 cST (mO m) k = some (ar, mode, alts)) (hkd : tinv i = some (kd, k)) (hmk : tmk mode = kd) (hd : decode (mB m) pc = .ok (i, 3)) (hcall : tcall m pc ls st h ar mode alts = some (.inl (pc', ls', st', h')))
    (hrc : cells + (h'.2.1 - h.2.1) ≤ R.cells) (hrs : slots + (h'.2.2 - h.2.2) ≤ R.slots)
    (kk : ∀ (H' : Heap) (locs' : List Loc), va_P D vwCl (twl ad dA h') H' → va_S (fun q => base ≤ q) s.heap H' locs' → tWf h' → W p l e R s mid args below meth c H' locs' (cells + (h'.2.1 - h.2.1)) (slots + (h'.2.2 - h.2.2)) Q (F0 mid (pc + 3) real (st'.map (tcv ad)))) : W p l e R s mid args below meth c H locs cells slots Q (F0 mid pc real (st.map (tcv ad))) := by
  have hown' : s.vm.findClass (cNm (mO m)) = some mid.cls := by rw [← mOwn]; exact hown
  have hcok := cST_ok _ (tlk2_mem hcs)
  have hkind : ∀ z : Nat × Nat, tinv i = some z → (z.1 = 0 → i = .invokevirtual z.2) ∧ (z.1 = 1 → i = .invokestatic z.2) ∧ (z.1 = 2 → i = .invokespecial z.2) := by
    intro z hz
    cases i <;> simp [tinv] at hz <;> subst hz <;> simp
  obtain ⟨kv, ks, ksp⟩ := hkind _ hkd
  simp only at kv ks ksp
  have kk1 : h' = h → W p l e R s mid args below meth c H locs cells slots Q (F0 mid (pc + 3) real (st'.map (tcv ad))) := by
    intro e2
    subst e2
    have h1 := kk H locs hP hS hw
    rw [Nat.sub_self, Nat.sub_self] at h1
    exact h1
  have hmR : ∀ r : List TV, r.length ≤ 4 → ((r.map (tcv ad)).map fun v => v.category).sum ≤ 8 := fun r hr => catsum r hr
  have hc0 : cells ≤ R.cells := by omega
  have hs0 : slots ≤ R.slots := by omega
  match mode, hcok, hmk, hcall with
  | 0, hcok, hmk, hcall => exfalso; simp only [tcall] at hcall; (repeat' split at hcall); all_goals cases hcall
  | 1, hcok, hmk, hcall => exfalso; simp only [tcall] at hcall; (repeat' split at hcall); all_goals cases hcall
  | 2, hcok, hmk, hcall => exfalso; simp only [tcall] at hcall; (repeat' split at hcall); all_goals cases hcall
  | 3, hcok, hmk, hcall => exfalso; simp only [tcall] at hcall; (repeat' split at hcall); all_goals cases hcall
  | 4, hcok, hmk, hcall =>
    have hi := ksp (by rw [← hmk]; rfl)
    subst hi
    simp only [tcall] at hcall
    split at hcall
    · split at hcall
      · rename_i o r hr
        cases hcall
        exact W.objInit hx hb hown' (hts _ hcok.2) (hts _ obI_ok) (hts _ obC_ok) rfl (hl.trans hml.symm) rfl hd (by omega) (Nat.le_trans (Nat.add_le_add_right (lv_room (hmR _ hr.1)) 12) (by omega)) (kk1 rfl)
      · cases hcall
    · cases hcall
  | 5, hcok, hmk, hcall => sorry
  | 6, hcok, hmk, hcall => sorry
  | 7, hcok, hmk, hcall =>
    have hi := ks (by rw [← hmk]; rfl)
    subst hi
    simp only [tcall] at hcall
    split at hcall
    · split at hcall
      · rename_i n dp a1 sp a0 r _ hr
        obtain ⟨h2, hg, e1⟩ := omap hcall
        cases e1
        obtain ⟨n0, n1, f, g, z0, z1, q1, q2, q3, q4, q5, rfl⟩ := inv_cpy hg
        have hm8 := hmR _ hr.1
        refine va_copyi (D := D) (ws := twl ad dA h) hx hb (hml.trans hl.symm) hown' (hts _ hcok.2) (hts _ acN_ok) (hts _ acS_ok) (hts _ acI_ok) hA.1.1 hP (twl_D hw had) hS _ _ 0 0 (ty := .int) (twl_get hw z0) (twl_get hw z1) rfl rfl rfl q1 q2 q3 q4 q5 (fun _ _ => rfl) (by omega) ?_ hd (fun H1 l1 b1 b2 b3 => ?_)
        · have e9 : nativeFrameWords "java/lang/System" "arraycopy" 5 = 7 := by decide
          rw [e9]
          omega
        · have e9 := twl_set (ad := ad) (dA := dA) (c := .inl (0, n1, .inl (va_cpy f g sp.toNatClampNeg dp.toNatClampNeg n.toNatClampNeg))) hw z1
          have h1 := kk H1 l1 (by rw [← e9]; exact b1) b3 (tWf_set hw z1)
          simp only [tset, Nat.sub_self, Nat.add_zero] at h1
          exact h1
      · cases hcall
    · cases hcall
  | 8, hcok, hmk, hcall => sorry
  | 9, hcok, hmk, hcall =>
    have hi := ks (by rw [← hmk]; rfl)
    subst hi
    simp only [tcall] at hcall
    split at hcall
    · split at hcall
      · rename_i y x r hr
        cases hcall
        have hm8 := hmR _ hr.1
        exact va_mmax hx hb (hml.trans hl.symm) hown' (hts _ hcok) (hts _ mtS0_ok) (hts _ mtI_ok) (hts _ mtC0_ok) (by omega) (by omega) hc0 hs0 hd (kk1 rfl)
      · cases hcall
    · cases hcall
  | 10, hcok, hmk, hcall =>
    have hi := ks (by rw [← hmk]; rfl)
    subst hi
    simp only [tcall] at hcall
    split at hcall
    · split at hcall
      · rename_i y x r hr
        cases hcall
        have hm8 := hmR _ hr.1
        exact va_mmin hx hb (hml.trans hl.symm) hown' (hts _ hcok) (hts _ mtS1_ok) (hts _ mtI_ok) (hts _ mtC1_ok) (by omega) (by omega) hc0 hs0 hd (kk1 rfl)
      · cases hcall
    · cases hcall
  | 11, hcok, hmk, hcall =>
    have hi := ks (by rw [← hmk]; rfl)
    subst hi
    simp only [tcall] at hcall
    split at hcall
    · split at hcall
      · rename_i y x r hr
        cases hcall
        have hm8 := hmR _ hr.1
        exact va_mmax_long hx hb (hml.trans hl.symm) hown' (hts _ hcok) (hts _ mtS2_ok) (hts _ mtI_ok) (hts _ mtC2_ok) (by omega) (by omega) hc0 hs0 hd (kk1 rfl)
      · cases hcall
    · cases hcall
  | 12, hcok, hmk, hcall =>
    have hi := ks (by rw [← hmk]; rfl)
    subst hi
    simp only [tcall] at hcall
    split at hcall
    · split at hcall
      · rename_i x r hr
        cases hcall
        have hm8 := hmR _ hr.1
        exact va_mabs_long hx hb (hml.trans hl.symm) hown' (hts _ hcok) (hts _ mtS3_ok) (hts _ mtI_ok) (hts _ mtC3_ok) (by omega) (by omega) hc0 hs0 hd (kk1 rfl)
      · cases hcall
    · cases hcall
  | n + 13, hcok, hmk, hcall => exfalso; simp only [tcall] at hcall; cases hcall
end S14
