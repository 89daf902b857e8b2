/-! THE TINY MACHINE IS TRUE, 9: the induction -/
section S15
variable {l : Launch} {base : Nat} {ad : Nat → Nat} {D : va_G} {dA : Nat → ClassId} {sc : Nat × (Nat → Int32)}
theorem call_cd {m m' pc k ar mode : Nat} {alts : List (Nat × Nat)} {ls st as r : List TV} {h : TH} (hcs : tlk2 cST (mO m) k = some (ar, mode, alts)) (hcall : tcall m pc ls st h ar mode alts = some (.inr (.inr (m', as, r)))) : cdOK m' := by
  have hcok := cST_ok _ (tlk2_mem hcs)
  match mode, hcok, hcall with
  | 0, hcok, hcall =>
    simp only [tcall] at hcall
    split at hcall
    · split at hcall
      · split at hcall
        · rename_i halt
          split at hcall
          · cases hcall
            rcases hcok _ (tlk_mem halt) with ⟨q1, q2, q3, q4, q5, q6⟩ | ⟨x, owner, b0, m0, r0, q1, q2, q3, q4, q5, q6, q7, q8, q9, q10⟩
            · exact q6
            · exact q10
          · cases hcall
        · cases hcall
      · cases hcall
    · cases hcall
  | 1, hcok, hcall =>
    simp only [tcall] at hcall
    split at hcall
    · rename_i halt
      split at hcall
      · cases hcall
        obtain ⟨-, q1, q2, q3, q4⟩ := hcok _ (tlk_mem halt)
        exact q4
      · cases hcall
    · cases hcall
  | 2, hcok, hcall =>
    simp only [tcall] at hcall
    split at hcall
    · rename_i halt
      split at hcall
      · cases hcall
        obtain ⟨-, q1, q2, q3, q4, q5, q6⟩ := hcok _ (tlk_mem halt)
        exact q6
      · cases hcall
    · cases hcall
  | 3, hcok, hcall =>
    simp only [tcall] at hcall
    split at hcall
    · rename_i halt
      split at hcall
      · split at hcall
        · cases hcall
          obtain ⟨-, x, owner, e0, q1, q2, q3, q4, q5, q6, q7, q8⟩ := hcok _ (tlk_mem halt)
          exact q8
        · cases hcall
      · cases hcall
    · cases hcall
  | n + 4, hcok, hcall =>
    exfalso
    simp only [tcall] at hcall
    repeat' split at hcall
    all_goals first | omega | (cases hcall; done) | (obtain ⟨_, hz, hz2⟩ := omap hcall; cases hz2)
theorem step_next {m pc pc1 : Nat} {ls st ls1 st1 : List TV} {h h1 : TH} (had : ∀ k, k < 1000000000 → ad k = base + k) (hst : tstep sc m pc ls st h = some (.inl (pc1, ls1, st1, h1))) : tGe h h1 ∧
    ∀ (p : Program) (e : Env) (R : Room) (s : State) (mid : MethodId) (args : Array Value) (below : List Frame) (meth : Method) (c : Code) (n0 k0 : Nat) (H : Heap) (locs : List Loc) (real : Array Slot) (Qf : State → Prop),
      tCx p s mid args meth c R sc base n0 ad D dA m → tWf h → n0 ≤ h.2.1 → k0 ≤ h.2.2 → h1.2.1 - n0 ≤ R.cells → h1.2.2 - k0 ≤ R.slots → va_P D vwCl (twl ad dA h) H → va_S (fun q => base ≤ q) s.heap H locs → tLR ad ls real (mL m) →
      (∀ (real' : Array Slot) (H' : Heap) (locs' : List Loc), va_P D vwCl (twl ad dA h1) H' → va_S (fun q => base ≤ q) s.heap H' locs' → tLR ad ls1 real' (mL m) → W p l e R s mid args below meth c H' locs' (h1.2.1 - n0) (h1.2.2 - k0) Qf (F0 mid pc1 real' (st1.map (tcv ad)))) →
      W p l e R s mid args below meth c H locs (h.2.1 - n0) (h.2.2 - k0) Qf (F0 mid pc real (st.map (tcv ad))) := by
  unfold tstep at hst
  split at hst
  · rename_i i len hd
    unfold tins at hst
    split at hst
    · rename_i l1 s1 hp
      cases hst
      refine ⟨tGe_rf, ?_⟩
      intro p e R s mid args below meth c n0 k0 H locs real Qf C hw hn0 hk0 hrc hrs hP hS hl kk
      obtain ⟨hx, hb, hml, hown, hts, hname, hz, hA, hfr, hlo⟩ := C
      exact snd_pure hx hb hown (tKok_of m hts hA) hd hp hl (fun real' hl' => kk real' H locs hP hS hl')
    · split at hst
      · rename_i t s1 hp
        cases hst
        refine ⟨tGe_rf, ?_⟩
        intro p e R s mid args below meth c n0 k0 H locs real Qf C hw hn0 hk0 hrc hrs hP hS hl kk
        obtain ⟨hx, hb, hml, hown, hts, hname, hz, hA, hfr, hlo⟩ := C
        exact snd_jump hx hb hd hp (kk real H locs hP hS hl)
      · split at hst
        · rename_i s1 h2 hp
          cases hst
          have hge := theap_mono hp
          refine ⟨hge, ?_⟩
          intro p e R s mid args below meth c n0 k0 H locs real Qf C hw hn0 hk0 hrc hrs hP hS hl kk
          obtain ⟨hx, hb, hml, hown, hts, hname, hz, hA, hfr, hlo⟩ := C
          obtain ⟨g1, g2, g3⟩ := hge
          refine snd_heap hx hb hown hname hts hA.1 hP hw had hS (by omega) (by omega) hd hp (by omega) (by omega) (fun H1 l1 a1 a2 a3 a4 a5 => ?_)
          have := kk real H1 l1 a1 a2 hl
          rwa [show h.2.1 - n0 + (h1.2.1 - h.2.1) = h1.2.1 - n0 by omega, show h.2.2 - k0 + (h1.2.2 - h.2.2) = h1.2.2 - k0 by omega]
        · split at hst
          · rename_i kd k hkd
            split at hst
            · rename_i ar mode alts hcs
              split at hst
              · rename_i hlm
                obtain ⟨rfl, hmk⟩ := hlm
                obtain ⟨rfl, rfl, hge⟩ := tcall_in hst
                refine ⟨hge, ?_⟩
                intro p e R s mid args below meth c n0 k0 H locs real Qf C hw hn0 hk0 hrc hrs hP hS hl kk
                obtain ⟨hx, hb, hml, hown, hts, hname, hz, hA, hfr, hlo⟩ := C
                obtain ⟨g1, g2, g3⟩ := hge
                refine snd_intr hx hb hml hown hts hA hP hw had hS (by omega) (by omega) hl.1 hfr hlo hcs hkd hmk hd hst (by omega) (by omega) (fun H1 l1 a1 a2 a3 => ?_)
                have := kk real H1 l1 a1 a2 hl
                rwa [show h.2.1 - n0 + (h1.2.1 - h.2.1) = h1.2.1 - n0 by omega, show h.2.2 - k0 + (h1.2.2 - h.2.2) = h1.2.2 - k0 by omega]
              · cases hst
            · cases hst
          · split at hst
            · split at hst
              · cases hst
              · cases hst
            · cases hst
  · cases hst
theorem step_ret {m pc : Nat} {ls st : List TV} {h h1 : TH} {v : Option TV} (hst : tstep sc m pc ls st h = some (.inr (.inl (v, h1)))) : h1 = h ∧ ∃ i, decode (mB m) pc = .ok (i, 1) ∧ tret m i st = some v := by
  unfold tstep at hst
  split at hst
  · rename_i i len hd
    unfold tins at hst
    split at hst
    · cases hst
    · split at hst
      · cases hst
      · split at hst
        · cases hst
        · split at hst
          · rename_i kd k hkd
            split at hst
            · rename_i ar mode alts hcs
              split at hst
              · exfalso
                unfold tcall at hst
                repeat' split at hst
                all_goals first | (cases hst; done) | (obtain ⟨_, hz, hz2⟩ := omap hst; cases hz2)
              · cases hst
            · cases hst
          · split at hst
            · rename_i w hr
              split at hst
              · rename_i hlen
                cases hst
                subst hlen
                exact ⟨rfl, i, hd, hr⟩
              · cases hst
            · cases hst
  · cases hst
theorem step_call {m m' pc : Nat} {ls st as r : List TV} {h : TH} (hst : tstep sc m pc ls st h = some (.inr (.inr (m', as, r)))) : ∃ i kd k ar mode alts, decode (mB m) pc = .ok (i, 3) ∧ tinv i = some (kd, k) ∧ tlk2 cST (mO m) k = some (ar, mode, alts) ∧ tmk mode = kd ∧ tcall m pc ls st h ar mode alts = some (.inr (.inr (m', as, r))) := by
  unfold tstep at hst
  split at hst
  · rename_i i len hd
    unfold tins at hst
    split at hst
    · cases hst
    · split at hst
      · cases hst
      · split at hst
        · cases hst
        · split at hst
          · rename_i kd k hkd
            split at hst
            · rename_i ar mode alts hcs
              split at hst
              · rename_i hlm
                obtain ⟨rfl, hmk⟩ := hlm
                exact ⟨i, kd, k, ar, mode, alts, hd, hkd, hcs, hmk, hst⟩
              · cases hst
            · cases hst
          · split at hst
            · split at hst
              · cases hst
              · cases hst
            · cases hst
  · cases hst
theorem tsound (had : ∀ k, k < 1000000000 → ad k = base + k) : ∀ n, tSnd l sc base ad D dA n := by
  intro n
  induction n with
  | zero => intro m pc ls st h v h' hx; cases hx
  | succ n ih =>
    intro m pc ls st h v h' hx
    rw [texec] at hx
    split at hx
    · rename_i pc1 ls1 st1 h1 hst
      obtain ⟨g1, g2⟩ := step_next (l := l) (D := D) (dA := dA) had hst
      obtain ⟨j1, j2⟩ := ih _ _ _ _ _ _ _ hx
      refine ⟨⟨Nat.le_trans g1.1 j1.1, Nat.le_trans g1.2.1 j1.2.1, fun hw => j1.2.2 (g1.2.2 hw)⟩, ?_⟩
      intro p e R s mid args below meth c n0 k0 H locs real Qf C hw hn0 hk0 hrc hrs hP hS hl hret
      have a1 := g1.1
      have a2 := g1.2.1
      have a3 := j1.1
      have a4 := j1.2.1
      refine g2 p e R s mid args below meth c n0 k0 H locs real Qf C hw hn0 hk0 (by omega) (by omega) hP hS hl (fun real' H' locs' b1 b2 b3 => ?_)
      exact j2 p e R s mid args below meth c n0 k0 H' locs' real' Qf C (g1.2.2 hw) (by omega) (by omega) hrc hrs b1 b2 b3 hret
    · rename_i r hst
      cases hx
      obtain ⟨rfl, i, hd, hr⟩ := step_ret hst
      refine ⟨tGe_rf, ?_⟩
      intro p e R s mid args below meth c n0 k0 H locs real Qf C hw hn0 hk0 hrc hrs hP hS hl hret
      exact hret pc i st real H locs hd hr hP hS
    · rename_i m' as st' hst
      split at hx
      · rename_i hchk
        split at hx
        · rename_i v1 h1 hx1
          obtain ⟨i, kd, k, ar, mode, alts, hd, hkd, hcs, hmk, hcall⟩ := step_call hst
          obtain ⟨g1, -⟩ := ih _ _ _ _ _ _ _ hx1
          obtain ⟨j1, j2⟩ := ih _ _ _ _ _ _ _ hx
          refine ⟨⟨Nat.le_trans g1.1 j1.1, Nat.le_trans g1.2.1 j1.2.1, fun hw => j1.2.2 (g1.2.2 hw)⟩, ?_⟩
          intro p e R s mid args below meth c n0 k0 H locs real Qf C hw hn0 hk0 hrc hrs hP hS hl hret
          have a1 := g1.1
          have a2 := g1.2.1
          have a3 := j1.1
          have a4 := j1.2.1
          have C2 := C
          obtain ⟨hxe, hb, hml, hown, hts, hname, hz, hA, hfr, hlo⟩ := C
          have hM := met_of ih hx1 hw (call_cd hcs hcall).2.2.2 (tchk_of hchk).2.2
          refine wsize (fun hsz2 => ?_)
          have hHz : H.size = base + h.2.1 := by
            have := tHsz (s := s) had hP hw hS (by omega)
            omega
          refine snd_run (snd_call hxe hb hml hown hts hA hP hw hS (by omega) hHz hl.1 hfr hlo hcs hkd hmk hd hcall hchk hM (by omega) (by omega)) hS (fun H1 locs1 b1 b2 => ?_)
          have e1 : (v1.map (tcv ad)).toList ++ st'.map (tcv ad) = (v1.toList ++ st').map (tcv ad) := by cases v1 <;> rfl
          rw [e1, show h.2.1 - n0 + (h1.2.1 - h.2.1) = h1.2.1 - n0 by omega, show h.2.2 - k0 + (h1.2.2 - h.2.2) = h1.2.2 - k0 by omega]
          exact j2 p e R s mid args below meth c n0 k0 H1 locs1 real Qf C2 (g1.2.2 hw) (by omega) (by omega) hrc hrs b1 b2 hl hret
        · cases hx
      · cases hx
    · cases hx
end S15
