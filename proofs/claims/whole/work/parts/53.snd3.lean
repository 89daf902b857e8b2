/-! THE TINY MACHINE IS TRUE, 3: arrays, what is made, and the heap group together -/
section S9
variable {p : Program} {l : Launch} {e : Env} {R : Room} {s : State} {mid : MethodId} {args : Array Value} {below : List Frame} {meth : Method} {c : Code} {H : Heap} {locs : List Loc} {cells slots : Nat} {Q : State → Prop}
variable {ad : Nat → Nat} {m pc len nL base : Nat} {real : Array Slot} {i : Instr} {ls st ls' st' : List TV} {D : va_G} {dA : Nat → ClassId} {h h' : TH} {sc : Nat × (Nat → Int32)}
/-- the address of what is made last is the next one -/
theorem tnext {ws : va_W} {q : Nat} {E : va_E} {H1 : Heap} (hw : tWf h) (had : ∀ k, k < 1000000000 → ad k = base + k) (hP : va_P D vwCl (twl ad dA h ++ [(q, E)]) H1) (hD : va_D (fun q => base ≤ q) (twl ad dA h ++ [(q, E)])) (hz : H1.size ≤ base + h.2.1 + 1) : q = ad h.2.1 := by
  have hlen : (twl ad dA h).length = h.2.1 := by simp [twl]
  have hlast : (twl ad dA h ++ [(q, E)])[h.2.1]? = some (q, E) := by
    rw [List.getElem?_append_right (by omega), hlen, Nat.sub_self]; rfl
  have h1 : q < H1.size := (hP _ _ hlast).lt
  have h2 : base ≤ q := hD.2 _ _ hlast
  have hb := hw.2
  rw [had _ (by omega)]
  by_cases hq : q = base + h.2.1
  · exact hq
  · exfalso
    have hk : q - base < h.2.1 := by omega
    have h3 : (twl ad dA h ++ [(q, E)])[q - base]? = some (ad (q - base), tce ad dA ((h.1 (q - base)).getD tcell0)) := by
      rw [List.getElem?_append_left (by omega)]
      unfold twl
      rw [List.getElem?_map, List.getElem?_range hk]; rfl
    have h4 := hD.1 _ _ _ _ h3 hlast (by show ad (q - base) = q; rw [had _ (by omega)]; omega)
    omega
theorem tWf_new {cl : TC} {n : Nat} (hw : tWf h) (hn : h.2.1 < 1000000) : tWf (va_up h.1 h.2.1 (some cl), h.2.1 + 1, n) := by
  refine ⟨fun k d hk => ?_, by show h.2.1 + 1 ≤ 1000000; omega⟩
  by_cases e : k = h.2.1
  · subst e; show h.2.1 < h.2.1 + 1; omega
  · have := hw.1 k d (by simpa [va_up, e] using hk)
    show k < h.2.1 + 1; omega
theorem vin {j : Int32} {n : Nat} (hn : ¬ (j < 0 ∨ n ≤ j.toNatClampNeg)) : vp_in j n := hn
theorem snd_ald {t a : Nat} {j x : Int32} {r : List TV} (hx : p.tables.exec = Jvm.exec) (hb : c.code = mB m) (hG : tGx sc base ad D dA s s.heap) (hsz : base ≤ s.heap.size) (hP : va_P D vwCl (twl ad dA h) H) (hw : tWf h) (hS : va_S (fun q => base ≤ q) s.heap H locs)
    (hg : tald sc h t a j = some x) (hd : t = 0 ∧ decode (mB m) pc = .ok (.iaload, 1) ∨ t = 1 ∧ decode (mB m) pc = .ok (.baload, 1))
    (kk : W p l e R s mid args below meth c H locs cells slots Q (F0 mid (pc + 1) real ((vI x :: r).map (tcv ad)))) : W p l e R s mid args below meth c H locs cells slots Q (F0 mid pc real ((vI j :: vR (some a) :: r).map (tcv ad))) := by
  obtain ⟨hK, hX, hXb, hZ1, hT1, hZ2, hT2, -⟩ := hG
  unfold tald at hg
  split at hg
  · rename_i t' n f hta
    split at hg
    · rename_i hc
      obtain ⟨rfl, hin⟩ := hc
      cases hg
      unfold tai at hta
      split at hta
      · rename_i t2 n2 f2 hcell
        cases hta
        rcases hd with ⟨rfl, hd⟩ | ⟨rfl, hd⟩
        · exact va_iald (D := D) (ws := twl ad dA h) hx hb hK hP a 0 (twl_get hw hcell) rfl (vin hin) hd kk
        · exact va_bald (D := D) (ws := twl ad dA h) hx hb hK hP a 1 (twl_get hw hcell) rfl (vin hin) hd kk
      · cases hta
      · split at hta
        · rename_i ha
          cases hta
          subst ha
          rcases hd with ⟨-, hd⟩ | ⟨q, hd⟩
          · exact va_sld hx hb hX (Nat.lt_of_lt_of_le hXb hsz) (Nat.not_le.mpr hXb) hS (vin hin) hd kk
          · cases q
        · split at hta
          · rename_i ha
            cases hta
            subst ha
            rcases hd with ⟨-, hd⟩ | ⟨q, hd⟩
            · exact va_ti hx hb hT2 hS (vin hin) rfl hd kk
            · cases q
          · cases hta
    · cases hg
  · cases hg
theorem snd_len {a : Nat} {x : Int32} {r : List TV} (hx : p.tables.exec = Jvm.exec) (hb : c.code = mB m) (hG : tGx sc base ad D dA s s.heap) (hsz : base ≤ s.heap.size) (hP : va_P D vwCl (twl ad dA h) H) (hw : tWf h) (hS : va_S (fun q => base ≤ q) s.heap H locs)
    (hg : tlen sc h a = some x) (hd : decode (mB m) pc = .ok (.arraylength, 1))
    (kk : W p l e R s mid args below meth c H locs cells slots Q (F0 mid (pc + 1) real ((vI x :: r).map (tcv ad)))) : W p l e R s mid args below meth c H locs cells slots Q (F0 mid pc real ((vR (some a) :: r).map (tcv ad))) := by
  obtain ⟨hK, hX, hXb, hZ1, hT1, hZ2, hT2, -⟩ := hG
  unfold tlen at hg
  split at hg
  · rename_i t n y hcell
    split at hg
    rotate_left
    · cases hg
    rename_i h5
    cases hg
    have key : ∃ (x : vp_A), tce ad dA (.inl (t, n, y)) = .inl (dA t, x) ∧ x.1 = n := by
      match y with
      | .inl f => exact ⟨_, rfl, rfl⟩
      | .inr (.inl f) => exact ⟨_, rfl, rfl⟩
      | .inr (.inr (.inl f)) => exact ⟨_, rfl, rfl⟩
      | .inr (.inr (.inr (.inl f))) => exact ⟨_, rfl, rfl⟩
      | .inr (.inr (.inr (.inr f))) => exact ⟨_, rfl, rfl⟩
    obtain ⟨y2, e1, e2⟩ := key
    have hcl := twl_get (ad := ad) (dA := dA) hw hcell
    rw [e1] at hcl
    rcases (show t = 0 ∨ t = 1 ∨ t = 2 ∨ t = 3 ∨ t = 4 by omega) with rfl | rfl | rfl | rfl | rfl
    · exact va_alen (D := D) (ws := twl ad dA h) hx hb hK hP a 0 hcl (ty := .int) rfl (by rw [e2]) hd kk
    · exact va_alen (D := D) (ws := twl ad dA h) hx hb hK hP a 1 hcl (ty := .byte) rfl (by rw [e2]) hd kk
    · exact va_alen (D := D) (ws := twl ad dA h) hx hb hK hP a 2 hcl (ty := .long) rfl (by rw [e2]) hd kk
    · exact va_alen (D := D) (ws := twl ad dA h) hx hb hK hP a 3 hcl (ty := .object RX4) rfl (by rw [e2]) hd kk
    · exact va_alen (D := D) (ws := twl ad dA h) hx hb hK hP a 4 hcl (ty := .object RX5) rfl (by rw [e2]) hd kk
  · cases hg
  · split at hg
    · rename_i ha
      cases hg
      subst ha
      exact va_slen hx hb hX (Nat.lt_of_lt_of_le hXb hsz) (Nat.not_le.mpr hXb) hS hd kk
    · cases hg
theorem snd_ldl {a : Nat} {j : Int32} {x : Int64} {r : List TV} (hx : p.tables.exec = Jvm.exec) (hb : c.code = mB m) (hK : va_K D vwCl (tTy dA) s) (hP : va_P D vwCl (twl ad dA h) H) (hw : tWf h)
    (hg : tldl h a j = some x) (hd : decode (mB m) pc = .ok (.laload, 1))
    (kk : W p l e R s mid args below meth c H locs cells slots Q (F0 mid (pc + 1) real ((vL x :: r).map (tcv ad)))) : W p l e R s mid args below meth c H locs cells slots Q (F0 mid pc real ((vI j :: vR (some a) :: r).map (tcv ad))) := by
  unfold tldl at hg
  split at hg
  · rename_i n f hcell
    split at hg
    · cases hg
    · rename_i hin
      cases hg
      exact va_lald (D := D) (ws := twl ad dA h) hx hb hK hP a 2 (twl_get hw hcell) rfl (vin hin) hd kk
  · cases hg
theorem snd_ldr {a : Nat} {j : Int32} {x : Option Nat} {r : List TV} (hx : p.tables.exec = Jvm.exec) (hb : c.code = mB m) (hK : va_K D vwCl (tTy dA) s) (hP : va_P D vwCl (twl ad dA h) H) (hw : tWf h)
    (hg : tldr h a j = some x) (hd : decode (mB m) pc = .ok (.aaload, 1))
    (kk : W p l e R s mid args below meth c H locs cells slots Q (F0 mid (pc + 1) real ((vR x :: r).map (tcv ad)))) : W p l e R s mid args below meth c H locs cells slots Q (F0 mid pc real ((vI j :: vR (some a) :: r).map (tcv ad))) := by
  unfold tldr at hg
  split at hg
  · rename_i t n f hcell
    split at hg
    · rename_i hc
      obtain ⟨ht, hin⟩ := hc
      cases hg
      rcases ht with rfl | rfl
      · exact va_aldq (D := D) (ws := twl ad dA h) hx hb hK hP a 3 (twl_get hw hcell) rfl (vin hin) hd kk
      · exact va_aldq (D := D) (ws := twl ad dA h) hx hb hK hP a 4 (twl_get hw hcell) rfl (vin hin) hd kk
    · cases hg
  · cases hg
theorem snd_asi {a : Nat} {j x : Int32} {r : List TV} (hx : p.tables.exec = Jvm.exec) (hb : c.code = mB m) (hK : va_K D vwCl (tTy dA) s) (hP : va_P D vwCl (twl ad dA h) H) (hw : tWf h) (had : ∀ k, k < 1000000000 → ad k = base + k) (hS : va_S (fun q => base ≤ q) s.heap H locs)
    (hg : tasi h a j x = some h') (hd : decode (mB m) pc = .ok (.iastore, 1))
    (kk : ∀ (H' : Heap) (locs' : List Loc), va_P D vwCl (twl ad dA h') H' → va_S (fun q => base ≤ q) s.heap H' locs' → tWf h' → h'.2 = h.2 → W p l e R s mid args below meth c H' locs' cells slots Q (F0 mid (pc + 1) real (r.map (tcv ad)))) : W p l e R s mid args below meth c H locs cells slots Q (F0 mid pc real ((vI x :: vI j :: vR (some a) :: r).map (tcv ad))) := by
  unfold tasi at hg
  split at hg
  · rename_i n f hcell
    split at hg
    · cases hg
    · rename_i hin
      cases hg
      refine va_iast (D := D) (ws := twl ad dA h) hx hb hK hP (twl_D hw had) hS a 0 (twl_get hw hcell) rfl (vin hin) hd (fun H1 locs1 a1 a2 a3 => ?_)
      have e1 := twl_set (ad := ad) (dA := dA) (c := .inl (0, n, .inl (upd f j.toNatClampNeg x))) hw hcell
      exact kk H1 locs1 (by rw [← e1]; exact a1) a3 (tWf_set hw hcell) rfl
  · cases hg
theorem snd_asb {a : Nat} {j x : Int32} {r : List TV} (hx : p.tables.exec = Jvm.exec) (hb : c.code = mB m) (hK : va_K D vwCl (tTy dA) s) (hP : va_P D vwCl (twl ad dA h) H) (hw : tWf h) (had : ∀ k, k < 1000000000 → ad k = base + k) (hS : va_S (fun q => base ≤ q) s.heap H locs)
    (hg : tasb h a j x = some h') (hd : decode (mB m) pc = .ok (.bastore, 1))
    (kk : ∀ (H' : Heap) (locs' : List Loc), va_P D vwCl (twl ad dA h') H' → va_S (fun q => base ≤ q) s.heap H' locs' → tWf h' → h'.2 = h.2 → W p l e R s mid args below meth c H' locs' cells slots Q (F0 mid (pc + 1) real (r.map (tcv ad)))) : W p l e R s mid args below meth c H locs cells slots Q (F0 mid pc real ((vI x :: vI j :: vR (some a) :: r).map (tcv ad))) := by
  unfold tasb at hg
  split at hg
  · rename_i n f hcell
    split at hg
    · cases hg
    · rename_i hin
      cases hg
      refine va_bast (D := D) (ws := twl ad dA h) hx hb hK hP (twl_D hw had) hS a 1 (twl_get hw hcell) rfl (vin hin) hd (fun H1 locs1 a1 a2 a3 => ?_)
      have e1 := twl_set (ad := ad) (dA := dA) (c := .inl (1, n, .inl (upd f j.toNatClampNeg (vp_nar .byte x)))) hw hcell
      exact kk H1 locs1 (by rw [← e1]; exact a1) a3 (tWf_set hw hcell) rfl
  · cases hg
theorem snd_asl {a : Nat} {j : Int32} {x : Int64} {r : List TV} (hx : p.tables.exec = Jvm.exec) (hb : c.code = mB m) (hK : va_K D vwCl (tTy dA) s) (hP : va_P D vwCl (twl ad dA h) H) (hw : tWf h) (had : ∀ k, k < 1000000000 → ad k = base + k) (hS : va_S (fun q => base ≤ q) s.heap H locs)
    (hg : tasl h a j x = some h') (hd : decode (mB m) pc = .ok (.lastore, 1))
    (kk : ∀ (H' : Heap) (locs' : List Loc), va_P D vwCl (twl ad dA h') H' → va_S (fun q => base ≤ q) s.heap H' locs' → tWf h' → h'.2 = h.2 → W p l e R s mid args below meth c H' locs' cells slots Q (F0 mid (pc + 1) real (r.map (tcv ad)))) : W p l e R s mid args below meth c H locs cells slots Q (F0 mid pc real ((vL x :: vI j :: vR (some a) :: r).map (tcv ad))) := by
  unfold tasl at hg
  split at hg
  · rename_i n f hcell
    split at hg
    · cases hg
    · rename_i hin
      cases hg
      refine va_last (D := D) (ws := twl ad dA h) hx hb hK hP (twl_D hw had) hS a 2 (twl_get hw hcell) rfl (vin hin) hd (fun H1 locs1 a1 a2 a3 => ?_)
      have e1 := twl_set (ad := ad) (dA := dA) (c := .inl (2, n, .inr (.inl (vp_updL f j.toNatClampNeg x)))) hw hcell
      exact kk H1 locs1 (by rw [← e1]; exact a1) a3 (tWf_set hw hcell) rfl
  · cases hg
theorem map_up (ad : Nat → Nat) (f : Nat → Option Nat) (k : Nat) (v : Option Nat) : (fun j => (va_up f k v j).map ad) = va_up (fun j => (f j).map ad) k (v.map ad) := by
  funext j
  by_cases hj : j = k <;> simp [va_up, hj]
theorem cls_of {ci : Nat} {C : String} {T : u_T} {N : Nat} (hc : vwCl[ci]? = some (C, T, N)) : C = cNm ci := by
  match ci, hc with
  | 0, hc => cases hc; rfl
  | 1, hc => cases hc; rfl
  | 2, hc => cases hc; rfl
  | 3, hc => cases hc; rfl
  | 4, hc => cases hc; rfl
  | 5, hc => cases hc; rfl
  | 6, hc => cases hc; rfl
  | 7, hc => cases hc; rfl
  | 8, hc => cases hc; rfl
  | 9, hc => cases hc; rfl
  | 10, hc => cases hc; rfl
  | 11, hc => cases hc; rfl
  | k + 12, hc => cases hc
theorem snd_asr {a : Nat} {j : Int32} {x : Option Nat} {r : List TV} (hx : p.tables.exec = Jvm.exec) (hb : c.code = mB m) (hK : va_K D vwCl (tTy dA) s) (hnw : ∀ w ∈ nwC, va_Nw w s) (hP : va_P D vwCl (twl ad dA h) H) (hw : tWf h) (had : ∀ k, k < 1000000000 → ad k = base + k) (hS : va_S (fun q => base ≤ q) s.heap H locs)
    (hg : tasr h a j x = some h') (hd : decode (mB m) pc = .ok (.aastore, 1))
    (kk : ∀ (H' : Heap) (locs' : List Loc), va_P D vwCl (twl ad dA h') H' → va_S (fun q => base ≤ q) s.heap H' locs' → tWf h' → h'.2 = h.2 → W p l e R s mid args below meth c H' locs' cells slots Q (F0 mid (pc + 1) real (r.map (tcv ad)))) : W p l e R s mid args below meth c H locs cells slots Q (F0 mid pc real ((vR x :: vI j :: vR (some a) :: r).map (tcv ad))) := by
  unfold tasr at hg
  split at hg
  · rename_i t n f hcell
    split at hg
    · rename_i hc
      obtain ⟨ht, hin⟩ := hc
      split at hg
      · cases hg
        have e1 := twl_set (ad := ad) (dA := dA) (c := .inl (t, n, .inr (.inr (.inr (.inr (va_up f j.toNatClampNeg none)))))) hw hcell
        rcases ht with rfl | rfl
        · refine va_astqN (D := D) (ws := twl ad dA h) hx hb hK hP (twl_D hw had) hS a 3 (twl_get hw hcell) rfl (vin hin) hd (fun H1 locs1 a1 a2 a3 => ?_)
          exact kk H1 locs1 (by rw [← e1]; simp only [tce]; rw [map_up]; exact a1) a3 (tWf_set hw hcell) rfl
        · refine va_astqN (D := D) (ws := twl ad dA h) hx hb hK hP (twl_D hw had) hS a 4 (twl_get hw hcell) rfl (vin hin) hd (fun H1 locs1 a1 a2 a3 => ?_)
          exact kk H1 locs1 (by rw [← e1]; simp only [tce]; rw [map_up]; exact a1) a3 (tWf_set hw hcell) rfl
      · rename_i o
        split at hg
        · rename_i ci hci
          split at hg
          · rename_i hfit
            cases hg
            have e1 := twl_set (ad := ad) (dA := dA) (c := .inl (t, n, .inr (.inr (.inr (.inr (va_up f j.toNatClampNeg (some o))))))) hw hcell
            unfold tcl at hci
            split at hci
            · rename_i ci2 fo hco
              cases hci
              rcases ht with rfl | rfl
              · have hmem : ci ∈ ([0, 2, 3, 4, 6, 7] : List Nat) := by simpa [tfitc] using hfit
                have fin : ∀ (r0 : vw_C), vwCl[ci]? = some r0 → (r0.1 = RX4 ∨ va_Nw (.castable r0.1 RX4) s) → W p l e R s mid args below meth c H locs cells slots Q (F0 mid pc real ((vR (some o) :: vI j :: vR (some a) :: r).map (tcv ad))) := by
                  intro r0 hr0 hcase
                  rcases hcase with q | q
                  · refine va_astq (D := D) (ws := twl ad dA h) hx hb hK hP (twl_D hw had) hS a 3 o ci (r := r0) (twl_get hw hcell) (by rw [q]; rfl) (twl_get hw hco) hr0 (vin hin) hd (fun H1 locs1 a1 a2 a3 => ?_)
                    exact kk H1 locs1 (by rw [← e1]; simp only [tce]; rw [map_up]; exact a1) a3 (tWf_set hw hcell) rfl
                  · refine va_astqO (D := D) (ws := twl ad dA h) hx hb hK hP (twl_D hw had) hS a 3 o ci (E := RX4) (r := r0) (twl_get hw hcell) rfl q (twl_get hw hco) hr0 (vin hin) hd (fun H1 locs1 a1 a2 a3 => ?_)
                    exact kk H1 locs1 (by rw [← e1]; simp only [tce]; rw [map_up]; exact a1) a3 (tWf_set hw hcell) rfl
                simp only [List.mem_cons, List.not_mem_nil, or_false] at hmem
                rcases hmem with rfl | rfl | rfl | rfl | rfl | rfl
                · exact fin _ rfl (Or.inr (hnw _ (by decide +kernel)))
                · exact fin _ rfl (Or.inr (hnw _ (by decide +kernel)))
                · exact fin _ rfl (Or.inr (hnw _ (by decide +kernel)))
                · exact fin _ rfl (Or.inl rfl)
                · exact fin _ rfl (Or.inr (hnw _ (by decide +kernel)))
                · exact fin _ rfl (Or.inr (hnw _ (by decide +kernel)))
              · have hmem : ci = 5 := by simpa [tfitc] using hfit
                subst hmem
                refine va_astq (D := D) (ws := twl ad dA h) hx hb hK hP (twl_D hw had) hS a 4 o 5 (r := (RX5, TX5, 2)) (twl_get hw hcell) rfl (twl_get hw hco) rfl (vin hin) hd (fun H1 locs1 a1 a2 a3 => ?_)
                exact kk H1 locs1 (by rw [← e1]; simp only [tce]; rw [map_up]; exact a1) a3 (tWf_set hw hcell) rfl
            · cases hci
          · cases hg
        · cases hg
    · cases hg
  · cases hg
theorem tdv_eq (ad : Nat → Nat) (k : Nat) : tcv ad (tdfk k) = tdv k := by
  match k with
  | 0 => rfl
  | 1 => rfl
  | 2 => rfl
  | k + 3 => rfl
theorem inv_new {cl : TC} {n : Nat} (hg : tnew h cl n = some h') : h.2.1 < 1000000 ∧ h' = (va_up h.1 h.2.1 (some cl), h.2.1 + 1, h.2.2 + n) := by
  unfold tnew at hg
  split at hg
  · cases hg; exact ⟨by assumption, rfl⟩
  · cases hg
theorem snd_new {k ci n : Nat} (hx : p.tables.exec = Jvm.exec) (hb : c.code = mB m) (hown : s.vm.findClass (mY m).cls = some mid.cls) (hts : ∀ w ∈ lw_good, w.before args s = true) (hK : va_K D vwCl (tTy dA) s) (hP : va_P D vwCl (twl ad dA h) H) (hw : tWf h) (had : ∀ k, k < 1000000000 → ad k = base + k) (hS : va_S (fun q => base ≤ q) s.heap H locs)
    (hsz : base ≤ s.heap.size) (hcn : s.heap.size + cells = base + h.2.1) (hf : tlk2 nWT (mO m) k = some (ci, n)) (hg : tnew h (.inr (ci, tdf ci)) n = some h') (hcells : cells + 1 ≤ R.cells) (hslots : slots + n ≤ R.slots) (hd : decode (mB m) pc = .ok (.new k, 3))
    (kk : ∀ (H' : Heap), va_P D vwCl (twl ad dA h') H' → va_S (fun q => base ≤ q) s.heap H' locs → tWf h' → W p l e R s mid args below meth c H' locs (cells + 1) (slots + n) Q (F0 mid (pc + 3) real ((vR (some h.2.1) :: st).map (tcv ad)))) : W p l e R s mid args below meth c H locs cells slots Q (F0 mid pc real (st.map (tcv ad))) := by
  obtain ⟨hn, rfl⟩ := inv_new hg
  obtain ⟨C, T, ty0, h1, h2, h3, h4, h5, h6, h7, h8⟩ := nWT_ok _ (tlk2_mem hf)
  simp only at h1 h2 h3 h4 h5 h6 h7 h8
  have hown' : s.vm.findClass (cNm (mO m)) = some mid.cls := by rw [← mOwn]; exact hown
  refine va_new (D := D) (ci := ci) (C := C) (T := T) (N := n) (own := cNm (mO m)) (index := k) (ws := twl ad dA h) (fs := (List.range (tN ci)).map (fun j => tcv ad (tdf ci j))) hx hb hts h3 ty0 h4 hown' (hts _ h5) (hts _ h6) (hts _ h7) hK hP (twl_D hw had) hS (fun q hq => Nat.le_trans hsz hq) h1 ?_ hcells hslots hd (fun q H1 a1 a2 a3 => ?_)
  · intro j hj
    rw [h8 j hj]
    have e1 : ((List.range (tN ci)).map (fun j => tcv ad (tdf ci j))).getD j .null = tcv ad (tdf ci j) := by
      rw [List.getD_eq_getElem?_getD, trange_get (by omega)]; rfl
    show _ = ((List.range (tN ci)).map (fun j => tcv ad (tdf ci j))).getD j .null
    rw [e1]
    exact (tdv_eq ad _).symm
  · intro T' hT' X'
    have hz : H1.size ≤ base + h.2.1 + 1 := by
      have := X'.heapSize
      rw [hT'] at this
      omega
    have hq := tnext (ws := twl ad dA h) hw had a1 a2 hz
    subst hq
    rw [show (.inr (ci, (List.range (tN ci)).map (fun j => tcv ad (tdf ci j))) : va_E) = tce ad dA (.inr (ci, tdf ci)) from rfl, twl_push (n := h.2.2 + n)] at a1
    exact kk H1 a1 a3 (tWf_new hw hn) T' hT' X'
theorem inv_na {t : Nat} {n : Int32} (hg : tna h t n = some h') : ¬ n < 0 ∧ n.toNatClampNeg ≤ 1000000 ∧ ∃ cl : TC, tnew h cl n.toNatClampNeg = some h' ∧ (t = 0 ∧ cl = .inl (0, n.toNatClampNeg, .inl (fun _ => 0)) ∨ t = 1 ∧ cl = .inl (1, n.toNatClampNeg, .inl (fun _ => 0)) ∨ t = 2 ∧ cl = .inl (2, n.toNatClampNeg, .inr (.inl (fun _ => 0))) ∨ t = 3 ∧ cl = .inl (3, n.toNatClampNeg, .inr (.inr (.inr (.inr (fun _ => none))))) ∨ t = 4 ∧ cl = .inl (4, n.toNatClampNeg, .inr (.inr (.inr (.inr (fun _ => none)))))) := by
  unfold tna at hg
  split at hg
  · cases hg
  · rename_i hc
    refine ⟨fun q => hc (Or.inl q), by omega, ?_⟩
    split at hg
    · exact ⟨_, hg, Or.inl ⟨rfl, rfl⟩⟩
    · exact ⟨_, hg, Or.inr (Or.inl ⟨rfl, rfl⟩)⟩
    · exact ⟨_, hg, Or.inr (Or.inr (Or.inl ⟨rfl, rfl⟩))⟩
    · exact ⟨_, hg, Or.inr (Or.inr (Or.inr (Or.inl ⟨rfl, rfl⟩)))⟩
    · exact ⟨_, hg, Or.inr (Or.inr (Or.inr (Or.inr ⟨rfl, rfl⟩)))⟩
    · cases hg
/-- a new row: its class is the one that the tables have -/
theorem na_fin {q : Nat} {cA : ClassId} {t N : Nat} {ty : FieldType} {cl : TC} {x : vp_A} {H1 : Heap} {r : List TV} (hty : (tTy dA)[t]? = some (dA t, ty)) (hxe : tce ad dA cl = .inl (dA t, x)) (hw : tWf h) (hn : h.2.1 < 1000000) (had : ∀ k, k < 1000000000 → ad k = base + k) (hK : va_K D vwCl (tTy dA) s) (hcn : s.heap.size + cells = base + h.2.1) (hRA : ∀ c1 c2, va_RA s c1 ty → va_RA s c2 ty → c1 = c2)
    (a0 : va_K D vwCl (tTy dA ++ [(cA, ty)]) s) (a1 : va_P D vwCl (twl ad dA h ++ [(q, .inl (cA, x))]) H1) (a2 : va_D (fun q => base ≤ q) (twl ad dA h ++ [(q, .inl (cA, x))])) (a3 : va_S (fun q => base ≤ q) s.heap H1 locs)
    (kk : ∀ (H' : Heap), va_P D vwCl (twl ad dA (va_up h.1 h.2.1 (some cl), h.2.1 + 1, h.2.2 + N)) H' → va_S (fun q => base ≤ q) s.heap H' locs → tWf (va_up h.1 h.2.1 (some cl), h.2.1 + 1, h.2.2 + N) → W p l e R s mid args below meth c H' locs (cells + 1) (slots + N) Q (F0 mid pc real ((vR (some h.2.1) :: r).map (tcv ad)))) : W p l e R s mid args below meth c H1 locs (cells + 1) (slots + N) Q (F0 mid pc real (.ref q :: r.map (tcv ad))) := by
  have hcA : cA = dA t := by
    have h1 := (a0.2 (tTy dA).length (cA, ty) (by rw [List.getElem?_append_right (Nat.le_refl _), Nat.sub_self]; rfl)).2
    have h2 := (hK.2 t _ hty).2
    exact hRA _ _ h1 h2
  subst hcA
  intro T' hT' X'
  have hz : H1.size ≤ base + h.2.1 + 1 := by
    have := X'.heapSize
    rw [hT'] at this
    omega
  have hq := tnext (ws := twl ad dA h) hw had a1 a2 hz
  subst hq
  rw [← hxe, twl_push (n := h.2.2 + N)] at a1
  exact kk H1 a1 a3 (tWf_new hw hn) T' hT' X'
theorem snd_na {t : Nat} {n : Int32} {r : List TV} {pc' : Nat} (hx : p.tables.exec = Jvm.exec) (hb : c.code = mB m) (hown : s.vm.findClass (mY m).cls = some mid.cls) (hts : ∀ w ∈ lw_good, w.before args s = true) (hK : va_K D vwCl (tTy dA) s) (hA4 : va_AO RX4 s) (hA5 : va_AO RX5 s) (hP : va_P D vwCl (twl ad dA h) H) (hw : tWf h) (had : ∀ k, k < 1000000000 → ad k = base + k) (hS : va_S (fun q => base ≤ q) s.heap H locs)
    (hsz : base ≤ s.heap.size) (hcn : s.heap.size + cells = base + h.2.1) (hg : tna h t n = some h') (hcells : cells + 1 ≤ R.cells) (hslots : slots + n.toNatClampNeg ≤ R.slots)
    (hd : (t = 0 ∧ decode (mB m) pc = .ok (.newarray .int, 2) ∧ pc' = pc + 2) ∨ (t = 1 ∧ decode (mB m) pc = .ok (.newarray .byte, 2) ∧ pc' = pc + 2) ∨ (t = 2 ∧ decode (mB m) pc = .ok (.newarray .long, 2) ∧ pc' = pc + 2) ∨ (∃ k, t = 3 ∧ Cond.classLink (cNm (mO m)) k RX4 ∈ lw_good ∧ decode (mB m) pc = .ok (.anewarray k, 3) ∧ pc' = pc + 3) ∨ (∃ k, t = 4 ∧ Cond.classLink (cNm (mO m)) k RX5 ∈ lw_good ∧ decode (mB m) pc = .ok (.anewarray k, 3) ∧ pc' = pc + 3))
    (kk : ∀ (H' : Heap), va_P D vwCl (twl ad dA h') H' → va_S (fun q => base ≤ q) s.heap H' locs → tWf h' → W p l e R s mid args below meth c H' locs (cells + 1) (slots + n.toNatClampNeg) Q (F0 mid pc' real ((vR (some h.2.1) :: r).map (tcv ad)))) : W p l e R s mid args below meth c H locs cells slots Q (F0 mid pc real ((vI n :: r).map (tcv ad))) := by
  obtain ⟨hn0, hnm, cl, hnew, hcl⟩ := inv_na hg
  obtain ⟨hn, rfl⟩ := inv_new hnew
  have hown' : s.vm.findClass (cNm (mO m)) = some mid.cls := by rw [← mOwn]; exact hown
  have hA : ∀ q, s.heap.size ≤ q → base ≤ q := fun q hq => Nat.le_trans hsz hq
  have prim : ∀ ty : FieldType, (∀ C, ty ≠ .object C) → ∀ c1 c2, va_RA s c1 ty → va_RA s c2 ty → c1 = c2 := by
    intro ty hty c1 c2 q1 q2
    cases ty with
    | object C => exact absurd rfl (hty C)
    | _ => exact Option.some.inj (Eq.trans (Eq.symm q1) q2)
  have obj : ∀ C : String, ∀ c1 c2, va_RA s c1 (.object C) → va_RA s c2 (.object C) → c1 = c2 := by
    intro C c1 c2 q1 q2
    obtain ⟨_, _, _, _, _, z1⟩ := q1
    obtain ⟨_, _, _, _, _, z2⟩ := q2
    exact Option.some.inj (z1.symm.trans z2)
  rcases hcl with ⟨rfl, rfl⟩ | ⟨rfl, rfl⟩ | ⟨rfl, rfl⟩ | ⟨rfl, rfl⟩ | ⟨rfl, rfl⟩
  · rcases hd with ⟨-, hd, rfl⟩ | ⟨q, -⟩ | ⟨q, -⟩ | ⟨k, q, -⟩ | ⟨k, q, -⟩
    · refine va_newa (D := D) (ws := twl ad dA h) (atype := .int) (ty := .int) (a0 := (n.toNatClampNeg, .inl (fun _ => 0))) hx hb (hts _ arr0_ok) rfl hK hP (twl_D hw had) hS hA (fun _ => rfl) hn0 rfl (by show _ * 4 ≤ _; omega) hcells hslots hd (fun q cA H1 a0 a1 a2 a3 => ?_)
      exact na_fin (t := 0) (cl := .inl (0, n.toNatClampNeg, .inl (fun _ => 0))) rfl rfl hw hn had hK hcn (prim _ (by intro C q; cases q)) a0 a1 a2 a3 kk
    all_goals cases q
  · rcases hd with ⟨q, -⟩ | ⟨-, hd, rfl⟩ | ⟨q, -⟩ | ⟨k, q, -⟩ | ⟨k, q, -⟩
    rotate_left
    · refine va_newa (D := D) (ws := twl ad dA h) (atype := .byte) (ty := .byte) (a0 := (n.toNatClampNeg, .inl (fun _ => 0))) hx hb (hts _ arr1_ok) rfl hK hP (twl_D hw had) hS hA (fun _ => rfl) hn0 rfl (by show _ * 1 ≤ _; omega) hcells hslots hd (fun q cA H1 a0 a1 a2 a3 => ?_)
      exact na_fin (t := 1) (cl := .inl (1, n.toNatClampNeg, .inl (fun _ => 0))) rfl rfl hw hn had hK hcn (prim _ (by intro C q; cases q)) a0 a1 a2 a3 kk
    all_goals cases q
  · rcases hd with ⟨q, -⟩ | ⟨q, -⟩ | ⟨-, hd, rfl⟩ | ⟨k, q, -⟩ | ⟨k, q, -⟩
    rotate_left 2
    · refine va_newa (D := D) (ws := twl ad dA h) (atype := .long) (ty := .long) (a0 := (n.toNatClampNeg, .inr (.inl (fun _ => 0)))) hx hb (hts _ arr2_ok) rfl hK hP (twl_D hw had) hS hA (fun _ => rfl) hn0 rfl (by show _ * 8 ≤ _; omega) hcells hslots hd (fun q cA H1 a0 a1 a2 a3 => ?_)
      exact na_fin (t := 2) (cl := .inl (2, n.toNatClampNeg, .inr (.inl (fun _ => 0)))) rfl rfl hw hn had hK hcn (prim _ (by intro C q; cases q)) a0 a1 a2 a3 kk
    all_goals cases q
  · rcases hd with ⟨q, -⟩ | ⟨q, -⟩ | ⟨q, -⟩ | ⟨k, -, hl, hd, rfl⟩ | ⟨k, q, -⟩
    rotate_left 3
    · refine va_newq (D := D) (ws := twl ad dA h) hx hb hown' (hts _ hl) hA4 hK hP (twl_D hw had) hS hA hn0 rfl (by omega) hcells hslots hd (fun q cA H1 a0 a1 a2 a3 => ?_)
      exact na_fin (t := 3) (cl := .inl (3, n.toNatClampNeg, .inr (.inr (.inr (.inr (fun _ => none)))))) rfl rfl hw hn had hK hcn (obj _) a0 a1 a2 a3 kk
    all_goals cases q
  · rcases hd with ⟨q, -⟩ | ⟨q, -⟩ | ⟨q, -⟩ | ⟨k, q, -⟩ | ⟨k, -, hl, hd, rfl⟩
    rotate_left 4
    · refine va_newq (D := D) (ws := twl ad dA h) hx hb hown' (hts _ hl) hA5 hK hP (twl_D hw had) hS hA hn0 rfl (by omega) hcells hslots hd (fun q cA H1 a0 a1 a2 a3 => ?_)
      exact na_fin (t := 4) (cl := .inl (4, n.toNatClampNeg, .inr (.inr (.inr (.inr (fun _ => none)))))) rfl rfl hw hn had hK hcn (obj _) a0 a1 a2 a3 kk
    all_goals cases q
end S9
