/-! THE TINY MACHINE IS TRUE, 8 -/
/-- what a method's frame needs of the machine -/
def tCx (p : Program) (s : State) (mid : MethodId) (args : Array Value) (meth : Method) (c : Code) (R : Room) (sc : Nat × (Nat → Int32)) (base n0 : Nat) (ad : Nat → Nat) (D : va_G) (dA : Nat → ClassId) (m : Nat) : Prop :=
  (p.tables.exec = Jvm.exec) ∧ (c.code = mB m) ∧ (c.maxLocals = mL m) ∧ (s.vm.findClass (mY m).cls = some mid.cls) ∧ (∀ w ∈ lw_good, w.before args s = true) ∧ ((mY m).name = "<init>" → meth.name = "<init>") ∧ (s.heap.size = base + n0) ∧ tAll sc base ad D dA s s.heap ∧ mF m ≤ R.frames ∧ mW m ≤ R.locals
def tSnd (l : Launch) (sc : Nat × (Nat → Int32)) (base : Nat) (ad : Nat → Nat) (D : va_G) (dA : Nat → ClassId) (n : Nat) : Prop :=
  ∀ (m pc : Nat) (ls st : List TV) (h : TH) (v : Option TV) (h' : TH), texec sc n m pc ls st h = some (v, h') → tGe h h' ∧
  ∀ (p : Program) (e : Env) (R : Room) (s : State) (mid : MethodId) (args : Array Value) (below : List Frame) (meth : Method) (c : Code) (n0 k0 : Nat) (H : Heap) (locs : List Loc) (real : Array Slot) (Qf : State → Prop),
    tCx p s mid args meth c R sc base n0 ad D dA m → tWf h → n0 ≤ h.2.1 → k0 ≤ h.2.2 → h'.2.1 - n0 ≤ R.cells → h'.2.2 - k0 ≤ R.slots → va_P D vwCl (twl ad dA h) H → va_S (fun q => base ≤ q) s.heap H locs → tLR ad ls real (mL m) →
    (∀ (pc' : Nat) (i : Instr) (st' : List TV) (real' : Array Slot) (H' : Heap) (locs' : List Loc), decode (mB m) pc' = .ok (i, 1) → tret m i st' = some v → va_P D vwCl (twl ad dA h') H' → va_S (fun q => base ≤ q) s.heap H' locs' → W p l e R s mid args below meth c H' locs' (h'.2.1 - n0) (h'.2.2 - k0) Qf (F0 mid pc' real' (st'.map (tcv ad)))) →
    W p l e R s mid args below meth c H locs (h.2.1 - n0) (h.2.2 - k0) Qf (F0 mid pc real (st.map (tcv ad)))
theorem targ_args {ad : Nat → Nat} : ∀ (as : List TV) (j i : Nat) (v : TV), (targ as)[i]? = some v → v ≠ vU → (j + i, tcv ad v) ∈ lv_args j (as.map (tcv ad))
  | [], j, i, v, h, _ => by simp [targ] at h
  | a :: as, j, i, v, h, hv => by
    match a, h with
    | .inl x, h =>
      cases i with
      | zero => cases h; exact List.mem_cons_self
      | succ i =>
        have := targ_args (ad := ad) as (j + 1) i v h hv
        rw [show j + (i + 1) = j + 1 + i by omega]
        exact List.mem_cons_of_mem _ this
    | .inr (.inl x), h =>
      match i, h with
      | 0, h => cases h; exact List.mem_cons_self
      | 1, h => cases h; exact absurd rfl hv
      | i + 2, h =>
        have := targ_args (ad := ad) as (j + 2) i v h hv
        rw [show j + (i + 2) = j + 2 + i by omega]
        exact List.mem_cons_of_mem _ this
    | .inr (.inr (.inl none)), h =>
      cases i with
      | zero => cases h; exact List.mem_cons_self
      | succ i =>
        have := targ_args (ad := ad) as (j + 1) i v h hv
        rw [show j + (i + 1) = j + 1 + i by omega]
        exact List.mem_cons_of_mem _ this
    | .inr (.inr (.inl (some x))), h =>
      cases i with
      | zero => cases h; exact List.mem_cons_self
      | succ i =>
        have := targ_args (ad := ad) as (j + 1) i v h hv
        rw [show j + (i + 1) = j + 1 + i by omega]
        exact List.mem_cons_of_mem _ this
    | .inr (.inr (.inr x)), h =>
      cases i with
      | zero => cases h; exact absurd rfl hv
      | succ i =>
        have := targ_args (ad := ad) as (j + 1) i v h hv
        rw [show j + (i + 1) = j + 1 + i by omega]
        exact List.mem_cons_of_mem _ this
theorem targ_len {ad : Nat → Nat} : ∀ as : List TV, (lg_sl (as.map (tcv ad))).length = (targ as).length
  | [] => rfl
  | a :: as => by
    have ih := targ_len (ad := ad) as
    have e : ∀ v : Value, lg_sl (v :: as.map (tcv ad)) = (if v.category = 2 then [.val v, .second] else [.val v]) ++ lg_sl (as.map (tcv ad)) := fun v => rfl
    rw [List.map_cons, e, List.length_append, ih]
    match a with
    | .inl x => simp [tcv, Value.category, targ]; omega
    | .inr (.inl x) => simp [tcv, Value.category, targ]; omega
    | .inr (.inr (.inl none)) => simp [tcv, va_rf, Value.category, targ]; omega
    | .inr (.inr (.inl (some x))) => simp [tcv, va_rf, Value.category, targ]; omega
    | .inr (.inr (.inr x)) => simp [tcv, Value.category, targ]; omega
theorem tLR_ini {ad : Nat → Nat} {n : Nat} {as : List TV} {real : Array Slot} (hl : (targ as).length ≤ n) (h : lv_has real n (lv_args 0 (as.map (tcv ad)))) : tLR ad (tini n as) real n := by
  refine ⟨h.1, h.2.1, by simp [tini]; omega, fun i v hi hv => ?_⟩
  unfold tini at hi
  by_cases hlt : i < (targ as).length
  · rw [List.getElem?_append_left hlt] at hi
    have := targ_args (ad := ad) as 0 i v hi hv
    rw [Nat.zero_add] at this
    exact h.2.2 _ this
  · rw [List.getElem?_append_right (by omega)] at hi
    have := List.eq_of_mem_replicate (List.mem_of_getElem? hi)
    exact absurd this hv
set_option maxHeartbeats 4000000 in
theorem met_of {l : Launch} {sc : Nat × (Nat → Int32)} {base : Nat} {ad : Nat → Nat} {D : va_G} {dA : Nat → ClassId} {n m : Nat} {as : List TV} {h h' : TH} {v : Option TV} (hs : tSnd l sc base ad D dA n) (hx : texec sc n m 0 (tini (mL m) as) [] h = some (v, h')) (hw : tWf h) (hcd : plainName (mY m).cls = true) (hl : (targ as).length ≤ mL m) : tMet l sc base ad D dA m as h v h' := by
  unfold tMet
  refine Met.ofW (cc := mB m) (maxL := mL m) (ret := mR m) hcd rfl ?_
  intro p e s mid args below meth c s₁ B hml hv
  obtain ⟨rfl, hz, hP, hA⟩ := hv
  have hent := lv_entry (as.map (tcv ad)) (n := mL m) (by rw [targ_len]; exact hl)
  rw [lg_entry_eq]
  have hts : ∀ w ∈ lw_good, w.before (as.map (tcv ad)).toArray s = true := fun w hw => atoms_spec (ws := tws m) B.pre w (List.mem_cons_of_mem _ hw)
  have key := (hs m 0 _ _ _ _ _ hx).2 p e (headSpec (tws m) (trm m (h'.2.1 - h.2.1) (h'.2.2 - h.2.2))).room s mid (as.map (tcv ad)).toArray below meth c h.2.1 h.2.2 s.heap [] _ (MQ below (tQc base ad D dA v h') (as.map (tcv ad)).toArray s (h'.2.1 - h.2.1) (h'.2.2 - h.2.2) (fun q => base ≤ q))
    ⟨B.exec, B.bytes, hml, findClass_of_methodNamed B.named, hts, (fun z => (name_of_methodNamed B.named B.method).1.trans z), hz, hA, Nat.le_refl _, Nat.le_refl _⟩ hw (Nat.le_refl _) (Nat.le_refl _) (Nat.le_refl _) (Nat.le_refl _) hP va_S.rf (tLR_ini hl hent) ?_
  · rw [Nat.sub_self, Nat.sub_self] at key
    exact key
  · intro pc' i st' real' H' locs' hd hr hP' hS'
    have hret := B.returns
    have hlk := B.notSynchronized
    unfold tret at hr
    split at hr
    · rename_i x hm
      cases hr
      rw [hm] at hret
      exact W.iret B.exec B.bytes hret (fun t ht hW => ⟨rfl, by rw [ht]; exact hP', hS'.F ht⟩) hS'.2.2 hd
    · rename_i x hm
      split at hr
      · rename_i hx01
        cases hr
        rw [hm] at hret
        refine W.zret B.exec B.bytes hret ?_ (fun t ht hW => ⟨rfl, by rw [ht]; exact hP', hS'.F ht⟩) hS'.2.2 hd
        rcases hx01 with rfl | rfl
        · decide
        · decide
      · cases hr
    · rename_i x hm
      cases hr
      rw [hm] at hret
      exact W.lret B.exec B.bytes hret (fun t ht hW => ⟨rfl, by rw [ht]; exact hP', hS'.F ht⟩) hS'.2.2 hd
    · rename_i x o hm
      cases hr
      rw [hm] at hret
      refine W.aret B.exec B.bytes hret (Or.inl ⟨_, rfl⟩) ?_ (fun t ht hW => ⟨rfl, by rw [ht]; exact hP', hS'.F ht⟩) hS'.2.2 hd
      cases x with
      | none => exact Or.inl rfl
      | some a => exact Or.inr ⟨_, rfl⟩
    · rename_i hm
      cases hr
      rw [hm] at hret
      exact W.vret B.exec B.bytes hret (fun t ht hW => ⟨rfl, by rw [ht]; exact hP', hS'.F ht⟩) hS'.2.2 hd
    · cases hr
