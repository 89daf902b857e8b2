/-! THE TINY MACHINE IS TRUE, 5: what travels, calls, returns, and all together -/
/-- the strings, and what their two members look at -/
def tSx (base : Nat) (ad : Nat → Nat) (U : State) (H : Heap) : Prop :=
  (∃ adV : Nat → Nat, vk_S 12 (strT.map (fun b => b.length)) strT (fun i => ad (1000000003 + i)) adV (fun q => base ≤ q) U H) ∧
  (∀ i : Nat, i < 12 → vk_R RX1 (strK.getD i ("", 0)).2 (strK.getD i ("", 0)).1 (ad (1000000003 + i)) U) ∧
  (va_Z RJ0 "COMPACT_STRINGS" "Z" (.int 1) (fun q => base ≤ q) U H) ∧ (va_Zq RJ3 "SIOOBE_FORMATTER" "Ljava/util/function/BiFunction;" (fun q => base ≤ q) U H)
def tAll (sc : Nat × (Nat → Int32)) (base : Nat) (ad : Nat → Nat) (D : va_G) (dA : Nat → ClassId) (U : State) (H : Heap) : Prop := tGx sc base ad D dA U H ∧ tSx base ad U H
theorem nwC_warm {s U : State} (hW : s.WarmedH U.vm) (h : ∀ w ∈ nwC, va_Nw w s) : ∀ w ∈ nwC, va_Nw w U := by
  intro w hw
  have h1 := h w hw
  simp only [nwC, List.mem_cons, List.not_mem_nil, or_false] at hw
  rcases hw with rfl | rfl | rfl | rfl | rfl | rfl | rfl | rfl | rfl | rfl | rfl | rfl
  · exact va_Nw.warmM hW h1
  · exact va_Nw.warmM hW h1
  · exact va_Nw.warmM hW h1
  · exact va_Nw.warmF hW h1
  all_goals exact va_Nw.warmC hW h1
theorem tAll.step {sc : Nat × (Nat → Int32)} {base : Nat} {ad : Nat → Nat} {D : va_G} {dA : Nat → ClassId} {s U : State} {H H1 : Heap} (hA : tAll sc base ad D dA s H) (hW : s.WarmedH U.vm) (hz : base ≤ H.size) (hq : ∀ a : Nat, a < H.size → ¬ base ≤ a → H1[a]? = H[a]?) : tAll sc base ad D dA U H1 := by
  obtain ⟨⟨a1, a2, a3, a4, a5, a6, a7, a8, a9, a10, a11, a12⟩, ⟨⟨adV, b1⟩, b2, b3, b4⟩⟩ := hA
  refine ⟨⟨va_K.moved hW.alike a1, (a2.kept (hq _ (Nat.lt_of_lt_of_le a3 hz) (Nat.not_le.mpr a3))).moved hW.alike, a3, (a4.kept hq).moved hW.alike, (a5.kept hq).moved hW.alike, (a6.kept hq).moved hW.alike, (a7.kept hq).moved hW.alike, nwC_warm hW a8, fun q h => (a9 q h).moved hW.alike, a10.moved hW.alike, a11.moved hW.alike, (a12.kept hq).moved hW.alike⟩, ⟨⟨adV, (b1.kept hq).moved hW.alike⟩, fun i hi => (b2 i hi).warm hW, (b3.kept hq).moved hW.alike, (b4.kept hq).moved hW.alike⟩⟩
theorem kS_ok : kNT.all (fun e => match e.2.2 with
  | .inr (.inr (.inl (some q))) => Nat.beq e.1 1 && Nat.ble 1000000003 q && Nat.ble q 1000000014 && Nat.beq e.2.1 (strK.getD (q - 1000000003) ("", 0)).2
  | _ => true) = true := by decide +kernel
theorem tKok_of {sc : Nat × (Nat → Int32)} {base : Nat} {ad : Nat → Nat} {D : va_G} {dA : Nat → ClassId} {s : State} {args : Array Value} (m : Nat) (hts : ∀ w ∈ lw_good, w.before args s = true) (hA : tAll sc base ad D dA s s.heap) : tKok ad m args s := by
  intro k v hk
  have hm := tlk2_mem hk
  have h1 := kNT_ok _ hm
  have h2 := List.all_eq_true.mp kS_ok _ hm
  match v, h1, h2 with
  | .inl x, h1, _ => rw [mOwn]; exact hts _ h1
  | .inr (.inl x), h1, _ => rw [mOwn]; exact hts _ h1
  | .inr (.inr (.inl none)), _, _ => trivial
  | .inr (.inr (.inr _)), _, _ => trivial
  | .inr (.inr (.inl (some q))), _, h2 =>
    simp only [Bool.and_eq_true] at h2
    obtain ⟨⟨⟨q1, q2⟩, q3⟩, q4⟩ := h2
    have e1 : mO m = 1 := Nat.eq_of_beq_eq_true q1
    have e2 := Nat.le_of_ble_eq_true q2
    have e3 := Nat.le_of_ble_eq_true q3
    have e4 : k = (strK.getD (q - 1000000003) ("", 0)).2 := Nat.eq_of_beq_eq_true q4
    have h3 := hA.2.2.1 (q - 1000000003) (by omega)
    rw [show 1000000003 + (q - 1000000003) = q by omega, ← e4] at h3
    rw [mOwn, e1]
    exact ⟨_, h3⟩
def tQc (base : Nat) (ad : Nat → Nat) (D : va_G) (dA : Nat → ClassId) (v : Option TV) (h' : TH) : Array Value → State → Outcome → State → Prop := fun _ st o t => o = .returned (v.map (tcv ad)) ∧ va_P D vwCl (twl ad dA h') t.heap ∧ va_F (fun q => base ≤ q) st t
def tPr (sc : Nat × (Nat → Int32)) (base : Nat) (ad : Nat → Nat) (D : va_G) (dA : Nat → ClassId) (h : TH) (U : State) : Prop := U.heap.size = base + h.2.1 ∧ va_P D vwCl (twl ad dA h) U.heap ∧ tAll sc base ad D dA U U.heap
def tws (m : Nat) : List Cond := Cond.code (mY m) (mB m) (mL m) (mR m) :: lw_good
def trm (m mc ms : Nat) : Room := { frames := mF m, cells := mc, slots := ms, locals := mW m }
def tMet (l : Launch) (sc : Nat × (Nat → Int32)) (base : Nat) (ad : Nat → Nat) (D : va_G) (dA : Nat → ClassId) (m : Nat) (as : List TV) (h : TH) (v : Option TV) (h' : TH) : Prop :=
  Met l (mY m) (tws m) (trm m (h'.2.1 - h.2.1) (h'.2.2 - h.2.2)) (va_Pc (as.map (tcv ad)) (tPr sc base ad D dA h)) (tQc base ad D dA v h') (h'.2.1 - h.2.1) (h'.2.2 - h.2.2) (fun q => base ≤ q)
theorem lw_good_good {w : Cond} (h : w ∈ lw_good) : (w.onTables && w.keeps) = true ∨ ∃ ty, w = .arrayClass ty := good_of_word (List.mem_filter.mp h).2
theorem tws_good {m : Nat} (h : cdOK m) : GoodIn lw_good (tws m) := by
  intro w hw
  rcases List.mem_cons.mp hw with rfl | hw
  · exact ⟨h.1, lw_good_good h.1⟩
  · exact ⟨hw, lw_good_good hw⟩
theorem tPr_blind {sc : Nat × (Nat → Int32)} {base : Nat} {ad : Nat → Nat} {D : va_G} {dA : Nat → ClassId} {h : TH} {vs : List Value} : FrameBlind (va_Pc vs (tPr sc base ad D dA h)) := by
  intro a U g mk q
  obtain ⟨q0, q1, q2, q3⟩ := q
  exact ⟨q0, q1, q2, q3.step (U := U.calling g mk a) (State.WarmedH.refl U) (by rw [q1]; omega) (fun _ _ _ => rfl)⟩
section S11
variable {p : Program} {l : Launch} {e : Env} {R : Room} {s : State} {mid : MethodId} {args : Array Value} {below : List Frame} {meth : Method} {c : Code} {H : Heap} {locs : List Loc} {cells slots : Nat} {Q : State → Prop}
variable {ad : Nat → Nat} {m pc len nL base : Nat} {real : Array Slot} {i : Instr} {ls st ls' st' : List TV} {D : va_G} {dA : Nat → ClassId} {h h' : TH} {sc : Nat × (Nat → Int32)}
/-- behind a call -/
theorem snd_run {mc ms : Nat} {v : Option TV} {rest st0 : List Value} {a : Array Value} (hr : va_Run p l e R s mid args below meth c H locs cells slots mc ms (F0 mid pc real st0) rest (tQc base ad D dA v h' a) (fun q => base ≤ q)) (hS : va_S (fun q => base ≤ q) s.heap H locs)
    (kk : ∀ (H1 : Heap) (locs1 : List Loc), va_P D vwCl (twl ad dA h') H1 → va_S (fun q => base ≤ q) s.heap H1 locs1 → W p l e R s mid args below meth c H1 locs1 (cells + mc) (slots + ms) Q (F0 mid (pc + 3) real ((v.map (tcv ad)).toList ++ rest))) : W p l e R s mid args below meth c H locs cells slots Q (F0 mid pc real st0) := by
  intro T hT X
  obtain ⟨v', st₀, t, T', L, h0, X', hL, e1, e2, ⟨hv, hp, hz, hk⟩, st⟩ := hr T hT X
  cases hv
  rw [h0] at hz hk
  obtain ⟨t2, a1, b1⟩ := kk T'.heap (locs ++ L) (by rw [e1]; exact hp)
    ⟨Nat.le_trans hS.1 (by rw [e1]; exact hz), fun q h1 h2 => by rw [e1, hk q (Nat.lt_of_lt_of_le h1 hS.1) h2]; exact hS.2.1 q h1 h2, fun q hq => by
      rcases List.mem_append.mp hq with h | h
      · exact hS.2.2 q h
      · exact hL q h⟩ T' rfl X'
  exact ⟨t2, st t2 a1, b1⟩
theorem catsum (r : List TV) (h : r.length ≤ 4) : ((r.map (tcv ad)).map fun v => v.category).sum ≤ 8 := by
  have key : ∀ r : List TV, ((r.map (tcv ad)).map fun v => v.category).sum ≤ 2 * r.length := by
    intro r
    induction r with
    | nil => simp
    | cons v r ih =>
      have := lv_cat (tcv ad v)
      simp only [List.map_cons, List.sum_cons, List.length_cons]
      omega
  have := key r
  omega
/-- the super method, through the class that inherits it -/
theorem snd_callSU {T : State} (X : Stand p l e R s mid args below meth c T locs cells slots) (hexec : p.tables.exec = Jvm.exec) {own owner : String} {index : Nat} {x : MethodName} {bytes : ByteArray} {maxL : Nat} {ret : Option FieldType}
    (hown : s.vm.findClass own = some mid.cls) (hlink : (Cond.methodLink own index x).before args s = true) (hsame : (Cond.sameMethod x.cls owner x.name x.desc).before args s = true) (hsup : (Cond.superclass own x.cls).before args s = true) (hsup2 : x.cls = owner ∨ (Cond.superclass x.cls owner).before args s = true)
    (hinst : (Cond.instanceMethod ⟨owner, x.name, x.desc⟩).before args s = true) (hcode : (Cond.code ⟨owner, x.name, x.desc⟩ bytes maxL ret).before args s = true) (hno : x.name ≠ "<init>")
    {W : Nat} {Pre : Pt → Array Value → Prop} {Post : Pt → Array Value → Option Value → Pt → Prop} (hK : Back l R p e below s args ⟨owner, x.name, x.desc⟩ 3 W Pre Post)
    {b : Addr} {cellB : Cell} {kB : Class} (hcell : T.heap[b]? = some cellB) (hobj : cellB.vm.isStatics = false) (hkB : s.vm.classes[cellB.cls]? = some kB)
    {g : JFrame} (hg : g.method = mid) (hsize : g.locals.size = c.maxLocals) {argsL rest : List Value} (hlen : ∀ sig, parseMethodDescriptor x.desc = some sig → argsL.length = sig.parameters.length)
    (hstack : g.stack = argsL.reverse ++ .ref b :: rest) (hW : 2 * g.monitorRoom + (rest.map fun v => v.category).sum ≤ W) (hdg : decode c.code g.pc = .ok (.invokespecial index, 3))
    (hpre : ∀ vm₁, s.WarmedH vm₁ → Pre ⟨T.setVm vm₁, locs, cells, slots⟩ (Value.ref b :: argsL).toArray) :
    ∃ (v : Option Value) (vm₁ : Vm) (B : Pt), s.WarmedH vm₁ ∧ Stand p l e R s mid args below meth c B.U B.locs B.cells B.slots ∧ Post ⟨T.setVm vm₁, locs, cells, slots⟩ (Value.ref b :: argsL).toArray v B ∧
      ∀ target, Steps p.tables e below (B.U.setTop { g with pc := g.pc + 3, stack := v.toList ++ rest }) target → Steps p.tables e below (T.setTop g) target := by
  obtain ⟨mk, methM, hnamed, hmethM, hstM, habM⟩ := Cond.instanceMethod_spec hinst
  obtain ⟨methM', cM, hmethM', -, -, -, -, -, -, hsigM⟩ := Cond.code_spec hnamed hcode
  cases hmethM.symm.trans hmethM'
  obtain ⟨ps, dk, kp, hps, hdk, hkp, hsuper, -, -, hnid⟩ := Cond.superclass_spec hown hsup
  have hfo : s.vm.findClass owner = some mk.cls := findClass_of_methodNamed hnamed
  have hsub : s.vm.isSubclass ps mk.cls = true := by
    rcases hsup2 with q | q
    · have hpm : ps = mk.cls := Option.some.inj (hps.symm.trans (by rw [q]; exact hfo))
      rw [hpm]; simp [Vm.isSubclass, Vm.isSubclassAux]
    · obtain ⟨ps2, dk2, kp2, hps2, hdk2, hkp2, hsuper2, -, -, -⟩ := Cond.superclass_spec hps q
      have hpm : ps2 = mk.cls := Option.some.inj (hps2.symm.trans hfo)
      rw [← hpm]
      simp [Vm.isSubclass, Vm.isSubclassAux, hdk2, hsuper2]
      right
      have hlt : ps2 < s.vm.classes.size := (Array.getElem?_eq_some_iff.mp hkp2).1
      obtain ⟨k, hz⟩ : ∃ k, s.vm.classes.size = k + 1 := Nat.exists_eq_succ_of_ne_zero (Nat.ne_of_gt (Nat.lt_of_le_of_lt (Nat.zero_le _) hlt))
      rw [hz]
      simp [Vm.isSubclassAux]
  obtain ⟨vm₁, X₁, hstep₁⟩ := X.invokespecialUp hexec hown hlink hsame hnamed hmethM hstM habM hno hdk hnid hps hsuper hsub (a := b) (cell := cellB) hcell
    (fun z h => by rw [h] at hobj; cases hobj) hkB (g := g) hg (argsL := argsL) (rest := rest) (hlen _ hsigM) hstack hdg
  obtain ⟨v, B, X', hpost, hsteps⟩ := hK mid meth c ⟨T.setVm vm₁, locs, cells, slots⟩ { g with stack := rest } (.invokespecial index) mk (Value.ref b :: argsL).toArray X₁ hg hsize hdg hW (X₁.named hnamed) (hpre vm₁ X₁.warmed)
  exact ⟨v, vm₁, B, X₁.warmed, X', hpost, fun target h => hstep₁ _ (by rw [doInvoke_state]; exact hsteps.trans h)⟩
end S11
section S12
variable {p : Program} {l : Launch} {e : Env} {R : Room} {s : State} {mid : MethodId} {args : Array Value} {below : List Frame} {meth : Method} {c : Code} {H : Heap} {locs : List Loc} {cells slots : Nat} {Q : State → Prop}
variable {ad : Nat → Nat} {m pc len nL base : Nat} {real : Array Slot} {i : Instr} {ls st ls' st' : List TV} {D : va_G} {dA : Nat → ClassId} {h h' : TH} {sc : Nat × (Nat → Int32)}
theorem tHsz (had : ∀ k, k < 1000000000 → ad k = base + k) (hP : va_P D vwCl (twl ad dA h) H) (hw : tWf h) (hS : va_S (fun q => base ≤ q) s.heap H locs) (hsz : base ≤ s.heap.size) : base + h.2.1 ≤ H.size := by
  by_cases h0 : h.2.1 = 0
  · have := hS.1; omega
  · have hk : h.2.1 - 1 < h.2.1 := by omega
    have h3 : (twl ad dA h)[h.2.1 - 1]? = some (ad (h.2.1 - 1), tce ad dA ((h.1 (h.2.1 - 1)).getD tcell0)) := by
      unfold twl
      rw [List.getElem?_map, List.getElem?_range hk]; rfl
    have h4 := (hP _ _ h3).lt
    have := hw.2
    have h5 : ad (h.2.1 - 1) < H.size := h4
    rw [had _ (by omega)] at h5
    omega
theorem tchk_of {m' : Nat} {as : List TV} (h : tchk m m' as = true) : mF m' + 1 ≤ mF m ∧ 8 + (mL m' + 11) + mW m' ≤ mW m ∧ (targ as).length ≤ mL m' := by
  simp only [tchk, Bool.and_eq_true] at h
  obtain ⟨⟨h1, h2⟩, h3⟩ := h
  have := Nat.le_of_ble_eq_true h1
  have := Nat.le_of_ble_eq_true h2
  have := Nat.le_of_ble_eq_true h3
  exact ⟨by omega, by omega, by omega⟩
theorem cls_get {ci : Nat} (h : ci < 12) : ∃ q, vwCl[ci]? = some q ∧ q.1 = cNm ci := by
  rcases (show ci = 0 ∨ ci = 1 ∨ ci = 2 ∨ ci = 3 ∨ ci = 4 ∨ ci = 5 ∨ ci = 6 ∨ ci = 7 ∨ ci = 8 ∨ ci = 9 ∨ ci = 10 ∨ ci = 11 by omega) with rfl | rfl | rfl | rfl | rfl | rfl | rfl | rfl | rfl | rfl | rfl | rfl <;> exact ⟨_, rfl, rfl⟩
set_option maxHeartbeats 4000000 in
theorem snd_call {m' ar mode k kd : Nat} {alts : List (Nat × Nat)} {as r : List TV} {v1 : Option TV} {h1 : TH} (hx : p.tables.exec = Jvm.exec) (hb : c.code = mB m) (hml : c.maxLocals = mL m) (hown : s.vm.findClass (mY m).cls = some mid.cls) (hts : ∀ w ∈ lw_good, w.before args s = true) (hA : tAll sc base ad D dA s s.heap) (hP : va_P D vwCl (twl ad dA h) H) (hw : tWf h) (hS : va_S (fun q => base ≤ q) s.heap H locs) (hsz : base ≤ s.heap.size) (hHz : H.size = base + h.2.1) (hl : real.size = mL m)
    (hfr : mF m ≤ R.frames) (hlo : mW m ≤ R.locals) (hcs : tlk2 cST (mO m) k = some (ar, mode, alts)) (hkd : tinv i = some (kd, k)) (hmk : tmk mode = kd) (hd : decode (mB m) pc = .ok (i, 3)) (hcall : tcall m pc ls st h ar mode alts = some (.inr (.inr (m', as, r)))) (hchk : tchk m m' as = true) (hM : tMet l sc base ad D dA m' as h v1 h1)
    (hrc : cells + (h1.2.1 - h.2.1) ≤ R.cells) (hrs : slots + (h1.2.2 - h.2.2) ≤ R.slots) :
    va_Run p l e R s mid args below meth c H locs cells slots (h1.2.1 - h.2.1) (h1.2.2 - h.2.2) (F0 mid pc real (st.map (tcv ad))) (r.map (tcv ad)) (tQc base ad D dA v1 h1 (as.map (tcv ad)).toArray) (fun q => base ≤ q) := by
  have hown' : s.vm.findClass (cNm (mO m)) = some mid.cls := by rw [← mOwn]; exact hown
  have hcok := cST_ok _ (tlk2_mem hcs)
  obtain ⟨hc1, hc2, hc3⟩ := tchk_of hchk
  have hR : (trm m' (h1.2.1 - h.2.1) (h1.2.2 - h.2.2)).frames + 1 ≤ R.frames ∧ 8 + (mL m' + 11) + (trm m' (h1.2.1 - h.2.1) (h1.2.2 - h.2.2)).locals ≤ R.locals := ⟨Nat.le_trans hc1 hfr, Nat.le_trans hc2 hlo⟩
  have hpre : ∀ U : State, U.heap = H → s.WarmedH U.vm → va_Pc (as.map (tcv ad)) (tPr sc base ad D dA h) (as.map (tcv ad)).toArray U := by
    intro U hU hW
    refine ⟨rfl, by rw [hU]; exact hHz, by rw [hU]; exact hP, ?_⟩
    rw [hU]
    exact hA.step hW hsz (fun a h1 h2 => hS.2.1 a h1 h2)
  have hkind : ∀ z : Nat × Nat, tinv i = some z → (z.1 = 0 → i = .invokevirtual z.2) ∧ (z.1 = 1 → i = .invokestatic z.2) ∧ (z.1 = 2 → i = .invokespecial z.2) := by
    intro z hz
    cases i <;> simp [tinv] at hz <;> subst hz <;> simp
  obtain ⟨kv, ks, ksp⟩ := hkind _ hkd
  simp only at kv ks ksp
  have recvc : ∀ o : Nat, st.drop ar = vR (some o) :: r → as = vR (some o) :: (st.take ar).reverse → r.length ≤ 4 → (((st.take ar).reverse.map (tcv ad)).length = ar ∧ st.map (tcv ad) = ((st.take ar).reverse.map (tcv ad)).reverse ++ .ref (ad o) :: r.map (tcv ad) ∧ 2 * (F0 mid pc real (st.map (tcv ad))).monitorRoom + ((r.map (tcv ad)).map fun v => v.category).sum ≤ 8) := by
    intro o hdrop has hr4
    have hlen : ar < st.length := by
      have := congrArg List.length hdrop
      simp at this
      omega
    refine ⟨by simp; omega, ?_, lv_room (catsum r hr4)⟩
    conv => lhs; rw [← List.take_append_drop ar st, hdrop]
    simp [tcv, va_rf]
  match mode, hcok, hmk, hcall with
  | 0, hcok, hmk, hcall =>
    have hi := kv (by rw [← hmk]; rfl)
    subst hi
    simp only [tcall] at hcall
    split at hcall
    · rename_i o r' hdrop
      split at hcall
      · rename_i ci hci
        split at hcall
        · rename_i m2 halt
          split at hcall
          · rename_i hr4
            cases hcall
            obtain ⟨g1, g2, g3⟩ := recvc o hdrop rfl hr4
            rcases hcok _ (tlk_mem halt) with ⟨q1, q2, q3, q4, q5, q6⟩ | ⟨x, owner, b0, m0, r0, q1, q2, q3, q4, q5, q6, q7, q8, q9, q10⟩
            · obtain ⟨qq, hq1, hq2⟩ := cls_get q4
              have hr := trecv (ad := ad) hA.1.1 hP hw hci hq1
              rw [hq2] at hr
              exact va_runV (As := (st.take ar).reverse.map (tcv ad)) (rest := r.map (tcv ad)) ⟨hx, hb, hml, hown', hts⟩ hM ⟨callB_of ar hts (tws_good q6) rfl rfl rfl (hts _ q6.2.1) (hts _ q1) ⟨q6.2.2.1.1, q6.2.2.1.2, q5⟩ hR, hts _ q2, hts _ q3⟩ ⟨tPr_blind, hr, hpre⟩ rfl g1 hl g2 g3 hd ⟨hrc, hrs⟩
            · obtain ⟨qq, hq1, hq2⟩ := cls_get q9
              have hr := trecv (ad := ad) hA.1.1 hP hw hci hq1
              rw [hq2] at hr
              refine va_runU (owner := owner) (x := x) (As := (st.take ar).reverse.map (tcv ad)) (rest := r.map (tcv ad)) ⟨hx, hb, hml, hown', hts⟩ hM ⟨⟨rfl, rfl, hR.1, hR.2, pay_in hts (tws_good q10), List.mem_cons_self⟩, hts _ q10.1, hts _ q10.2.1, q5, fun sig hs => ?_, hts _ q1, hts _ q2, va_Decl.of (hts _ q3) (hts _ q4), hts _ q7, hts _ q8⟩ ⟨tPr_blind, hr, hpre⟩ rfl g1 hl g2 g3 hd ⟨hrc, hrs⟩
              have h2 := q6
              unfold arOK at h2
              rw [hs] at h2
              exact (Option.some.inj h2).symm
          · cases hcall
        · cases hcall
      · cases hcall
    · cases hcall
  | 1, hcok, hmk, hcall =>
    have hi := ks (by rw [← hmk]; rfl)
    subst hi
    simp only [tcall] at hcall
    split at hcall
    · rename_i m2 halt
      split at hcall
      · rename_i hr4
        cases hcall
        obtain ⟨-, q1, q2, q3, q4⟩ := hcok _ (tlk_mem halt)
        have g1 : ((st.take ar).reverse.map (tcv ad)).length = ar := by simp; omega
        have g2 : st.map (tcv ad) = ((st.take ar).reverse.map (tcv ad)).reverse ++ (st.drop ar).map (tcv ad) := by
          conv => lhs; rw [← List.take_append_drop ar st]
          simp
        have g3 : 2 * (F0 mid pc real (st.map (tcv ad))).monitorRoom + (((st.drop ar).map (tcv ad)).map fun v => v.category).sum ≤ 8 := lv_room (catsum _ hr4.2)
        rcases q1 with q1 | ⟨host, q1⟩
        · exact va_runS (As := (st.take ar).reverse.map (tcv ad)) (rest := (st.drop ar).map (tcv ad)) ⟨hx, hb, hml, hown', hts⟩ hM ⟨callB_of ar hts (tws_good q4) rfl rfl rfl (hts _ q4.2.1) (hts _ q1) ⟨q4.2.2.1.1, q4.2.2.1.2, q3⟩ hR, hts _ q2⟩ ⟨tPr_blind, hpre⟩ rfl g1 hl g2 g3 hd ⟨hrc, hrs⟩
        · exact va_runSN (As := (st.take ar).reverse.map (tcv ad)) (rest := (st.drop ar).map (tcv ad)) ⟨hx, hb, hml, hown', hts⟩ hM ⟨va_cnB ar hts (tws_good q4) rfl rfl rfl (hA.1.2.2.2.2.2.2.2.1 _ q1) (hts _ q4.2.1) ⟨q4.2.2.1.1, q4.2.2.1.2, q3⟩ hR, hts _ q2, trivial⟩ ⟨tPr_blind, hpre⟩ rfl g1 hl g2 g3 hd ⟨hrc, hrs⟩
      · cases hcall
    · cases hcall
  | 2, hcok, hmk, hcall =>
    have hi := ksp (by rw [← hmk]; rfl)
    subst hi
    simp only [tcall] at hcall
    split at hcall
    · rename_i o r' m2 hdrop halt
      split at hcall
      · rename_i hr4
        cases hcall
        obtain ⟨g1, g2, g3⟩ := recvc o hdrop rfl hr4
        obtain ⟨-, q1, q2, q3, q4, q5, q6⟩ := hcok _ (tlk_mem halt)
        simp only at q1 q2 q3 q4 q5 q6
        have hws : tws m' = Cond.code (mY m') (mB m') (mL m') none :: lw_good := by unfold tws; rw [q4]
        have hG := tws_good q6
        rcases q1 with q1 | ⟨host, q1⟩
        · exact va_runI (bytes := mB m') (maxL := mL m') (As := (st.take ar).reverse.map (tcv ad)) (rest := r.map (tcv ad)) ⟨hx, hb, hml, hown', hts⟩ hM ⟨callB_of ar hts hG hws rfl rfl (hts _ q6.2.1) (hts _ q1) ⟨q6.2.2.1.1, q6.2.2.1.2, q5⟩ hR, q2, hts _ q3⟩ ⟨tPr_blind, hpre⟩ rfl g1 hl g2 g3 hd ⟨hrc, hrs⟩
        · exact va_runIN (bytes := mB m') (maxL := mL m') (As := (st.take ar).reverse.map (tcv ad)) (rest := r.map (tcv ad)) ⟨hx, hb, hml, hown', hts⟩ hM ⟨va_cnB ar hts hG hws rfl rfl (hA.1.2.2.2.2.2.2.2.1 _ q1) (hts _ q6.2.1) ⟨q6.2.2.1.1, q6.2.2.1.2, q5⟩ hR, q2, hts _ q3⟩ ⟨tPr_blind, hpre⟩ rfl g1 hl g2 g3 hd ⟨hrc, hrs⟩
      · cases hcall
    · cases hcall
  | 3, hcok, hmk, hcall =>
    have hi := ksp (by rw [← hmk]; rfl)
    subst hi
    simp only [tcall] at hcall
    split at hcall
    · rename_i o r' m2 hdrop halt
      split at hcall
      · rename_i ci hci
        split at hcall
        · rename_i hr4
          cases hcall
          obtain ⟨g1, g2, g3⟩ := recvc o hdrop rfl hr4
          obtain ⟨-, x, owner, e0, q1, q2, q3, q4, q5, q6, q7, q8⟩ := hcok _ (tlk_mem halt)
          simp only at e0 q5 q8
          obtain ⟨f, hcell⟩ := tcl_cell hci
          obtain ⟨rr, hrr, cell, z1, z2, z3, -⟩ := hP _ _ (twl_get (ad := ad) (dA := dA) hw hcell)
          obtain ⟨-, hfc, kB, hkB, -⟩ := hA.1.1.1 ci rr hrr
          have hK : Back l R p e below s args (mY m') 3 8 (PreOf R (h1.2.1 - h.2.1) (h1.2.2 - h.2.2) (va_Pc ((vR (some o) :: (st.take ar).reverse).map (tcv ad)) (tPr sc base ad D dA h))) (PostOf (tQc base ad D dA v1 h1) (h1.2.1 - h.2.1) (h1.2.2 - h.2.2) (fun q => base ≤ q)) :=
            back_of (bytes := mB m') (maxL := mL m') (ret := mR m') hM tPr_blind rfl rfl hR.1 hR.2 (pay_in hts (tws_good q8)) List.mem_cons_self (fun a' U hW => word_at hW (Or.inl (by first | rfl | simp [Cond.onTables, Cond.keeps, Cond.steady])) (hts _ q8.2.1))
          intro T hT X
          rw [e0] at hK
          have hins := hts _ q5
          have hcd := hts _ q8.1
          rw [e0] at hins hcd
          obtain ⟨v, vm₁, ⟨U', l2, c2, s2⟩, hW₁, X', ⟨g', mk, t, L, e1, e2, hq, h1', hL, h2', h3'⟩, stp⟩ := snd_callSU X hx (bytes := mB m') (maxL := mL m') (ret := mR m') hown' (hts _ q1) (hts _ q2) (hts _ q3) (q4.imp id (fun z => hts _ z)) hins hcd q6 hK (b := ad o) (cellB := cell) (kB := kB) (by rw [hT]; exact z1) (by rw [z3]; rfl) (by rw [z2]; exact hkB) (g := F0 mid pc real (st.map (tcv ad))) rfl (hl.trans hml.symm) (argsL := (st.take ar).reverse.map (tcv ad)) (rest := r.map (tcv ad)) (fun sig hs => by
              have h2 := q7
              unfold arOK at h2
              rw [hs] at h2
              exact g1.trans (Option.some.inj h2).symm) g2 g3 (by rw [hb]; exact hd) (fun vm₁ hW₁ => ⟨hrc, hrs, hpre (T.setVm vm₁) hT hW₁⟩)
          dsimp only [Pt.U, Pt.locs, Pt.cells, Pt.slots] at X' e1 e2 h1' h2' h3' stp
          subst h1'; subst h2'; subst h3'
          exact ⟨v, (T.setVm vm₁).calling g' mk (Value.ref (ad o) :: (st.take ar).reverse.map (tcv ad)).toArray, t, U', L, hT, X', hL, e1, e2, hq, stp⟩
        · cases hcall
      · cases hcall
    · cases hcall
  | n + 4, hcok, hmk, hcall =>
    exfalso
    simp only [tcall] at hcall
    repeat' split at hcall
    all_goals first | omega | (cases hcall; done) | (obtain ⟨_, hz, hz2⟩ := Option.map_eq_some_iff.mp hcall; cases hz2)
end S12
