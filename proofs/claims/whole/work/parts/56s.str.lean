/-! STRINGS: the two members that the clerk asks, walked through the library's own code (wip/whole/gen_str.py) -/
theorem sI0 : Cond.initialized RJ0 ∈ lw_good := lw_in 63 (by decide +kernel) (by decide +kernel)
theorem sI1 : Cond.initialized RJ1 ∈ lw_good := lw_in 64 (by decide +kernel) (by decide +kernel)
theorem sI3 : Cond.initialized RJ3 ∈ lw_good := lw_in 65 (by decide +kernel) (by decide +kernel)
theorem sIM_len : Cond.instanceMethod yJ0_length_8abf5 ∈ lw_good := lw_in 308 (by decide +kernel) (by decide +kernel)
theorem sSE_len : Cond.selects "java/lang/String" yJ0_length_8abf5 yJ0_length_8abf5 ∈ lw_good := lw_in 309 (by decide +kernel) (by decide +kernel)
theorem sCD_len : Cond.code yJ0_length_8abf5 cJ0_length_8abf5 1 (some .int) ∈ lw_good := lw_in 310 (by decide +kernel) (by decide +kernel)
theorem sIM_cod : Cond.instanceMethod yJ0_coder_7d493 ∈ lw_good := lw_in 312 (by decide +kernel) (by decide +kernel)
theorem sSE_cod : Cond.selects "java/lang/String" yJ0_coder_7d493 yJ0_coder_7d493 ∈ lw_good := lw_in 313 (by decide +kernel) (by decide +kernel)
theorem sCD_cod : Cond.code yJ0_coder_7d493 cJ0_coder_7d493 1 (some .byte) ∈ lw_good := lw_in 314 (by decide +kernel) (by decide +kernel)
theorem sIM_cha : Cond.instanceMethod yJ0_charAt_5068e ∈ lw_good := lw_in 318 (by decide +kernel) (by decide +kernel)
theorem sSE_cha : Cond.selects "java/lang/String" yJ0_charAt_5068e yJ0_charAt_5068e ∈ lw_good := lw_in 319 (by decide +kernel) (by decide +kernel)
theorem sCD_cha : Cond.code yJ0_charAt_5068e cJ0_charAt_5068e 2 (some .char) ∈ lw_good := lw_in 320 (by decide +kernel) (by decide +kernel)
theorem sIM_lat : Cond.instanceMethod yJ0_isLatin1_aae02 ∈ lw_good := lw_in 322 (by decide +kernel) (by decide +kernel)
theorem sSE_lat : Cond.selects "java/lang/String" yJ0_isLatin1_aae02 yJ0_isLatin1_aae02 ∈ lw_good := lw_in 323 (by decide +kernel) (by decide +kernel)
theorem sCD_lat : Cond.code yJ0_isLatin1_aae02 cJ0_isLatin1_aae02 1 (some .boolean) ∈ lw_good := lw_in 324 (by decide +kernel) (by decide +kernel)
theorem sST_slc : Cond.static yJ1_charAt_3b067 ∈ lw_good := lw_in 326 (by decide +kernel) (by decide +kernel)
theorem sCD_slc : Cond.code yJ1_charAt_3b067 cJ1_charAt_3b067 2 (some .char) ∈ lw_good := lw_in 327 (by decide +kernel) (by decide +kernel)
theorem sST_sci : Cond.static yJ0_checkIndex_df160 ∈ lw_good := lw_in 329 (by decide +kernel) (by decide +kernel)
theorem sCD_sci : Cond.code yJ0_checkIndex_df160 cJ0_checkIndex_df160 2 none ∈ lw_good := lw_in 330 (by decide +kernel) (by decide +kernel)
theorem sST_pci : Cond.static yJ3_checkIndex_8e157 ∈ lw_good := lw_in 334 (by decide +kernel) (by decide +kernel)
theorem sCD_pci : Cond.code yJ3_checkIndex_8e157 cJ3_checkIndex_8e157 3 (some .int) ∈ lw_good := lw_in 335 (by decide +kernel) (by decide +kernel)
theorem sL_cod : Cond.methodLink RJ0 335 yJ0_coder_7d493 ∈ lw_good := lw_in 311 (by decide +kernel) (by decide +kernel)
theorem sL_lat : Cond.methodLink RJ0 492 yJ0_isLatin1_aae02 ∈ lw_good := lw_in 321 (by decide +kernel) (by decide +kernel)
theorem sL_slc : Cond.methodLink RJ0 495 yJ1_charAt_3b067 ∈ lw_good := lw_in 325 (by decide +kernel) (by decide +kernel)
theorem sL_sci : Cond.methodLink RJ1 9 yJ0_checkIndex_df160 ∈ lw_good := lw_in 328 (by decide +kernel) (by decide +kernel)
theorem sL_pci : Cond.methodLink RJ0 1059 yJ3_checkIndex_8e157 ∈ lw_good := lw_in 333 (by decide +kernel) (by decide +kernel)
theorem sF_cs : Cond.fieldLink RJ0 38 RJ0 "COMPACT_STRINGS" "Z" ∈ lw_good := lw_in 315 (by decide +kernel) (by decide +kernel)
theorem sF_si : Cond.fieldLink RJ0 1053 RJ3 "SIOOBE_FORMATTER" "Ljava/util/function/BiFunction;" ∈ lw_good := lw_in 331 (by decide +kernel) (by decide +kernel)
theorem sF_va : Cond.fieldLink RJ0 9 RJ0 "value" "[B" ∈ lw_good := lw_in 1631 (by decide +kernel) (by decide +kernel)
theorem sF_co : Cond.fieldLink RJ0 15 RJ0 "coder" "B" ∈ lw_good := lw_in 1632 (by decide +kernel) (by decide +kernel)
def sQ (v : Option Value) : Array Value → State → Outcome → State → Prop := fun _ st o t => o = .returned v ∧ t.heap = st.heap
def sPr (base : Nat) (ad adV : Nat → Nat) (U : State) : Prop := base ≤ U.heap.size ∧ vk_S 12 (strT.map (fun b => b.length)) strT (fun i => ad (1000000003 + i)) adV (fun q => base ≤ q) U U.heap ∧ va_Z RJ0 "COMPACT_STRINGS" "Z" (.int 1) (fun q => base ≤ q) U U.heap ∧ va_Zq RJ3 "SIOOBE_FORMATTER" "Ljava/util/function/BiFunction;" (fun q => base ≤ q) U U.heap
theorem sPr.step {base : Nat} {ad adV : Nat → Nat} {s U : State} (h : sPr base ad adV s) (hW : s.WarmedH U.vm) (hz : s.heap.size ≤ U.heap.size) (hq : ∀ a : Nat, a < s.heap.size → ¬ base ≤ a → U.heap[a]? = s.heap[a]?) : sPr base ad adV U :=
  ⟨Nat.le_trans h.1 hz, (h.2.1.kept hq).moved hW.alike, (h.2.2.1.kept hq).moved hW.alike, (h.2.2.2.kept hq).moved hW.alike⟩
theorem sPr_blind {base : Nat} {ad adV : Nat → Nat} {vs : List Value} : FrameBlind (va_Pc vs (sPr base ad adV)) := by
  intro a U g mk q
  exact ⟨q.1, q.2.step (U := U.calling g mk a) (State.WarmedH.refl U) (Nat.le_refl _) (fun _ _ _ => rfl)⟩
def sws (y : MethodName) (cc : ByteArray) (n : Nat) (r : Option FieldType) : List Cond := Cond.code y cc n r :: lw_good
def sRm (f w : Nat) : Room := { frames := f, cells := 0, slots := 0, locals := w }
def sMet (l : Launch) (y : MethodName) (cc : ByteArray) (n : Nat) (r : Option FieldType) (f w base : Nat) (ad adV : Nat → Nat) (as : List Value) (v : Option Value) : Prop := Met l y (sws y cc n r) (sRm f w) (va_Pc as (sPr base ad adV)) (sQ v) 0 0 (fun _ => False)
theorem s_good {y : MethodName} {cc : ByteArray} {n : Nat} {r : Option FieldType} (h : Cond.code y cc n r ∈ lw_good) : GoodIn lw_good (sws y cc n r) := by
  intro w hw
  rcases List.mem_cons.mp hw with rfl | hw
  · exact ⟨h, lw_good_good h⟩
  · exact ⟨hw, lw_good_good hw⟩
theorem sMet.of {l : Launch} {y : MethodName} {cc : ByteArray} {n : Nat} {r : Option FieldType} {f w base : Nat} {ad adV : Nat → Nat} {as : List Value} {v : Option Value} (hy : plainName y.cls = true) (hn : (lg_sl as).length ≤ n)
    (body : ∀ (p : Program) (e : Env) (s : State) (m : MethodId) (below : List Frame) (meth : Method) (c : Code) (real : Array Slot), p.tables.exec = Jvm.exec → c.code = cc → c.maxLocals = n → s.vm.findClass y.cls = some m.cls → (∀ w ∈ lw_good, w.before as.toArray s = true) → meth.sig.returnType = r → meth.locks = false → sPr base ad adV s → lv_has real n (lv_args 0 as) →
      W p l e (sRm f w) s m as.toArray below meth c s.heap [] 0 0 (MQ below (sQ v) as.toArray s 0 0 (fun _ => False)) (F0 m 0 real [])) : sMet l y cc n r f w base ad adV as v := by
  unfold sMet
  refine Met.ofW (cc := cc) (maxL := n) (ret := r) hy rfl ?_
  intro p e s mid args below meth c s₁ B hml hv
  obtain ⟨rfl, hP⟩ := hv
  have hent := lv_entry as (n := n) hn
  rw [lg_entry_eq]
  exact body p e s mid below meth c _ B.exec B.bytes hml (findClass_of_methodNamed B.named) (fun w hw => atoms_spec (ws := sws y cc n r) B.pre w (List.mem_cons_of_mem _ hw)) B.returns B.notSynchronized hP hent
section SSTR
variable {p : Program} {l : Launch} {e : Env} {R : Room} {s : State} {m : MethodId} {args : Array Value} {below : List Frame} {meth : Method} {c : Code} {H : Heap} {locs : List Loc} {cells slots : Nat} {Q : State → Prop}
variable {own : String} {index n : Nat} {y : MethodName} {bytes cc : ByteArray} {maxL nL f w b base pc : Nat} {ret : Option FieldType} {ad adV : Nat → Nat} {As rest st : List Value} {v : Option Value} {real : Array Slot}
theorem s_after {a : Array Value} (hr1 : CallRun p l e R s m args below meth c H locs cells slots 0 0 (F0 m pc real st) rest (sQ v a) (fun _ => False)) (kk : W p l e R s m args below meth c H locs cells slots Q (F0 m (pc + 3) real (v.toList ++ rest))) : W p l e R s m args below meth c H locs cells slots Q (F0 m pc real st) := by
  intro T hT X
  obtain ⟨v', st₀, t, T', L, h0, X', hL, e1, ⟨hv, hh⟩, stp⟩ := hr1 T hT X
  cases hv
  obtain ⟨t2, a1, b1⟩ := kk T' (by rw [e1, hh, h0]) (Stand.forget X' (fun q h => (hL q h).elim))
  exact ⟨t2, stp t2 a1, b1⟩
theorem s_callV (S : CallFix p m c cc nL s args lw_good own) (hM : sMet l y bytes maxL ret f w base ad adV (.ref b :: As) v) (hcd : Cond.code y bytes maxL ret ∈ lw_good) (hin : Cond.initialized y.cls ∈ lw_good) (hne : y.cls ≠ "java/lang/invoke/MethodHandle" ∧ y.cls ≠ "java/lang/invoke/VarHandle") (har : arOK y n)
    (hlk : Cond.methodLink own index y ∈ lw_good) (him : Cond.instanceMethod y ∈ lw_good) (hse : Cond.selects "java/lang/String" y y ∈ lw_good) (hr : ∃ cell : Cell, H[b]? = some cell ∧ cell.vm.isStatics = false ∧ s.vm.findClass "java/lang/String" = some cell.cls)
    (hpre : ∀ U : State, U.heap = H → s.WarmedH U.vm → sPr base ad adV U) (hn : As.length = n) (hl : real.size = nL) (hst : st = As.reverse ++ .ref b :: rest) (hW : (rest.map fun v => v.category).sum ≤ 8) (hdg : decode cc pc = .ok (.invokevirtual index, 3)) (hR : f + 1 ≤ R.frames ∧ 8 + (maxL + 11) + w ≤ R.locals) (hc : cells ≤ R.cells) (hs : slots ≤ R.slots)
    (kk : W p l e R s m args below meth c H locs cells slots Q (F0 m (pc + 3) real (v.toList ++ rest))) : W p l e R s m args below meth c H locs cells slots Q (F0 m pc real st) :=
  s_after (W.runV (As := As) (rest := rest) (b := b) (C := "java/lang/String") (n := n) S hM ⟨callB_of n S.2.2.2.2 (s_good hcd) rfl rfl rfl (S.2.2.2.2 _ hin) (S.2.2.2.2 _ hlk) ⟨hne.1, hne.2, har⟩ hR, S.2.2.2.2 _ him, S.2.2.2.2 _ hse⟩ ⟨sPr_blind, hr, fun U hU hW => ⟨rfl, hpre U hU hW⟩⟩ (g := F0 m pc real st) rfl hn hl hst (lv_room hW) hdg ⟨hc, hs⟩) kk
theorem s_callS (S : CallFix p m c cc nL s args lw_good own) (hM : sMet l y bytes maxL ret f w base ad adV As v) (hcd : Cond.code y bytes maxL ret ∈ lw_good) (hin : Cond.initialized y.cls ∈ lw_good) (hne : y.cls ≠ "java/lang/invoke/MethodHandle" ∧ y.cls ≠ "java/lang/invoke/VarHandle") (har : arOK y n)
    (hlk : Cond.methodLink own index y ∈ lw_good) (hstt : Cond.static y ∈ lw_good)
    (hpre : ∀ U : State, U.heap = H → s.WarmedH U.vm → sPr base ad adV U) (hn : As.length = n) (hl : real.size = nL) (hst : st = As.reverse ++ rest) (hW : (rest.map fun v => v.category).sum ≤ 8) (hdg : decode cc pc = .ok (.invokestatic index, 3)) (hR : f + 1 ≤ R.frames ∧ 8 + (maxL + 11) + w ≤ R.locals) (hc : cells ≤ R.cells) (hs : slots ≤ R.slots)
    (kk : W p l e R s m args below meth c H locs cells slots Q (F0 m (pc + 3) real (v.toList ++ rest))) : W p l e R s m args below meth c H locs cells slots Q (F0 m pc real st) :=
  s_after (W.runS (As := As) (rest := rest) (n := n) S hM ⟨callB_of n S.2.2.2.2 (s_good hcd) rfl rfl rfl (S.2.2.2.2 _ hin) (S.2.2.2.2 _ hlk) ⟨hne.1, hne.2, har⟩ hR, S.2.2.2.2 _ hstt⟩ ⟨sPr_blind, fun U hU hW => ⟨rfl, hpre U hU hW⟩⟩ (g := F0 m pc real st) rfl hn hl hst (lv_room hW) hdg ⟨hc, hs⟩) kk
end SSTR
theorem sPr.self {base : Nat} {ad adV : Nat → Nat} {s : State} (h : sPr base ad adV s) : ∀ U : State, U.heap = s.heap → s.WarmedH U.vm → sPr base ad adV U := fun U hU hW => h.step hW (by rw [hU]; exact Nat.le_refl _) (fun a _ _ => by rw [hU])
theorem s_cod {l : Launch} {base i : Nat} {ad adV : Nat → Nat} (hi : i < 12) : sMet l yJ0_coder_7d493 cJ0_coder_7d493 1 (some .byte) 0 0 base ad adV [.ref (ad (1000000003 + i))] (some (.int 0)) := by
  refine sMet.of (by decide +kernel) (Nat.le_refl _) ?_
  intro p e s m below meth c real hx hb hml hown hts hret hlk hP hlr
  have hown' : s.vm.findClass RJ0 = some m.cls := hown
  have hl0 : real[0]? = some (.val (.ref (ad (1000000003 + i)))) := hlr.2.2 (0, _) List.mem_cons_self
  refine va_gets hx hb hP.2.2.1 va_S.rf hown' (hts _ sF_cs) (fun _ z => z) dJ0_coder_7d493_0 ?_
  refine lv_if_eq hx hb dJ0_coder_7d493_3 (tgt := 13) rfl (fun z => absurd z (by decide)) (fun _ => ?_)
  refine lv_aload_n hx hb dJ0_coder_7d493_6 (i := 0) rfl hl0 ?_
  refine vk_getf hx hb (hP.2.1.1 i hi).2.1 va_S.rf hown' (hts _ sF_co) (fun _ z => z) dJ0_coder_7d493_7 ?_
  refine lv_goto hx hb dJ0_coder_7d493_10 (tgt := 14) rfl ?_
  exact W.zret hx hb hret (by decide) (fun t ht hW => ⟨rfl, ht⟩) (fun q h => absurd h List.not_mem_nil) dJ0_coder_7d493_14 hlk
theorem s_lat {l : Launch} {base i : Nat} {ad adV : Nat → Nat} (hi : i < 12) : sMet l yJ0_isLatin1_aae02 cJ0_isLatin1_aae02 1 (some .boolean) 0 0 base ad adV [.ref (ad (1000000003 + i))] (some (.int 1)) := by
  refine sMet.of (by decide +kernel) (Nat.le_refl _) ?_
  intro p e s m below meth c real hx hb hml hown hts hret hlk hP hlr
  have hown' : s.vm.findClass RJ0 = some m.cls := hown
  have hl0 : real[0]? = some (.val (.ref (ad (1000000003 + i)))) := hlr.2.2 (0, _) List.mem_cons_self
  refine va_gets hx hb hP.2.2.1 va_S.rf hown' (hts _ sF_cs) (fun _ z => z) dJ0_isLatin1_aae02_0 ?_
  refine lv_if_eq hx hb dJ0_isLatin1_aae02_3 (tgt := 17) rfl (fun z => absurd z (by decide)) (fun _ => ?_)
  refine lv_aload_n hx hb dJ0_isLatin1_aae02_6 (i := 0) rfl hl0 ?_
  refine vk_getf hx hb (hP.2.1.1 i hi).2.1 va_S.rf hown' (hts _ sF_co) (fun _ z => z) dJ0_isLatin1_aae02_7 ?_
  refine lv_if_ne hx hb dJ0_isLatin1_aae02_10 (tgt := 17) rfl (fun z => absurd rfl z) (fun _ => ?_)
  refine lv_iconst hx hb dJ0_isLatin1_aae02_13 rfl ?_
  refine lv_goto hx hb dJ0_isLatin1_aae02_14 (tgt := 18) rfl ?_
  exact W.zret hx hb hret (by decide) (fun t ht hW => ⟨rfl, ht⟩) (fun q h => absurd h List.not_mem_nil) dJ0_isLatin1_aae02_18 hlk
theorem s_pci {l : Launch} {base : Nat} {ad adV : Nat → Nat} {j n : Int32} {fv : Value} (hf : fv = .null ∨ ∃ t : Nat, fv = .ref t) (h0 : ¬ j < 0) (h1 : j < n) : sMet l yJ3_checkIndex_8e157 cJ3_checkIndex_8e157 3 (some .int) 0 0 base ad adV [.int j, .int n, fv] (some (.int j)) := by
  refine sMet.of (by decide +kernel) ?_ ?_
  · rcases hf with rfl | ⟨t, rfl⟩
    · exact Nat.le_refl _
    · exact Nat.le_refl _
  intro p e s m below meth c real hx hb hml hown hts hret hlk hP hlr
  have hl0 : real[0]? = some (.val (.int j)) := hlr.2.2 (0, _) List.mem_cons_self
  have hl1 : real[1]? = some (.val (.int n)) := hlr.2.2 (1, _) (List.mem_cons_of_mem _ List.mem_cons_self)
  refine lv_iload_n hx hb dJ3_checkIndex_8e157_0 (i := 0) rfl hl0 ?_
  refine lv_if_lt hx hb dJ3_checkIndex_8e157_1 (tgt := 9) rfl (fun z => absurd z h0) (fun _ => ?_)
  refine lv_iload_n hx hb dJ3_checkIndex_8e157_4 (i := 0) rfl hl0 ?_
  refine lv_iload_n hx hb dJ3_checkIndex_8e157_5 (i := 1) rfl hl1 ?_
  refine lv_icmp_lt hx hb dJ3_checkIndex_8e157_6 (tgt := 16) rfl (fun _ => ?_) (fun z => absurd h1 z)
  refine lv_iload_n hx hb dJ3_checkIndex_8e157_16 (i := 0) rfl hl0 ?_
  exact W.iret hx hb hret (fun t ht hW => ⟨rfl, ht⟩) (fun q h => absurd h List.not_mem_nil) dJ3_checkIndex_8e157_17 hlk
theorem s_sci {l : Launch} {base : Nat} {ad adV : Nat → Nat} {j n : Int32} (h0 : ¬ j < 0) (h1 : j < n) : sMet l yJ0_checkIndex_df160 cJ0_checkIndex_df160 2 none 1 22 base ad adV [.int j, .int n] none := by
  refine sMet.of (by decide +kernel) (Nat.le_refl _) ?_
  intro p e s m below meth c real hx hb hml hown hts hret hlk hP hlr
  have hown' : s.vm.findClass RJ0 = some m.cls := hown
  have hl0 : real[0]? = some (.val (.int j)) := hlr.2.2 (0, _) List.mem_cons_self
  have hl1 : real[1]? = some (.val (.int n)) := hlr.2.2 (1, _) (List.mem_cons_of_mem _ List.mem_cons_self)
  have hz : ∃ fv : Value, (fv = .null ∨ ∃ t : Nat, fv = .ref t) ∧ va_Z RJ3 "SIOOBE_FORMATTER" "Ljava/util/function/BiFunction;" fv (fun q => base ≤ q) s s.heap := by
    rcases hP.2.2.2 with h | ⟨t, h⟩
    · exact ⟨_, Or.inl rfl, h⟩
    · exact ⟨_, Or.inr ⟨t, rfl⟩, h⟩
  obtain ⟨fv, hf, hz⟩ := hz
  refine lv_iload_n hx hb dJ0_checkIndex_df160_0 (i := 0) rfl hl0 ?_
  refine lv_iload_n hx hb dJ0_checkIndex_df160_1 (i := 1) rfl hl1 ?_
  refine va_gets hx hb hz va_S.rf hown' (hts _ sF_si) (fun _ z => z) dJ0_checkIndex_df160_2 ?_
  refine s_callS (n := 3) (As := [.int j, .int n, fv]) (rest := []) ⟨hx, hb, hml, hown', hts⟩ (s_pci hf h0 h1) sCD_pci sI3 ⟨by decide +kernel, by decide +kernel⟩ (by decide +kernel) sL_pci sST_pci hP.self rfl hlr.1 rfl (by decide) dJ0_checkIndex_df160_5 ⟨Nat.le_refl _, Nat.le_refl _⟩ (Nat.le_refl _) (Nat.le_refl _) ?_
  refine lv_pop hx hb dJ0_checkIndex_df160_8 rfl ?_
  exact W.vret hx hb hret (fun t ht hW => ⟨rfl, ht⟩) (fun q h => absurd h List.not_mem_nil) dJ0_checkIndex_df160_9 hlk
theorem str_fit : strT.all (fun bs => bs.all (fun b => decide (((b &&& 255).toUInt32 % 65536).toInt32 = b ∧ b.toUInt32.toUInt16.toUInt32.toInt32 = b))) = true := by decide +kernel
theorem str_len : ∀ i : Nat, i < 12 → (strT.map (fun b => b.length)).getD i 0 = (tstr i).length ∧ (Int32.ofNat (tstr i).length) >>> ((0 : Int32) &&& 31) = Int32.ofNat (tstr i).length ∧ (tstr i).length < 100 ∧ i < strT.length := by decide +kernel
theorem s_len {l : Launch} {base i : Nat} {ad adV : Nat → Nat} (hi : i < 12) : sMet l yJ0_length_8abf5 cJ0_length_8abf5 1 (some .int) 1 20 base ad adV [.ref (ad (1000000003 + i))] (some (.int (Int32.ofNat (tstr i).length))) := by
  refine sMet.of (by decide +kernel) (Nat.le_refl _) ?_
  intro p e s m below meth c real hx hb hml hown hts hret hlk hP hlr
  have hown' : s.vm.findClass RJ0 = some m.cls := hown
  have hl0 : real[0]? = some (.val (.ref (ad (1000000003 + i)))) := hlr.2.2 (0, _) List.mem_cons_self
  obtain ⟨q1, q2, q3, q4⟩ := str_len i hi
  refine lv_aload_n hx hb dJ0_length_8abf5_0 (i := 0) rfl hl0 ?_
  refine vk_getf hx hb (hP.2.1.1 i hi).2.2.1 va_S.rf hown' (hts _ sF_va) (fun _ z => z) dJ0_length_8abf5_1 ?_
  refine va_tlen hx hb (hP.2.1.1 i hi).2.2.2 va_S.rf (congrArg Int32.ofNat q1) dJ0_length_8abf5_4 ?_
  refine lv_aload_n hx hb dJ0_length_8abf5_5 (i := 0) rfl hl0 ?_
  refine s_callV (n := 0) (As := []) (b := ad (1000000003 + i)) (rest := [.int (Int32.ofNat (tstr i).length)]) ⟨hx, hb, hml, hown', hts⟩ (s_cod hi) sCD_cod sI0 ⟨by decide +kernel, by decide +kernel⟩ (by decide +kernel) sL_cod sIM_cod sSE_cod (vk_recv (adK := fun i => ad (1000000003 + i)) hP.2.1 hi va_S.rf) hP.self rfl hlr.1 rfl (by show 1 + 0 ≤ 8; decide) dJ0_length_8abf5_6 ⟨Nat.le_refl _, Nat.le_refl _⟩ (Nat.le_refl _) (Nat.le_refl _) ?_
  refine lv_ishr hx hb dJ0_length_8abf5_9 ?_
  rw [q2]
  exact W.iret hx hb hret (fun t ht hW => ⟨rfl, ht⟩) (fun q h => absurd h List.not_mem_nil) dJ0_length_8abf5_10 hlk
theorem str_get {i : Nat} {j : Int32} (hi : i < 12) (hj : ¬ (j < 0 ∨ (tstr i).length ≤ j.toNatClampNeg)) : (((((strT.getD i []).getD j.toNatClampNeg 0) &&& 255).toUInt32 % 65536).toInt32 = (tstr i).getD j.toNatClampNeg 0) ∧ narrow .char (.int ((tstr i).getD j.toNatClampNeg 0)) = .int ((tstr i).getD j.toNatClampNeg 0) ∧ j < Int32.ofNat (tstr i).length := by
  obtain ⟨q1, q2, q3, q4⟩ := str_len i hi
  have hlt : j.toNatClampNeg < (tstr i).length := by
    by_cases h : (tstr i).length ≤ j.toNatClampNeg
    · exact absurd (Or.inr h) hj
    · omega
  have h0 : ¬ j < 0 := fun h => hj (Or.inl h)
  have hm : tstr i ∈ strT := by
    unfold tstr
    rw [List.getD_eq_getElem?_getD, List.getElem?_eq_getElem q4]
    exact List.getElem_mem q4
  have h1 := List.all_eq_true.mp (List.all_eq_true.mp str_fit _ hm) ((tstr i).getD j.toNatClampNeg 0) (by
    rw [List.getD_eq_getElem?_getD, List.getElem?_eq_getElem hlt]
    exact List.getElem_mem hlt)
  have h2 := of_decide_eq_true h1
  refine ⟨h2.1, congrArg Value.int h2.2, ?_⟩
  have e1 : j.toInt = (j.toNatClampNeg : Int) := by
    have hz0 : (0 : Int) ≤ j.toInt := by
      have := Int32.not_lt.mp h0
      simpa using Int32.le_iff_toInt_le.mp this
    show j.toInt = ((j.toInt.toNat : Nat) : Int)
    omega
  rw [Int32.lt_iff_toInt_lt, e1, Int32.toInt_ofNat_of_lt (by omega)]
  exact_mod_cast hlt
theorem s_slc {l : Launch} {base i : Nat} {ad adV : Nat → Nat} {j : Int32} (hi : i < 12) (hj : ¬ (j < 0 ∨ (tstr i).length ≤ j.toNatClampNeg)) : sMet l yJ1_charAt_3b067 cJ1_charAt_3b067 2 (some .char) 2 43 base ad adV [.ref (adV i), .int j] (some (.int ((tstr i).getD j.toNatClampNeg 0))) := by
  refine sMet.of (by decide +kernel) (Nat.le_refl _) ?_
  intro p e s m below meth c real hx hb hml hown hts hret hlk hP hlr
  have hown' : s.vm.findClass RJ1 = some m.cls := hown
  have hl0 : real[0]? = some (.val (.ref (adV i))) := hlr.2.2 (0, _) List.mem_cons_self
  have hl1 : real[1]? = some (.val (.int j)) := hlr.2.2 (1, _) (List.mem_cons_of_mem _ List.mem_cons_self)
  obtain ⟨q1, q2, q3, q4⟩ := str_len i hi
  obtain ⟨g1, g2, g3⟩ := str_get hi hj
  refine lv_iload_n hx hb dJ1_charAt_3b067_0 (i := 1) rfl hl1 ?_
  refine lv_aload_n hx hb dJ1_charAt_3b067_1 (i := 0) rfl hl0 ?_
  refine va_tlen hx hb (hP.2.1.1 i hi).2.2.2 va_S.rf (congrArg Int32.ofNat q1) dJ1_charAt_3b067_2 ?_
  refine s_callS (n := 2) (As := [.int j, .int (Int32.ofNat (tstr i).length)]) (rest := []) ⟨hx, hb, hml, hown', hts⟩ (s_sci (fun h => hj (Or.inl h)) g3) sCD_sci sI0 ⟨by decide +kernel, by decide +kernel⟩ (by decide +kernel) sL_sci sST_sci hP.self rfl hlr.1 rfl (by decide) dJ1_charAt_3b067_3 ⟨Nat.le_refl _, Nat.le_refl _⟩ (Nat.le_refl _) (Nat.le_refl _) ?_
  refine lv_aload_n hx hb dJ1_charAt_3b067_6 (i := 0) rfl hl0 ?_
  refine lv_iload_n hx hb dJ1_charAt_3b067_7 (i := 1) rfl hl1 ?_
  refine va_tb hx hb (hP.2.1.1 i hi).2.2.2 va_S.rf (i := j) (by rw [q1]; exact hj) rfl dJ1_charAt_3b067_8 ?_
  refine lv_sipush hx hb dJ1_charAt_3b067_9 (v := 255) (by decide) ?_
  refine lv_iand hx hb dJ1_charAt_3b067_12 ?_
  refine lv_i2c hx hb dJ1_charAt_3b067_13 g1 ?_
  exact W.zret hx hb hret g2 (fun t ht hW => ⟨rfl, ht⟩) (fun q h => absurd h List.not_mem_nil) dJ1_charAt_3b067_14 hlk
theorem s_cha {l : Launch} {base i : Nat} {ad adV : Nat → Nat} {j : Int32} (hi : i < 12) (hj : ¬ (j < 0 ∨ (tstr i).length ≤ j.toNatClampNeg)) : sMet l yJ0_charAt_5068e cJ0_charAt_5068e 2 (some .char) 3 64 base ad adV [.ref (ad (1000000003 + i)), .int j] (some (.int ((tstr i).getD j.toNatClampNeg 0))) := by
  refine sMet.of (by decide +kernel) (Nat.le_refl _) ?_
  intro p e s m below meth c real hx hb hml hown hts hret hlk hP hlr
  have hown' : s.vm.findClass RJ0 = some m.cls := hown
  have hl0 : real[0]? = some (.val (.ref (ad (1000000003 + i)))) := hlr.2.2 (0, _) List.mem_cons_self
  have hl1 : real[1]? = some (.val (.int j)) := hlr.2.2 (1, _) (List.mem_cons_of_mem _ List.mem_cons_self)
  obtain ⟨g1, g2, g3⟩ := str_get hi hj
  refine lv_aload_n hx hb dJ0_charAt_5068e_0 (i := 0) rfl hl0 ?_
  refine s_callV (n := 0) (As := []) (b := ad (1000000003 + i)) (rest := []) ⟨hx, hb, hml, hown', hts⟩ (s_lat hi) sCD_lat sI0 ⟨by decide +kernel, by decide +kernel⟩ (by decide +kernel) sL_lat sIM_lat sSE_lat (vk_recv (adK := fun i => ad (1000000003 + i)) hP.2.1 hi va_S.rf) hP.self rfl hlr.1 rfl (by decide) dJ0_charAt_5068e_1 ⟨by show 0 + 1 ≤ 3; decide, by show 8 + (1 + 11) + 0 ≤ 64; decide⟩ (Nat.le_refl _) (Nat.le_refl _) ?_
  refine lv_if_eq hx hb dJ0_charAt_5068e_4 (tgt := 16) rfl (fun z => absurd z (by decide)) (fun _ => ?_)
  refine lv_aload_n hx hb dJ0_charAt_5068e_7 (i := 0) rfl hl0 ?_
  refine vk_getf hx hb (hP.2.1.1 i hi).2.2.1 va_S.rf hown' (hts _ sF_va) (fun _ z => z) dJ0_charAt_5068e_8 ?_
  refine lv_iload_n hx hb dJ0_charAt_5068e_11 (i := 1) rfl hl1 ?_
  refine s_callS (n := 2) (As := [.ref (adV i), .int j]) (rest := []) ⟨hx, hb, hml, hown', hts⟩ (s_slc hi hj) sCD_slc sI1 ⟨by decide +kernel, by decide +kernel⟩ (by decide +kernel) sL_slc sST_slc hP.self rfl hlr.1 rfl (by decide) dJ0_charAt_5068e_12 ⟨Nat.le_refl _, Nat.le_refl _⟩ (Nat.le_refl _) (Nat.le_refl _) ?_
  exact W.zret hx hb hret g2 (fun t ht hW => ⟨rfl, ht⟩) (fun q h => absurd h List.not_mem_nil) dJ0_charAt_5068e_15 hlk
section S13s
variable {p : Program} {l : Launch} {e : Env} {R : Room} {s : State} {mid : MethodId} {args : Array Value} {below : List Frame} {meth : Method} {c : Code} {H : Heap} {locs : List Loc} {cells slots : Nat} {Q : State → Prop}
variable {ad : Nat → Nat} {m pc base k o : Nat} {real : Array Slot} {r : List TV} {D : va_G} {dA : Nat → ClassId} {sc : Nat × (Nat → Int32)}
theorem snd_sPr (hA : tAll sc base ad D dA s s.heap) (hS : va_S (fun q => base ≤ q) s.heap H locs) (hsz : base ≤ s.heap.size) : ∃ adV : Nat → Nat, (∀ U : State, U.heap = H → s.WarmedH U.vm → sPr base ad adV U) ∧ vk_S 12 (strT.map (fun b => b.length)) strT (fun i => ad (1000000003 + i)) adV (fun q => base ≤ q) s s.heap := by
  obtain ⟨-, ⟨adV, h1⟩, -, h3, h4⟩ := hA
  have h0 : sPr base ad adV s := ⟨hsz, h1, h3, h4⟩
  exact ⟨adV, fun U hU hW => h0.step hW (by rw [hU]; exact hS.1) (fun a g1 g2 => by rw [hU]; exact hS.2.1 a g1 g2), h1⟩
theorem snd_strlen (hx : p.tables.exec = Jvm.exec) (hb : c.code = mB m) (hml : c.maxLocals = mL m) (hown' : s.vm.findClass (cNm (mO m)) = some mid.cls) (hts : ∀ w ∈ lw_good, w.before args s = true) (hA : tAll sc base ad D dA s s.heap) (hS : va_S (fun q => base ≤ q) s.heap H locs) (hsz : base ≤ s.heap.size) (hl : real.size = mL m) (hfr : mF m ≤ R.frames) (hlo : mW m ≤ R.locals) (hc0 : cells ≤ R.cells) (hs0 : slots ≤ R.slots)
    (hlk : Cond.methodLink (cNm (mO m)) k yJ0_length_8abf5 ∈ lw_good) (hr : 1000000003 ≤ o ∧ o < 1000000015 ∧ r.length ≤ 4 ∧ 5 ≤ mF m ∧ 91 ≤ mW m) (hd : decode (mB m) pc = .ok (.invokevirtual k, 3))
    (kk : W p l e R s mid args below meth c H locs cells slots Q (F0 mid (pc + 3) real ((vI (Int32.ofNat (tstr (o - 1000000003)).length) :: r).map (tcv ad)))) : W p l e R s mid args below meth c H locs cells slots Q (F0 mid pc real ((vR (some o) :: r).map (tcv ad))) := by
  obtain ⟨h1, h2, h3, h4, h5⟩ := hr
  obtain ⟨i, rfl⟩ : ∃ i, o = 1000000003 + i := ⟨o - 1000000003, by omega⟩
  rw [Nat.add_sub_cancel_left] at kk
  have hi : i < 12 := by omega
  obtain ⟨adV, hpre, hv⟩ := snd_sPr hA hS hsz
  exact s_callV (n := 0) (As := []) (b := ad (1000000003 + i)) (rest := r.map (tcv ad)) ⟨hx, hb, hml, hown', hts⟩ (s_len hi) sCD_len sI0 ⟨by decide +kernel, by decide +kernel⟩ (by decide +kernel) hlk sIM_len sSE_len (vk_recv (adK := fun i => ad (1000000003 + i)) hv hi hS) hpre rfl hl rfl (catsum r h3) hd ⟨by omega, by omega⟩ hc0 hs0 kk
theorem snd_strchar {j : Int32} (hx : p.tables.exec = Jvm.exec) (hb : c.code = mB m) (hml : c.maxLocals = mL m) (hown' : s.vm.findClass (cNm (mO m)) = some mid.cls) (hts : ∀ w ∈ lw_good, w.before args s = true) (hA : tAll sc base ad D dA s s.heap) (hS : va_S (fun q => base ≤ q) s.heap H locs) (hsz : base ≤ s.heap.size) (hl : real.size = mL m) (hfr : mF m ≤ R.frames) (hlo : mW m ≤ R.locals) (hc0 : cells ≤ R.cells) (hs0 : slots ≤ R.slots)
    (hlk : Cond.methodLink (cNm (mO m)) k yJ0_charAt_5068e ∈ lw_good) (hr : 1000000003 ≤ o ∧ o < 1000000015 ∧ r.length ≤ 4 ∧ 5 ≤ mF m ∧ 91 ≤ mW m ∧ ¬ (j < 0 ∨ (tstr (o - 1000000003)).length ≤ j.toNatClampNeg)) (hd : decode (mB m) pc = .ok (.invokevirtual k, 3))
    (kk : W p l e R s mid args below meth c H locs cells slots Q (F0 mid (pc + 3) real ((vI ((tstr (o - 1000000003)).getD j.toNatClampNeg 0) :: r).map (tcv ad)))) : W p l e R s mid args below meth c H locs cells slots Q (F0 mid pc real ((vI j :: vR (some o) :: r).map (tcv ad))) := by
  obtain ⟨h1, h2, h3, h4, h5, h6⟩ := hr
  obtain ⟨i, rfl⟩ : ∃ i, o = 1000000003 + i := ⟨o - 1000000003, by omega⟩
  rw [Nat.add_sub_cancel_left] at kk h6
  have hi : i < 12 := by omega
  obtain ⟨adV, hpre, hv⟩ := snd_sPr hA hS hsz
  exact s_callV (n := 1) (As := [.int j]) (b := ad (1000000003 + i)) (rest := r.map (tcv ad)) ⟨hx, hb, hml, hown', hts⟩ (s_cha hi h6) sCD_cha sI0 ⟨by decide +kernel, by decide +kernel⟩ (by decide +kernel) hlk sIM_cha sSE_cha (vk_recv (adK := fun i => ad (1000000003 + i)) hv hi hS) hpre rfl hl rfl (catsum r h3) hd ⟨by omega, by omega⟩ hc0 hs0 kk
end S13s
