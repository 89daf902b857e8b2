/-! THE START: what the Statement gives at the law's entry, in the tiny machine's words (by program, wip/whole/gen_start.py) -/
theorem ig0 : Cond.instantiable RX0 3 ∈ lw_good := lw_in 431 (by decide +kernel) (by decide +kernel)
theorem ig1 : Cond.instantiable RX1 6 ∈ lw_good := lw_in 179 (by decide +kernel) (by decide +kernel)
theorem ig2 : Cond.instantiable RX2 3 ∈ lw_good := lw_in 376 (by decide +kernel) (by decide +kernel)
theorem ig3 : Cond.instantiable RX3 3 ∈ lw_good := lw_in 411 (by decide +kernel) (by decide +kernel)
theorem ig4 : Cond.instantiable RX4 3 ∈ lw_good := lw_in 451 (by decide +kernel) (by decide +kernel)
theorem ig5 : Cond.instantiable RX5 2 ∈ lw_good := lw_in 864 (by decide +kernel) (by decide +kernel)
theorem ig6 : Cond.instantiable RX6 3 ∈ lw_good := lw_in 421 (by decide +kernel) (by decide +kernel)
theorem ig7 : Cond.instantiable RX7 3 ∈ lw_good := lw_in 441 (by decide +kernel) (by decide +kernel)
theorem ig8 : Cond.instantiable RX8 3 ∈ lw_good := lw_in 208 (by decide +kernel) (by decide +kernel)
theorem ig9 : Cond.instantiable RX9 15 ∈ lw_good := lw_in 84 (by decide +kernel) (by decide +kernel)
theorem ig10 : Cond.instantiable RX10 11 ∈ lw_good := lw_in 76 (by decide +kernel) (by decide +kernel)
theorem ig11 : Cond.instantiable RX11 53 ∈ lw_good := lw_in 1022 (by decide +kernel) (by decide +kernel)
theorem nwC_in : ∀ w ∈ nwC, w ∈ lw_tbl := by
  have e : nwC = ([180, 209, 372, 89, 96, 1624, 1625, 1626, 1627, 1628, 1629, 1630] : List Nat).filterMap (fun i => lw_tbl[i]?) := by decide +kernel
  intro w hw
  rw [e] at hw
  obtain ⟨i, -, hi⟩ := List.mem_filterMap.mp hw
  exact List.mem_of_getElem? hi
theorem nwC_tab : ∀ w ∈ nwC, w.onTables = true := by decide +kernel
theorem sref_in : ∀ i, i < 12 → Cond.stringRef RX1 (strK.getD i ("", 0)).2 (strK.getD i ("", 0)).1 ∈ lw_tbl := by
  intro i hi
  have e : (List.range 12).map (fun i => Cond.stringRef RX1 (strK.getD i ("", 0)).2 (strK.getD i ("", 0)).1) = ([302, 355, 356, 357, 358, 359, 461, 470, 472, 485, 486, 503] : List Nat).filterMap (fun i => lw_tbl[i]?) := by decide +kernel
  have hm : Cond.stringRef RX1 (strK.getD i ("", 0)).2 (strK.getD i ("", 0)).1 ∈ (List.range 12).map (fun i => Cond.stringRef RX1 (strK.getD i ("", 0)).2 (strK.getD i ("", 0)).1) := List.mem_map.mpr ⟨i, List.mem_range.mpr hi, rfl⟩
  rw [e] at hm
  obtain ⟨j, -, hj⟩ := List.mem_filterMap.mp hm
  exact List.mem_of_getElem? hj
theorem ao4_in : Cond.arrayOver (.object RX4) ∈ lw_tbl := List.mem_of_getElem? (i := 99) (by decide +kernel)
theorem ao5_in : Cond.arrayOver (.object RX5) ∈ lw_tbl := List.mem_of_getElem? (i := 206) (by decide +kernel)
theorem lsF_in : Cond.laysStatic RX10 "LAW_AT_FIRST" "[I" ∈ lw_tbl := List.mem_of_getElem? (i := 90) (by decide +kernel)
theorem lsM_in : Cond.laysStatic RX10 "LAW_AT_MOST" "[I" ∈ lw_tbl := List.mem_of_getElem? (i := 551) (by decide +kernel)
theorem lsC_in : Cond.laysStatic RJ0 "COMPACT_STRINGS" "Z" ∈ lw_tbl := List.mem_of_getElem? (i := 316) (by decide +kernel)
theorem lsS_in : Cond.laysStatic RJ3 "SIOOBE_FORMATTER" "Ljava/util/function/BiFunction;" ∈ lw_tbl := List.mem_of_getElem? (i := 332) (by decide +kernel)
theorem iniX_in : Cond.initialized RX10 ∈ lw_tbl := List.mem_of_getElem? (i := 57) (by decide +kernel)
theorem iniS_in : Cond.initialized RJ0 ∈ lw_tbl := List.mem_of_getElem? (i := 63) (by decide +kernel)
theorem iniP_in : Cond.initialized RJ3 ∈ lw_tbl := List.mem_of_getElem? (i := 65) (by decide +kernel)
abbrev nrw : List Cond := flatC (Jvm.Cond.and given_1 narrow_1)
abbrev stm (i : Nat) : Term := .string RX1 (strK.getD i ("", 0)).2
theorem n_ex : ∀ i, i < 12 → Cond.exactly (stm i) "java/lang/String" ∈ nrw := by decide +kernel
theorem n_co : ∀ i, i < 12 → Cond.eq (.field (stm i) "java/lang/String" "coder" "B") (.int 0) ∈ nrw := by decide +kernel
theorem n_ar : ∀ i, i < 12 → Cond.arrayOf (.field (stm i) "java/lang/String" "value" "[B") .byte ∈ nrw := by decide +kernel
theorem n_le : ∀ i, i < 12 → Cond.eq (.length (.field (stm i) "java/lang/String" "value" "[B")) (.int (Int32.ofNat ((strT.map (fun b => b.length)).getD i 0))) ∈ nrw := by decide +kernel
theorem n_el : ∀ i, i < 12 → ∀ j, j < (strT.map (fun b => b.length)).getD i 0 → Cond.eq (.elem (.field (stm i) "java/lang/String" "value" "[B") (.int (Int32.ofNat j))) (.int ((strT.getD i []).getD j 0)) ∈ nrw := by decide +kernel
def nprs : List (Nat × Nat) := [(0, 1), (0, 2), (1, 2), (0, 3), (1, 3), (2, 3), (0, 4), (1, 4), (2, 4), (3, 4), (0, 5), (1, 5), (2, 5), (3, 5), (4, 5), (0, 6), (1, 6), (2, 6), (3, 6), (4, 6), (5, 6), (0, 7), (1, 7), (2, 7), (3, 7), (4, 7), (5, 7), (6, 7), (0, 8), (1, 8), (2, 8), (3, 8), (4, 8), (5, 8), (6, 8), (7, 8), (0, 9), (1, 9), (2, 9), (3, 9), (4, 9), (5, 9), (6, 9), (7, 9), (8, 9), (0, 10), (1, 10), (2, 10), (3, 10), (4, 10), (5, 10), (6, 10), (7, 10), (8, 10), (9, 10), (0, 11), (1, 11), (2, 11), (3, 11), (4, 11), (5, 11), (6, 11), (7, 11), (8, 11), (9, 11), (10, 11)]
theorem n_nq : nprs.map (fun q => Cond.not (Cond.eq (stm q.1) (stm q.2))) = ([143, 152, 153, 162, 163, 164, 172, 173, 174, 175, 184, 185, 186, 187, 188, 196, 197, 198, 199, 200, 201, 211, 212, 213, 214, 215, 216, 217, 224, 225, 226, 227, 228, 229, 230, 231, 240, 241, 242, 243, 244, 245, 246, 247, 248, 257, 258, 259, 260, 261, 262, 263, 264, 265, 266, 274, 275, 276, 277, 278, 279, 280, 281, 282, 283, 284] : List Nat).filterMap (fun i => nrw[i]?) := by decide +kernel
theorem n_np0 : ∀ i, i < 12 → ∀ j, j < 12 → (Nat.beq i j || nprs.any (fun q => Nat.beq q.1 i && Nat.beq q.2 j) || nprs.any (fun q => Nat.beq q.1 j && Nat.beq q.2 i)) = true := by decide +kernel
theorem n_np1 {i j : Nat} (h : nprs.any (fun q => Nat.beq q.1 i && Nat.beq q.2 j) = true) : (i, j) ∈ nprs := by
  obtain ⟨q, hq, e⟩ := List.any_eq_true.mp h
  rw [Bool.and_eq_true] at e
  have e1 : q.1 = i := Nat.eq_of_beq_eq_true e.1
  have e2 : q.2 = j := Nat.eq_of_beq_eq_true e.2
  rw [← e1, ← e2]
  exact hq
theorem n_np (i : Nat) (hi : i < 12) (j : Nat) (hj : j < 12) (hne : i ≠ j) : (i, j) ∈ nprs ∨ (j, i) ∈ nprs := by
  have h := n_np0 i hi j hj
  rw [Bool.or_eq_true, Bool.or_eq_true] at h
  rcases h with (h | h) | h
  · exact absurd (Nat.eq_of_beq_eq_true h) hne
  · exact Or.inl (n_np1 h)
  · exact Or.inr (n_np1 h)
theorem n_ne (i : Nat) (hi : i < 12) (j : Nat) (hj : j < 12) (hne : i ≠ j) : Cond.not (Cond.eq (stm i) (stm j)) ∈ nrw ∨ Cond.not (Cond.eq (stm j) (stm i)) ∈ nrw := by
  have key : ∀ q ∈ nprs, Cond.not (Cond.eq (stm q.1) (stm q.2)) ∈ nrw := by
    intro q hq
    have hm : Cond.not (Cond.eq (stm q.1) (stm q.2)) ∈ nprs.map (fun q => Cond.not (Cond.eq (stm q.1) (stm q.2))) := List.mem_map.mpr ⟨q, hq, rfl⟩
    rw [n_nq] at hm
    obtain ⟨k, -, hk⟩ := List.mem_filterMap.mp hm
    exact List.mem_of_getElem? hk
  exact (n_np i hi j hj hne).imp (key (i, j)) (key (j, i))
theorem tlen_small {args : Array Value} {s : State} {t : Term} {b : Nat} {cell : Cell} {v : Value} (ht : t.eval args s none [] s = some (.ref b)) (ha : s.arrayAt? b = some cell) (hv : (Term.length t).eval args s none [] s = some v) : cell.slots.size < 2 ^ 31 := by
  simp only [Term.eval, ht, ha, Option.bind_eq_bind, Option.bind_some] at hv
  by_cases hlt : cell.slots.size < 2147483648
  · exact hlt
  · simp [hlt] at hv
theorem n_nc : ∀ q ∈ ncC, Cond.not (.castable q.1 q.2) ∈ nrw := by decide +kernel
abbrev ftm : Term := .static RX10 "LAW_AT_FIRST" "[I"
abbrev mtm : Term := .static RX10 "LAW_AT_MOST" "[I"
theorem n_f1 : Cond.arrayOf ftm .int ∈ nrw := by decide +kernel
theorem n_f2 : Cond.eq (.length ftm) (.int 4) ∈ nrw := by decide +kernel
theorem n_f3 : ∀ j, j < 4 → Cond.eq (.elem ftm (.int (Int32.ofNat j))) (.int (tfirst j)) ∈ nrw := by decide +kernel
theorem n_f4 : Cond.exactly ftm "[I" ∈ nrw := by decide +kernel
theorem n_m1 : Cond.arrayOf mtm .int ∈ nrw := by decide +kernel
theorem n_m2 : Cond.eq (.length mtm) (.int 4) ∈ nrw := by decide +kernel
theorem n_m3 : ∀ j, j < 4 → Cond.eq (.elem mtm (.int (Int32.ofNat j))) (.int (tmost j)) ∈ nrw := by decide +kernel
theorem n_cs : Cond.eq (.static RJ0 "COMPACT_STRINGS" "Z") (.int 1) ∈ nrw := by decide +kernel
theorem n_sf : Cond.isRef (.static RJ3 "SIOOBE_FORMATTER" "Ljava/util/function/BiFunction;") ∈ nrw := by decide +kernel
def tadx (base b t1 t2 : Nat) (adK : Nat → Nat) (k : Nat) : Nat := if k < 1000000000 then base + k else if k = 1000000000 then b else if k = 1000000001 then t1 else if k = 1000000002 then t2 else adK (k - 1000000003)
theorem tadx_s {base b t1 t2 : Nat} {adK : Nat → Nat} (i : Nat) : tadx base b t1 t2 adK (1000000003 + i) = adK i := by
  unfold tadx
  rw [if_neg (by omega), if_neg (by omega), if_neg (by omega), if_neg (by omega), Nat.add_sub_cancel_left]
set_option maxHeartbeats 4000000 in
theorem tstart {s : State} {b L : Nat} {xs : Nat → Int32} (hts : ∀ w ∈ lw_tbl, w.before #[Value.ref b] s = true) (hX : va_X b L xs s s.heap) (hbl : b < s.heap.size) (hgv : (Jvm.Cond.and given_1 narrow_1).before #[Value.ref b] s = true) : ∃ (ad : Nat → Nat) (D : va_G) (dA : Nat → ClassId), (∀ k, k < 1000000000 → ad k = s.heap.size + k) ∧ ad 1000000000 = b ∧ tAll (L, xs) s.heap.size ad D dA s s.heap := by
  have hs := flat_of_before _ hgv
  have hA : ∀ a : Nat, a < s.heap.size → ¬ s.heap.size ≤ a := fun a h => Nat.not_le.mpr h
  have hg : ∀ w ∈ lw_good, w.before #[Value.ref b] s = true := fun w hw => hts w (List.mem_filter.mp hw).1
  obtain ⟨c0, i0, k0⟩ := u_known (C := RX0) (T := TX0) (N := 3) (n := 3) hg inG0 (hg _ ig0)
  obtain ⟨c1, i1, k1⟩ := u_known (C := RX1) (T := TX1) (N := 6) (n := 6) hg inG1 (hg _ ig1)
  obtain ⟨c2, i2, k2⟩ := u_known (C := RX2) (T := TX2) (N := 3) (n := 3) hg inG2 (hg _ ig2)
  obtain ⟨c3, i3, k3⟩ := u_known (C := RX3) (T := TX3) (N := 3) (n := 3) hg inG3 (hg _ ig3)
  obtain ⟨c4, i4, k4⟩ := u_known (C := RX4) (T := TX4) (N := 3) (n := 3) hg inG4 (hg _ ig4)
  obtain ⟨c5, i5, k5⟩ := u_known (C := RX5) (T := TX5) (N := 2) (n := 2) hg inG5 (hg _ ig5)
  obtain ⟨c6, i6, k6⟩ := u_known (C := RX6) (T := TX6) (N := 3) (n := 3) hg inG6 (hg _ ig6)
  obtain ⟨c7, i7, k7⟩ := u_known (C := RX7) (T := TX7) (N := 3) (n := 3) hg inG7 (hg _ ig7)
  obtain ⟨c8, i8, k8⟩ := u_known (C := RX8) (T := TX8) (N := 3) (n := 3) hg inG8 (hg _ ig8)
  obtain ⟨c9, i9, k9⟩ := u_known (C := RX9) (T := TX9) (N := 15) (n := 15) hg inG9 (hg _ ig9)
  obtain ⟨c10, i10, k10⟩ := u_known (C := RX10) (T := TX10) (N := 11) (n := 11) hg inG10 (hg _ ig10)
  obtain ⟨c11, i11, k11⟩ := u_known (C := RX11) (T := TX11) (N := 53) (n := 53) hg inG11 (hg _ ig11)
  obtain ⟨dC, dI, hKc⟩ : ∃ (dC : Nat → ClassId) (dI : Nat → Nat → Nat), ∀ (k : Nat) (q : vw_C), vwCl[k]? = some q → u_Kn s q.1 q.2.1 q.2.2 (dC k) (dI k) := by
    refine ⟨fun k => ([c0, c1, c2, c3, c4, c5, c6, c7, c8, c9, c10, c11] : List ClassId).getD k c0, fun k => ([i0, i1, i2, i3, i4, i5, i6, i7, i8, i9, i10, i11] : List (Nat → Nat)).getD k i0, ?_⟩
    intro k q hq
    match k, hq with
    | 0, hq => cases hq; exact k0
    | 1, hq => cases hq; exact k1
    | 2, hq => cases hq; exact k2
    | 3, hq => cases hq; exact k3
    | 4, hq => cases hq; exact k4
    | 5, hq => cases hq; exact k5
    | 6, hq => cases hq; exact k6
    | 7, hq => cases hq; exact k7
    | 8, hq => cases hq; exact k8
    | 9, hq => cases hq; exact k9
    | 10, hq => cases hq; exact k10
    | 11, hq => cases hq; exact k11
    | k + 12, hq => cases hq
  have arrT : ∀ (cA : ClassId) (kA : Class) (comp : ClassId) (ty : FieldType), s.vm.classes[cA]? = some kA → kA.kind = .array comp ty → ArrOfT s cA ty := fun cA kA comp ty h1 h2 n z => ⟨fun k h => (by cases h), kA, h1, comp, h2⟩
  obtain ⟨a0, ka0, m0, p01, p02, p03⟩ := Cond.arrayClass_spec (hg _ arr0_ok)
  obtain ⟨a1, ka1, m1, p11, p12, p13⟩ := Cond.arrayClass_spec (hg _ arr1_ok)
  obtain ⟨a2, ka2, m2, p21, p22, p23⟩ := Cond.arrayClass_spec (hg _ arr2_ok)
  have hAO4 : va_AO RX4 s := va_AO.of (hts _ ao4_in)
  have hAO5 : va_AO RX5 s := va_AO.of (hts _ ao5_in)
  obtain ⟨m3, a3, ka3, p31, p32, p33, p34, p35⟩ := Cond.arrayOver_spec hAO4
  obtain ⟨m4, a4, ka4, p41, p42, p43, p44, p45⟩ := Cond.arrayOver_spec hAO5
  obtain ⟨t1, ht1, hT1⟩ := va_Tof (f := fun j => .int (tfirst j)) (A := fun q => s.heap.size ≤ q) (by decide) (hs _ n_f1) (va_eqt (hs _ n_f2)) (fun j hj => va_eqt (hs _ (n_f3 j hj))) hA
  obtain ⟨t2, ht2, hT2⟩ := va_Tof (f := fun j => .int (tmost j)) (A := fun q => s.heap.size ≤ q) (by decide) (hs _ n_m1) (va_eqt (hs _ n_m2)) (fun j hj => va_eqt (hs _ (n_m3 j hj))) hA
  have hZ1 := va_Zof (A := fun q => s.heap.size ≤ q) (hts _ lsF_in) (hts _ iniX_in) ht1 hA
  have hZ2 := va_Zof (A := fun q => s.heap.size ≤ q) (hts _ lsM_in) (hts _ iniX_in) ht2 hA
  have hZ3 := va_Zof (A := fun q => s.heap.size ≤ q) (hts _ lsC_in) (hts _ iniS_in) (va_eqi (hs _ n_cs)) hA
  have hZ4 := va_Zqof (A := fun q => s.heap.size ≤ q) (hts _ lsS_in) (hts _ iniP_in) (hs _ n_sf) hA
  obtain ⟨adK, adV, hVS, hVR⟩ := vk_Sof (N := 12) (tm := stm) (len := strT.map (fun b => b.length)) (byt := strT) (A := fun q => s.heap.size ≤ q) (by decide +kernel) (fun i hi => hs _ (n_ex i hi)) (fun i hi => hs _ (n_co i hi)) (fun i hi => hs _ (n_ar i hi)) (fun i hi => hs _ (n_le i hi)) (fun i hi j hj => hs _ (n_el i hi j hj)) (fun i j hi hj hne => (n_ne i hi j hj hne).imp (fun z => hs _ z) (fun z => hs _ z)) hA
  have hF1 : tF1 t1 s.heap.size s s.heap := by
    obtain ⟨cell, g1, g2, g3, g4, g5, g6, g7⟩ := hT1
    obtain ⟨a, cc, cell2, kk, e1, e2, e3, e4, e5, e6, -⟩ := Cond.exactly_spec (args := #[Value.ref b]) (first := s) (o := none) (s := s) (idx := []) (hs _ n_f4)
    cases ht1.symm.trans e1
    cases g1.symm.trans e3
    obtain ⟨t', cell3, u1, u2, u3⟩ := Term.length_spec (va_eqt (hs _ n_f2))
    cases ht1.symm.trans u1
    obtain ⟨u4, -, -, -⟩ := State.arrayAt?_spec u2
    cases g1.symm.trans u4
    have hsz : cell.slots.size < 2 ^ 31 := tlen_small ht1 u2 (va_eqt (hs _ n_f2))
    have hsize : cell.slots.size = 4 := by
      have h1 : nI cell.slots.size = nI 4 := g5
      exact (nI_eq hsz (by decide)).mp h1
    refine ⟨cell, g1, g2, g3, ?_, by rw [e6]; exact e2, (Array.getElem?_eq_some_iff.mp g1).1⟩
    apply Array.ext_getElem?
    intro i
    match i with
    | 0 => rw [g6 0 (by decide)]; rfl
    | 1 => rw [g6 1 (by decide)]; rfl
    | 2 => rw [g6 2 (by decide)]; rfl
    | 3 => rw [g6 3 (by decide)]; rfl
    | i + 4 => rw [Array.getElem?_eq_none (by omega), Array.getElem?_eq_none (by simp)]
  refine ⟨tadx s.heap.size b t1 t2 adK, (dC, dI), fun t => ([a0, a1, a2, a3, a4] : List ClassId).getD t a0, fun k hk => by simp [tadx, hk], by simp [tadx], ⟨⟨?_, ?_, ?_, ?_, ?_, ?_, ?_, ?_, ?_, hAO4, hAO5, ?_⟩, ⟨⟨adV, ?_⟩, ?_, hZ3, hZ4⟩⟩⟩
  · refine ⟨hKc, fun k q hk => ?_⟩
    match k, hk with
    | 0, hk => cases hk; exact ⟨arrT _ _ _ _ p02 p03, p01⟩
    | 1, hk => cases hk; exact ⟨arrT _ _ _ _ p12 p13, p11⟩
    | 2, hk => cases hk; exact ⟨arrT _ _ _ _ p22 p23, p21⟩
    | 3, hk => cases hk; exact ⟨arrT _ _ _ _ p33 p34, ka3, m3, p33, p34, p31, p35⟩
    | 4, hk => cases hk; exact ⟨arrT _ _ _ _ p43 p44, ka4, m4, p43, p44, p41, p45⟩
    | k + 5, hk => cases hk
  · exact hX
  · exact hbl
  · exact hZ1
  · exact hT1
  · exact hZ2
  · exact hT2
  · exact fun w hw => va_Nw.of (nwC_tab w hw) (hts w (nwC_in w hw))
  · exact fun q hq => va_Nc.of (hs _ (n_nc q hq))
  · exact hF1
  · have e : (fun i => tadx s.heap.size b t1 t2 adK (1000000003 + i)) = adK := by
      funext i
      exact tadx_s i
    rw [e]
    exact hVS
  · intro i hi
    rw [tadx_s]
    exact vk_R.of (hts _ (sref_in i hi)) (hVR i hi)
