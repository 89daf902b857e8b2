/-! calls and switches, as equations over tA -/
section S16b
variable {sc : Nat × (Nat → Int32)} {m pc len : Nat} {ls st ls' st' li r : List TV} {h h' : TH} {Q : Option TV → TH → Prop} {i : Instr} {bb : ByteArray} {k own ar m' o ci : Nat} {alts : List (Nat × Nat)}
theorem tA_cV (hB : mB m = bb) (hO : mO m = own) (hd : decode bb pc = .ok (.invokevirtual k, 3)) (hc : tlk2 cST own k = some (ar, 0, alts)) (hdr : st.drop ar = vR (some o) :: r) (hr : r.length ≤ 4) (ha : tlk alts ci = some m') (hchk : tchk m m' (vR (some o) :: (st.take ar).reverse) = true) (hini : tini (mL m') (vR (some o) :: (st.take ar).reverse) = li) (hci : tcl h o = some ci) : tA sc m pc ls st h Q = tA sc m' 0 li [] h (fun v h1 => tA sc m (pc + 3) ls (tpu v r) h1 Q) := by
  have hz : tcall m pc ls st h ar 0 alts = some (.inr (.inr (m', vR (some o) :: (st.take ar).reverse, r))) := by
    simp only [tcall]
    rw [hdr]
    dsimp only
    rw [hci]
    dsimp only
    rw [ha]
    dsimp only
    rw [if_pos hr]
  rw [tA_call (tA_inv hB hO hd (fun _ _ _ _ => rfl) (fun _ _ _ => rfl) (fun _ _ _ _ _ => rfl) rfl hc rfl hz) hchk, hini]
theorem tA_cS (hB : mB m = bb) (hO : mO m = own) (hd : decode bb pc = .ok (.invokestatic k, 3)) (hc : tlk2 cST own k = some (ar, 1, alts)) (hr : ar ≤ st.length ∧ (st.drop ar).length ≤ 4) (ha : tlk alts 99 = some m') (hchk : tchk m m' (st.take ar).reverse = true) (hini : tini (mL m') (st.take ar).reverse = li) (hdr : st.drop ar = r) : tA sc m pc ls st h Q = tA sc m' 0 li [] h (fun v h1 => tA sc m (pc + 3) ls (tpu v r) h1 Q) := by
  have hz : tcall m pc ls st h ar 1 alts = some (.inr (.inr (m', (st.take ar).reverse, st.drop ar))) := by
    simp only [tcall]
    rw [ha]
    dsimp only
    rw [if_pos hr]
  rw [tA_call (tA_inv hB hO hd (fun _ _ _ _ => rfl) (fun _ _ _ => rfl) (fun _ _ _ _ _ => rfl) rfl hc rfl hz) hchk, hini, hdr]
theorem tA_cI (hB : mB m = bb) (hO : mO m = own) (hd : decode bb pc = .ok (.invokespecial k, 3)) (hc : tlk2 cST own k = some (ar, 2, alts)) (hdr : st.drop ar = vR (some o) :: r) (hr : r.length ≤ 4) (ha : tlk alts 99 = some m') (hchk : tchk m m' (vR (some o) :: (st.take ar).reverse) = true) (hini : tini (mL m') (vR (some o) :: (st.take ar).reverse) = li) : tA sc m pc ls st h Q = tA sc m' 0 li [] h (fun v h1 => tA sc m (pc + 3) ls (tpu v r) h1 Q) := by
  have hz : tcall m pc ls st h ar 2 alts = some (.inr (.inr (m', vR (some o) :: (st.take ar).reverse, r))) := by
    simp only [tcall]
    rw [hdr, ha]
    dsimp only
    rw [if_pos hr]
  rw [tA_call (tA_inv hB hO hd (fun _ _ _ _ => rfl) (fun _ _ _ => rfl) (fun _ _ _ _ _ => rfl) rfl hc rfl hz) hchk, hini]
theorem tA_cU (hB : mB m = bb) (hO : mO m = own) (hd : decode bb pc = .ok (.invokespecial k, 3)) (hc : tlk2 cST own k = some (ar, 3, alts)) (hdr : st.drop ar = vR (some o) :: r) (hr : r.length ≤ 4) (ha : tlk alts 99 = some m') (hchk : tchk m m' (vR (some o) :: (st.take ar).reverse) = true) (hini : tini (mL m') (vR (some o) :: (st.take ar).reverse) = li) (hci : tcl h o = some ci) : tA sc m pc ls st h Q = tA sc m' 0 li [] h (fun v h1 => tA sc m (pc + 3) ls (tpu v r) h1 Q) := by
  have hz : tcall m pc ls st h ar 3 alts = some (.inr (.inr (m', vR (some o) :: (st.take ar).reverse, r))) := by
    simp only [tcall]
    rw [hdr, ha]
    dsimp only
    rw [hci]
    dsimp only
    rw [if_pos hr]
  rw [tA_call (tA_inv hB hO hd (fun _ _ _ _ => rfl) (fun _ _ _ => rfl) (fun _ _ _ _ _ => rfl) rfl hc rfl hz) hchk, hini]
/-- a call that does its work itself -/
theorem tA_cN {kd mode pc1 : Nat} {h1 : TH} (hB : mB m = bb) (hO : mO m = own) (hd : decode bb pc = .ok (i, 3)) (hn : tnp i) (hj : tnj i) (hh : tnh i) (hv : tinv i = some (kd, k)) (hc : tlk2 cST own k = some (ar, mode, alts)) (hk : tmk mode = kd) (hz : tcall m pc ls st h ar mode alts = some (.inl (pc1, ls', st', h1))) : tA sc m pc ls st h Q = tA sc m pc1 ls' st' h1 Q :=
  tA_next (tA_inv hB hO hd hn hj hh hv hc hk hz)
theorem tA_cC {a0 a1 : Nat} {sp dp n : Int32} (hB : mB m = bb) (hO : mO m = own) (hd : decode bb pc = .ok (.invokestatic k, 3)) (hc : tlk2 cST own k = some (ar, 7, alts)) (hr : r.length ≤ 4 ∧ 1 ≤ mF m ∧ 26 ≤ mW m) : tA sc m pc ls (vI n :: vI dp :: vR (some a1) :: vI sp :: vR (some a0) :: r) h Q = oz (tcpy h a0 a1 sp dp n) (fun h' => tA sc m (pc + 3) ls r h' Q) := by
  have hz : tcall m pc ls (vI n :: vI dp :: vR (some a1) :: vI sp :: vR (some a0) :: r) h ar 7 alts = (tcpy h a0 a1 sp dp n).map (fun h' => .inl (pc + 3, ls, r, h')) := by
    simp only [tcall]
    rw [if_pos hr]
  have e := tA_inv (sc := sc) (ls := ls) hB hO hd (fun _ _ _ _ => rfl) (fun _ _ _ => rfl) (fun _ _ _ _ _ => rfl) rfl hc rfl hz
  cases hq : tcpy h a0 a1 sp dp n with
  | none => rw [hq] at e; exact tA_none e
  | some z => rw [hq] at e; exact tA_next e
theorem tA_cL {o : Nat} (hB : mB m = bb) (hO : mO m = own) (hd : decode bb pc = .ok (.invokevirtual k, 3)) (hc : tlk2 cST own k = some (ar, 5, alts)) (hr : r.length ≤ 4 ∧ 5 ≤ mF m ∧ 91 ≤ mW m) (ho : 1000000003 ≤ o ∧ o < 1000000015) : tA sc m pc ls (vR (some o) :: r) h Q = tA sc m (pc + 3) ls (vI (Int32.ofNat (tstr (o - 1000000003)).length) :: r) h Q := by
  apply tA_next
  apply tA_inv hB hO hd (fun _ _ _ _ => rfl) (fun _ _ _ => rfl) (fun _ _ _ _ _ => rfl) rfl hc rfl
  simp only [tcall]
  rw [if_pos ⟨ho.1, ho.2, hr.1, hr.2.1, hr.2.2⟩]
theorem tA_cA {o : Nat} {j : Int32} (hB : mB m = bb) (hO : mO m = own) (hd : decode bb pc = .ok (.invokevirtual k, 3)) (hc : tlk2 cST own k = some (ar, 6, alts)) (hr : r.length ≤ 4 ∧ 5 ≤ mF m ∧ 91 ≤ mW m) (ho : 1000000003 ≤ o ∧ o < 1000000015) (hj : ¬ (j < 0 ∨ (tstr (o - 1000000003)).length ≤ j.toNatClampNeg)) : tA sc m pc ls (vI j :: vR (some o) :: r) h Q = tA sc m (pc + 3) ls (vI ((tstr (o - 1000000003)).getD j.toNatClampNeg 0) :: r) h Q := by
  apply tA_next
  apply tA_inv hB hO hd (fun _ _ _ _ => rfl) (fun _ _ _ => rfl) (fun _ _ _ _ _ => rfl) rfl hc rfl
  simp only [tcall]
  rw [if_pos ⟨ho.1, ho.2, hr.1, hr.2.1, hr.2.2, hj⟩]
theorem tA_cB (hB : mB m = bb) (hO : mO m = own) (hd : decode bb pc = .ok (.invokevirtual k, 3)) (hc : tlk2 cST own k = some (ar, 8, alts)) (hr : r.length ≤ 4 ∧ 1 ≤ mF m ∧ 22 ≤ mW m) : tA sc m pc ls (vR (some 1000000001) :: r) h Q = oz (tnew h (.inl (0, 4, .inl tfirst)) 4) (fun h' => tA sc m (pc + 3) ls (vR (some h.2.1) :: r) h' Q) := by
  have hz : tcall m pc ls (vR (some 1000000001) :: r) h ar 8 alts = (tnew h (.inl (0, 4, .inl tfirst)) 4).map (fun h' => .inl (pc + 3, ls, vR (some h.2.1) :: r, h')) := by
    simp only [tcall]
    rw [if_pos (by exact ⟨trivial, hr.1, hr.2.1, hr.2.2⟩)]
  have e := tA_inv (sc := sc) (ls := ls) hB hO hd (fun _ _ _ _ => rfl) (fun _ _ _ => rfl) (fun _ _ _ _ _ => rfl) rfl hc rfl hz
  cases hq : tnew h (.inl (0, 4, .inl tfirst)) 4 with
  | none => rw [hq] at e; exact tA_none e
  | some z => rw [hq] at e; exact tA_next e
theorem tA_div {y : Int32} (hB : mB m = bb) (hd : decode bb pc = .ok (i, len)) (hj : tnj i) (hh : tnh i) (hv : tinv i = none) (hr : ∀ (m : Nat) (st : List TV), tret m i st = none) (hp : tpure m i len ls st = if y = 0 then none else some (ls', st')) : tA sc m pc ls st h Q = (¬ y = 0 ∧ tA sc m (pc + len) ls' st' h Q) := by
  by_cases hy : y = 0
  · rw [if_pos hy] at hp
    have e : tstep sc m pc ls st h = none := by
      rw [tstep_d hB hd]
      unfold tins
      rw [hp, hj, hh, hv, hr]
    rw [tA_none e]
    simp [hy]
  · rw [if_neg hy] at hp
    rw [tA_pure hB hd hp]
    simp [hy]
theorem tA_divl {y : Int64} (hB : mB m = bb) (hd : decode bb pc = .ok (i, len)) (hj : tnj i) (hh : tnh i) (hv : tinv i = none) (hr : ∀ (m : Nat) (st : List TV), tret m i st = none) (hp : tpure m i len ls st = if y = 0 then none else some (ls', st')) : tA sc m pc ls st h Q = (¬ y = 0 ∧ tA sc m (pc + len) ls' st' h Q) := by
  by_cases hy : y = 0
  · rw [if_pos hy] at hp
    have e : tstep sc m pc ls st h = none := by
      rw [tstep_d hB hd]
      unfold tins
      rw [hp, hj, hh, hv, hr]
    rw [tA_none e]
    simp [hy]
  · rw [if_neg hy] at hp
    rw [tA_pure hB hd hp]
    simp [hy]
/-- where a switch goes -/
def tswp (x : Int32) (lo : Int) (ts : List Nat) (d : Nat) : Nat := if x.toInt < lo ∨ lo + ts.length ≤ x.toInt then d else ts.getD (x.toInt - lo).toNat d
theorem tA_sw {x : Int32} {dflt lo hi : Int} {offs : Array Int} {ts : List Nat} {d : Nat} (hB : mB m = bb) (hd : decode bb pc = .ok (.tableswitch dflt lo hi offs, len)) (hD : ttg pc dflt = some d) (hO : offs.toList.map (fun o => ttg pc o) = ts.map some) (hl : hi + 1 = lo + ts.length) : tA sc m pc ls (vI x :: st) h Q = tA sc m (tswp x lo ts d) ls st h Q := by
  apply tA_jump hB hd (fun _ _ _ _ => rfl)
  show ttab (vI x :: st) pc dflt lo hi offs = _
  unfold ttab tswp
  dsimp only
  by_cases hc : x.toInt < lo ∨ hi < x.toInt
  · rw [if_pos hc, if_pos (by omega), hD]
    rfl
  · rw [if_neg hc, if_neg (by omega)]
    have hlt : (x.toInt - lo).toNat < ts.length := by omega
    have h1 : (offs.toList.map (fun o => ttg pc o))[(x.toInt - lo).toNat]? = some (some (ts[(x.toInt - lo).toNat])) := by
      rw [hO, List.getElem?_map, List.getElem?_eq_getElem hlt]; rfl
    rw [List.getElem?_map, Array.getElem?_toList] at h1
    cases hq : offs[(x.toInt - lo).toNat]? with
    | none => rw [hq] at h1; cases h1
    | some off =>
      rw [hq] at h1
      have h2 : ttg pc off = some (ts[(x.toInt - lo).toNat]) := Option.some.inj h1
      dsimp only
      rw [h2, List.getD_eq_getElem?_getD, List.getElem?_eq_getElem hlt]
      rfl
theorem tA_lk {x : Int32} {dflt : Int} {ps : Array (Int × Int)} {t : Nat} (hB : mB m = bb) (hd : decode bb pc = .ok (.lookupswitch dflt ps, len)) (hp : (ps.toList.zip (ps.toList.drop 1)).all (fun q => decide (q.1.1 < q.2.1)) = true) (ht : ttg pc (Op.lookupswitch.offset ps.toList dflt x.toInt) = some t) : tA sc m pc ls (vI x :: st) h Q = tA sc m t ls st h Q := by
  apply tA_jump hB hd (fun _ _ _ _ => rfl)
  show tlok (vI x :: st) pc dflt ps = _
  unfold tlok
  dsimp only
  rw [if_pos hp, ht]
  rfl
theorem tA_lk2 {x : Int32} {dflt o0 o1 : Int} {t0 t1 d : Nat} (hB : mB m = bb) (hd : decode bb pc = .ok (.lookupswitch dflt #[(0, o0), (1, o1)], len)) (h0 : ttg pc o0 = some t0) (h1 : ttg pc o1 = some t1) (h2 : ttg pc dflt = some d) : tA sc m pc ls (vI x :: st) h Q = if x = 0 then tA sc m t0 ls st h Q else if x = 1 then tA sc m t1 ls st h Q else tA sc m d ls st h Q := by
  have hp : ((#[(0, o0), (1, o1)] : Array (Int × Int)).toList.zip ((#[(0, o0), (1, o1)] : Array (Int × Int)).toList.drop 1)).all (fun q => decide (q.1.1 < q.2.1)) = true := rfl
  by_cases e0 : x = 0
  · subst e0
    rw [if_pos rfl]
    exact tA_lk hB hd hp (by rw [show Op.lookupswitch.offset (#[(0, o0), (1, o1)] : Array (Int × Int)).toList dflt (0 : Int32).toInt = o0 from by
      show Op.lookupswitch.offset [(0, o0), (1, o1)] dflt _ = _
      rw [Op.lookupswitch.offset_cons, if_pos (by decide)]]; exact h0)
  · rw [if_neg e0]
    by_cases e1 : x = 1
    · subst e1
      rw [if_pos rfl]
      exact tA_lk hB hd hp (by rw [show Op.lookupswitch.offset (#[(0, o0), (1, o1)] : Array (Int × Int)).toList dflt (1 : Int32).toInt = o1 from by
        show Op.lookupswitch.offset [(0, o0), (1, o1)] dflt _ = _
        rw [Op.lookupswitch.offset_cons, if_neg (by decide), Op.lookupswitch.offset_cons, if_pos (by decide)]]; exact h1)
    · rw [if_neg e1]
      exact tA_lk hB hd hp (by rw [show Op.lookupswitch.offset (#[(0, o0), (1, o1)] : Array (Int × Int)).toList dflt x.toInt = dflt from by
        show Op.lookupswitch.offset [(0, o0), (1, o1)] dflt _ = _
        rw [lv_osw (k := 0) e0 (by decide), lv_osw (k := 1) e1 (by decide)]; rfl]; exact h2)
end S16b
