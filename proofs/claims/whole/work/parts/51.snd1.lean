/-! THE TINY MACHINE IS TRUE, 1: values, locals, what touches locals and stack, branches -/
def tad (base : Nat) (ext : Nat → Nat) (k : Nat) : Nat := if k < 1000000000 then base + k else ext (k - 1000000000)
def tcv (ad : Nat → Nat) : TV → Value
  | .inl x => .int x
  | .inr (.inl x) => .long x
  | .inr (.inr (.inl r)) => va_rf (r.map ad)
  | .inr (.inr (.inr _)) => .retAddr 0
theorem tlk2_mem {α : Type} {l : List (Nat × Nat × α)} {o k : Nat} {a : α} (h : tlk2 l o k = some a) : (o, k, a) ∈ l := by
  unfold tlk2 at h
  cases hf : l.find? (fun e => Nat.beq e.1 o && Nat.beq e.2.1 k) with
  | none => rw [hf] at h; cases h
  | some e =>
    rw [hf] at h
    have h1 := List.find?_some hf
    have h2 := List.mem_of_find?_eq_some hf
    simp only [Bool.and_eq_true] at h1
    have e1 : e.1 = o := Nat.eq_of_beq_eq_true h1.1
    have e2 : e.2.1 = k := Nat.eq_of_beq_eq_true h1.2
    have e3 : e.2.2 = a := Option.some.inj h
    rw [← e1, ← e2, ← e3]
    exact h2
theorem tlk_mem {α : Type} {l : List (Nat × α)} {k : Nat} {a : α} (h : tlk l k = some a) : (k, a) ∈ l := by
  unfold tlk at h
  cases hf : l.find? (fun e => Nat.beq e.1 k) with
  | none => rw [hf] at h; cases h
  | some e =>
    rw [hf] at h
    have h1 := List.find?_some hf
    have h2 := List.mem_of_find?_eq_some hf
    have e1 : e.1 = k := Nat.eq_of_beq_eq_true h1
    have e3 : e.2 = a := Option.some.inj h
    rw [← e1, ← e3]
    exact h2
/-- the locals as the machine has them -/
def tLR (ad : Nat → Nat) (ls : List TV) (real : Array Slot) (nL : Nat) : Prop := real.size = nL ∧ lv_wf real ∧ ls.length = nL ∧ ∀ (i : Nat) (v : TV), ls[i]? = some v → v ≠ vU → real[i]? = some (.val (tcv ad v))
def tlv1 (ad : Nat → Nat) (i : Nat) : TV → Option (Nat × Value)
  | .inr (.inr (.inr _)) => none
  | v => some (i, tcv ad v)
def tlvl (ad : Nat → Nat) (ls : List TV) : List (Nat × Value) := (List.range ls.length).filterMap (fun i => (ls[i]?).bind (tlv1 ad i))
theorem tlvl_mem {ad : Nat → Nat} {ls : List TV} {i : Nat} {w : Value} : (i, w) ∈ tlvl ad ls ↔ ∃ v : TV, ls[i]? = some v ∧ v ≠ vU ∧ w = tcv ad v := by
  unfold tlvl
  rw [List.mem_filterMap]
  constructor
  · rintro ⟨j, -, hj⟩
    cases hv : ls[j]? with
    | none => simp [hv] at hj
    | some v =>
      rw [hv] at hj
      match v, hv, hj with
      | .inl x, hv, hj => cases hj; exact ⟨_, hv, (by intro q; cases q), rfl⟩
      | .inr (.inl x), hv, hj => cases hj; exact ⟨_, hv, (by intro q; cases q), rfl⟩
      | .inr (.inr (.inl x)), hv, hj => cases hj; exact ⟨_, hv, (by intro q; cases q), rfl⟩
      | .inr (.inr (.inr x)), hv, hj => cases hj
  · rintro ⟨v, hv, hn, rfl⟩
    refine ⟨i, List.mem_range.mpr (List.getElem?_eq_some_iff.mp hv).1, ?_⟩
    rw [hv]
    match v, hn with
    | .inl x, _ => rfl
    | .inr (.inl x), _ => rfl
    | .inr (.inr (.inl x)), _ => rfl
    | .inr (.inr (.inr x)), hn => exact absurd rfl hn
theorem tLR.has {ad : Nat → Nat} {ls : List TV} {real : Array Slot} {nL : Nat} (h : tLR ad ls real nL) : lv_has real nL (tlvl ad ls) := by
  refine ⟨h.1, h.2.1, fun q hq => ?_⟩
  obtain ⟨i, w⟩ := q
  obtain ⟨v, h1, h2, rfl⟩ := tlvl_mem.mp hq
  exact h.2.2.2 i v h1 h2
theorem tcv_cat2 {ad : Nat → Nat} {v : TV} (h : tclr v = v) : (tcv ad v).category = 1 := by
  match v, h with
  | .inl x, _ => rfl
  | .inr (.inl x), h => cases h
  | .inr (.inr (.inl none)), _ => rfl
  | .inr (.inr (.inl (some x))), _ => rfl
  | .inr (.inr (.inr x)), _ => rfl
theorem tclr_or (v : TV) : tclr v = v ∨ tclr v = vU := by
  match v with
  | .inl x => exact Or.inl rfl
  | .inr (.inl x) => exact Or.inr rfl
  | .inr (.inr (.inl x)) => exact Or.inl rfl
  | .inr (.inr (.inr x)) => exact Or.inl rfl
theorem tsto_len (ls : List TV) (k : Nat) (v : TV) : (tsto ls k v).length = ls.length := by
  unfold tsto tclk
  cases k <;> simp
theorem tsto_get {ls : List TV} {k i : Nat} {v w : TV} (h : (tsto ls k v)[i]? = some w) (hw : w ≠ vU) : (i = k ∧ w = v) ∨ (i ≠ k ∧ ls[i]? = some w ∧ ¬ (i + 1 = k ∧ ¬ tclr w = w)) := by
  unfold tsto at h
  by_cases hi : i = k
  · subst hi
    left
    generalize tclk ls i = L at h
    rw [List.getElem?_set] at h
    simp only [if_true] at h
    by_cases hl : i < L.length
    · rw [if_pos hl] at h
      exact ⟨rfl, (Option.some.inj h).symm⟩
    · rw [if_neg hl] at h
      cases h
  · right
    rw [List.getElem?_set_ne (Ne.symm hi)] at h
    cases k with
    | zero => exact ⟨hi, h, fun q => by omega⟩
    | succ j =>
      simp only [tclk] at h
      rw [List.getElem?_modify] at h
      by_cases hj : j = i
      · subst hj
        simp only [if_true] at h
        cases hv : ls[j]? with
        | none => rw [hv] at h; cases h
        | some u =>
          rw [hv] at h
          have e : tclr u = w := Option.some.inj h
          rcases tclr_or u with q | q
          · rw [q] at e
            subst e
            exact ⟨hi, rfl, fun z => z.2 q⟩
          · rw [q] at e
            exact absurd e.symm hw
      · simp only [hj, if_false] at h
        cases hv : ls[i]? with
        | none => rw [hv] at h; cases h
        | some u =>
          rw [hv] at h
          have e : u = w := Option.some.inj h
          subst e
          exact ⟨hi, rfl, fun z => hj (by omega)⟩
theorem tLR.sto1 {ad : Nat → Nat} {ls : List TV} {real real' : Array Slot} {nL k : Nat} {v : TV} (h : tLR ad ls real nL)
    (h' : lv_has real' nL ((k, tcv ad v) :: (tlvl ad ls).filter (fun q => !(q.1 == k) && !(q.1 + 1 == k && q.2.category == 2)))) : tLR ad (tsto ls k v) real' nL := by
  refine ⟨h'.1, h'.2.1, by rw [tsto_len]; exact h.2.2.1, fun i w hi hw => ?_⟩
  rcases tsto_get hi hw with ⟨rfl, rfl⟩ | ⟨hne, hg, hc⟩
  · exact h'.2.2 (i, tcv ad w) List.mem_cons_self
  · refine h'.2.2 (i, tcv ad w) (List.mem_cons_of_mem _ (List.mem_filter.mpr ⟨tlvl_mem.mpr ⟨w, hg, hw, rfl⟩, ?_⟩))
    by_cases hk : i + 1 = k
    · have h1 : tclr w = w := Classical.byContradiction fun q => hc ⟨hk, q⟩
      simp [hne, tcv_cat2 h1]
    · simp [hne, hk]
theorem tLR.sto2 {ad : Nat → Nat} {ls : List TV} {real real' : Array Slot} {nL k : Nat} {v : TV} (h : tLR ad ls real nL)
    (h' : lv_has real' nL ((k, tcv ad v) :: (tlvl ad ls).filter (fun q => !(q.1 == k) && (!(q.1 == k + 1) && !(q.1 + 1 == k && q.2.category == 2))))) : tLR ad ((tsto ls k v).set (k + 1) vU) real' nL := by
  refine ⟨h'.1, h'.2.1, by rw [List.length_set, tsto_len]; exact h.2.2.1, fun i w hi hw => ?_⟩
  by_cases h1 : i = k + 1
  · subst h1
    rw [List.getElem?_set] at hi
    simp only [if_true] at hi
    split at hi
    · exact absurd (Option.some.inj hi).symm hw
    · cases hi
  · rw [List.getElem?_set_ne (Ne.symm h1)] at hi
    rcases tsto_get hi hw with ⟨rfl, rfl⟩ | ⟨hne, hg, hc⟩
    · exact h'.2.2 (i, tcv ad w) List.mem_cons_self
    · refine h'.2.2 (i, tcv ad w) (List.mem_cons_of_mem _ (List.mem_filter.mpr ⟨tlvl_mem.mpr ⟨w, hg, hw, rfl⟩, ?_⟩))
      by_cases hk : i + 1 = k
      · have h2 : tclr w = w := Classical.byContradiction fun q => hc ⟨hk, q⟩
        simp [hne, h1, tcv_cat2 h2]
      · simp [hne, h1, hk]
-- what a step was, read backwards
theorem inv_I2 {ls st ls' st' : List TV} {len : Nat} {f : Int32 → Int32 → Int32} (h : (if len = 1 then tI2 ls st f else none) = some (ls', st')) : len = 1 ∧ ∃ a b r, st = vI b :: vI a :: r ∧ ls' = ls ∧ st' = vI (f a b) :: r := by
  split at h
  · refine ⟨by assumption, ?_⟩
    unfold tI2 at h
    split at h
    · cases h; exact ⟨_, _, _, rfl, rfl, rfl⟩
    · cases h
  · cases h
theorem inv_D2 {ls st ls' st' : List TV} {len : Nat} {f : Int32 → Int32 → Int32} (h : (if len = 1 then tD2 ls st f else none) = some (ls', st')) : len = 1 ∧ ∃ a b r, st = vI b :: vI a :: r ∧ ls' = ls ∧ st' = vI (f a b) :: r ∧ ¬ b = 0 := by
  split at h
  · refine ⟨by assumption, ?_⟩
    unfold tD2 at h
    split at h
    · split at h
      · cases h
      · cases h; exact ⟨_, _, _, rfl, rfl, rfl, by assumption⟩
    · cases h
  · cases h
theorem inv_L2 {ls st ls' st' : List TV} {len : Nat} {f : Int64 → Int64 → Int64} (h : (if len = 1 then tL2 ls st f else none) = some (ls', st')) : len = 1 ∧ ∃ a b r, st = vL b :: vL a :: r ∧ ls' = ls ∧ st' = vL (f a b) :: r := by
  split at h
  · refine ⟨by assumption, ?_⟩
    unfold tL2 at h
    split at h
    · cases h; exact ⟨_, _, _, rfl, rfl, rfl⟩
    · cases h
  · cases h
theorem inv_E2 {ls st ls' st' : List TV} {len : Nat} {f : Int64 → Int64 → Int64} (h : (if len = 1 then tE2 ls st f else none) = some (ls', st')) : len = 1 ∧ ∃ a b r, st = vL b :: vL a :: r ∧ ls' = ls ∧ st' = vL (f a b) :: r ∧ ¬ b = 0 := by
  split at h
  · refine ⟨by assumption, ?_⟩
    unfold tE2 at h
    split at h
    · split at h
      · cases h
      · cases h; exact ⟨_, _, _, rfl, rfl, rfl, by assumption⟩
    · cases h
  · cases h
theorem inv_S2 {ls st ls' st' : List TV} {len : Nat} {f : Int64 → Int32 → Int64} (h : (if len = 1 then tS2 ls st f else none) = some (ls', st')) : len = 1 ∧ ∃ a b r, st = vI b :: vL a :: r ∧ ls' = ls ∧ st' = vL (f a b) :: r := by
  split at h
  · refine ⟨by assumption, ?_⟩
    unfold tS2 at h
    split at h
    · cases h; exact ⟨_, _, _, rfl, rfl, rfl⟩
    · cases h
  · cases h
theorem inv_I1 {ls st ls' st' : List TV} {len : Nat} {f : Int32 → TV} (h : (if len = 1 then tI1 ls st f else none) = some (ls', st')) : len = 1 ∧ ∃ a r, st = vI a :: r ∧ ls' = ls ∧ st' = f a :: r := by
  split at h
  · refine ⟨by assumption, ?_⟩
    unfold tI1 at h
    split at h
    · cases h; exact ⟨_, _, rfl, rfl, rfl⟩
    · cases h
  · cases h
theorem inv_L1 {ls st ls' st' : List TV} {len : Nat} {f : Int64 → TV} (h : (if len = 1 then tL1 ls st f else none) = some (ls', st')) : len = 1 ∧ ∃ a r, st = vL a :: r ∧ ls' = ls ∧ st' = f a :: r := by
  split at h
  · refine ⟨by assumption, ?_⟩
    unfold tL1 at h
    split at h
    · cases h; exact ⟨_, _, rfl, rfl, rfl⟩
    · cases h
  · cases h
theorem inv_ldI {ls st ls' st' : List TV} {len n k : Nat} (h : (if len = n then tldI ls st k else none) = some (ls', st')) : len = n ∧ ∃ x, ls[k]? = some (vI x) ∧ ls' = ls ∧ st' = vI x :: st := by
  split at h
  · refine ⟨by assumption, ?_⟩
    unfold tldI at h
    split at h
    · cases h; exact ⟨_, by assumption, rfl, rfl⟩
    · cases h
  · cases h
theorem inv_ldL {ls st ls' st' : List TV} {len n k : Nat} (h : (if len = n then tldL ls st k else none) = some (ls', st')) : len = n ∧ ∃ x, ls[k]? = some (vL x) ∧ ls' = ls ∧ st' = vL x :: st := by
  split at h
  · refine ⟨by assumption, ?_⟩
    unfold tldL at h
    split at h
    · cases h; exact ⟨_, by assumption, rfl, rfl⟩
    · cases h
  · cases h
theorem inv_ldA {ls st ls' st' : List TV} {len n k : Nat} (h : (if len = n then tldA ls st k else none) = some (ls', st')) : len = n ∧ ∃ x, ls[k]? = some (vR x) ∧ ls' = ls ∧ st' = vR x :: st := by
  split at h
  · refine ⟨by assumption, ?_⟩
    unfold tldA at h
    split at h
    · cases h; exact ⟨_, by assumption, rfl, rfl⟩
    · cases h
  · cases h
theorem inv_st1 {ls st ls' st' : List TV} {len n k : Nat} (h : (if len = n then tst1 ls st k else none) = some (ls', st')) : len = n ∧ ∃ x r, st = vI x :: r ∧ k < ls.length ∧ ls' = tsto ls k (vI x) ∧ st' = r := by
  split at h
  · refine ⟨by assumption, ?_⟩
    unfold tst1 at h
    split at h
    · split at h
      · cases h; exact ⟨_, _, rfl, by assumption, rfl, rfl⟩
      · cases h
    · cases h
  · cases h
theorem inv_stA {ls st ls' st' : List TV} {len n k : Nat} (h : (if len = n then tstA ls st k else none) = some (ls', st')) : len = n ∧ ∃ x r, st = vR x :: r ∧ k < ls.length ∧ ls' = tsto ls k (vR x) ∧ st' = r := by
  split at h
  · refine ⟨by assumption, ?_⟩
    unfold tstA at h
    split at h
    · split at h
      · cases h; exact ⟨_, _, rfl, by assumption, rfl, rfl⟩
      · cases h
    · cases h
  · cases h
theorem inv_st2 {ls st ls' st' : List TV} {len n k : Nat} (h : (if len = n then tst2 ls st k else none) = some (ls', st')) : len = n ∧ ∃ x r, st = vL x :: r ∧ k + 1 < ls.length ∧ ls' = (tsto ls k (vL x)).set (k + 1) vU ∧ st' = r := by
  split at h
  · refine ⟨by assumption, ?_⟩
    unfold tst2 at h
    split at h
    · split at h
      · cases h; exact ⟨_, _, rfl, by assumption, rfl, rfl⟩
      · cases h
    · cases h
  · cases h
theorem inv_1 {ls st ls' st' : List TV} {len n : Nat} {v : TV} (h : (if len = n then some (ls, v :: st) else none) = some (ls', st')) : len = n ∧ ls' = ls ∧ st' = v :: st := by
  split at h
  · cases h; exact ⟨by assumption, rfl, rfl⟩
  · cases h
theorem tis1_cat {ad : Nat → Nat} {v : TV} (h : tis1 v = true) : (tcv ad v).category = 1 := by
  match v, h with
  | .inl x, _ => rfl
  | .inr (.inr (.inl none)), _ => rfl
  | .inr (.inr (.inl (some x))), _ => rfl
section S6
variable {p : Program} {l : Launch} {e : Env} {R : Room} {s : State} {mid : MethodId} {args : Array Value} {below : List Frame} {meth : Method} {c : Code} {H : Heap} {locs : List Loc} {cells slots : Nat} {Q : State → Prop}
variable {ad : Nat → Nat} {m pc len nL : Nat} {real : Array Slot} {i : Instr} {ls st ls' st' : List TV}
/-- what the constants' table says of the machine -/
def tKok (ad : Nat → Nat) (m : Nat) (args : Array Value) (s : State) : Prop := ∀ (k : Nat) (v : TV), tlk2 kNT (mO m) k = some v → match v with
  | .inl x => (Cond.constant (mY m).cls k x).before args s = true
  | .inr (.inl x) => (Cond.constantLong (mY m).cls k x).before args s = true
  | .inr (.inr (.inl (some q))) => ∃ tx : String, vk_R (mY m).cls k tx (ad q) s
  | _ => True
set_option maxHeartbeats 4000000 in
theorem snd_pure (hx : p.tables.exec = Jvm.exec) (hb : c.code = mB m) (hown : s.vm.findClass (mY m).cls = some mid.cls) (hk : tKok ad m args s) (hd : decode (mB m) pc = .ok (i, len)) (hp : tpure m i len ls st = some (ls', st')) (hl : tLR ad ls real nL)
    (kk : ∀ real', tLR ad ls' real' nL → W p l e R s mid args below meth c H locs cells slots Q (F0 mid (pc + len) real' (st'.map (tcv ad)))) : W p l e R s mid args below meth c H locs cells slots Q (F0 mid pc real (st.map (tcv ad))) := by
  cases i
  case iload_n k =>
    obtain ⟨rfl, x, hg, rfl, rfl⟩ := inv_ldI hp
    exact lv_iload_n hx hb hd rfl (hl.2.2.2 _ _ hg (by intro q; cases q)) (kk real hl)
  case iload k =>
    obtain ⟨rfl, x, hg, rfl, rfl⟩ := inv_ldI hp
    exact lv_iload hx hb hd (hl.2.2.2 _ _ hg (by intro q; cases q)) (kk real hl)
  case lload_n k =>
    obtain ⟨rfl, x, hg, rfl, rfl⟩ := inv_ldL hp
    exact lv_lload_n hx hb hd rfl (hl.2.2.2 _ _ hg (by intro q; cases q)) (kk real hl)
  case lload k =>
    obtain ⟨rfl, x, hg, rfl, rfl⟩ := inv_ldL hp
    exact lv_lload hx hb hd (hl.2.2.2 _ _ hg (by intro q; cases q)) (kk real hl)
  case aload_n k =>
    obtain ⟨rfl, x, hg, rfl, rfl⟩ := inv_ldA hp
    cases x with
    | none => exact lv_aload_nN hx hb hd rfl (hl.2.2.2 _ _ hg (by intro q; cases q)) (kk real hl)
    | some x => exact lv_aload_n hx hb hd rfl (hl.2.2.2 _ _ hg (by intro q; cases q)) (kk real hl)
  case aload k =>
    obtain ⟨rfl, x, hg, rfl, rfl⟩ := inv_ldA hp
    cases x with
    | none => exact lv_aloadN hx hb hd (hl.2.2.2 _ _ hg (by intro q; cases q)) (kk real hl)
    | some x => exact lv_aload hx hb hd (hl.2.2.2 _ _ hg (by intro q; cases q)) (kk real hl)
  case istore_n k =>
    obtain ⟨rfl, x, r, rfl, hlt, rfl, rfl⟩ := inv_st1 hp
    exact lv_istore_n hx hb hd rfl hl.has (by rw [← hl.2.2.1]; exact hlt) rfl (fun real' h' => kk real' (hl.sto1 (v := vI x) h'))
  case istore k =>
    obtain ⟨rfl, x, r, rfl, hlt, rfl, rfl⟩ := inv_st1 hp
    exact lv_istore hx hb hd hl.has (by rw [← hl.2.2.1]; exact hlt) rfl (fun real' h' => kk real' (hl.sto1 (v := vI x) h'))
  case lstore_n k =>
    obtain ⟨rfl, x, r, rfl, hlt, rfl, rfl⟩ := inv_st2 hp
    exact lv_lstore_n hx hb hd rfl hl.has (by rw [← hl.2.2.1]; exact hlt) rfl (fun real' h' => kk real' (hl.sto2 (v := vL x) h'))
  case lstore k =>
    obtain ⟨rfl, x, r, rfl, hlt, rfl, rfl⟩ := inv_st2 hp
    exact lv_lstore hx hb hd hl.has (by rw [← hl.2.2.1]; exact hlt) rfl (fun real' h' => kk real' (hl.sto2 (v := vL x) h'))
  case astore_n k =>
    obtain ⟨rfl, x, r, rfl, hlt, rfl, rfl⟩ := inv_stA hp
    cases x with
    | none => exact lv_astore_nN hx hb hd rfl hl.has (by rw [← hl.2.2.1]; exact hlt) rfl (fun real' h' => kk real' (hl.sto1 (v := vR none) h'))
    | some x => exact lv_astore_n hx hb hd rfl hl.has (by rw [← hl.2.2.1]; exact hlt) rfl (fun real' h' => kk real' (hl.sto1 (v := vR (some x)) h'))
  case astore k =>
    obtain ⟨rfl, x, r, rfl, hlt, rfl, rfl⟩ := inv_stA hp
    cases x with
    | none => exact lv_astoreN hx hb hd hl.has (by rw [← hl.2.2.1]; exact hlt) rfl (fun real' h' => kk real' (hl.sto1 (v := vR none) h'))
    | some x => exact lv_astore hx hb hd hl.has (by rw [← hl.2.2.1]; exact hlt) rfl (fun real' h' => kk real' (hl.sto1 (v := vR (some x)) h'))
  case iinc k n =>
    change (if len = 3 then tinc ls st k n else none) = some (ls', st') at hp
    split at hp
    · subst len
      unfold tinc at hp
      split at hp
      · rename_i x hg
        cases hp
        have hm : (k, Value.int x) ∈ tlvl ad ls := tlvl_mem.mpr ⟨vI x, hg, (by intro q; cases q), rfl⟩
        obtain ⟨j, hj⟩ := List.getElem?_of_mem hm
        exact lv_iinc hx hb hd hl.has (k := j) hj rfl (by rw [← hl.2.2.1]; exact (List.getElem?_eq_some_iff.mp hg).1) rfl (fun real' h' => kk real' (hl.sto1 (v := vI (x + Int32.ofInt n)) h'))
      · cases hp
    · cases hp
  case iconst n =>
    obtain ⟨rfl, rfl, rfl⟩ := inv_1 hp
    exact lv_iconst hx hb hd rfl (kk real hl)
  case bipush n =>
    obtain ⟨rfl, rfl, rfl⟩ := inv_1 hp
    exact lv_bipush hx hb hd rfl (kk real hl)
  case sipush n =>
    obtain ⟨rfl, rfl, rfl⟩ := inv_1 hp
    exact lv_sipush hx hb hd rfl (kk real hl)
  case lconst n =>
    obtain ⟨rfl, rfl, rfl⟩ := inv_1 hp
    exact lv_lconst hx hb hd rfl (kk real hl)
  case aconst_null =>
    obtain ⟨rfl, rfl, rfl⟩ := inv_1 hp
    exact lv_null hx hb hd (kk real hl)
  case iadd => obtain ⟨rfl, a, b, r, rfl, rfl, rfl⟩ := inv_I2 hp; exact lv_iadd hx hb hd (kk real hl)
  case isub => obtain ⟨rfl, a, b, r, rfl, rfl, rfl⟩ := inv_I2 hp; exact lv_isub hx hb hd (kk real hl)
  case imul => obtain ⟨rfl, a, b, r, rfl, rfl, rfl⟩ := inv_I2 hp; exact lv_imul hx hb hd (kk real hl)
  case iand => obtain ⟨rfl, a, b, r, rfl, rfl, rfl⟩ := inv_I2 hp; exact lv_iand hx hb hd (kk real hl)
  case ior => obtain ⟨rfl, a, b, r, rfl, rfl, rfl⟩ := inv_I2 hp; exact lv_ior hx hb hd (kk real hl)
  case ixor => obtain ⟨rfl, a, b, r, rfl, rfl, rfl⟩ := inv_I2 hp; exact lv_ixor hx hb hd (kk real hl)
  case ishl => obtain ⟨rfl, a, b, r, rfl, rfl, rfl⟩ := inv_I2 hp; exact lv_ishl hx hb hd (kk real hl)
  case ishr => obtain ⟨rfl, a, b, r, rfl, rfl, rfl⟩ := inv_I2 hp; exact lv_ishr hx hb hd (kk real hl)
  case iushr => obtain ⟨rfl, a, b, r, rfl, rfl, rfl⟩ := inv_I2 hp; exact lv_iushr hx hb hd rfl (kk real hl)
  case idiv => obtain ⟨rfl, a, b, r, rfl, rfl, rfl, hne⟩ := inv_D2 hp; exact lv_idiv hx hb hd hne (kk real hl)
  case irem => obtain ⟨rfl, a, b, r, rfl, rfl, rfl, hne⟩ := inv_D2 hp; exact lv_irem hx hb hd hne (kk real hl)
  case ineg => obtain ⟨rfl, a, r, rfl, rfl, rfl⟩ := inv_I1 hp; exact lv_ineg hx hb hd (kk real hl)
  case i2l => obtain ⟨rfl, a, r, rfl, rfl, rfl⟩ := inv_I1 hp; exact lv_i2l hx hb hd rfl (kk real hl)
  case i2b => obtain ⟨rfl, a, r, rfl, rfl, rfl⟩ := inv_I1 hp; exact lv_i2b hx hb hd rfl (kk real hl)
  case i2s => obtain ⟨rfl, a, r, rfl, rfl, rfl⟩ := inv_I1 hp; exact lv_i2s hx hb hd rfl (kk real hl)
  case l2i => obtain ⟨rfl, a, r, rfl, rfl, rfl⟩ := inv_L1 hp; exact lv_l2i hx hb hd rfl (kk real hl)
  case lneg => obtain ⟨rfl, a, r, rfl, rfl, rfl⟩ := inv_L1 hp; exact lv_lneg hx hb hd (kk real hl)
  case ladd => obtain ⟨rfl, a, b, r, rfl, rfl, rfl⟩ := inv_L2 hp; exact lv_ladd hx hb hd (kk real hl)
  case lsub => obtain ⟨rfl, a, b, r, rfl, rfl, rfl⟩ := inv_L2 hp; exact lv_lsub hx hb hd (kk real hl)
  case lmul => obtain ⟨rfl, a, b, r, rfl, rfl, rfl⟩ := inv_L2 hp; exact lv_lmul hx hb hd (kk real hl)
  case land => obtain ⟨rfl, a, b, r, rfl, rfl, rfl⟩ := inv_L2 hp; exact lv_land hx hb hd (kk real hl)
  case lor => obtain ⟨rfl, a, b, r, rfl, rfl, rfl⟩ := inv_L2 hp; exact lv_lor hx hb hd (kk real hl)
  case ldiv => obtain ⟨rfl, a, b, r, rfl, rfl, rfl, hne⟩ := inv_E2 hp; exact lv_ldiv hx hb hd hne (kk real hl)
  case lrem => obtain ⟨rfl, a, b, r, rfl, rfl, rfl, hne⟩ := inv_E2 hp; exact lv_lrem hx hb hd hne (kk real hl)
  case lshl => obtain ⟨rfl, a, b, r, rfl, rfl, rfl⟩ := inv_S2 hp; exact lv_lshl hx hb hd rfl (kk real hl)
  case lshr => obtain ⟨rfl, a, b, r, rfl, rfl, rfl⟩ := inv_S2 hp; exact lv_lshr hx hb hd rfl (kk real hl)
  case lushr => obtain ⟨rfl, a, b, r, rfl, rfl, rfl⟩ := inv_S2 hp; exact lv_lushr hx hb hd rfl (kk real hl)
  case lcmp =>
    change (if len = 1 then tlcmp ls st else none) = some (ls', st') at hp
    split at hp
    · subst len
      unfold tlcmp at hp
      split at hp
      · cases hp
        exact W.lcmp hx hb hd (kk real hl)
      · cases hp
    · cases hp
  case dup =>
    change (if len = 1 then tdup ls st else none) = some (ls', st') at hp
    split at hp
    · subst len
      unfold tdup at hp
      split at hp
      · split at hp
        · rename_i h1
          cases hp
          exact lv_dup hx hb hd (tis1_cat h1) (kk real hl)
        · cases hp
      · cases hp
    · cases hp
  case dup2 =>
    change (if len = 1 then tdup2 ls st else none) = some (ls', st') at hp
    split at hp
    · subst len
      unfold tdup2 at hp
      split at hp
      · split at hp
        · rename_i h1
          cases hp
          exact lv_dup2_11 hx hb hd (tis1_cat h1.1) (tis1_cat h1.2) (kk real hl)
        · cases hp
      · cases hp
    · cases hp
  case pop =>
    change (if len = 1 then tpop ls st else none) = some (ls', st') at hp
    split at hp
    · subst len
      unfold tpop at hp
      split at hp
      · split at hp
        · rename_i h1
          cases hp
          exact lv_pop hx hb hd (tis1_cat h1) (kk real hl)
        · cases hp
      · cases hp
    · cases hp
  case ldc k =>
    change (if len = 2 then (match tlk2 kNT (mO m) k with
      | some (.inl x) => some (ls, vI x :: st)
      | some (.inr (.inr (.inl (some q)))) => some (ls, vR (some q) :: st)
      | _ => none) else none) = some (ls', st') at hp
    split at hp
    · subst len
      split at hp
      · rename_i x hg
        cases hp
        exact lv_ldc hx hb hown (hk k _ hg) hd (kk real hl)
      · rename_i q hg
        cases hp
        obtain ⟨tx, hR⟩ := hk k _ hg
        exact va_ldcS hx hb hown hR hd (kk real hl)
      · cases hp
    · cases hp
  case ldc_w k =>
    change (if len = 3 then (match tlk2 kNT (mO m) k with
      | some (.inl x) => some (ls, vI x :: st)
      | _ => none) else none) = some (ls', st') at hp
    split at hp
    · subst len
      split at hp
      · rename_i x hg
        cases hp
        exact lv_ldcw hx hb hown (hk k _ hg) hd (kk real hl)
      · cases hp
    · cases hp
  case ldc2_w k =>
    change (if len = 3 then (match tlk2 kNT (mO m) k with
      | some (.inr (.inl x)) => some (ls, vL x :: st)
      | _ => none) else none) = some (ls', st') at hp
    split at hp
    · subst len
      split at hp
      · rename_i x hg
        cases hp
        exact lv_ldc2 hx hb hown (hk k _ hg) hd (kk real hl)
      · cases hp
    · cases hp
  all_goals exact nomatch (show (none : Option (List TV × List TV)) = some (ls', st') from hp)
theorem ttg_eq {pc t : Nat} {off : Int} (h : ttg pc off = some t) : (pc : Int) + off = (t : Int) := by
  unfold ttg at h
  split at h
  · cases h; omega
  · cases h
theorem inv_if1 {st st' : List TV} {pc t : Nat} {off : Int} {cnd : Int32 → Bool} (h : tif1 st pc off cnd = some (t, st')) : ∃ x r u, st = vI x :: r ∧ st' = r ∧ (pc : Int) + off = (u : Nat) ∧ t = if cnd x = true then u else pc + 3 := by
  unfold tif1 at h
  split at h
  · rename_i x r
    cases hg : ttg pc off with
    | none => rw [hg] at h; cases h
    | some u =>
      rw [hg] at h
      cases h
      exact ⟨x, _, u, rfl, rfl, ttg_eq hg, rfl⟩
  · cases h
theorem inv_if2 {st st' : List TV} {pc t : Nat} {off : Int} {cnd : Int32 → Int32 → Bool} (h : tif2 st pc off cnd = some (t, st')) : ∃ x y r u, st = vI y :: vI x :: r ∧ st' = r ∧ (pc : Int) + off = (u : Nat) ∧ t = if cnd x y = true then u else pc + 3 := by
  unfold tif2 at h
  split at h
  · rename_i y x r
    cases hg : ttg pc off with
    | none => rw [hg] at h; cases h
    | some u =>
      rw [hg] at h
      cases h
      exact ⟨x, y, _, u, rfl, rfl, ttg_eq hg, rfl⟩
  · cases h
theorem inv_ifn {st st' : List TV} {pc t : Nat} {off : Int} {cnd : Option Nat → Bool} (h : tifn st pc off cnd = some (t, st')) : ∃ x r u, st = vR x :: r ∧ st' = r ∧ (pc : Int) + off = (u : Nat) ∧ t = if cnd x = true then u else pc + 3 := by
  unfold tifn at h
  split at h
  · rename_i x r
    cases hg : ttg pc off with
    | none => rw [hg] at h; cases h
    | some u =>
      rw [hg] at h
      cases h
      exact ⟨x, _, u, rfl, rfl, ttg_eq hg, rfl⟩
  · cases h
set_option maxHeartbeats 4000000 in
theorem snd_jump {t : Nat} (hx : p.tables.exec = Jvm.exec) (hb : c.code = mB m) (hd : decode (mB m) pc = .ok (i, len)) (hp : tjump i pc len st = some (t, st'))
    (kk : W p l e R s mid args below meth c H locs cells slots Q (F0 mid t real (st'.map (tcv ad)))) : W p l e R s mid args below meth c H locs cells slots Q (F0 mid pc real (st.map (tcv ad))) := by
  cases i
  case goto off =>
    change (if len = 3 then (ttg pc off).map (fun t => (t, st)) else none) = some (t, st') at hp
    split at hp
    · subst len
      cases hg : ttg pc off with
      | none => rw [hg] at hp; cases hp
      | some u =>
        rw [hg] at hp
        cases hp
        exact lv_goto hx hb hd (ttg_eq hg) kk
    · cases hp
  case ifCond cnd off =>
    cases cnd
    case eq =>
      change (if len = 3 then tif1 st pc off (fun x => decide (x = 0)) else none) = some (t, st') at hp
      split at hp
      · subst len
        obtain ⟨x, r, u, rfl, rfl, ht, rfl⟩ := inv_if1 hp
        exact lv_if_eq hx hb hd ht (fun q => by simpa [q] using kk) (fun q => by simpa [q] using kk)
      · cases hp
    case ne =>
      change (if len = 3 then tif1 st pc off (fun x => decide (¬ x = 0)) else none) = some (t, st') at hp
      split at hp
      · subst len
        obtain ⟨x, r, u, rfl, rfl, ht, rfl⟩ := inv_if1 hp
        exact lv_if_ne hx hb hd ht (fun q => by simpa [q] using kk) (fun q => by simpa [q] using kk)
      · cases hp
    case lt =>
      change (if len = 3 then tif1 st pc off (fun x => decide (x < 0)) else none) = some (t, st') at hp
      split at hp
      · subst len
        obtain ⟨x, r, u, rfl, rfl, ht, rfl⟩ := inv_if1 hp
        exact lv_if_lt hx hb hd ht (fun q => by simpa [q] using kk) (fun q => by simpa [q] using kk)
      · cases hp
    case ge =>
      change (if len = 3 then tif1 st pc off (fun x => decide (0 ≤ x)) else none) = some (t, st') at hp
      split at hp
      · subst len
        obtain ⟨x, r, u, rfl, rfl, ht, rfl⟩ := inv_if1 hp
        exact lv_if_ge hx hb hd ht (fun q => by simpa [q] using kk) (fun q => by simpa [q] using kk)
      · cases hp
    case gt =>
      change (if len = 3 then tif1 st pc off (fun x => decide (0 < x)) else none) = some (t, st') at hp
      split at hp
      · subst len
        obtain ⟨x, r, u, rfl, rfl, ht, rfl⟩ := inv_if1 hp
        exact lv_if_gt hx hb hd ht (fun q => by simpa [q] using kk) (fun q => by simpa [q] using kk)
      · cases hp
    case le =>
      change (if len = 3 then tif1 st pc off (fun x => decide (x ≤ 0)) else none) = some (t, st') at hp
      split at hp
      · subst len
        obtain ⟨x, r, u, rfl, rfl, ht, rfl⟩ := inv_if1 hp
        exact lv_if_le hx hb hd ht (fun q => by simpa [q] using kk) (fun q => by simpa [q] using kk)
      · cases hp
  case if_icmp cnd off =>
    cases cnd
    case eq =>
      change (if len = 3 then tif2 st pc off (fun x y => decide (x = y)) else none) = some (t, st') at hp
      split at hp
      · subst len
        obtain ⟨x, y, r, u, rfl, rfl, ht, rfl⟩ := inv_if2 hp
        exact lv_icmp_eq hx hb hd ht (fun q => by simpa [q] using kk) (fun q => by simpa [q] using kk)
      · cases hp
    case ne =>
      change (if len = 3 then tif2 st pc off (fun x y => decide (¬ x = y)) else none) = some (t, st') at hp
      split at hp
      · subst len
        obtain ⟨x, y, r, u, rfl, rfl, ht, rfl⟩ := inv_if2 hp
        exact lv_icmp_ne hx hb hd ht (fun q => by simpa [q] using kk) (fun q => by simpa [q] using kk)
      · cases hp
    case lt =>
      change (if len = 3 then tif2 st pc off (fun x y => decide (x < y)) else none) = some (t, st') at hp
      split at hp
      · subst len
        obtain ⟨x, y, r, u, rfl, rfl, ht, rfl⟩ := inv_if2 hp
        exact lv_icmp_lt hx hb hd ht (fun q => by simpa [q] using kk) (fun q => by simpa [q] using kk)
      · cases hp
    case ge =>
      change (if len = 3 then tif2 st pc off (fun x y => decide (y ≤ x)) else none) = some (t, st') at hp
      split at hp
      · subst len
        obtain ⟨x, y, r, u, rfl, rfl, ht, rfl⟩ := inv_if2 hp
        exact lv_icmp_ge hx hb hd ht (fun q => by simpa [q] using kk) (fun q => by simpa [q] using kk)
      · cases hp
    case gt =>
      change (if len = 3 then tif2 st pc off (fun x y => decide (y < x)) else none) = some (t, st') at hp
      split at hp
      · subst len
        obtain ⟨x, y, r, u, rfl, rfl, ht, rfl⟩ := inv_if2 hp
        exact lv_icmp_gt hx hb hd ht (fun q => by simpa [q] using kk) (fun q => by simpa [q] using kk)
      · cases hp
    case le =>
      change (if len = 3 then tif2 st pc off (fun x y => decide (x ≤ y)) else none) = some (t, st') at hp
      split at hp
      · subst len
        obtain ⟨x, y, r, u, rfl, rfl, ht, rfl⟩ := inv_if2 hp
        exact lv_icmp_le hx hb hd ht (fun q => by simpa [q] using kk) (fun q => by simpa [q] using kk)
      · cases hp
  case ifnull off =>
    change (if len = 3 then tifn st pc off (fun r => r.isNone) else none) = some (t, st') at hp
    split at hp
    · subst len
      obtain ⟨x, r, u, rfl, rfl, ht, rfl⟩ := inv_ifn hp
      cases x with
      | none => exact lv_ifnullN hx hb hd ht kk
      | some x => exact lv_ifnull hx hb hd kk
    · cases hp
  case ifnonnull off =>
    change (if len = 3 then tifn st pc off (fun r => r.isSome) else none) = some (t, st') at hp
    split at hp
    · subst len
      obtain ⟨x, r, u, rfl, rfl, ht, rfl⟩ := inv_ifn hp
      cases x with
      | none => exact lv_ifnonnullN hx hb hd kk
      | some x => exact lv_ifnonnull hx hb hd ht kk
    · cases hp
  case tableswitch dflt lo hi offs =>
    change ttab st pc dflt lo hi offs = some (t, st') at hp
    unfold ttab at hp
    split at hp
    · rename_i x r
      split at hp
      · rename_i hc
        cases hg : ttg pc dflt with
        | none => rw [hg] at hp; cases hp
        | some u =>
          rw [hg] at hp
          cases hp
          exact lv_tableOut hx hb hd hc (ttg_eq hg) kk
      · rename_i hc
        split at hp
        · rename_i off ho
          cases hg : ttg pc off with
          | none => rw [hg] at hp; cases hp
          | some u =>
            rw [hg] at hp
            cases hp
            exact lv_tableIn hx hb hd (fun q => hc (Or.inl q)) (fun q => hc (Or.inr q)) ho (ttg_eq hg) kk
        · cases hp
    · cases hp
  case lookupswitch dflt ps =>
    change tlok st pc dflt ps = some (t, st') at hp
    unfold tlok at hp
    split at hp
    · rename_i x r
      split at hp
      · rename_i hc
        cases hg : ttg pc (Op.lookupswitch.offset ps.toList dflt x.toInt) with
        | none => rw [hg] at hp; cases hp
        | some u =>
          rw [hg] at hp
          cases hp
          exact lv_lookup hx hb hd hc rfl (ttg_eq hg) kk
      · cases hp
    · cases hp
  all_goals exact nomatch (show (none : Option (Nat × List TV)) = some (t, st') from hp)
end S6
