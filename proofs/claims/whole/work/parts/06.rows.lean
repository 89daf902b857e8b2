/-! WHAT AN INSTRUCTION DOES, as equations over tA -/
section S16
variable {sc : Nat × (Nat → Int32)} {m pc len : Nat} {ls st ls' st' : List TV} {h h' : TH} {Q : Option TV → TH → Prop} {i : Instr} {bb : ByteArray}
theorem texec_up : ∀ (n m pc : Nat) (ls st : List TV) (h : TH) (r : Option TV × TH), texec sc n m pc ls st h = some r → texec sc (n + 1) m pc ls st h = some r := by
  intro n
  induction n with
  | zero => intro m pc ls st h r hx; cases hx
  | succ n ih =>
    intro m pc ls st h r hx
    rw [texec] at hx
    rw [texec]
    cases hst : tstep sc m pc ls st h with
    | none => rw [hst] at hx; cases hx
    | some z =>
      rw [hst] at hx
      match z, hx with
      | .inl (pc1, ls1, st1, h1), hx => exact ih _ _ _ _ _ _ hx
      | .inr (.inl q), hx => exact hx
      | .inr (.inr (m', as, st')), hx =>
        dsimp only at hx ⊢
        split at hx
        · rename_i hchk
          rw [if_pos hchk]
          cases hx1 : texec sc n m' 0 (tini (mL m') as) [] h with
          | none => rw [hx1] at hx; cases hx
          | some q =>
            rw [hx1] at hx
            rw [ih _ _ _ _ _ _ hx1]
            exact ih _ _ _ _ _ _ hx
        · cases hx
theorem texec_le {n k m pc : Nat} {ls st : List TV} {h : TH} {r : Option TV × TH} (hk : n ≤ k) (hx : texec sc n m pc ls st h = some r) : texec sc k m pc ls st h = some r := by
  obtain ⟨d, rfl⟩ : ∃ d, k = n + d := ⟨k - n, by omega⟩
  clear hk
  induction d with
  | zero => exact hx
  | succ d ih => exact texec_up _ _ _ _ _ _ _ ih
theorem tA_next {pc1 : Nat} {ls1 st1 : List TV} {h1 : TH} (hst : tstep sc m pc ls st h = some (.inl (pc1, ls1, st1, h1))) : tA sc m pc ls st h Q = tA sc m pc1 ls1 st1 h1 Q := by
  apply propext
  constructor
  · rintro ⟨n, v, h', hx, hq⟩
    cases n with
    | zero => cases hx
    | succ n =>
      rw [texec, hst] at hx
      exact ⟨n, v, h', hx, hq⟩
  · rintro ⟨n, v, h', hx, hq⟩
    exact ⟨n + 1, v, h', by rw [texec, hst]; exact hx, hq⟩
theorem tA_retn {v : Option TV} {h1 : TH} (hst : tstep sc m pc ls st h = some (.inr (.inl (v, h1)))) : tA sc m pc ls st h Q = Q v h1 := by
  apply propext
  constructor
  · rintro ⟨n, v', h', hx, hq⟩
    cases n with
    | zero => cases hx
    | succ n =>
      rw [texec, hst] at hx
      cases hx
      exact hq
  · intro hq
    exact ⟨1, v, h1, by rw [texec, hst], hq⟩
theorem tA_none (hst : tstep sc m pc ls st h = none) : tA sc m pc ls st h Q = False := by
  apply propext
  constructor
  · rintro ⟨n, v', h', hx, hq⟩
    cases n with
    | zero => cases hx
    | succ n => rw [texec, hst] at hx; cases hx
  · exact False.elim
def tpu (v : Option TV) (r : List TV) : List TV := v.toList ++ r
theorem tpu_some (v : TV) (r : List TV) : tpu (some v) r = v :: r := rfl
theorem tpu_none (r : List TV) : tpu none r = r := rfl
theorem tA_call {m' : Nat} {as r : List TV} (hst : tstep sc m pc ls st h = some (.inr (.inr (m', as, r)))) (hchk : tchk m m' as = true) : tA sc m pc ls st h Q = tA sc m' 0 (tini (mL m') as) [] h (fun v h1 => tA sc m (pc + 3) ls (tpu v r) h1 Q) := by
  apply propext
  constructor
  · rintro ⟨n, v, h', hx, hq⟩
    cases n with
    | zero => cases hx
    | succ n =>
      rw [texec, hst] at hx
      dsimp only at hx
      rw [if_pos hchk] at hx
      cases hx1 : texec sc n m' 0 (tini (mL m') as) [] h with
      | none => rw [hx1] at hx; cases hx
      | some q =>
        rw [hx1] at hx
        exact ⟨n, q.1, q.2, hx1, n, v, h', hx, hq⟩
  · rintro ⟨n, v, h1, hx1, k, v', h', hx, hq⟩
    refine ⟨n + k + 1, v', h', ?_, hq⟩
    rw [texec, hst]
    dsimp only
    rw [if_pos hchk, texec_le (show n ≤ n + k by omega) hx1]
    exact texec_le (by omega) hx
theorem tstep_d (hB : mB m = bb) (hd : decode bb pc = .ok (i, len)) : tstep sc m pc ls st h = tins sc m pc i len ls st h := by
  unfold tstep
  rw [hB, hd]
theorem tA_pure (hB : mB m = bb) (hd : decode bb pc = .ok (i, len)) (hp : tpure m i len ls st = some (ls', st')) : tA sc m pc ls st h Q = tA sc m (pc + len) ls' st' h Q := by
  apply tA_next
  rw [tstep_d hB hd]
  unfold tins
  rw [hp]
/-- instructions that aren't of the first group -/
def tnp (i : Instr) : Prop := ∀ (m len : Nat) (ls st : List TV), tpure m i len ls st = none
def tnj (i : Instr) : Prop := ∀ (pc len : Nat) (st : List TV), tjump i pc len st = none
def tnh (i : Instr) : Prop := ∀ (sc : Nat × (Nat → Int32)) (m len : Nat) (st : List TV) (h : TH), theap sc m i len st h = none
theorem tA_jump {t : Nat} (hB : mB m = bb) (hd : decode bb pc = .ok (i, len)) (hn : tnp i) (hp : tjump i pc len st = some (t, st')) : tA sc m pc ls st h Q = tA sc m t ls st' h Q := by
  apply tA_next
  rw [tstep_d hB hd]
  unfold tins
  rw [hn, hp]
theorem tA_if {c : Prop} [Decidable c] {t f : Nat} (hB : mB m = bb) (hd : decode bb pc = .ok (i, len)) (hn : tnp i) (hp : tjump i pc len st = some (if decide c = true then t else f, st')) : tA sc m pc ls st h Q = if c then tA sc m t ls st' h Q else tA sc m f ls st' h Q := by
  rw [tA_jump hB hd hn hp]
  by_cases hc : c
  · simp [hc]
  · simp [hc]
/-- a partial step: it goes on, or there is nothing -/
def oz {α : Type} (o : Option α) (K : α → Prop) : Prop := match o with
  | some v => K v
  | none => False
theorem oz_some {α : Type} (v : α) (K : α → Prop) : oz (some v) K = K v := rfl
theorem oz_none {α : Type} (K : α → Prop) : oz none K = False := rfl
theorem tA_heap (hB : mB m = bb) (hd : decode bb pc = .ok (i, len)) (hn : tnp i) (hj : tnj i) (hv : tinv i = none) (hr : ∀ (m : Nat) (st : List TV), tret m i st = none) : tA sc m pc ls st h Q = oz (theap sc m i len st h) (fun z => tA sc m (pc + len) ls z.1 z.2 Q) := by
  have e : tstep sc m pc ls st h = (theap sc m i len st h).map (fun z => .inl (pc + len, ls, z.1, z.2)) := by
    rw [tstep_d hB hd]
    unfold tins
    rw [hn, hj]
    dsimp only
    rw [hv]
    dsimp only
    rw [hr]
    cases theap sc m i len st h with
    | none => rfl
    | some z => rfl
  cases hz : theap sc m i len st h with
  | none => rw [hz] at e; exact tA_none e
  | some z => rw [hz] at e; exact tA_next e
theorem oz_map {α β : Type} (o : Option α) (f : α → β) (K : β → Prop) : oz (o.map f) K = oz o (fun a => K (f a)) := by
  cases o <;> rfl
theorem tA_get {k o own sl kind : Nat} {cis : List Nat} (hB : mB m = bb) (hO : mO m = own) (hd : decode bb pc = .ok (.getfield k, 3)) (hf : tlk2 fDT own k = some (cis, sl, kind)) : tA sc m pc ls (vR (some o) :: st) h Q = oz (tget h o cis sl) (fun v => tA sc m (pc + 3) ls (v :: st) h Q) := by
  rw [tA_heap hB hd (fun _ _ _ _ => rfl) (fun _ _ _ => rfl) rfl (fun _ _ => rfl)]
  simp only [theap, hO, hf, if_true]
  exact oz_map _ _ _
theorem tA_put {k o own sl kind : Nat} {cis : List Nat} {v : TV} (hB : mB m = bb) (hO : mO m = own) (hd : decode bb pc = .ok (.putfield k, 3)) (hf : tlk2 fDT own k = some (cis, sl, kind)) (hi : kind < 10 ∨ kind < 20 ∧ (mY m).name = "<init>") : tA sc m pc ls (v :: vR (some o) :: st) h Q = oz (tput h o cis sl (kind % 10) v) (fun h' => tA sc m (pc + 3) ls st h' Q) := by
  rw [tA_heap hB hd (fun _ _ _ _ => rfl) (fun _ _ _ => rfl) rfl (fun _ _ => rfl)]
  simp only [theap, hO, hf, if_true, if_pos hi]
  exact oz_map _ _ _
theorem tA_iald {a : Nat} {j : Int32} (hB : mB m = bb) (hd : decode bb pc = .ok (.iaload, 1)) : tA sc m pc ls (vI j :: vR (some a) :: st) h Q = oz (tald sc h 0 a j) (fun v => tA sc m (pc + 1) ls (vI v :: st) h Q) := by
  rw [tA_heap hB hd (fun _ _ _ _ => rfl) (fun _ _ _ => rfl) rfl (fun _ _ => rfl)]
  simp only [theap, if_true]
  exact oz_map _ _ _
theorem tA_bald {a : Nat} {j : Int32} (hB : mB m = bb) (hd : decode bb pc = .ok (.baload, 1)) : tA sc m pc ls (vI j :: vR (some a) :: st) h Q = oz (tald sc h 1 a j) (fun v => tA sc m (pc + 1) ls (vI v :: st) h Q) := by
  rw [tA_heap hB hd (fun _ _ _ _ => rfl) (fun _ _ _ => rfl) rfl (fun _ _ => rfl)]
  simp only [theap, if_true]
  exact oz_map _ _ _
theorem tA_lald {a : Nat} {j : Int32} (hB : mB m = bb) (hd : decode bb pc = .ok (.laload, 1)) : tA sc m pc ls (vI j :: vR (some a) :: st) h Q = oz (tldl h a j) (fun v => tA sc m (pc + 1) ls (vL v :: st) h Q) := by
  rw [tA_heap hB hd (fun _ _ _ _ => rfl) (fun _ _ _ => rfl) rfl (fun _ _ => rfl)]
  simp only [theap, if_true]
  exact oz_map _ _ _
theorem tA_aald {a : Nat} {j : Int32} (hB : mB m = bb) (hd : decode bb pc = .ok (.aaload, 1)) : tA sc m pc ls (vI j :: vR (some a) :: st) h Q = oz (tldr h a j) (fun v => tA sc m (pc + 1) ls (vR v :: st) h Q) := by
  rw [tA_heap hB hd (fun _ _ _ _ => rfl) (fun _ _ _ => rfl) rfl (fun _ _ => rfl)]
  simp only [theap, if_true]
  exact oz_map _ _ _
theorem tA_iast {a : Nat} {j x : Int32} (hB : mB m = bb) (hd : decode bb pc = .ok (.iastore, 1)) : tA sc m pc ls (vI x :: vI j :: vR (some a) :: st) h Q = oz (tasi h a j x) (fun h' => tA sc m (pc + 1) ls st h' Q) := by
  rw [tA_heap hB hd (fun _ _ _ _ => rfl) (fun _ _ _ => rfl) rfl (fun _ _ => rfl)]
  simp only [theap, if_true]
  exact oz_map _ _ _
theorem tA_bast {a : Nat} {j x : Int32} (hB : mB m = bb) (hd : decode bb pc = .ok (.bastore, 1)) : tA sc m pc ls (vI x :: vI j :: vR (some a) :: st) h Q = oz (tasb h a j x) (fun h' => tA sc m (pc + 1) ls st h' Q) := by
  rw [tA_heap hB hd (fun _ _ _ _ => rfl) (fun _ _ _ => rfl) rfl (fun _ _ => rfl)]
  simp only [theap, if_true]
  exact oz_map _ _ _
theorem tA_last {a : Nat} {j : Int32} {x : Int64} (hB : mB m = bb) (hd : decode bb pc = .ok (.lastore, 1)) : tA sc m pc ls (vL x :: vI j :: vR (some a) :: st) h Q = oz (tasl h a j x) (fun h' => tA sc m (pc + 1) ls st h' Q) := by
  rw [tA_heap hB hd (fun _ _ _ _ => rfl) (fun _ _ _ => rfl) rfl (fun _ _ => rfl)]
  simp only [theap, if_true]
  exact oz_map _ _ _
theorem tA_aast {a : Nat} {j : Int32} {x : Option Nat} (hB : mB m = bb) (hd : decode bb pc = .ok (.aastore, 1)) : tA sc m pc ls (vR x :: vI j :: vR (some a) :: st) h Q = oz (tasr h a j x) (fun h' => tA sc m (pc + 1) ls st h' Q) := by
  rw [tA_heap hB hd (fun _ _ _ _ => rfl) (fun _ _ _ => rfl) rfl (fun _ _ => rfl)]
  simp only [theap, if_true]
  exact oz_map _ _ _
theorem tA_alen {a : Nat} (hB : mB m = bb) (hd : decode bb pc = .ok (.arraylength, 1)) : tA sc m pc ls (vR (some a) :: st) h Q = oz (tlen sc h a) (fun v => tA sc m (pc + 1) ls (vI v :: st) h Q) := by
  rw [tA_heap hB hd (fun _ _ _ _ => rfl) (fun _ _ _ => rfl) rfl (fun _ _ => rfl)]
  simp only [theap, if_true]
  exact oz_map _ _ _
/-- any other instruction of the heap: as it stands -/
theorem tA_hp {z : Option (List TV × TH)} (hB : mB m = bb) (hd : decode bb pc = .ok (i, len)) (hn : tnp i) (hj : tnj i) (hv : tinv i = none) (hr : ∀ (m : Nat) (st : List TV), tret m i st = none) (hz : theap sc m i len st h = z) : tA sc m pc ls st h Q = oz z (fun z => tA sc m (pc + len) ls z.1 z.2 Q) := by
  rw [tA_heap hB hd hn hj hv hr, hz]
theorem tA_ret {v : Option TV} (hB : mB m = bb) (hd : decode bb pc = .ok (i, 1)) (hn : tnp i) (hj : tnj i) (hh : tnh i) (hv : tinv i = none) (hr : tret m i st = some v) : tA sc m pc ls st h Q = Q v h := by
  apply tA_retn
  rw [tstep_d hB hd]
  unfold tins
  rw [hn, hj, hh, hv, hr]
  rfl
theorem tA_retz {x : Int32} (hB : mB m = bb) (hd : decode bb pc = .ok (.ireturn, 1)) (hR : mR m = some .boolean) : tA sc m pc ls [vI x] h Q = ((x = 0 ∨ x = 1) ∧ Q (some (vI x)) h) := by
  have hr : tret m .ireturn [vI x] = if x = 0 ∨ x = 1 then some (some (vI x)) else none := by unfold tret; rw [hR]
  by_cases hx : x = 0 ∨ x = 1
  · rw [if_pos hx] at hr
    rw [tA_ret hB hd (fun _ _ _ _ => rfl) (fun _ _ _ => rfl) (fun _ _ _ _ _ => rfl) rfl hr]
    simp [hx]
  · rw [if_neg hx] at hr
    have e : tstep sc m pc ls [vI x] h = none := by
      rw [tstep_d hB hd]
      unfold tins
      rw [show tpure m Instr.ireturn 1 ls [vI x] = none from rfl, show tjump Instr.ireturn pc 1 [vI x] = none from rfl, show theap sc m Instr.ireturn 1 [vI x] h = none from rfl, show tinv Instr.ireturn = none from rfl, hr]
    rw [tA_none e]
    simp [hx]
theorem tA_inv {k kd own ar mode : Nat} {alts : List (Nat × Nat)} {z : Option TN} (hB : mB m = bb) (hO : mO m = own) (hd : decode bb pc = .ok (i, 3)) (hn : tnp i) (hj : tnj i) (hh : tnh i) (hv : tinv i = some (kd, k)) (hc : tlk2 cST own k = some (ar, mode, alts)) (hk : tmk mode = kd) (hz : tcall m pc ls st h ar mode alts = z) : tstep sc m pc ls st h = z := by
  rw [tstep_d hB hd]
  unfold tins
  rw [hn, hj, hh, hv]
  dsimp only
  rw [hO, hc]
  dsimp only
  rw [if_pos ⟨rfl, hk⟩, hz]
end S16
