/-! THE TINY MACHINE IS TRUE, 2: the heap -/
def tce (ad : Nat → Nat) (dA : Nat → ClassId) : TC → va_E
  | .inl (t, n, .inr (.inr (.inr (.inr f)))) => .inl (dA t, n, .inr (.inr (.inr (.inr (fun k => (f k).map ad)))))
  | .inl (t, n, .inl f) => .inl (dA t, n, .inl f)
  | .inl (t, n, .inr (.inl f)) => .inl (dA t, n, .inr (.inl f))
  | .inl (t, n, .inr (.inr (.inl f))) => .inl (dA t, n, .inr (.inr (.inl f)))
  | .inl (t, n, .inr (.inr (.inr (.inl f)))) => .inl (dA t, n, .inr (.inr (.inr (.inl f))))
  | .inr (ci, f) => .inr (ci, (List.range (tN ci)).map (fun k => tcv ad (f k)))
def twl (ad : Nat → Nat) (dA : Nat → ClassId) (h : TH) : va_W := (List.range h.2.1).map (fun k => (ad k, tce ad dA ((h.1 k).getD tcell0)))
def tWf (h : TH) : Prop := (∀ (k : Nat) (c : TC), h.1 k = some c → k < h.2.1) ∧ h.2.1 ≤ 1000000
theorem twl_get {ad : Nat → Nat} {dA : Nat → ClassId} {h : TH} {k : Nat} {c : TC} (hw : tWf h) (hk : h.1 k = some c) : (twl ad dA h)[k]? = some (ad k, tce ad dA c) := by
  have hl := hw.1 k c hk
  unfold twl
  rw [List.getElem?_map, List.getElem?_range hl]
  simp [hk]
theorem twl_set {ad : Nat → Nat} {dA : Nat → ClassId} {h : TH} {k : Nat} {c0 c : TC} (hw : tWf h) (hk : h.1 k = some c0) : (twl ad dA h).set k (ad k, tce ad dA c) = twl ad dA (tset h k c) := by
  have hl := hw.1 k c0 hk
  apply List.ext_getElem?
  intro j
  by_cases hj : j = k
  · subst hj
    rw [List.getElem?_set_self (by simpa [twl] using hl)]
    simp [twl, tset, va_up, List.getElem?_range hl]
  · rw [List.getElem?_set_ne (Ne.symm hj)]
    simp only [twl, tset, List.getElem?_map]
    by_cases h2 : j < h.2.1
    · simp [List.getElem?_range h2, va_up, hj]
    · rw [List.getElem?_eq_none (by simpa using h2)]
      rfl
theorem tWf_set {h : TH} {k : Nat} {c0 c : TC} (hw : tWf h) (hk : h.1 k = some c0) : tWf (tset h k c) := by
  refine ⟨fun j d hj => ?_, hw.2⟩
  by_cases e : j = k
  · subst e; exact hw.1 j c0 hk
  · exact hw.1 j d (by simpa [tset, va_up, e] using hj)
theorem twl_push {ad : Nat → Nat} {dA : Nat → ClassId} {h : TH} {c : TC} {n : Nat} : twl ad dA h ++ [(ad h.2.1, tce ad dA c)] = twl ad dA (va_up h.1 h.2.1 (some c), h.2.1 + 1, n) := by
  simp only [twl, List.range_succ, List.map_append, List.map_cons, List.map_nil]
  congr 1
  · apply List.map_congr_left
    intro k hk
    have : k ≠ h.2.1 := by have := List.mem_range.mp hk; omega
    simp [va_up, this]
  · simp [va_up]
theorem twl_D {ad : Nat → Nat} {dA : Nat → ClassId} {h : TH} {base : Nat} (hw : tWf h) (had : ∀ k, k < 1000000000 → ad k = base + k) : va_D (fun q => base ≤ q) (twl ad dA h) := by
  have key : ∀ (i : Nat) (p : Nat × va_E), (twl ad dA h)[i]? = some p → p.1 = base + i := by
    intro i p hp
    have hl : i < h.2.1 := by
      have := (List.getElem?_eq_some_iff.mp hp).1
      simpa [twl] using this
    unfold twl at hp
    rw [List.getElem?_map, List.getElem?_range hl] at hp
    cases hp
    exact had i (by have := hw.2; omega)
  refine ⟨fun i j p q hi hj e => ?_, fun k q hk => ?_⟩
  · have h1 := key i p hi
    have h2 := key j q hj
    omega
  · show base ≤ q.1
    rw [key k q hk]
    omega
theorem trange_get {α : Type} {f : Nat → α} {N k : Nat} (h : k < N) : ((List.range N).map f)[k]? = some (f k) := by
  rw [List.getElem?_map, List.getElem?_range h]; rfl
theorem trange_set {ad : Nat → Nat} {f : Nat → TV} {N k : Nat} {v : TV} (h : k < N) : ((List.range N).map (fun j => tcv ad (f j))).set k (tcv ad v) = (List.range N).map (fun j => tcv ad (va_up f k v j)) := by
  apply List.ext_getElem?
  intro j
  by_cases hj : j = k
  · subst hj
    rw [List.getElem?_set_self (by simpa using h), trange_get h]
    simp [va_up]
  · rw [List.getElem?_set_ne (Ne.symm hj)]
    by_cases h2 : j < N
    · rw [trange_get h2, trange_get h2]
      simp [va_up, hj]
    · rw [List.getElem?_eq_none (by simpa using h2), List.getElem?_eq_none (by simpa using h2)]
theorem mOwn_all : ∀ e ∈ mTl, e.1.cls = cNm e.2.2.2.2.2.2 := by decide +kernel
theorem mOwn (m : Nat) : (mY m).cls = cNm (mO m) := by
  unfold mY mO mE
  rw [List.getD_eq_getElem?_getD]
  cases h : mTl[m]? with
  | none => rfl
  | some e => exact mOwn_all e (List.mem_of_getElem? h)
theorem tkfit {ad : Nat → Nat} {kind : Nat} {ty : FieldType} {v : TV} (h1 : tkt kind ty) (h2 : tkok kind v = true) : narrow ty (tcv ad v) = tcv ad v ∧ fits ty (tcv ad v) = true := by
  match kind, v, h2 with
  | 0, .inl x, _ => cases h1; exact ⟨rfl, rfl⟩
  | 1, .inl x, h2 =>
    cases h1
    have h3 : x = 0 ∨ x = 1 := by simpa [tkok] using h2
    rcases h3 with rfl | rfl
    · exact ⟨(by decide : narrow .boolean (.int 0) = .int 0), (by decide : fits .boolean (.int 0) = true)⟩
    · exact ⟨(by decide : narrow .boolean (.int 1) = .int 1), (by decide : fits .boolean (.int 1) = true)⟩
  | 2, .inr (.inl x), _ => cases h1; exact ⟨rfl, rfl⟩
  | 3, .inr (.inr (.inl none)), _ =>
    rcases h1 with ⟨n, rfl⟩ | ⟨t, rfl⟩ <;> exact ⟨rfl, rfl⟩
  | 3, .inr (.inr (.inl (some a))), _ =>
    rcases h1 with ⟨n, rfl⟩ | ⟨t, rfl⟩ <;> exact ⟨rfl, rfl⟩
def tTy (dA : Nat → ClassId) : List (ClassId × FieldType) := [(dA 0, .int), (dA 1, .byte), (dA 2, .long), (dA 3, .object RX4), (dA 4, .object RX5)]
/-- the constant row that is cloned -/
def tF1 (t base : Nat) (U : State) (H : Heap) : Prop := ∃ cell : Cell, H[t]? = some cell ∧ U.isArrayOf cell .int ∧ cell.vm ≠ .unknown ∧ cell.slots = #[.int 10, .int 2, .int 1, .int 6] ∧ U.vm.findClass "[I" = some cell.cls ∧ t < base
theorem tF1.moved {t base : Nat} {u U : State} {H : Heap} (hvm : u.vm.Alike U.vm) (h : tF1 t base u H) : tF1 t base U H := by
  obtain ⟨cell, h1, h2, h3, h4, h5, h6⟩ := h
  exact ⟨cell, h1, State.isArrayOf_alike hvm h2, h3, h4, by rw [hvm.findClass]; exact h5, h6⟩
theorem tF1.kept {t base : Nat} {U : State} {H H1 : Heap} (h : tF1 t base U H) (hq : ∀ a : Nat, a < H.size → ¬ base ≤ a → H1[a]? = H[a]?) : tF1 t base U H1 := by
  obtain ⟨cell, h1, h2, h3, h4, h5, h6⟩ := h
  exact ⟨cell, by rw [hq t (Array.getElem?_eq_some_iff.mp h1).1 (Nat.not_le.mpr h6)]; exact h1, h2, h3, h4, h5, h6⟩
def tGx (sc : Nat × (Nat → Int32)) (base : Nat) (ad : Nat → Nat) (D : va_G) (dA : Nat → ClassId) (U : State) (H : Heap) : Prop :=
  (va_K D vwCl (tTy dA) U) ∧ (va_X (ad 1000000000) sc.1 sc.2 U H) ∧ (ad 1000000000 < base) ∧
  (va_Z RX10 "LAW_AT_FIRST" "[I" (.ref (ad 1000000001)) (fun q => base ≤ q) U H) ∧ (va_T .int (ad 1000000001) 4 (fun j => .int (tfirst j)) (fun q => base ≤ q) U H) ∧
  (va_Z RX10 "LAW_AT_MOST" "[I" (.ref (ad 1000000002)) (fun q => base ≤ q) U H) ∧ (va_T .int (ad 1000000002) 4 (fun j => .int (tmost j)) (fun q => base ≤ q) U H) ∧
  (∀ w ∈ nwC, va_Nw w U) ∧ (∀ q ∈ ncC, va_Nc q.1 q.2 U) ∧ va_AO RX4 U ∧ va_AO RX5 U ∧ tF1 (ad 1000000001) base U H
section S8
variable {p : Program} {l : Launch} {e : Env} {R : Room} {s : State} {mid : MethodId} {args : Array Value} {below : List Frame} {meth : Method} {c : Code} {H : Heap} {locs : List Loc} {cells slots : Nat} {Q : State → Prop}
variable {ad : Nat → Nat} {m pc len nL base : Nat} {real : Array Slot} {i : Instr} {ls st ls' st' : List TV} {D : va_G} {dA : Nat → ClassId} {h h' : TH} {sc : Nat × (Nat → Int32)}
theorem wsize (kk : H.size ≤ s.heap.size + cells → W p l e R s mid args below meth c H locs cells slots Q (F0 mid pc real (st.map (tcv ad)))) : W p l e R s mid args below meth c H locs cells slots Q (F0 mid pc real (st.map (tcv ad))) := by
  intro T hT X
  exact kk (by rw [← hT]; exact X.heapSize) T hT X
theorem snd_get {k o : Nat} {cis : List Nat} {sl kind : Nat} {r : List TV} {v : TV} (hx : p.tables.exec = Jvm.exec) (hb : c.code = mB m) (hown : s.vm.findClass (mY m).cls = some mid.cls) (hts : ∀ w ∈ lw_good, w.before args s = true) (hK : va_K D vwCl (tTy dA) s) (hP : va_P D vwCl (twl ad dA h) H) (hw : tWf h) (hao : ad o = ad o)
    (hf : tlk2 fDT (mO m) k = some (cis, sl, kind)) (hg : tget h o cis sl = some v) (hd : decode (mB m) pc = .ok (.getfield k, 3))
    (kk : W p l e R s mid args below meth c H locs cells slots Q (F0 mid (pc + 3) real ((v :: r).map (tcv ad)))) : W p l e R s mid args below meth c H locs cells slots Q (F0 mid pc real ((vR (some o) :: r).map (tcv ad))) := by
  unfold tget at hg
  split at hg
  · rename_i ci f hc
    split at hg
    · rename_i hci
      cases hg
      obtain ⟨C, T, N, ty0, ref, h1, h2, h3, h4, h5, h6, h7, h8, h9, h10⟩ := fDT_ok _ (tlk2_mem hf) ci (by simpa using hci)
      simp only at h3 h7 h8
      subst h2
      have hown' : s.vm.findClass (cNm (mO m)) = some mid.cls := by rw [← mOwn]; exact hown
      refine va_get (D := D) (ci := ci) (v := tcv ad (f sl)) (C := C) (T := T) (N := tN ci) (own := cNm (mO m)) (ref := ref) (index := k) (ws := twl ad dA h) (fs := (List.range (tN ci)).map (fun j => tcv ad (f j))) hx hb hts h4 hown' hK hP o (twl_get hw hc) h1 sl h3 (hts _ h7) ?_ (trange_get h3) hd kk
      rcases h8 with h8 | h8
      · intro x hx; rw [h8]; exact hx
      · exact u_same (hts _ h8)
    · cases hg
  · cases hg
theorem snd_put {k o : Nat} {cis : List Nat} {sl kind : Nat} {r : List TV} {v : TV} (hx : p.tables.exec = Jvm.exec) (hb : c.code = mB m) (hown : s.vm.findClass (mY m).cls = some mid.cls) (hname : (mY m).name = "<init>" → meth.name = "<init>") (hts : ∀ w ∈ lw_good, w.before args s = true) (hK : va_K D vwCl (tTy dA) s) (hP : va_P D vwCl (twl ad dA h) H) (hw : tWf h) (had : ∀ k, k < 1000000000 → ad k = base + k) (hS : va_S (fun q => base ≤ q) s.heap H locs)
    (hf : tlk2 fDT (mO m) k = some (cis, sl, kind)) (hfin : kind < 10 ∨ kind < 20 ∧ (mY m).name = "<init>") (hg : tput h o cis sl (kind % 10) v = some h') (hd : decode (mB m) pc = .ok (.putfield k, 3))
    (kk : ∀ (H' : Heap) (locs' : List Loc), va_P D vwCl (twl ad dA h') H' → va_S (fun q => base ≤ q) s.heap H' locs' → tWf h' → h'.2 = h.2 → W p l e R s mid args below meth c H' locs' cells slots Q (F0 mid (pc + 3) real (r.map (tcv ad)))) : W p l e R s mid args below meth c H locs cells slots Q (F0 mid pc real ((v :: vR (some o) :: r).map (tcv ad))) := by
  unfold tput at hg
  split at hg
  · rename_i ci f hc
    split at hg
    · rename_i hci
      cases hg
      obtain ⟨C, T, N, ty0, ref, h1, h2, h3, h4, h5, h6, h7, h8, h9, h10⟩ := fDT_ok _ (tlk2_mem hf) ci (by simpa using hci.1)
      simp only at h3 h7 h8 h9 h10
      subst h2
      have hown' : s.vm.findClass (cNm (mO m)) = some mid.cls := by rw [← mOwn]; exact hown
      obtain ⟨q1, q2⟩ := tkfit (ad := ad) h9 hci.2
      have hsame : ∀ x, s.fieldFound? (T sl).1 (T sl).2.1 (T sl).2.2.1 = some x → s.fieldFound? ref (T sl).2.1 (T sl).2.2.1 = some x := by
        rcases h8 with h8 | h8
        · intro x hx; rw [h8]; exact hx
        · exact u_same (hts _ h8)
      have hset : (twl ad dA h).set o (ad o, .inr (ci, ((List.range (tN ci)).map (fun j => tcv ad (f j))).set sl (tcv ad v))) = twl ad dA (tset h o (.inr (ci, va_up f sl v))) := by
        rw [trange_set h3]; exact twl_set (c := .inr (ci, va_up f sl v)) hw hc
      rcases h10 with ⟨hf1, hf2⟩ | ⟨hf1, hf2, hf3, hf4⟩ | hf1
      · refine va_put (D := D) (ci := ci) (v := tcv ad v) (ty := ty0 sl) (C := C) (T := T) (N := tN ci) (own := cNm (mO m)) (ref := ref) (index := k) (ws := twl ad dA h) (fs := (List.range (tN ci)).map (fun j => tcv ad (f j))) hx hb hts h4 ty0 h5 h6 hown' hK hP (twl_D hw had) hS o (twl_get hw hc) h1 sl h3 (hts _ h7) hsame hf1 (h5 sl h3) q1 q2 (by simpa using h3) hd (fun H1 locs1 a1 a2 a3 => ?_)
        rw [hset] at a1
        exact kk H1 locs1 a1 a3 (tWf_set hw hc) rfl
      · have hnm : (mY m).name = "<init>" := by
          rcases hfin with q | q
          · omega
          · exact q.2
        refine va_putF (D := D) (ci := ci) (v := tcv ad v) (ty := ty0 sl) (C := C) (T := T) (N := tN ci) (own := cNm (mO m)) (ref := ref) (index := k) (ws := twl ad dA h) (fs := (List.range (tN ci)).map (fun j => tcv ad (f j))) hx hb hts h4 ty0 h5 h6 hown' hK hP (twl_D hw had) hS o (twl_get hw hc) h1 sl h3 (hts _ h7) hsame hf1 (hname hnm) hf4 (h5 sl h3) q1 q2 (by simpa using h3) hd (fun H1 locs1 a1 a2 a3 => ?_)
        rw [hset] at a1
        exact kk H1 locs1 a1 a3 (tWf_set hw hc) rfl
      · exfalso
        rcases hfin with q | q
        · omega
        · omega
    · cases hg
  · cases hg
end S8
