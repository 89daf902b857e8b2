/-! THE CLERK, 4: all as at first -/
/-- a World's rows as at first -/
def gF (g : Nat → Nat → Int32) : Prop := (∀ d, d < 20 → g 0 d = 10) ∧ (∀ k, k < 80 → g 1 k = 1) ∧ (∀ d, d < 20 → g 2 d = -1) ∧ (∀ d, d < 20 → g 3 d = -1) ∧ (∀ d, d < 20 → g 4 d = 0)
section S98n
variable {d k s i : Nat} {D : TH} {p f : Nat → Int32} {g M : Nat → Nat → Int32} {y : Nat → Option Nat} {sy : Int32}
theorem wfgw_in (h1 : 4 * d ≤ k) (h2 : k < 4 * d + 4) : wfgw d p k = 1 := by
  show upd (upd (upd (upd p (4 * d + 0) 1) (4 * d + 1) 1) (4 * d + 2) 1) (4 * d + 3) 1 k = 1
  rcases (show k = 4 * d + 0 ∨ k = 4 * d + 1 ∨ k = 4 * d + 2 ∨ k = 4 * d + 3 by omega) with e | e | e | e
  · rw [e, pN (by omega), pN (by omega), pN (by omega), pE]
  · rw [e, pN (by omega), pN (by omega), pE]
  · rw [e, pN (by omega), pE]
  · rw [e, pE]
theorem wfgw_off (h : k < 4 * d ∨ 4 * d + 4 ≤ k) : wfgw d p k = p k := by
  show upd (upd (upd (upd p (4 * d + 0) 1) (4 * d + 1) 1) (4 * d + 2) 1) (4 * d + 3) 1 k = p k
  rw [pN (by omega), pN (by omega), pN (by omega), pN (by omega)]
theorem wfg_all : gF (wfg g) ∧ ∀ s, s ≠ 0 → s ≠ 1 → s ≠ 2 → s ≠ 3 → s ≠ 4 → wfg g s = g s := by
  have key := lfold_inv (F := wfgF) (fun i (q : Nat → Nat → Int32) => ((∀ d, d < i → q 0 d = 10) ∧ (∀ k, k < 4 * i → q 1 k = 1) ∧ (∀ d, d < i → q 2 d = -1) ∧ (∀ d, d < i → q 3 d = -1) ∧ (∀ d, d < i → q 4 d = 0)) ∧ ∀ s, s ≠ 0 → s ≠ 1 → s ≠ 2 → s ≠ 3 → s ≠ 4 → q s = g s) 20 0 g ⟨⟨fun d hd => by omega, fun d hd => by omega, fun d hd => by omega, fun d hd => by omega, fun d hd => by omega⟩, fun _ _ _ _ _ _ => rfl⟩ ?_
  · exact key
  · rintro j q - - ⟨⟨i0, i1, i2, i3, i4⟩, io⟩
    refine ⟨⟨?_, ?_, ?_, ?_, ?_⟩, ?_⟩
    · intro d hd
      show upd (q 0) j 10 d = 10
      by_cases e : d = j
      · rw [e, pE]
      · rw [pN e]; exact i0 d (by omega)
    · intro k hk
      show wfgw j (q 1) k = 1
      by_cases e : k < 4 * j
      · rw [wfgw_off (Or.inl e)]; exact i1 k e
      · exact wfgw_in (by omega) (by omega)
    · intro d hd
      show upd (q 2) j (-1) d = -1
      by_cases e : d = j
      · rw [e, pE]
      · rw [pN e]; exact i2 d (by omega)
    · intro d hd
      show upd (q 3) j (-1) d = -1
      by_cases e : d = j
      · rw [e, pE]
      · rw [pN e]; exact i3 d (by omega)
    · intro d hd
      show upd (q 4) j 0 d = 0
      by_cases e : d = j
      · rw [e, pE]
      · rw [pN e]; exact i4 d (by omega)
    · intro s h0 h1 h2 h3 h4
      show va_up (va_up (va_up (va_up (va_up q 0 _) 2 _) 1 _) 3 _) 4 _ s = g s
      rw [uN h4, uN h3, uN h1, uN h2, uN h0]
      exact io s h0 h1 h2 h3 h4
theorem wfg_F (g : Nat → Nat → Int32) : gF (wfg g) := wfg_all.1
theorem wfg_o (h0 : s ≠ 0) (h1 : s ≠ 1) (h2 : s ≠ 2) (h3 : s ≠ 3) (h4 : s ≠ 4) : wfg g s = g s := wfg_all.2 s h0 h1 h2 h3 h4
theorem rQ_fresh (hg : gF g) (hf : f 6 = nI 0 ∧ f 10 = nI 0 ∧ f 14 = nI 0) (hs : sy = nI 0) (h7 : f 7 = M 0 1) (m0 : M 0 0 = 0) (m2 : M 0 2 = 0) (mS : ∀ d, d < 20 → M 0 (3 + d) = -1) (mW : ∀ d, d < 20 → M 0 (23 + d) = -1) (m20 : ∀ d, d < 20 → M 2 d = 10) (m3 : ∀ k, k < 80 → M 3 k = 1) (hl : ∀ l, l < 4 → g 5 l = M 6 l) (hr : inR (g 5 0) 101 ∧ inR (g 5 1) 100 ∧ inR (g 5 2) 100 ∧ inR (g 5 3) 21) : rQ 0 0 0 0 D f g y sy M := by
  obtain ⟨g0, g1, g2, g3, g4⟩ := hg
  refine ⟨by decide, by decide, hf.1, m0, h7, hf.2.1, hs, hf.2.2, ⟨?_, ?_, hl, hr, ?_⟩, ⟨by decide, m2, ?_, ?_, fun s _ h => absurd h (Nat.not_lt_zero s), fun i h => absurd h (Nat.not_lt_zero i), fun i h => absurd h (Nat.not_lt_zero i), ?_, fun i j _ h => absurd h (Nat.not_lt_zero j)⟩, fun i h => absurd h (Nat.not_lt_zero i)⟩
  · intro d hd
    rw [g0 d hd, m20 d hd]
    exact ⟨rfl, 10, by decide, rfl⟩
  · intro k hk
    rw [g1 k hk, m3 k hk]
    exact ⟨rfl, 1, by decide, rfl⟩
  · intro d hd
    unfold mpl
    rw [m3 _ (by omega), m3 _ (by omega), m3 _ (by omega), m3 _ (by omega)]
    decide
  · intro d hd
    rw [Nat.zero_add, mS d hd, g2 d hd]
    exact ⟨rfl, Or.inl rfl⟩
  · intro d hd
    rw [Nat.zero_add, mW d hd, g3 d hd]
  · intro d hd
    rw [g4 d hd]
    rfl
end S98n
