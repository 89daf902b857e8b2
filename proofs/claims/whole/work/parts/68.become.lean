/-! A World becomes another one (wip/whole/gen_become.py) -/
section S28
variable {sc : Nat × (Nat → Int32)} {h H : TH} {w w2 n : Nat} {f f2 : Nat → Int32} {g g2 : Nat → Nat → Int32} {y y2 : Nat → Option Nat} {x : Int32} {K : Option TV → TH → Prop}
theorem tcpy_of {a0 a1 n0 n1 : Nat} {sp dp n : Int32} {f g : Nat → Int32} (z0 : h.1 a0 = some (.inl (0, n0, .inl f))) (z1 : h.1 a1 = some (.inl (0, n1, .inl g))) (hc : ¬ (sp < 0 ∨ dp < 0 ∨ n < 0 ∨ n0 < sp.toNatClampNeg + n.toNatClampNeg ∨ n1 < dp.toNatClampNeg + n.toNatClampNeg)) : tcpy h a0 a1 sp dp n = some (tset h a1 (.inl (0, n1, .inl (va_cpy f g sp.toNatClampNeg dp.toNatClampNeg n.toNatClampNeg)))) := by unfold tcpy; rw [z0, z1]; exact if_neg hc
theorem hW_off {k : Nat} (hk : k < w ∨ w + 12 ≤ k) : (hW h w f g y).1 k = h.1 k := rput_off hk
theorem hWo_0 (hh : hW H w2 f2 g2 y2 = H) (hd : w + 12 ≤ w2 ∨ w2 + 12 ≤ w) : (hW H w f g y).1 w2 = some (.inr (9, wobj w2 f2)) := by rw [hW_off (by omega), ← hh]; exact hW_0
theorem hWo_g0 (hh : hW H w2 f2 g2 y2 = H) (hd : w + 12 ≤ w2 ∨ w2 + 12 ≤ w) : tget (hW H w f g y) w2 [9] 0 = some (vR (some (w2 + 1))) := by unfold tget; rw [hWo_0 hh hd]; rfl
theorem hWo_g1 (hh : hW H w2 f2 g2 y2 = H) (hd : w + 12 ≤ w2 ∨ w2 + 12 ≤ w) : tget (hW H w f g y) w2 [9] 1 = some (vR (some (w2 + 2))) := by unfold tget; rw [hWo_0 hh hd]; rfl
theorem hWo_g2 (hh : hW H w2 f2 g2 y2 = H) (hd : w + 12 ≤ w2 ∨ w2 + 12 ≤ w) : tget (hW H w f g y) w2 [9] 2 = some (vR (some (w2 + 3))) := by unfold tget; rw [hWo_0 hh hd]; rfl
theorem hWo_g3 (hh : hW H w2 f2 g2 y2 = H) (hd : w + 12 ≤ w2 ∨ w2 + 12 ≤ w) : tget (hW H w f g y) w2 [9] 3 = some (vR (some (w2 + 4))) := by unfold tget; rw [hWo_0 hh hd]; rfl
theorem hWo_g4 (hh : hW H w2 f2 g2 y2 = H) (hd : w + 12 ≤ w2 ∨ w2 + 12 ≤ w) : tget (hW H w f g y) w2 [9] 4 = some (vR (some (w2 + 5))) := by unfold tget; rw [hWo_0 hh hd]; rfl
theorem hWo_g5 (hh : hW H w2 f2 g2 y2 = H) (hd : w + 12 ≤ w2 ∨ w2 + 12 ≤ w) : tget (hW H w f g y) w2 [9] 5 = some (vR (some (w2 + 6))) := by unfold tget; rw [hWo_0 hh hd]; rfl
theorem hWo_g6 (hh : hW H w2 f2 g2 y2 = H) (hd : w + 12 ≤ w2 ∨ w2 + 12 ≤ w) : tget (hW H w f g y) w2 [9] 6 = some (vI (f2 6)) := by unfold tget; rw [hWo_0 hh hd]; rfl
theorem hWo_g7 (hh : hW H w2 f2 g2 y2 = H) (hd : w + 12 ≤ w2 ∨ w2 + 12 ≤ w) : tget (hW H w f g y) w2 [9] 7 = some (vI (f2 7)) := by unfold tget; rw [hWo_0 hh hd]; rfl
theorem hWo_g8 (hh : hW H w2 f2 g2 y2 = H) (hd : w + 12 ≤ w2 ∨ w2 + 12 ≤ w) : tget (hW H w f g y) w2 [9] 8 = some (vR (some (w2 + 7))) := by unfold tget; rw [hWo_0 hh hd]; rfl
theorem hWo_g9 (hh : hW H w2 f2 g2 y2 = H) (hd : w + 12 ≤ w2 ∨ w2 + 12 ≤ w) : tget (hW H w f g y) w2 [9] 9 = some (vR (some (w2 + 8))) := by unfold tget; rw [hWo_0 hh hd]; rfl
theorem hWo_g10 (hh : hW H w2 f2 g2 y2 = H) (hd : w + 12 ≤ w2 ∨ w2 + 12 ≤ w) : tget (hW H w f g y) w2 [9] 10 = some (vI (f2 10)) := by unfold tget; rw [hWo_0 hh hd]; rfl
theorem hWo_g11 (hh : hW H w2 f2 g2 y2 = H) (hd : w + 12 ≤ w2 ∨ w2 + 12 ≤ w) : tget (hW H w f g y) w2 [9] 11 = some (vR (some (w2 + 9))) := by unfold tget; rw [hWo_0 hh hd]; rfl
theorem hWo_g12 (hh : hW H w2 f2 g2 y2 = H) (hd : w + 12 ≤ w2 ∨ w2 + 12 ≤ w) : tget (hW H w f g y) w2 [9] 12 = some (vR (some (w2 + 10))) := by unfold tget; rw [hWo_0 hh hd]; rfl
theorem hWo_g13 (hh : hW H w2 f2 g2 y2 = H) (hd : w + 12 ≤ w2 ∨ w2 + 12 ≤ w) : tget (hW H w f g y) w2 [9] 13 = some (vR (some (w2 + 11))) := by unfold tget; rw [hWo_0 hh hd]; rfl
theorem hWo_g14 (hh : hW H w2 f2 g2 y2 = H) (hd : w + 12 ≤ w2 ∨ w2 + 12 ≤ w) : tget (hW H w f g y) w2 [9] 14 = some (vI (f2 14)) := by unfold tget; rw [hWo_0 hh hd]; rfl
theorem hWo_a0 (hh : hW H w2 f2 g2 y2 = H) (hd : w + 12 ≤ w2 ∨ w2 + 12 ≤ w) : (hW H w f g y).1 (w2 + 1) = some (.inl (0, 20, .inl (g2 0))) := by rw [hW_off (by omega), ← hh]; exact hW_a0
theorem hW_uu0 {p : Nat → Int32} : va_up (wcf w f g y) 1 (.inl (0, 20, .inl p)) = wcf w f (va_up g 0 p) y := by funext j; match j with | 0 => rfl | 1 => rfl | 2 => rfl | 3 => rfl | 4 => rfl | 5 => rfl | 6 => rfl | 7 => rfl | 8 => rfl | 9 => rfl | 10 => rfl | 11 => rfl | j + 12 => rfl
theorem hWo_c0 (hh : hW H w2 f2 g2 y2 = H) (hd : w + 12 ≤ w2 ∨ w2 + 12 ≤ w) : tcpy (hW H w f g y) (w2 + 1) (w + 1) 0 0 20 = some (hW H w f (va_up g 0 (va_cpy (g2 0) (g 0) 0 0 20)) y) := by
  rw [tcpy_of (hWo_a0 hh hd) hW_a0 (by decide)]
  exact congrArg some (rput_set (j := 1) (by decide) hW_uu0)
theorem hWo_a1 (hh : hW H w2 f2 g2 y2 = H) (hd : w + 12 ≤ w2 ∨ w2 + 12 ≤ w) : (hW H w f g y).1 (w2 + 2) = some (.inl (0, 80, .inl (g2 1))) := by rw [hW_off (by omega), ← hh]; exact hW_a1
theorem hW_uu1 {p : Nat → Int32} : va_up (wcf w f g y) 2 (.inl (0, 80, .inl p)) = wcf w f (va_up g 1 p) y := by funext j; match j with | 0 => rfl | 1 => rfl | 2 => rfl | 3 => rfl | 4 => rfl | 5 => rfl | 6 => rfl | 7 => rfl | 8 => rfl | 9 => rfl | 10 => rfl | 11 => rfl | j + 12 => rfl
theorem hWo_c1 (hh : hW H w2 f2 g2 y2 = H) (hd : w + 12 ≤ w2 ∨ w2 + 12 ≤ w) : tcpy (hW H w f g y) (w2 + 2) (w + 2) 0 0 80 = some (hW H w f (va_up g 1 (va_cpy (g2 1) (g 1) 0 0 80)) y) := by
  rw [tcpy_of (hWo_a1 hh hd) hW_a1 (by decide)]
  exact congrArg some (rput_set (j := 2) (by decide) hW_uu1)
theorem hWo_a2 (hh : hW H w2 f2 g2 y2 = H) (hd : w + 12 ≤ w2 ∨ w2 + 12 ≤ w) : (hW H w f g y).1 (w2 + 3) = some (.inl (0, 20, .inl (g2 2))) := by rw [hW_off (by omega), ← hh]; exact hW_a2
theorem hW_uu2 {p : Nat → Int32} : va_up (wcf w f g y) 3 (.inl (0, 20, .inl p)) = wcf w f (va_up g 2 p) y := by funext j; match j with | 0 => rfl | 1 => rfl | 2 => rfl | 3 => rfl | 4 => rfl | 5 => rfl | 6 => rfl | 7 => rfl | 8 => rfl | 9 => rfl | 10 => rfl | 11 => rfl | j + 12 => rfl
theorem hWo_c2 (hh : hW H w2 f2 g2 y2 = H) (hd : w + 12 ≤ w2 ∨ w2 + 12 ≤ w) : tcpy (hW H w f g y) (w2 + 3) (w + 3) 0 0 20 = some (hW H w f (va_up g 2 (va_cpy (g2 2) (g 2) 0 0 20)) y) := by
  rw [tcpy_of (hWo_a2 hh hd) hW_a2 (by decide)]
  exact congrArg some (rput_set (j := 3) (by decide) hW_uu2)
theorem hWo_a3 (hh : hW H w2 f2 g2 y2 = H) (hd : w + 12 ≤ w2 ∨ w2 + 12 ≤ w) : (hW H w f g y).1 (w2 + 4) = some (.inl (0, 20, .inl (g2 3))) := by rw [hW_off (by omega), ← hh]; exact hW_a3
theorem hW_uu3 {p : Nat → Int32} : va_up (wcf w f g y) 4 (.inl (0, 20, .inl p)) = wcf w f (va_up g 3 p) y := by funext j; match j with | 0 => rfl | 1 => rfl | 2 => rfl | 3 => rfl | 4 => rfl | 5 => rfl | 6 => rfl | 7 => rfl | 8 => rfl | 9 => rfl | 10 => rfl | 11 => rfl | j + 12 => rfl
theorem hWo_c3 (hh : hW H w2 f2 g2 y2 = H) (hd : w + 12 ≤ w2 ∨ w2 + 12 ≤ w) : tcpy (hW H w f g y) (w2 + 4) (w + 4) 0 0 20 = some (hW H w f (va_up g 3 (va_cpy (g2 3) (g 3) 0 0 20)) y) := by
  rw [tcpy_of (hWo_a3 hh hd) hW_a3 (by decide)]
  exact congrArg some (rput_set (j := 4) (by decide) hW_uu3)
theorem hWo_a4 (hh : hW H w2 f2 g2 y2 = H) (hd : w + 12 ≤ w2 ∨ w2 + 12 ≤ w) : (hW H w f g y).1 (w2 + 5) = some (.inl (0, 20, .inl (g2 4))) := by rw [hW_off (by omega), ← hh]; exact hW_a4
theorem hW_uu4 {p : Nat → Int32} : va_up (wcf w f g y) 5 (.inl (0, 20, .inl p)) = wcf w f (va_up g 4 p) y := by funext j; match j with | 0 => rfl | 1 => rfl | 2 => rfl | 3 => rfl | 4 => rfl | 5 => rfl | 6 => rfl | 7 => rfl | 8 => rfl | 9 => rfl | 10 => rfl | 11 => rfl | j + 12 => rfl
theorem hWo_c4 (hh : hW H w2 f2 g2 y2 = H) (hd : w + 12 ≤ w2 ∨ w2 + 12 ≤ w) : tcpy (hW H w f g y) (w2 + 5) (w + 5) 0 0 20 = some (hW H w f (va_up g 4 (va_cpy (g2 4) (g 4) 0 0 20)) y) := by
  rw [tcpy_of (hWo_a4 hh hd) hW_a4 (by decide)]
  exact congrArg some (rput_set (j := 5) (by decide) hW_uu4)
theorem hWo_a5 (hh : hW H w2 f2 g2 y2 = H) (hd : w + 12 ≤ w2 ∨ w2 + 12 ≤ w) : (hW H w f g y).1 (w2 + 6) = some (.inl (0, 4, .inl (g2 5))) := by rw [hW_off (by omega), ← hh]; exact hW_a5
theorem hW_uu5 {p : Nat → Int32} : va_up (wcf w f g y) 6 (.inl (0, 4, .inl p)) = wcf w f (va_up g 5 p) y := by funext j; match j with | 0 => rfl | 1 => rfl | 2 => rfl | 3 => rfl | 4 => rfl | 5 => rfl | 6 => rfl | 7 => rfl | 8 => rfl | 9 => rfl | 10 => rfl | 11 => rfl | j + 12 => rfl
theorem hWo_c5 (hh : hW H w2 f2 g2 y2 = H) (hd : w + 12 ≤ w2 ∨ w2 + 12 ≤ w) : tcpy (hW H w f g y) (w2 + 6) (w + 6) 0 0 4 = some (hW H w f (va_up g 5 (va_cpy (g2 5) (g 5) 0 0 4)) y) := by
  rw [tcpy_of (hWo_a5 hh hd) hW_a5 (by decide)]
  exact congrArg some (rput_set (j := 6) (by decide) hW_uu5)
theorem hWo_a9 (hh : hW H w2 f2 g2 y2 = H) (hd : w + 12 ≤ w2 ∨ w2 + 12 ≤ w) : (hW H w f g y).1 (w2 + 8) = some (.inl (0, 5, .inl (g2 9))) := by rw [hW_off (by omega), ← hh]; exact hW_a9
theorem hW_uu9 {p : Nat → Int32} : va_up (wcf w f g y) 8 (.inl (0, 5, .inl p)) = wcf w f (va_up g 9 p) y := by funext j; match j with | 0 => rfl | 1 => rfl | 2 => rfl | 3 => rfl | 4 => rfl | 5 => rfl | 6 => rfl | 7 => rfl | 8 => rfl | 9 => rfl | 10 => rfl | 11 => rfl | j + 12 => rfl
theorem hWo_c9 (hh : hW H w2 f2 g2 y2 = H) (hd : w + 12 ≤ w2 ∨ w2 + 12 ≤ w) : tcpy (hW H w f g y) (w2 + 8) (w + 8) 0 0 5 = some (hW H w f (va_up g 9 (va_cpy (g2 9) (g 9) 0 0 5)) y) := by
  rw [tcpy_of (hWo_a9 hh hd) hW_a9 (by decide)]
  exact congrArg some (rput_set (j := 8) (by decide) hW_uu9)
theorem hWo_a11 (hh : hW H w2 f2 g2 y2 = H) (hd : w + 12 ≤ w2 ∨ w2 + 12 ≤ w) : (hW H w f g y).1 (w2 + 9) = some (.inl (0, 40, .inl (g2 11))) := by rw [hW_off (by omega), ← hh]; exact hW_a11
theorem hW_uu11 {p : Nat → Int32} : va_up (wcf w f g y) 9 (.inl (0, 40, .inl p)) = wcf w f (va_up g 11 p) y := by funext j; match j with | 0 => rfl | 1 => rfl | 2 => rfl | 3 => rfl | 4 => rfl | 5 => rfl | 6 => rfl | 7 => rfl | 8 => rfl | 9 => rfl | 10 => rfl | 11 => rfl | j + 12 => rfl
theorem hWo_c11 (hh : hW H w2 f2 g2 y2 = H) (hd : w + 12 ≤ w2 ∨ w2 + 12 ≤ w) : tcpy (hW H w f g y) (w2 + 9) (w + 9) 0 0 40 = some (hW H w f (va_up g 11 (va_cpy (g2 11) (g 11) 0 0 40)) y) := by
  rw [tcpy_of (hWo_a11 hh hd) hW_a11 (by decide)]
  exact congrArg some (rput_set (j := 9) (by decide) hW_uu11)
theorem hWo_a12 (hh : hW H w2 f2 g2 y2 = H) (hd : w + 12 ≤ w2 ∨ w2 + 12 ≤ w) : (hW H w f g y).1 (w2 + 10) = some (.inl (0, 40, .inl (g2 12))) := by rw [hW_off (by omega), ← hh]; exact hW_a12
theorem hW_uu12 {p : Nat → Int32} : va_up (wcf w f g y) 10 (.inl (0, 40, .inl p)) = wcf w f (va_up g 12 p) y := by funext j; match j with | 0 => rfl | 1 => rfl | 2 => rfl | 3 => rfl | 4 => rfl | 5 => rfl | 6 => rfl | 7 => rfl | 8 => rfl | 9 => rfl | 10 => rfl | 11 => rfl | j + 12 => rfl
theorem hWo_c12 (hh : hW H w2 f2 g2 y2 = H) (hd : w + 12 ≤ w2 ∨ w2 + 12 ≤ w) : tcpy (hW H w f g y) (w2 + 10) (w + 10) 0 0 40 = some (hW H w f (va_up g 12 (va_cpy (g2 12) (g 12) 0 0 40)) y) := by
  rw [tcpy_of (hWo_a12 hh hd) hW_a12 (by decide)]
  exact congrArg some (rput_set (j := 10) (by decide) hW_uu12)
theorem hWo_a13 (hh : hW H w2 f2 g2 y2 = H) (hd : w + 12 ≤ w2 ∨ w2 + 12 ≤ w) : (hW H w f g y).1 (w2 + 11) = some (.inl (0, 40, .inl (g2 13))) := by rw [hW_off (by omega), ← hh]; exact hW_a13
theorem hW_uu13 {p : Nat → Int32} : va_up (wcf w f g y) 11 (.inl (0, 40, .inl p)) = wcf w f (va_up g 13 p) y := by funext j; match j with | 0 => rfl | 1 => rfl | 2 => rfl | 3 => rfl | 4 => rfl | 5 => rfl | 6 => rfl | 7 => rfl | 8 => rfl | 9 => rfl | 10 => rfl | 11 => rfl | j + 12 => rfl
theorem hWo_c13 (hh : hW H w2 f2 g2 y2 = H) (hd : w + 12 ≤ w2 ∨ w2 + 12 ≤ w) : tcpy (hW H w f g y) (w2 + 11) (w + 11) 0 0 40 = some (hW H w f (va_up g 13 (va_cpy (g2 13) (g 13) 0 0 40)) y) := by
  rw [tcpy_of (hWo_a13 hh hd) hW_a13 (by decide)]
  exact congrArg some (rput_set (j := 11) (by decide) hW_uu13)
theorem hWo_r8 (hh : hW H w2 f2 g2 y2 = H) (hd : w + 12 ≤ w2 ∨ w2 + 12 ≤ w) (hn : n < 5) : tldr (hW H w f g y) (w2 + 7) (nI n) = some (y2 n) := by
  have e : (hW H w f g y).1 (w2 + 7) = some (.inl (3, 5, .inr (.inr (.inr (.inr y2))))) := by rw [hW_off (by omega), ← hh]; exact hW_a8
  unfold tldr; rw [e]; dsimp only; rw [if_pos ⟨Or.inl rfl, nI_in hn (by decide)⟩, nI_clamp (by omega)]
theorem hW_u8 {p : Nat → Option Nat} : va_up (wcf w f g y) 7 (.inl (3, 5, .inr (.inr (.inr (.inr p))))) = wcf w f g p := by funext j; match j with | 0 => rfl | 1 => rfl | 2 => rfl | 3 => rfl | 4 => rfl | 5 => rfl | 6 => rfl | 7 => rfl | 8 => rfl | 9 => rfl | 10 => rfl | 11 => rfl | j + 12 => rfl
/-- what may lie in a row of sayers, beside a World at w -/
def okY (H : TH) (w : Nat) (r : Option Nat) : Prop := r = none ∨ ∃ o ci : Nat, r = some o ∧ (o < w ∨ w + 12 ≤ o) ∧ tcl H o = some ci ∧ tfitc 3 ci = true
theorem hW_w8 {r : Option Nat} (hn : n < 5) (hr : okY H w r) : tasr (hW H w f g y) (w + 7) (nI n) r = some (hW H w f g (va_up y n r)) := by
  have e : tset (hW H w f g y) (w + 7) (.inl (3, 5, .inr (.inr (.inr (.inr (va_up y n r)))))) = hW H w f g (va_up y n r) := rput_set (j := 7) (by decide) hW_u8
  unfold tasr
  rw [hW_a8]
  dsimp only
  rw [if_pos ⟨Or.inl rfl, nI_in hn (by decide)⟩, nI_clamp (by omega)]
  rcases hr with rfl | ⟨o, ci, rfl, h1, h2, h3⟩
  · dsimp only
    rw [e]
  · dsimp only
    have e2 : tcl (hW H w f g y) o = some ci := by
      unfold tcl at h2 ⊢
      rw [hW_off h1]
      exact h2
    rw [e2]
    dsimp only
    rw [if_pos h3, e]
theorem le5_t : ((5 : Int32) ≤ nI 5) = True := by decide
/-- what becomes of the rows -/
def wbecG (g g2 : Nat → Nat → Int32) : Nat → Nat → Int32 := va_up (va_up (va_up (va_up (va_up (va_up (va_up (va_up (va_up (va_up g 0 (va_cpy (g2 0) (g 0) 0 0 20)) 1 (va_cpy (g2 1) (g 1) 0 0 80)) 2 (va_cpy (g2 2) (g 2) 0 0 20)) 3 (va_cpy (g2 3) (g 3) 0 0 20)) 4 (va_cpy (g2 4) (g 4) 0 0 20)) 5 (va_cpy (g2 5) (g 5) 0 0 4)) 9 (va_cpy (g2 9) (g 9) 0 0 5)) 11 (va_cpy (g2 11) (g 11) 0 0 40)) 12 (va_cpy (g2 12) (g 12) 0 0 40)) 13 (va_cpy (g2 13) (g 13) 0 0 40)
def wbecF (f f2 : Nat → Int32) : Nat → Int32 := upd (upd (upd (upd f 6 (f2 6)) 7 (f2 7)) 10 (f2 10)) 14 (f2 14)
def wbecY (y y2 : Nat → Option Nat) : Nat → Option Nat := lfold (fun i y => va_up y i (y2 i)) 5 0 y
set_option maxHeartbeats 4000000 in
theorem sX9_become (hh : hW H w2 f2 g2 y2 = H) (hd : w + 12 ≤ w2 ∨ w2 + 12 ≤ w) (hY : ∀ i, i < 5 → okY H w (y2 i)) : tA sc iX9_become 0 [vR (some w), vR (some w2), vU] [] (hW H w f g y) K = K none (hW H w (wbecF f f2) (wbecG g g2) (wbecY y y2)) := by
  have fin : ∀ f g y, tA sc iX9_become 130 [vR (some w), vR (some w2), vI (nI 5)] [] (hW H w f g y) K = K none (hW H w (upd (upd f 10 (f2 10)) 14 (f2 14)) (va_up (va_up (va_up (va_up g 9 (va_cpy (g2 9) (g 9) 0 0 5)) 11 (va_cpy (g2 11) (g 11) 0 0 40)) 12 (va_cpy (g2 12) (g 12) 0 0 40)) 13 (va_cpy (g2 13) (g 13) 0 0 40)) y) := by
    intro f g y
    simp (disch := first | omega | assumption) only [rX9_become_0, rX9_become_1, rX9_become_4, rX9_become_5, rX9_become_6, rX9_become_9, rX9_become_10, rX9_become_12, rX9_become_15, rX9_become_16, rX9_become_19, rX9_become_20, rX9_become_21, rX9_become_24, rX9_become_25, rX9_become_27, rX9_become_30, rX9_become_31, rX9_become_34, rX9_become_35, rX9_become_36, rX9_become_39, rX9_become_40, rX9_become_42, rX9_become_45, rX9_become_46, rX9_become_49, rX9_become_50, rX9_become_51, rX9_become_54, rX9_become_55, rX9_become_57, rX9_become_60, rX9_become_61, rX9_become_64, rX9_become_65, rX9_become_66, rX9_become_69, rX9_become_70, rX9_become_72, rX9_become_75, rX9_become_76, rX9_become_79, rX9_become_80, rX9_become_81, rX9_become_84, rX9_become_85, rX9_become_86, rX9_become_89, rX9_become_90, rX9_become_91, rX9_become_94, rX9_become_97, rX9_become_98, rX9_become_99, rX9_become_102, rX9_become_105, rX9_become_106, rX9_become_108, rX9_become_109, rX9_become_112, rX9_become_113, rX9_become_116, rX9_become_117, rX9_become_118, rX9_become_121, rX9_become_122, rX9_become_123, rX9_become_124, rX9_become_127, rX9_become_130, rX9_become_131, rX9_become_134, rX9_become_135, rX9_become_136, rX9_become_139, rX9_become_140, rX9_become_141, rX9_become_144, rX9_become_145, rX9_become_146, rX9_become_149, rX9_become_152, rX9_become_153, rX9_become_156, rX9_become_157, rX9_become_158, rX9_become_161, rX9_become_162, rX9_become_164, rX9_become_167, rX9_become_168, rX9_become_171, rX9_become_172, rX9_become_173, rX9_become_176, rX9_become_177, rX9_become_179, rX9_become_182, rX9_become_183, rX9_become_186, rX9_become_187, rX9_become_188, rX9_become_191, rX9_become_192, rX9_become_194, rX9_become_197, rX9_become_198, rX9_become_199, rX9_become_202, rX9_become_205, hWo_g9 hh hd, hWo_g10 hh hd, hWo_g11 hh hd, hWo_g12 hh hd, hWo_g13 hh hd, hWo_g14 hh hd, hWo_c9 hh hd, hWo_c11 hh hd, hWo_c12 hh hd, hWo_c13 hh hd, hW_cl, hW_g0, hW_g1, hW_g2, hW_g3, hW_g4, hW_g5, hW_g6, hW_g7, hW_g8, hW_g9, hW_g10, hW_g11, hW_g12, hW_g13, hW_g14, hW_r0, hW_r1, hW_r2, hW_r3, hW_r4, hW_r5, hW_r8, hW_r9, hW_r11, hW_r12, hW_r13, hW_w0, hW_w1, hW_w2, hW_w3, hW_w4, hW_w5, hW_w9, hW_w11, hW_w12, hW_w13, hW_p6, hW_p7, hW_p10, hW_p14, hW_l0, hW_l1, hW_l2, hW_l3, oz_some, uN]
  have L : ∀ f g, tA sc iX9_become 107 [vR (some w), vR (some w2), vI (nI 0)] [] (hW H w f g y) K = tA sc iX9_become 130 [vR (some w), vR (some w2), vI (nI 5)] [] (hW H w f g (wbecY y y2)) K := by
    intro f g
    refine loopA (fun i (y : Nat → Option Nat) => tA sc iX9_become 107 [vR (some w), vR (some w2), vI (nI i)] [] (hW H w f g y) K) (fun y => tA sc iX9_become 130 [vR (some w), vR (some w2), vI (nI 5)] [] (hW H w f g y) K) (fun i y => va_up y i (y2 i)) 5 ?_ ?_ 5 0 y (by omega)
    · intro y
      rw [rX9_become_107]
      simp only [rX9_become_108, rX9_become_109, le5_t, if_true]
    · intro i y hi
      rw [rX9_become_107]
      have hYi := hY i hi
      simp (disch := first | omega | assumption) only [rX9_become_108, rX9_become_109, rX9_become_112, rX9_become_113, rX9_become_116, rX9_become_117, rX9_become_118, rX9_become_121, rX9_become_122, rX9_become_123, rX9_become_124, rX9_become_127, hWo_g8 hh hd, hWo_r8 hh hd, hW_g8, hW_w8, le5_f, if_false, oz_some, tclr_R, tclr_I, nI_1]
  have k0 : ([vR (some w), vR (some w2), vI 0] : List TV) = [vR (some w), vR (some w2), vI (nI 0)] := rfl
  simp (disch := first | omega | assumption) only [rX9_become_0, rX9_become_1, rX9_become_4, rX9_become_5, rX9_become_6, rX9_become_9, rX9_become_10, rX9_become_12, rX9_become_15, rX9_become_16, rX9_become_19, rX9_become_20, rX9_become_21, rX9_become_24, rX9_become_25, rX9_become_27, rX9_become_30, rX9_become_31, rX9_become_34, rX9_become_35, rX9_become_36, rX9_become_39, rX9_become_40, rX9_become_42, rX9_become_45, rX9_become_46, rX9_become_49, rX9_become_50, rX9_become_51, rX9_become_54, rX9_become_55, rX9_become_57, rX9_become_60, rX9_become_61, rX9_become_64, rX9_become_65, rX9_become_66, rX9_become_69, rX9_become_70, rX9_become_72, rX9_become_75, rX9_become_76, rX9_become_79, rX9_become_80, rX9_become_81, rX9_become_84, rX9_become_85, rX9_become_86, rX9_become_89, rX9_become_90, rX9_become_91, rX9_become_94, rX9_become_97, rX9_become_98, rX9_become_99, rX9_become_102, rX9_become_105, rX9_become_106, rX9_become_108, rX9_become_109, rX9_become_112, rX9_become_113, rX9_become_116, rX9_become_117, rX9_become_118, rX9_become_121, rX9_become_122, rX9_become_123, rX9_become_124, rX9_become_127, rX9_become_130, rX9_become_131, rX9_become_134, rX9_become_135, rX9_become_136, rX9_become_139, rX9_become_140, rX9_become_141, rX9_become_144, rX9_become_145, rX9_become_146, rX9_become_149, rX9_become_152, rX9_become_153, rX9_become_156, rX9_become_157, rX9_become_158, rX9_become_161, rX9_become_162, rX9_become_164, rX9_become_167, rX9_become_168, rX9_become_171, rX9_become_172, rX9_become_173, rX9_become_176, rX9_become_177, rX9_become_179, rX9_become_182, rX9_become_183, rX9_become_186, rX9_become_187, rX9_become_188, rX9_become_191, rX9_become_192, rX9_become_194, rX9_become_197, rX9_become_198, rX9_become_199, rX9_become_202, rX9_become_205, hWo_g0 hh hd, hWo_g1 hh hd, hWo_g2 hh hd, hWo_g3 hh hd, hWo_g4 hh hd, hWo_g5 hh hd, hWo_g6 hh hd, hWo_g7 hh hd, hWo_c0 hh hd, hWo_c1 hh hd, hWo_c2 hh hd, hWo_c3 hh hd, hWo_c4 hh hd, hWo_c5 hh hd, hW_cl, hW_g0, hW_g1, hW_g2, hW_g3, hW_g4, hW_g5, hW_g6, hW_g7, hW_g8, hW_g9, hW_g10, hW_g11, hW_g12, hW_g13, hW_g14, hW_r0, hW_r1, hW_r2, hW_r3, hW_r4, hW_r5, hW_r8, hW_r9, hW_r11, hW_r12, hW_r13, hW_w0, hW_w1, hW_w2, hW_w3, hW_w4, hW_w5, hW_w9, hW_w11, hW_w12, hW_w13, hW_p6, hW_p7, hW_p10, hW_p14, hW_l0, hW_l1, hW_l2, hW_l3, oz_some, tclr_I, tclr_R, tclr_U, uN]
  rw [k0, L, fin]
  rfl
end S28
