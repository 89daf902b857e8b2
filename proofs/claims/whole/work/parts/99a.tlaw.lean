/-! THE LAW in the tiny machine: every script of at most 320 ints ends with 1 -/
theorem tlaw_ok (L : Nat) (xs : Nat → Int32) (hL : L ≤ 320) : tA (L, xs) iL_law 0 (tini 4 [vR (some 1000000000)]) [] th0 (fun v h => v = some (vI 1) ∧ h.2.1 ≤ 600000 ∧ h.2.2 ≤ 7302250) := by
  obtain ⟨H, R, e⟩ := start0 (L := L) (xs := xs)
  obtain ⟨H', c1, c2, e'⟩ := law_loop (xs := xs) hL (L / 5) 0 H (by omega) (by omega) R
  rw [e, e']
  exact ⟨rfl, c1, c2⟩
