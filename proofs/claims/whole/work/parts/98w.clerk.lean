/-! THE CLERK (to do) -/
section S98w
variable {sc : Nat × (Nat → Int32)} {q : Nat} {H : TH}
theorem c_clerk (hq : q ≤ 64) (R : Rel q H) : Duo sc q iX10_clerk iX11_clerk [vR (some 0), vU] [vR (some 45), vU] H := by
  obtain ⟨D, F, E, M, U, x, G, Y, f, g, y, b, c, cf, cg, tf, tg, rfl, R⟩ := R
  have R0 := R
  obtain ⟨p1, p2, ⟨t, n, cs, t20, n5, w6, m6, w7, w10, s4, w14, hT, hD, hS⟩, p4, p5, p6, p7, p8, p9, p10⟩ := R
  have hA := p2.1
  sorry
end S98w
