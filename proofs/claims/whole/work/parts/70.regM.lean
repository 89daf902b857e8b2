/-! REGIONS: the Model, the Clerk, the Trace (wip/whole/gen_reg2.py) -/
def oM (w : Nat) (f : Nat → Int32) (e : Nat → Int64) : Nat → TV := fun k => match k with
  | 0 => vR (some (w + 1))
  | 1 => vI (f 1)
  | 2 => vR (some (w + 2))
  | 3 => vR (some (w + 3))
  | 4 => vI (f 4)
  | 5 => vR (some (w + 4))
  | 6 => vR (some (w + 5))
  | 7 => vR (some (w + 6))
  | 8 => vR (some (w + 7))
  | 9 => vI (f 9)
  | 10 => vI (f 10)
  | 11 => vI (f 11)
  | 12 => vI (f 12)
  | 13 => vL (e 13)
  | 14 => vI (f 14)
  | 15 => vI (f 15)
  | 16 => vI (f 16)
  | 17 => vI (f 17)
  | 18 => vI (f 18)
  | 19 => vR (some (w + 8))
  | 20 => vR (some (w + 9))
  | 21 => vR (some (w + 10))
  | 22 => vR (some (w + 11))
  | 23 => vR (some (w + 12))
  | 24 => vR (some (w + 13))
  | 25 => vI (f 25)
  | 26 => vI (f 26)
  | 27 => vI (f 27)
  | 28 => vI (f 28)
  | 29 => vL (e 29)
  | 30 => vL (e 30)
  | 31 => vI (f 31)
  | 32 => vI (f 32)
  | 33 => vR (some (w + 14))
  | 34 => vR (some (w + 15))
  | 35 => vI (f 35)
  | 36 => vI (f 36)
  | 37 => vR (some (w + 16))
  | 38 => vR (some (w + 17))
  | 39 => vR (some (w + 18))
  | 40 => vR (some (w + 19))
  | 41 => vR (some (w + 20))
  | 42 => vR (some (w + 21))
  | 43 => vI (f 43)
  | 44 => vI (f 44)
  | 45 => vI (f 45)
  | 46 => vR (some (w + 22))
  | 47 => vI (f 47)
  | 48 => vI (f 48)
  | 49 => vI (f 49)
  | 50 => vR (some (w + 23))
  | 51 => vI (f 51)
  | 52 => vR (some (w + 24))
  | _ => vI 0
def cM (w : Nat) (f : Nat → Int32) (e : Nat → Int64) (g : Nat → Nat → Int32) (u : Nat → Nat → Int64) : Nat → TC := fun j => match j with
  | 0 => .inr (11, oM w f e)
  | 1 => .inl (0, 336, .inl (g 0))
  | 2 => .inl (0, 20, .inl (g 2))
  | 3 => .inl (0, 80, .inl (g 3))
  | 4 => .inl (0, 10, .inl (g 5))
  | 5 => .inl (0, 4, .inl (g 6))
  | 6 => .inl (0, 4, .inl (g 7))
  | 7 => .inl (0, 240, .inl (g 8))
  | 8 => .inl (0, 20, .inl (g 19))
  | 9 => .inl (0, 80, .inl (g 20))
  | 10 => .inl (0, 20, .inl (g 21))
  | 11 => .inl (0, 10, .inl (g 22))
  | 12 => .inl (0, 120, .inl (g 23))
  | 13 => .inl (0, 4, .inl (g 24))
  | 14 => .inl (0, 60, .inl (g 33))
  | 15 => .inl (0, 60, .inl (g 34))
  | 16 => .inl (0, 4, .inl (g 37))
  | 17 => .inl (0, 4, .inl (g 38))
  | 18 => .inl (2, 160, .inr (.inl (u 39)))
  | 19 => .inl (0, 4, .inl (g 40))
  | 20 => .inl (0, 4, .inl (g 41))
  | 21 => .inl (0, 4, .inl (g 42))
  | 22 => .inl (0, 30, .inl (g 46))
  | 23 => .inl (0, 290, .inl (g 50))
  | 24 => .inl (0, 1, .inl (g 52))
  | _ => tcell0
def hM (h : TH) (w : Nat) (f : Nat → Int32) (e : Nat → Int64) (g : Nat → Nat → Int32) (u : Nat → Nat → Int64) : TH := rput 25 (cM w f e g u) h w
section RM
variable {sc : Nat × (Nat → Int32)} {h : TH} {w n : Nat} {f : Nat → Int32} {e : Nat → Int64} {g : Nat → Nat → Int32} {u : Nat → Nat → Int64} {x : Int32} {z : Int64}
theorem hM_0 : (hM h w f e g u).1 w = some (.inr (11, oM w f e)) := rput_at (j := 0) (by decide)
theorem hM_cl : tcl (hM h w f e g u) w = some 11 := by unfold tcl; rw [hM_0]
theorem hM_g0 : tget (hM h w f e g u) w [11] 0 = some (vR (some (w + 1))) := by unfold tget; rw [hM_0]; rfl
theorem hM_g1 : tget (hM h w f e g u) w [11] 1 = some (vI (f 1)) := by unfold tget; rw [hM_0]; rfl
theorem hM_g2 : tget (hM h w f e g u) w [11] 2 = some (vR (some (w + 2))) := by unfold tget; rw [hM_0]; rfl
theorem hM_g3 : tget (hM h w f e g u) w [11] 3 = some (vR (some (w + 3))) := by unfold tget; rw [hM_0]; rfl
theorem hM_g4 : tget (hM h w f e g u) w [11] 4 = some (vI (f 4)) := by unfold tget; rw [hM_0]; rfl
theorem hM_g5 : tget (hM h w f e g u) w [11] 5 = some (vR (some (w + 4))) := by unfold tget; rw [hM_0]; rfl
theorem hM_g6 : tget (hM h w f e g u) w [11] 6 = some (vR (some (w + 5))) := by unfold tget; rw [hM_0]; rfl
theorem hM_g7 : tget (hM h w f e g u) w [11] 7 = some (vR (some (w + 6))) := by unfold tget; rw [hM_0]; rfl
theorem hM_g8 : tget (hM h w f e g u) w [11] 8 = some (vR (some (w + 7))) := by unfold tget; rw [hM_0]; rfl
theorem hM_g9 : tget (hM h w f e g u) w [11] 9 = some (vI (f 9)) := by unfold tget; rw [hM_0]; rfl
theorem hM_g10 : tget (hM h w f e g u) w [11] 10 = some (vI (f 10)) := by unfold tget; rw [hM_0]; rfl
theorem hM_g11 : tget (hM h w f e g u) w [11] 11 = some (vI (f 11)) := by unfold tget; rw [hM_0]; rfl
theorem hM_g12 : tget (hM h w f e g u) w [11] 12 = some (vI (f 12)) := by unfold tget; rw [hM_0]; rfl
theorem hM_g13 : tget (hM h w f e g u) w [11] 13 = some (vL (e 13)) := by unfold tget; rw [hM_0]; rfl
theorem hM_g14 : tget (hM h w f e g u) w [11] 14 = some (vI (f 14)) := by unfold tget; rw [hM_0]; rfl
theorem hM_g15 : tget (hM h w f e g u) w [11] 15 = some (vI (f 15)) := by unfold tget; rw [hM_0]; rfl
theorem hM_g16 : tget (hM h w f e g u) w [11] 16 = some (vI (f 16)) := by unfold tget; rw [hM_0]; rfl
theorem hM_g17 : tget (hM h w f e g u) w [11] 17 = some (vI (f 17)) := by unfold tget; rw [hM_0]; rfl
theorem hM_g18 : tget (hM h w f e g u) w [11] 18 = some (vI (f 18)) := by unfold tget; rw [hM_0]; rfl
theorem hM_g19 : tget (hM h w f e g u) w [11] 19 = some (vR (some (w + 8))) := by unfold tget; rw [hM_0]; rfl
theorem hM_g20 : tget (hM h w f e g u) w [11] 20 = some (vR (some (w + 9))) := by unfold tget; rw [hM_0]; rfl
theorem hM_g21 : tget (hM h w f e g u) w [11] 21 = some (vR (some (w + 10))) := by unfold tget; rw [hM_0]; rfl
theorem hM_g22 : tget (hM h w f e g u) w [11] 22 = some (vR (some (w + 11))) := by unfold tget; rw [hM_0]; rfl
theorem hM_g23 : tget (hM h w f e g u) w [11] 23 = some (vR (some (w + 12))) := by unfold tget; rw [hM_0]; rfl
theorem hM_g24 : tget (hM h w f e g u) w [11] 24 = some (vR (some (w + 13))) := by unfold tget; rw [hM_0]; rfl
theorem hM_g25 : tget (hM h w f e g u) w [11] 25 = some (vI (f 25)) := by unfold tget; rw [hM_0]; rfl
theorem hM_g26 : tget (hM h w f e g u) w [11] 26 = some (vI (f 26)) := by unfold tget; rw [hM_0]; rfl
theorem hM_g27 : tget (hM h w f e g u) w [11] 27 = some (vI (f 27)) := by unfold tget; rw [hM_0]; rfl
theorem hM_g28 : tget (hM h w f e g u) w [11] 28 = some (vI (f 28)) := by unfold tget; rw [hM_0]; rfl
theorem hM_g29 : tget (hM h w f e g u) w [11] 29 = some (vL (e 29)) := by unfold tget; rw [hM_0]; rfl
theorem hM_g30 : tget (hM h w f e g u) w [11] 30 = some (vL (e 30)) := by unfold tget; rw [hM_0]; rfl
theorem hM_g31 : tget (hM h w f e g u) w [11] 31 = some (vI (f 31)) := by unfold tget; rw [hM_0]; rfl
theorem hM_g32 : tget (hM h w f e g u) w [11] 32 = some (vI (f 32)) := by unfold tget; rw [hM_0]; rfl
theorem hM_g33 : tget (hM h w f e g u) w [11] 33 = some (vR (some (w + 14))) := by unfold tget; rw [hM_0]; rfl
theorem hM_g34 : tget (hM h w f e g u) w [11] 34 = some (vR (some (w + 15))) := by unfold tget; rw [hM_0]; rfl
theorem hM_g35 : tget (hM h w f e g u) w [11] 35 = some (vI (f 35)) := by unfold tget; rw [hM_0]; rfl
theorem hM_g36 : tget (hM h w f e g u) w [11] 36 = some (vI (f 36)) := by unfold tget; rw [hM_0]; rfl
theorem hM_g37 : tget (hM h w f e g u) w [11] 37 = some (vR (some (w + 16))) := by unfold tget; rw [hM_0]; rfl
theorem hM_g38 : tget (hM h w f e g u) w [11] 38 = some (vR (some (w + 17))) := by unfold tget; rw [hM_0]; rfl
theorem hM_g39 : tget (hM h w f e g u) w [11] 39 = some (vR (some (w + 18))) := by unfold tget; rw [hM_0]; rfl
theorem hM_g40 : tget (hM h w f e g u) w [11] 40 = some (vR (some (w + 19))) := by unfold tget; rw [hM_0]; rfl
theorem hM_g41 : tget (hM h w f e g u) w [11] 41 = some (vR (some (w + 20))) := by unfold tget; rw [hM_0]; rfl
theorem hM_g42 : tget (hM h w f e g u) w [11] 42 = some (vR (some (w + 21))) := by unfold tget; rw [hM_0]; rfl
theorem hM_g43 : tget (hM h w f e g u) w [11] 43 = some (vI (f 43)) := by unfold tget; rw [hM_0]; rfl
theorem hM_g44 : tget (hM h w f e g u) w [11] 44 = some (vI (f 44)) := by unfold tget; rw [hM_0]; rfl
theorem hM_g45 : tget (hM h w f e g u) w [11] 45 = some (vI (f 45)) := by unfold tget; rw [hM_0]; rfl
theorem hM_g46 : tget (hM h w f e g u) w [11] 46 = some (vR (some (w + 22))) := by unfold tget; rw [hM_0]; rfl
theorem hM_g47 : tget (hM h w f e g u) w [11] 47 = some (vI (f 47)) := by unfold tget; rw [hM_0]; rfl
theorem hM_g48 : tget (hM h w f e g u) w [11] 48 = some (vI (f 48)) := by unfold tget; rw [hM_0]; rfl
theorem hM_g49 : tget (hM h w f e g u) w [11] 49 = some (vI (f 49)) := by unfold tget; rw [hM_0]; rfl
theorem hM_g50 : tget (hM h w f e g u) w [11] 50 = some (vR (some (w + 23))) := by unfold tget; rw [hM_0]; rfl
theorem hM_g51 : tget (hM h w f e g u) w [11] 51 = some (vI (f 51)) := by unfold tget; rw [hM_0]; rfl
theorem hM_g52 : tget (hM h w f e g u) w [11] 52 = some (vR (some (w + 24))) := by unfold tget; rw [hM_0]; rfl
theorem hM_a0 : (hM h w f e g u).1 (w + 1) = some (.inl (0, 336, .inl (g 0))) := rput_at (j := 1) (by decide)
theorem hM_r0 (hn : n < 336) : tald sc (hM h w f e g u) 0 (w + 1) (nI n) = some (g 0 n) := by unfold tald tai; rw [hM_a0]; dsimp only; rw [if_pos ⟨rfl, nI_in hn (by decide)⟩, nI_clamp (by omega)]
theorem hM_u0 {p : Nat → Int32} : va_up (cM w f e g u) 1 (.inl (0, 336, .inl p)) = cM w f e (va_up g 0 p) u := by funext j; match j with | 0 => rfl | 1 => rfl | 2 => rfl | 3 => rfl | 4 => rfl | 5 => rfl | 6 => rfl | 7 => rfl | 8 => rfl | 9 => rfl | 10 => rfl | 11 => rfl | 12 => rfl | 13 => rfl | 14 => rfl | 15 => rfl | 16 => rfl | 17 => rfl | 18 => rfl | 19 => rfl | 20 => rfl | 21 => rfl | 22 => rfl | 23 => rfl | 24 => rfl | j + 25 => rfl
theorem hM_w0 (hn : n < 336) : tasi (hM h w f e g u) (w + 1) (nI n) x = some (hM h w f e (va_up g 0 (upd (g 0) n x)) u) := by rw [tasi_of hM_a0 (nI_in hn (by decide)), nI_clamp (by omega)]; exact congrArg some (rput_set (j := 1) (by decide) hM_u0)
theorem hM_r0_0 : tald sc (hM h w f e g u) 0 (w + 1) 0 = some (g 0 0) := hM_r0 (n := 0) (by decide)
theorem hM_w0_0 : tasi (hM h w f e g u) (w + 1) 0 x = some (hM h w f e (va_up g 0 (upd (g 0) 0 x)) u) := hM_w0 (n := 0) (by decide)
theorem hM_r0_1 : tald sc (hM h w f e g u) 0 (w + 1) 1 = some (g 0 1) := hM_r0 (n := 1) (by decide)
theorem hM_w0_1 : tasi (hM h w f e g u) (w + 1) 1 x = some (hM h w f e (va_up g 0 (upd (g 0) 1 x)) u) := hM_w0 (n := 1) (by decide)
theorem hM_r0_2 : tald sc (hM h w f e g u) 0 (w + 1) 2 = some (g 0 2) := hM_r0 (n := 2) (by decide)
theorem hM_w0_2 : tasi (hM h w f e g u) (w + 1) 2 x = some (hM h w f e (va_up g 0 (upd (g 0) 2 x)) u) := hM_w0 (n := 2) (by decide)
theorem hM_a2 : (hM h w f e g u).1 (w + 2) = some (.inl (0, 20, .inl (g 2))) := rput_at (j := 2) (by decide)
theorem hM_r2 (hn : n < 20) : tald sc (hM h w f e g u) 0 (w + 2) (nI n) = some (g 2 n) := by unfold tald tai; rw [hM_a2]; dsimp only; rw [if_pos ⟨rfl, nI_in hn (by decide)⟩, nI_clamp (by omega)]
theorem hM_u2 {p : Nat → Int32} : va_up (cM w f e g u) 2 (.inl (0, 20, .inl p)) = cM w f e (va_up g 2 p) u := by funext j; match j with | 0 => rfl | 1 => rfl | 2 => rfl | 3 => rfl | 4 => rfl | 5 => rfl | 6 => rfl | 7 => rfl | 8 => rfl | 9 => rfl | 10 => rfl | 11 => rfl | 12 => rfl | 13 => rfl | 14 => rfl | 15 => rfl | 16 => rfl | 17 => rfl | 18 => rfl | 19 => rfl | 20 => rfl | 21 => rfl | 22 => rfl | 23 => rfl | 24 => rfl | j + 25 => rfl
theorem hM_w2 (hn : n < 20) : tasi (hM h w f e g u) (w + 2) (nI n) x = some (hM h w f e (va_up g 2 (upd (g 2) n x)) u) := by rw [tasi_of hM_a2 (nI_in hn (by decide)), nI_clamp (by omega)]; exact congrArg some (rput_set (j := 2) (by decide) hM_u2)
theorem hM_a3 : (hM h w f e g u).1 (w + 3) = some (.inl (0, 80, .inl (g 3))) := rput_at (j := 3) (by decide)
theorem hM_r3 (hn : n < 80) : tald sc (hM h w f e g u) 0 (w + 3) (nI n) = some (g 3 n) := by unfold tald tai; rw [hM_a3]; dsimp only; rw [if_pos ⟨rfl, nI_in hn (by decide)⟩, nI_clamp (by omega)]
theorem hM_u3 {p : Nat → Int32} : va_up (cM w f e g u) 3 (.inl (0, 80, .inl p)) = cM w f e (va_up g 3 p) u := by funext j; match j with | 0 => rfl | 1 => rfl | 2 => rfl | 3 => rfl | 4 => rfl | 5 => rfl | 6 => rfl | 7 => rfl | 8 => rfl | 9 => rfl | 10 => rfl | 11 => rfl | 12 => rfl | 13 => rfl | 14 => rfl | 15 => rfl | 16 => rfl | 17 => rfl | 18 => rfl | 19 => rfl | 20 => rfl | 21 => rfl | 22 => rfl | 23 => rfl | 24 => rfl | j + 25 => rfl
theorem hM_w3 (hn : n < 80) : tasi (hM h w f e g u) (w + 3) (nI n) x = some (hM h w f e (va_up g 3 (upd (g 3) n x)) u) := by rw [tasi_of hM_a3 (nI_in hn (by decide)), nI_clamp (by omega)]; exact congrArg some (rput_set (j := 3) (by decide) hM_u3)
theorem hM_a5 : (hM h w f e g u).1 (w + 4) = some (.inl (0, 10, .inl (g 5))) := rput_at (j := 4) (by decide)
theorem hM_r5 (hn : n < 10) : tald sc (hM h w f e g u) 0 (w + 4) (nI n) = some (g 5 n) := by unfold tald tai; rw [hM_a5]; dsimp only; rw [if_pos ⟨rfl, nI_in hn (by decide)⟩, nI_clamp (by omega)]
theorem hM_u5 {p : Nat → Int32} : va_up (cM w f e g u) 4 (.inl (0, 10, .inl p)) = cM w f e (va_up g 5 p) u := by funext j; match j with | 0 => rfl | 1 => rfl | 2 => rfl | 3 => rfl | 4 => rfl | 5 => rfl | 6 => rfl | 7 => rfl | 8 => rfl | 9 => rfl | 10 => rfl | 11 => rfl | 12 => rfl | 13 => rfl | 14 => rfl | 15 => rfl | 16 => rfl | 17 => rfl | 18 => rfl | 19 => rfl | 20 => rfl | 21 => rfl | 22 => rfl | 23 => rfl | 24 => rfl | j + 25 => rfl
theorem hM_w5 (hn : n < 10) : tasi (hM h w f e g u) (w + 4) (nI n) x = some (hM h w f e (va_up g 5 (upd (g 5) n x)) u) := by rw [tasi_of hM_a5 (nI_in hn (by decide)), nI_clamp (by omega)]; exact congrArg some (rput_set (j := 4) (by decide) hM_u5)
theorem hM_a6 : (hM h w f e g u).1 (w + 5) = some (.inl (0, 4, .inl (g 6))) := rput_at (j := 5) (by decide)
theorem hM_r6 (hn : n < 4) : tald sc (hM h w f e g u) 0 (w + 5) (nI n) = some (g 6 n) := by unfold tald tai; rw [hM_a6]; dsimp only; rw [if_pos ⟨rfl, nI_in hn (by decide)⟩, nI_clamp (by omega)]
theorem hM_u6 {p : Nat → Int32} : va_up (cM w f e g u) 5 (.inl (0, 4, .inl p)) = cM w f e (va_up g 6 p) u := by funext j; match j with | 0 => rfl | 1 => rfl | 2 => rfl | 3 => rfl | 4 => rfl | 5 => rfl | 6 => rfl | 7 => rfl | 8 => rfl | 9 => rfl | 10 => rfl | 11 => rfl | 12 => rfl | 13 => rfl | 14 => rfl | 15 => rfl | 16 => rfl | 17 => rfl | 18 => rfl | 19 => rfl | 20 => rfl | 21 => rfl | 22 => rfl | 23 => rfl | 24 => rfl | j + 25 => rfl
theorem hM_w6 (hn : n < 4) : tasi (hM h w f e g u) (w + 5) (nI n) x = some (hM h w f e (va_up g 6 (upd (g 6) n x)) u) := by rw [tasi_of hM_a6 (nI_in hn (by decide)), nI_clamp (by omega)]; exact congrArg some (rput_set (j := 5) (by decide) hM_u6)
theorem hM_r6_0 : tald sc (hM h w f e g u) 0 (w + 5) 0 = some (g 6 0) := hM_r6 (n := 0) (by decide)
theorem hM_w6_0 : tasi (hM h w f e g u) (w + 5) 0 x = some (hM h w f e (va_up g 6 (upd (g 6) 0 x)) u) := hM_w6 (n := 0) (by decide)
theorem hM_r6_1 : tald sc (hM h w f e g u) 0 (w + 5) 1 = some (g 6 1) := hM_r6 (n := 1) (by decide)
theorem hM_w6_1 : tasi (hM h w f e g u) (w + 5) 1 x = some (hM h w f e (va_up g 6 (upd (g 6) 1 x)) u) := hM_w6 (n := 1) (by decide)
theorem hM_r6_2 : tald sc (hM h w f e g u) 0 (w + 5) 2 = some (g 6 2) := hM_r6 (n := 2) (by decide)
theorem hM_w6_2 : tasi (hM h w f e g u) (w + 5) 2 x = some (hM h w f e (va_up g 6 (upd (g 6) 2 x)) u) := hM_w6 (n := 2) (by decide)
theorem hM_r6_3 : tald sc (hM h w f e g u) 0 (w + 5) 3 = some (g 6 3) := hM_r6 (n := 3) (by decide)
theorem hM_w6_3 : tasi (hM h w f e g u) (w + 5) 3 x = some (hM h w f e (va_up g 6 (upd (g 6) 3 x)) u) := hM_w6 (n := 3) (by decide)
theorem hM_a7 : (hM h w f e g u).1 (w + 6) = some (.inl (0, 4, .inl (g 7))) := rput_at (j := 6) (by decide)
theorem hM_r7 (hn : n < 4) : tald sc (hM h w f e g u) 0 (w + 6) (nI n) = some (g 7 n) := by unfold tald tai; rw [hM_a7]; dsimp only; rw [if_pos ⟨rfl, nI_in hn (by decide)⟩, nI_clamp (by omega)]
theorem hM_u7 {p : Nat → Int32} : va_up (cM w f e g u) 6 (.inl (0, 4, .inl p)) = cM w f e (va_up g 7 p) u := by funext j; match j with | 0 => rfl | 1 => rfl | 2 => rfl | 3 => rfl | 4 => rfl | 5 => rfl | 6 => rfl | 7 => rfl | 8 => rfl | 9 => rfl | 10 => rfl | 11 => rfl | 12 => rfl | 13 => rfl | 14 => rfl | 15 => rfl | 16 => rfl | 17 => rfl | 18 => rfl | 19 => rfl | 20 => rfl | 21 => rfl | 22 => rfl | 23 => rfl | 24 => rfl | j + 25 => rfl
theorem hM_w7 (hn : n < 4) : tasi (hM h w f e g u) (w + 6) (nI n) x = some (hM h w f e (va_up g 7 (upd (g 7) n x)) u) := by rw [tasi_of hM_a7 (nI_in hn (by decide)), nI_clamp (by omega)]; exact congrArg some (rput_set (j := 6) (by decide) hM_u7)
theorem hM_a8 : (hM h w f e g u).1 (w + 7) = some (.inl (0, 240, .inl (g 8))) := rput_at (j := 7) (by decide)
theorem hM_r8 (hn : n < 240) : tald sc (hM h w f e g u) 0 (w + 7) (nI n) = some (g 8 n) := by unfold tald tai; rw [hM_a8]; dsimp only; rw [if_pos ⟨rfl, nI_in hn (by decide)⟩, nI_clamp (by omega)]
theorem hM_u8 {p : Nat → Int32} : va_up (cM w f e g u) 7 (.inl (0, 240, .inl p)) = cM w f e (va_up g 8 p) u := by funext j; match j with | 0 => rfl | 1 => rfl | 2 => rfl | 3 => rfl | 4 => rfl | 5 => rfl | 6 => rfl | 7 => rfl | 8 => rfl | 9 => rfl | 10 => rfl | 11 => rfl | 12 => rfl | 13 => rfl | 14 => rfl | 15 => rfl | 16 => rfl | 17 => rfl | 18 => rfl | 19 => rfl | 20 => rfl | 21 => rfl | 22 => rfl | 23 => rfl | 24 => rfl | j + 25 => rfl
theorem hM_w8 (hn : n < 240) : tasi (hM h w f e g u) (w + 7) (nI n) x = some (hM h w f e (va_up g 8 (upd (g 8) n x)) u) := by rw [tasi_of hM_a8 (nI_in hn (by decide)), nI_clamp (by omega)]; exact congrArg some (rput_set (j := 7) (by decide) hM_u8)
theorem hM_a19 : (hM h w f e g u).1 (w + 8) = some (.inl (0, 20, .inl (g 19))) := rput_at (j := 8) (by decide)
theorem hM_r19 (hn : n < 20) : tald sc (hM h w f e g u) 0 (w + 8) (nI n) = some (g 19 n) := by unfold tald tai; rw [hM_a19]; dsimp only; rw [if_pos ⟨rfl, nI_in hn (by decide)⟩, nI_clamp (by omega)]
theorem hM_u19 {p : Nat → Int32} : va_up (cM w f e g u) 8 (.inl (0, 20, .inl p)) = cM w f e (va_up g 19 p) u := by funext j; match j with | 0 => rfl | 1 => rfl | 2 => rfl | 3 => rfl | 4 => rfl | 5 => rfl | 6 => rfl | 7 => rfl | 8 => rfl | 9 => rfl | 10 => rfl | 11 => rfl | 12 => rfl | 13 => rfl | 14 => rfl | 15 => rfl | 16 => rfl | 17 => rfl | 18 => rfl | 19 => rfl | 20 => rfl | 21 => rfl | 22 => rfl | 23 => rfl | 24 => rfl | j + 25 => rfl
theorem hM_w19 (hn : n < 20) : tasi (hM h w f e g u) (w + 8) (nI n) x = some (hM h w f e (va_up g 19 (upd (g 19) n x)) u) := by rw [tasi_of hM_a19 (nI_in hn (by decide)), nI_clamp (by omega)]; exact congrArg some (rput_set (j := 8) (by decide) hM_u19)
theorem hM_a20 : (hM h w f e g u).1 (w + 9) = some (.inl (0, 80, .inl (g 20))) := rput_at (j := 9) (by decide)
theorem hM_r20 (hn : n < 80) : tald sc (hM h w f e g u) 0 (w + 9) (nI n) = some (g 20 n) := by unfold tald tai; rw [hM_a20]; dsimp only; rw [if_pos ⟨rfl, nI_in hn (by decide)⟩, nI_clamp (by omega)]
theorem hM_u20 {p : Nat → Int32} : va_up (cM w f e g u) 9 (.inl (0, 80, .inl p)) = cM w f e (va_up g 20 p) u := by funext j; match j with | 0 => rfl | 1 => rfl | 2 => rfl | 3 => rfl | 4 => rfl | 5 => rfl | 6 => rfl | 7 => rfl | 8 => rfl | 9 => rfl | 10 => rfl | 11 => rfl | 12 => rfl | 13 => rfl | 14 => rfl | 15 => rfl | 16 => rfl | 17 => rfl | 18 => rfl | 19 => rfl | 20 => rfl | 21 => rfl | 22 => rfl | 23 => rfl | 24 => rfl | j + 25 => rfl
theorem hM_w20 (hn : n < 80) : tasi (hM h w f e g u) (w + 9) (nI n) x = some (hM h w f e (va_up g 20 (upd (g 20) n x)) u) := by rw [tasi_of hM_a20 (nI_in hn (by decide)), nI_clamp (by omega)]; exact congrArg some (rput_set (j := 9) (by decide) hM_u20)
theorem hM_a21 : (hM h w f e g u).1 (w + 10) = some (.inl (0, 20, .inl (g 21))) := rput_at (j := 10) (by decide)
theorem hM_r21 (hn : n < 20) : tald sc (hM h w f e g u) 0 (w + 10) (nI n) = some (g 21 n) := by unfold tald tai; rw [hM_a21]; dsimp only; rw [if_pos ⟨rfl, nI_in hn (by decide)⟩, nI_clamp (by omega)]
theorem hM_u21 {p : Nat → Int32} : va_up (cM w f e g u) 10 (.inl (0, 20, .inl p)) = cM w f e (va_up g 21 p) u := by funext j; match j with | 0 => rfl | 1 => rfl | 2 => rfl | 3 => rfl | 4 => rfl | 5 => rfl | 6 => rfl | 7 => rfl | 8 => rfl | 9 => rfl | 10 => rfl | 11 => rfl | 12 => rfl | 13 => rfl | 14 => rfl | 15 => rfl | 16 => rfl | 17 => rfl | 18 => rfl | 19 => rfl | 20 => rfl | 21 => rfl | 22 => rfl | 23 => rfl | 24 => rfl | j + 25 => rfl
theorem hM_w21 (hn : n < 20) : tasi (hM h w f e g u) (w + 10) (nI n) x = some (hM h w f e (va_up g 21 (upd (g 21) n x)) u) := by rw [tasi_of hM_a21 (nI_in hn (by decide)), nI_clamp (by omega)]; exact congrArg some (rput_set (j := 10) (by decide) hM_u21)
theorem hM_a22 : (hM h w f e g u).1 (w + 11) = some (.inl (0, 10, .inl (g 22))) := rput_at (j := 11) (by decide)
theorem hM_r22 (hn : n < 10) : tald sc (hM h w f e g u) 0 (w + 11) (nI n) = some (g 22 n) := by unfold tald tai; rw [hM_a22]; dsimp only; rw [if_pos ⟨rfl, nI_in hn (by decide)⟩, nI_clamp (by omega)]
theorem hM_u22 {p : Nat → Int32} : va_up (cM w f e g u) 11 (.inl (0, 10, .inl p)) = cM w f e (va_up g 22 p) u := by funext j; match j with | 0 => rfl | 1 => rfl | 2 => rfl | 3 => rfl | 4 => rfl | 5 => rfl | 6 => rfl | 7 => rfl | 8 => rfl | 9 => rfl | 10 => rfl | 11 => rfl | 12 => rfl | 13 => rfl | 14 => rfl | 15 => rfl | 16 => rfl | 17 => rfl | 18 => rfl | 19 => rfl | 20 => rfl | 21 => rfl | 22 => rfl | 23 => rfl | 24 => rfl | j + 25 => rfl
theorem hM_w22 (hn : n < 10) : tasi (hM h w f e g u) (w + 11) (nI n) x = some (hM h w f e (va_up g 22 (upd (g 22) n x)) u) := by rw [tasi_of hM_a22 (nI_in hn (by decide)), nI_clamp (by omega)]; exact congrArg some (rput_set (j := 11) (by decide) hM_u22)
theorem hM_a23 : (hM h w f e g u).1 (w + 12) = some (.inl (0, 120, .inl (g 23))) := rput_at (j := 12) (by decide)
theorem hM_r23 (hn : n < 120) : tald sc (hM h w f e g u) 0 (w + 12) (nI n) = some (g 23 n) := by unfold tald tai; rw [hM_a23]; dsimp only; rw [if_pos ⟨rfl, nI_in hn (by decide)⟩, nI_clamp (by omega)]
theorem hM_u23 {p : Nat → Int32} : va_up (cM w f e g u) 12 (.inl (0, 120, .inl p)) = cM w f e (va_up g 23 p) u := by funext j; match j with | 0 => rfl | 1 => rfl | 2 => rfl | 3 => rfl | 4 => rfl | 5 => rfl | 6 => rfl | 7 => rfl | 8 => rfl | 9 => rfl | 10 => rfl | 11 => rfl | 12 => rfl | 13 => rfl | 14 => rfl | 15 => rfl | 16 => rfl | 17 => rfl | 18 => rfl | 19 => rfl | 20 => rfl | 21 => rfl | 22 => rfl | 23 => rfl | 24 => rfl | j + 25 => rfl
theorem hM_w23 (hn : n < 120) : tasi (hM h w f e g u) (w + 12) (nI n) x = some (hM h w f e (va_up g 23 (upd (g 23) n x)) u) := by rw [tasi_of hM_a23 (nI_in hn (by decide)), nI_clamp (by omega)]; exact congrArg some (rput_set (j := 12) (by decide) hM_u23)
theorem hM_a24 : (hM h w f e g u).1 (w + 13) = some (.inl (0, 4, .inl (g 24))) := rput_at (j := 13) (by decide)
theorem hM_r24 (hn : n < 4) : tald sc (hM h w f e g u) 0 (w + 13) (nI n) = some (g 24 n) := by unfold tald tai; rw [hM_a24]; dsimp only; rw [if_pos ⟨rfl, nI_in hn (by decide)⟩, nI_clamp (by omega)]
theorem hM_u24 {p : Nat → Int32} : va_up (cM w f e g u) 13 (.inl (0, 4, .inl p)) = cM w f e (va_up g 24 p) u := by funext j; match j with | 0 => rfl | 1 => rfl | 2 => rfl | 3 => rfl | 4 => rfl | 5 => rfl | 6 => rfl | 7 => rfl | 8 => rfl | 9 => rfl | 10 => rfl | 11 => rfl | 12 => rfl | 13 => rfl | 14 => rfl | 15 => rfl | 16 => rfl | 17 => rfl | 18 => rfl | 19 => rfl | 20 => rfl | 21 => rfl | 22 => rfl | 23 => rfl | 24 => rfl | j + 25 => rfl
theorem hM_w24 (hn : n < 4) : tasi (hM h w f e g u) (w + 13) (nI n) x = some (hM h w f e (va_up g 24 (upd (g 24) n x)) u) := by rw [tasi_of hM_a24 (nI_in hn (by decide)), nI_clamp (by omega)]; exact congrArg some (rput_set (j := 13) (by decide) hM_u24)
theorem hM_r24_0 : tald sc (hM h w f e g u) 0 (w + 13) 0 = some (g 24 0) := hM_r24 (n := 0) (by decide)
theorem hM_w24_0 : tasi (hM h w f e g u) (w + 13) 0 x = some (hM h w f e (va_up g 24 (upd (g 24) 0 x)) u) := hM_w24 (n := 0) (by decide)
theorem hM_r24_1 : tald sc (hM h w f e g u) 0 (w + 13) 1 = some (g 24 1) := hM_r24 (n := 1) (by decide)
theorem hM_w24_1 : tasi (hM h w f e g u) (w + 13) 1 x = some (hM h w f e (va_up g 24 (upd (g 24) 1 x)) u) := hM_w24 (n := 1) (by decide)
theorem hM_r24_2 : tald sc (hM h w f e g u) 0 (w + 13) 2 = some (g 24 2) := hM_r24 (n := 2) (by decide)
theorem hM_w24_2 : tasi (hM h w f e g u) (w + 13) 2 x = some (hM h w f e (va_up g 24 (upd (g 24) 2 x)) u) := hM_w24 (n := 2) (by decide)
theorem hM_r24_3 : tald sc (hM h w f e g u) 0 (w + 13) 3 = some (g 24 3) := hM_r24 (n := 3) (by decide)
theorem hM_w24_3 : tasi (hM h w f e g u) (w + 13) 3 x = some (hM h w f e (va_up g 24 (upd (g 24) 3 x)) u) := hM_w24 (n := 3) (by decide)
theorem hM_a33 : (hM h w f e g u).1 (w + 14) = some (.inl (0, 60, .inl (g 33))) := rput_at (j := 14) (by decide)
theorem hM_r33 (hn : n < 60) : tald sc (hM h w f e g u) 0 (w + 14) (nI n) = some (g 33 n) := by unfold tald tai; rw [hM_a33]; dsimp only; rw [if_pos ⟨rfl, nI_in hn (by decide)⟩, nI_clamp (by omega)]
theorem hM_u33 {p : Nat → Int32} : va_up (cM w f e g u) 14 (.inl (0, 60, .inl p)) = cM w f e (va_up g 33 p) u := by funext j; match j with | 0 => rfl | 1 => rfl | 2 => rfl | 3 => rfl | 4 => rfl | 5 => rfl | 6 => rfl | 7 => rfl | 8 => rfl | 9 => rfl | 10 => rfl | 11 => rfl | 12 => rfl | 13 => rfl | 14 => rfl | 15 => rfl | 16 => rfl | 17 => rfl | 18 => rfl | 19 => rfl | 20 => rfl | 21 => rfl | 22 => rfl | 23 => rfl | 24 => rfl | j + 25 => rfl
theorem hM_w33 (hn : n < 60) : tasi (hM h w f e g u) (w + 14) (nI n) x = some (hM h w f e (va_up g 33 (upd (g 33) n x)) u) := by rw [tasi_of hM_a33 (nI_in hn (by decide)), nI_clamp (by omega)]; exact congrArg some (rput_set (j := 14) (by decide) hM_u33)
theorem hM_a34 : (hM h w f e g u).1 (w + 15) = some (.inl (0, 60, .inl (g 34))) := rput_at (j := 15) (by decide)
theorem hM_r34 (hn : n < 60) : tald sc (hM h w f e g u) 0 (w + 15) (nI n) = some (g 34 n) := by unfold tald tai; rw [hM_a34]; dsimp only; rw [if_pos ⟨rfl, nI_in hn (by decide)⟩, nI_clamp (by omega)]
theorem hM_u34 {p : Nat → Int32} : va_up (cM w f e g u) 15 (.inl (0, 60, .inl p)) = cM w f e (va_up g 34 p) u := by funext j; match j with | 0 => rfl | 1 => rfl | 2 => rfl | 3 => rfl | 4 => rfl | 5 => rfl | 6 => rfl | 7 => rfl | 8 => rfl | 9 => rfl | 10 => rfl | 11 => rfl | 12 => rfl | 13 => rfl | 14 => rfl | 15 => rfl | 16 => rfl | 17 => rfl | 18 => rfl | 19 => rfl | 20 => rfl | 21 => rfl | 22 => rfl | 23 => rfl | 24 => rfl | j + 25 => rfl
theorem hM_w34 (hn : n < 60) : tasi (hM h w f e g u) (w + 15) (nI n) x = some (hM h w f e (va_up g 34 (upd (g 34) n x)) u) := by rw [tasi_of hM_a34 (nI_in hn (by decide)), nI_clamp (by omega)]; exact congrArg some (rput_set (j := 15) (by decide) hM_u34)
theorem hM_a37 : (hM h w f e g u).1 (w + 16) = some (.inl (0, 4, .inl (g 37))) := rput_at (j := 16) (by decide)
theorem hM_r37 (hn : n < 4) : tald sc (hM h w f e g u) 0 (w + 16) (nI n) = some (g 37 n) := by unfold tald tai; rw [hM_a37]; dsimp only; rw [if_pos ⟨rfl, nI_in hn (by decide)⟩, nI_clamp (by omega)]
theorem hM_u37 {p : Nat → Int32} : va_up (cM w f e g u) 16 (.inl (0, 4, .inl p)) = cM w f e (va_up g 37 p) u := by funext j; match j with | 0 => rfl | 1 => rfl | 2 => rfl | 3 => rfl | 4 => rfl | 5 => rfl | 6 => rfl | 7 => rfl | 8 => rfl | 9 => rfl | 10 => rfl | 11 => rfl | 12 => rfl | 13 => rfl | 14 => rfl | 15 => rfl | 16 => rfl | 17 => rfl | 18 => rfl | 19 => rfl | 20 => rfl | 21 => rfl | 22 => rfl | 23 => rfl | 24 => rfl | j + 25 => rfl
theorem hM_w37 (hn : n < 4) : tasi (hM h w f e g u) (w + 16) (nI n) x = some (hM h w f e (va_up g 37 (upd (g 37) n x)) u) := by rw [tasi_of hM_a37 (nI_in hn (by decide)), nI_clamp (by omega)]; exact congrArg some (rput_set (j := 16) (by decide) hM_u37)
theorem hM_a38 : (hM h w f e g u).1 (w + 17) = some (.inl (0, 4, .inl (g 38))) := rput_at (j := 17) (by decide)
theorem hM_r38 (hn : n < 4) : tald sc (hM h w f e g u) 0 (w + 17) (nI n) = some (g 38 n) := by unfold tald tai; rw [hM_a38]; dsimp only; rw [if_pos ⟨rfl, nI_in hn (by decide)⟩, nI_clamp (by omega)]
theorem hM_u38 {p : Nat → Int32} : va_up (cM w f e g u) 17 (.inl (0, 4, .inl p)) = cM w f e (va_up g 38 p) u := by funext j; match j with | 0 => rfl | 1 => rfl | 2 => rfl | 3 => rfl | 4 => rfl | 5 => rfl | 6 => rfl | 7 => rfl | 8 => rfl | 9 => rfl | 10 => rfl | 11 => rfl | 12 => rfl | 13 => rfl | 14 => rfl | 15 => rfl | 16 => rfl | 17 => rfl | 18 => rfl | 19 => rfl | 20 => rfl | 21 => rfl | 22 => rfl | 23 => rfl | 24 => rfl | j + 25 => rfl
theorem hM_w38 (hn : n < 4) : tasi (hM h w f e g u) (w + 17) (nI n) x = some (hM h w f e (va_up g 38 (upd (g 38) n x)) u) := by rw [tasi_of hM_a38 (nI_in hn (by decide)), nI_clamp (by omega)]; exact congrArg some (rput_set (j := 17) (by decide) hM_u38)
theorem hM_a39 : (hM h w f e g u).1 (w + 18) = some (.inl (2, 160, .inr (.inl (u 39)))) := rput_at (j := 18) (by decide)
theorem hM_u39 {p : Nat → Int64} : va_up (cM w f e g u) 18 (.inl (2, 160, .inr (.inl p))) = cM w f e g (va_up u 39 p) := by funext j; match j with | 0 => rfl | 1 => rfl | 2 => rfl | 3 => rfl | 4 => rfl | 5 => rfl | 6 => rfl | 7 => rfl | 8 => rfl | 9 => rfl | 10 => rfl | 11 => rfl | 12 => rfl | 13 => rfl | 14 => rfl | 15 => rfl | 16 => rfl | 17 => rfl | 18 => rfl | 19 => rfl | 20 => rfl | 21 => rfl | 22 => rfl | 23 => rfl | 24 => rfl | j + 25 => rfl
theorem hM_w39 (hn : n < 160) : tasl (hM h w f e g u) (w + 18) (nI n) z = some (hM h w f e g (va_up u 39 (vp_updL (u 39) n z))) := by rw [tasl_of hM_a39 (nI_in hn (by decide)), nI_clamp (by omega)]; exact congrArg some (rput_set (j := 18) (by decide) hM_u39)
theorem hM_a40 : (hM h w f e g u).1 (w + 19) = some (.inl (0, 4, .inl (g 40))) := rput_at (j := 19) (by decide)
theorem hM_r40 (hn : n < 4) : tald sc (hM h w f e g u) 0 (w + 19) (nI n) = some (g 40 n) := by unfold tald tai; rw [hM_a40]; dsimp only; rw [if_pos ⟨rfl, nI_in hn (by decide)⟩, nI_clamp (by omega)]
theorem hM_u40 {p : Nat → Int32} : va_up (cM w f e g u) 19 (.inl (0, 4, .inl p)) = cM w f e (va_up g 40 p) u := by funext j; match j with | 0 => rfl | 1 => rfl | 2 => rfl | 3 => rfl | 4 => rfl | 5 => rfl | 6 => rfl | 7 => rfl | 8 => rfl | 9 => rfl | 10 => rfl | 11 => rfl | 12 => rfl | 13 => rfl | 14 => rfl | 15 => rfl | 16 => rfl | 17 => rfl | 18 => rfl | 19 => rfl | 20 => rfl | 21 => rfl | 22 => rfl | 23 => rfl | 24 => rfl | j + 25 => rfl
theorem hM_w40 (hn : n < 4) : tasi (hM h w f e g u) (w + 19) (nI n) x = some (hM h w f e (va_up g 40 (upd (g 40) n x)) u) := by rw [tasi_of hM_a40 (nI_in hn (by decide)), nI_clamp (by omega)]; exact congrArg some (rput_set (j := 19) (by decide) hM_u40)
theorem hM_a41 : (hM h w f e g u).1 (w + 20) = some (.inl (0, 4, .inl (g 41))) := rput_at (j := 20) (by decide)
theorem hM_r41 (hn : n < 4) : tald sc (hM h w f e g u) 0 (w + 20) (nI n) = some (g 41 n) := by unfold tald tai; rw [hM_a41]; dsimp only; rw [if_pos ⟨rfl, nI_in hn (by decide)⟩, nI_clamp (by omega)]
theorem hM_u41 {p : Nat → Int32} : va_up (cM w f e g u) 20 (.inl (0, 4, .inl p)) = cM w f e (va_up g 41 p) u := by funext j; match j with | 0 => rfl | 1 => rfl | 2 => rfl | 3 => rfl | 4 => rfl | 5 => rfl | 6 => rfl | 7 => rfl | 8 => rfl | 9 => rfl | 10 => rfl | 11 => rfl | 12 => rfl | 13 => rfl | 14 => rfl | 15 => rfl | 16 => rfl | 17 => rfl | 18 => rfl | 19 => rfl | 20 => rfl | 21 => rfl | 22 => rfl | 23 => rfl | 24 => rfl | j + 25 => rfl
theorem hM_w41 (hn : n < 4) : tasi (hM h w f e g u) (w + 20) (nI n) x = some (hM h w f e (va_up g 41 (upd (g 41) n x)) u) := by rw [tasi_of hM_a41 (nI_in hn (by decide)), nI_clamp (by omega)]; exact congrArg some (rput_set (j := 20) (by decide) hM_u41)
theorem hM_a42 : (hM h w f e g u).1 (w + 21) = some (.inl (0, 4, .inl (g 42))) := rput_at (j := 21) (by decide)
theorem hM_r42 (hn : n < 4) : tald sc (hM h w f e g u) 0 (w + 21) (nI n) = some (g 42 n) := by unfold tald tai; rw [hM_a42]; dsimp only; rw [if_pos ⟨rfl, nI_in hn (by decide)⟩, nI_clamp (by omega)]
theorem hM_u42 {p : Nat → Int32} : va_up (cM w f e g u) 21 (.inl (0, 4, .inl p)) = cM w f e (va_up g 42 p) u := by funext j; match j with | 0 => rfl | 1 => rfl | 2 => rfl | 3 => rfl | 4 => rfl | 5 => rfl | 6 => rfl | 7 => rfl | 8 => rfl | 9 => rfl | 10 => rfl | 11 => rfl | 12 => rfl | 13 => rfl | 14 => rfl | 15 => rfl | 16 => rfl | 17 => rfl | 18 => rfl | 19 => rfl | 20 => rfl | 21 => rfl | 22 => rfl | 23 => rfl | 24 => rfl | j + 25 => rfl
theorem hM_w42 (hn : n < 4) : tasi (hM h w f e g u) (w + 21) (nI n) x = some (hM h w f e (va_up g 42 (upd (g 42) n x)) u) := by rw [tasi_of hM_a42 (nI_in hn (by decide)), nI_clamp (by omega)]; exact congrArg some (rput_set (j := 21) (by decide) hM_u42)
theorem hM_a46 : (hM h w f e g u).1 (w + 22) = some (.inl (0, 30, .inl (g 46))) := rput_at (j := 22) (by decide)
theorem hM_r46 (hn : n < 30) : tald sc (hM h w f e g u) 0 (w + 22) (nI n) = some (g 46 n) := by unfold tald tai; rw [hM_a46]; dsimp only; rw [if_pos ⟨rfl, nI_in hn (by decide)⟩, nI_clamp (by omega)]
theorem hM_u46 {p : Nat → Int32} : va_up (cM w f e g u) 22 (.inl (0, 30, .inl p)) = cM w f e (va_up g 46 p) u := by funext j; match j with | 0 => rfl | 1 => rfl | 2 => rfl | 3 => rfl | 4 => rfl | 5 => rfl | 6 => rfl | 7 => rfl | 8 => rfl | 9 => rfl | 10 => rfl | 11 => rfl | 12 => rfl | 13 => rfl | 14 => rfl | 15 => rfl | 16 => rfl | 17 => rfl | 18 => rfl | 19 => rfl | 20 => rfl | 21 => rfl | 22 => rfl | 23 => rfl | 24 => rfl | j + 25 => rfl
theorem hM_w46 (hn : n < 30) : tasi (hM h w f e g u) (w + 22) (nI n) x = some (hM h w f e (va_up g 46 (upd (g 46) n x)) u) := by rw [tasi_of hM_a46 (nI_in hn (by decide)), nI_clamp (by omega)]; exact congrArg some (rput_set (j := 22) (by decide) hM_u46)
theorem hM_a50 : (hM h w f e g u).1 (w + 23) = some (.inl (0, 290, .inl (g 50))) := rput_at (j := 23) (by decide)
theorem hM_r50 (hn : n < 290) : tald sc (hM h w f e g u) 0 (w + 23) (nI n) = some (g 50 n) := by unfold tald tai; rw [hM_a50]; dsimp only; rw [if_pos ⟨rfl, nI_in hn (by decide)⟩, nI_clamp (by omega)]
theorem hM_u50 {p : Nat → Int32} : va_up (cM w f e g u) 23 (.inl (0, 290, .inl p)) = cM w f e (va_up g 50 p) u := by funext j; match j with | 0 => rfl | 1 => rfl | 2 => rfl | 3 => rfl | 4 => rfl | 5 => rfl | 6 => rfl | 7 => rfl | 8 => rfl | 9 => rfl | 10 => rfl | 11 => rfl | 12 => rfl | 13 => rfl | 14 => rfl | 15 => rfl | 16 => rfl | 17 => rfl | 18 => rfl | 19 => rfl | 20 => rfl | 21 => rfl | 22 => rfl | 23 => rfl | 24 => rfl | j + 25 => rfl
theorem hM_w50 (hn : n < 290) : tasi (hM h w f e g u) (w + 23) (nI n) x = some (hM h w f e (va_up g 50 (upd (g 50) n x)) u) := by rw [tasi_of hM_a50 (nI_in hn (by decide)), nI_clamp (by omega)]; exact congrArg some (rput_set (j := 23) (by decide) hM_u50)
theorem hM_a52 : (hM h w f e g u).1 (w + 24) = some (.inl (0, 1, .inl (g 52))) := rput_at (j := 24) (by decide)
theorem hM_r52 (hn : n < 1) : tald sc (hM h w f e g u) 0 (w + 24) (nI n) = some (g 52 n) := by unfold tald tai; rw [hM_a52]; dsimp only; rw [if_pos ⟨rfl, nI_in hn (by decide)⟩, nI_clamp (by omega)]
theorem hM_u52 {p : Nat → Int32} : va_up (cM w f e g u) 24 (.inl (0, 1, .inl p)) = cM w f e (va_up g 52 p) u := by funext j; match j with | 0 => rfl | 1 => rfl | 2 => rfl | 3 => rfl | 4 => rfl | 5 => rfl | 6 => rfl | 7 => rfl | 8 => rfl | 9 => rfl | 10 => rfl | 11 => rfl | 12 => rfl | 13 => rfl | 14 => rfl | 15 => rfl | 16 => rfl | 17 => rfl | 18 => rfl | 19 => rfl | 20 => rfl | 21 => rfl | 22 => rfl | 23 => rfl | 24 => rfl | j + 25 => rfl
theorem hM_w52 (hn : n < 1) : tasi (hM h w f e g u) (w + 24) (nI n) x = some (hM h w f e (va_up g 52 (upd (g 52) n x)) u) := by rw [tasi_of hM_a52 (nI_in hn (by decide)), nI_clamp (by omega)]; exact congrArg some (rput_set (j := 24) (by decide) hM_u52)
theorem hM_r52_0 : tald sc (hM h w f e g u) 0 (w + 24) 0 = some (g 52 0) := hM_r52 (n := 0) (by decide)
theorem hM_w52_0 : tasi (hM h w f e g u) (w + 24) 0 x = some (hM h w f e (va_up g 52 (upd (g 52) 0 x)) u) := hM_w52 (n := 0) (by decide)
theorem hM_v1 : va_up (cM w f e g u) 0 (.inr (11, va_up (oM w f e) 1 (vI x))) = cM w (upd f 1 x) e g u := by
  funext j
  match j with
  | 0 =>
    show (Sum.inr (11, va_up (oM w f e) 1 (vI x)) : TC) = Sum.inr (11, oM w (upd f 1 x) e)
    congr 2
    funext k
    match k with
    | 0 => rfl
    | 1 => rfl
    | 2 => rfl
    | 3 => rfl
    | 4 => rfl
    | 5 => rfl
    | 6 => rfl
    | 7 => rfl
    | 8 => rfl
    | 9 => rfl
    | 10 => rfl
    | 11 => rfl
    | 12 => rfl
    | 13 => rfl
    | 14 => rfl
    | 15 => rfl
    | 16 => rfl
    | 17 => rfl
    | 18 => rfl
    | 19 => rfl
    | 20 => rfl
    | 21 => rfl
    | 22 => rfl
    | 23 => rfl
    | 24 => rfl
    | 25 => rfl
    | 26 => rfl
    | 27 => rfl
    | 28 => rfl
    | 29 => rfl
    | 30 => rfl
    | 31 => rfl
    | 32 => rfl
    | 33 => rfl
    | 34 => rfl
    | 35 => rfl
    | 36 => rfl
    | 37 => rfl
    | 38 => rfl
    | 39 => rfl
    | 40 => rfl
    | 41 => rfl
    | 42 => rfl
    | 43 => rfl
    | 44 => rfl
    | 45 => rfl
    | 46 => rfl
    | 47 => rfl
    | 48 => rfl
    | 49 => rfl
    | 50 => rfl
    | 51 => rfl
    | 52 => rfl
    | k + 53 => rfl
  | 1 => rfl
  | 2 => rfl
  | 3 => rfl
  | 4 => rfl
  | 5 => rfl
  | 6 => rfl
  | 7 => rfl
  | 8 => rfl
  | 9 => rfl
  | 10 => rfl
  | 11 => rfl
  | 12 => rfl
  | 13 => rfl
  | 14 => rfl
  | 15 => rfl
  | 16 => rfl
  | 17 => rfl
  | 18 => rfl
  | 19 => rfl
  | 20 => rfl
  | 21 => rfl
  | 22 => rfl
  | 23 => rfl
  | 24 => rfl
  | j + 25 => rfl
theorem hM_p1 : tput (hM h w f e g u) w [11] 1 0 (vI x) = some (hM h w (upd f 1 x) e g u) := by unfold tput; rw [hM_0]; exact congrArg some (rput_set (j := 0) (by decide) hM_v1)
theorem hM_v4 : va_up (cM w f e g u) 0 (.inr (11, va_up (oM w f e) 4 (vI x))) = cM w (upd f 4 x) e g u := by
  funext j
  match j with
  | 0 =>
    show (Sum.inr (11, va_up (oM w f e) 4 (vI x)) : TC) = Sum.inr (11, oM w (upd f 4 x) e)
    congr 2
    funext k
    match k with
    | 0 => rfl
    | 1 => rfl
    | 2 => rfl
    | 3 => rfl
    | 4 => rfl
    | 5 => rfl
    | 6 => rfl
    | 7 => rfl
    | 8 => rfl
    | 9 => rfl
    | 10 => rfl
    | 11 => rfl
    | 12 => rfl
    | 13 => rfl
    | 14 => rfl
    | 15 => rfl
    | 16 => rfl
    | 17 => rfl
    | 18 => rfl
    | 19 => rfl
    | 20 => rfl
    | 21 => rfl
    | 22 => rfl
    | 23 => rfl
    | 24 => rfl
    | 25 => rfl
    | 26 => rfl
    | 27 => rfl
    | 28 => rfl
    | 29 => rfl
    | 30 => rfl
    | 31 => rfl
    | 32 => rfl
    | 33 => rfl
    | 34 => rfl
    | 35 => rfl
    | 36 => rfl
    | 37 => rfl
    | 38 => rfl
    | 39 => rfl
    | 40 => rfl
    | 41 => rfl
    | 42 => rfl
    | 43 => rfl
    | 44 => rfl
    | 45 => rfl
    | 46 => rfl
    | 47 => rfl
    | 48 => rfl
    | 49 => rfl
    | 50 => rfl
    | 51 => rfl
    | 52 => rfl
    | k + 53 => rfl
  | 1 => rfl
  | 2 => rfl
  | 3 => rfl
  | 4 => rfl
  | 5 => rfl
  | 6 => rfl
  | 7 => rfl
  | 8 => rfl
  | 9 => rfl
  | 10 => rfl
  | 11 => rfl
  | 12 => rfl
  | 13 => rfl
  | 14 => rfl
  | 15 => rfl
  | 16 => rfl
  | 17 => rfl
  | 18 => rfl
  | 19 => rfl
  | 20 => rfl
  | 21 => rfl
  | 22 => rfl
  | 23 => rfl
  | 24 => rfl
  | j + 25 => rfl
theorem hM_p4 : tput (hM h w f e g u) w [11] 4 0 (vI x) = some (hM h w (upd f 4 x) e g u) := by unfold tput; rw [hM_0]; exact congrArg some (rput_set (j := 0) (by decide) hM_v4)
theorem hM_v9 : va_up (cM w f e g u) 0 (.inr (11, va_up (oM w f e) 9 (vI x))) = cM w (upd f 9 x) e g u := by
  funext j
  match j with
  | 0 =>
    show (Sum.inr (11, va_up (oM w f e) 9 (vI x)) : TC) = Sum.inr (11, oM w (upd f 9 x) e)
    congr 2
    funext k
    match k with
    | 0 => rfl
    | 1 => rfl
    | 2 => rfl
    | 3 => rfl
    | 4 => rfl
    | 5 => rfl
    | 6 => rfl
    | 7 => rfl
    | 8 => rfl
    | 9 => rfl
    | 10 => rfl
    | 11 => rfl
    | 12 => rfl
    | 13 => rfl
    | 14 => rfl
    | 15 => rfl
    | 16 => rfl
    | 17 => rfl
    | 18 => rfl
    | 19 => rfl
    | 20 => rfl
    | 21 => rfl
    | 22 => rfl
    | 23 => rfl
    | 24 => rfl
    | 25 => rfl
    | 26 => rfl
    | 27 => rfl
    | 28 => rfl
    | 29 => rfl
    | 30 => rfl
    | 31 => rfl
    | 32 => rfl
    | 33 => rfl
    | 34 => rfl
    | 35 => rfl
    | 36 => rfl
    | 37 => rfl
    | 38 => rfl
    | 39 => rfl
    | 40 => rfl
    | 41 => rfl
    | 42 => rfl
    | 43 => rfl
    | 44 => rfl
    | 45 => rfl
    | 46 => rfl
    | 47 => rfl
    | 48 => rfl
    | 49 => rfl
    | 50 => rfl
    | 51 => rfl
    | 52 => rfl
    | k + 53 => rfl
  | 1 => rfl
  | 2 => rfl
  | 3 => rfl
  | 4 => rfl
  | 5 => rfl
  | 6 => rfl
  | 7 => rfl
  | 8 => rfl
  | 9 => rfl
  | 10 => rfl
  | 11 => rfl
  | 12 => rfl
  | 13 => rfl
  | 14 => rfl
  | 15 => rfl
  | 16 => rfl
  | 17 => rfl
  | 18 => rfl
  | 19 => rfl
  | 20 => rfl
  | 21 => rfl
  | 22 => rfl
  | 23 => rfl
  | 24 => rfl
  | j + 25 => rfl
theorem hM_p9 : tput (hM h w f e g u) w [11] 9 0 (vI x) = some (hM h w (upd f 9 x) e g u) := by unfold tput; rw [hM_0]; exact congrArg some (rput_set (j := 0) (by decide) hM_v9)
theorem hM_v10 : va_up (cM w f e g u) 0 (.inr (11, va_up (oM w f e) 10 (vI x))) = cM w (upd f 10 x) e g u := by
  funext j
  match j with
  | 0 =>
    show (Sum.inr (11, va_up (oM w f e) 10 (vI x)) : TC) = Sum.inr (11, oM w (upd f 10 x) e)
    congr 2
    funext k
    match k with
    | 0 => rfl
    | 1 => rfl
    | 2 => rfl
    | 3 => rfl
    | 4 => rfl
    | 5 => rfl
    | 6 => rfl
    | 7 => rfl
    | 8 => rfl
    | 9 => rfl
    | 10 => rfl
    | 11 => rfl
    | 12 => rfl
    | 13 => rfl
    | 14 => rfl
    | 15 => rfl
    | 16 => rfl
    | 17 => rfl
    | 18 => rfl
    | 19 => rfl
    | 20 => rfl
    | 21 => rfl
    | 22 => rfl
    | 23 => rfl
    | 24 => rfl
    | 25 => rfl
    | 26 => rfl
    | 27 => rfl
    | 28 => rfl
    | 29 => rfl
    | 30 => rfl
    | 31 => rfl
    | 32 => rfl
    | 33 => rfl
    | 34 => rfl
    | 35 => rfl
    | 36 => rfl
    | 37 => rfl
    | 38 => rfl
    | 39 => rfl
    | 40 => rfl
    | 41 => rfl
    | 42 => rfl
    | 43 => rfl
    | 44 => rfl
    | 45 => rfl
    | 46 => rfl
    | 47 => rfl
    | 48 => rfl
    | 49 => rfl
    | 50 => rfl
    | 51 => rfl
    | 52 => rfl
    | k + 53 => rfl
  | 1 => rfl
  | 2 => rfl
  | 3 => rfl
  | 4 => rfl
  | 5 => rfl
  | 6 => rfl
  | 7 => rfl
  | 8 => rfl
  | 9 => rfl
  | 10 => rfl
  | 11 => rfl
  | 12 => rfl
  | 13 => rfl
  | 14 => rfl
  | 15 => rfl
  | 16 => rfl
  | 17 => rfl
  | 18 => rfl
  | 19 => rfl
  | 20 => rfl
  | 21 => rfl
  | 22 => rfl
  | 23 => rfl
  | 24 => rfl
  | j + 25 => rfl
theorem hM_p10 : tput (hM h w f e g u) w [11] 10 0 (vI x) = some (hM h w (upd f 10 x) e g u) := by unfold tput; rw [hM_0]; exact congrArg some (rput_set (j := 0) (by decide) hM_v10)
theorem hM_v11 : va_up (cM w f e g u) 0 (.inr (11, va_up (oM w f e) 11 (vI x))) = cM w (upd f 11 x) e g u := by
  funext j
  match j with
  | 0 =>
    show (Sum.inr (11, va_up (oM w f e) 11 (vI x)) : TC) = Sum.inr (11, oM w (upd f 11 x) e)
    congr 2
    funext k
    match k with
    | 0 => rfl
    | 1 => rfl
    | 2 => rfl
    | 3 => rfl
    | 4 => rfl
    | 5 => rfl
    | 6 => rfl
    | 7 => rfl
    | 8 => rfl
    | 9 => rfl
    | 10 => rfl
    | 11 => rfl
    | 12 => rfl
    | 13 => rfl
    | 14 => rfl
    | 15 => rfl
    | 16 => rfl
    | 17 => rfl
    | 18 => rfl
    | 19 => rfl
    | 20 => rfl
    | 21 => rfl
    | 22 => rfl
    | 23 => rfl
    | 24 => rfl
    | 25 => rfl
    | 26 => rfl
    | 27 => rfl
    | 28 => rfl
    | 29 => rfl
    | 30 => rfl
    | 31 => rfl
    | 32 => rfl
    | 33 => rfl
    | 34 => rfl
    | 35 => rfl
    | 36 => rfl
    | 37 => rfl
    | 38 => rfl
    | 39 => rfl
    | 40 => rfl
    | 41 => rfl
    | 42 => rfl
    | 43 => rfl
    | 44 => rfl
    | 45 => rfl
    | 46 => rfl
    | 47 => rfl
    | 48 => rfl
    | 49 => rfl
    | 50 => rfl
    | 51 => rfl
    | 52 => rfl
    | k + 53 => rfl
  | 1 => rfl
  | 2 => rfl
  | 3 => rfl
  | 4 => rfl
  | 5 => rfl
  | 6 => rfl
  | 7 => rfl
  | 8 => rfl
  | 9 => rfl
  | 10 => rfl
  | 11 => rfl
  | 12 => rfl
  | 13 => rfl
  | 14 => rfl
  | 15 => rfl
  | 16 => rfl
  | 17 => rfl
  | 18 => rfl
  | 19 => rfl
  | 20 => rfl
  | 21 => rfl
  | 22 => rfl
  | 23 => rfl
  | 24 => rfl
  | j + 25 => rfl
theorem hM_p11 : tput (hM h w f e g u) w [11] 11 0 (vI x) = some (hM h w (upd f 11 x) e g u) := by unfold tput; rw [hM_0]; exact congrArg some (rput_set (j := 0) (by decide) hM_v11)
theorem hM_v12 : va_up (cM w f e g u) 0 (.inr (11, va_up (oM w f e) 12 (vI x))) = cM w (upd f 12 x) e g u := by
  funext j
  match j with
  | 0 =>
    show (Sum.inr (11, va_up (oM w f e) 12 (vI x)) : TC) = Sum.inr (11, oM w (upd f 12 x) e)
    congr 2
    funext k
    match k with
    | 0 => rfl
    | 1 => rfl
    | 2 => rfl
    | 3 => rfl
    | 4 => rfl
    | 5 => rfl
    | 6 => rfl
    | 7 => rfl
    | 8 => rfl
    | 9 => rfl
    | 10 => rfl
    | 11 => rfl
    | 12 => rfl
    | 13 => rfl
    | 14 => rfl
    | 15 => rfl
    | 16 => rfl
    | 17 => rfl
    | 18 => rfl
    | 19 => rfl
    | 20 => rfl
    | 21 => rfl
    | 22 => rfl
    | 23 => rfl
    | 24 => rfl
    | 25 => rfl
    | 26 => rfl
    | 27 => rfl
    | 28 => rfl
    | 29 => rfl
    | 30 => rfl
    | 31 => rfl
    | 32 => rfl
    | 33 => rfl
    | 34 => rfl
    | 35 => rfl
    | 36 => rfl
    | 37 => rfl
    | 38 => rfl
    | 39 => rfl
    | 40 => rfl
    | 41 => rfl
    | 42 => rfl
    | 43 => rfl
    | 44 => rfl
    | 45 => rfl
    | 46 => rfl
    | 47 => rfl
    | 48 => rfl
    | 49 => rfl
    | 50 => rfl
    | 51 => rfl
    | 52 => rfl
    | k + 53 => rfl
  | 1 => rfl
  | 2 => rfl
  | 3 => rfl
  | 4 => rfl
  | 5 => rfl
  | 6 => rfl
  | 7 => rfl
  | 8 => rfl
  | 9 => rfl
  | 10 => rfl
  | 11 => rfl
  | 12 => rfl
  | 13 => rfl
  | 14 => rfl
  | 15 => rfl
  | 16 => rfl
  | 17 => rfl
  | 18 => rfl
  | 19 => rfl
  | 20 => rfl
  | 21 => rfl
  | 22 => rfl
  | 23 => rfl
  | 24 => rfl
  | j + 25 => rfl
theorem hM_p12 : tput (hM h w f e g u) w [11] 12 0 (vI x) = some (hM h w (upd f 12 x) e g u) := by unfold tput; rw [hM_0]; exact congrArg some (rput_set (j := 0) (by decide) hM_v12)
theorem hM_v14 : va_up (cM w f e g u) 0 (.inr (11, va_up (oM w f e) 14 (vI x))) = cM w (upd f 14 x) e g u := by
  funext j
  match j with
  | 0 =>
    show (Sum.inr (11, va_up (oM w f e) 14 (vI x)) : TC) = Sum.inr (11, oM w (upd f 14 x) e)
    congr 2
    funext k
    match k with
    | 0 => rfl
    | 1 => rfl
    | 2 => rfl
    | 3 => rfl
    | 4 => rfl
    | 5 => rfl
    | 6 => rfl
    | 7 => rfl
    | 8 => rfl
    | 9 => rfl
    | 10 => rfl
    | 11 => rfl
    | 12 => rfl
    | 13 => rfl
    | 14 => rfl
    | 15 => rfl
    | 16 => rfl
    | 17 => rfl
    | 18 => rfl
    | 19 => rfl
    | 20 => rfl
    | 21 => rfl
    | 22 => rfl
    | 23 => rfl
    | 24 => rfl
    | 25 => rfl
    | 26 => rfl
    | 27 => rfl
    | 28 => rfl
    | 29 => rfl
    | 30 => rfl
    | 31 => rfl
    | 32 => rfl
    | 33 => rfl
    | 34 => rfl
    | 35 => rfl
    | 36 => rfl
    | 37 => rfl
    | 38 => rfl
    | 39 => rfl
    | 40 => rfl
    | 41 => rfl
    | 42 => rfl
    | 43 => rfl
    | 44 => rfl
    | 45 => rfl
    | 46 => rfl
    | 47 => rfl
    | 48 => rfl
    | 49 => rfl
    | 50 => rfl
    | 51 => rfl
    | 52 => rfl
    | k + 53 => rfl
  | 1 => rfl
  | 2 => rfl
  | 3 => rfl
  | 4 => rfl
  | 5 => rfl
  | 6 => rfl
  | 7 => rfl
  | 8 => rfl
  | 9 => rfl
  | 10 => rfl
  | 11 => rfl
  | 12 => rfl
  | 13 => rfl
  | 14 => rfl
  | 15 => rfl
  | 16 => rfl
  | 17 => rfl
  | 18 => rfl
  | 19 => rfl
  | 20 => rfl
  | 21 => rfl
  | 22 => rfl
  | 23 => rfl
  | 24 => rfl
  | j + 25 => rfl
theorem hM_p14 : tput (hM h w f e g u) w [11] 14 0 (vI x) = some (hM h w (upd f 14 x) e g u) := by unfold tput; rw [hM_0]; exact congrArg some (rput_set (j := 0) (by decide) hM_v14)
theorem hM_v15 : va_up (cM w f e g u) 0 (.inr (11, va_up (oM w f e) 15 (vI x))) = cM w (upd f 15 x) e g u := by
  funext j
  match j with
  | 0 =>
    show (Sum.inr (11, va_up (oM w f e) 15 (vI x)) : TC) = Sum.inr (11, oM w (upd f 15 x) e)
    congr 2
    funext k
    match k with
    | 0 => rfl
    | 1 => rfl
    | 2 => rfl
    | 3 => rfl
    | 4 => rfl
    | 5 => rfl
    | 6 => rfl
    | 7 => rfl
    | 8 => rfl
    | 9 => rfl
    | 10 => rfl
    | 11 => rfl
    | 12 => rfl
    | 13 => rfl
    | 14 => rfl
    | 15 => rfl
    | 16 => rfl
    | 17 => rfl
    | 18 => rfl
    | 19 => rfl
    | 20 => rfl
    | 21 => rfl
    | 22 => rfl
    | 23 => rfl
    | 24 => rfl
    | 25 => rfl
    | 26 => rfl
    | 27 => rfl
    | 28 => rfl
    | 29 => rfl
    | 30 => rfl
    | 31 => rfl
    | 32 => rfl
    | 33 => rfl
    | 34 => rfl
    | 35 => rfl
    | 36 => rfl
    | 37 => rfl
    | 38 => rfl
    | 39 => rfl
    | 40 => rfl
    | 41 => rfl
    | 42 => rfl
    | 43 => rfl
    | 44 => rfl
    | 45 => rfl
    | 46 => rfl
    | 47 => rfl
    | 48 => rfl
    | 49 => rfl
    | 50 => rfl
    | 51 => rfl
    | 52 => rfl
    | k + 53 => rfl
  | 1 => rfl
  | 2 => rfl
  | 3 => rfl
  | 4 => rfl
  | 5 => rfl
  | 6 => rfl
  | 7 => rfl
  | 8 => rfl
  | 9 => rfl
  | 10 => rfl
  | 11 => rfl
  | 12 => rfl
  | 13 => rfl
  | 14 => rfl
  | 15 => rfl
  | 16 => rfl
  | 17 => rfl
  | 18 => rfl
  | 19 => rfl
  | 20 => rfl
  | 21 => rfl
  | 22 => rfl
  | 23 => rfl
  | 24 => rfl
  | j + 25 => rfl
theorem hM_p15 (hx : x = 0 ∨ x = 1) : tput (hM h w f e g u) w [11] 15 1 (vI x) = some (hM h w (upd f 15 x) e g u) := by
  unfold tput
  rw [hM_0]
  dsimp only
  rw [if_pos ⟨rfl, by simp [tkok, hx]⟩]
  exact congrArg some (rput_set (j := 0) (by decide) hM_v15)
theorem hM_v16 : va_up (cM w f e g u) 0 (.inr (11, va_up (oM w f e) 16 (vI x))) = cM w (upd f 16 x) e g u := by
  funext j
  match j with
  | 0 =>
    show (Sum.inr (11, va_up (oM w f e) 16 (vI x)) : TC) = Sum.inr (11, oM w (upd f 16 x) e)
    congr 2
    funext k
    match k with
    | 0 => rfl
    | 1 => rfl
    | 2 => rfl
    | 3 => rfl
    | 4 => rfl
    | 5 => rfl
    | 6 => rfl
    | 7 => rfl
    | 8 => rfl
    | 9 => rfl
    | 10 => rfl
    | 11 => rfl
    | 12 => rfl
    | 13 => rfl
    | 14 => rfl
    | 15 => rfl
    | 16 => rfl
    | 17 => rfl
    | 18 => rfl
    | 19 => rfl
    | 20 => rfl
    | 21 => rfl
    | 22 => rfl
    | 23 => rfl
    | 24 => rfl
    | 25 => rfl
    | 26 => rfl
    | 27 => rfl
    | 28 => rfl
    | 29 => rfl
    | 30 => rfl
    | 31 => rfl
    | 32 => rfl
    | 33 => rfl
    | 34 => rfl
    | 35 => rfl
    | 36 => rfl
    | 37 => rfl
    | 38 => rfl
    | 39 => rfl
    | 40 => rfl
    | 41 => rfl
    | 42 => rfl
    | 43 => rfl
    | 44 => rfl
    | 45 => rfl
    | 46 => rfl
    | 47 => rfl
    | 48 => rfl
    | 49 => rfl
    | 50 => rfl
    | 51 => rfl
    | 52 => rfl
    | k + 53 => rfl
  | 1 => rfl
  | 2 => rfl
  | 3 => rfl
  | 4 => rfl
  | 5 => rfl
  | 6 => rfl
  | 7 => rfl
  | 8 => rfl
  | 9 => rfl
  | 10 => rfl
  | 11 => rfl
  | 12 => rfl
  | 13 => rfl
  | 14 => rfl
  | 15 => rfl
  | 16 => rfl
  | 17 => rfl
  | 18 => rfl
  | 19 => rfl
  | 20 => rfl
  | 21 => rfl
  | 22 => rfl
  | 23 => rfl
  | 24 => rfl
  | j + 25 => rfl
theorem hM_p16 : tput (hM h w f e g u) w [11] 16 0 (vI x) = some (hM h w (upd f 16 x) e g u) := by unfold tput; rw [hM_0]; exact congrArg some (rput_set (j := 0) (by decide) hM_v16)
theorem hM_v17 : va_up (cM w f e g u) 0 (.inr (11, va_up (oM w f e) 17 (vI x))) = cM w (upd f 17 x) e g u := by
  funext j
  match j with
  | 0 =>
    show (Sum.inr (11, va_up (oM w f e) 17 (vI x)) : TC) = Sum.inr (11, oM w (upd f 17 x) e)
    congr 2
    funext k
    match k with
    | 0 => rfl
    | 1 => rfl
    | 2 => rfl
    | 3 => rfl
    | 4 => rfl
    | 5 => rfl
    | 6 => rfl
    | 7 => rfl
    | 8 => rfl
    | 9 => rfl
    | 10 => rfl
    | 11 => rfl
    | 12 => rfl
    | 13 => rfl
    | 14 => rfl
    | 15 => rfl
    | 16 => rfl
    | 17 => rfl
    | 18 => rfl
    | 19 => rfl
    | 20 => rfl
    | 21 => rfl
    | 22 => rfl
    | 23 => rfl
    | 24 => rfl
    | 25 => rfl
    | 26 => rfl
    | 27 => rfl
    | 28 => rfl
    | 29 => rfl
    | 30 => rfl
    | 31 => rfl
    | 32 => rfl
    | 33 => rfl
    | 34 => rfl
    | 35 => rfl
    | 36 => rfl
    | 37 => rfl
    | 38 => rfl
    | 39 => rfl
    | 40 => rfl
    | 41 => rfl
    | 42 => rfl
    | 43 => rfl
    | 44 => rfl
    | 45 => rfl
    | 46 => rfl
    | 47 => rfl
    | 48 => rfl
    | 49 => rfl
    | 50 => rfl
    | 51 => rfl
    | 52 => rfl
    | k + 53 => rfl
  | 1 => rfl
  | 2 => rfl
  | 3 => rfl
  | 4 => rfl
  | 5 => rfl
  | 6 => rfl
  | 7 => rfl
  | 8 => rfl
  | 9 => rfl
  | 10 => rfl
  | 11 => rfl
  | 12 => rfl
  | 13 => rfl
  | 14 => rfl
  | 15 => rfl
  | 16 => rfl
  | 17 => rfl
  | 18 => rfl
  | 19 => rfl
  | 20 => rfl
  | 21 => rfl
  | 22 => rfl
  | 23 => rfl
  | 24 => rfl
  | j + 25 => rfl
theorem hM_p17 : tput (hM h w f e g u) w [11] 17 0 (vI x) = some (hM h w (upd f 17 x) e g u) := by unfold tput; rw [hM_0]; exact congrArg some (rput_set (j := 0) (by decide) hM_v17)
theorem hM_v18 : va_up (cM w f e g u) 0 (.inr (11, va_up (oM w f e) 18 (vI x))) = cM w (upd f 18 x) e g u := by
  funext j
  match j with
  | 0 =>
    show (Sum.inr (11, va_up (oM w f e) 18 (vI x)) : TC) = Sum.inr (11, oM w (upd f 18 x) e)
    congr 2
    funext k
    match k with
    | 0 => rfl
    | 1 => rfl
    | 2 => rfl
    | 3 => rfl
    | 4 => rfl
    | 5 => rfl
    | 6 => rfl
    | 7 => rfl
    | 8 => rfl
    | 9 => rfl
    | 10 => rfl
    | 11 => rfl
    | 12 => rfl
    | 13 => rfl
    | 14 => rfl
    | 15 => rfl
    | 16 => rfl
    | 17 => rfl
    | 18 => rfl
    | 19 => rfl
    | 20 => rfl
    | 21 => rfl
    | 22 => rfl
    | 23 => rfl
    | 24 => rfl
    | 25 => rfl
    | 26 => rfl
    | 27 => rfl
    | 28 => rfl
    | 29 => rfl
    | 30 => rfl
    | 31 => rfl
    | 32 => rfl
    | 33 => rfl
    | 34 => rfl
    | 35 => rfl
    | 36 => rfl
    | 37 => rfl
    | 38 => rfl
    | 39 => rfl
    | 40 => rfl
    | 41 => rfl
    | 42 => rfl
    | 43 => rfl
    | 44 => rfl
    | 45 => rfl
    | 46 => rfl
    | 47 => rfl
    | 48 => rfl
    | 49 => rfl
    | 50 => rfl
    | 51 => rfl
    | 52 => rfl
    | k + 53 => rfl
  | 1 => rfl
  | 2 => rfl
  | 3 => rfl
  | 4 => rfl
  | 5 => rfl
  | 6 => rfl
  | 7 => rfl
  | 8 => rfl
  | 9 => rfl
  | 10 => rfl
  | 11 => rfl
  | 12 => rfl
  | 13 => rfl
  | 14 => rfl
  | 15 => rfl
  | 16 => rfl
  | 17 => rfl
  | 18 => rfl
  | 19 => rfl
  | 20 => rfl
  | 21 => rfl
  | 22 => rfl
  | 23 => rfl
  | 24 => rfl
  | j + 25 => rfl
theorem hM_p18 : tput (hM h w f e g u) w [11] 18 0 (vI x) = some (hM h w (upd f 18 x) e g u) := by unfold tput; rw [hM_0]; exact congrArg some (rput_set (j := 0) (by decide) hM_v18)
theorem hM_v25 : va_up (cM w f e g u) 0 (.inr (11, va_up (oM w f e) 25 (vI x))) = cM w (upd f 25 x) e g u := by
  funext j
  match j with
  | 0 =>
    show (Sum.inr (11, va_up (oM w f e) 25 (vI x)) : TC) = Sum.inr (11, oM w (upd f 25 x) e)
    congr 2
    funext k
    match k with
    | 0 => rfl
    | 1 => rfl
    | 2 => rfl
    | 3 => rfl
    | 4 => rfl
    | 5 => rfl
    | 6 => rfl
    | 7 => rfl
    | 8 => rfl
    | 9 => rfl
    | 10 => rfl
    | 11 => rfl
    | 12 => rfl
    | 13 => rfl
    | 14 => rfl
    | 15 => rfl
    | 16 => rfl
    | 17 => rfl
    | 18 => rfl
    | 19 => rfl
    | 20 => rfl
    | 21 => rfl
    | 22 => rfl
    | 23 => rfl
    | 24 => rfl
    | 25 => rfl
    | 26 => rfl
    | 27 => rfl
    | 28 => rfl
    | 29 => rfl
    | 30 => rfl
    | 31 => rfl
    | 32 => rfl
    | 33 => rfl
    | 34 => rfl
    | 35 => rfl
    | 36 => rfl
    | 37 => rfl
    | 38 => rfl
    | 39 => rfl
    | 40 => rfl
    | 41 => rfl
    | 42 => rfl
    | 43 => rfl
    | 44 => rfl
    | 45 => rfl
    | 46 => rfl
    | 47 => rfl
    | 48 => rfl
    | 49 => rfl
    | 50 => rfl
    | 51 => rfl
    | 52 => rfl
    | k + 53 => rfl
  | 1 => rfl
  | 2 => rfl
  | 3 => rfl
  | 4 => rfl
  | 5 => rfl
  | 6 => rfl
  | 7 => rfl
  | 8 => rfl
  | 9 => rfl
  | 10 => rfl
  | 11 => rfl
  | 12 => rfl
  | 13 => rfl
  | 14 => rfl
  | 15 => rfl
  | 16 => rfl
  | 17 => rfl
  | 18 => rfl
  | 19 => rfl
  | 20 => rfl
  | 21 => rfl
  | 22 => rfl
  | 23 => rfl
  | 24 => rfl
  | j + 25 => rfl
theorem hM_p25 : tput (hM h w f e g u) w [11] 25 0 (vI x) = some (hM h w (upd f 25 x) e g u) := by unfold tput; rw [hM_0]; exact congrArg some (rput_set (j := 0) (by decide) hM_v25)
theorem hM_v26 : va_up (cM w f e g u) 0 (.inr (11, va_up (oM w f e) 26 (vI x))) = cM w (upd f 26 x) e g u := by
  funext j
  match j with
  | 0 =>
    show (Sum.inr (11, va_up (oM w f e) 26 (vI x)) : TC) = Sum.inr (11, oM w (upd f 26 x) e)
    congr 2
    funext k
    match k with
    | 0 => rfl
    | 1 => rfl
    | 2 => rfl
    | 3 => rfl
    | 4 => rfl
    | 5 => rfl
    | 6 => rfl
    | 7 => rfl
    | 8 => rfl
    | 9 => rfl
    | 10 => rfl
    | 11 => rfl
    | 12 => rfl
    | 13 => rfl
    | 14 => rfl
    | 15 => rfl
    | 16 => rfl
    | 17 => rfl
    | 18 => rfl
    | 19 => rfl
    | 20 => rfl
    | 21 => rfl
    | 22 => rfl
    | 23 => rfl
    | 24 => rfl
    | 25 => rfl
    | 26 => rfl
    | 27 => rfl
    | 28 => rfl
    | 29 => rfl
    | 30 => rfl
    | 31 => rfl
    | 32 => rfl
    | 33 => rfl
    | 34 => rfl
    | 35 => rfl
    | 36 => rfl
    | 37 => rfl
    | 38 => rfl
    | 39 => rfl
    | 40 => rfl
    | 41 => rfl
    | 42 => rfl
    | 43 => rfl
    | 44 => rfl
    | 45 => rfl
    | 46 => rfl
    | 47 => rfl
    | 48 => rfl
    | 49 => rfl
    | 50 => rfl
    | 51 => rfl
    | 52 => rfl
    | k + 53 => rfl
  | 1 => rfl
  | 2 => rfl
  | 3 => rfl
  | 4 => rfl
  | 5 => rfl
  | 6 => rfl
  | 7 => rfl
  | 8 => rfl
  | 9 => rfl
  | 10 => rfl
  | 11 => rfl
  | 12 => rfl
  | 13 => rfl
  | 14 => rfl
  | 15 => rfl
  | 16 => rfl
  | 17 => rfl
  | 18 => rfl
  | 19 => rfl
  | 20 => rfl
  | 21 => rfl
  | 22 => rfl
  | 23 => rfl
  | 24 => rfl
  | j + 25 => rfl
theorem hM_p26 : tput (hM h w f e g u) w [11] 26 0 (vI x) = some (hM h w (upd f 26 x) e g u) := by unfold tput; rw [hM_0]; exact congrArg some (rput_set (j := 0) (by decide) hM_v26)
theorem hM_v27 : va_up (cM w f e g u) 0 (.inr (11, va_up (oM w f e) 27 (vI x))) = cM w (upd f 27 x) e g u := by
  funext j
  match j with
  | 0 =>
    show (Sum.inr (11, va_up (oM w f e) 27 (vI x)) : TC) = Sum.inr (11, oM w (upd f 27 x) e)
    congr 2
    funext k
    match k with
    | 0 => rfl
    | 1 => rfl
    | 2 => rfl
    | 3 => rfl
    | 4 => rfl
    | 5 => rfl
    | 6 => rfl
    | 7 => rfl
    | 8 => rfl
    | 9 => rfl
    | 10 => rfl
    | 11 => rfl
    | 12 => rfl
    | 13 => rfl
    | 14 => rfl
    | 15 => rfl
    | 16 => rfl
    | 17 => rfl
    | 18 => rfl
    | 19 => rfl
    | 20 => rfl
    | 21 => rfl
    | 22 => rfl
    | 23 => rfl
    | 24 => rfl
    | 25 => rfl
    | 26 => rfl
    | 27 => rfl
    | 28 => rfl
    | 29 => rfl
    | 30 => rfl
    | 31 => rfl
    | 32 => rfl
    | 33 => rfl
    | 34 => rfl
    | 35 => rfl
    | 36 => rfl
    | 37 => rfl
    | 38 => rfl
    | 39 => rfl
    | 40 => rfl
    | 41 => rfl
    | 42 => rfl
    | 43 => rfl
    | 44 => rfl
    | 45 => rfl
    | 46 => rfl
    | 47 => rfl
    | 48 => rfl
    | 49 => rfl
    | 50 => rfl
    | 51 => rfl
    | 52 => rfl
    | k + 53 => rfl
  | 1 => rfl
  | 2 => rfl
  | 3 => rfl
  | 4 => rfl
  | 5 => rfl
  | 6 => rfl
  | 7 => rfl
  | 8 => rfl
  | 9 => rfl
  | 10 => rfl
  | 11 => rfl
  | 12 => rfl
  | 13 => rfl
  | 14 => rfl
  | 15 => rfl
  | 16 => rfl
  | 17 => rfl
  | 18 => rfl
  | 19 => rfl
  | 20 => rfl
  | 21 => rfl
  | 22 => rfl
  | 23 => rfl
  | 24 => rfl
  | j + 25 => rfl
theorem hM_p27 : tput (hM h w f e g u) w [11] 27 0 (vI x) = some (hM h w (upd f 27 x) e g u) := by unfold tput; rw [hM_0]; exact congrArg some (rput_set (j := 0) (by decide) hM_v27)
theorem hM_v28 : va_up (cM w f e g u) 0 (.inr (11, va_up (oM w f e) 28 (vI x))) = cM w (upd f 28 x) e g u := by
  funext j
  match j with
  | 0 =>
    show (Sum.inr (11, va_up (oM w f e) 28 (vI x)) : TC) = Sum.inr (11, oM w (upd f 28 x) e)
    congr 2
    funext k
    match k with
    | 0 => rfl
    | 1 => rfl
    | 2 => rfl
    | 3 => rfl
    | 4 => rfl
    | 5 => rfl
    | 6 => rfl
    | 7 => rfl
    | 8 => rfl
    | 9 => rfl
    | 10 => rfl
    | 11 => rfl
    | 12 => rfl
    | 13 => rfl
    | 14 => rfl
    | 15 => rfl
    | 16 => rfl
    | 17 => rfl
    | 18 => rfl
    | 19 => rfl
    | 20 => rfl
    | 21 => rfl
    | 22 => rfl
    | 23 => rfl
    | 24 => rfl
    | 25 => rfl
    | 26 => rfl
    | 27 => rfl
    | 28 => rfl
    | 29 => rfl
    | 30 => rfl
    | 31 => rfl
    | 32 => rfl
    | 33 => rfl
    | 34 => rfl
    | 35 => rfl
    | 36 => rfl
    | 37 => rfl
    | 38 => rfl
    | 39 => rfl
    | 40 => rfl
    | 41 => rfl
    | 42 => rfl
    | 43 => rfl
    | 44 => rfl
    | 45 => rfl
    | 46 => rfl
    | 47 => rfl
    | 48 => rfl
    | 49 => rfl
    | 50 => rfl
    | 51 => rfl
    | 52 => rfl
    | k + 53 => rfl
  | 1 => rfl
  | 2 => rfl
  | 3 => rfl
  | 4 => rfl
  | 5 => rfl
  | 6 => rfl
  | 7 => rfl
  | 8 => rfl
  | 9 => rfl
  | 10 => rfl
  | 11 => rfl
  | 12 => rfl
  | 13 => rfl
  | 14 => rfl
  | 15 => rfl
  | 16 => rfl
  | 17 => rfl
  | 18 => rfl
  | 19 => rfl
  | 20 => rfl
  | 21 => rfl
  | 22 => rfl
  | 23 => rfl
  | 24 => rfl
  | j + 25 => rfl
theorem hM_p28 : tput (hM h w f e g u) w [11] 28 0 (vI x) = some (hM h w (upd f 28 x) e g u) := by unfold tput; rw [hM_0]; exact congrArg some (rput_set (j := 0) (by decide) hM_v28)
theorem hM_v31 : va_up (cM w f e g u) 0 (.inr (11, va_up (oM w f e) 31 (vI x))) = cM w (upd f 31 x) e g u := by
  funext j
  match j with
  | 0 =>
    show (Sum.inr (11, va_up (oM w f e) 31 (vI x)) : TC) = Sum.inr (11, oM w (upd f 31 x) e)
    congr 2
    funext k
    match k with
    | 0 => rfl
    | 1 => rfl
    | 2 => rfl
    | 3 => rfl
    | 4 => rfl
    | 5 => rfl
    | 6 => rfl
    | 7 => rfl
    | 8 => rfl
    | 9 => rfl
    | 10 => rfl
    | 11 => rfl
    | 12 => rfl
    | 13 => rfl
    | 14 => rfl
    | 15 => rfl
    | 16 => rfl
    | 17 => rfl
    | 18 => rfl
    | 19 => rfl
    | 20 => rfl
    | 21 => rfl
    | 22 => rfl
    | 23 => rfl
    | 24 => rfl
    | 25 => rfl
    | 26 => rfl
    | 27 => rfl
    | 28 => rfl
    | 29 => rfl
    | 30 => rfl
    | 31 => rfl
    | 32 => rfl
    | 33 => rfl
    | 34 => rfl
    | 35 => rfl
    | 36 => rfl
    | 37 => rfl
    | 38 => rfl
    | 39 => rfl
    | 40 => rfl
    | 41 => rfl
    | 42 => rfl
    | 43 => rfl
    | 44 => rfl
    | 45 => rfl
    | 46 => rfl
    | 47 => rfl
    | 48 => rfl
    | 49 => rfl
    | 50 => rfl
    | 51 => rfl
    | 52 => rfl
    | k + 53 => rfl
  | 1 => rfl
  | 2 => rfl
  | 3 => rfl
  | 4 => rfl
  | 5 => rfl
  | 6 => rfl
  | 7 => rfl
  | 8 => rfl
  | 9 => rfl
  | 10 => rfl
  | 11 => rfl
  | 12 => rfl
  | 13 => rfl
  | 14 => rfl
  | 15 => rfl
  | 16 => rfl
  | 17 => rfl
  | 18 => rfl
  | 19 => rfl
  | 20 => rfl
  | 21 => rfl
  | 22 => rfl
  | 23 => rfl
  | 24 => rfl
  | j + 25 => rfl
theorem hM_p31 : tput (hM h w f e g u) w [11] 31 0 (vI x) = some (hM h w (upd f 31 x) e g u) := by unfold tput; rw [hM_0]; exact congrArg some (rput_set (j := 0) (by decide) hM_v31)
theorem hM_v32 : va_up (cM w f e g u) 0 (.inr (11, va_up (oM w f e) 32 (vI x))) = cM w (upd f 32 x) e g u := by
  funext j
  match j with
  | 0 =>
    show (Sum.inr (11, va_up (oM w f e) 32 (vI x)) : TC) = Sum.inr (11, oM w (upd f 32 x) e)
    congr 2
    funext k
    match k with
    | 0 => rfl
    | 1 => rfl
    | 2 => rfl
    | 3 => rfl
    | 4 => rfl
    | 5 => rfl
    | 6 => rfl
    | 7 => rfl
    | 8 => rfl
    | 9 => rfl
    | 10 => rfl
    | 11 => rfl
    | 12 => rfl
    | 13 => rfl
    | 14 => rfl
    | 15 => rfl
    | 16 => rfl
    | 17 => rfl
    | 18 => rfl
    | 19 => rfl
    | 20 => rfl
    | 21 => rfl
    | 22 => rfl
    | 23 => rfl
    | 24 => rfl
    | 25 => rfl
    | 26 => rfl
    | 27 => rfl
    | 28 => rfl
    | 29 => rfl
    | 30 => rfl
    | 31 => rfl
    | 32 => rfl
    | 33 => rfl
    | 34 => rfl
    | 35 => rfl
    | 36 => rfl
    | 37 => rfl
    | 38 => rfl
    | 39 => rfl
    | 40 => rfl
    | 41 => rfl
    | 42 => rfl
    | 43 => rfl
    | 44 => rfl
    | 45 => rfl
    | 46 => rfl
    | 47 => rfl
    | 48 => rfl
    | 49 => rfl
    | 50 => rfl
    | 51 => rfl
    | 52 => rfl
    | k + 53 => rfl
  | 1 => rfl
  | 2 => rfl
  | 3 => rfl
  | 4 => rfl
  | 5 => rfl
  | 6 => rfl
  | 7 => rfl
  | 8 => rfl
  | 9 => rfl
  | 10 => rfl
  | 11 => rfl
  | 12 => rfl
  | 13 => rfl
  | 14 => rfl
  | 15 => rfl
  | 16 => rfl
  | 17 => rfl
  | 18 => rfl
  | 19 => rfl
  | 20 => rfl
  | 21 => rfl
  | 22 => rfl
  | 23 => rfl
  | 24 => rfl
  | j + 25 => rfl
theorem hM_p32 : tput (hM h w f e g u) w [11] 32 0 (vI x) = some (hM h w (upd f 32 x) e g u) := by unfold tput; rw [hM_0]; exact congrArg some (rput_set (j := 0) (by decide) hM_v32)
theorem hM_v35 : va_up (cM w f e g u) 0 (.inr (11, va_up (oM w f e) 35 (vI x))) = cM w (upd f 35 x) e g u := by
  funext j
  match j with
  | 0 =>
    show (Sum.inr (11, va_up (oM w f e) 35 (vI x)) : TC) = Sum.inr (11, oM w (upd f 35 x) e)
    congr 2
    funext k
    match k with
    | 0 => rfl
    | 1 => rfl
    | 2 => rfl
    | 3 => rfl
    | 4 => rfl
    | 5 => rfl
    | 6 => rfl
    | 7 => rfl
    | 8 => rfl
    | 9 => rfl
    | 10 => rfl
    | 11 => rfl
    | 12 => rfl
    | 13 => rfl
    | 14 => rfl
    | 15 => rfl
    | 16 => rfl
    | 17 => rfl
    | 18 => rfl
    | 19 => rfl
    | 20 => rfl
    | 21 => rfl
    | 22 => rfl
    | 23 => rfl
    | 24 => rfl
    | 25 => rfl
    | 26 => rfl
    | 27 => rfl
    | 28 => rfl
    | 29 => rfl
    | 30 => rfl
    | 31 => rfl
    | 32 => rfl
    | 33 => rfl
    | 34 => rfl
    | 35 => rfl
    | 36 => rfl
    | 37 => rfl
    | 38 => rfl
    | 39 => rfl
    | 40 => rfl
    | 41 => rfl
    | 42 => rfl
    | 43 => rfl
    | 44 => rfl
    | 45 => rfl
    | 46 => rfl
    | 47 => rfl
    | 48 => rfl
    | 49 => rfl
    | 50 => rfl
    | 51 => rfl
    | 52 => rfl
    | k + 53 => rfl
  | 1 => rfl
  | 2 => rfl
  | 3 => rfl
  | 4 => rfl
  | 5 => rfl
  | 6 => rfl
  | 7 => rfl
  | 8 => rfl
  | 9 => rfl
  | 10 => rfl
  | 11 => rfl
  | 12 => rfl
  | 13 => rfl
  | 14 => rfl
  | 15 => rfl
  | 16 => rfl
  | 17 => rfl
  | 18 => rfl
  | 19 => rfl
  | 20 => rfl
  | 21 => rfl
  | 22 => rfl
  | 23 => rfl
  | 24 => rfl
  | j + 25 => rfl
theorem hM_p35 : tput (hM h w f e g u) w [11] 35 0 (vI x) = some (hM h w (upd f 35 x) e g u) := by unfold tput; rw [hM_0]; exact congrArg some (rput_set (j := 0) (by decide) hM_v35)
theorem hM_v36 : va_up (cM w f e g u) 0 (.inr (11, va_up (oM w f e) 36 (vI x))) = cM w (upd f 36 x) e g u := by
  funext j
  match j with
  | 0 =>
    show (Sum.inr (11, va_up (oM w f e) 36 (vI x)) : TC) = Sum.inr (11, oM w (upd f 36 x) e)
    congr 2
    funext k
    match k with
    | 0 => rfl
    | 1 => rfl
    | 2 => rfl
    | 3 => rfl
    | 4 => rfl
    | 5 => rfl
    | 6 => rfl
    | 7 => rfl
    | 8 => rfl
    | 9 => rfl
    | 10 => rfl
    | 11 => rfl
    | 12 => rfl
    | 13 => rfl
    | 14 => rfl
    | 15 => rfl
    | 16 => rfl
    | 17 => rfl
    | 18 => rfl
    | 19 => rfl
    | 20 => rfl
    | 21 => rfl
    | 22 => rfl
    | 23 => rfl
    | 24 => rfl
    | 25 => rfl
    | 26 => rfl
    | 27 => rfl
    | 28 => rfl
    | 29 => rfl
    | 30 => rfl
    | 31 => rfl
    | 32 => rfl
    | 33 => rfl
    | 34 => rfl
    | 35 => rfl
    | 36 => rfl
    | 37 => rfl
    | 38 => rfl
    | 39 => rfl
    | 40 => rfl
    | 41 => rfl
    | 42 => rfl
    | 43 => rfl
    | 44 => rfl
    | 45 => rfl
    | 46 => rfl
    | 47 => rfl
    | 48 => rfl
    | 49 => rfl
    | 50 => rfl
    | 51 => rfl
    | 52 => rfl
    | k + 53 => rfl
  | 1 => rfl
  | 2 => rfl
  | 3 => rfl
  | 4 => rfl
  | 5 => rfl
  | 6 => rfl
  | 7 => rfl
  | 8 => rfl
  | 9 => rfl
  | 10 => rfl
  | 11 => rfl
  | 12 => rfl
  | 13 => rfl
  | 14 => rfl
  | 15 => rfl
  | 16 => rfl
  | 17 => rfl
  | 18 => rfl
  | 19 => rfl
  | 20 => rfl
  | 21 => rfl
  | 22 => rfl
  | 23 => rfl
  | 24 => rfl
  | j + 25 => rfl
theorem hM_p36 : tput (hM h w f e g u) w [11] 36 0 (vI x) = some (hM h w (upd f 36 x) e g u) := by unfold tput; rw [hM_0]; exact congrArg some (rput_set (j := 0) (by decide) hM_v36)
theorem hM_v43 : va_up (cM w f e g u) 0 (.inr (11, va_up (oM w f e) 43 (vI x))) = cM w (upd f 43 x) e g u := by
  funext j
  match j with
  | 0 =>
    show (Sum.inr (11, va_up (oM w f e) 43 (vI x)) : TC) = Sum.inr (11, oM w (upd f 43 x) e)
    congr 2
    funext k
    match k with
    | 0 => rfl
    | 1 => rfl
    | 2 => rfl
    | 3 => rfl
    | 4 => rfl
    | 5 => rfl
    | 6 => rfl
    | 7 => rfl
    | 8 => rfl
    | 9 => rfl
    | 10 => rfl
    | 11 => rfl
    | 12 => rfl
    | 13 => rfl
    | 14 => rfl
    | 15 => rfl
    | 16 => rfl
    | 17 => rfl
    | 18 => rfl
    | 19 => rfl
    | 20 => rfl
    | 21 => rfl
    | 22 => rfl
    | 23 => rfl
    | 24 => rfl
    | 25 => rfl
    | 26 => rfl
    | 27 => rfl
    | 28 => rfl
    | 29 => rfl
    | 30 => rfl
    | 31 => rfl
    | 32 => rfl
    | 33 => rfl
    | 34 => rfl
    | 35 => rfl
    | 36 => rfl
    | 37 => rfl
    | 38 => rfl
    | 39 => rfl
    | 40 => rfl
    | 41 => rfl
    | 42 => rfl
    | 43 => rfl
    | 44 => rfl
    | 45 => rfl
    | 46 => rfl
    | 47 => rfl
    | 48 => rfl
    | 49 => rfl
    | 50 => rfl
    | 51 => rfl
    | 52 => rfl
    | k + 53 => rfl
  | 1 => rfl
  | 2 => rfl
  | 3 => rfl
  | 4 => rfl
  | 5 => rfl
  | 6 => rfl
  | 7 => rfl
  | 8 => rfl
  | 9 => rfl
  | 10 => rfl
  | 11 => rfl
  | 12 => rfl
  | 13 => rfl
  | 14 => rfl
  | 15 => rfl
  | 16 => rfl
  | 17 => rfl
  | 18 => rfl
  | 19 => rfl
  | 20 => rfl
  | 21 => rfl
  | 22 => rfl
  | 23 => rfl
  | 24 => rfl
  | j + 25 => rfl
theorem hM_p43 : tput (hM h w f e g u) w [11] 43 0 (vI x) = some (hM h w (upd f 43 x) e g u) := by unfold tput; rw [hM_0]; exact congrArg some (rput_set (j := 0) (by decide) hM_v43)
theorem hM_v44 : va_up (cM w f e g u) 0 (.inr (11, va_up (oM w f e) 44 (vI x))) = cM w (upd f 44 x) e g u := by
  funext j
  match j with
  | 0 =>
    show (Sum.inr (11, va_up (oM w f e) 44 (vI x)) : TC) = Sum.inr (11, oM w (upd f 44 x) e)
    congr 2
    funext k
    match k with
    | 0 => rfl
    | 1 => rfl
    | 2 => rfl
    | 3 => rfl
    | 4 => rfl
    | 5 => rfl
    | 6 => rfl
    | 7 => rfl
    | 8 => rfl
    | 9 => rfl
    | 10 => rfl
    | 11 => rfl
    | 12 => rfl
    | 13 => rfl
    | 14 => rfl
    | 15 => rfl
    | 16 => rfl
    | 17 => rfl
    | 18 => rfl
    | 19 => rfl
    | 20 => rfl
    | 21 => rfl
    | 22 => rfl
    | 23 => rfl
    | 24 => rfl
    | 25 => rfl
    | 26 => rfl
    | 27 => rfl
    | 28 => rfl
    | 29 => rfl
    | 30 => rfl
    | 31 => rfl
    | 32 => rfl
    | 33 => rfl
    | 34 => rfl
    | 35 => rfl
    | 36 => rfl
    | 37 => rfl
    | 38 => rfl
    | 39 => rfl
    | 40 => rfl
    | 41 => rfl
    | 42 => rfl
    | 43 => rfl
    | 44 => rfl
    | 45 => rfl
    | 46 => rfl
    | 47 => rfl
    | 48 => rfl
    | 49 => rfl
    | 50 => rfl
    | 51 => rfl
    | 52 => rfl
    | k + 53 => rfl
  | 1 => rfl
  | 2 => rfl
  | 3 => rfl
  | 4 => rfl
  | 5 => rfl
  | 6 => rfl
  | 7 => rfl
  | 8 => rfl
  | 9 => rfl
  | 10 => rfl
  | 11 => rfl
  | 12 => rfl
  | 13 => rfl
  | 14 => rfl
  | 15 => rfl
  | 16 => rfl
  | 17 => rfl
  | 18 => rfl
  | 19 => rfl
  | 20 => rfl
  | 21 => rfl
  | 22 => rfl
  | 23 => rfl
  | 24 => rfl
  | j + 25 => rfl
theorem hM_p44 : tput (hM h w f e g u) w [11] 44 0 (vI x) = some (hM h w (upd f 44 x) e g u) := by unfold tput; rw [hM_0]; exact congrArg some (rput_set (j := 0) (by decide) hM_v44)
theorem hM_v45 : va_up (cM w f e g u) 0 (.inr (11, va_up (oM w f e) 45 (vI x))) = cM w (upd f 45 x) e g u := by
  funext j
  match j with
  | 0 =>
    show (Sum.inr (11, va_up (oM w f e) 45 (vI x)) : TC) = Sum.inr (11, oM w (upd f 45 x) e)
    congr 2
    funext k
    match k with
    | 0 => rfl
    | 1 => rfl
    | 2 => rfl
    | 3 => rfl
    | 4 => rfl
    | 5 => rfl
    | 6 => rfl
    | 7 => rfl
    | 8 => rfl
    | 9 => rfl
    | 10 => rfl
    | 11 => rfl
    | 12 => rfl
    | 13 => rfl
    | 14 => rfl
    | 15 => rfl
    | 16 => rfl
    | 17 => rfl
    | 18 => rfl
    | 19 => rfl
    | 20 => rfl
    | 21 => rfl
    | 22 => rfl
    | 23 => rfl
    | 24 => rfl
    | 25 => rfl
    | 26 => rfl
    | 27 => rfl
    | 28 => rfl
    | 29 => rfl
    | 30 => rfl
    | 31 => rfl
    | 32 => rfl
    | 33 => rfl
    | 34 => rfl
    | 35 => rfl
    | 36 => rfl
    | 37 => rfl
    | 38 => rfl
    | 39 => rfl
    | 40 => rfl
    | 41 => rfl
    | 42 => rfl
    | 43 => rfl
    | 44 => rfl
    | 45 => rfl
    | 46 => rfl
    | 47 => rfl
    | 48 => rfl
    | 49 => rfl
    | 50 => rfl
    | 51 => rfl
    | 52 => rfl
    | k + 53 => rfl
  | 1 => rfl
  | 2 => rfl
  | 3 => rfl
  | 4 => rfl
  | 5 => rfl
  | 6 => rfl
  | 7 => rfl
  | 8 => rfl
  | 9 => rfl
  | 10 => rfl
  | 11 => rfl
  | 12 => rfl
  | 13 => rfl
  | 14 => rfl
  | 15 => rfl
  | 16 => rfl
  | 17 => rfl
  | 18 => rfl
  | 19 => rfl
  | 20 => rfl
  | 21 => rfl
  | 22 => rfl
  | 23 => rfl
  | 24 => rfl
  | j + 25 => rfl
theorem hM_p45 : tput (hM h w f e g u) w [11] 45 0 (vI x) = some (hM h w (upd f 45 x) e g u) := by unfold tput; rw [hM_0]; exact congrArg some (rput_set (j := 0) (by decide) hM_v45)
theorem hM_v47 : va_up (cM w f e g u) 0 (.inr (11, va_up (oM w f e) 47 (vI x))) = cM w (upd f 47 x) e g u := by
  funext j
  match j with
  | 0 =>
    show (Sum.inr (11, va_up (oM w f e) 47 (vI x)) : TC) = Sum.inr (11, oM w (upd f 47 x) e)
    congr 2
    funext k
    match k with
    | 0 => rfl
    | 1 => rfl
    | 2 => rfl
    | 3 => rfl
    | 4 => rfl
    | 5 => rfl
    | 6 => rfl
    | 7 => rfl
    | 8 => rfl
    | 9 => rfl
    | 10 => rfl
    | 11 => rfl
    | 12 => rfl
    | 13 => rfl
    | 14 => rfl
    | 15 => rfl
    | 16 => rfl
    | 17 => rfl
    | 18 => rfl
    | 19 => rfl
    | 20 => rfl
    | 21 => rfl
    | 22 => rfl
    | 23 => rfl
    | 24 => rfl
    | 25 => rfl
    | 26 => rfl
    | 27 => rfl
    | 28 => rfl
    | 29 => rfl
    | 30 => rfl
    | 31 => rfl
    | 32 => rfl
    | 33 => rfl
    | 34 => rfl
    | 35 => rfl
    | 36 => rfl
    | 37 => rfl
    | 38 => rfl
    | 39 => rfl
    | 40 => rfl
    | 41 => rfl
    | 42 => rfl
    | 43 => rfl
    | 44 => rfl
    | 45 => rfl
    | 46 => rfl
    | 47 => rfl
    | 48 => rfl
    | 49 => rfl
    | 50 => rfl
    | 51 => rfl
    | 52 => rfl
    | k + 53 => rfl
  | 1 => rfl
  | 2 => rfl
  | 3 => rfl
  | 4 => rfl
  | 5 => rfl
  | 6 => rfl
  | 7 => rfl
  | 8 => rfl
  | 9 => rfl
  | 10 => rfl
  | 11 => rfl
  | 12 => rfl
  | 13 => rfl
  | 14 => rfl
  | 15 => rfl
  | 16 => rfl
  | 17 => rfl
  | 18 => rfl
  | 19 => rfl
  | 20 => rfl
  | 21 => rfl
  | 22 => rfl
  | 23 => rfl
  | 24 => rfl
  | j + 25 => rfl
theorem hM_p47 : tput (hM h w f e g u) w [11] 47 0 (vI x) = some (hM h w (upd f 47 x) e g u) := by unfold tput; rw [hM_0]; exact congrArg some (rput_set (j := 0) (by decide) hM_v47)
theorem hM_v48 : va_up (cM w f e g u) 0 (.inr (11, va_up (oM w f e) 48 (vI x))) = cM w (upd f 48 x) e g u := by
  funext j
  match j with
  | 0 =>
    show (Sum.inr (11, va_up (oM w f e) 48 (vI x)) : TC) = Sum.inr (11, oM w (upd f 48 x) e)
    congr 2
    funext k
    match k with
    | 0 => rfl
    | 1 => rfl
    | 2 => rfl
    | 3 => rfl
    | 4 => rfl
    | 5 => rfl
    | 6 => rfl
    | 7 => rfl
    | 8 => rfl
    | 9 => rfl
    | 10 => rfl
    | 11 => rfl
    | 12 => rfl
    | 13 => rfl
    | 14 => rfl
    | 15 => rfl
    | 16 => rfl
    | 17 => rfl
    | 18 => rfl
    | 19 => rfl
    | 20 => rfl
    | 21 => rfl
    | 22 => rfl
    | 23 => rfl
    | 24 => rfl
    | 25 => rfl
    | 26 => rfl
    | 27 => rfl
    | 28 => rfl
    | 29 => rfl
    | 30 => rfl
    | 31 => rfl
    | 32 => rfl
    | 33 => rfl
    | 34 => rfl
    | 35 => rfl
    | 36 => rfl
    | 37 => rfl
    | 38 => rfl
    | 39 => rfl
    | 40 => rfl
    | 41 => rfl
    | 42 => rfl
    | 43 => rfl
    | 44 => rfl
    | 45 => rfl
    | 46 => rfl
    | 47 => rfl
    | 48 => rfl
    | 49 => rfl
    | 50 => rfl
    | 51 => rfl
    | 52 => rfl
    | k + 53 => rfl
  | 1 => rfl
  | 2 => rfl
  | 3 => rfl
  | 4 => rfl
  | 5 => rfl
  | 6 => rfl
  | 7 => rfl
  | 8 => rfl
  | 9 => rfl
  | 10 => rfl
  | 11 => rfl
  | 12 => rfl
  | 13 => rfl
  | 14 => rfl
  | 15 => rfl
  | 16 => rfl
  | 17 => rfl
  | 18 => rfl
  | 19 => rfl
  | 20 => rfl
  | 21 => rfl
  | 22 => rfl
  | 23 => rfl
  | 24 => rfl
  | j + 25 => rfl
theorem hM_p48 (hx : x = 0 ∨ x = 1) : tput (hM h w f e g u) w [11] 48 1 (vI x) = some (hM h w (upd f 48 x) e g u) := by
  unfold tput
  rw [hM_0]
  dsimp only
  rw [if_pos ⟨rfl, by simp [tkok, hx]⟩]
  exact congrArg some (rput_set (j := 0) (by decide) hM_v48)
theorem hM_v49 : va_up (cM w f e g u) 0 (.inr (11, va_up (oM w f e) 49 (vI x))) = cM w (upd f 49 x) e g u := by
  funext j
  match j with
  | 0 =>
    show (Sum.inr (11, va_up (oM w f e) 49 (vI x)) : TC) = Sum.inr (11, oM w (upd f 49 x) e)
    congr 2
    funext k
    match k with
    | 0 => rfl
    | 1 => rfl
    | 2 => rfl
    | 3 => rfl
    | 4 => rfl
    | 5 => rfl
    | 6 => rfl
    | 7 => rfl
    | 8 => rfl
    | 9 => rfl
    | 10 => rfl
    | 11 => rfl
    | 12 => rfl
    | 13 => rfl
    | 14 => rfl
    | 15 => rfl
    | 16 => rfl
    | 17 => rfl
    | 18 => rfl
    | 19 => rfl
    | 20 => rfl
    | 21 => rfl
    | 22 => rfl
    | 23 => rfl
    | 24 => rfl
    | 25 => rfl
    | 26 => rfl
    | 27 => rfl
    | 28 => rfl
    | 29 => rfl
    | 30 => rfl
    | 31 => rfl
    | 32 => rfl
    | 33 => rfl
    | 34 => rfl
    | 35 => rfl
    | 36 => rfl
    | 37 => rfl
    | 38 => rfl
    | 39 => rfl
    | 40 => rfl
    | 41 => rfl
    | 42 => rfl
    | 43 => rfl
    | 44 => rfl
    | 45 => rfl
    | 46 => rfl
    | 47 => rfl
    | 48 => rfl
    | 49 => rfl
    | 50 => rfl
    | 51 => rfl
    | 52 => rfl
    | k + 53 => rfl
  | 1 => rfl
  | 2 => rfl
  | 3 => rfl
  | 4 => rfl
  | 5 => rfl
  | 6 => rfl
  | 7 => rfl
  | 8 => rfl
  | 9 => rfl
  | 10 => rfl
  | 11 => rfl
  | 12 => rfl
  | 13 => rfl
  | 14 => rfl
  | 15 => rfl
  | 16 => rfl
  | 17 => rfl
  | 18 => rfl
  | 19 => rfl
  | 20 => rfl
  | 21 => rfl
  | 22 => rfl
  | 23 => rfl
  | 24 => rfl
  | j + 25 => rfl
theorem hM_p49 (hx : x = 0 ∨ x = 1) : tput (hM h w f e g u) w [11] 49 1 (vI x) = some (hM h w (upd f 49 x) e g u) := by
  unfold tput
  rw [hM_0]
  dsimp only
  rw [if_pos ⟨rfl, by simp [tkok, hx]⟩]
  exact congrArg some (rput_set (j := 0) (by decide) hM_v49)
theorem hM_v51 : va_up (cM w f e g u) 0 (.inr (11, va_up (oM w f e) 51 (vI x))) = cM w (upd f 51 x) e g u := by
  funext j
  match j with
  | 0 =>
    show (Sum.inr (11, va_up (oM w f e) 51 (vI x)) : TC) = Sum.inr (11, oM w (upd f 51 x) e)
    congr 2
    funext k
    match k with
    | 0 => rfl
    | 1 => rfl
    | 2 => rfl
    | 3 => rfl
    | 4 => rfl
    | 5 => rfl
    | 6 => rfl
    | 7 => rfl
    | 8 => rfl
    | 9 => rfl
    | 10 => rfl
    | 11 => rfl
    | 12 => rfl
    | 13 => rfl
    | 14 => rfl
    | 15 => rfl
    | 16 => rfl
    | 17 => rfl
    | 18 => rfl
    | 19 => rfl
    | 20 => rfl
    | 21 => rfl
    | 22 => rfl
    | 23 => rfl
    | 24 => rfl
    | 25 => rfl
    | 26 => rfl
    | 27 => rfl
    | 28 => rfl
    | 29 => rfl
    | 30 => rfl
    | 31 => rfl
    | 32 => rfl
    | 33 => rfl
    | 34 => rfl
    | 35 => rfl
    | 36 => rfl
    | 37 => rfl
    | 38 => rfl
    | 39 => rfl
    | 40 => rfl
    | 41 => rfl
    | 42 => rfl
    | 43 => rfl
    | 44 => rfl
    | 45 => rfl
    | 46 => rfl
    | 47 => rfl
    | 48 => rfl
    | 49 => rfl
    | 50 => rfl
    | 51 => rfl
    | 52 => rfl
    | k + 53 => rfl
  | 1 => rfl
  | 2 => rfl
  | 3 => rfl
  | 4 => rfl
  | 5 => rfl
  | 6 => rfl
  | 7 => rfl
  | 8 => rfl
  | 9 => rfl
  | 10 => rfl
  | 11 => rfl
  | 12 => rfl
  | 13 => rfl
  | 14 => rfl
  | 15 => rfl
  | 16 => rfl
  | 17 => rfl
  | 18 => rfl
  | 19 => rfl
  | 20 => rfl
  | 21 => rfl
  | 22 => rfl
  | 23 => rfl
  | 24 => rfl
  | j + 25 => rfl
theorem hM_p51 : tput (hM h w f e g u) w [11] 51 0 (vI x) = some (hM h w (upd f 51 x) e g u) := by unfold tput; rw [hM_0]; exact congrArg some (rput_set (j := 0) (by decide) hM_v51)
theorem hM_v13 : va_up (cM w f e g u) 0 (.inr (11, va_up (oM w f e) 13 (vL z))) = cM w f (vp_updL e 13 z) g u := by
  funext j
  match j with
  | 0 =>
    show (Sum.inr (11, va_up (oM w f e) 13 (vL z)) : TC) = Sum.inr (11, oM w f (vp_updL e 13 z))
    congr 2
    funext k
    match k with
    | 0 => rfl
    | 1 => rfl
    | 2 => rfl
    | 3 => rfl
    | 4 => rfl
    | 5 => rfl
    | 6 => rfl
    | 7 => rfl
    | 8 => rfl
    | 9 => rfl
    | 10 => rfl
    | 11 => rfl
    | 12 => rfl
    | 13 => rfl
    | 14 => rfl
    | 15 => rfl
    | 16 => rfl
    | 17 => rfl
    | 18 => rfl
    | 19 => rfl
    | 20 => rfl
    | 21 => rfl
    | 22 => rfl
    | 23 => rfl
    | 24 => rfl
    | 25 => rfl
    | 26 => rfl
    | 27 => rfl
    | 28 => rfl
    | 29 => rfl
    | 30 => rfl
    | 31 => rfl
    | 32 => rfl
    | 33 => rfl
    | 34 => rfl
    | 35 => rfl
    | 36 => rfl
    | 37 => rfl
    | 38 => rfl
    | 39 => rfl
    | 40 => rfl
    | 41 => rfl
    | 42 => rfl
    | 43 => rfl
    | 44 => rfl
    | 45 => rfl
    | 46 => rfl
    | 47 => rfl
    | 48 => rfl
    | 49 => rfl
    | 50 => rfl
    | 51 => rfl
    | 52 => rfl
    | k + 53 => rfl
  | 1 => rfl
  | 2 => rfl
  | 3 => rfl
  | 4 => rfl
  | 5 => rfl
  | 6 => rfl
  | 7 => rfl
  | 8 => rfl
  | 9 => rfl
  | 10 => rfl
  | 11 => rfl
  | 12 => rfl
  | 13 => rfl
  | 14 => rfl
  | 15 => rfl
  | 16 => rfl
  | 17 => rfl
  | 18 => rfl
  | 19 => rfl
  | 20 => rfl
  | 21 => rfl
  | 22 => rfl
  | 23 => rfl
  | 24 => rfl
  | j + 25 => rfl
theorem hM_p13 : tput (hM h w f e g u) w [11] 13 2 (vL z) = some (hM h w f (vp_updL e 13 z) g u) := by unfold tput; rw [hM_0]; exact congrArg some (rput_set (j := 0) (by decide) hM_v13)
theorem hM_v29 : va_up (cM w f e g u) 0 (.inr (11, va_up (oM w f e) 29 (vL z))) = cM w f (vp_updL e 29 z) g u := by
  funext j
  match j with
  | 0 =>
    show (Sum.inr (11, va_up (oM w f e) 29 (vL z)) : TC) = Sum.inr (11, oM w f (vp_updL e 29 z))
    congr 2
    funext k
    match k with
    | 0 => rfl
    | 1 => rfl
    | 2 => rfl
    | 3 => rfl
    | 4 => rfl
    | 5 => rfl
    | 6 => rfl
    | 7 => rfl
    | 8 => rfl
    | 9 => rfl
    | 10 => rfl
    | 11 => rfl
    | 12 => rfl
    | 13 => rfl
    | 14 => rfl
    | 15 => rfl
    | 16 => rfl
    | 17 => rfl
    | 18 => rfl
    | 19 => rfl
    | 20 => rfl
    | 21 => rfl
    | 22 => rfl
    | 23 => rfl
    | 24 => rfl
    | 25 => rfl
    | 26 => rfl
    | 27 => rfl
    | 28 => rfl
    | 29 => rfl
    | 30 => rfl
    | 31 => rfl
    | 32 => rfl
    | 33 => rfl
    | 34 => rfl
    | 35 => rfl
    | 36 => rfl
    | 37 => rfl
    | 38 => rfl
    | 39 => rfl
    | 40 => rfl
    | 41 => rfl
    | 42 => rfl
    | 43 => rfl
    | 44 => rfl
    | 45 => rfl
    | 46 => rfl
    | 47 => rfl
    | 48 => rfl
    | 49 => rfl
    | 50 => rfl
    | 51 => rfl
    | 52 => rfl
    | k + 53 => rfl
  | 1 => rfl
  | 2 => rfl
  | 3 => rfl
  | 4 => rfl
  | 5 => rfl
  | 6 => rfl
  | 7 => rfl
  | 8 => rfl
  | 9 => rfl
  | 10 => rfl
  | 11 => rfl
  | 12 => rfl
  | 13 => rfl
  | 14 => rfl
  | 15 => rfl
  | 16 => rfl
  | 17 => rfl
  | 18 => rfl
  | 19 => rfl
  | 20 => rfl
  | 21 => rfl
  | 22 => rfl
  | 23 => rfl
  | 24 => rfl
  | j + 25 => rfl
theorem hM_p29 : tput (hM h w f e g u) w [11] 29 2 (vL z) = some (hM h w f (vp_updL e 29 z) g u) := by unfold tput; rw [hM_0]; exact congrArg some (rput_set (j := 0) (by decide) hM_v29)
theorem hM_v30 : va_up (cM w f e g u) 0 (.inr (11, va_up (oM w f e) 30 (vL z))) = cM w f (vp_updL e 30 z) g u := by
  funext j
  match j with
  | 0 =>
    show (Sum.inr (11, va_up (oM w f e) 30 (vL z)) : TC) = Sum.inr (11, oM w f (vp_updL e 30 z))
    congr 2
    funext k
    match k with
    | 0 => rfl
    | 1 => rfl
    | 2 => rfl
    | 3 => rfl
    | 4 => rfl
    | 5 => rfl
    | 6 => rfl
    | 7 => rfl
    | 8 => rfl
    | 9 => rfl
    | 10 => rfl
    | 11 => rfl
    | 12 => rfl
    | 13 => rfl
    | 14 => rfl
    | 15 => rfl
    | 16 => rfl
    | 17 => rfl
    | 18 => rfl
    | 19 => rfl
    | 20 => rfl
    | 21 => rfl
    | 22 => rfl
    | 23 => rfl
    | 24 => rfl
    | 25 => rfl
    | 26 => rfl
    | 27 => rfl
    | 28 => rfl
    | 29 => rfl
    | 30 => rfl
    | 31 => rfl
    | 32 => rfl
    | 33 => rfl
    | 34 => rfl
    | 35 => rfl
    | 36 => rfl
    | 37 => rfl
    | 38 => rfl
    | 39 => rfl
    | 40 => rfl
    | 41 => rfl
    | 42 => rfl
    | 43 => rfl
    | 44 => rfl
    | 45 => rfl
    | 46 => rfl
    | 47 => rfl
    | 48 => rfl
    | 49 => rfl
    | 50 => rfl
    | 51 => rfl
    | 52 => rfl
    | k + 53 => rfl
  | 1 => rfl
  | 2 => rfl
  | 3 => rfl
  | 4 => rfl
  | 5 => rfl
  | 6 => rfl
  | 7 => rfl
  | 8 => rfl
  | 9 => rfl
  | 10 => rfl
  | 11 => rfl
  | 12 => rfl
  | 13 => rfl
  | 14 => rfl
  | 15 => rfl
  | 16 => rfl
  | 17 => rfl
  | 18 => rfl
  | 19 => rfl
  | 20 => rfl
  | 21 => rfl
  | 22 => rfl
  | 23 => rfl
  | 24 => rfl
  | j + 25 => rfl
theorem hM_p30 : tput (hM h w f e g u) w [11] 30 2 (vL z) = some (hM h w f (vp_updL e 30 z) g u) := by unfold tput; rw [hM_0]; exact congrArg some (rput_set (j := 0) (by decide) hM_v30)
end RM
def oC (w : Nat) (f : Nat → Int32) (e : Nat → Int64) : Nat → TV := fun k => match k with
  | 0 => vR (some (w + 1))
  | 1 => vI (f 1)
  | 2 => vI (f 2)
  | 3 => vI (f 3)
  | 4 => vI (f 4)
  | 5 => vI (f 5)
  | _ => vI 0
def cC (w : Nat) (f : Nat → Int32) (e : Nat → Int64) (g : Nat → Nat → Int32) (u : Nat → Nat → Int64) : Nat → TC := fun j => match j with
  | 0 => .inr (1, oC w f e)
  | 1 => .inl (1, 240, .inl (g 0))
  | _ => tcell0
def hC (h : TH) (w : Nat) (f : Nat → Int32) (e : Nat → Int64) (g : Nat → Nat → Int32) (u : Nat → Nat → Int64) : TH := rput 2 (cC w f e g u) h w
section RC
variable {sc : Nat × (Nat → Int32)} {h : TH} {w n : Nat} {f : Nat → Int32} {e : Nat → Int64} {g : Nat → Nat → Int32} {u : Nat → Nat → Int64} {x : Int32} {z : Int64}
theorem hC_0 : (hC h w f e g u).1 w = some (.inr (1, oC w f e)) := rput_at (j := 0) (by decide)
theorem hC_cl : tcl (hC h w f e g u) w = some 1 := by unfold tcl; rw [hC_0]
theorem hC_g0 : tget (hC h w f e g u) w [1] 0 = some (vR (some (w + 1))) := by unfold tget; rw [hC_0]; rfl
theorem hC_g1 : tget (hC h w f e g u) w [1] 1 = some (vI (f 1)) := by unfold tget; rw [hC_0]; rfl
theorem hC_g2 : tget (hC h w f e g u) w [1] 2 = some (vI (f 2)) := by unfold tget; rw [hC_0]; rfl
theorem hC_g3 : tget (hC h w f e g u) w [1] 3 = some (vI (f 3)) := by unfold tget; rw [hC_0]; rfl
theorem hC_g4 : tget (hC h w f e g u) w [1] 4 = some (vI (f 4)) := by unfold tget; rw [hC_0]; rfl
theorem hC_g5 : tget (hC h w f e g u) w [1] 5 = some (vI (f 5)) := by unfold tget; rw [hC_0]; rfl
theorem hC_a0 : (hC h w f e g u).1 (w + 1) = some (.inl (1, 240, .inl (g 0))) := rput_at (j := 1) (by decide)
theorem hC_r0 (hn : n < 240) : tald sc (hC h w f e g u) 1 (w + 1) (nI n) = some (g 0 n) := by unfold tald tai; rw [hC_a0]; dsimp only; rw [if_pos ⟨rfl, nI_in hn (by decide)⟩, nI_clamp (by omega)]
theorem hC_u0 {p : Nat → Int32} : va_up (cC w f e g u) 1 (.inl (1, 240, .inl p)) = cC w f e (va_up g 0 p) u := by funext j; match j with | 0 => rfl | 1 => rfl | j + 2 => rfl
theorem hC_w0 (hn : n < 240) : tasb (hC h w f e g u) (w + 1) (nI n) x = some (hC h w f e (va_up g 0 (upd (g 0) n (vp_nar .byte x))) u) := by rw [tasb_of hC_a0 (nI_in hn (by decide)), nI_clamp (by omega)]; exact congrArg some (rput_set (j := 1) (by decide) hC_u0)
theorem hC_v1 : va_up (cC w f e g u) 0 (.inr (1, va_up (oC w f e) 1 (vI x))) = cC w (upd f 1 x) e g u := by
  funext j
  match j with
  | 0 =>
    show (Sum.inr (1, va_up (oC w f e) 1 (vI x)) : TC) = Sum.inr (1, oC w (upd f 1 x) e)
    congr 2
    funext k
    match k with
    | 0 => rfl
    | 1 => rfl
    | 2 => rfl
    | 3 => rfl
    | 4 => rfl
    | 5 => rfl
    | k + 6 => rfl
  | 1 => rfl
  | j + 2 => rfl
theorem hC_p1 : tput (hC h w f e g u) w [1] 1 0 (vI x) = some (hC h w (upd f 1 x) e g u) := by unfold tput; rw [hC_0]; exact congrArg some (rput_set (j := 0) (by decide) hC_v1)
theorem hC_v2 : va_up (cC w f e g u) 0 (.inr (1, va_up (oC w f e) 2 (vI x))) = cC w (upd f 2 x) e g u := by
  funext j
  match j with
  | 0 =>
    show (Sum.inr (1, va_up (oC w f e) 2 (vI x)) : TC) = Sum.inr (1, oC w (upd f 2 x) e)
    congr 2
    funext k
    match k with
    | 0 => rfl
    | 1 => rfl
    | 2 => rfl
    | 3 => rfl
    | 4 => rfl
    | 5 => rfl
    | k + 6 => rfl
  | 1 => rfl
  | j + 2 => rfl
theorem hC_p2 : tput (hC h w f e g u) w [1] 2 0 (vI x) = some (hC h w (upd f 2 x) e g u) := by unfold tput; rw [hC_0]; exact congrArg some (rput_set (j := 0) (by decide) hC_v2)
theorem hC_v3 : va_up (cC w f e g u) 0 (.inr (1, va_up (oC w f e) 3 (vI x))) = cC w (upd f 3 x) e g u := by
  funext j
  match j with
  | 0 =>
    show (Sum.inr (1, va_up (oC w f e) 3 (vI x)) : TC) = Sum.inr (1, oC w (upd f 3 x) e)
    congr 2
    funext k
    match k with
    | 0 => rfl
    | 1 => rfl
    | 2 => rfl
    | 3 => rfl
    | 4 => rfl
    | 5 => rfl
    | k + 6 => rfl
  | 1 => rfl
  | j + 2 => rfl
theorem hC_p3 : tput (hC h w f e g u) w [1] 3 0 (vI x) = some (hC h w (upd f 3 x) e g u) := by unfold tput; rw [hC_0]; exact congrArg some (rput_set (j := 0) (by decide) hC_v3)
theorem hC_v4 : va_up (cC w f e g u) 0 (.inr (1, va_up (oC w f e) 4 (vI x))) = cC w (upd f 4 x) e g u := by
  funext j
  match j with
  | 0 =>
    show (Sum.inr (1, va_up (oC w f e) 4 (vI x)) : TC) = Sum.inr (1, oC w (upd f 4 x) e)
    congr 2
    funext k
    match k with
    | 0 => rfl
    | 1 => rfl
    | 2 => rfl
    | 3 => rfl
    | 4 => rfl
    | 5 => rfl
    | k + 6 => rfl
  | 1 => rfl
  | j + 2 => rfl
theorem hC_p4 : tput (hC h w f e g u) w [1] 4 0 (vI x) = some (hC h w (upd f 4 x) e g u) := by unfold tput; rw [hC_0]; exact congrArg some (rput_set (j := 0) (by decide) hC_v4)
theorem hC_v5 : va_up (cC w f e g u) 0 (.inr (1, va_up (oC w f e) 5 (vI x))) = cC w (upd f 5 x) e g u := by
  funext j
  match j with
  | 0 =>
    show (Sum.inr (1, va_up (oC w f e) 5 (vI x)) : TC) = Sum.inr (1, oC w (upd f 5 x) e)
    congr 2
    funext k
    match k with
    | 0 => rfl
    | 1 => rfl
    | 2 => rfl
    | 3 => rfl
    | 4 => rfl
    | 5 => rfl
    | k + 6 => rfl
  | 1 => rfl
  | j + 2 => rfl
theorem hC_p5 : tput (hC h w f e g u) w [1] 5 0 (vI x) = some (hC h w (upd f 5 x) e g u) := by unfold tput; rw [hC_0]; exact congrArg some (rput_set (j := 0) (by decide) hC_v5)
end RC
def oT (w : Nat) (f : Nat → Int32) (e : Nat → Int64) : Nat → TV := fun k => match k with
  | 0 => vR (some (w + 1))
  | 1 => vI (f 1)
  | 2 => vI (f 2)
  | _ => vI 0
def cT (w : Nat) (f : Nat → Int32) (e : Nat → Int64) (g : Nat → Nat → Int32) (u : Nat → Nat → Int64) : Nat → TC := fun j => match j with
  | 0 => .inr (8, oT w f e)
  | 1 => .inl (0, 30, .inl (g 0))
  | _ => tcell0
def hT (h : TH) (w : Nat) (f : Nat → Int32) (e : Nat → Int64) (g : Nat → Nat → Int32) (u : Nat → Nat → Int64) : TH := rput 2 (cT w f e g u) h w
section RT
variable {sc : Nat × (Nat → Int32)} {h : TH} {w n : Nat} {f : Nat → Int32} {e : Nat → Int64} {g : Nat → Nat → Int32} {u : Nat → Nat → Int64} {x : Int32} {z : Int64}
theorem hT_0 : (hT h w f e g u).1 w = some (.inr (8, oT w f e)) := rput_at (j := 0) (by decide)
theorem hT_cl : tcl (hT h w f e g u) w = some 8 := by unfold tcl; rw [hT_0]
theorem hT_g0 : tget (hT h w f e g u) w [8] 0 = some (vR (some (w + 1))) := by unfold tget; rw [hT_0]; rfl
theorem hT_g1 : tget (hT h w f e g u) w [8] 1 = some (vI (f 1)) := by unfold tget; rw [hT_0]; rfl
theorem hT_g2 : tget (hT h w f e g u) w [8] 2 = some (vI (f 2)) := by unfold tget; rw [hT_0]; rfl
theorem hT_a0 : (hT h w f e g u).1 (w + 1) = some (.inl (0, 30, .inl (g 0))) := rput_at (j := 1) (by decide)
theorem hT_r0 (hn : n < 30) : tald sc (hT h w f e g u) 0 (w + 1) (nI n) = some (g 0 n) := by unfold tald tai; rw [hT_a0]; dsimp only; rw [if_pos ⟨rfl, nI_in hn (by decide)⟩, nI_clamp (by omega)]
theorem hT_u0 {p : Nat → Int32} : va_up (cT w f e g u) 1 (.inl (0, 30, .inl p)) = cT w f e (va_up g 0 p) u := by funext j; match j with | 0 => rfl | 1 => rfl | j + 2 => rfl
theorem hT_w0 (hn : n < 30) : tasi (hT h w f e g u) (w + 1) (nI n) x = some (hT h w f e (va_up g 0 (upd (g 0) n x)) u) := by rw [tasi_of hT_a0 (nI_in hn (by decide)), nI_clamp (by omega)]; exact congrArg some (rput_set (j := 1) (by decide) hT_u0)
theorem hT_v1 : va_up (cT w f e g u) 0 (.inr (8, va_up (oT w f e) 1 (vI x))) = cT w (upd f 1 x) e g u := by
  funext j
  match j with
  | 0 =>
    show (Sum.inr (8, va_up (oT w f e) 1 (vI x)) : TC) = Sum.inr (8, oT w (upd f 1 x) e)
    congr 2
    funext k
    match k with
    | 0 => rfl
    | 1 => rfl
    | 2 => rfl
    | k + 3 => rfl
  | 1 => rfl
  | j + 2 => rfl
theorem hT_p1 : tput (hT h w f e g u) w [8] 1 0 (vI x) = some (hT h w (upd f 1 x) e g u) := by unfold tput; rw [hT_0]; exact congrArg some (rput_set (j := 0) (by decide) hT_v1)
theorem hT_v2 : va_up (cT w f e g u) 0 (.inr (8, va_up (oT w f e) 2 (vI x))) = cT w (upd f 2 x) e g u := by
  funext j
  match j with
  | 0 =>
    show (Sum.inr (8, va_up (oT w f e) 2 (vI x)) : TC) = Sum.inr (8, oT w (upd f 2 x) e)
    congr 2
    funext k
    match k with
    | 0 => rfl
    | 1 => rfl
    | 2 => rfl
    | k + 3 => rfl
  | 1 => rfl
  | j + 2 => rfl
theorem hT_p2 (hx : x = 0 ∨ x = 1) : tput (hT h w f e g u) w [8] 2 1 (vI x) = some (hT h w (upd f 2 x) e g u) := by
  unfold tput
  rw [hT_0]
  dsimp only
  rw [if_pos ⟨rfl, by simp [tkok, hx]⟩]
  exact congrArg some (rput_set (j := 0) (by decide) hT_v2)
end RT
