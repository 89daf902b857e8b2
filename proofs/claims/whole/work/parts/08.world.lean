/-! REGIONS OF THE HEAP: an object and the rows that it made, side by side -/
def rput (n : Nat) (cf : Nat → TC) (h : TH) (b : Nat) : TH := (fun k => if b ≤ k ∧ k < b + n then some (cf (k - b)) else h.1 k, h.2)
theorem rput_at {n : Nat} {cf : Nat → TC} {h : TH} {b j : Nat} (hj : j < n) : (rput n cf h b).1 (b + j) = some (cf j) := by
  simp only [rput]
  rw [if_pos (by omega), Nat.add_sub_cancel_left]
theorem rput_off {n : Nat} {cf : Nat → TC} {h : TH} {b k : Nat} (hk : k < b ∨ b + n ≤ k) : (rput n cf h b).1 k = h.1 k := by
  simp only [rput]
  rw [if_neg (by omega)]
theorem rput_set {n : Nat} {cf cf' : Nat → TC} {h : TH} {b j : Nat} {c : TC} (hj : j < n) (hc : va_up cf j c = cf') : tset (rput n cf h b) (b + j) c = rput n cf' h b := by
  subst hc
  unfold tset rput
  refine Prod.ext ?_ rfl
  funext k
  simp only [va_up]
  by_cases e : k = b + j
  · subst e
    rw [if_pos rfl, if_pos (by omega), if_pos (by omega)]
  · rw [if_neg e]
    by_cases hk : b ≤ k ∧ k < b + n
    · rw [if_pos hk, if_pos hk, if_neg (by omega)]
    · rw [if_neg hk, if_neg hk]
/-- the region is there -/
def rhas (n : Nat) (cf : Nat → TC) (h : TH) (b : Nat) : Prop := rput n cf h b = h
theorem rput_has {n : Nat} {cf : Nat → TC} {h : TH} {b : Nat} : rhas n cf (rput n cf h b) b := by
  unfold rhas rput
  refine Prod.ext ?_ rfl
  funext k
  by_cases hk : b ≤ k ∧ k < b + n
  · simp only [if_pos hk]
  · simp only [if_neg hk]
theorem rput_put {n : Nat} {cf cf' : Nat → TC} {h : TH} {b : Nat} : rput n cf' (rput n cf h b) b = rput n cf' h b := by
  unfold rput
  refine Prod.ext ?_ rfl
  funext k
  by_cases hk : b ≤ k ∧ k < b + n
  · simp only [if_pos hk]
  · simp only [if_neg hk]
theorem rhas_off {n n' : Nat} {cf cf' : Nat → TC} {h : TH} {b b' : Nat} (hb : b + n ≤ b' ∨ b' + n' ≤ b) (hh : rhas n cf h b) : rhas n cf (rput n' cf' h b') b := by
  unfold rhas rput at hh ⊢
  refine Prod.ext ?_ rfl
  funext k
  have h1 := congrFun (congrArg Prod.fst hh) k
  by_cases hk : b ≤ k ∧ k < b + n
  · simp only [if_pos hk] at h1 ⊢
    rw [if_neg (by omega)]
    exact h1
  · simp only [if_neg hk]
theorem tasi_of {h : TH} {a n : Nat} {f : Nat → Int32} {i x : Int32} (hc : h.1 a = some (.inl (0, n, .inl f))) (hi : ¬ (i < 0 ∨ n ≤ i.toNatClampNeg)) : tasi h a i x = some (tset h a (.inl (0, n, .inl (upd f i.toNatClampNeg x)))) := by
  unfold tasi
  rw [hc]
  exact if_neg hi
theorem tasb_of {h : TH} {a n : Nat} {f : Nat → Int32} {i x : Int32} (hc : h.1 a = some (.inl (1, n, .inl f))) (hi : ¬ (i < 0 ∨ n ≤ i.toNatClampNeg)) : tasb h a i x = some (tset h a (.inl (1, n, .inl (upd f i.toNatClampNeg (vp_nar .byte x))))) := by
  unfold tasb
  rw [hc]
  exact if_neg hi
theorem tasl_of {h : TH} {a n : Nat} {f : Nat → Int64} {i : Int32} {x : Int64} (hc : h.1 a = some (.inl (2, n, .inr (.inl f)))) (hi : ¬ (i < 0 ∨ n ≤ i.toNatClampNeg)) : tasl h a i x = some (tset h a (.inl (2, n, .inr (.inl (vp_updL f i.toNatClampNeg x))))) := by
  unfold tasl
  rw [hc]
  exact if_neg hi
theorem i01 : (0 : Int32) + 1 = 1 := by decide
theorem i12 : (1 : Int32) + 1 = 2 := by decide
theorem i23 : (2 : Int32) + 1 = 3 := by decide
theorem i34 : (3 : Int32) + 1 = 4 := by decide
theorem b01 {c : Prop} [Decidable c] : ((if c then (0 : Int32) else 1) = 0) = c := by by_cases h : c <;> simp [h]
theorem b10 {c : Prop} [Decidable c] : ((if c then (1 : Int32) else 0) = 0) = ¬ c := by by_cases h : c <;> simp [h]
theorem tclr_I (x : Int32) : tclr (vI x) = vI x := rfl
theorem tclr_L (x : Int64) : tclr (vL x) = vU := rfl
theorem tclr_R (x : Option Nat) : tclr (vR x) = vR x := rfl
theorem tclr_U : tclr vU = vU := rfl
theorem nI4 (n : Nat) : nI n * 4 = nI (4 * n) := by
  have : (4 : Int32) = nI 4 := rfl
  rw [this, pk_mul, Nat.mul_comm]
theorem nI4' (n : Nat) : 4 * nI n = nI (4 * n) := by
  have : (4 : Int32) = nI 4 := rfl
  rw [this, pk_mul]
def wobj (w : Nat) (f : Nat → Int32) : Nat → TV := fun k => match k with
  | 0 => vR (some (w + 1))
  | 1 => vR (some (w + 2))
  | 2 => vR (some (w + 3))
  | 3 => vR (some (w + 4))
  | 4 => vR (some (w + 5))
  | 5 => vR (some (w + 6))
  | 6 => vI (f 6)
  | 7 => vI (f 7)
  | 8 => vR (some (w + 7))
  | 9 => vR (some (w + 8))
  | 10 => vI (f 10)
  | 11 => vR (some (w + 9))
  | 12 => vR (some (w + 10))
  | 13 => vR (some (w + 11))
  | 14 => vI (f 14)
  | _ => vI 0
def wcf (w : Nat) (f : Nat → Int32) (g : Nat → Nat → Int32) (y : Nat → Option Nat) : Nat → TC := fun j => match j with
  | 0 => .inr (9, wobj w f)
  | 1 => .inl (0, 20, .inl (g 0))
  | 2 => .inl (0, 80, .inl (g 1))
  | 3 => .inl (0, 20, .inl (g 2))
  | 4 => .inl (0, 20, .inl (g 3))
  | 5 => .inl (0, 20, .inl (g 4))
  | 6 => .inl (0, 4, .inl (g 5))
  | 7 => .inl (3, 5, .inr (.inr (.inr (.inr y))))
  | 8 => .inl (0, 5, .inl (g 9))
  | 9 => .inl (0, 40, .inl (g 11))
  | 10 => .inl (0, 40, .inl (g 12))
  | 11 => .inl (0, 40, .inl (g 13))
  | _ => tcell0
/-- the heap with a World at w: its ints f, its rows g, its sayers y -/
def hW (h : TH) (w : Nat) (f : Nat → Int32) (g : Nat → Nat → Int32) (y : Nat → Option Nat) : TH := rput 12 (wcf w f g y) h w
section S18
variable {sc : Nat × (Nat → Int32)} {h : TH} {w n : Nat} {f : Nat → Int32} {g : Nat → Nat → Int32} {y : Nat → Option Nat} {x : Int32}
theorem hW_0 : (hW h w f g y).1 w = some (.inr (9, wobj w f)) := rput_at (j := 0) (by decide)
theorem hW_cl : tcl (hW h w f g y) w = some 9 := by unfold tcl; rw [hW_0]
theorem hW_g0 : tget (hW h w f g y) w [9] 0 = some (vR (some (w + 1))) := by unfold tget; rw [hW_0]; rfl
theorem hW_g1 : tget (hW h w f g y) w [9] 1 = some (vR (some (w + 2))) := by unfold tget; rw [hW_0]; rfl
theorem hW_g2 : tget (hW h w f g y) w [9] 2 = some (vR (some (w + 3))) := by unfold tget; rw [hW_0]; rfl
theorem hW_g3 : tget (hW h w f g y) w [9] 3 = some (vR (some (w + 4))) := by unfold tget; rw [hW_0]; rfl
theorem hW_g4 : tget (hW h w f g y) w [9] 4 = some (vR (some (w + 5))) := by unfold tget; rw [hW_0]; rfl
theorem hW_g5 : tget (hW h w f g y) w [9] 5 = some (vR (some (w + 6))) := by unfold tget; rw [hW_0]; rfl
theorem hW_g6 : tget (hW h w f g y) w [9] 6 = some (vI (f 6)) := by unfold tget; rw [hW_0]; rfl
theorem hW_g7 : tget (hW h w f g y) w [9] 7 = some (vI (f 7)) := by unfold tget; rw [hW_0]; rfl
theorem hW_g8 : tget (hW h w f g y) w [9] 8 = some (vR (some (w + 7))) := by unfold tget; rw [hW_0]; rfl
theorem hW_g9 : tget (hW h w f g y) w [9] 9 = some (vR (some (w + 8))) := by unfold tget; rw [hW_0]; rfl
theorem hW_g10 : tget (hW h w f g y) w [9] 10 = some (vI (f 10)) := by unfold tget; rw [hW_0]; rfl
theorem hW_g11 : tget (hW h w f g y) w [9] 11 = some (vR (some (w + 9))) := by unfold tget; rw [hW_0]; rfl
theorem hW_g12 : tget (hW h w f g y) w [9] 12 = some (vR (some (w + 10))) := by unfold tget; rw [hW_0]; rfl
theorem hW_g13 : tget (hW h w f g y) w [9] 13 = some (vR (some (w + 11))) := by unfold tget; rw [hW_0]; rfl
theorem hW_g14 : tget (hW h w f g y) w [9] 14 = some (vI (f 14)) := by unfold tget; rw [hW_0]; rfl
theorem hW_a0 : (hW h w f g y).1 (w + 1) = some (.inl (0, 20, .inl (g 0))) := rput_at (j := 1) (by decide)
theorem hW_r0 (hn : n < 20) : tald sc (hW h w f g y) 0 (w + 1) (nI n) = some (g 0 n) := by unfold tald tai; rw [hW_a0]; dsimp only; rw [if_pos ⟨rfl, nI_in hn (by decide)⟩, nI_clamp (by omega)]
theorem hW_u0 : va_up (wcf w f g y) 1 (.inl (0, 20, .inl (upd (g 0) n x))) = wcf w f (va_up g 0 (upd (g 0) n x)) y := by funext j; match j with | 0 => rfl | 1 => rfl | 2 => rfl | 3 => rfl | 4 => rfl | 5 => rfl | 6 => rfl | 7 => rfl | 8 => rfl | 9 => rfl | 10 => rfl | 11 => rfl | j + 12 => rfl
theorem hW_w0 (hn : n < 20) : tasi (hW h w f g y) (w + 1) (nI n) x = some (hW h w f (va_up g 0 (upd (g 0) n x)) y) := by rw [tasi_of hW_a0 (nI_in hn (by decide)), nI_clamp (by omega)]; exact congrArg some (rput_set (j := 1) (by decide) hW_u0)
theorem hW_a1 : (hW h w f g y).1 (w + 2) = some (.inl (0, 80, .inl (g 1))) := rput_at (j := 2) (by decide)
theorem hW_r1 (hn : n < 80) : tald sc (hW h w f g y) 0 (w + 2) (nI n) = some (g 1 n) := by unfold tald tai; rw [hW_a1]; dsimp only; rw [if_pos ⟨rfl, nI_in hn (by decide)⟩, nI_clamp (by omega)]
theorem hW_u1 : va_up (wcf w f g y) 2 (.inl (0, 80, .inl (upd (g 1) n x))) = wcf w f (va_up g 1 (upd (g 1) n x)) y := by funext j; match j with | 0 => rfl | 1 => rfl | 2 => rfl | 3 => rfl | 4 => rfl | 5 => rfl | 6 => rfl | 7 => rfl | 8 => rfl | 9 => rfl | 10 => rfl | 11 => rfl | j + 12 => rfl
theorem hW_w1 (hn : n < 80) : tasi (hW h w f g y) (w + 2) (nI n) x = some (hW h w f (va_up g 1 (upd (g 1) n x)) y) := by rw [tasi_of hW_a1 (nI_in hn (by decide)), nI_clamp (by omega)]; exact congrArg some (rput_set (j := 2) (by decide) hW_u1)
theorem hW_a2 : (hW h w f g y).1 (w + 3) = some (.inl (0, 20, .inl (g 2))) := rput_at (j := 3) (by decide)
theorem hW_r2 (hn : n < 20) : tald sc (hW h w f g y) 0 (w + 3) (nI n) = some (g 2 n) := by unfold tald tai; rw [hW_a2]; dsimp only; rw [if_pos ⟨rfl, nI_in hn (by decide)⟩, nI_clamp (by omega)]
theorem hW_u2 : va_up (wcf w f g y) 3 (.inl (0, 20, .inl (upd (g 2) n x))) = wcf w f (va_up g 2 (upd (g 2) n x)) y := by funext j; match j with | 0 => rfl | 1 => rfl | 2 => rfl | 3 => rfl | 4 => rfl | 5 => rfl | 6 => rfl | 7 => rfl | 8 => rfl | 9 => rfl | 10 => rfl | 11 => rfl | j + 12 => rfl
theorem hW_w2 (hn : n < 20) : tasi (hW h w f g y) (w + 3) (nI n) x = some (hW h w f (va_up g 2 (upd (g 2) n x)) y) := by rw [tasi_of hW_a2 (nI_in hn (by decide)), nI_clamp (by omega)]; exact congrArg some (rput_set (j := 3) (by decide) hW_u2)
theorem hW_a3 : (hW h w f g y).1 (w + 4) = some (.inl (0, 20, .inl (g 3))) := rput_at (j := 4) (by decide)
theorem hW_r3 (hn : n < 20) : tald sc (hW h w f g y) 0 (w + 4) (nI n) = some (g 3 n) := by unfold tald tai; rw [hW_a3]; dsimp only; rw [if_pos ⟨rfl, nI_in hn (by decide)⟩, nI_clamp (by omega)]
theorem hW_u3 : va_up (wcf w f g y) 4 (.inl (0, 20, .inl (upd (g 3) n x))) = wcf w f (va_up g 3 (upd (g 3) n x)) y := by funext j; match j with | 0 => rfl | 1 => rfl | 2 => rfl | 3 => rfl | 4 => rfl | 5 => rfl | 6 => rfl | 7 => rfl | 8 => rfl | 9 => rfl | 10 => rfl | 11 => rfl | j + 12 => rfl
theorem hW_w3 (hn : n < 20) : tasi (hW h w f g y) (w + 4) (nI n) x = some (hW h w f (va_up g 3 (upd (g 3) n x)) y) := by rw [tasi_of hW_a3 (nI_in hn (by decide)), nI_clamp (by omega)]; exact congrArg some (rput_set (j := 4) (by decide) hW_u3)
theorem hW_a4 : (hW h w f g y).1 (w + 5) = some (.inl (0, 20, .inl (g 4))) := rput_at (j := 5) (by decide)
theorem hW_r4 (hn : n < 20) : tald sc (hW h w f g y) 0 (w + 5) (nI n) = some (g 4 n) := by unfold tald tai; rw [hW_a4]; dsimp only; rw [if_pos ⟨rfl, nI_in hn (by decide)⟩, nI_clamp (by omega)]
theorem hW_u4 : va_up (wcf w f g y) 5 (.inl (0, 20, .inl (upd (g 4) n x))) = wcf w f (va_up g 4 (upd (g 4) n x)) y := by funext j; match j with | 0 => rfl | 1 => rfl | 2 => rfl | 3 => rfl | 4 => rfl | 5 => rfl | 6 => rfl | 7 => rfl | 8 => rfl | 9 => rfl | 10 => rfl | 11 => rfl | j + 12 => rfl
theorem hW_w4 (hn : n < 20) : tasi (hW h w f g y) (w + 5) (nI n) x = some (hW h w f (va_up g 4 (upd (g 4) n x)) y) := by rw [tasi_of hW_a4 (nI_in hn (by decide)), nI_clamp (by omega)]; exact congrArg some (rput_set (j := 5) (by decide) hW_u4)
theorem hW_a5 : (hW h w f g y).1 (w + 6) = some (.inl (0, 4, .inl (g 5))) := rput_at (j := 6) (by decide)
theorem hW_r5 (hn : n < 4) : tald sc (hW h w f g y) 0 (w + 6) (nI n) = some (g 5 n) := by unfold tald tai; rw [hW_a5]; dsimp only; rw [if_pos ⟨rfl, nI_in hn (by decide)⟩, nI_clamp (by omega)]
theorem hW_u5 : va_up (wcf w f g y) 6 (.inl (0, 4, .inl (upd (g 5) n x))) = wcf w f (va_up g 5 (upd (g 5) n x)) y := by funext j; match j with | 0 => rfl | 1 => rfl | 2 => rfl | 3 => rfl | 4 => rfl | 5 => rfl | 6 => rfl | 7 => rfl | 8 => rfl | 9 => rfl | 10 => rfl | 11 => rfl | j + 12 => rfl
theorem hW_w5 (hn : n < 4) : tasi (hW h w f g y) (w + 6) (nI n) x = some (hW h w f (va_up g 5 (upd (g 5) n x)) y) := by rw [tasi_of hW_a5 (nI_in hn (by decide)), nI_clamp (by omega)]; exact congrArg some (rput_set (j := 6) (by decide) hW_u5)
theorem hW_a9 : (hW h w f g y).1 (w + 8) = some (.inl (0, 5, .inl (g 9))) := rput_at (j := 8) (by decide)
theorem hW_r9 (hn : n < 5) : tald sc (hW h w f g y) 0 (w + 8) (nI n) = some (g 9 n) := by unfold tald tai; rw [hW_a9]; dsimp only; rw [if_pos ⟨rfl, nI_in hn (by decide)⟩, nI_clamp (by omega)]
theorem hW_u9 : va_up (wcf w f g y) 8 (.inl (0, 5, .inl (upd (g 9) n x))) = wcf w f (va_up g 9 (upd (g 9) n x)) y := by funext j; match j with | 0 => rfl | 1 => rfl | 2 => rfl | 3 => rfl | 4 => rfl | 5 => rfl | 6 => rfl | 7 => rfl | 8 => rfl | 9 => rfl | 10 => rfl | 11 => rfl | j + 12 => rfl
theorem hW_w9 (hn : n < 5) : tasi (hW h w f g y) (w + 8) (nI n) x = some (hW h w f (va_up g 9 (upd (g 9) n x)) y) := by rw [tasi_of hW_a9 (nI_in hn (by decide)), nI_clamp (by omega)]; exact congrArg some (rput_set (j := 8) (by decide) hW_u9)
theorem hW_a11 : (hW h w f g y).1 (w + 9) = some (.inl (0, 40, .inl (g 11))) := rput_at (j := 9) (by decide)
theorem hW_r11 (hn : n < 40) : tald sc (hW h w f g y) 0 (w + 9) (nI n) = some (g 11 n) := by unfold tald tai; rw [hW_a11]; dsimp only; rw [if_pos ⟨rfl, nI_in hn (by decide)⟩, nI_clamp (by omega)]
theorem hW_u11 : va_up (wcf w f g y) 9 (.inl (0, 40, .inl (upd (g 11) n x))) = wcf w f (va_up g 11 (upd (g 11) n x)) y := by funext j; match j with | 0 => rfl | 1 => rfl | 2 => rfl | 3 => rfl | 4 => rfl | 5 => rfl | 6 => rfl | 7 => rfl | 8 => rfl | 9 => rfl | 10 => rfl | 11 => rfl | j + 12 => rfl
theorem hW_w11 (hn : n < 40) : tasi (hW h w f g y) (w + 9) (nI n) x = some (hW h w f (va_up g 11 (upd (g 11) n x)) y) := by rw [tasi_of hW_a11 (nI_in hn (by decide)), nI_clamp (by omega)]; exact congrArg some (rput_set (j := 9) (by decide) hW_u11)
theorem hW_a12 : (hW h w f g y).1 (w + 10) = some (.inl (0, 40, .inl (g 12))) := rput_at (j := 10) (by decide)
theorem hW_r12 (hn : n < 40) : tald sc (hW h w f g y) 0 (w + 10) (nI n) = some (g 12 n) := by unfold tald tai; rw [hW_a12]; dsimp only; rw [if_pos ⟨rfl, nI_in hn (by decide)⟩, nI_clamp (by omega)]
theorem hW_u12 : va_up (wcf w f g y) 10 (.inl (0, 40, .inl (upd (g 12) n x))) = wcf w f (va_up g 12 (upd (g 12) n x)) y := by funext j; match j with | 0 => rfl | 1 => rfl | 2 => rfl | 3 => rfl | 4 => rfl | 5 => rfl | 6 => rfl | 7 => rfl | 8 => rfl | 9 => rfl | 10 => rfl | 11 => rfl | j + 12 => rfl
theorem hW_w12 (hn : n < 40) : tasi (hW h w f g y) (w + 10) (nI n) x = some (hW h w f (va_up g 12 (upd (g 12) n x)) y) := by rw [tasi_of hW_a12 (nI_in hn (by decide)), nI_clamp (by omega)]; exact congrArg some (rput_set (j := 10) (by decide) hW_u12)
theorem hW_a13 : (hW h w f g y).1 (w + 11) = some (.inl (0, 40, .inl (g 13))) := rput_at (j := 11) (by decide)
theorem hW_r13 (hn : n < 40) : tald sc (hW h w f g y) 0 (w + 11) (nI n) = some (g 13 n) := by unfold tald tai; rw [hW_a13]; dsimp only; rw [if_pos ⟨rfl, nI_in hn (by decide)⟩, nI_clamp (by omega)]
theorem hW_u13 : va_up (wcf w f g y) 11 (.inl (0, 40, .inl (upd (g 13) n x))) = wcf w f (va_up g 13 (upd (g 13) n x)) y := by funext j; match j with | 0 => rfl | 1 => rfl | 2 => rfl | 3 => rfl | 4 => rfl | 5 => rfl | 6 => rfl | 7 => rfl | 8 => rfl | 9 => rfl | 10 => rfl | 11 => rfl | j + 12 => rfl
theorem hW_w13 (hn : n < 40) : tasi (hW h w f g y) (w + 11) (nI n) x = some (hW h w f (va_up g 13 (upd (g 13) n x)) y) := by rw [tasi_of hW_a13 (nI_in hn (by decide)), nI_clamp (by omega)]; exact congrArg some (rput_set (j := 11) (by decide) hW_u13)
theorem hW_l0 : tald sc (hW h w f g y) 0 (w + 6) 0 = some (g 5 0) := hW_r5 (n := 0) (by decide)
theorem hW_l1 : tald sc (hW h w f g y) 0 (w + 6) 1 = some (g 5 1) := hW_r5 (n := 1) (by decide)
theorem hW_l2 : tald sc (hW h w f g y) 0 (w + 6) 2 = some (g 5 2) := hW_r5 (n := 2) (by decide)
theorem hW_l3 : tald sc (hW h w f g y) 0 (w + 6) 3 = some (g 5 3) := hW_r5 (n := 3) (by decide)
theorem hW_a8 : (hW h w f g y).1 (w + 7) = some (.inl (3, 5, .inr (.inr (.inr (.inr y))))) := rput_at (j := 7) (by decide)
theorem hW_r8 (hn : n < 5) : tldr (hW h w f g y) (w + 7) (nI n) = some (y n) := by unfold tldr; rw [hW_a8]; dsimp only; rw [if_pos ⟨Or.inl rfl, nI_in hn (by decide)⟩, nI_clamp (by omega)]
theorem hW_v6 : va_up (wcf w f g y) 0 (.inr (9, va_up (wobj w f) 6 (vI x))) = wcf w (upd f 6 x) g y := by
  funext j
  match j with
  | 0 =>
    show (Sum.inr (9, va_up (wobj w f) 6 (vI x)) : TC) = Sum.inr (9, wobj w (upd f 6 x))
    congr 2
    funext k
    match k with
    | 0 => rfl
    | 1 => rfl
    | 2 => rfl
    | 3 => rfl
    | 4 => rfl
    | 5 => rfl
    | 6 => rfl
    | 7 => rfl
    | 8 => rfl
    | 9 => rfl
    | 10 => rfl
    | 11 => rfl
    | 12 => rfl
    | 13 => rfl
    | 14 => rfl
    | k + 15 => rfl
  | 1 => rfl
  | 2 => rfl
  | 3 => rfl
  | 4 => rfl
  | 5 => rfl
  | 6 => rfl
  | 7 => rfl
  | 8 => rfl
  | 9 => rfl
  | 10 => rfl
  | 11 => rfl
  | j + 12 => rfl
theorem hW_p6 : tput (hW h w f g y) w [9] 6 0 (vI x) = some (hW h w (upd f 6 x) g y) := by unfold tput; rw [hW_0]; exact congrArg some (rput_set (j := 0) (by decide) hW_v6)
theorem hW_v7 : va_up (wcf w f g y) 0 (.inr (9, va_up (wobj w f) 7 (vI x))) = wcf w (upd f 7 x) g y := by
  funext j
  match j with
  | 0 =>
    show (Sum.inr (9, va_up (wobj w f) 7 (vI x)) : TC) = Sum.inr (9, wobj w (upd f 7 x))
    congr 2
    funext k
    match k with
    | 0 => rfl
    | 1 => rfl
    | 2 => rfl
    | 3 => rfl
    | 4 => rfl
    | 5 => rfl
    | 6 => rfl
    | 7 => rfl
    | 8 => rfl
    | 9 => rfl
    | 10 => rfl
    | 11 => rfl
    | 12 => rfl
    | 13 => rfl
    | 14 => rfl
    | k + 15 => rfl
  | 1 => rfl
  | 2 => rfl
  | 3 => rfl
  | 4 => rfl
  | 5 => rfl
  | 6 => rfl
  | 7 => rfl
  | 8 => rfl
  | 9 => rfl
  | 10 => rfl
  | 11 => rfl
  | j + 12 => rfl
theorem hW_p7 : tput (hW h w f g y) w [9] 7 0 (vI x) = some (hW h w (upd f 7 x) g y) := by unfold tput; rw [hW_0]; exact congrArg some (rput_set (j := 0) (by decide) hW_v7)
theorem hW_v10 : va_up (wcf w f g y) 0 (.inr (9, va_up (wobj w f) 10 (vI x))) = wcf w (upd f 10 x) g y := by
  funext j
  match j with
  | 0 =>
    show (Sum.inr (9, va_up (wobj w f) 10 (vI x)) : TC) = Sum.inr (9, wobj w (upd f 10 x))
    congr 2
    funext k
    match k with
    | 0 => rfl
    | 1 => rfl
    | 2 => rfl
    | 3 => rfl
    | 4 => rfl
    | 5 => rfl
    | 6 => rfl
    | 7 => rfl
    | 8 => rfl
    | 9 => rfl
    | 10 => rfl
    | 11 => rfl
    | 12 => rfl
    | 13 => rfl
    | 14 => rfl
    | k + 15 => rfl
  | 1 => rfl
  | 2 => rfl
  | 3 => rfl
  | 4 => rfl
  | 5 => rfl
  | 6 => rfl
  | 7 => rfl
  | 8 => rfl
  | 9 => rfl
  | 10 => rfl
  | 11 => rfl
  | j + 12 => rfl
theorem hW_p10 : tput (hW h w f g y) w [9] 10 0 (vI x) = some (hW h w (upd f 10 x) g y) := by unfold tput; rw [hW_0]; exact congrArg some (rput_set (j := 0) (by decide) hW_v10)
theorem hW_v14 : va_up (wcf w f g y) 0 (.inr (9, va_up (wobj w f) 14 (vI x))) = wcf w (upd f 14 x) g y := by
  funext j
  match j with
  | 0 =>
    show (Sum.inr (9, va_up (wobj w f) 14 (vI x)) : TC) = Sum.inr (9, wobj w (upd f 14 x))
    congr 2
    funext k
    match k with
    | 0 => rfl
    | 1 => rfl
    | 2 => rfl
    | 3 => rfl
    | 4 => rfl
    | 5 => rfl
    | 6 => rfl
    | 7 => rfl
    | 8 => rfl
    | 9 => rfl
    | 10 => rfl
    | 11 => rfl
    | 12 => rfl
    | 13 => rfl
    | 14 => rfl
    | k + 15 => rfl
  | 1 => rfl
  | 2 => rfl
  | 3 => rfl
  | 4 => rfl
  | 5 => rfl
  | 6 => rfl
  | 7 => rfl
  | 8 => rfl
  | 9 => rfl
  | 10 => rfl
  | 11 => rfl
  | j + 12 => rfl
theorem hW_p14 : tput (hW h w f g y) w [9] 14 0 (vI x) = some (hW h w (upd f 14 x) g y) := by unfold tput; rw [hW_0]; exact congrArg some (rput_set (j := 0) (by decide) hW_v14)
end S18
