/-! SHEETS -/
def shA (D : TH) : TH := hnew D (.inr (5, tdf 5)) 2
def shB (D : TH) (n : Nat) : TH := hnew (shA D) (.inl (2, n, .inr (.inl (fun _ => 0)))) n
def shC (D : TH) (s n : Nat) : TH := tset (shB D n) D.2.1 (.inr (5, va_up (tdf 5) 0 (vI (nI s))))
def shD (D : TH) (s n : Nat) : TH := tset (shC D s n) D.2.1 (.inr (5, va_up (va_up (tdf 5) 0 (vI (nI s))) 1 (vR (some (D.2.1 + 1)))))
section S98a
variable {sc : Nat × (Nat → Int32)} {q : Nat} {H h D : TH} {m k n t cs i j o s kind : Nat} {x : Nat → Int32} {G : Nat → Nat → Int32} {Y : Nat → Nat → Option Nat} {f F : Nat → Int32} {g M : Nat → Nat → Int32} {y : Nat → Option Nat} {b c : WS} {cf tf : Nat → Int32} {cg tg : Nat → Nat → Int32} {v : TV} {w : Nat → Int64} {z : Int64} {E : Nat → Int64} {U : Nat → Nat → Int64} {K : Option TV → TH → Prop} {fs : Nat → TV}
theorem hM_r39 (hn : n < 160) : tldl (hM h m F E M U) (m + 18) (nI n) = some (U 39 n) := by
  unfold tldl
  rw [hM_a39]
  show (if nI n < 0 ∨ 160 ≤ (nI n).toNatClampNeg then none else some (U 39 (nI n).toNatClampNeg)) = _
  rw [if_neg (nI_in hn (by decide)), nI_clamp (by omega)]
theorem HL_put (ho : 70 ≤ o) (hc : D.1 o = some (.inr (5, fs))) (hk : tkok kind v = true) : tput (hX (hM D 45 F E M U) x G Y f g y b c cf cg tf tg) o [5] k kind v = some (hX (hM (tset D o (.inr (5, va_up fs k v))) 45 F E M U) x G Y f g y b c cf cg tf tg) := by
  unfold tput
  rw [HL_off ho, hc]
  dsimp only
  rw [if_pos ⟨rfl, hk⟩, HL_set ho]
theorem sh_new (hs : 70 ≤ D.2.1) (hb : D.2.1 < 900000) : tnew (hX (hM D 45 F E M U) x G Y f g y b c cf cg tf tg) (.inr (5, tdf 5)) 2 = some (hX (hM (shA D) 45 F E M U) x G Y f g y b c cf cg tf tg) := by
  rw [tnew_ok (h := hX (hM D 45 F E M U) x G Y f g y b c cf cg tf tg) (show D.2.1 < 1000000 by omega), HL_new hs]
  rfl
theorem sh_arr (hs : 70 ≤ D.2.1) (hb : D.2.1 < 900000) (hn : n ≤ 40) : tna (hX (hM (shA D) 45 F E M U) x G Y f g y b c cf cg tf tg) 2 (nI n) = some (hX (hM (shB D n) 45 F E M U) x G Y f g y b c cf cg tf tg) := by
  unfold tna
  rw [nI_clamp (by omega), if_neg (by
    rintro (h | h)
    · exact nI_pos (by omega) h
    · omega)]
  show tnew _ _ _ = _
  rw [tnew_ok (h := hX (hM (shA D) 45 F E M U) x G Y f g y b c cf cg tf tg) (show (shA D).2.1 < 1000000 by show D.2.1 + 1 < 1000000; omega), HL_new (show 70 ≤ (shA D).2.1 by show 70 ≤ D.2.1 + 1; omega)]
  rfl
theorem shB_o : (shB D n).1 D.2.1 = some (.inr (5, tdf 5)) := by
  show va_up (shA D).1 (D.2.1 + 1) _ D.2.1 = _
  rw [uN (by omega)]
  exact uE _ _ _
theorem sh_p0 (hs : 70 ≤ D.2.1) : tput (hX (hM (shB D n) 45 F E M U) x G Y f g y b c cf cg tf tg) D.2.1 [5] 0 0 (vI (nI s)) = some (hX (hM (shC D s n) 45 F E M U) x G Y f g y b c cf cg tf tg) := HL_put hs shB_o rfl
theorem sh_p1 (hs : 70 ≤ D.2.1) : tput (hX (hM (shC D s n) 45 F E M U) x G Y f g y b c cf cg tf tg) D.2.1 [5] 1 3 (vR (some (D.2.1 + 1))) = some (hX (hM (shD D s n) 45 F E M U) x G Y f g y b c cf cg tf tg) := HL_put hs (uE _ _ _) rfl
theorem shD_21 : (shD D s n).2.1 = D.2.1 + 2 := rfl
theorem shD_22 : (shD D s n).2.2 = D.2.2 + 2 + n := rfl
theorem shD_k (hk : k ≠ D.2.1) (hk2 : k ≠ D.2.1 + 1) : (shD D s n).1 k = D.1 k := by
  show va_up (va_up (va_up (va_up D.1 D.2.1 _) (D.2.1 + 1) _) D.2.1 _) D.2.1 _ k = _
  rw [uN hk, uN hk, uN hk2, uN hk]
theorem shD_ext : ext D (shD D s n) := ⟨by rw [shD_21]; omega, fun o ho => shD_k (by omega) (by omega)⟩
theorem shD_rS (hn : n ≤ 40) (hs : rS q D) : rS (q + 1) (shD D s n) := by
  obtain ⟨h1, h2, h3, h4⟩ := hs
  refine ⟨by rw [shD_21]; omega, by rw [shD_21]; omega, by rw [shD_22]; omega, fun k hk => ?_⟩
  rw [shD_21] at hk
  rw [shD_k (by omega) (by omega)]
  exact h4 k (by omega)
theorem shD_O (hs : 70 ≤ D.2.1) (h4 : s < 4) (hn : n ≤ 40) : shO (shD D s n) D.2.1 s n (fun _ => 0) := by
  refine ⟨hs, by rw [shD_21]; omega, h4, hn, ⟨_, uE _ _ _, rfl, rfl⟩, ?_⟩
  show va_up (va_up (va_up (va_up D.1 D.2.1 _) (D.2.1 + 1) _) D.2.1 _) D.2.1 _ (D.2.1 + 1) = _
  rw [uN (by omega), uN (by omega), uE]
/-- a sheet, in the heap -/
theorem sh_cl (hO : shO D o s n w) : tcl (hX (hM D 45 F E M U) x G Y f g y b c cf cg tf tg) o = some 5 := by
  obtain ⟨h1, -, -, -, ⟨fs, h2, -, -⟩, -⟩ := hO
  unfold tcl
  rw [HL_off h1, h2]
theorem sh_g0 (hO : shO D o s n w) : tget (hX (hM D 45 F E M U) x G Y f g y b c cf cg tf tg) o [5] 0 = some (vI (nI s)) := by
  obtain ⟨h1, -, -, -, ⟨fs, h2, h3, -⟩, -⟩ := hO
  unfold tget
  rw [HL_off h1, h2]
  dsimp only
  rw [if_pos (show ([5] : List Nat).contains 5 = true from rfl), h3]
theorem sh_g1 (hO : shO D o s n w) : tget (hX (hM D 45 F E M U) x G Y f g y b c cf cg tf tg) o [5] 1 = some (vR (some (o + 1))) := by
  obtain ⟨h1, -, -, -, ⟨fs, h2, -, h3⟩, -⟩ := hO
  unfold tget
  rw [HL_off h1, h2]
  dsimp only
  rw [if_pos (show ([5] : List Nat).contains 5 = true from rfl), h3]
theorem sh_len (hO : shO D o s n w) : tlen sc (hX (hM D 45 F E M U) x G Y f g y b c cf cg tf tg) (o + 1) = some (nI n) := by
  obtain ⟨h1, -, -, -, -, h2⟩ := hO
  unfold tlen
  rw [HL_off (by omega), h2]
  rfl
theorem sh_ld (hO : shO D o s n w) (hi : i < n) : tldl (hX (hM D 45 F E M U) x G Y f g y b c cf cg tf tg) (o + 1) (nI i) = some (w i) := by
  obtain ⟨h1, -, -, h40, -, h2⟩ := hO
  unfold tldl
  rw [HL_off (by omega), h2]
  show (if nI i < 0 ∨ n ≤ (nI i).toNatClampNeg then none else some (w (nI i).toNatClampNeg)) = _
  rw [if_neg (nI_in hi (by omega)), nI_clamp (by omega)]
theorem sh_st (hO : shO D o s n w) (hi : i < n) : tasl (hX (hM D 45 F E M U) x G Y f g y b c cf cg tf tg) (o + 1) (nI i) z = some (hX (hM (tset D (o + 1) (.inl (2, n, .inr (.inl (vp_updL w i z))))) 45 F E M U) x G Y f g y b c cf cg tf tg) := by
  obtain ⟨h1, -, -, h40, -, h2⟩ := hO
  rw [tasl_of (n := n) (f := w) (by rw [HL_off (by omega)]; exact h2) (nI_in hi (by omega)), nI_clamp (by omega), HL_set (by omega)]
theorem k_lacks (hk : k < 4) {v : Int32} : tA sc iX11_lacksSort 0 [vR (some m), vI (nI k), vI v] [] (hM h m F E M U) K = K (some (vI (if M 37 k < 0 then -11 else if M 37 k = v then 0 else -13))) (hM h m F E M U) := by
  by_cases z1 : M 37 k < 0
  · have z2 : ¬ 0 ≤ M 37 k := Int32.not_le.mpr z1
    rw [if_pos z1]
    simp (disch := first | omega | assumption | exact hM_cl) only [rX11_lacksSort_0, rX11_lacksSort_1, rX11_lacksSort_4, rX11_lacksSort_5, rX11_lacksSort_6, rX11_lacksSort_9, rX11_lacksSort_11, rX11_lacksSort_14, rX11_lacksSort_15, rX11_lacksSort_18, rX11_lacksSort_19, rX11_lacksSort_20, rX11_lacksSort_21, rX11_lacksSort_24, rX11_lacksSort_26, rX11_lacksSort_29, rX11_lacksSort_30, hM_cl, hM_g0, hM_g1, hM_g2, hM_g3, hM_g4, hM_g5, hM_g6, hM_g7, hM_g8, hM_g9, hM_g10, hM_g11, hM_g12, hM_g13, hM_g14, hM_g15, hM_g16, hM_g17, hM_g18, hM_g19, hM_g20, hM_g21, hM_g22, hM_g23, hM_g24, hM_g25, hM_g26, hM_g27, hM_g28, hM_g29, hM_g30, hM_g31, hM_g32, hM_g33, hM_g34, hM_g35, hM_g36, hM_g37, hM_g38, hM_g39, hM_g40, hM_g41, hM_g42, hM_g43, hM_g44, hM_g45, hM_g46, hM_g47, hM_g48, hM_g49, hM_g50, hM_g51, hM_g52, hM_r0, hM_w0, hM_r0_0, hM_w0_0, hM_r0_1, hM_w0_1, hM_r0_2, hM_w0_2, hM_r2, hM_w2, hM_r3, hM_w3, hM_r5, hM_w5, hM_r6, hM_w6, hM_r6_0, hM_w6_0, hM_r6_1, hM_w6_1, hM_r6_2, hM_w6_2, hM_r6_3, hM_w6_3, hM_r7, hM_w7, hM_r8, hM_w8, hM_r19, hM_w19, hM_r20, hM_w20, hM_r21, hM_w21, hM_r22, hM_w22, hM_r23, hM_w23, hM_r24, hM_w24, hM_r24_0, hM_w24_0, hM_r24_1, hM_w24_1, hM_r24_2, hM_w24_2, hM_r24_3, hM_w24_3, hM_r33, hM_w33, hM_r34, hM_w34, hM_r37, hM_w37, hM_r38, hM_w38, hM_w39, hM_r40, hM_w40, hM_r41, hM_w41, hM_r42, hM_w42, hM_r46, hM_w46, hM_r50, hM_w50, hM_r52, hM_w52, hM_r52_0, hM_w52_0, hM_p1, hM_p4, hM_p9, hM_p10, hM_p11, hM_p12, hM_p14, hM_p15, hM_p16, hM_p17, hM_p18, hM_p25, hM_p26, hM_p27, hM_p28, hM_p31, hM_p32, hM_p35, hM_p36, hM_p43, hM_p44, hM_p45, hM_p47, hM_p48, hM_p49, hM_p51, hM_p13, hM_p29, hM_p30, oz_some, tpu_some, tpu_none, tclr_I, tclr_R, tclr_U, tclr_L, if_true, if_false, i10, not_true_eq_false, not_false_eq_true, z1, z2]
  · have z2 : 0 ≤ M 37 k := Int32.not_lt.mp z1
    rw [if_neg z1]
    by_cases z3 : M 37 k = v
    · rw [if_pos z3]
      simp (disch := first | omega | assumption | exact hM_cl) only [rX11_lacksSort_0, rX11_lacksSort_1, rX11_lacksSort_4, rX11_lacksSort_5, rX11_lacksSort_6, rX11_lacksSort_9, rX11_lacksSort_11, rX11_lacksSort_14, rX11_lacksSort_15, rX11_lacksSort_18, rX11_lacksSort_19, rX11_lacksSort_20, rX11_lacksSort_21, rX11_lacksSort_24, rX11_lacksSort_26, rX11_lacksSort_29, rX11_lacksSort_30, hM_cl, hM_g0, hM_g1, hM_g2, hM_g3, hM_g4, hM_g5, hM_g6, hM_g7, hM_g8, hM_g9, hM_g10, hM_g11, hM_g12, hM_g13, hM_g14, hM_g15, hM_g16, hM_g17, hM_g18, hM_g19, hM_g20, hM_g21, hM_g22, hM_g23, hM_g24, hM_g25, hM_g26, hM_g27, hM_g28, hM_g29, hM_g30, hM_g31, hM_g32, hM_g33, hM_g34, hM_g35, hM_g36, hM_g37, hM_g38, hM_g39, hM_g40, hM_g41, hM_g42, hM_g43, hM_g44, hM_g45, hM_g46, hM_g47, hM_g48, hM_g49, hM_g50, hM_g51, hM_g52, hM_r0, hM_w0, hM_r0_0, hM_w0_0, hM_r0_1, hM_w0_1, hM_r0_2, hM_w0_2, hM_r2, hM_w2, hM_r3, hM_w3, hM_r5, hM_w5, hM_r6, hM_w6, hM_r6_0, hM_w6_0, hM_r6_1, hM_w6_1, hM_r6_2, hM_w6_2, hM_r6_3, hM_w6_3, hM_r7, hM_w7, hM_r8, hM_w8, hM_r19, hM_w19, hM_r20, hM_w20, hM_r21, hM_w21, hM_r22, hM_w22, hM_r23, hM_w23, hM_r24, hM_w24, hM_r24_0, hM_w24_0, hM_r24_1, hM_w24_1, hM_r24_2, hM_w24_2, hM_r24_3, hM_w24_3, hM_r33, hM_w33, hM_r34, hM_w34, hM_r37, hM_w37, hM_r38, hM_w38, hM_w39, hM_r40, hM_w40, hM_r41, hM_w41, hM_r42, hM_w42, hM_r46, hM_w46, hM_r50, hM_w50, hM_r52, hM_w52, hM_r52_0, hM_w52_0, hM_p1, hM_p4, hM_p9, hM_p10, hM_p11, hM_p12, hM_p14, hM_p15, hM_p16, hM_p17, hM_p18, hM_p25, hM_p26, hM_p27, hM_p28, hM_p31, hM_p32, hM_p35, hM_p36, hM_p43, hM_p44, hM_p45, hM_p47, hM_p48, hM_p49, hM_p51, hM_p13, hM_p29, hM_p30, oz_some, tpu_some, tpu_none, tclr_I, tclr_R, tclr_U, tclr_L, if_true, if_false, i10, not_true_eq_false, not_false_eq_true, z1, z2, z3]
      simp [z3 ▸ z2]
    · rw [if_neg z3]
      simp (disch := first | omega | assumption | exact hM_cl) only [rX11_lacksSort_0, rX11_lacksSort_1, rX11_lacksSort_4, rX11_lacksSort_5, rX11_lacksSort_6, rX11_lacksSort_9, rX11_lacksSort_11, rX11_lacksSort_14, rX11_lacksSort_15, rX11_lacksSort_18, rX11_lacksSort_19, rX11_lacksSort_20, rX11_lacksSort_21, rX11_lacksSort_24, rX11_lacksSort_26, rX11_lacksSort_29, rX11_lacksSort_30, hM_cl, hM_g0, hM_g1, hM_g2, hM_g3, hM_g4, hM_g5, hM_g6, hM_g7, hM_g8, hM_g9, hM_g10, hM_g11, hM_g12, hM_g13, hM_g14, hM_g15, hM_g16, hM_g17, hM_g18, hM_g19, hM_g20, hM_g21, hM_g22, hM_g23, hM_g24, hM_g25, hM_g26, hM_g27, hM_g28, hM_g29, hM_g30, hM_g31, hM_g32, hM_g33, hM_g34, hM_g35, hM_g36, hM_g37, hM_g38, hM_g39, hM_g40, hM_g41, hM_g42, hM_g43, hM_g44, hM_g45, hM_g46, hM_g47, hM_g48, hM_g49, hM_g50, hM_g51, hM_g52, hM_r0, hM_w0, hM_r0_0, hM_w0_0, hM_r0_1, hM_w0_1, hM_r0_2, hM_w0_2, hM_r2, hM_w2, hM_r3, hM_w3, hM_r5, hM_w5, hM_r6, hM_w6, hM_r6_0, hM_w6_0, hM_r6_1, hM_w6_1, hM_r6_2, hM_w6_2, hM_r6_3, hM_w6_3, hM_r7, hM_w7, hM_r8, hM_w8, hM_r19, hM_w19, hM_r20, hM_w20, hM_r21, hM_w21, hM_r22, hM_w22, hM_r23, hM_w23, hM_r24, hM_w24, hM_r24_0, hM_w24_0, hM_r24_1, hM_w24_1, hM_r24_2, hM_w24_2, hM_r24_3, hM_w24_3, hM_r33, hM_w33, hM_r34, hM_w34, hM_r37, hM_w37, hM_r38, hM_w38, hM_w39, hM_r40, hM_w40, hM_r41, hM_w41, hM_r42, hM_w42, hM_r46, hM_w46, hM_r50, hM_w50, hM_r52, hM_w52, hM_r52_0, hM_w52_0, hM_p1, hM_p4, hM_p9, hM_p10, hM_p11, hM_p12, hM_p14, hM_p15, hM_p16, hM_p17, hM_p18, hM_p25, hM_p26, hM_p27, hM_p28, hM_p31, hM_p32, hM_p35, hM_p36, hM_p43, hM_p44, hM_p45, hM_p47, hM_p48, hM_p49, hM_p51, hM_p13, hM_p29, hM_p30, oz_some, tpu_some, tpu_none, tclr_I, tclr_R, tclr_U, tclr_L, if_true, if_false, i10, not_true_eq_false, not_false_eq_true, z1, z2, z3]
theorem sX11_isShelf {v : Int32} : tA sc iX11_isShelf 0 [vI v] [] h K = K (some (vI (inI v 0 3))) h := by
  simp only [rX11_isShelf_0, rX11_isShelf_1, rX11_isShelf_2, rX11_isShelf_3, rX11_isShelf_6, sX11_in, tpu_some, inI_01, true_and]
def shU (u : Nat → Int64) (k : Nat) : Nat → Int64 := lfold (fun i u => vp_updL u (40 * k + i) 0) 40 0 u
theorem shU_p {u : Nat → Int64} : (∀ j, j < 40 → shU u k (40 * k + j) = 0) ∧ (∀ j, (j < 40 * k ∨ 40 * k + 40 ≤ j) → shU u k j = u j) := by
  have key := lfold_inv (F := fun i (u : Nat → Int64) => vp_updL u (40 * k + i) 0) (fun i z => (∀ j, j < i → z (40 * k + j) = 0) ∧ (∀ j, (j < 40 * k ∨ 40 * k + 40 ≤ j) → z j = u j)) 40 0 u ⟨fun j hj => by omega, fun _ _ => rfl⟩ (by
    rintro i u h1 h2 ⟨i1, i2⟩
    refine ⟨fun j hj => ?_, fun j hj => ?_⟩
    · unfold vp_updL
      by_cases e : 40 * k + j = 40 * k + i
      · rw [if_pos e]
      · rw [if_neg e]; exact i1 j (by omega)
    · unfold vp_updL
      rw [if_neg (by omega)]; exact i2 j hj)
  exact key
theorem e40 (k : Nat) : 40 * nI k = nI (40 * k) := by rw [show (40 : Int32) = nI 40 from rfl, pk_mul]
theorem k_sheet64 {s0 n0 : Int32} (hk : k < 4) : tA sc iX11_sheet 64 [vR (some 45), vI (nI k), vI s0, vI n0, vI 0] [] (hM h 45 F E M U) K = K (some (vI 1)) (hM h 45 F E M (va_up U 39 (shU (U 39) k))) := by
  have L := loopA (fun i (u : Nat → Int64) => tA sc iX11_sheet 64 [vR (some 45), vI (nI k), vI s0, vI n0, vI (nI i)] [] (hM h 45 F E M (va_up U 39 u)) K) (fun u => K (some (vI 1)) (hM h 45 F E M (va_up U 39 u))) (fun i u => vp_updL u (40 * k + i) 0) 40 ?_ ?_ 40 0 (U 39) (by omega)
  · rw [uS] at L
    exact L
  · intro u
    have e : ((40 : Int32) ≤ nI 40) = True := by decide
    rw [rX11_sheet_64]
    simp (disch := first | omega | assumption | exact hM_cl) only [rX11_sheet_0, rX11_sheet_1, rX11_sheet_4, rX11_sheet_7, rX11_sheet_8, rX11_sheet_9, rX11_sheet_10, rX11_sheet_13, rX11_sheet_16, rX11_sheet_17, rX11_sheet_20, rX11_sheet_21, rX11_sheet_23, rX11_sheet_26, rX11_sheet_27, rX11_sheet_28, rX11_sheet_29, rX11_sheet_32, rX11_sheet_33, rX11_sheet_36, rX11_sheet_38, rX11_sheet_39, rX11_sheet_40, rX11_sheet_43, rX11_sheet_44, rX11_sheet_45, rX11_sheet_46, rX11_sheet_47, rX11_sheet_50, rX11_sheet_51, rX11_sheet_52, rX11_sheet_55, rX11_sheet_56, rX11_sheet_59, rX11_sheet_60, rX11_sheet_61, rX11_sheet_62, rX11_sheet_66, rX11_sheet_68, rX11_sheet_71, rX11_sheet_72, rX11_sheet_75, rX11_sheet_77, rX11_sheet_78, rX11_sheet_79, rX11_sheet_81, rX11_sheet_82, rX11_sheet_83, rX11_sheet_84, rX11_sheet_87, rX11_sheet_90, rX11_sheet_91, hM_cl, hM_g0, hM_g1, hM_g2, hM_g3, hM_g4, hM_g5, hM_g6, hM_g7, hM_g8, hM_g9, hM_g10, hM_g11, hM_g12, hM_g13, hM_g14, hM_g15, hM_g16, hM_g17, hM_g18, hM_g19, hM_g20, hM_g21, hM_g22, hM_g23, hM_g24, hM_g25, hM_g26, hM_g27, hM_g28, hM_g29, hM_g30, hM_g31, hM_g32, hM_g33, hM_g34, hM_g35, hM_g36, hM_g37, hM_g38, hM_g39, hM_g40, hM_g41, hM_g42, hM_g43, hM_g44, hM_g45, hM_g46, hM_g47, hM_g48, hM_g49, hM_g50, hM_g51, hM_g52, hM_r0, hM_w0, hM_r0_0, hM_w0_0, hM_r0_1, hM_w0_1, hM_r0_2, hM_w0_2, hM_r2, hM_w2, hM_r3, hM_w3, hM_r5, hM_w5, hM_r6, hM_w6, hM_r6_0, hM_w6_0, hM_r6_1, hM_w6_1, hM_r6_2, hM_w6_2, hM_r6_3, hM_w6_3, hM_r7, hM_w7, hM_r8, hM_w8, hM_r19, hM_w19, hM_r20, hM_w20, hM_r21, hM_w21, hM_r22, hM_w22, hM_r23, hM_w23, hM_r24, hM_w24, hM_r24_0, hM_w24_0, hM_r24_1, hM_w24_1, hM_r24_2, hM_w24_2, hM_r24_3, hM_w24_3, hM_r33, hM_w33, hM_r34, hM_w34, hM_r37, hM_w37, hM_r38, hM_w38, hM_w39, hM_r40, hM_w40, hM_r41, hM_w41, hM_r42, hM_w42, hM_r46, hM_w46, hM_r50, hM_w50, hM_r52, hM_w52, hM_r52_0, hM_w52_0, hM_p1, hM_p4, hM_p9, hM_p10, hM_p11, hM_p12, hM_p14, hM_p15, hM_p16, hM_p17, hM_p18, hM_p25, hM_p26, hM_p27, hM_p28, hM_p31, hM_p32, hM_p35, hM_p36, hM_p43, hM_p44, hM_p45, hM_p47, hM_p48, hM_p49, hM_p51, hM_p13, hM_p29, hM_p30, oz_some, tpu_some, tpu_none, tclr_I, tclr_R, tclr_U, tclr_L, if_true, if_false, i10, not_true_eq_false, not_false_eq_true, e]
  · intro i u hi
    rw [rX11_sheet_64]
    simp (disch := first | omega | assumption | exact hM_cl) only [rX11_sheet_0, rX11_sheet_1, rX11_sheet_4, rX11_sheet_7, rX11_sheet_8, rX11_sheet_9, rX11_sheet_10, rX11_sheet_13, rX11_sheet_16, rX11_sheet_17, rX11_sheet_20, rX11_sheet_21, rX11_sheet_23, rX11_sheet_26, rX11_sheet_27, rX11_sheet_28, rX11_sheet_29, rX11_sheet_32, rX11_sheet_33, rX11_sheet_36, rX11_sheet_38, rX11_sheet_39, rX11_sheet_40, rX11_sheet_43, rX11_sheet_44, rX11_sheet_45, rX11_sheet_46, rX11_sheet_47, rX11_sheet_50, rX11_sheet_51, rX11_sheet_52, rX11_sheet_55, rX11_sheet_56, rX11_sheet_59, rX11_sheet_60, rX11_sheet_61, rX11_sheet_62, rX11_sheet_66, rX11_sheet_68, rX11_sheet_71, rX11_sheet_72, rX11_sheet_75, rX11_sheet_77, rX11_sheet_78, rX11_sheet_79, rX11_sheet_81, rX11_sheet_82, rX11_sheet_83, rX11_sheet_84, rX11_sheet_87, rX11_sheet_90, rX11_sheet_91, hM_cl, hM_g0, hM_g1, hM_g2, hM_g3, hM_g4, hM_g5, hM_g6, hM_g7, hM_g8, hM_g9, hM_g10, hM_g11, hM_g12, hM_g13, hM_g14, hM_g15, hM_g16, hM_g17, hM_g18, hM_g19, hM_g20, hM_g21, hM_g22, hM_g23, hM_g24, hM_g25, hM_g26, hM_g27, hM_g28, hM_g29, hM_g30, hM_g31, hM_g32, hM_g33, hM_g34, hM_g35, hM_g36, hM_g37, hM_g38, hM_g39, hM_g40, hM_g41, hM_g42, hM_g43, hM_g44, hM_g45, hM_g46, hM_g47, hM_g48, hM_g49, hM_g50, hM_g51, hM_g52, hM_r0, hM_w0, hM_r0_0, hM_w0_0, hM_r0_1, hM_w0_1, hM_r0_2, hM_w0_2, hM_r2, hM_w2, hM_r3, hM_w3, hM_r5, hM_w5, hM_r6, hM_w6, hM_r6_0, hM_w6_0, hM_r6_1, hM_w6_1, hM_r6_2, hM_w6_2, hM_r6_3, hM_w6_3, hM_r7, hM_w7, hM_r8, hM_w8, hM_r19, hM_w19, hM_r20, hM_w20, hM_r21, hM_w21, hM_r22, hM_w22, hM_r23, hM_w23, hM_r24, hM_w24, hM_r24_0, hM_w24_0, hM_r24_1, hM_w24_1, hM_r24_2, hM_w24_2, hM_r24_3, hM_w24_3, hM_r33, hM_w33, hM_r34, hM_w34, hM_r37, hM_w37, hM_r38, hM_w38, hM_w39, hM_r40, hM_w40, hM_r41, hM_w41, hM_r42, hM_w42, hM_r46, hM_w46, hM_r50, hM_w50, hM_r52, hM_w52, hM_r52_0, hM_w52_0, hM_p1, hM_p4, hM_p9, hM_p10, hM_p11, hM_p12, hM_p14, hM_p15, hM_p16, hM_p17, hM_p18, hM_p25, hM_p26, hM_p27, hM_p28, hM_p31, hM_p32, hM_p35, hM_p36, hM_p43, hM_p44, hM_p45, hM_p47, hM_p48, hM_p49, hM_p51, hM_p13, hM_p29, hM_p30, oz_some, tpu_some, tpu_none, tclr_I, tclr_R, tclr_U, tclr_L, if_true, if_false, i10, not_true_eq_false, not_false_eq_true, le40_f, e40, nI_add, nI_1, uE, uU]
theorem c_sheet {k0 : Int32} {s0 : Int32} {n0 : Int32} (hq : q ≤ 64) (R : Rel q H) : Duo sc q iX10_sheet iX11_sheet [vR (some 0), vI k0, vI s0, vI n0] [vR (some 45), vI k0, vI s0, vI n0, vU] H := by
  obtain ⟨D, F, E, M, U, x, G, Y, f, g, y, b, c, cf, cg, tf, tg, rfl, R⟩ := R
  have R0 := R
  obtain ⟨p1, p2, ⟨t, n, cs, t20, n5, w6, m6, w7, w10, s4, w14, hT, hD, hS⟩, p4, p5, p6, p7, p8, p9, p10⟩ := R
  have hA := p2.1
  rcases nIrange k0 (show 4 < 2 ^ 31 by decide) with ⟨k, hk, rfl⟩ | hk
  · have x1 : inB (nI k) 4 = 1 := inB_t (n := 4) hk (by decide)
    have y1 : inI (nI k) 0 3 = 1 := inI_t (n := 3) (by omega) (by decide)
    obtain ⟨u1, u2⟩ := shU_p (u := U 39) (k := k)
    rcases sgn_cases s0 with rfl | ⟨s, hs, rfl⟩ | ⟨z1, z2⟩ | ⟨z1, z2, z3⟩
    · have y2 : inI (-1) (-1) 3 = 1 := by decide
      have m1 : ((-1 : Int32) < 0) = True := by decide
      have m2 : ((0 : Int32) ≤ -1) = False := by decide
      have m3 : ((-1 : Int32) < -1) = False := by decide
      have m4 : ((-1 : Int32) < 4) = True := by decide
      have hx : ∀ K, tA sc iX10_sheet 0 [vR (some 0), vI (nI k), vI (-1), vI n0] [] (hX (hM D 45 F E M U) x G Y f g y b c cf cg tf tg) K = K (some (vI 1)) (hX (hM D 45 F E M U) x G (va_up Y 0 (va_up (Y 0) k none)) f g y b c cf cg tf tg) := by
        intro K
        simp (disch := first | omega | assumption | exact hX_cl | exact hX_0cl | exact hX_1cl | exact hX_Ccl | exact hX_Tcl) only [rX10_sheet_0, rX10_sheet_1, rX10_sheet_4, rX10_sheet_7, rX10_sheet_8, rX10_sheet_9, rX10_sheet_12, rX10_sheet_13, rX10_sheet_14, rX10_sheet_17, rX10_sheet_18, rX10_sheet_19, rX10_sheet_20, rX10_sheet_21, rX10_sheet_24, rX10_sheet_25, rX10_sheet_28, rX10_sheet_29, rX10_sheet_30, rX10_sheet_31, rX10_sheet_32, rX10_sheet_33, rX10_sheet_34, rX10_sheet_36, rX10_sheet_39, rX10_sheet_40, rX10_sheet_41, rX10_sheet_42, rX10_sheet_45, rX10_sheet_47, rX10_sheet_48, rX10_sheet_49, rX10_sheet_52, rX10_sheet_53, rX10_sheet_56, rX10_sheet_57, rX10_sheet_58, rX10_sheet_59, rX10_sheet_61, rX10_sheet_64, rX10_sheet_65, rX10_sheet_66, hX_cl, hX_g0, hX_g1, hX_g2, hX_g3, hX_g4, hX_g5, hX_g6, hX_g7, hX_g8, hX_g9, hX_g10, hX_p3, hX_p6, hX_r_rows, hX_w_rows, hX_r_shs, hX_w_shs, hX_r_sh, hX_n_sh, hX_r_ss, hX_n_ss, hX_0cl, hX_0g0, hX_0g1, hX_0g2, hX_0g3, hX_0g4, hX_0g5, hX_0g6, hX_0g7, hX_0g8, hX_0g9, hX_0g10, hX_0g11, hX_0g12, hX_0g13, hX_0g14, hX_0r0, hX_0w0, hX_0r1, hX_0w1, hX_0r2, hX_0w2, hX_0r3, hX_0w3, hX_0r4, hX_0w4, hX_0r5, hX_0w5, hX_0r9, hX_0w9, hX_0r11, hX_0w11, hX_0r12, hX_0w12, hX_0r13, hX_0w13, hX_0r8, hX_0p6, hX_0p7, hX_0p10, hX_0p14, hX_1cl, hX_1g0, hX_1g1, hX_1g2, hX_1g3, hX_1g4, hX_1g5, hX_1g6, hX_1g7, hX_1g8, hX_1g9, hX_1g10, hX_1g11, hX_1g12, hX_1g13, hX_1g14, hX_1r0, hX_1r1, hX_1r2, hX_1r3, hX_1r4, hX_1r5, hX_1r9, hX_1r11, hX_1r12, hX_1r13, hX_1r8, hX_Ccl, hX_Cg0, hX_Cg1, hX_Cp1, hX_Cg2, hX_Cp2, hX_Cg3, hX_Cp3, hX_Cg4, hX_Cp4, hX_Cg5, hX_Cp5, hX_Cr0, hX_Tcl, hX_Tg0, hX_Tg1, hX_Tp1, hX_Tg2, hX_Tp2, hX_Tr0, oz_some, tpu_some, tpu_none, tclr_I, tclr_R, tclr_U, tclr_L, if_true, if_false, i10, not_true_eq_false, not_false_eq_true, sX10_isSheet, x1, m3, m4]
      have hm : ∀ h K, tA sc iX11_sheet 0 [vR (some 45), vI (nI k), vI (-1), vI n0, vU] [] (hM h 45 F E M U) K = K (some (vI 1)) (hM h 45 F E (va_up (va_up M 37 (upd (M 37) k (-1))) 38 (upd (M 38) k 0)) (va_up U 39 (shU (U 39) k))) := by
        intro h K
        simp (disch := first | omega | assumption | exact hM_cl) only [rX11_sheet_0, rX11_sheet_1, rX11_sheet_4, rX11_sheet_7, rX11_sheet_8, rX11_sheet_9, rX11_sheet_10, rX11_sheet_13, rX11_sheet_16, rX11_sheet_17, rX11_sheet_20, rX11_sheet_21, rX11_sheet_23, rX11_sheet_26, rX11_sheet_27, rX11_sheet_28, rX11_sheet_29, rX11_sheet_32, rX11_sheet_33, rX11_sheet_36, rX11_sheet_38, rX11_sheet_39, rX11_sheet_40, rX11_sheet_43, rX11_sheet_44, rX11_sheet_45, rX11_sheet_46, rX11_sheet_47, rX11_sheet_50, rX11_sheet_51, rX11_sheet_52, rX11_sheet_55, rX11_sheet_56, rX11_sheet_59, rX11_sheet_60, rX11_sheet_61, rX11_sheet_62, rX11_sheet_66, rX11_sheet_68, rX11_sheet_71, rX11_sheet_72, rX11_sheet_75, rX11_sheet_77, rX11_sheet_78, rX11_sheet_79, rX11_sheet_81, rX11_sheet_82, rX11_sheet_83, rX11_sheet_84, rX11_sheet_87, rX11_sheet_90, rX11_sheet_91, hM_cl, hM_g0, hM_g1, hM_g2, hM_g3, hM_g4, hM_g5, hM_g6, hM_g7, hM_g8, hM_g9, hM_g10, hM_g11, hM_g12, hM_g13, hM_g14, hM_g15, hM_g16, hM_g17, hM_g18, hM_g19, hM_g20, hM_g21, hM_g22, hM_g23, hM_g24, hM_g25, hM_g26, hM_g27, hM_g28, hM_g29, hM_g30, hM_g31, hM_g32, hM_g33, hM_g34, hM_g35, hM_g36, hM_g37, hM_g38, hM_g39, hM_g40, hM_g41, hM_g42, hM_g43, hM_g44, hM_g45, hM_g46, hM_g47, hM_g48, hM_g49, hM_g50, hM_g51, hM_g52, hM_r0, hM_w0, hM_r0_0, hM_w0_0, hM_r0_1, hM_w0_1, hM_r0_2, hM_w0_2, hM_r2, hM_w2, hM_r3, hM_w3, hM_r5, hM_w5, hM_r6, hM_w6, hM_r6_0, hM_w6_0, hM_r6_1, hM_w6_1, hM_r6_2, hM_w6_2, hM_r6_3, hM_w6_3, hM_r7, hM_w7, hM_r8, hM_w8, hM_r19, hM_w19, hM_r20, hM_w20, hM_r21, hM_w21, hM_r22, hM_w22, hM_r23, hM_w23, hM_r24, hM_w24, hM_r24_0, hM_w24_0, hM_r24_1, hM_w24_1, hM_r24_2, hM_w24_2, hM_r24_3, hM_w24_3, hM_r33, hM_w33, hM_r34, hM_w34, hM_r37, hM_w37, hM_r38, hM_w38, hM_w39, hM_r40, hM_w40, hM_r41, hM_w41, hM_r42, hM_w42, hM_r46, hM_w46, hM_r50, hM_w50, hM_r52, hM_w52, hM_r52_0, hM_w52_0, hM_p1, hM_p4, hM_p9, hM_p10, hM_p11, hM_p12, hM_p14, hM_p15, hM_p16, hM_p17, hM_p18, hM_p25, hM_p26, hM_p27, hM_p28, hM_p31, hM_p32, hM_p35, hM_p36, hM_p43, hM_p44, hM_p45, hM_p47, hM_p48, hM_p49, hM_p51, hM_p13, hM_p29, hM_p30, oz_some, tpu_some, tpu_none, tclr_I, tclr_R, tclr_U, tclr_L, if_true, if_false, i10, not_true_eq_false, not_false_eq_true, sX11_isShelf, y1, sX11_in, y2, m1, m2, k_sheet64 hk, uN]
      refine mkDuo hx hm ⟨rS_up p1, p2, ⟨t, n, cs, t20, n5, w6, m6, w7, w10, s4, w14, hT, hD, hS⟩, p4, p5, p6, p7, ⟨?_, ?_⟩, p9, p10⟩
      · intro i hi
        rw [uE, uE, uE, uN (show (37 : Nat) ≠ 38 by decide), uE]
        by_cases e : i = k
        · subst e
          exact Or.inl ⟨uE _ _ _, pE _ _ _⟩
        · rw [uN e, pN e, pN e]
          rcases p8.1 i hi with h1 | ⟨o, s, n, v, h1, h2, h3, h4, h5⟩
          · exact Or.inl h1
          · exact Or.inr ⟨o, s, n, v, h1, h2, h3, h4, fun j hj => by rw [u2 _ (by have := h2.2.2.2.1; omega)]; exact h5 j hj⟩
      · intro i j o hi hj hij
        rw [uE]
        by_cases e : i = k
        · subst e; rw [uE]; intro z; cases z
        · by_cases e2 : j = k
          · subst e2; rw [uE]; intro _ z; cases z
          · rw [uN e, uN e2]; exact p8.2 i j o hi hj hij
    · obtain ⟨g1, g2, g3⟩ := sgn_ok s hs
      have m2 : ((0 : Int32) ≤ nI s) = True := nIle_t (a := 0) (by omega) (by omega)
      have m5 : (nI s < 0) = False := nIlt0 (by omega)
      have m6' : (nI s = -1) = False := eq_false (fun e => by rw [e] at m5; exact absurd (of_eq_false m5) (by decide))
      rcases nIrange n0 (show 41 < 2 ^ 31 by decide) with ⟨ni, hn, rfl⟩ | hn
      · have n1 : (nI ni ≤ (40 : Int32)) = True := nIle_t (b := 40) (by omega) (by decide)
        have n2 : ((0 : Int32) ≤ nI ni) = True := nIle_t (a := 0) (by omega) (by omega)
        have n3 : (nI ni < 0) = False := nIlt0 (by omega)
        have d1 := p1.1
        have d2 := p1.2.1
        have t1 := sh_new (F := F) (E := E) (M := M) (U := U) (x := x) (G := G) (Y := Y) (f := f) (g := g) (y := y) (b := b) (c := c) (cf := cf) (cg := cg) (tf := tf) (tg := tg) d1 (by omega)
        have t2 := sh_arr (F := F) (E := E) (M := M) (U := U) (x := x) (G := G) (Y := Y) (f := f) (g := g) (y := y) (b := b) (c := c) (cf := cf) (cg := cg) (tf := tf) (tg := tg) d1 (by omega) (show ni ≤ 40 by omega)
        have t3 := sh_p0 (n := ni) (s := s) (F := F) (E := E) (M := M) (U := U) (x := x) (G := G) (Y := Y) (f := f) (g := g) (y := y) (b := b) (c := c) (cf := cf) (cg := cg) (tf := tf) (tg := tg) d1
        have t4 := sh_p1 (n := ni) (s := s) (F := F) (E := E) (M := M) (U := U) (x := x) (G := G) (Y := Y) (f := f) (g := g) (y := y) (b := b) (c := c) (cf := cf) (cg := cg) (tf := tf) (tg := tg) d1
        have hO := shD_O (s := s) (n := ni) d1 hs (by omega)
        have t5 := hX_w_sh (h := hM (shD D s ni) 45 F E M U) (x := x) (G := G) (Y := Y) (f := f) (g := g) (y := y) (b := b) (c := c) (cf := cf) (cg := cg) (tf := tf) (tg := tg) (o := D.2.1) hk (sh_cl hO)
        have a21 : (shA D).2.1 = D.2.1 + 1 := rfl
        have hx : ∀ K, tA sc iX10_sheet 0 [vR (some 0), vI (nI k), vI (nI s), vI (nI ni)] [] (hX (hM D 45 F E M U) x G Y f g y b c cf cg tf tg) K = K (some (vI 1)) (hX (hM (shD D s ni) 45 F E M U) x G (va_up Y 0 (va_up (Y 0) k (some D.2.1))) f g y b c cf cg tf tg) := by
          intro K
          simp (disch := first | omega | assumption | exact hX_cl | exact hX_0cl | exact hX_1cl | exact hX_Ccl | exact hX_Tcl) only [rX10_sheet_0, rX10_sheet_1, rX10_sheet_4, rX10_sheet_7, rX10_sheet_8, rX10_sheet_9, rX10_sheet_12, rX10_sheet_13, rX10_sheet_14, rX10_sheet_17, rX10_sheet_18, rX10_sheet_19, rX10_sheet_20, rX10_sheet_21, rX10_sheet_24, rX10_sheet_25, rX10_sheet_28, rX10_sheet_29, rX10_sheet_30, rX10_sheet_31, rX10_sheet_32, rX10_sheet_33, rX10_sheet_34, rX10_sheet_36, rX10_sheet_39, rX10_sheet_40, rX10_sheet_41, rX10_sheet_42, rX10_sheet_45, rX10_sheet_47, rX10_sheet_48, rX10_sheet_49, rX10_sheet_52, rX10_sheet_53, rX10_sheet_56, rX10_sheet_57, rX10_sheet_58, rX10_sheet_59, rX10_sheet_61, rX10_sheet_64, rX10_sheet_65, rX10_sheet_66, hX_cl, hX_g0, hX_g1, hX_g2, hX_g3, hX_g4, hX_g5, hX_g6, hX_g7, hX_g8, hX_g9, hX_g10, hX_p3, hX_p6, hX_r_rows, hX_w_rows, hX_r_shs, hX_w_shs, hX_r_sh, hX_n_sh, hX_r_ss, hX_n_ss, hX_0cl, hX_0g0, hX_0g1, hX_0g2, hX_0g3, hX_0g4, hX_0g5, hX_0g6, hX_0g7, hX_0g8, hX_0g9, hX_0g10, hX_0g11, hX_0g12, hX_0g13, hX_0g14, hX_0r0, hX_0w0, hX_0r1, hX_0w1, hX_0r2, hX_0w2, hX_0r3, hX_0w3, hX_0r4, hX_0w4, hX_0r5, hX_0w5, hX_0r9, hX_0w9, hX_0r11, hX_0w11, hX_0r12, hX_0w12, hX_0r13, hX_0w13, hX_0r8, hX_0p6, hX_0p7, hX_0p10, hX_0p14, hX_1cl, hX_1g0, hX_1g1, hX_1g2, hX_1g3, hX_1g4, hX_1g5, hX_1g6, hX_1g7, hX_1g8, hX_1g9, hX_1g10, hX_1g11, hX_1g12, hX_1g13, hX_1g14, hX_1r0, hX_1r1, hX_1r2, hX_1r3, hX_1r4, hX_1r5, hX_1r9, hX_1r11, hX_1r12, hX_1r13, hX_1r8, hX_Ccl, hX_Cg0, hX_Cg1, hX_Cp1, hX_Cg2, hX_Cp2, hX_Cg3, hX_Cp3, hX_Cg4, hX_Cp4, hX_Cg5, hX_Cp5, hX_Cr0, hX_Tcl, hX_Tg0, hX_Tg1, hX_Tp1, hX_Tg2, hX_Tp2, hX_Tr0, oz_some, tpu_some, tpu_none, tclr_I, tclr_R, tclr_U, tclr_L, if_true, if_false, i10, not_true_eq_false, not_false_eq_true, sX10_isSheet, x1, g1, g2, m6', n1, n2, t1, t2, t3, t4, t5, HL_2, a21, rX5_init_0, rX5_init_1, rX5_init_4, rX5_init_5, rX5_init_6, rX5_init_9, rX5_init_10, rX5_init_11, rX5_init_14]
        have hm : ∀ h K, tA sc iX11_sheet 0 [vR (some 45), vI (nI k), vI (nI s), vI (nI ni), vU] [] (hM h 45 F E M U) K = K (some (vI 1)) (hM h 45 F E (va_up (va_up M 37 (upd (M 37) k (nI s))) 38 (upd (M 38) k (nI ni))) (va_up U 39 (shU (U 39) k))) := by
          intro h K
          simp (disch := first | omega | assumption | exact hM_cl) only [rX11_sheet_0, rX11_sheet_1, rX11_sheet_4, rX11_sheet_7, rX11_sheet_8, rX11_sheet_9, rX11_sheet_10, rX11_sheet_13, rX11_sheet_16, rX11_sheet_17, rX11_sheet_20, rX11_sheet_21, rX11_sheet_23, rX11_sheet_26, rX11_sheet_27, rX11_sheet_28, rX11_sheet_29, rX11_sheet_32, rX11_sheet_33, rX11_sheet_36, rX11_sheet_38, rX11_sheet_39, rX11_sheet_40, rX11_sheet_43, rX11_sheet_44, rX11_sheet_45, rX11_sheet_46, rX11_sheet_47, rX11_sheet_50, rX11_sheet_51, rX11_sheet_52, rX11_sheet_55, rX11_sheet_56, rX11_sheet_59, rX11_sheet_60, rX11_sheet_61, rX11_sheet_62, rX11_sheet_66, rX11_sheet_68, rX11_sheet_71, rX11_sheet_72, rX11_sheet_75, rX11_sheet_77, rX11_sheet_78, rX11_sheet_79, rX11_sheet_81, rX11_sheet_82, rX11_sheet_83, rX11_sheet_84, rX11_sheet_87, rX11_sheet_90, rX11_sheet_91, hM_cl, hM_g0, hM_g1, hM_g2, hM_g3, hM_g4, hM_g5, hM_g6, hM_g7, hM_g8, hM_g9, hM_g10, hM_g11, hM_g12, hM_g13, hM_g14, hM_g15, hM_g16, hM_g17, hM_g18, hM_g19, hM_g20, hM_g21, hM_g22, hM_g23, hM_g24, hM_g25, hM_g26, hM_g27, hM_g28, hM_g29, hM_g30, hM_g31, hM_g32, hM_g33, hM_g34, hM_g35, hM_g36, hM_g37, hM_g38, hM_g39, hM_g40, hM_g41, hM_g42, hM_g43, hM_g44, hM_g45, hM_g46, hM_g47, hM_g48, hM_g49, hM_g50, hM_g51, hM_g52, hM_r0, hM_w0, hM_r0_0, hM_w0_0, hM_r0_1, hM_w0_1, hM_r0_2, hM_w0_2, hM_r2, hM_w2, hM_r3, hM_w3, hM_r5, hM_w5, hM_r6, hM_w6, hM_r6_0, hM_w6_0, hM_r6_1, hM_w6_1, hM_r6_2, hM_w6_2, hM_r6_3, hM_w6_3, hM_r7, hM_w7, hM_r8, hM_w8, hM_r19, hM_w19, hM_r20, hM_w20, hM_r21, hM_w21, hM_r22, hM_w22, hM_r23, hM_w23, hM_r24, hM_w24, hM_r24_0, hM_w24_0, hM_r24_1, hM_w24_1, hM_r24_2, hM_w24_2, hM_r24_3, hM_w24_3, hM_r33, hM_w33, hM_r34, hM_w34, hM_r37, hM_w37, hM_r38, hM_w38, hM_w39, hM_r40, hM_w40, hM_r41, hM_w41, hM_r42, hM_w42, hM_r46, hM_w46, hM_r50, hM_w50, hM_r52, hM_w52, hM_r52_0, hM_w52_0, hM_p1, hM_p4, hM_p9, hM_p10, hM_p11, hM_p12, hM_p14, hM_p15, hM_p16, hM_p17, hM_p18, hM_p25, hM_p26, hM_p27, hM_p28, hM_p31, hM_p32, hM_p35, hM_p36, hM_p43, hM_p44, hM_p45, hM_p47, hM_p48, hM_p49, hM_p51, hM_p13, hM_p29, hM_p30, oz_some, tpu_some, tpu_none, tclr_I, tclr_R, tclr_U, tclr_L, if_true, if_false, i10, not_true_eq_false, not_false_eq_true, sX11_isShelf, y1, sX11_in, g3, m2, m5, n1, n2, n3, k_sheet64 hk, uN]
        refine mkDuo hx hm ⟨shD_rS (by omega) p1, p2, rW_ext shD_ext ⟨t, n, cs, t20, n5, w6, m6, w7, w10, s4, w14, hT, hD, hS⟩, ⟨rY_ext shD_ext p4.1, rY_ext shD_ext p4.2.1, rY_ext shD_ext p4.2.2⟩, rK_ext shD_ext p5, p6, p7, ⟨?_, ?_⟩, rL_ext shD_ext p9, p10⟩
        · intro i hi
          rw [uE, uE, uE, uN (show (37 : Nat) ≠ 38 by decide), uE]
          by_cases e : i = k
          · subst e
            exact Or.inr ⟨D.2.1, s, ni, _, uE _ _ _, hO, pE _ _ _, pE _ _ _, fun j hj => ⟨(u1 j (by omega)).symm, 0, rfl⟩⟩
          · rw [uN e, pN e, pN e]
            rcases p8.1 i hi with h1 | ⟨o, s, n, v, h1, h2, h3, h4, h5⟩
            · exact Or.inl h1
            · exact Or.inr ⟨o, s, n, v, h1, shO_ext shD_ext h2, h3, h4, fun j hj => by rw [u2 _ (by have := h2.2.2.2.1; omega)]; exact h5 j hj⟩
        · have old : ∀ i o, i < 4 → Y 0 i = some o → o < D.2.1 := by
            intro i o hi e
            rcases p8.1 i hi with h1 | ⟨o', s, n, v, h1, h2, h3⟩
            · rw [h1.1] at e; cases e
            · rw [h1] at e; cases e; have := h2.2.1; omega
          intro i j o hi hj hij
          rw [uE]
          by_cases e : i = k
          · subst e
            rw [uE, uN (Ne.symm hij)]
            intro z1 z2
            cases z1
            exact absurd (old j _ hj z2) (by omega)
          · by_cases e2 : j = k
            · subst e2
              rw [uE, uN hij]
              intro z1 z2
              cases z2
              exact absurd (old i _ hi z1) (by omega)
            · rw [uN e, uN e2]; exact p8.2 i j o hi hj hij
      · rcases hn with hn | hn
        · have n1 : (n0 ≤ (40 : Int32)) = True := ((bad_l hn).2.2 40 (by decide)).2.2.1
          have n2 : ((0 : Int32) ≤ n0) = False := (bad_l hn).2.1
          have hx : ∀ K, tA sc iX10_sheet 0 [vR (some 0), vI (nI k), vI (nI s), vI n0] [] (hX (hM D 45 F E M U) x G Y f g y b c cf cg tf tg) K = K (some (vI (-14))) (hX (hM D 45 F E M U) x G Y f g y b c cf cg tf tg) := by
            intro K
            simp (disch := first | omega | assumption | exact hX_cl | exact hX_0cl | exact hX_1cl | exact hX_Ccl | exact hX_Tcl) only [rX10_sheet_0, rX10_sheet_1, rX10_sheet_4, rX10_sheet_7, rX10_sheet_8, rX10_sheet_9, rX10_sheet_12, rX10_sheet_13, rX10_sheet_14, rX10_sheet_17, rX10_sheet_18, rX10_sheet_19, rX10_sheet_20, rX10_sheet_21, rX10_sheet_24, rX10_sheet_25, rX10_sheet_28, rX10_sheet_29, rX10_sheet_30, rX10_sheet_31, rX10_sheet_32, rX10_sheet_33, rX10_sheet_34, rX10_sheet_36, rX10_sheet_39, rX10_sheet_40, rX10_sheet_41, rX10_sheet_42, rX10_sheet_45, rX10_sheet_47, rX10_sheet_48, rX10_sheet_49, rX10_sheet_52, rX10_sheet_53, rX10_sheet_56, rX10_sheet_57, rX10_sheet_58, rX10_sheet_59, rX10_sheet_61, rX10_sheet_64, rX10_sheet_65, rX10_sheet_66, hX_cl, hX_g0, hX_g1, hX_g2, hX_g3, hX_g4, hX_g5, hX_g6, hX_g7, hX_g8, hX_g9, hX_g10, hX_p3, hX_p6, hX_r_rows, hX_w_rows, hX_r_shs, hX_w_shs, hX_r_sh, hX_n_sh, hX_r_ss, hX_n_ss, hX_0cl, hX_0g0, hX_0g1, hX_0g2, hX_0g3, hX_0g4, hX_0g5, hX_0g6, hX_0g7, hX_0g8, hX_0g9, hX_0g10, hX_0g11, hX_0g12, hX_0g13, hX_0g14, hX_0r0, hX_0w0, hX_0r1, hX_0w1, hX_0r2, hX_0w2, hX_0r3, hX_0w3, hX_0r4, hX_0w4, hX_0r5, hX_0w5, hX_0r9, hX_0w9, hX_0r11, hX_0w11, hX_0r12, hX_0w12, hX_0r13, hX_0w13, hX_0r8, hX_0p6, hX_0p7, hX_0p10, hX_0p14, hX_1cl, hX_1g0, hX_1g1, hX_1g2, hX_1g3, hX_1g4, hX_1g5, hX_1g6, hX_1g7, hX_1g8, hX_1g9, hX_1g10, hX_1g11, hX_1g12, hX_1g13, hX_1g14, hX_1r0, hX_1r1, hX_1r2, hX_1r3, hX_1r4, hX_1r5, hX_1r9, hX_1r11, hX_1r12, hX_1r13, hX_1r8, hX_Ccl, hX_Cg0, hX_Cg1, hX_Cp1, hX_Cg2, hX_Cp2, hX_Cg3, hX_Cp3, hX_Cg4, hX_Cp4, hX_Cg5, hX_Cp5, hX_Cr0, hX_Tcl, hX_Tg0, hX_Tg1, hX_Tp1, hX_Tg2, hX_Tp2, hX_Tr0, oz_some, tpu_some, tpu_none, tclr_I, tclr_R, tclr_U, tclr_L, if_true, if_false, i10, not_true_eq_false, not_false_eq_true, sX10_isSheet, x1, g1, g2, m6', n1, n2]
          have hm : ∀ h K, tA sc iX11_sheet 0 [vR (some 45), vI (nI k), vI (nI s), vI n0, vU] [] (hM h 45 F E M U) K = K (some (vI (-14))) (hM h 45 F E M U) := by
            intro h K
            simp (disch := first | omega | assumption | exact hM_cl) only [rX11_sheet_0, rX11_sheet_1, rX11_sheet_4, rX11_sheet_7, rX11_sheet_8, rX11_sheet_9, rX11_sheet_10, rX11_sheet_13, rX11_sheet_16, rX11_sheet_17, rX11_sheet_20, rX11_sheet_21, rX11_sheet_23, rX11_sheet_26, rX11_sheet_27, rX11_sheet_28, rX11_sheet_29, rX11_sheet_32, rX11_sheet_33, rX11_sheet_36, rX11_sheet_38, rX11_sheet_39, rX11_sheet_40, rX11_sheet_43, rX11_sheet_44, rX11_sheet_45, rX11_sheet_46, rX11_sheet_47, rX11_sheet_50, rX11_sheet_51, rX11_sheet_52, rX11_sheet_55, rX11_sheet_56, rX11_sheet_59, rX11_sheet_60, rX11_sheet_61, rX11_sheet_62, rX11_sheet_66, rX11_sheet_68, rX11_sheet_71, rX11_sheet_72, rX11_sheet_75, rX11_sheet_77, rX11_sheet_78, rX11_sheet_79, rX11_sheet_81, rX11_sheet_82, rX11_sheet_83, rX11_sheet_84, rX11_sheet_87, rX11_sheet_90, rX11_sheet_91, hM_cl, hM_g0, hM_g1, hM_g2, hM_g3, hM_g4, hM_g5, hM_g6, hM_g7, hM_g8, hM_g9, hM_g10, hM_g11, hM_g12, hM_g13, hM_g14, hM_g15, hM_g16, hM_g17, hM_g18, hM_g19, hM_g20, hM_g21, hM_g22, hM_g23, hM_g24, hM_g25, hM_g26, hM_g27, hM_g28, hM_g29, hM_g30, hM_g31, hM_g32, hM_g33, hM_g34, hM_g35, hM_g36, hM_g37, hM_g38, hM_g39, hM_g40, hM_g41, hM_g42, hM_g43, hM_g44, hM_g45, hM_g46, hM_g47, hM_g48, hM_g49, hM_g50, hM_g51, hM_g52, hM_r0, hM_w0, hM_r0_0, hM_w0_0, hM_r0_1, hM_w0_1, hM_r0_2, hM_w0_2, hM_r2, hM_w2, hM_r3, hM_w3, hM_r5, hM_w5, hM_r6, hM_w6, hM_r6_0, hM_w6_0, hM_r6_1, hM_w6_1, hM_r6_2, hM_w6_2, hM_r6_3, hM_w6_3, hM_r7, hM_w7, hM_r8, hM_w8, hM_r19, hM_w19, hM_r20, hM_w20, hM_r21, hM_w21, hM_r22, hM_w22, hM_r23, hM_w23, hM_r24, hM_w24, hM_r24_0, hM_w24_0, hM_r24_1, hM_w24_1, hM_r24_2, hM_w24_2, hM_r24_3, hM_w24_3, hM_r33, hM_w33, hM_r34, hM_w34, hM_r37, hM_w37, hM_r38, hM_w38, hM_w39, hM_r40, hM_w40, hM_r41, hM_w41, hM_r42, hM_w42, hM_r46, hM_w46, hM_r50, hM_w50, hM_r52, hM_w52, hM_r52_0, hM_w52_0, hM_p1, hM_p4, hM_p9, hM_p10, hM_p11, hM_p12, hM_p14, hM_p15, hM_p16, hM_p17, hM_p18, hM_p25, hM_p26, hM_p27, hM_p28, hM_p31, hM_p32, hM_p35, hM_p36, hM_p43, hM_p44, hM_p45, hM_p47, hM_p48, hM_p49, hM_p51, hM_p13, hM_p29, hM_p30, oz_some, tpu_some, tpu_none, tclr_I, tclr_R, tclr_U, tclr_L, if_true, if_false, i10, not_true_eq_false, not_false_eq_true, sX11_isShelf, y1, sX11_in, g3, m2, m5, n1, n2, hn]
          exact mkRO R0 hx hm rfl rfl rfl rfl rfl rfl
        · have n1 : (n0 ≤ (40 : Int32)) = False := (bad_r 40 hn (by decide)).2.1
          have hx : ∀ K, tA sc iX10_sheet 0 [vR (some 0), vI (nI k), vI (nI s), vI n0] [] (hX (hM D 45 F E M U) x G Y f g y b c cf cg tf tg) K = K (some (vI (-1))) (hX (hM D 45 F E M U) x G Y f g y b c cf cg tf tg) := by
            intro K
            simp (disch := first | omega | assumption | exact hX_cl | exact hX_0cl | exact hX_1cl | exact hX_Ccl | exact hX_Tcl) only [rX10_sheet_0, rX10_sheet_1, rX10_sheet_4, rX10_sheet_7, rX10_sheet_8, rX10_sheet_9, rX10_sheet_12, rX10_sheet_13, rX10_sheet_14, rX10_sheet_17, rX10_sheet_18, rX10_sheet_19, rX10_sheet_20, rX10_sheet_21, rX10_sheet_24, rX10_sheet_25, rX10_sheet_28, rX10_sheet_29, rX10_sheet_30, rX10_sheet_31, rX10_sheet_32, rX10_sheet_33, rX10_sheet_34, rX10_sheet_36, rX10_sheet_39, rX10_sheet_40, rX10_sheet_41, rX10_sheet_42, rX10_sheet_45, rX10_sheet_47, rX10_sheet_48, rX10_sheet_49, rX10_sheet_52, rX10_sheet_53, rX10_sheet_56, rX10_sheet_57, rX10_sheet_58, rX10_sheet_59, rX10_sheet_61, rX10_sheet_64, rX10_sheet_65, rX10_sheet_66, hX_cl, hX_g0, hX_g1, hX_g2, hX_g3, hX_g4, hX_g5, hX_g6, hX_g7, hX_g8, hX_g9, hX_g10, hX_p3, hX_p6, hX_r_rows, hX_w_rows, hX_r_shs, hX_w_shs, hX_r_sh, hX_n_sh, hX_r_ss, hX_n_ss, hX_0cl, hX_0g0, hX_0g1, hX_0g2, hX_0g3, hX_0g4, hX_0g5, hX_0g6, hX_0g7, hX_0g8, hX_0g9, hX_0g10, hX_0g11, hX_0g12, hX_0g13, hX_0g14, hX_0r0, hX_0w0, hX_0r1, hX_0w1, hX_0r2, hX_0w2, hX_0r3, hX_0w3, hX_0r4, hX_0w4, hX_0r5, hX_0w5, hX_0r9, hX_0w9, hX_0r11, hX_0w11, hX_0r12, hX_0w12, hX_0r13, hX_0w13, hX_0r8, hX_0p6, hX_0p7, hX_0p10, hX_0p14, hX_1cl, hX_1g0, hX_1g1, hX_1g2, hX_1g3, hX_1g4, hX_1g5, hX_1g6, hX_1g7, hX_1g8, hX_1g9, hX_1g10, hX_1g11, hX_1g12, hX_1g13, hX_1g14, hX_1r0, hX_1r1, hX_1r2, hX_1r3, hX_1r4, hX_1r5, hX_1r9, hX_1r11, hX_1r12, hX_1r13, hX_1r8, hX_Ccl, hX_Cg0, hX_Cg1, hX_Cp1, hX_Cg2, hX_Cp2, hX_Cg3, hX_Cp3, hX_Cg4, hX_Cp4, hX_Cg5, hX_Cp5, hX_Cr0, hX_Tcl, hX_Tg0, hX_Tg1, hX_Tp1, hX_Tg2, hX_Tp2, hX_Tr0, oz_some, tpu_some, tpu_none, tclr_I, tclr_R, tclr_U, tclr_L, if_true, if_false, i10, not_true_eq_false, not_false_eq_true, sX10_isSheet, x1, g1, g2, m6', n1]
          have hm : ∀ h K, tA sc iX11_sheet 0 [vR (some 45), vI (nI k), vI (nI s), vI n0, vU] [] (hM h 45 F E M U) K = K (some (vI (-1))) (hM h 45 F E M U) := by
            intro h K
            simp (disch := first | omega | assumption | exact hM_cl) only [rX11_sheet_0, rX11_sheet_1, rX11_sheet_4, rX11_sheet_7, rX11_sheet_8, rX11_sheet_9, rX11_sheet_10, rX11_sheet_13, rX11_sheet_16, rX11_sheet_17, rX11_sheet_20, rX11_sheet_21, rX11_sheet_23, rX11_sheet_26, rX11_sheet_27, rX11_sheet_28, rX11_sheet_29, rX11_sheet_32, rX11_sheet_33, rX11_sheet_36, rX11_sheet_38, rX11_sheet_39, rX11_sheet_40, rX11_sheet_43, rX11_sheet_44, rX11_sheet_45, rX11_sheet_46, rX11_sheet_47, rX11_sheet_50, rX11_sheet_51, rX11_sheet_52, rX11_sheet_55, rX11_sheet_56, rX11_sheet_59, rX11_sheet_60, rX11_sheet_61, rX11_sheet_62, rX11_sheet_66, rX11_sheet_68, rX11_sheet_71, rX11_sheet_72, rX11_sheet_75, rX11_sheet_77, rX11_sheet_78, rX11_sheet_79, rX11_sheet_81, rX11_sheet_82, rX11_sheet_83, rX11_sheet_84, rX11_sheet_87, rX11_sheet_90, rX11_sheet_91, hM_cl, hM_g0, hM_g1, hM_g2, hM_g3, hM_g4, hM_g5, hM_g6, hM_g7, hM_g8, hM_g9, hM_g10, hM_g11, hM_g12, hM_g13, hM_g14, hM_g15, hM_g16, hM_g17, hM_g18, hM_g19, hM_g20, hM_g21, hM_g22, hM_g23, hM_g24, hM_g25, hM_g26, hM_g27, hM_g28, hM_g29, hM_g30, hM_g31, hM_g32, hM_g33, hM_g34, hM_g35, hM_g36, hM_g37, hM_g38, hM_g39, hM_g40, hM_g41, hM_g42, hM_g43, hM_g44, hM_g45, hM_g46, hM_g47, hM_g48, hM_g49, hM_g50, hM_g51, hM_g52, hM_r0, hM_w0, hM_r0_0, hM_w0_0, hM_r0_1, hM_w0_1, hM_r0_2, hM_w0_2, hM_r2, hM_w2, hM_r3, hM_w3, hM_r5, hM_w5, hM_r6, hM_w6, hM_r6_0, hM_w6_0, hM_r6_1, hM_w6_1, hM_r6_2, hM_w6_2, hM_r6_3, hM_w6_3, hM_r7, hM_w7, hM_r8, hM_w8, hM_r19, hM_w19, hM_r20, hM_w20, hM_r21, hM_w21, hM_r22, hM_w22, hM_r23, hM_w23, hM_r24, hM_w24, hM_r24_0, hM_w24_0, hM_r24_1, hM_w24_1, hM_r24_2, hM_w24_2, hM_r24_3, hM_w24_3, hM_r33, hM_w33, hM_r34, hM_w34, hM_r37, hM_w37, hM_r38, hM_w38, hM_w39, hM_r40, hM_w40, hM_r41, hM_w41, hM_r42, hM_w42, hM_r46, hM_w46, hM_r50, hM_w50, hM_r52, hM_w52, hM_r52_0, hM_w52_0, hM_p1, hM_p4, hM_p9, hM_p10, hM_p11, hM_p12, hM_p14, hM_p15, hM_p16, hM_p17, hM_p18, hM_p25, hM_p26, hM_p27, hM_p28, hM_p31, hM_p32, hM_p35, hM_p36, hM_p43, hM_p44, hM_p45, hM_p47, hM_p48, hM_p49, hM_p51, hM_p13, hM_p29, hM_p30, oz_some, tpu_some, tpu_none, tclr_I, tclr_R, tclr_U, tclr_L, if_true, if_false, i10, not_true_eq_false, not_false_eq_true, sX11_isShelf, y1, sX11_in, g3, m2, m5, n1]
          exact mkRO R0 hx hm rfl rfl rfl rfl rfl rfl
    · have hx : ∀ K, tA sc iX10_sheet 0 [vR (some 0), vI (nI k), vI s0, vI n0] [] (hX (hM D 45 F E M U) x G Y f g y b c cf cg tf tg) K = K (some (vI (-1))) (hX (hM D 45 F E M U) x G Y f g y b c cf cg tf tg) := by
        intro K
        simp (disch := first | omega | assumption | exact hX_cl | exact hX_0cl | exact hX_1cl | exact hX_Ccl | exact hX_Tcl) only [rX10_sheet_0, rX10_sheet_1, rX10_sheet_4, rX10_sheet_7, rX10_sheet_8, rX10_sheet_9, rX10_sheet_12, rX10_sheet_13, rX10_sheet_14, rX10_sheet_17, rX10_sheet_18, rX10_sheet_19, rX10_sheet_20, rX10_sheet_21, rX10_sheet_24, rX10_sheet_25, rX10_sheet_28, rX10_sheet_29, rX10_sheet_30, rX10_sheet_31, rX10_sheet_32, rX10_sheet_33, rX10_sheet_34, rX10_sheet_36, rX10_sheet_39, rX10_sheet_40, rX10_sheet_41, rX10_sheet_42, rX10_sheet_45, rX10_sheet_47, rX10_sheet_48, rX10_sheet_49, rX10_sheet_52, rX10_sheet_53, rX10_sheet_56, rX10_sheet_57, rX10_sheet_58, rX10_sheet_59, rX10_sheet_61, rX10_sheet_64, rX10_sheet_65, rX10_sheet_66, hX_cl, hX_g0, hX_g1, hX_g2, hX_g3, hX_g4, hX_g5, hX_g6, hX_g7, hX_g8, hX_g9, hX_g10, hX_p3, hX_p6, hX_r_rows, hX_w_rows, hX_r_shs, hX_w_shs, hX_r_sh, hX_n_sh, hX_r_ss, hX_n_ss, hX_0cl, hX_0g0, hX_0g1, hX_0g2, hX_0g3, hX_0g4, hX_0g5, hX_0g6, hX_0g7, hX_0g8, hX_0g9, hX_0g10, hX_0g11, hX_0g12, hX_0g13, hX_0g14, hX_0r0, hX_0w0, hX_0r1, hX_0w1, hX_0r2, hX_0w2, hX_0r3, hX_0w3, hX_0r4, hX_0w4, hX_0r5, hX_0w5, hX_0r9, hX_0w9, hX_0r11, hX_0w11, hX_0r12, hX_0w12, hX_0r13, hX_0w13, hX_0r8, hX_0p6, hX_0p7, hX_0p10, hX_0p14, hX_1cl, hX_1g0, hX_1g1, hX_1g2, hX_1g3, hX_1g4, hX_1g5, hX_1g6, hX_1g7, hX_1g8, hX_1g9, hX_1g10, hX_1g11, hX_1g12, hX_1g13, hX_1g14, hX_1r0, hX_1r1, hX_1r2, hX_1r3, hX_1r4, hX_1r5, hX_1r9, hX_1r11, hX_1r12, hX_1r13, hX_1r8, hX_Ccl, hX_Cg0, hX_Cg1, hX_Cp1, hX_Cg2, hX_Cp2, hX_Cg3, hX_Cp3, hX_Cg4, hX_Cp4, hX_Cg5, hX_Cp5, hX_Cr0, hX_Tcl, hX_Tg0, hX_Tg1, hX_Tp1, hX_Tg2, hX_Tp2, hX_Tr0, oz_some, tpu_some, tpu_none, tclr_I, tclr_R, tclr_U, tclr_L, if_true, if_false, i10, not_true_eq_false, not_false_eq_true, sX10_isSheet, x1, z1]
      have hm : ∀ h K, tA sc iX11_sheet 0 [vR (some 45), vI (nI k), vI s0, vI n0, vU] [] (hM h 45 F E M U) K = K (some (vI (-1))) (hM h 45 F E M U) := by
        intro h K
        simp (disch := first | omega | assumption | exact hM_cl) only [rX11_sheet_0, rX11_sheet_1, rX11_sheet_4, rX11_sheet_7, rX11_sheet_8, rX11_sheet_9, rX11_sheet_10, rX11_sheet_13, rX11_sheet_16, rX11_sheet_17, rX11_sheet_20, rX11_sheet_21, rX11_sheet_23, rX11_sheet_26, rX11_sheet_27, rX11_sheet_28, rX11_sheet_29, rX11_sheet_32, rX11_sheet_33, rX11_sheet_36, rX11_sheet_38, rX11_sheet_39, rX11_sheet_40, rX11_sheet_43, rX11_sheet_44, rX11_sheet_45, rX11_sheet_46, rX11_sheet_47, rX11_sheet_50, rX11_sheet_51, rX11_sheet_52, rX11_sheet_55, rX11_sheet_56, rX11_sheet_59, rX11_sheet_60, rX11_sheet_61, rX11_sheet_62, rX11_sheet_66, rX11_sheet_68, rX11_sheet_71, rX11_sheet_72, rX11_sheet_75, rX11_sheet_77, rX11_sheet_78, rX11_sheet_79, rX11_sheet_81, rX11_sheet_82, rX11_sheet_83, rX11_sheet_84, rX11_sheet_87, rX11_sheet_90, rX11_sheet_91, hM_cl, hM_g0, hM_g1, hM_g2, hM_g3, hM_g4, hM_g5, hM_g6, hM_g7, hM_g8, hM_g9, hM_g10, hM_g11, hM_g12, hM_g13, hM_g14, hM_g15, hM_g16, hM_g17, hM_g18, hM_g19, hM_g20, hM_g21, hM_g22, hM_g23, hM_g24, hM_g25, hM_g26, hM_g27, hM_g28, hM_g29, hM_g30, hM_g31, hM_g32, hM_g33, hM_g34, hM_g35, hM_g36, hM_g37, hM_g38, hM_g39, hM_g40, hM_g41, hM_g42, hM_g43, hM_g44, hM_g45, hM_g46, hM_g47, hM_g48, hM_g49, hM_g50, hM_g51, hM_g52, hM_r0, hM_w0, hM_r0_0, hM_w0_0, hM_r0_1, hM_w0_1, hM_r0_2, hM_w0_2, hM_r2, hM_w2, hM_r3, hM_w3, hM_r5, hM_w5, hM_r6, hM_w6, hM_r6_0, hM_w6_0, hM_r6_1, hM_w6_1, hM_r6_2, hM_w6_2, hM_r6_3, hM_w6_3, hM_r7, hM_w7, hM_r8, hM_w8, hM_r19, hM_w19, hM_r20, hM_w20, hM_r21, hM_w21, hM_r22, hM_w22, hM_r23, hM_w23, hM_r24, hM_w24, hM_r24_0, hM_w24_0, hM_r24_1, hM_w24_1, hM_r24_2, hM_w24_2, hM_r24_3, hM_w24_3, hM_r33, hM_w33, hM_r34, hM_w34, hM_r37, hM_w37, hM_r38, hM_w38, hM_w39, hM_r40, hM_w40, hM_r41, hM_w41, hM_r42, hM_w42, hM_r46, hM_w46, hM_r50, hM_w50, hM_r52, hM_w52, hM_r52_0, hM_w52_0, hM_p1, hM_p4, hM_p9, hM_p10, hM_p11, hM_p12, hM_p14, hM_p15, hM_p16, hM_p17, hM_p18, hM_p25, hM_p26, hM_p27, hM_p28, hM_p31, hM_p32, hM_p35, hM_p36, hM_p43, hM_p44, hM_p45, hM_p47, hM_p48, hM_p49, hM_p51, hM_p13, hM_p29, hM_p30, oz_some, tpu_some, tpu_none, tclr_I, tclr_R, tclr_U, tclr_L, if_true, if_false, i10, not_true_eq_false, not_false_eq_true, sX11_isShelf, y1, sX11_in, z2]
      exact mkRO R0 hx hm rfl rfl rfl rfl rfl rfl
    · have hx : ∀ K, tA sc iX10_sheet 0 [vR (some 0), vI (nI k), vI s0, vI n0] [] (hX (hM D 45 F E M U) x G Y f g y b c cf cg tf tg) K = K (some (vI (-1))) (hX (hM D 45 F E M U) x G Y f g y b c cf cg tf tg) := by
        intro K
        simp (disch := first | omega | assumption | exact hX_cl | exact hX_0cl | exact hX_1cl | exact hX_Ccl | exact hX_Tcl) only [rX10_sheet_0, rX10_sheet_1, rX10_sheet_4, rX10_sheet_7, rX10_sheet_8, rX10_sheet_9, rX10_sheet_12, rX10_sheet_13, rX10_sheet_14, rX10_sheet_17, rX10_sheet_18, rX10_sheet_19, rX10_sheet_20, rX10_sheet_21, rX10_sheet_24, rX10_sheet_25, rX10_sheet_28, rX10_sheet_29, rX10_sheet_30, rX10_sheet_31, rX10_sheet_32, rX10_sheet_33, rX10_sheet_34, rX10_sheet_36, rX10_sheet_39, rX10_sheet_40, rX10_sheet_41, rX10_sheet_42, rX10_sheet_45, rX10_sheet_47, rX10_sheet_48, rX10_sheet_49, rX10_sheet_52, rX10_sheet_53, rX10_sheet_56, rX10_sheet_57, rX10_sheet_58, rX10_sheet_59, rX10_sheet_61, rX10_sheet_64, rX10_sheet_65, rX10_sheet_66, hX_cl, hX_g0, hX_g1, hX_g2, hX_g3, hX_g4, hX_g5, hX_g6, hX_g7, hX_g8, hX_g9, hX_g10, hX_p3, hX_p6, hX_r_rows, hX_w_rows, hX_r_shs, hX_w_shs, hX_r_sh, hX_n_sh, hX_r_ss, hX_n_ss, hX_0cl, hX_0g0, hX_0g1, hX_0g2, hX_0g3, hX_0g4, hX_0g5, hX_0g6, hX_0g7, hX_0g8, hX_0g9, hX_0g10, hX_0g11, hX_0g12, hX_0g13, hX_0g14, hX_0r0, hX_0w0, hX_0r1, hX_0w1, hX_0r2, hX_0w2, hX_0r3, hX_0w3, hX_0r4, hX_0w4, hX_0r5, hX_0w5, hX_0r9, hX_0w9, hX_0r11, hX_0w11, hX_0r12, hX_0w12, hX_0r13, hX_0w13, hX_0r8, hX_0p6, hX_0p7, hX_0p10, hX_0p14, hX_1cl, hX_1g0, hX_1g1, hX_1g2, hX_1g3, hX_1g4, hX_1g5, hX_1g6, hX_1g7, hX_1g8, hX_1g9, hX_1g10, hX_1g11, hX_1g12, hX_1g13, hX_1g14, hX_1r0, hX_1r1, hX_1r2, hX_1r3, hX_1r4, hX_1r5, hX_1r9, hX_1r11, hX_1r12, hX_1r13, hX_1r8, hX_Ccl, hX_Cg0, hX_Cg1, hX_Cp1, hX_Cg2, hX_Cp2, hX_Cg3, hX_Cp3, hX_Cg4, hX_Cp4, hX_Cg5, hX_Cp5, hX_Cr0, hX_Tcl, hX_Tg0, hX_Tg1, hX_Tp1, hX_Tg2, hX_Tp2, hX_Tr0, oz_some, tpu_some, tpu_none, tclr_I, tclr_R, tclr_U, tclr_L, if_true, if_false, i10, not_true_eq_false, not_false_eq_true, sX10_isSheet, x1, z1, z2]
      have hm : ∀ h K, tA sc iX11_sheet 0 [vR (some 45), vI (nI k), vI s0, vI n0, vU] [] (hM h 45 F E M U) K = K (some (vI (-1))) (hM h 45 F E M U) := by
        intro h K
        simp (disch := first | omega | assumption | exact hM_cl) only [rX11_sheet_0, rX11_sheet_1, rX11_sheet_4, rX11_sheet_7, rX11_sheet_8, rX11_sheet_9, rX11_sheet_10, rX11_sheet_13, rX11_sheet_16, rX11_sheet_17, rX11_sheet_20, rX11_sheet_21, rX11_sheet_23, rX11_sheet_26, rX11_sheet_27, rX11_sheet_28, rX11_sheet_29, rX11_sheet_32, rX11_sheet_33, rX11_sheet_36, rX11_sheet_38, rX11_sheet_39, rX11_sheet_40, rX11_sheet_43, rX11_sheet_44, rX11_sheet_45, rX11_sheet_46, rX11_sheet_47, rX11_sheet_50, rX11_sheet_51, rX11_sheet_52, rX11_sheet_55, rX11_sheet_56, rX11_sheet_59, rX11_sheet_60, rX11_sheet_61, rX11_sheet_62, rX11_sheet_66, rX11_sheet_68, rX11_sheet_71, rX11_sheet_72, rX11_sheet_75, rX11_sheet_77, rX11_sheet_78, rX11_sheet_79, rX11_sheet_81, rX11_sheet_82, rX11_sheet_83, rX11_sheet_84, rX11_sheet_87, rX11_sheet_90, rX11_sheet_91, hM_cl, hM_g0, hM_g1, hM_g2, hM_g3, hM_g4, hM_g5, hM_g6, hM_g7, hM_g8, hM_g9, hM_g10, hM_g11, hM_g12, hM_g13, hM_g14, hM_g15, hM_g16, hM_g17, hM_g18, hM_g19, hM_g20, hM_g21, hM_g22, hM_g23, hM_g24, hM_g25, hM_g26, hM_g27, hM_g28, hM_g29, hM_g30, hM_g31, hM_g32, hM_g33, hM_g34, hM_g35, hM_g36, hM_g37, hM_g38, hM_g39, hM_g40, hM_g41, hM_g42, hM_g43, hM_g44, hM_g45, hM_g46, hM_g47, hM_g48, hM_g49, hM_g50, hM_g51, hM_g52, hM_r0, hM_w0, hM_r0_0, hM_w0_0, hM_r0_1, hM_w0_1, hM_r0_2, hM_w0_2, hM_r2, hM_w2, hM_r3, hM_w3, hM_r5, hM_w5, hM_r6, hM_w6, hM_r6_0, hM_w6_0, hM_r6_1, hM_w6_1, hM_r6_2, hM_w6_2, hM_r6_3, hM_w6_3, hM_r7, hM_w7, hM_r8, hM_w8, hM_r19, hM_w19, hM_r20, hM_w20, hM_r21, hM_w21, hM_r22, hM_w22, hM_r23, hM_w23, hM_r24, hM_w24, hM_r24_0, hM_w24_0, hM_r24_1, hM_w24_1, hM_r24_2, hM_w24_2, hM_r24_3, hM_w24_3, hM_r33, hM_w33, hM_r34, hM_w34, hM_r37, hM_w37, hM_r38, hM_w38, hM_w39, hM_r40, hM_w40, hM_r41, hM_w41, hM_r42, hM_w42, hM_r46, hM_w46, hM_r50, hM_w50, hM_r52, hM_w52, hM_r52_0, hM_w52_0, hM_p1, hM_p4, hM_p9, hM_p10, hM_p11, hM_p12, hM_p14, hM_p15, hM_p16, hM_p17, hM_p18, hM_p25, hM_p26, hM_p27, hM_p28, hM_p31, hM_p32, hM_p35, hM_p36, hM_p43, hM_p44, hM_p45, hM_p47, hM_p48, hM_p49, hM_p51, hM_p13, hM_p29, hM_p30, oz_some, tpu_some, tpu_none, tclr_I, tclr_R, tclr_U, tclr_L, if_true, if_false, i10, not_true_eq_false, not_false_eq_true, sX11_isShelf, y1, sX11_in, z3]
      exact mkRO R0 hx hm rfl rfl rfl rfl rfl rfl
  · have x1 : inB k0 4 = 0 := inB_f (n := 4) hk
    have y1 : inI k0 0 3 = 0 := inI_f (n := 3) (by decide) hk
    have hx : ∀ K, tA sc iX10_sheet 0 [vR (some 0), vI k0, vI s0, vI n0] [] (hX (hM D 45 F E M U) x G Y f g y b c cf cg tf tg) K = K (some (vI (-1))) (hX (hM D 45 F E M U) x G Y f g y b c cf cg tf tg) := by
      intro K
      simp (disch := first | omega | assumption | exact hX_cl | exact hX_0cl | exact hX_1cl | exact hX_Ccl | exact hX_Tcl) only [rX10_sheet_0, rX10_sheet_1, rX10_sheet_4, rX10_sheet_7, rX10_sheet_8, rX10_sheet_9, rX10_sheet_12, rX10_sheet_13, rX10_sheet_14, rX10_sheet_17, rX10_sheet_18, rX10_sheet_19, rX10_sheet_20, rX10_sheet_21, rX10_sheet_24, rX10_sheet_25, rX10_sheet_28, rX10_sheet_29, rX10_sheet_30, rX10_sheet_31, rX10_sheet_32, rX10_sheet_33, rX10_sheet_34, rX10_sheet_36, rX10_sheet_39, rX10_sheet_40, rX10_sheet_41, rX10_sheet_42, rX10_sheet_45, rX10_sheet_47, rX10_sheet_48, rX10_sheet_49, rX10_sheet_52, rX10_sheet_53, rX10_sheet_56, rX10_sheet_57, rX10_sheet_58, rX10_sheet_59, rX10_sheet_61, rX10_sheet_64, rX10_sheet_65, rX10_sheet_66, hX_cl, hX_g0, hX_g1, hX_g2, hX_g3, hX_g4, hX_g5, hX_g6, hX_g7, hX_g8, hX_g9, hX_g10, hX_p3, hX_p6, hX_r_rows, hX_w_rows, hX_r_shs, hX_w_shs, hX_r_sh, hX_n_sh, hX_r_ss, hX_n_ss, hX_0cl, hX_0g0, hX_0g1, hX_0g2, hX_0g3, hX_0g4, hX_0g5, hX_0g6, hX_0g7, hX_0g8, hX_0g9, hX_0g10, hX_0g11, hX_0g12, hX_0g13, hX_0g14, hX_0r0, hX_0w0, hX_0r1, hX_0w1, hX_0r2, hX_0w2, hX_0r3, hX_0w3, hX_0r4, hX_0w4, hX_0r5, hX_0w5, hX_0r9, hX_0w9, hX_0r11, hX_0w11, hX_0r12, hX_0w12, hX_0r13, hX_0w13, hX_0r8, hX_0p6, hX_0p7, hX_0p10, hX_0p14, hX_1cl, hX_1g0, hX_1g1, hX_1g2, hX_1g3, hX_1g4, hX_1g5, hX_1g6, hX_1g7, hX_1g8, hX_1g9, hX_1g10, hX_1g11, hX_1g12, hX_1g13, hX_1g14, hX_1r0, hX_1r1, hX_1r2, hX_1r3, hX_1r4, hX_1r5, hX_1r9, hX_1r11, hX_1r12, hX_1r13, hX_1r8, hX_Ccl, hX_Cg0, hX_Cg1, hX_Cp1, hX_Cg2, hX_Cp2, hX_Cg3, hX_Cp3, hX_Cg4, hX_Cp4, hX_Cg5, hX_Cp5, hX_Cr0, hX_Tcl, hX_Tg0, hX_Tg1, hX_Tp1, hX_Tg2, hX_Tp2, hX_Tr0, oz_some, tpu_some, tpu_none, tclr_I, tclr_R, tclr_U, tclr_L, if_true, if_false, i10, not_true_eq_false, not_false_eq_true, sX10_isSheet, x1]
    have hm : ∀ h K, tA sc iX11_sheet 0 [vR (some 45), vI k0, vI s0, vI n0, vU] [] (hM h 45 F E M U) K = K (some (vI (-1))) (hM h 45 F E M U) := by
      intro h K
      simp (disch := first | omega | assumption | exact hM_cl) only [rX11_sheet_0, rX11_sheet_1, rX11_sheet_4, rX11_sheet_7, rX11_sheet_8, rX11_sheet_9, rX11_sheet_10, rX11_sheet_13, rX11_sheet_16, rX11_sheet_17, rX11_sheet_20, rX11_sheet_21, rX11_sheet_23, rX11_sheet_26, rX11_sheet_27, rX11_sheet_28, rX11_sheet_29, rX11_sheet_32, rX11_sheet_33, rX11_sheet_36, rX11_sheet_38, rX11_sheet_39, rX11_sheet_40, rX11_sheet_43, rX11_sheet_44, rX11_sheet_45, rX11_sheet_46, rX11_sheet_47, rX11_sheet_50, rX11_sheet_51, rX11_sheet_52, rX11_sheet_55, rX11_sheet_56, rX11_sheet_59, rX11_sheet_60, rX11_sheet_61, rX11_sheet_62, rX11_sheet_66, rX11_sheet_68, rX11_sheet_71, rX11_sheet_72, rX11_sheet_75, rX11_sheet_77, rX11_sheet_78, rX11_sheet_79, rX11_sheet_81, rX11_sheet_82, rX11_sheet_83, rX11_sheet_84, rX11_sheet_87, rX11_sheet_90, rX11_sheet_91, hM_cl, hM_g0, hM_g1, hM_g2, hM_g3, hM_g4, hM_g5, hM_g6, hM_g7, hM_g8, hM_g9, hM_g10, hM_g11, hM_g12, hM_g13, hM_g14, hM_g15, hM_g16, hM_g17, hM_g18, hM_g19, hM_g20, hM_g21, hM_g22, hM_g23, hM_g24, hM_g25, hM_g26, hM_g27, hM_g28, hM_g29, hM_g30, hM_g31, hM_g32, hM_g33, hM_g34, hM_g35, hM_g36, hM_g37, hM_g38, hM_g39, hM_g40, hM_g41, hM_g42, hM_g43, hM_g44, hM_g45, hM_g46, hM_g47, hM_g48, hM_g49, hM_g50, hM_g51, hM_g52, hM_r0, hM_w0, hM_r0_0, hM_w0_0, hM_r0_1, hM_w0_1, hM_r0_2, hM_w0_2, hM_r2, hM_w2, hM_r3, hM_w3, hM_r5, hM_w5, hM_r6, hM_w6, hM_r6_0, hM_w6_0, hM_r6_1, hM_w6_1, hM_r6_2, hM_w6_2, hM_r6_3, hM_w6_3, hM_r7, hM_w7, hM_r8, hM_w8, hM_r19, hM_w19, hM_r20, hM_w20, hM_r21, hM_w21, hM_r22, hM_w22, hM_r23, hM_w23, hM_r24, hM_w24, hM_r24_0, hM_w24_0, hM_r24_1, hM_w24_1, hM_r24_2, hM_w24_2, hM_r24_3, hM_w24_3, hM_r33, hM_w33, hM_r34, hM_w34, hM_r37, hM_w37, hM_r38, hM_w38, hM_w39, hM_r40, hM_w40, hM_r41, hM_w41, hM_r42, hM_w42, hM_r46, hM_w46, hM_r50, hM_w50, hM_r52, hM_w52, hM_r52_0, hM_w52_0, hM_p1, hM_p4, hM_p9, hM_p10, hM_p11, hM_p12, hM_p14, hM_p15, hM_p16, hM_p17, hM_p18, hM_p25, hM_p26, hM_p27, hM_p28, hM_p31, hM_p32, hM_p35, hM_p36, hM_p43, hM_p44, hM_p45, hM_p47, hM_p48, hM_p49, hM_p51, hM_p13, hM_p29, hM_p30, oz_some, tpu_some, tpu_none, tclr_I, tclr_R, tclr_U, tclr_L, if_true, if_false, i10, not_true_eq_false, not_false_eq_true, sX11_isShelf, y1]
    exact mkRO R0 hx hm rfl rfl rfl rfl rfl rfl
/-- where a sheet's row is written over, all else stays -/
theorem put_okS (hO : shO D o s n w) {o' kd i a : Nat} {w' : Nat → Int64} (h : okS D o' kd i a) : okS (tset D (o + 1) (.inl (2, n, .inr (.inl w')))) o' kd i a := by
  obtain ⟨h1, h2, h3⟩ := h
  refine ⟨h1, h2, ?_⟩
  have hne : o' ≠ o + 1 := by
    rintro rfl
    obtain ⟨-, -, -, fs, h4, -⟩ := h3
    rw [hO.2.2.2.2.2] at h4
    cases h4
  unfold isS at h3 ⊢
  rw [show (tset D (o + 1) (.inl (2, n, .inr (.inl w')))).1 o' = D.1 o' from uN hne]
  exact h3
theorem put_rW (hO : shO D o s n w) {w' : Nat → Int64} {v : Int32} (hw : rW D f g y v M) : rW (tset D (o + 1) (.inl (2, n, .inr (.inl w')))) f g y v M := by
  obtain ⟨t, n, cs, t20, n5, w6, m6, w7, w10, s4, w14, hT, hD, hS⟩ := hw
  refine ⟨t, n, cs, t20, n5, w6, m6, w7, w10, s4, w14, hT, hD, fun i hi => ?_⟩
  obtain ⟨o, kd, a, h1, h2, h3⟩ := hS i hi
  exact ⟨o, kd, a, h1, put_okS hO h2, h3⟩
theorem put_rY (hO : shO D o s n w) {w' : Nat → Int64} (hy : rY D y) : rY (tset D (o + 1) (.inl (2, n, .inr (.inl w')))) y := by
  intro i hi
  rcases hy i hi with h | ⟨o, kd, nu, a, h1, h2⟩
  · exact Or.inl h
  · exact Or.inr ⟨o, kd, nu, a, h1, put_okS hO h2⟩
theorem put_shO (hO : shO D o s n w) {o' s' n' : Nat} {w' v' : Nat → Int64} (h : shO D o' s' n' v') (hne : o' ≠ o) : shO (tset D (o + 1) (.inl (2, n, .inr (.inl w')))) o' s' n' v' := by
  obtain ⟨h1, h2, h3, h4, ⟨fs, h5, h6⟩, h7⟩ := h
  have hne2 : o' ≠ o + 1 := by
    rintro rfl
    rw [hO.2.2.2.2.2] at h5
    cases h5
  exact ⟨h1, h2, h3, h4, ⟨fs, by rw [show (tset D (o + 1) (.inl (2, n, .inr (.inl w')))).1 o' = D.1 o' from uN hne2]; exact h5, h6⟩, by rw [show (tset D (o + 1) (.inl (2, n, .inr (.inl w')))).1 (o' + 1) = D.1 (o' + 1) from uN (by omega)]; exact h7⟩
theorem put_same (hO : shO D o s n w) {w' : Nat → Int64} : shO (tset D (o + 1) (.inl (2, n, .inr (.inl w')))) o s n w' := by
  obtain ⟨h1, h2, h3, h4, ⟨fs, h5, h6⟩, h7⟩ := hO
  exact ⟨h1, h2, h3, h4, ⟨fs, by rw [show (tset D (o + 1) (.inl (2, n, .inr (.inl w')))).1 o = D.1 o from uN (by omega)]; exact h5, h6⟩, uE _ _ _⟩
theorem shO_one {o s n s' n' : Nat} {w w' : Nat → Int64} (h1 : shO D o s n w) (h2 : shO D o s' n' w') : s = s' ∧ n = n' := by
  obtain ⟨-, -, a1, a2, ⟨fs, a3, a4, -⟩, a5⟩ := h1
  obtain ⟨-, -, b1, b2, ⟨fs', b3, b4, -⟩, b5⟩ := h2
  rw [a3] at b3
  cases b3
  rw [a4] at b4
  have e : nI s = nI s' := by injection b4
  rw [a5] at b5
  cases b5
  exact ⟨(nI_eq (by omega) (by omega)).mp e, rfl⟩
def narr (s : Nat) (v : Int32) : Int32 := if s = 0 then v.toInt8.toInt32 else if s = 1 then v.toInt16.toInt32 else v
theorem x_narrowed (hO : shO D o s n w) {v : Int32} : tA sc iX5_narrowed 0 [vR (some o), vI v] [] (hX (hM D 45 F E M U) x G Y f g y b c cf cg tf tg) K = K (some (vL (narr s v).toInt64)) (hX (hM D 45 F E M U) x G Y f g y b c cf cg tf tg) := by
  have h4 := hO.2.2.1
  have e0 := sh_g0 (F := F) (E := E) (M := M) (U := U) (x := x) (G := G) (Y := Y) (f := f) (g := g) (y := y) (b := b) (c := c) (cf := cf) (cg := cg) (tf := tf) (tg := tg) hO
  rcases (show s = 0 ∨ s = 1 ∨ s = 2 ∨ s = 3 by omega) with rfl | rfl | rfl | rfl
  · have n0 : (nI 0 = (0 : Int32)) = True := by decide
    simp only [rX5_narrowed_0, rX5_narrowed_1, rX5_narrowed_4, rX5_narrowed_32, rX5_narrowed_33, rX5_narrowed_34, rX5_narrowed_35, rX5_narrowed_36, rX5_narrowed_37, rX5_narrowed_38, rX5_narrowed_39, rX5_narrowed_40, rX5_narrowed_41, rX5_narrowed_42, e0, oz_some, n0, if_true]
    rfl
  · have n0 : (nI 1 = (0 : Int32)) = False := by decide
    have n1 : (nI 1 = (1 : Int32)) = True := by decide
    simp only [rX5_narrowed_0, rX5_narrowed_1, rX5_narrowed_4, rX5_narrowed_32, rX5_narrowed_33, rX5_narrowed_34, rX5_narrowed_35, rX5_narrowed_36, rX5_narrowed_37, rX5_narrowed_38, rX5_narrowed_39, rX5_narrowed_40, rX5_narrowed_41, rX5_narrowed_42, e0, oz_some, n0, n1, if_true, if_false]
    rfl
  · have n0 : (nI 2 = (0 : Int32)) = False := by decide
    have n1 : (nI 2 = (1 : Int32)) = False := by decide
    simp only [rX5_narrowed_0, rX5_narrowed_1, rX5_narrowed_4, rX5_narrowed_32, rX5_narrowed_33, rX5_narrowed_34, rX5_narrowed_35, rX5_narrowed_36, rX5_narrowed_37, rX5_narrowed_38, rX5_narrowed_39, rX5_narrowed_40, rX5_narrowed_41, rX5_narrowed_42, e0, oz_some, n0, n1, if_true, if_false]
    rfl
  · have n0 : (nI 3 = (0 : Int32)) = False := by decide
    have n1 : (nI 3 = (1 : Int32)) = False := by decide
    simp only [rX5_narrowed_0, rX5_narrowed_1, rX5_narrowed_4, rX5_narrowed_32, rX5_narrowed_33, rX5_narrowed_34, rX5_narrowed_35, rX5_narrowed_36, rX5_narrowed_37, rX5_narrowed_38, rX5_narrowed_39, rX5_narrowed_40, rX5_narrowed_41, rX5_narrowed_42, e0, oz_some, n0, n1, if_true, if_false]
    rfl
end S98a
