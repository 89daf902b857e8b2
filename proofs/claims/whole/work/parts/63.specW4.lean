/-! WHAT THE METHODS OF World DO, 4: mornings, sayings, the best place -/
theorem uE {α : Type} (f : Nat → α) (k : Nat) (v : α) : va_up f k v k = v := if_pos rfl
theorem uN {α : Type} {f : Nat → α} {k j : Nat} {v : α} (h : j ≠ k) : va_up f k v j = f j := if_neg h
theorem uS {α : Type} (f : Nat → α) (k : Nat) : va_up f k (f k) = f := by
  funext j
  unfold va_up
  by_cases e : j = k
  · rw [if_pos e, e]
  · rw [if_neg e]
theorem uU {α : Type} (f : Nat → α) (k : Nat) (v v' : α) : va_up (va_up f k v) k v' = va_up f k v' := by
  funext j
  unfold va_up
  by_cases e : j = k
  · rw [if_pos e, if_pos e]
  · rw [if_neg e, if_neg e, if_neg e]
theorem pE (f : Nat → Int32) (k : Nat) (v : Int32) : upd f k v k = v := if_pos rfl
theorem pN {f : Nat → Int32} {k j : Nat} {v : Int32} (h : j ≠ k) : upd f k v j = f j := if_neg h
theorem nI_m1 (n : Nat) : nI (n + 1) + (-1) = nI n := by
  rw [← nI_1]
  rw [Int32.add_assoc]
  rw [show (1 : Int32) + -1 = 0 by decide, Int32.add_zero]
theorem nI_s1 (n : Nat) : nI (n + 1) - 1 = nI n := by
  rw [← nI_1, Int32.add_sub_cancel]
theorem nI_d4 : ∀ i, i < 80 → nI i / 4 = nI (i / 4) := by decide +kernel
theorem nI_r4 : ∀ i, i < 80 → nI i - nI (i / 4) * 4 = nI (i % 4) := by decide +kernel
theorem nI_lt1 : ∀ t, t < 21 → (nI t + (-1) < nI t) = True := by decide +kernel
section S23
variable {sc : Nat × (Nat → Int32)} {h : TH} {w d k c t j : Nat} {f : Nat → Int32} {g : Nat → Nat → Int32} {y : Nat → Option Nat} {s x : Int32} {K : Option TV → TH → Prop}
def waddG (g : Nat → Nat → Int32) (c : Nat) (s : Int32) (d : Nat) (x : Int32) : Nat → Nat → Int32 := va_up (va_up (va_up (va_up g 11 (upd (g 11) c s)) 12 (upd (g 12) c (nI d))) 13 (upd (g 13) c x)) 4 (upd (g 4) d (g 4 d ||| (1 <<< (x &&& 31))))
theorem sX9_addSaying (hc : f 14 = nI c) (h4 : c < 40) (hd : d < 20) : tA sc iX9_addSaying 0 [vR (some w), vI s, vI (nI d), vI x, vU] [] (hW h w f g y) K = K (some (vI (nI c))) (hW h w (upd f 14 (nI (c + 1))) (waddG g c s d x) y) := by
  simp (disch := first | omega | exact hW_cl) only [rX9_addSaying_0, rX9_addSaying_1, rX9_addSaying_4, rX9_addSaying_6, rX9_addSaying_7, rX9_addSaying_10, rX9_addSaying_12, rX9_addSaying_13, rX9_addSaying_14, rX9_addSaying_15, rX9_addSaying_18, rX9_addSaying_20, rX9_addSaying_21, rX9_addSaying_22, rX9_addSaying_23, rX9_addSaying_26, rX9_addSaying_28, rX9_addSaying_29, rX9_addSaying_30, rX9_addSaying_31, rX9_addSaying_34, rX9_addSaying_35, rX9_addSaying_36, rX9_addSaying_37, rX9_addSaying_38, rX9_addSaying_39, rX9_addSaying_40, rX9_addSaying_41, rX9_addSaying_42, rX9_addSaying_43, rX9_addSaying_44, rX9_addSaying_47, rX9_addSaying_48, rX9_addSaying_49, rX9_addSaying_52, rX9_addSaying_54, hW_cl, hW_g0, hW_g1, hW_g2, hW_g3, hW_g4, hW_g5, hW_g6, hW_g7, hW_g8, hW_g9, hW_g10, hW_g11, hW_g12, hW_g13, hW_g14, hW_r0, hW_r1, hW_r2, hW_r3, hW_r4, hW_r5, hW_r8, hW_r9, hW_r11, hW_r12, hW_r13, hW_w0, hW_w1, hW_w2, hW_w3, hW_w4, hW_w5, hW_w9, hW_w11, hW_w12, hW_w13, hW_p6, hW_p7, hW_p10, hW_p14, hW_l0, hW_l1, hW_l2, hW_l3, oz_some, tclr_I, tclr_R, tclr_U, tclr_L, tpu_some, tpu_none, nI4, nI4', nI_add, i01, i12, i23, i34, reduceIte, hc, uN, nI_1]
  rfl
def wsellG (g : Nat → Nat → Int32) (c s d : Nat) (x : Int32) : Nat → Nat → Int32 := waddG (va_up g 9 (upd (g 9) s (g 9 s - g 5 2))) c (nI s) d x
theorem sX9_sellSaying (hc : f 14 = nI c) (h4 : c < 40) (hd : d < 20) (hk : k < 5) : tA sc iX9_sellSaying 0 [vR (some w), vI (nI k), vI (nI d), vI x] [] (hW h w f g y) K = K (some (vI (nI c))) (hW h w (upd f 14 (nI (c + 1))) (wsellG g c k d x) y) := by
  have e := fun (K : Option TV → TH → Prop) => sX9_addSaying (sc := sc) (h := h) (w := w) (g := va_up g 9 (upd (g 9) k (g 9 k - g 5 2))) (y := y) (s := nI k) (x := x) (K := K) hc h4 hd
  simp (disch := first | omega | exact hW_cl) only [rX9_sellSaying_0, rX9_sellSaying_1, rX9_sellSaying_4, rX9_sellSaying_5, rX9_sellSaying_6, rX9_sellSaying_7, rX9_sellSaying_8, rX9_sellSaying_11, rX9_sellSaying_12, rX9_sellSaying_13, rX9_sellSaying_14, rX9_sellSaying_15, rX9_sellSaying_16, rX9_sellSaying_17, rX9_sellSaying_18, rX9_sellSaying_19, rX9_sellSaying_22, hW_cl, hW_g0, hW_g1, hW_g2, hW_g3, hW_g4, hW_g5, hW_g6, hW_g7, hW_g8, hW_g9, hW_g10, hW_g11, hW_g12, hW_g13, hW_g14, hW_r0, hW_r1, hW_r2, hW_r3, hW_r4, hW_r5, hW_r8, hW_r9, hW_r11, hW_r12, hW_r13, hW_w0, hW_w1, hW_w2, hW_w3, hW_w4, hW_w5, hW_w9, hW_w11, hW_w12, hW_w13, hW_p6, hW_p7, hW_p10, hW_p14, hW_l0, hW_l1, hW_l2, hW_l3, oz_some, tclr_I, tclr_R, tclr_U, tclr_L, tpu_some, tpu_none, nI4, nI4', nI_add, i01, i12, i23, i34, reduceIte, e]
  rfl
def wsetF (f : Nat → Int32) (g : Nat → Nat → Int32) (d : Nat) : Nat → (Nat → Int32) → (Nat → Int32) := fun i p => if g 12 i = nI d then upd p (g 11 i).toNatClampNeg (p (g 11 i).toNatClampNeg + (if wright f g i = 0 then - g 5 1 else g 0 d * g 5 0 / 100)) else p
theorem wright_9 {p : Nat → Int32} : wright f (va_up g 9 p) k = wright f g k := rfl
theorem sX9_settle (hc : f 14 = nI c) (h4 : c ≤ 40) (hd : d < 20) (hD : ∀ i, i < c → inR (g 12 i) 20) (hP : ∀ i, i < c → inR (g 11 i) 5) : tA sc iX9_settle 0 [vR (some w), vI (nI d), vU] [] (hW h w f g y) K = K none (hW h w f (va_up g 9 (lfold (wsetF f g d) c 0 (g 9))) y) := by
  have L := loopA (fun i (p : Nat → Int32) => tA sc iX9_settle 2 [vR (some w), vI (nI d), vI (nI i)] [] (hW h w f (va_up g 9 p) y) K) (fun p => K none (hW h w f (va_up g 9 p) y)) (wsetF f g d) c ?_ ?_ c 0 (g 9) (by omega)
  · simp only [rX9_settle_0, rX9_settle_1, rX9_settle_3, rX9_settle_4, rX9_settle_7, rX9_settle_10, rX9_settle_11, rX9_settle_14, rX9_settle_15, rX9_settle_16, rX9_settle_17, rX9_settle_20, rX9_settle_21, rX9_settle_24, rX9_settle_25, rX9_settle_28, rX9_settle_29, rX9_settle_30, rX9_settle_31, rX9_settle_32, rX9_settle_33, rX9_settle_34, rX9_settle_37, rX9_settle_40, rX9_settle_41, rX9_settle_42, rX9_settle_45, rX9_settle_48, rX9_settle_49, rX9_settle_52, rX9_settle_53, rX9_settle_54, rX9_settle_55, rX9_settle_56, rX9_settle_57, rX9_settle_60, rX9_settle_63, hW_cl, hW_g0, hW_g1, hW_g2, hW_g3, hW_g4, hW_g5, hW_g6, hW_g7, hW_g8, hW_g9, hW_g10, hW_g11, hW_g12, hW_g13, hW_g14, hW_r0, hW_r1, hW_r2, hW_r3, hW_r4, hW_r5, hW_r8, hW_r9, hW_r11, hW_r12, hW_r13, hW_w0, hW_w1, hW_w2, hW_w3, hW_w4, hW_w5, hW_w9, hW_w11, hW_w12, hW_w13, hW_p6, hW_p7, hW_p10, hW_p14, hW_l0, hW_l1, hW_l2, hW_l3, oz_some, tclr_I, tclr_R, tclr_U, tclr_L, tpu_some, tpu_none, nI4, nI4', nI_add, i01, i12, i23, i34, reduceIte]
    rw [uS] at L
    exact L
  · intro p
    rw [rX9_settle_2]
    simp (disch := first | omega | exact hW_cl) only [rX9_settle_0, rX9_settle_1, rX9_settle_3, rX9_settle_4, rX9_settle_7, rX9_settle_10, rX9_settle_11, rX9_settle_14, rX9_settle_15, rX9_settle_16, rX9_settle_17, rX9_settle_20, rX9_settle_21, rX9_settle_24, rX9_settle_25, rX9_settle_28, rX9_settle_29, rX9_settle_30, rX9_settle_31, rX9_settle_32, rX9_settle_33, rX9_settle_34, rX9_settle_37, rX9_settle_40, rX9_settle_41, rX9_settle_42, rX9_settle_45, rX9_settle_48, rX9_settle_49, rX9_settle_52, rX9_settle_53, rX9_settle_54, rX9_settle_55, rX9_settle_56, rX9_settle_57, rX9_settle_60, rX9_settle_63, hW_cl, hW_g0, hW_g1, hW_g2, hW_g3, hW_g4, hW_g5, hW_g6, hW_g7, hW_g8, hW_g9, hW_g10, hW_g11, hW_g12, hW_g13, hW_g14, hW_r0, hW_r1, hW_r2, hW_r3, hW_r4, hW_r5, hW_r8, hW_r9, hW_r11, hW_r12, hW_r13, hW_w0, hW_w1, hW_w2, hW_w3, hW_w4, hW_w5, hW_w9, hW_w11, hW_w12, hW_w13, hW_p6, hW_p7, hW_p10, hW_p14, hW_l0, hW_l1, hW_l2, hW_l3, oz_some, tclr_I, tclr_R, tclr_U, tclr_L, tpu_some, tpu_none, nI4, nI4', nI_add, i01, i12, i23, i34, reduceIte, hc, nIle_t, if_true]
  · intro i p hi
    have hDi : inR (va_up g 9 p 12 i) 20 := hD i hi
    obtain ⟨q, hq, he⟩ := hP i hi
    rw [rX9_settle_2]
    simp (disch := first | omega | assumption | exact hW_cl) only [rX9_settle_0, rX9_settle_1, rX9_settle_3, rX9_settle_4, rX9_settle_7, rX9_settle_10, rX9_settle_11, rX9_settle_14, rX9_settle_15, rX9_settle_16, rX9_settle_17, rX9_settle_20, rX9_settle_21, rX9_settle_24, rX9_settle_25, rX9_settle_28, rX9_settle_29, rX9_settle_30, rX9_settle_31, rX9_settle_32, rX9_settle_33, rX9_settle_34, rX9_settle_37, rX9_settle_40, rX9_settle_41, rX9_settle_42, rX9_settle_45, rX9_settle_48, rX9_settle_49, rX9_settle_52, rX9_settle_53, rX9_settle_54, rX9_settle_55, rX9_settle_56, rX9_settle_57, rX9_settle_60, rX9_settle_63, sX9_isRightR, sX9_earn, hW_cl, hW_g0, hW_g1, hW_g2, hW_g3, hW_g4, hW_g5, hW_g6, hW_g7, hW_g8, hW_g9, hW_g10, hW_g11, hW_g12, hW_g13, hW_g14, hW_r0, hW_r1, hW_r2, hW_r3, hW_r4, hW_r5, hW_r8, hW_r9, hW_r11, hW_r12, hW_r13, hW_w0, hW_w1, hW_w2, hW_w3, hW_w4, hW_w5, hW_w9, hW_w11, hW_w12, hW_w13, hW_p6, hW_p7, hW_p10, hW_p14, hW_l0, hW_l1, hW_l2, hW_l3, oz_some, tclr_I, tclr_R, tclr_U, tclr_L, tpu_some, tpu_none, nI4, nI4', nI_add, i01, i12, i23, i34, reduceIte, hc, nIle_f, if_false, nI_1, uN, uE, uU, he, wright_9]
    unfold wsetF
    by_cases q1 : g 12 i = nI d
    · by_cases q2 : wright f g i = 0
      · simp (disch := omega) [q1, q2, he, nI_clamp]
      · simp (disch := omega) [q1, q2, he, nI_clamp]
    · simp [q1]
def wdz (f : Nat → Int32) : Int32 := f 7 * 1103515245 + 12345
def wmark (z all : Int32) : Int32 := if all ≤ 0 then 0 else (z.toUInt32 >>> (Int32.toUInt32 16 &&& Int32.toUInt32 31)).toInt32 - (z.toUInt32 >>> (Int32.toUInt32 16 &&& Int32.toUInt32 31)).toInt32 / all * all
def wdrawn (g : Nat → Nat → Int32) (d : Nat) (z : Int32) : Int32 :=
  if 0 + wtw g d 0 (g 2 d) ≤ wmark z (waw g d (g 2 d)) then (if 0 + wtw g d 0 (g 2 d) + wtw g d 1 (g 2 d) ≤ wmark z (waw g d (g 2 d)) then (if 0 + wtw g d 0 (g 2 d) + wtw g d 1 (g 2 d) + wtw g d 2 (g 2 d) ≤ wmark z (waw g d (g 2 d)) then 3 else 2) else 1) else 0
theorem sX9_weightOf0 (hd : d < 20) : tA sc iX9_weightOf 0 [vR (some w), vI (nI d), vI 0] [] (hW h w f g y) K = K (some (vI (wtw g d 0 (g 2 d)))) (hW h w f g y) := sX9_weightOf (k := 0) hd (by decide)
theorem sX9_weightOf1 (hd : d < 20) : tA sc iX9_weightOf 0 [vR (some w), vI (nI d), vI 1] [] (hW h w f g y) K = K (some (vI (wtw g d 1 (g 2 d)))) (hW h w f g y) := sX9_weightOf (k := 1) hd (by decide)
theorem sX9_weightOf2 (hd : d < 20) : tA sc iX9_weightOf 0 [vR (some w), vI (nI d), vI 2] [] (hW h w f g y) K = K (some (vI (wtw g d 2 (g 2 d)))) (hW h w f g y) := sX9_weightOf (k := 2) hd (by decide)
theorem sX9_drawn (hd : d < 20) : tA sc iX9_drawn 0 [vR (some w), vI (nI d), vU, vU, vU, vU] [] (hW h w f g y) K = K (some (vI (wdrawn g d (wdz f)))) (hW h w (upd f 7 (wdz f)) g y) := by
  have M : tA sc iX9_drawn 38 [vR (some w), vI (nI d), vI (waw g d (g 2 d)), vU, vU, vU] [vI (wmark (wdz f) (waw g d (g 2 d)))] (hW h w (upd f 7 (wdz f)) g y) K = K (some (vI (wdrawn g d (wdz f)))) (hW h w (upd f 7 (wdz f)) g y) := by
    simp +decide (disch := first | omega | exact hW_cl) only [rX9_drawn_0, rX9_drawn_1, rX9_drawn_2, rX9_drawn_5, rX9_drawn_7, rX9_drawn_8, rX9_drawn_11, rX9_drawn_12, rX9_drawn_15, rX9_drawn_16, rX9_drawn_17, rX9_drawn_20, rX9_drawn_21, rX9_drawn_22, rX9_drawn_25, rX9_drawn_26, rX9_drawn_29, rX9_drawn_31, rX9_drawn_32, rX9_drawn_33, rX9_drawn_34, rX9_drawn_37, rX9_drawn_38, rX9_drawn_39, rX9_drawn_40, rX9_drawn_42, rX9_drawn_43, rX9_drawn_45, rX9_drawn_47, rX9_drawn_48, rX9_drawn_51, rX9_drawn_53, rX9_drawn_54, rX9_drawn_55, rX9_drawn_57, rX9_drawn_60, rX9_drawn_61, rX9_drawn_63, rX9_drawn_64, rX9_drawn_66, rX9_drawn_69, rX9_drawn_71, rX9_drawn_72, rX9_drawn_75, rX9_drawn_78, rX9_drawn_79, sX9_weightOf0, sX9_weightOf1, sX9_weightOf2, hW_cl, hW_g0, hW_g1, hW_g2, hW_g3, hW_g4, hW_g5, hW_g6, hW_g7, hW_g8, hW_g9, hW_g10, hW_g11, hW_g12, hW_g13, hW_g14, hW_r0, hW_r1, hW_r2, hW_r3, hW_r4, hW_r5, hW_r8, hW_r9, hW_r11, hW_r12, hW_r13, hW_w0, hW_w1, hW_w2, hW_w3, hW_w4, hW_w5, hW_w9, hW_w11, hW_w12, hW_w13, hW_p6, hW_p7, hW_p10, hW_p14, hW_l0, hW_l1, hW_l2, hW_l3, oz_some, tclr_I, tclr_R, tclr_U, tclr_L, tpu_some, tpu_none, nI4, nI4', nI_add, i01, i12, i23, i34, reduceIte]
    unfold wdrawn
    by_cases q0 : 0 + wtw g d 0 (g 2 d) ≤ wmark (wdz f) (waw g d (g 2 d))
    · by_cases q1 : 0 + wtw g d 0 (g 2 d) + wtw g d 1 (g 2 d) ≤ wmark (wdz f) (waw g d (g 2 d))
      · by_cases q2 : 0 + wtw g d 0 (g 2 d) + wtw g d 1 (g 2 d) + wtw g d 2 (g 2 d) ≤ wmark (wdz f) (waw g d (g 2 d))
        · simp only [q0, q1, q2, if_true]
        · simp only [q0, q1, q2, if_true, if_false]
      · simp only [q0, q1, if_true, if_false]
    · simp only [q0, if_false]
  simp (disch := first | omega | exact hW_cl) only [rX9_drawn_0, rX9_drawn_1, rX9_drawn_2, rX9_drawn_5, rX9_drawn_7, rX9_drawn_8, rX9_drawn_11, rX9_drawn_12, rX9_drawn_15, rX9_drawn_16, rX9_drawn_17, rX9_drawn_20, rX9_drawn_21, rX9_drawn_22, rX9_drawn_25, rX9_drawn_26, rX9_drawn_29, rX9_drawn_31, rX9_drawn_32, rX9_drawn_33, rX9_drawn_34, rX9_drawn_37, sX9_allOf, hW_cl, hW_g0, hW_g1, hW_g2, hW_g3, hW_g4, hW_g5, hW_g6, hW_g7, hW_g8, hW_g9, hW_g10, hW_g11, hW_g12, hW_g13, hW_g14, hW_r0, hW_r1, hW_r2, hW_r3, hW_r4, hW_r5, hW_r8, hW_r9, hW_r11, hW_r12, hW_r13, hW_w0, hW_w1, hW_w2, hW_w3, hW_w4, hW_w5, hW_w9, hW_w11, hW_w12, hW_w13, hW_p6, hW_p7, hW_p10, hW_p14, hW_l0, hW_l1, hW_l2, hW_l3, oz_some, tclr_I, tclr_R, tclr_U, tclr_L, tpu_some, tpu_none, nI4, nI4', nI_add, i01, i12, i23, i34, reduceIte, pE]
  rw [show f 7 * 1103515245 + 12345 = wdz f from rfl]
  unfold wmark at M
  by_cases q : waw g d (g 2 d) ≤ 0
  · rw [if_pos q] at M ⊢
    exact M
  · rw [if_neg q] at M ⊢
    have q0 : ¬ waw g d (g 2 d) = 0 := fun e => q (by rw [e]; decide)
    simp only [q0, not_false_eq_true, true_and]
    exact M
def wlast (g : Nat → Nat → Int32) (t top : Nat) : Int32 := match lfind (fun i => decide (g 4 (top - i) = 0)) (top + 1 - t) 0 with
  | some i => nI (top - i)
  | none => -1
theorem sX9_lastOpenDay (ht : f 6 = nI t) (h2 : t < 20) (hk : k < 10) : tA sc iX9_lastOpenDay 0 [vR (some w), vI (nI k), vU] [] (hW h w f g y) K = K (some (vI (wlast g t (min 19 (t + k))))) (hW h w f g y) := by
  have hmin : (if nI t + nI k < 19 then nI t + nI k else 19) = nI (min 19 (t + k)) := by
    rw [nI_add, show (19 : Int32) = nI 19 from rfl]
    by_cases q : t + k < 19
    · rw [if_pos (by rw [nI_ltI (by omega) (by omega)]; exact q), Nat.min_eq_right (by omega)]
    · rw [if_neg (by rw [nI_ltI (by omega) (by omega)]; exact q), Nat.min_eq_left (by omega)]
  have htop : t ≤ min 19 (t + k) ∧ min 19 (t + k) < 20 := by omega
  generalize min 19 (t + k) = top at hmin htop
  have L := loopS (fun i => tA sc iX9_lastOpenDay 12 [vR (some w), vI (nI k), vI (nI (top + 1 - i) + (-1))] [] (hW h w f g y) K) (fun o => K (some (vI (match o with | some i => nI (top - i) | none => -1))) (hW h w f g y)) (fun i => decide (g 4 (top - i) = 0)) (top + 1 - t) ?_ ?_ ?_ (top + 1 - t) 0 (by omega)
  · simp (disch := first | omega | exact hW_cl) only [rX9_lastOpenDay_0, rX9_lastOpenDay_2, rX9_lastOpenDay_3, rX9_lastOpenDay_6, rX9_lastOpenDay_7, rX9_lastOpenDay_8, rX9_lastOpenDay_11, rX9_lastOpenDay_13, rX9_lastOpenDay_14, rX9_lastOpenDay_17, rX9_lastOpenDay_20, rX9_lastOpenDay_21, rX9_lastOpenDay_24, rX9_lastOpenDay_25, rX9_lastOpenDay_26, rX9_lastOpenDay_29, rX9_lastOpenDay_30, rX9_lastOpenDay_31, rX9_lastOpenDay_34, rX9_lastOpenDay_37, rX9_lastOpenDay_38, hW_cl, hW_g0, hW_g1, hW_g2, hW_g3, hW_g4, hW_g5, hW_g6, hW_g7, hW_g8, hW_g9, hW_g10, hW_g11, hW_g12, hW_g13, hW_g14, hW_r0, hW_r1, hW_r2, hW_r3, hW_r4, hW_r5, hW_r8, hW_r9, hW_r11, hW_r12, hW_r13, hW_w0, hW_w1, hW_w2, hW_w3, hW_w4, hW_w5, hW_w9, hW_w11, hW_w12, hW_w13, hW_p6, hW_p7, hW_p10, hW_p14, hW_l0, hW_l1, hW_l2, hW_l3, ht, oz_some, tclr_I, tclr_R, tclr_U, hmin]
    rw [Nat.sub_zero, nI_m1] at L
    exact L
  · rw [rX9_lastOpenDay_12]
    have e : top + 1 - (top + 1 - t) = t := by omega
    rw [e]
    simp (disch := first | omega | exact hW_cl) only [rX9_lastOpenDay_0, rX9_lastOpenDay_2, rX9_lastOpenDay_3, rX9_lastOpenDay_6, rX9_lastOpenDay_7, rX9_lastOpenDay_8, rX9_lastOpenDay_11, rX9_lastOpenDay_13, rX9_lastOpenDay_14, rX9_lastOpenDay_17, rX9_lastOpenDay_20, rX9_lastOpenDay_21, rX9_lastOpenDay_24, rX9_lastOpenDay_25, rX9_lastOpenDay_26, rX9_lastOpenDay_29, rX9_lastOpenDay_30, rX9_lastOpenDay_31, rX9_lastOpenDay_34, rX9_lastOpenDay_37, rX9_lastOpenDay_38, hW_cl, hW_g0, hW_g1, hW_g2, hW_g3, hW_g4, hW_g5, hW_g6, hW_g7, hW_g8, hW_g9, hW_g10, hW_g11, hW_g12, hW_g13, hW_g14, hW_r0, hW_r1, hW_r2, hW_r3, hW_r4, hW_r5, hW_r8, hW_r9, hW_r11, hW_r12, hW_r13, hW_w0, hW_w1, hW_w2, hW_w3, hW_w4, hW_w5, hW_w9, hW_w11, hW_w12, hW_w13, hW_p6, hW_p7, hW_p10, hW_p14, hW_l0, hW_l1, hW_l2, hW_l3, ht, oz_some, tclr_I, tclr_R, tclr_U, nI_lt1, if_true]
  · intro i hi q
    have q1 := of_decide_eq_true q
    rw [rX9_lastOpenDay_12, show top + 1 - i = (top - i) + 1 by omega, nI_m1]
    simp (disch := first | omega | exact hW_cl) only [rX9_lastOpenDay_0, rX9_lastOpenDay_2, rX9_lastOpenDay_3, rX9_lastOpenDay_6, rX9_lastOpenDay_7, rX9_lastOpenDay_8, rX9_lastOpenDay_11, rX9_lastOpenDay_13, rX9_lastOpenDay_14, rX9_lastOpenDay_17, rX9_lastOpenDay_20, rX9_lastOpenDay_21, rX9_lastOpenDay_24, rX9_lastOpenDay_25, rX9_lastOpenDay_26, rX9_lastOpenDay_29, rX9_lastOpenDay_30, rX9_lastOpenDay_31, rX9_lastOpenDay_34, rX9_lastOpenDay_37, rX9_lastOpenDay_38, hW_cl, hW_g0, hW_g1, hW_g2, hW_g3, hW_g4, hW_g5, hW_g6, hW_g7, hW_g8, hW_g9, hW_g10, hW_g11, hW_g12, hW_g13, hW_g14, hW_r0, hW_r1, hW_r2, hW_r3, hW_r4, hW_r5, hW_r8, hW_r9, hW_r11, hW_r12, hW_r13, hW_w0, hW_w1, hW_w2, hW_w3, hW_w4, hW_w5, hW_w9, hW_w11, hW_w12, hW_w13, hW_p6, hW_p7, hW_p10, hW_p14, hW_l0, hW_l1, hW_l2, hW_l3, ht, oz_some, tclr_I, tclr_R, tclr_U, nIlt_f, if_false, q1, not_true_eq_false]
  · intro i hi q
    have q1 := of_decide_eq_false q
    rw [rX9_lastOpenDay_12, show top + 1 - i = (top - i) + 1 by omega, nI_m1]
    simp (disch := first | omega | exact hW_cl) only [rX9_lastOpenDay_0, rX9_lastOpenDay_2, rX9_lastOpenDay_3, rX9_lastOpenDay_6, rX9_lastOpenDay_7, rX9_lastOpenDay_8, rX9_lastOpenDay_11, rX9_lastOpenDay_13, rX9_lastOpenDay_14, rX9_lastOpenDay_17, rX9_lastOpenDay_20, rX9_lastOpenDay_21, rX9_lastOpenDay_24, rX9_lastOpenDay_25, rX9_lastOpenDay_26, rX9_lastOpenDay_29, rX9_lastOpenDay_30, rX9_lastOpenDay_31, rX9_lastOpenDay_34, rX9_lastOpenDay_37, rX9_lastOpenDay_38, hW_cl, hW_g0, hW_g1, hW_g2, hW_g3, hW_g4, hW_g5, hW_g6, hW_g7, hW_g8, hW_g9, hW_g10, hW_g11, hW_g12, hW_g13, hW_g14, hW_r0, hW_r1, hW_r2, hW_r3, hW_r4, hW_r5, hW_r8, hW_r9, hW_r11, hW_r12, hW_r13, hW_w0, hW_w1, hW_w2, hW_w3, hW_w4, hW_w5, hW_w9, hW_w11, hW_w12, hW_w13, hW_p6, hW_p7, hW_p10, hW_p14, hW_l0, hW_l1, hW_l2, hW_l3, ht, oz_some, tclr_I, tclr_R, tclr_U, nIlt_f, if_false, q1, not_false_eq_true, if_true]
    rw [show top + 1 - (i + 1) = top - i by omega]
def wlate (f : Nat → Int32) (g : Nat → Nat → Int32) (t c5 c : Nat) (x : Int32) : Int32 := if t = 0 then 0 else if x = 0 then g 3 (t - 1) else if x = 1 then wowner f g (nI (t - 1)) c + 1 else wpurses g c5
theorem sX9_latestMorning (ht : f 6 = nI t) (h2 : t ≤ 20) (hk : f 10 = nI k) (h5 : k ≤ 5) (hc : f 14 = nI c) (h4 : c ≤ 40) (hD : ∀ i, i < c → inR (g 12 i) 20) : tA sc iX9_latestMorning 0 [vR (some w), vI x, vU] [] (hW h w f g y) K = K (some (vI (wlate f g t k c x))) (hW h w f g y) := by
  have e1 := fun (s : Int32) (K : Option TV → TH → Prop) => sX9_ownerOf (sc := sc) (h := h) (w := w) (g := g) (y := y) (s := s) (K := K) hc h4 hD
  have e2 := fun (K : Option TV → TH → Prop) => sX9_pursesTogether (sc := sc) (h := h) (w := w) (g := g) (y := y) (K := K) hk h5
  unfold wlate
  cases t with
  | zero =>
    simp +decide (disch := first | omega | exact hW_cl) only [rX9_latestMorning_0, rX9_latestMorning_1, rX9_latestMorning_4, rX9_latestMorning_5, rX9_latestMorning_6, rX9_latestMorning_7, rX9_latestMorning_8, rX9_latestMorning_11, rX9_latestMorning_12, rX9_latestMorning_13, rX9_latestMorning_14, rX9_latestMorning_40, rX9_latestMorning_41, rX9_latestMorning_44, rX9_latestMorning_45, rX9_latestMorning_46, rX9_latestMorning_47, rX9_latestMorning_48, rX9_latestMorning_49, rX9_latestMorning_52, rX9_latestMorning_53, rX9_latestMorning_54, rX9_latestMorning_55, rX9_latestMorning_56, rX9_latestMorning_59, hW_cl, hW_g0, hW_g1, hW_g2, hW_g3, hW_g4, hW_g5, hW_g6, hW_g7, hW_g8, hW_g9, hW_g10, hW_g11, hW_g12, hW_g13, hW_g14, hW_r0, hW_r1, hW_r2, hW_r3, hW_r4, hW_r5, hW_r8, hW_r9, hW_r11, hW_r12, hW_r13, hW_w0, hW_w1, hW_w2, hW_w3, hW_w4, hW_w5, hW_w9, hW_w11, hW_w12, hW_w13, hW_p6, hW_p7, hW_p10, hW_p14, hW_l0, hW_l1, hW_l2, hW_l3, ht, oz_some, tclr_I, tclr_R, tclr_U, if_true, if_false]
  | succ t =>
    have q0 : ((0 : Int32) ≤ nI t) = True := nIle_t (a := 0) (by omega) (by omega)
    simp (disch := first | omega | exact hW_cl) only [rX9_latestMorning_0, rX9_latestMorning_1, rX9_latestMorning_4, rX9_latestMorning_5, rX9_latestMorning_6, rX9_latestMorning_7, rX9_latestMorning_8, rX9_latestMorning_11, rX9_latestMorning_12, rX9_latestMorning_13, rX9_latestMorning_14, rX9_latestMorning_40, rX9_latestMorning_41, rX9_latestMorning_44, rX9_latestMorning_45, rX9_latestMorning_46, rX9_latestMorning_47, rX9_latestMorning_48, rX9_latestMorning_49, rX9_latestMorning_52, rX9_latestMorning_53, rX9_latestMorning_54, rX9_latestMorning_55, rX9_latestMorning_56, rX9_latestMorning_59, hW_cl, hW_g0, hW_g1, hW_g2, hW_g3, hW_g4, hW_g5, hW_g6, hW_g7, hW_g8, hW_g9, hW_g10, hW_g11, hW_g12, hW_g13, hW_g14, hW_r0, hW_r1, hW_r2, hW_r3, hW_r4, hW_r5, hW_r8, hW_r9, hW_r11, hW_r12, hW_r13, hW_w0, hW_w1, hW_w2, hW_w3, hW_w4, hW_w5, hW_w9, hW_w11, hW_w12, hW_w13, hW_p6, hW_p7, hW_p10, hW_p14, hW_l0, hW_l1, hW_l2, hW_l3, ht, oz_some, tclr_I, tclr_R, tclr_U, tpu_some, nI_s1, e1, e2, q0, if_true, Nat.add_sub_cancel, Nat.succ_ne_zero, if_false]
    by_cases q1 : x = 0
    · simp only [q1, if_true]
    · by_cases q2 : x = 1
      · simp [q2]
      · simp [q1, q2]
def wowed (f : Nat → Int32) (g : Nat → Nat → Int32) (d j : Nat) : Int64 := if f 6 ≤ nI d then (if waw g d (g 2 d) ≤ 0 then 0 else 1000 * (wtak g d j (g 2 d)).toInt64 / (waw g d (g 2 d)).toInt64) else 0
theorem toI64_0 {x : Int32} (h : ¬ x ≤ 0) : ¬ x.toInt64 = 0 := by
  intro e
  have e1 := congrArg Int64.toInt e
  rw [Int32.toInt_toInt64] at e1
  apply h
  rw [Int32.le_iff_toInt_le, e1]
  decide
theorem sX9_owedFor (hk : k < 40) (hd : d < 20) (hj : j < 4) (h1 : g 12 k = nI d) (h2 : g 13 k = nI j) : tA sc iX9_owedFor 0 [vR (some w), vI (nI k), vU, vU] [] (hW h w f g y) K = K (some (vL (wowed f g d j))) (hW h w f g y) := by
  simp (disch := first | omega | exact hW_cl) only [rX9_owedFor_0, rX9_owedFor_1, rX9_owedFor_4, rX9_owedFor_5, rX9_owedFor_6, rX9_owedFor_7, rX9_owedFor_8, rX9_owedFor_9, rX9_owedFor_12, rX9_owedFor_13, rX9_owedFor_14, rX9_owedFor_15, rX9_owedFor_18, rX9_owedFor_21, rX9_owedFor_22, rX9_owedFor_25, rX9_owedFor_26, rX9_owedFor_27, rX9_owedFor_30, rX9_owedFor_31, rX9_owedFor_32, rX9_owedFor_33, rX9_owedFor_36, rX9_owedFor_37, rX9_owedFor_38, rX9_owedFor_39, rX9_owedFor_42, rX9_owedFor_43, rX9_owedFor_44, rX9_owedFor_47, rX9_owedFor_48, rX9_owedFor_49, rX9_owedFor_50, rX9_owedFor_51, rX9_owedFor_52, sX9_isOver, sX9_allOf, sX9_takingsTimesAll, hW_cl, hW_g0, hW_g1, hW_g2, hW_g3, hW_g4, hW_g5, hW_g6, hW_g7, hW_g8, hW_g9, hW_g10, hW_g11, hW_g12, hW_g13, hW_g14, hW_r0, hW_r1, hW_r2, hW_r3, hW_r4, hW_r5, hW_r8, hW_r9, hW_r11, hW_r12, hW_r13, hW_w0, hW_w1, hW_w2, hW_w3, hW_w4, hW_w5, hW_w9, hW_w11, hW_w12, hW_w13, hW_p6, hW_p7, hW_p10, hW_p14, hW_l0, hW_l1, hW_l2, hW_l3, oz_some, tclr_I, tclr_R, tclr_U, tclr_L, tpu_some, tpu_none, nI4, nI4', nI_add, i01, i12, i23, i34, reduceIte, h1, h2]
  unfold wowed
  by_cases q : f 6 ≤ nI d
  · by_cases q2 : waw g d (g 2 d) ≤ 0
    · have q3 : ¬ 0 < waw g d (g 2 d) := Int32.not_lt.mpr q2
      simp [q, q2, q3]
    · have q3 : 0 < waw g d (g 2 d) := Int32.not_le.mp q2
      have q4 := toI64_0 q2
      simp [q, q2, q3, q4]
  · simp [q]
end S23
