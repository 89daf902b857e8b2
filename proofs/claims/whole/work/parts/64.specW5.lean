/-! WHAT SAYERS CHOOSE, and how a morning lets them speak -/
def kcl (kd : Nat) : Nat := ([4, 2, 3, 6, 0, 7] : List Nat).getD kd 4
/-- a sayer's cell -/
def isS (h : TH) (o kd nu a : Nat) : Prop := kd < 6 ∧ nu < 5 ∧ a < 10 ∧ ∃ fs : Nat → TV, h.1 o = some (.inr (kcl kd, fs)) ∧ fs 0 = vI (nI kd) ∧ fs 1 = vI (nI nu) ∧ fs 2 = vI (nI a)
theorem kcl_in : ∀ kd, kd < 6 → ([0, 2, 3, 4, 6, 7] : List Nat).contains (kcl kd) = true := by decide
section S24
variable {sc : Nat × (Nat → Int32)} {h : TH} {w d k c t j o kd nu a : Nat} {f : Nat → Int32} {g : Nat → Nat → Int32} {y : Nat → Option Nat} {s x : Int32} {K : Option TV → TH → Prop}
theorem isS_cl (hs : isS h o kd nu a) : tcl h o = some (kcl kd) := by
  obtain ⟨-, -, -, fs, h1, -⟩ := hs
  unfold tcl
  rw [h1]
theorem isS_g0 (hs : isS h o kd nu a) : tget h o [0, 2, 3, 4, 6, 7] 0 = some (vI (nI kd)) := by
  obtain ⟨hk, -, -, fs, h1, h2, h3, h4⟩ := hs
  unfold tget
  rw [h1]
  dsimp only
  rw [if_pos (kcl_in _ hk), h2]
theorem isS_g1 (hs : isS h o kd nu a) : tget h o [0, 2, 3, 4, 6, 7] 1 = some (vI (nI nu)) := by
  obtain ⟨hk, -, -, fs, h1, h2, h3, h4⟩ := hs
  unfold tget
  rw [h1]
  dsimp only
  rw [if_pos (kcl_in _ hk), h3]
theorem isS_g2 (hs : isS h o kd nu a) : tget h o [0, 2, 3, 4, 6, 7] 2 = some (vI (nI a)) := by
  obtain ⟨hk, -, -, fs, h1, h2, h3, h4⟩ := hs
  unfold tget
  rw [h1]
  dsimp only
  rw [if_pos (kcl_in _ hk), h4]
theorem isS_hW (ho : o < w ∨ w + 12 ≤ o) (hs : isS h o kd nu a) : isS (hW h w f g y) o kd nu a := by
  unfold isS at hs ⊢
  rw [show (hW h w f g y).1 o = h.1 o from rput_off ho]
  exact hs
theorem nI_rem4 : ∀ i, i < 80 → nI i - nI i / 4 * 4 = nI (i % 4) := by decide +kernel
theorem wlk_in : ∃ k, k < 4 ∧ wlk g d = nI k := by
  have := lfold_inv (F := wlkF g d) (fun _ a => ∃ k, k < 4 ∧ a.1 = nI k) 4 0 (0, -1, vU) ⟨0, by decide, rfl⟩ (by
    intro j b h1 h2 hb
    unfold wlkF
    by_cases q : wtw g d j (g 2 d) ≤ b.2.1
    · rw [if_pos q]; exact hb
    · rw [if_neg q]; exact ⟨j, by omega, rfl⟩)
  exact this
/-- the likeliest weather, as a number -/
def wlkN (g : Nat → Nat → Int32) (d : Nat) : Nat := (wlk g d).toNatClampNeg
theorem wlkN_lt : wlkN g d < 4 := by
  obtain ⟨k, h1, h2⟩ := wlk_in (g := g) (d := d)
  unfold wlkN
  rw [h2, nI_clamp (by omega)]
  exact h1
theorem wlkN_eq : wlk g d = nI (wlkN g d) := by
  obtain ⟨k, h1, h2⟩ := wlk_in (g := g) (d := d)
  unfold wlkN
  rw [h2, nI_clamp (by omega)]
def wltd (g : Nat → Nat → Int32) (t : Nat) : Int32 := if wsaid g t (nI (wlkN g t)) = 1 then -1 else nI t
def wcho (g : Nat → Nat → Int32) (t kd a : Nat) : Int32 := match kd with
  | 0 => -1
  | 1 => wlast g t (min 19 (t + a))
  | 2 => wltd g t
  | 3 => if 10 * wtw g t (wlkN g t) (g 2 t) < nI a * waw g t (g 2 t) then -1 else wltd g t
  | 4 => wlast g t (min 19 (t + a))
  | _ => if wsaid g t (nI (a % 4)) = 1 then -1 else nI t
theorem sX2_chosenDay (hs : isS (hW h w f g y) o kd nu a) (ht : f 6 = nI t) (h2 : t < 20) : tA sc iX2_chosenDay 0 [vR (some o), vR (some w)] [] (hW h w f g y) K = K (some (vI (wlast g t (min 19 (t + a))))) (hW h w f g y) := by
  have e := fun (K : Option TV → TH → Prop) => sX9_lastOpenDay (sc := sc) (h := h) (w := w) (f := f) (g := g) (y := y) (K := K) ht h2 hs.2.2.1
  simp (disch := first | omega | exact hW_cl) only [rX2_chosenDay_0, rX2_chosenDay_1, rX2_chosenDay_2, rX2_chosenDay_5, rX2_chosenDay_8, isS_g2 hs, e, oz_some, tclr_I, tclr_R, tclr_U, tclr_L, tpu_some, tpu_none, nI4, nI4', nI_add, i01, i12, i23, i34, reduceIte]
theorem sX3_chosenDay (ht : f 6 = nI t) (h2 : t < 20) : tA sc iX3_chosenDay 0 [vR (some o), vR (some w)] [] (hW h w f g y) K = K (some (vI (wltd g t))) (hW h w f g y) := by
  simp (disch := first | omega | exact hW_cl) only [rX3_chosenDay_0, rX3_chosenDay_1, rX3_chosenDay_2, rX3_chosenDay_5, rX3_chosenDay_6, rX3_chosenDay_7, rX3_chosenDay_10, rX3_chosenDay_13, rX3_chosenDay_16, rX3_chosenDay_19, rX3_chosenDay_20, rX3_chosenDay_23, rX3_chosenDay_24, rX3_chosenDay_27, sX9_likeliest, sX9_isSaidR, hW_cl, hW_g0, hW_g1, hW_g2, hW_g3, hW_g4, hW_g5, hW_g6, hW_g7, hW_g8, hW_g9, hW_g10, hW_g11, hW_g12, hW_g13, hW_g14, hW_r0, hW_r1, hW_r2, hW_r3, hW_r4, hW_r5, hW_r8, hW_r9, hW_r11, hW_r12, hW_r13, hW_w0, hW_w1, hW_w2, hW_w3, hW_w4, hW_w5, hW_w9, hW_w11, hW_w12, hW_w13, hW_p6, hW_p7, hW_p10, hW_p14, hW_l0, hW_l1, hW_l2, hW_l3, oz_some, tclr_I, tclr_R, tclr_U, tclr_L, tpu_some, tpu_none, nI4, nI4', nI_add, i01, i12, i23, i34, reduceIte, ht, wlkN_eq]
  unfold wltd
  by_cases q : wsaid g t (nI (wlkN g t)) = 1 <;> simp [q]
theorem sX6_chosenDay (hs : isS (hW h w f g y) o kd nu a) (ht : f 6 = nI t) (h2 : t < 20) : tA sc iX6_chosenDay 0 [vR (some o), vR (some w), vU, vU] [] (hW h w f g y) K = K (some (vI (if 10 * wtw g t (wlkN g t) (g 2 t) < nI a * waw g t (g 2 t) then -1 else wltd g t))) (hW h w f g y) := by
  have e := fun (K : Option TV → TH → Prop) => sX3_chosenDay (sc := sc) (h := h) (w := w) (f := f) (g := g) (y := y) (o := o) (K := K) ht h2
  have e2 := fun (K : Option TV → TH → Prop) => sX9_weightOf (sc := sc) (h := h) (w := w) (f := f) (g := g) (y := y) (K := K) (d := t) h2 (wlkN_lt (g := g) (d := t))
  have hcl := isS_cl hs
  simp (disch := first | omega | assumption | exact hW_cl) only [rX6_chosenDay_0, rX6_chosenDay_1, rX6_chosenDay_4, rX6_chosenDay_5, rX6_chosenDay_6, rX6_chosenDay_7, rX6_chosenDay_8, rX6_chosenDay_9, rX6_chosenDay_12, rX6_chosenDay_15, rX6_chosenDay_16, rX6_chosenDay_18, rX6_chosenDay_19, rX6_chosenDay_20, rX6_chosenDay_21, rX6_chosenDay_24, rX6_chosenDay_25, rX6_chosenDay_26, rX6_chosenDay_29, rX6_chosenDay_30, rX6_chosenDay_33, rX6_chosenDay_34, rX6_chosenDay_35, rX6_chosenDay_38, rX6_chosenDay_41, rX6_chosenDay_42, isS_g2 hs, sX9_likeliest, sX9_allOf, e, e2, hW_cl, hW_g0, hW_g1, hW_g2, hW_g3, hW_g4, hW_g5, hW_g6, hW_g7, hW_g8, hW_g9, hW_g10, hW_g11, hW_g12, hW_g13, hW_g14, hW_r0, hW_r1, hW_r2, hW_r3, hW_r4, hW_r5, hW_r8, hW_r9, hW_r11, hW_r12, hW_r13, hW_w0, hW_w1, hW_w2, hW_w3, hW_w4, hW_w5, hW_w9, hW_w11, hW_w12, hW_w13, hW_p6, hW_p7, hW_p10, hW_p14, hW_l0, hW_l1, hW_l2, hW_l3, oz_some, tclr_I, tclr_R, tclr_U, tclr_L, tpu_some, tpu_none, nI4, nI4', nI_add, i01, i12, i23, i34, reduceIte, ht, wlkN_eq]
  by_cases q : 10 * wtw g t (wlkN g t) (g 2 t) < nI a * waw g t (g 2 t)
  · simp [q]
  · rw [if_neg q, if_neg q]
theorem sX7_chosenDay (hs : isS (hW h w f g y) o kd nu a) (ht : f 6 = nI t) (h2 : t < 20) : tA sc iX7_chosenDay 0 [vR (some o), vR (some w)] [] (hW h w f g y) K = K (some (vI (if wsaid g t (nI (a % 4)) = 1 then -1 else nI t))) (hW h w f g y) := by
  have ha := hs.2.2.1
  simp +decide (disch := first | omega | exact hW_cl) only [rX7_chosenDay_0, rX7_chosenDay_1, rX7_chosenDay_2, rX7_chosenDay_5, rX7_chosenDay_6, rX7_chosenDay_9, rX7_chosenDay_10, rX7_chosenDay_11, rX7_chosenDay_14, rX7_chosenDay_17, rX7_chosenDay_18, rX7_chosenDay_21, rX7_chosenDay_22, rX7_chosenDay_25, isS_g2 hs, sX9_isSaidR, hW_cl, hW_g0, hW_g1, hW_g2, hW_g3, hW_g4, hW_g5, hW_g6, hW_g7, hW_g8, hW_g9, hW_g10, hW_g11, hW_g12, hW_g13, hW_g14, hW_r0, hW_r1, hW_r2, hW_r3, hW_r4, hW_r5, hW_r8, hW_r9, hW_r11, hW_r12, hW_r13, hW_w0, hW_w1, hW_w2, hW_w3, hW_w4, hW_w5, hW_w9, hW_w11, hW_w12, hW_w13, hW_p6, hW_p7, hW_p10, hW_p14, hW_l0, hW_l1, hW_l2, hW_l3, oz_some, tclr_I, tclr_R, tclr_U, tclr_L, tpu_some, tpu_none, nI4, nI4', nI_add, i01, i12, i23, i34, reduceIte, ht, nI_rem4, true_and, not_false_eq_true]
  by_cases q : wsaid g t (nI (a % 4)) = 1 <;> simp [q]
def wdts (g : Nat → Nat → Int32) (t c kd a : Nat) : Int32 := if t = 20 ∨ c = 40 then -1 else wcho g t kd a
theorem nI_room : ∀ c, c < 41 → (40 : Int32) - nI c = nI (40 - c) := by decide +kernel
theorem nI_rm0 : ∀ c, c < 40 → (nI (40 - c) = 0) = False := by decide +kernel
theorem nI_le20 : ((20 : Int32) ≤ nI 20) = True := by decide
theorem sX9_dayToSay (hs : isS h o kd nu a) (ho : o < w ∨ w + 12 ≤ o) (ht : f 6 = nI t) (h2 : t ≤ 20) (hc : f 14 = nI c) (h4 : c ≤ 40) : tA sc iX9_dayToSay 0 [vR (some w), vR (some o)] [] (hW h w f g y) K = K (some (vI (wdts g t c kd a))) (hW h w f g y) := by
  have hs1 := isS_hW (f := f) (g := g) (y := y) ho hs
  have hcl := isS_cl hs1
  unfold wdts
  by_cases q1 : t = 20
  · subst q1
    simp (disch := first | omega | exact hW_cl) only [rX9_dayToSay_0, rX9_dayToSay_1, rX9_dayToSay_4, rX9_dayToSay_6, rX9_dayToSay_9, rX9_dayToSay_10, rX9_dayToSay_13, rX9_dayToSay_16, rX9_dayToSay_17, rX9_dayToSay_20, rX9_dayToSay_21, rX9_dayToSay_22_0, rX9_dayToSay_22_2, rX9_dayToSay_22_3, rX9_dayToSay_22_4, rX9_dayToSay_22_6, rX9_dayToSay_22_7, rX9_dayToSay_25, hW_cl, hW_g0, hW_g1, hW_g2, hW_g3, hW_g4, hW_g5, hW_g6, hW_g7, hW_g8, hW_g9, hW_g10, hW_g11, hW_g12, hW_g13, hW_g14, hW_r0, hW_r1, hW_r2, hW_r3, hW_r4, hW_r5, hW_r8, hW_r9, hW_r11, hW_r12, hW_r13, hW_w0, hW_w1, hW_w2, hW_w3, hW_w4, hW_w5, hW_w9, hW_w11, hW_w12, hW_w13, hW_p6, hW_p7, hW_p10, hW_p14, hW_l0, hW_l1, hW_l2, hW_l3, oz_some, tclr_I, tclr_R, tclr_U, tclr_L, tpu_some, tpu_none, nI4, nI4', nI_add, i01, i12, i23, i34, reduceIte, ht, nI_le20, if_true, true_or]
  · have q1' : t < 20 := by omega
    by_cases q2 : c = 40
    · subst q2
      have e0 : ((40 : Int32) - nI 40 = 0) = True := by decide
      simp (disch := first | omega | exact hW_cl) only [rX9_dayToSay_0, rX9_dayToSay_1, rX9_dayToSay_4, rX9_dayToSay_6, rX9_dayToSay_9, rX9_dayToSay_10, rX9_dayToSay_13, rX9_dayToSay_16, rX9_dayToSay_17, rX9_dayToSay_20, rX9_dayToSay_21, rX9_dayToSay_22_0, rX9_dayToSay_22_2, rX9_dayToSay_22_3, rX9_dayToSay_22_4, rX9_dayToSay_22_6, rX9_dayToSay_22_7, rX9_dayToSay_25, sX9_room, hW_cl, hW_g0, hW_g1, hW_g2, hW_g3, hW_g4, hW_g5, hW_g6, hW_g7, hW_g8, hW_g9, hW_g10, hW_g11, hW_g12, hW_g13, hW_g14, hW_r0, hW_r1, hW_r2, hW_r3, hW_r4, hW_r5, hW_r8, hW_r9, hW_r11, hW_r12, hW_r13, hW_w0, hW_w1, hW_w2, hW_w3, hW_w4, hW_w5, hW_w9, hW_w11, hW_w12, hW_w13, hW_p6, hW_p7, hW_p10, hW_p14, hW_l0, hW_l1, hW_l2, hW_l3, oz_some, tclr_I, tclr_R, tclr_U, tclr_L, tpu_some, tpu_none, nI4, nI4', nI_add, i01, i12, i23, i34, reduceIte, ht, hc, le20_f, if_false, e0, not_true_eq_false, or_true, if_true]
    · have q3 : c < 40 := by omega
      rw [if_neg (by omega)]
      have e2 := fun (K : Option TV → TH → Prop) => sX2_chosenDay (sc := sc) (K := K) hs1 ht q1'
      have e3 := fun (K : Option TV → TH → Prop) => sX3_chosenDay (sc := sc) (h := h) (w := w) (f := f) (g := g) (y := y) (o := o) (K := K) ht q1'
      have e6 := fun (K : Option TV → TH → Prop) => sX6_chosenDay (sc := sc) (K := K) hs1 ht q1'
      have e7 := fun (K : Option TV → TH → Prop) => sX7_chosenDay (sc := sc) (K := K) hs1 ht q1'
      have hk := hs.1
      rcases (show kd = 0 ∨ kd = 1 ∨ kd = 2 ∨ kd = 3 ∨ kd = 4 ∨ kd = 5 by omega) with rfl | rfl | rfl | rfl | rfl | rfl
      · have hcl : tcl (hW h w f g y) o = some 4 := hcl
        simp (disch := first | omega | assumption | exact hW_cl) only [rX9_dayToSay_0, rX9_dayToSay_1, rX9_dayToSay_4, rX9_dayToSay_6, rX9_dayToSay_9, rX9_dayToSay_10, rX9_dayToSay_13, rX9_dayToSay_16, rX9_dayToSay_17, rX9_dayToSay_20, rX9_dayToSay_21, rX9_dayToSay_22_0, rX9_dayToSay_22_2, rX9_dayToSay_22_3, rX9_dayToSay_22_4, rX9_dayToSay_22_6, rX9_dayToSay_22_7, rX9_dayToSay_25, rX4_chosenDay_0, rX4_chosenDay_1, sX9_room, hW_cl, hW_g0, hW_g1, hW_g2, hW_g3, hW_g4, hW_g5, hW_g6, hW_g7, hW_g8, hW_g9, hW_g10, hW_g11, hW_g12, hW_g13, hW_g14, hW_r0, hW_r1, hW_r2, hW_r3, hW_r4, hW_r5, hW_r8, hW_r9, hW_r11, hW_r12, hW_r13, hW_w0, hW_w1, hW_w2, hW_w3, hW_w4, hW_w5, hW_w9, hW_w11, hW_w12, hW_w13, hW_p6, hW_p7, hW_p10, hW_p14, hW_l0, hW_l1, hW_l2, hW_l3, oz_some, tclr_I, tclr_R, tclr_U, tclr_L, tpu_some, tpu_none, nI4, nI4', nI_add, i01, i12, i23, i34, reduceIte, ht, hc, le20_f, if_false, nI_room, nI_rm0, not_false_eq_true, if_true, wcho]
      · have hcl : tcl (hW h w f g y) o = some 2 := hcl
        simp (disch := first | omega | assumption | exact hW_cl) only [rX9_dayToSay_0, rX9_dayToSay_1, rX9_dayToSay_4, rX9_dayToSay_6, rX9_dayToSay_9, rX9_dayToSay_10, rX9_dayToSay_13, rX9_dayToSay_16, rX9_dayToSay_17, rX9_dayToSay_20, rX9_dayToSay_21, rX9_dayToSay_22_0, rX9_dayToSay_22_2, rX9_dayToSay_22_3, rX9_dayToSay_22_4, rX9_dayToSay_22_6, rX9_dayToSay_22_7, rX9_dayToSay_25, e2, sX9_room, hW_cl, hW_g0, hW_g1, hW_g2, hW_g3, hW_g4, hW_g5, hW_g6, hW_g7, hW_g8, hW_g9, hW_g10, hW_g11, hW_g12, hW_g13, hW_g14, hW_r0, hW_r1, hW_r2, hW_r3, hW_r4, hW_r5, hW_r8, hW_r9, hW_r11, hW_r12, hW_r13, hW_w0, hW_w1, hW_w2, hW_w3, hW_w4, hW_w5, hW_w9, hW_w11, hW_w12, hW_w13, hW_p6, hW_p7, hW_p10, hW_p14, hW_l0, hW_l1, hW_l2, hW_l3, oz_some, tclr_I, tclr_R, tclr_U, tclr_L, tpu_some, tpu_none, nI4, nI4', nI_add, i01, i12, i23, i34, reduceIte, ht, hc, le20_f, if_false, nI_room, nI_rm0, not_false_eq_true, if_true, wcho]
      · have hcl : tcl (hW h w f g y) o = some 3 := hcl
        simp (disch := first | omega | assumption | exact hW_cl) only [rX9_dayToSay_0, rX9_dayToSay_1, rX9_dayToSay_4, rX9_dayToSay_6, rX9_dayToSay_9, rX9_dayToSay_10, rX9_dayToSay_13, rX9_dayToSay_16, rX9_dayToSay_17, rX9_dayToSay_20, rX9_dayToSay_21, rX9_dayToSay_22_0, rX9_dayToSay_22_2, rX9_dayToSay_22_3, rX9_dayToSay_22_4, rX9_dayToSay_22_6, rX9_dayToSay_22_7, rX9_dayToSay_25, e3, sX9_room, hW_cl, hW_g0, hW_g1, hW_g2, hW_g3, hW_g4, hW_g5, hW_g6, hW_g7, hW_g8, hW_g9, hW_g10, hW_g11, hW_g12, hW_g13, hW_g14, hW_r0, hW_r1, hW_r2, hW_r3, hW_r4, hW_r5, hW_r8, hW_r9, hW_r11, hW_r12, hW_r13, hW_w0, hW_w1, hW_w2, hW_w3, hW_w4, hW_w5, hW_w9, hW_w11, hW_w12, hW_w13, hW_p6, hW_p7, hW_p10, hW_p14, hW_l0, hW_l1, hW_l2, hW_l3, oz_some, tclr_I, tclr_R, tclr_U, tclr_L, tpu_some, tpu_none, nI4, nI4', nI_add, i01, i12, i23, i34, reduceIte, ht, hc, le20_f, if_false, nI_room, nI_rm0, not_false_eq_true, if_true, wcho]
      · have hcl : tcl (hW h w f g y) o = some 6 := hcl
        simp (disch := first | omega | assumption | exact hW_cl) only [rX9_dayToSay_0, rX9_dayToSay_1, rX9_dayToSay_4, rX9_dayToSay_6, rX9_dayToSay_9, rX9_dayToSay_10, rX9_dayToSay_13, rX9_dayToSay_16, rX9_dayToSay_17, rX9_dayToSay_20, rX9_dayToSay_21, rX9_dayToSay_22_0, rX9_dayToSay_22_2, rX9_dayToSay_22_3, rX9_dayToSay_22_4, rX9_dayToSay_22_6, rX9_dayToSay_22_7, rX9_dayToSay_25, e6, sX9_room, hW_cl, hW_g0, hW_g1, hW_g2, hW_g3, hW_g4, hW_g5, hW_g6, hW_g7, hW_g8, hW_g9, hW_g10, hW_g11, hW_g12, hW_g13, hW_g14, hW_r0, hW_r1, hW_r2, hW_r3, hW_r4, hW_r5, hW_r8, hW_r9, hW_r11, hW_r12, hW_r13, hW_w0, hW_w1, hW_w2, hW_w3, hW_w4, hW_w5, hW_w9, hW_w11, hW_w12, hW_w13, hW_p6, hW_p7, hW_p10, hW_p14, hW_l0, hW_l1, hW_l2, hW_l3, oz_some, tclr_I, tclr_R, tclr_U, tclr_L, tpu_some, tpu_none, nI4, nI4', nI_add, i01, i12, i23, i34, reduceIte, ht, hc, le20_f, if_false, nI_room, nI_rm0, not_false_eq_true, if_true, wcho]
      · have hcl : tcl (hW h w f g y) o = some 0 := hcl
        simp (disch := first | omega | assumption | exact hW_cl) only [rX9_dayToSay_0, rX9_dayToSay_1, rX9_dayToSay_4, rX9_dayToSay_6, rX9_dayToSay_9, rX9_dayToSay_10, rX9_dayToSay_13, rX9_dayToSay_16, rX9_dayToSay_17, rX9_dayToSay_20, rX9_dayToSay_21, rX9_dayToSay_22_0, rX9_dayToSay_22_2, rX9_dayToSay_22_3, rX9_dayToSay_22_4, rX9_dayToSay_22_6, rX9_dayToSay_22_7, rX9_dayToSay_25, e2, sX9_room, hW_cl, hW_g0, hW_g1, hW_g2, hW_g3, hW_g4, hW_g5, hW_g6, hW_g7, hW_g8, hW_g9, hW_g10, hW_g11, hW_g12, hW_g13, hW_g14, hW_r0, hW_r1, hW_r2, hW_r3, hW_r4, hW_r5, hW_r8, hW_r9, hW_r11, hW_r12, hW_r13, hW_w0, hW_w1, hW_w2, hW_w3, hW_w4, hW_w5, hW_w9, hW_w11, hW_w12, hW_w13, hW_p6, hW_p7, hW_p10, hW_p14, hW_l0, hW_l1, hW_l2, hW_l3, oz_some, tclr_I, tclr_R, tclr_U, tclr_L, tpu_some, tpu_none, nI4, nI4', nI_add, i01, i12, i23, i34, reduceIte, ht, hc, le20_f, if_false, nI_room, nI_rm0, not_false_eq_true, if_true, wcho]
      · have hcl : tcl (hW h w f g y) o = some 7 := hcl
        simp (disch := first | omega | assumption | exact hW_cl) only [rX9_dayToSay_0, rX9_dayToSay_1, rX9_dayToSay_4, rX9_dayToSay_6, rX9_dayToSay_9, rX9_dayToSay_10, rX9_dayToSay_13, rX9_dayToSay_16, rX9_dayToSay_17, rX9_dayToSay_20, rX9_dayToSay_21, rX9_dayToSay_22_0, rX9_dayToSay_22_2, rX9_dayToSay_22_3, rX9_dayToSay_22_4, rX9_dayToSay_22_6, rX9_dayToSay_22_7, rX9_dayToSay_25, e7, sX9_room, hW_cl, hW_g0, hW_g1, hW_g2, hW_g3, hW_g4, hW_g5, hW_g6, hW_g7, hW_g8, hW_g9, hW_g10, hW_g11, hW_g12, hW_g13, hW_g14, hW_r0, hW_r1, hW_r2, hW_r3, hW_r4, hW_r5, hW_r8, hW_r9, hW_r11, hW_r12, hW_r13, hW_w0, hW_w1, hW_w2, hW_w3, hW_w4, hW_w5, hW_w9, hW_w11, hW_w12, hW_w13, hW_p6, hW_p7, hW_p10, hW_p14, hW_l0, hW_l1, hW_l2, hW_l3, oz_some, tclr_I, tclr_R, tclr_U, tclr_L, tpu_some, tpu_none, nI4, nI4', nI_add, i01, i12, i23, i34, reduceIte, ht, hc, le20_f, if_false, nI_room, nI_rm0, not_false_eq_true, if_true, wcho]
def wbr (kd : Nat) : Nat := if kd = 4 then 4 else 1
theorem nI_min : ∀ b, b < 5 → ∀ c, c < 41 → (if nI c < nI b then nI c else nI b) = nI (min b c) := by decide +kernel
theorem sX9_sayingsAtOnce (hs : isS h o kd nu a) (ho : o < w ∨ w + 12 ≤ o) (hc : f 14 = nI c) (h4 : c ≤ 40) : tA sc iX9_sayingsAtOnce 0 [vR (some w), vR (some o)] [] (hW h w f g y) K = K (some (vI (nI (min (wbr kd) (40 - c))))) (hW h w f g y) := by
  have hs1 := isS_hW (f := f) (g := g) (y := y) ho hs
  have hcl := isS_cl hs1
  have m1 := nI_min 1 (by decide) (40 - c) (by omega)
  have m4 := nI_min 4 (by decide) (40 - c) (by omega)
  have k1 : nI 1 = 1 := rfl
  have k4 : nI 4 = 4 := rfl
  rw [k1] at m1
  rw [k4] at m4
  have hk := hs.1
  rcases (show kd = 0 ∨ kd = 1 ∨ kd = 2 ∨ kd = 3 ∨ kd = 4 ∨ kd = 5 by omega) with rfl | rfl | rfl | rfl | rfl | rfl
  · have hcl : tcl (hW h w f g y) o = some 4 := hcl
    simp (disch := first | omega | assumption | exact hW_cl) only [rX9_sayingsAtOnce_0, rX9_sayingsAtOnce_1_0, rX9_sayingsAtOnce_1_2, rX9_sayingsAtOnce_1_3, rX9_sayingsAtOnce_1_4, rX9_sayingsAtOnce_1_6, rX9_sayingsAtOnce_1_7, rX9_sayingsAtOnce_4, rX9_sayingsAtOnce_5, rX9_sayingsAtOnce_8, rX9_sayingsAtOnce_11, rX4_breadth_0, rX4_breadth_1, sX9_room, hW_cl, hW_g0, hW_g1, hW_g2, hW_g3, hW_g4, hW_g5, hW_g6, hW_g7, hW_g8, hW_g9, hW_g10, hW_g11, hW_g12, hW_g13, hW_g14, hW_r0, hW_r1, hW_r2, hW_r3, hW_r4, hW_r5, hW_r8, hW_r9, hW_r11, hW_r12, hW_r13, hW_w0, hW_w1, hW_w2, hW_w3, hW_w4, hW_w5, hW_w9, hW_w11, hW_w12, hW_w13, hW_p6, hW_p7, hW_p10, hW_p14, hW_l0, hW_l1, hW_l2, hW_l3, oz_some, tclr_I, tclr_R, tclr_U, tclr_L, tpu_some, tpu_none, nI4, nI4', nI_add, i01, i12, i23, i34, reduceIte, hc, nI_room, m1]
    rfl
  · have hcl : tcl (hW h w f g y) o = some 2 := hcl
    simp (disch := first | omega | assumption | exact hW_cl) only [rX9_sayingsAtOnce_0, rX9_sayingsAtOnce_1_0, rX9_sayingsAtOnce_1_2, rX9_sayingsAtOnce_1_3, rX9_sayingsAtOnce_1_4, rX9_sayingsAtOnce_1_6, rX9_sayingsAtOnce_1_7, rX9_sayingsAtOnce_4, rX9_sayingsAtOnce_5, rX9_sayingsAtOnce_8, rX9_sayingsAtOnce_11, rX4_breadth_0, rX4_breadth_1, sX9_room, hW_cl, hW_g0, hW_g1, hW_g2, hW_g3, hW_g4, hW_g5, hW_g6, hW_g7, hW_g8, hW_g9, hW_g10, hW_g11, hW_g12, hW_g13, hW_g14, hW_r0, hW_r1, hW_r2, hW_r3, hW_r4, hW_r5, hW_r8, hW_r9, hW_r11, hW_r12, hW_r13, hW_w0, hW_w1, hW_w2, hW_w3, hW_w4, hW_w5, hW_w9, hW_w11, hW_w12, hW_w13, hW_p6, hW_p7, hW_p10, hW_p14, hW_l0, hW_l1, hW_l2, hW_l3, oz_some, tclr_I, tclr_R, tclr_U, tclr_L, tpu_some, tpu_none, nI4, nI4', nI_add, i01, i12, i23, i34, reduceIte, hc, nI_room, m1]
    rfl
  · have hcl : tcl (hW h w f g y) o = some 3 := hcl
    simp (disch := first | omega | assumption | exact hW_cl) only [rX9_sayingsAtOnce_0, rX9_sayingsAtOnce_1_0, rX9_sayingsAtOnce_1_2, rX9_sayingsAtOnce_1_3, rX9_sayingsAtOnce_1_4, rX9_sayingsAtOnce_1_6, rX9_sayingsAtOnce_1_7, rX9_sayingsAtOnce_4, rX9_sayingsAtOnce_5, rX9_sayingsAtOnce_8, rX9_sayingsAtOnce_11, rX4_breadth_0, rX4_breadth_1, sX9_room, hW_cl, hW_g0, hW_g1, hW_g2, hW_g3, hW_g4, hW_g5, hW_g6, hW_g7, hW_g8, hW_g9, hW_g10, hW_g11, hW_g12, hW_g13, hW_g14, hW_r0, hW_r1, hW_r2, hW_r3, hW_r4, hW_r5, hW_r8, hW_r9, hW_r11, hW_r12, hW_r13, hW_w0, hW_w1, hW_w2, hW_w3, hW_w4, hW_w5, hW_w9, hW_w11, hW_w12, hW_w13, hW_p6, hW_p7, hW_p10, hW_p14, hW_l0, hW_l1, hW_l2, hW_l3, oz_some, tclr_I, tclr_R, tclr_U, tclr_L, tpu_some, tpu_none, nI4, nI4', nI_add, i01, i12, i23, i34, reduceIte, hc, nI_room, m1]
    rfl
  · have hcl : tcl (hW h w f g y) o = some 6 := hcl
    simp (disch := first | omega | assumption | exact hW_cl) only [rX9_sayingsAtOnce_0, rX9_sayingsAtOnce_1_0, rX9_sayingsAtOnce_1_2, rX9_sayingsAtOnce_1_3, rX9_sayingsAtOnce_1_4, rX9_sayingsAtOnce_1_6, rX9_sayingsAtOnce_1_7, rX9_sayingsAtOnce_4, rX9_sayingsAtOnce_5, rX9_sayingsAtOnce_8, rX9_sayingsAtOnce_11, rX4_breadth_0, rX4_breadth_1, sX9_room, hW_cl, hW_g0, hW_g1, hW_g2, hW_g3, hW_g4, hW_g5, hW_g6, hW_g7, hW_g8, hW_g9, hW_g10, hW_g11, hW_g12, hW_g13, hW_g14, hW_r0, hW_r1, hW_r2, hW_r3, hW_r4, hW_r5, hW_r8, hW_r9, hW_r11, hW_r12, hW_r13, hW_w0, hW_w1, hW_w2, hW_w3, hW_w4, hW_w5, hW_w9, hW_w11, hW_w12, hW_w13, hW_p6, hW_p7, hW_p10, hW_p14, hW_l0, hW_l1, hW_l2, hW_l3, oz_some, tclr_I, tclr_R, tclr_U, tclr_L, tpu_some, tpu_none, nI4, nI4', nI_add, i01, i12, i23, i34, reduceIte, hc, nI_room, m1]
    rfl
  · have hcl : tcl (hW h w f g y) o = some 0 := hcl
    simp (disch := first | omega | assumption | exact hW_cl) only [rX9_sayingsAtOnce_0, rX9_sayingsAtOnce_1_0, rX9_sayingsAtOnce_1_2, rX9_sayingsAtOnce_1_3, rX9_sayingsAtOnce_1_4, rX9_sayingsAtOnce_1_6, rX9_sayingsAtOnce_1_7, rX9_sayingsAtOnce_4, rX9_sayingsAtOnce_5, rX9_sayingsAtOnce_8, rX9_sayingsAtOnce_11, rX0_breadth_0, rX0_breadth_1, sX9_room, hW_cl, hW_g0, hW_g1, hW_g2, hW_g3, hW_g4, hW_g5, hW_g6, hW_g7, hW_g8, hW_g9, hW_g10, hW_g11, hW_g12, hW_g13, hW_g14, hW_r0, hW_r1, hW_r2, hW_r3, hW_r4, hW_r5, hW_r8, hW_r9, hW_r11, hW_r12, hW_r13, hW_w0, hW_w1, hW_w2, hW_w3, hW_w4, hW_w5, hW_w9, hW_w11, hW_w12, hW_w13, hW_p6, hW_p7, hW_p10, hW_p14, hW_l0, hW_l1, hW_l2, hW_l3, oz_some, tclr_I, tclr_R, tclr_U, tclr_L, tpu_some, tpu_none, nI4, nI4', nI_add, i01, i12, i23, i34, reduceIte, hc, nI_room, m4]
    rfl
  · have hcl : tcl (hW h w f g y) o = some 7 := hcl
    simp (disch := first | omega | assumption | exact hW_cl) only [rX9_sayingsAtOnce_0, rX9_sayingsAtOnce_1_0, rX9_sayingsAtOnce_1_2, rX9_sayingsAtOnce_1_3, rX9_sayingsAtOnce_1_4, rX9_sayingsAtOnce_1_6, rX9_sayingsAtOnce_1_7, rX9_sayingsAtOnce_4, rX9_sayingsAtOnce_5, rX9_sayingsAtOnce_8, rX9_sayingsAtOnce_11, rX4_breadth_0, rX4_breadth_1, sX9_room, hW_cl, hW_g0, hW_g1, hW_g2, hW_g3, hW_g4, hW_g5, hW_g6, hW_g7, hW_g8, hW_g9, hW_g10, hW_g11, hW_g12, hW_g13, hW_g14, hW_r0, hW_r1, hW_r2, hW_r3, hW_r4, hW_r5, hW_r8, hW_r9, hW_r11, hW_r12, hW_r13, hW_w0, hW_w1, hW_w2, hW_w3, hW_w4, hW_w5, hW_w9, hW_w11, hW_w12, hW_w13, hW_p6, hW_p7, hW_p10, hW_p14, hW_l0, hW_l1, hW_l2, hW_l3, oz_some, tclr_I, tclr_R, tclr_U, tclr_L, tpu_some, tpu_none, nI4, nI4', nI_add, i01, i12, i23, i34, reduceIte, hc, nI_room, m1]
    rfl
/-- the first weather that a sayer says -/
def wfst (g : Nat → Nat → Int32) (d kd a : Nat) : Nat := if kd = 4 then 0 else if kd = 5 then a % 4 else wlkN g d
theorem wfst_lt : wfst g d kd a < 4 := by
  unfold wfst
  by_cases q : kd = 4
  · rw [if_pos q]; decide
  · rw [if_neg q]
    by_cases q : kd = 5
    · rw [if_pos q]; omega
    · rw [if_neg q]; exact wlkN_lt
theorem sX4_firstWeather (hd : d < 20) : tA sc iX4_firstWeather 0 [vR (some o), vR (some w), vI (nI d)] [] (hW h w f g y) K = K (some (vI (nI (wlkN g d)))) (hW h w f g y) := by
  simp (disch := first | omega | exact hW_cl) only [rX4_firstWeather_0, rX4_firstWeather_1, rX4_firstWeather_2, rX4_firstWeather_5, sX9_likeliest, hW_cl, hW_g0, hW_g1, hW_g2, hW_g3, hW_g4, hW_g5, hW_g6, hW_g7, hW_g8, hW_g9, hW_g10, hW_g11, hW_g12, hW_g13, hW_g14, hW_r0, hW_r1, hW_r2, hW_r3, hW_r4, hW_r5, hW_r8, hW_r9, hW_r11, hW_r12, hW_r13, hW_w0, hW_w1, hW_w2, hW_w3, hW_w4, hW_w5, hW_w9, hW_w11, hW_w12, hW_w13, hW_p6, hW_p7, hW_p10, hW_p14, hW_l0, hW_l1, hW_l2, hW_l3, oz_some, tclr_I, tclr_R, tclr_U, tclr_L, tpu_some, tpu_none, nI4, nI4', nI_add, i01, i12, i23, i34, reduceIte, wlkN_eq]
theorem sX7_firstWeather (hs : isS (hW h w f g y) o kd nu a) : tA sc iX7_firstWeather 0 [vR (some o), vR (some w), vI (nI d)] [] (hW h w f g y) K = K (some (vI (nI (a % 4)))) (hW h w f g y) := by
  have ha := hs.2.2.1
  simp +decide (disch := first | omega | exact hW_cl) only [rX7_firstWeather_0, rX7_firstWeather_1, rX7_firstWeather_4, rX7_firstWeather_5, rX7_firstWeather_6, isS_g2 hs, hW_cl, hW_g0, hW_g1, hW_g2, hW_g3, hW_g4, hW_g5, hW_g6, hW_g7, hW_g8, hW_g9, hW_g10, hW_g11, hW_g12, hW_g13, hW_g14, hW_r0, hW_r1, hW_r2, hW_r3, hW_r4, hW_r5, hW_r8, hW_r9, hW_r11, hW_r12, hW_r13, hW_w0, hW_w1, hW_w2, hW_w3, hW_w4, hW_w5, hW_w9, hW_w11, hW_w12, hW_w13, hW_p6, hW_p7, hW_p10, hW_p14, hW_l0, hW_l1, hW_l2, hW_l3, oz_some, tclr_I, tclr_R, tclr_U, tclr_L, tpu_some, tpu_none, nI4, nI4', nI_add, i01, i12, i23, i34, reduceIte, nI_rem4, true_and, not_false_eq_true]
end S24
