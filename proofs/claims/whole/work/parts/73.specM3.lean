/-! WHAT THE MODEL'S METHODS DO, 3: lots -/
section S33
variable {sc : Nat × (Nat → Int32)} {h : TH} {m d k c A j i t s top : Nat} {f : Nat → Int32} {e : Nat → Int64} {g : Nat → Nat → Int32} {u : Nat → Nat → Int64} {x x1 x2 : Int32} {K : Option TV → TH → Prop}
theorem sX11_drawnI0 {L : Int32} (hA : f 1 = nI A) (h1 : A ≤ 168) (hd : d < 20) (hk : k < 4) : tA sc iX11_drawn 54 [vR (some m), vI (nI d), vI 0, vI L, vI (nI k)] [] (hM h m f e g u) K = if L < mwt g A d k then K (some (vI (nI k))) (hM h m f e g u) else tA sc iX11_drawn 54 [vR (some m), vI (nI d), vI 0, vI (L - mwt g A d k), vI (nI (k + 1))] [] (hM h m f e g u) K := by
  have e1 := fun (K : Option TV → TH → Prop) => sX11_weightOf (sc := sc) (h := h) (m := m) (e := e) (g := g) (u := u) (K := K) (k := k) hA h1 hd hk
  rw [rX11_drawn_54]
  simp (disch := first | omega | exact hM_cl) only [rX11_drawn_0, rX11_drawn_1, rX11_drawn_4, rX11_drawn_5, rX11_drawn_8, rX11_drawn_9, rX11_drawn_10, rX11_drawn_11, rX11_drawn_12, rX11_drawn_15, rX11_drawn_18, rX11_drawn_19, rX11_drawn_22, rX11_drawn_23, rX11_drawn_24, rX11_drawn_25, rX11_drawn_26, rX11_drawn_29, rX11_drawn_31, rX11_drawn_32, rX11_drawn_33, rX11_drawn_36, rX11_drawn_37, rX11_drawn_38, rX11_drawn_41, rX11_drawn_44, rX11_drawn_45, rX11_drawn_46, rX11_drawn_49, rX11_drawn_50, rX11_drawn_51, rX11_drawn_52, rX11_drawn_55, rX11_drawn_56, rX11_drawn_59, rX11_drawn_60, rX11_drawn_63, rX11_drawn_64, rX11_drawn_65, rX11_drawn_66, rX11_drawn_68, rX11_drawn_69, rX11_drawn_70, rX11_drawn_73, rX11_drawn_74, rX11_drawn_75, rX11_drawn_77, rX11_drawn_80, rX11_drawn_83, rX11_drawn_84, rX11_drawn_85, rX11_drawn_88, rX11_drawn_89, rX11_drawn_92, rX11_drawn_93, rX11_drawn_94, rX11_drawn_95, rX11_drawn_97, rX11_drawn_98, rX11_drawn_99, rX11_drawn_102, rX11_drawn_103, rX11_drawn_104, rX11_drawn_106, rX11_drawn_109, rX11_drawn_110, rX11_drawn_111, rX11_drawn_114, rX11_drawn_117, rX11_drawn_119, e1, tpu_some, if_true, tclr_I, nI_1]
theorem sX11_drawnI1 {L : Int32} (hd : d < 20) (hk : k < 4) : tA sc iX11_drawn 54 [vR (some m), vI (nI d), vI 1, vI L, vI (nI k)] [] (hM h m f e g u) K = if L < g 3 (4 * d + k) then K (some (vI (nI k))) (hM h m f e g u) else tA sc iX11_drawn 54 [vR (some m), vI (nI d), vI 1, vI (L - g 3 (4 * d + k)), vI (nI (k + 1))] [] (hM h m f e g u) K := by
  have n1 : ((1 : Int32) = 0) = False := by decide
  rw [rX11_drawn_54]
  simp (disch := first | omega | exact hM_cl) only [rX11_drawn_0, rX11_drawn_1, rX11_drawn_4, rX11_drawn_5, rX11_drawn_8, rX11_drawn_9, rX11_drawn_10, rX11_drawn_11, rX11_drawn_12, rX11_drawn_15, rX11_drawn_18, rX11_drawn_19, rX11_drawn_22, rX11_drawn_23, rX11_drawn_24, rX11_drawn_25, rX11_drawn_26, rX11_drawn_29, rX11_drawn_31, rX11_drawn_32, rX11_drawn_33, rX11_drawn_36, rX11_drawn_37, rX11_drawn_38, rX11_drawn_41, rX11_drawn_44, rX11_drawn_45, rX11_drawn_46, rX11_drawn_49, rX11_drawn_50, rX11_drawn_51, rX11_drawn_52, rX11_drawn_55, rX11_drawn_56, rX11_drawn_59, rX11_drawn_60, rX11_drawn_63, rX11_drawn_64, rX11_drawn_65, rX11_drawn_66, rX11_drawn_68, rX11_drawn_69, rX11_drawn_70, rX11_drawn_73, rX11_drawn_74, rX11_drawn_75, rX11_drawn_77, rX11_drawn_80, rX11_drawn_83, rX11_drawn_84, rX11_drawn_85, rX11_drawn_88, rX11_drawn_89, rX11_drawn_92, rX11_drawn_93, rX11_drawn_94, rX11_drawn_95, rX11_drawn_97, rX11_drawn_98, rX11_drawn_99, rX11_drawn_102, rX11_drawn_103, rX11_drawn_104, rX11_drawn_106, rX11_drawn_109, rX11_drawn_110, rX11_drawn_111, rX11_drawn_114, rX11_drawn_117, rX11_drawn_119, hM_cl, hM_g0, hM_g1, hM_g2, hM_g3, hM_g4, hM_g5, hM_g6, hM_g7, hM_g8, hM_g9, hM_g10, hM_g11, hM_g12, hM_g13, hM_g14, hM_g15, hM_g16, hM_g17, hM_g18, hM_g19, hM_g20, hM_g21, hM_g22, hM_g23, hM_g24, hM_g25, hM_g26, hM_g27, hM_g28, hM_g29, hM_g30, hM_g31, hM_g32, hM_g33, hM_g34, hM_g35, hM_g36, hM_g37, hM_g38, hM_g39, hM_g40, hM_g41, hM_g42, hM_g43, hM_g44, hM_g45, hM_g46, hM_g47, hM_g48, hM_g49, hM_g50, hM_g51, hM_g52, hM_r0, hM_w0, hM_r0_0, hM_w0_0, hM_r0_1, hM_w0_1, hM_r0_2, hM_w0_2, hM_r2, hM_w2, hM_r3, hM_w3, hM_r5, hM_w5, hM_r6, hM_w6, hM_r6_0, hM_w6_0, hM_r6_1, hM_w6_1, hM_r6_2, hM_w6_2, hM_r6_3, hM_w6_3, hM_r7, hM_w7, hM_r8, hM_w8, hM_r19, hM_w19, hM_r20, hM_w20, hM_r21, hM_w21, hM_r22, hM_w22, hM_r23, hM_w23, hM_r24, hM_w24, hM_r24_0, hM_w24_0, hM_r24_1, hM_w24_1, hM_r24_2, hM_w24_2, hM_r24_3, hM_w24_3, hM_r33, hM_w33, hM_r34, hM_w34, hM_r37, hM_w37, hM_r38, hM_w38, hM_w39, hM_r40, hM_w40, hM_r41, hM_w41, hM_r42, hM_w42, hM_r46, hM_w46, hM_r50, hM_w50, hM_r52, hM_w52, hM_r52_0, hM_w52_0, hM_p1, hM_p4, hM_p9, hM_p10, hM_p11, hM_p12, hM_p14, hM_p15, hM_p16, hM_p17, hM_p18, hM_p25, hM_p26, hM_p27, hM_p28, hM_p31, hM_p32, hM_p35, hM_p36, hM_p43, hM_p44, hM_p45, hM_p47, hM_p48, hM_p49, hM_p51, hM_p13, hM_p29, hM_p30, oz_some, n1, nI4', nI_add, if_false, tclr_I, nI_1]
def mdz (g : Nat → Nat → Int32) (A : Nat) : Int32 := g 0 (A + 1) * 1103515245 + 12345
def mleft (z all : Int32) : Int32 := (z.toUInt32 >>> (Int32.toUInt32 16 &&& Int32.toUInt32 31)).toInt32 - (z.toUInt32 >>> (Int32.toUInt32 16 &&& Int32.toUInt32 31)).toInt32 / all * all
def mpick (L v0 v1 v2 : Int32) : Int32 := if L < v0 then 0 else if L - v0 < v1 then 1 else if L - v0 - v1 < v2 then 2 else 3
def mdzG (g : Nat → Nat → Int32) (A : Nat) : Nat → Nat → Int32 := va_up g 0 (upd (g 0) (A + 1) (mdz g A))
theorem mdzG_0 {n : Nat} (h : n ≠ A + 1) : mdzG g A 0 n = g 0 n := pN h
theorem mwt_dz : mwt (mdzG g A) A d k = mwt g A d k := by
  unfold mwt
  rw [mdzG_0 (by omega)]
  rfl
theorem mal_dz : mal (mdzG g A) A d = mal g A d := by
  unfold mal
  rw [mdzG_0 (by omega)]
  rfl
theorem sX11_drawn0 (hA : f 1 = nI A) (h1 : A ≤ 168) (hd : d < 20) (hz : ¬ mal g A d = 0) (hN : mleft (mdz g A) (mal g A d) - mwt g A d 0 - mwt g A d 1 - mwt g A d 2 < mwt g A d 3) : tA sc iX11_drawn 0 [vR (some m), vI (nI d), vI 0, vU, vU] [] (hM h m f e g u) K = K (some (vI (mpick (mleft (mdz g A) (mal g A d)) (mwt g A d 0) (mwt g A d 1) (mwt g A d 2)))) (hM h m f e (mdzG g A) u) := by
  have e1 := fun (K : Option TV → TH → Prop) => sX11_its1 (sc := sc) (h := h) (m := m) (f := f) (e := e) (g := g) (u := u) (K := K) hA h1
  have e2 : ∀ (K : Option TV → TH → Prop), tA sc iX11_its 0 [vR (some m), vI 1] [] (hM h m f e (mdzG g A) u) K = K (some (vI (mdz g A))) (hM h m f e (mdzG g A) u) := fun K => by
    rw [sX11_its1 hA h1]
    rw [show mdzG g A 0 (A + 1) = mdz g A from pE _ _ _]
  have e3 := fun (K : Option TV → TH → Prop) => sX11_allOf (sc := sc) (h := h) (m := m) (f := f) (e := e) (g := mdzG g A) (u := u) (K := K) hA h1 hd
  have hw := hM_w0 (h := h) (w := m) (f := f) (e := e) (g := g) (u := u) (n := A + 1) (x := mdz g A) (by omega)
  have it := fun (k : Nat) (L : Int32) (hk : k < 4) => sX11_drawnI0 (sc := sc) (h := h) (m := m) (f := f) (e := e) (g := mdzG g A) (u := u) (K := K) (L := L) hA h1 hd hk
  have z0 : (g 0 (A + 1) * 1103515245 + 12345) = mdz g A := rfl
  simp (disch := first | omega | exact hM_cl) only [rX11_drawn_0, rX11_drawn_1, rX11_drawn_4, rX11_drawn_5, rX11_drawn_8, rX11_drawn_9, rX11_drawn_10, rX11_drawn_11, rX11_drawn_12, rX11_drawn_15, rX11_drawn_18, rX11_drawn_19, rX11_drawn_22, rX11_drawn_23, hM_g0, hM_g1, oz_some, tpu_some, hA, nI_1, e1, z0, hw]
  rw [show va_up g 0 (upd (g 0) (A + 1) (mdz g A)) = mdzG g A from rfl]
  simp (disch := first | omega | exact hM_cl) only [rX11_drawn_24, rX11_drawn_25, rX11_drawn_26, rX11_drawn_29, rX11_drawn_31, rX11_drawn_32, rX11_drawn_33, rX11_drawn_44, rX11_drawn_45, rX11_drawn_46, rX11_drawn_49, rX11_drawn_50, rX11_drawn_51, rX11_drawn_52, oz_some, tpu_some, tclr_I, if_true, e2, e3, mal_dz, hz, not_false_eq_true, true_and]
  rw [show ((mdz g A).toUInt32 >>> (Int32.toUInt32 16 &&& Int32.toUInt32 31)).toInt32 - ((mdz g A).toUInt32 >>> (Int32.toUInt32 16 &&& Int32.toUInt32 31)).toInt32 / mal g A d * mal g A d = mleft (mdz g A) (mal g A d) from rfl]
  rw [show ([vR (some m), vI (nI d), vI 0, vI (mleft (mdz g A) (mal g A d)), vI 0] : List TV) = [vR (some m), vI (nI d), vI 0, vI (mleft (mdz g A) (mal g A d)), vI (nI 0)] from rfl]
  rw [it 0 _ (by decide), it 1 _ (by decide), it 2 _ (by decide), it 3 _ (by decide)]
  simp only [mwt_dz]
  rw [if_pos hN]
  unfold mpick
  by_cases q0 : mleft (mdz g A) (mal g A d) < mwt g A d 0
  · rw [if_pos q0, if_pos q0]; rfl
  · rw [if_neg q0, if_neg q0]
    by_cases q1 : mleft (mdz g A) (mal g A d) - mwt g A d 0 < mwt g A d 1
    · rw [if_pos q1, if_pos q1]; rfl
    · rw [if_neg q1, if_neg q1]
      by_cases q2 : mleft (mdz g A) (mal g A d) - mwt g A d 0 - mwt g A d 1 < mwt g A d 2
      · rw [if_pos q2, if_pos q2]; rfl
      · rw [if_neg q2, if_neg q2]; rfl
end S33
