/-! WHAT THE MODEL'S METHODS DO, 2: sayings -/
section S32
variable {sc : Nat × (Nat → Int32)} {h : TH} {m d k c A j i t s top : Nat} {f : Nat → Int32} {e : Nat → Int64} {g : Nat → Nat → Int32} {u : Nat → Nat → Int64} {x x1 x2 : Int32} {K : Option TV → TH → Prop}
theorem sX11_its0 (hA : f 1 = nI A) (h1 : A ≤ 168) : tA sc iX11_its 0 [vR (some m), vI 0] [] (hM h m f e g u) K = K (some (vI (g 0 A))) (hM h m f e g u) := sX11_its (k := 0) hA h1 (by decide)
theorem sX11_its1 (hA : f 1 = nI A) (h1 : A ≤ 168) : tA sc iX11_its 0 [vR (some m), vI 1] [] (hM h m f e g u) K = K (some (vI (g 0 (A + 1)))) (hM h m f e g u) := sX11_its (k := 1) hA h1 (by decide)
theorem sX11_its2 (hA : f 1 = nI A) (h1 : A ≤ 168) : tA sc iX11_its 0 [vR (some m), vI 2] [] (hM h m f e g u) K = K (some (vI (g 0 (A + 2)))) (hM h m f e g u) := sX11_its (k := 2) hA h1 (by decide)
def msayR (r : Nat → Int32) (A c s : Nat) (x1 x2 p : Int32) : Nat → Int32 := upd (upd (upd (upd (upd r (A + 48 + 3 * c) (nI s)) (A + 48 + 3 * c + 1) x1) (A + 48 + 3 * c + 2) x2) (A + 2) (nI (c + 1))) (A + 43 + s) (r (A + 43 + s) - p)
theorem sX11_says (hA : f 1 = nI A) (h1 : A ≤ 168) (hc : g 0 (A + 2) = nI c) (h4 : c < 40) (hs : s < 5) : tA sc iX11_says 0 [vR (some m), vI (nI s), vI x1, vI x2, vU] [] (hM h m f e g u) K = K none (hM h m f e (va_up g 0 (msayR (g 0) A c s x1 x2 (g 6 2))) u) := by
  have e1 := fun (K : Option TV → TH → Prop) => sX11_its2 (sc := sc) (h := h) (m := m) (f := f) (e := e) (g := g) (u := u) (K := K) hA h1
  simp (disch := first | omega | exact hM_cl) only [rX11_says_0, rX11_says_1, rX11_says_4, rX11_says_6, rX11_says_7, rX11_says_8, rX11_says_9, rX11_says_10, rX11_says_13, rX11_says_14, rX11_says_15, rX11_says_17, rX11_says_18, rX11_says_21, rX11_says_23, rX11_says_24, rX11_says_25, rX11_says_26, rX11_says_29, rX11_says_31, rX11_says_32, rX11_says_33, rX11_says_34, rX11_says_35, rX11_says_36, rX11_says_39, rX11_says_41, rX11_says_42, rX11_says_43, rX11_says_44, rX11_says_45, rX11_says_46, rX11_says_49, rX11_says_50, rX11_says_53, rX11_says_54, rX11_says_55, rX11_says_56, rX11_says_57, rX11_says_58, rX11_says_59, rX11_says_60, rX11_says_61, rX11_says_64, rX11_says_65, rX11_says_68, rX11_says_70, rX11_says_71, rX11_says_72, rX11_says_73, rX11_says_74, rX11_says_75, rX11_says_76, rX11_says_79, rX11_says_80, rX11_says_81, rX11_says_82, rX11_says_83, e1, hc, hM_cl, hM_g0, hM_g1, hM_g2, hM_g3, hM_g4, hM_g5, hM_g6, hM_g7, hM_g8, hM_g9, hM_g10, hM_g11, hM_g12, hM_g13, hM_g14, hM_g15, hM_g16, hM_g17, hM_g18, hM_g19, hM_g20, hM_g21, hM_g22, hM_g23, hM_g24, hM_g25, hM_g26, hM_g27, hM_g28, hM_g29, hM_g30, hM_g31, hM_g32, hM_g33, hM_g34, hM_g35, hM_g36, hM_g37, hM_g38, hM_g39, hM_g40, hM_g41, hM_g42, hM_g43, hM_g44, hM_g45, hM_g46, hM_g47, hM_g48, hM_g49, hM_g50, hM_g51, hM_g52, hM_r0, hM_w0, hM_r0_0, hM_w0_0, hM_r0_1, hM_w0_1, hM_r0_2, hM_w0_2, hM_r2, hM_w2, hM_r3, hM_w3, hM_r5, hM_w5, hM_r6, hM_w6, hM_r6_0, hM_w6_0, hM_r6_1, hM_w6_1, hM_r6_2, hM_w6_2, hM_r6_3, hM_w6_3, hM_r7, hM_w7, hM_r8, hM_w8, hM_r19, hM_w19, hM_r20, hM_w20, hM_r21, hM_w21, hM_r22, hM_w22, hM_r23, hM_w23, hM_r24, hM_w24, hM_r24_0, hM_w24_0, hM_r24_1, hM_w24_1, hM_r24_2, hM_w24_2, hM_r24_3, hM_w24_3, hM_r33, hM_w33, hM_r34, hM_w34, hM_r37, hM_w37, hM_r38, hM_w38, hM_w39, hM_r40, hM_w40, hM_r41, hM_w41, hM_r42, hM_w42, hM_r46, hM_w46, hM_r50, hM_w50, hM_r52, hM_w52, hM_r52_0, hM_w52_0, hM_p1, hM_p4, hM_p9, hM_p10, hM_p11, hM_p12, hM_p14, hM_p15, hM_p16, hM_p17, hM_p18, hM_p25, hM_p26, hM_p27, hM_p28, hM_p31, hM_p32, hM_p35, hM_p36, hM_p43, hM_p44, hM_p45, hM_p47, hM_p48, hM_p49, hM_p51, hM_p13, hM_p29, hM_p30, oz_some, tpu_some, tclr_I, hA, nA48, nM3, nI_add, nI_1, nA2, nA43, uE, uU, uN, pN]
  rfl
def mone (g : Nat → Nat → Int32) (A c : Nat) (x y : Int32) : Int32 := if (msd g A c x >>> (y &&& 31)) &&& 1 = 1 then 0 else if c = 40 then 0 else 1
theorem sX11_one {y : Int32} (hA : f 1 = nI A) (h1 : A ≤ 168) (hc : g 0 (A + 2) = nI c) (h4 : c ≤ 40) : tA sc iX11_one 0 [vR (some m), vI x, vI y] [] (hM h m f e g u) K = K none (hM h m (upd (upd (upd f 25 x) 26 y) 27 (mone g A c x y)) e g u) := by
  have e1 := fun (K : Option TV → TH → Prop) => sX11_its2 (sc := sc) (h := h) (m := m) (f := upd (upd f 25 x) 26 y) (e := e) (g := g) (u := u) (K := K) hA h1
  have e2 := fun (K : Option TV → TH → Prop) => sX11_saidOf (sc := sc) (h := h) (m := m) (f := upd (upd f 25 x) 26 y) (e := e) (g := g) (u := u) (s := x) (K := K) hA h1 hc h4
  simp (disch := first | omega | exact hM_cl) only [rX11_one_0, rX11_one_1, rX11_one_2, rX11_one_5, rX11_one_6, rX11_one_7, rX11_one_10, rX11_one_11, rX11_one_12, rX11_one_13, rX11_one_16, rX11_one_17, rX11_one_18, rX11_one_19, rX11_one_20, rX11_one_21, rX11_one_24, rX11_one_25, rX11_one_26, rX11_one_29, rX11_one_31, rX11_one_34, rX11_one_35, rX11_one_38, rX11_one_39, rX11_one_42, e1, e2, hc, hM_cl, hM_g0, hM_g1, hM_g2, hM_g3, hM_g4, hM_g5, hM_g6, hM_g7, hM_g8, hM_g9, hM_g10, hM_g11, hM_g12, hM_g13, hM_g14, hM_g15, hM_g16, hM_g17, hM_g18, hM_g19, hM_g20, hM_g21, hM_g22, hM_g23, hM_g24, hM_g25, hM_g26, hM_g27, hM_g28, hM_g29, hM_g30, hM_g31, hM_g32, hM_g33, hM_g34, hM_g35, hM_g36, hM_g37, hM_g38, hM_g39, hM_g40, hM_g41, hM_g42, hM_g43, hM_g44, hM_g45, hM_g46, hM_g47, hM_g48, hM_g49, hM_g50, hM_g51, hM_g52, hM_r0, hM_w0, hM_r0_0, hM_w0_0, hM_r0_1, hM_w0_1, hM_r0_2, hM_w0_2, hM_r2, hM_w2, hM_r3, hM_w3, hM_r5, hM_w5, hM_r6, hM_w6, hM_r6_0, hM_w6_0, hM_r6_1, hM_w6_1, hM_r6_2, hM_w6_2, hM_r6_3, hM_w6_3, hM_r7, hM_w7, hM_r8, hM_w8, hM_r19, hM_w19, hM_r20, hM_w20, hM_r21, hM_w21, hM_r22, hM_w22, hM_r23, hM_w23, hM_r24, hM_w24, hM_r24_0, hM_w24_0, hM_r24_1, hM_w24_1, hM_r24_2, hM_w24_2, hM_r24_3, hM_w24_3, hM_r33, hM_w33, hM_r34, hM_w34, hM_r37, hM_w37, hM_r38, hM_w38, hM_w39, hM_r40, hM_w40, hM_r41, hM_w41, hM_r42, hM_w42, hM_r46, hM_w46, hM_r50, hM_w50, hM_r52, hM_w52, hM_r52_0, hM_w52_0, hM_p1, hM_p4, hM_p9, hM_p10, hM_p11, hM_p12, hM_p14, hM_p15, hM_p16, hM_p17, hM_p18, hM_p25, hM_p26, hM_p27, hM_p28, hM_p31, hM_p32, hM_p35, hM_p36, hM_p43, hM_p44, hM_p45, hM_p47, hM_p48, hM_p49, hM_p51, hM_p13, hM_p29, hM_p30, oz_some, tpu_some]
  unfold mone
  by_cases q : (msd g A c x >>> (y &&& 31)) &&& 1 = 1
  · simp [q]
  · by_cases q2 : c = 40
    · subst q2
      have e0 : nI 40 = 40 := rfl
      simp [q, e0]
    · have e0 : ¬ nI c = 40 := fun z => q2 ((nI_eq (by omega) (by decide)).mp (show nI c = nI 40 from z))
      simp [q, q2, e0]
def mlast (g : Nat → Nat → Int32) (A c t top : Nat) : Int32 := match lfind (fun i => decide (msd g A c (nI (top - i)) = 0)) (top + 1 - t) 0 with
  | some i => nI (top - i)
  | none => -1
theorem sX11_lastOpen (hA : f 1 = nI A) (h1 : A ≤ 168) (hc : g 0 (A + 2) = nI c) (h4 : c ≤ 40) (ht : g 0 A = nI t) (h2 : t < 20) (hk : t ≤ k) (hk2 : k < 40) : tA sc iX11_lastOpen 0 [vR (some m), vI (nI k), vU] [] (hM h m f e g u) K = K (some (vI (mlast g A c t (min 19 k)))) (hM h m f e g u) := by
  have e1 := fun (K : Option TV → TH → Prop) => sX11_its0 (sc := sc) (h := h) (m := m) (f := f) (e := e) (g := g) (u := u) (K := K) hA h1
  have e2 := fun (s : Int32) (K : Option TV → TH → Prop) => sX11_saidOf (sc := sc) (h := h) (m := m) (f := f) (e := e) (g := g) (u := u) (s := s) (K := K) hA h1 hc h4
  have htop : t ≤ min 19 k ∧ min 19 k < 20 := by omega
  have L := loopS (fun i => tA sc iX11_lastOpen 13 [vR (some m), vI (nI k), vI (nI (min 19 k + 1 - i) + (-1))] [] (hM h m f e g u) K) (fun o => K (some (vI (match o with | some i => nI (min 19 k - i) | none => -1))) (hM h m f e g u)) (fun i => decide (msd g A c (nI (min 19 k - i)) = 0)) (min 19 k + 1 - t) ?_ ?_ ?_ (min 19 k + 1 - t) 0 (by omega)
  · rw [Nat.sub_zero, nI_m1] at L
    have L : tA sc iX11_lastOpen 13 [vR (some m), vI (nI k), vI (nI (min 19 k))] [] (hM h m f e g u) K = K (some (vI (mlast g A c t (min 19 k)))) (hM h m f e g u) := L
    by_cases q : 20 ≤ k
    · have q0 : ((20 : Int32) ≤ nI k) = True := nIle_t (a := 20) q (by omega)
      rw [show min 19 k = 19 by omega] at L ⊢
      simp only [rX11_lastOpen_0, rX11_lastOpen_1, rX11_lastOpen_3, rX11_lastOpen_6, rX11_lastOpen_7, rX11_lastOpen_10, rX11_lastOpen_12, q0, if_true, tclr_I]
      exact L
    · have q0 : ((20 : Int32) ≤ nI k) = False := nIle_f (a := 20) (by omega) (by decide)
      rw [show min 19 k = k by omega] at L ⊢
      simp only [rX11_lastOpen_0, rX11_lastOpen_1, rX11_lastOpen_3, rX11_lastOpen_6, rX11_lastOpen_7, rX11_lastOpen_10, rX11_lastOpen_12, q0, if_false, tclr_I]
      exact L
  · have e0 : min 19 k + 1 - (min 19 k + 1 - t) = t := by omega
    rw [e0, rX11_lastOpen_13]
    have l1 := nI_lt1 t (by omega)
    have l2 : (nI t ≤ nI t + (-1)) = False := eq_false (fun z => absurd (of_eq_true l1) (Int32.not_lt.mpr z))
    simp (disch := first | omega | exact hM_cl) only [rX11_lastOpen_0, rX11_lastOpen_1, rX11_lastOpen_3, rX11_lastOpen_6, rX11_lastOpen_7, rX11_lastOpen_10, rX11_lastOpen_12, rX11_lastOpen_14, rX11_lastOpen_15, rX11_lastOpen_16, rX11_lastOpen_19, rX11_lastOpen_22, rX11_lastOpen_23, rX11_lastOpen_24, rX11_lastOpen_27, rX11_lastOpen_30, rX11_lastOpen_33, rX11_lastOpen_36, rX11_lastOpen_37, rX11_lastOpen_38, rX11_lastOpen_39, rX11_lastOpen_42, rX11_lastOpen_45, rX11_lastOpen_46, rX11_lastOpen_49, rX11_lastOpen_50, e1, ht, tpu_some, l1, l2, if_true, if_false]
  · intro i hi q
    have q1 := of_decide_eq_true q
    rw [rX11_lastOpen_13, show min 19 k + 1 - i = (min 19 k - i) + 1 by omega, nI_m1]
    simp (disch := first | omega | exact hM_cl) only [rX11_lastOpen_0, rX11_lastOpen_1, rX11_lastOpen_3, rX11_lastOpen_6, rX11_lastOpen_7, rX11_lastOpen_10, rX11_lastOpen_12, rX11_lastOpen_14, rX11_lastOpen_15, rX11_lastOpen_16, rX11_lastOpen_19, rX11_lastOpen_22, rX11_lastOpen_23, rX11_lastOpen_24, rX11_lastOpen_27, rX11_lastOpen_30, rX11_lastOpen_33, rX11_lastOpen_36, rX11_lastOpen_37, rX11_lastOpen_38, rX11_lastOpen_39, rX11_lastOpen_42, rX11_lastOpen_45, rX11_lastOpen_46, rX11_lastOpen_49, rX11_lastOpen_50, e1, e2, ht, tpu_some, nIlt_f, if_false, q1, nIle_t, if_true]
  · intro i hi q
    have q1 := of_decide_eq_false q
    rw [rX11_lastOpen_13, show min 19 k + 1 - i = (min 19 k - i) + 1 by omega, nI_m1]
    simp (disch := first | omega | exact hM_cl) only [rX11_lastOpen_0, rX11_lastOpen_1, rX11_lastOpen_3, rX11_lastOpen_6, rX11_lastOpen_7, rX11_lastOpen_10, rX11_lastOpen_12, rX11_lastOpen_14, rX11_lastOpen_15, rX11_lastOpen_16, rX11_lastOpen_19, rX11_lastOpen_22, rX11_lastOpen_23, rX11_lastOpen_24, rX11_lastOpen_27, rX11_lastOpen_30, rX11_lastOpen_33, rX11_lastOpen_36, rX11_lastOpen_37, rX11_lastOpen_38, rX11_lastOpen_39, rX11_lastOpen_42, rX11_lastOpen_45, rX11_lastOpen_46, rX11_lastOpen_49, rX11_lastOpen_50, e1, e2, ht, tpu_some, tclr_I, nIlt_f, if_false, q1]
    rw [show min 19 k + 1 - (i + 1) = min 19 k - i by omega]
end S32
