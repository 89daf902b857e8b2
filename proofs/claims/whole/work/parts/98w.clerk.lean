/-! THE CLERK, 13: the call -/
section S98w0
variable {sc : Nat × (Nat → Int32)} {h D : TH} {n q0 m q k : Nat} {tp : Nat → Nat} {x : Nat → Int32} {G : Nat → Nat → Int32} {Y : Nat → Nat → Option Nat} {f F fb : Nat → Int32} {g M gb : Nat → Nat → Int32} {y yb : Nat → Option Nat} {b c : WS} {cf tf : Nat → Int32} {cg tg : Nat → Nat → Int32} {E : Nat → Int64} {U : Nat → Nat → Int64} {K : Option TV → TH → Prop}
theorem d_forgetAll : tA sc iX9_forgetAll 0 [vR (some 13), vU] [] (hX h x G Y f g y (fb, gb, yb) c cf cg tf tg) K = K none (hX h x G Y f g y (upd (upd (upd fb 6 0) 10 0) 14 0, wfg gb, yb) c cf cg tf tg) := atW1 (fun h K => sX9_forgetAll) K
theorem x_step0 (h1 : cf 1 = nI n) (hn : n ≤ 240) (hT : TP n tp (cg 0)) (e0 : tks n tp 0 = q0) : tA sc iX1_step 0 [vR (some 37)] [] (hX h x G Y f g y b c (upd (upd cf 5 (-1)) 4 0) cg tf tg) K = K none (hX h x G Y f g y (b) c (cfS cf n tp (q0) (-1)) cg tf tg) := by
  conv => lhs; rw [hX_c]
  rw [sX1_step (n := n) (tp := tp) (p := 0) (f := upd (upd cf 5 (-1)) 4 0) (by rw [pN (by decide), pN (by decide)]; exact h1) hn hT (show upd (upd cf 5 (-1)) 4 0 4 = nI 0 from pE _ _ _) (Nat.zero_le _), hX_C, e0]
  refine congrArg (fun z => K none (hX h x G Y f g y b c z cg tf tg)) (cfS_ext rfl rfl rfl rfl (fun k k2 k3 k4 k5 => ?_))
  rw [cfS_ne k2 k3 k4 k5, pN k4, pN k5]
theorem e_class (hy : rY D y) (h1 : cf 1 = nI n) (hn : n ≤ 240) (hT : TP n tp (cg 0)) (e0 : tks n tp 0 = q0) : tA sc iX10_clerk 0 [vR (some 0), vU] [] (hX (hM D 45 F E M U) x G Y f g y b c cf cg tf tg) K = tA sc iX1_readInto 16 [vR (some 37), vR (some 13), vI (nI 0)] [] (hX (hM D 45 F E M U) x G Y f g y ((upd (upd (upd (wbecF b.1 f) 6 0) 10 0) 14 0, wfg (wbecG b.2.1 g), wbecY b.2.2 y)) c (cfS cf n tp (q0) (-1)) cg tf tg) (fun v h1 => tA sc iX10_clerk 29 [vR (some 0), vU] (tpu v []) h1 K) := by
  simp (disch := first | omega | assumption | exact hX_cl | exact hX_0cl | exact hX_1cl | exact hX_Ccl | exact hX_Tcl) only [rX10_clerk_0, rX10_clerk_1, rX10_clerk_4, rX10_clerk_5, rX10_clerk_8, rX10_clerk_11, rX10_clerk_12, rX10_clerk_15, rX10_clerk_18, rX10_clerk_19, rX10_clerk_22, rX10_clerk_23, rX10_clerk_26, rX10_clerk_30, rX10_clerk_31, rX10_clerk_34, rX10_clerk_35, rX10_clerk_38, rX10_clerk_39, rX10_clerk_42, rX10_clerk_44, rX10_clerk_45, rX10_clerk_46, rX10_clerk_47, rX10_clerk_48, rX10_clerk_51, rX10_clerk_52, rX10_clerk_55, rX10_clerk_58, rX10_clerk_59, rX10_clerk_60, rX10_clerk_63, rX10_clerk_64, rX10_clerk_67, rX10_clerk_70, rX1_readInto_0, rX1_readInto_1, rX1_readInto_2, rX1_readInto_5, rX1_readInto_6, rX1_readInto_7, rX1_readInto_10, rX1_readInto_11, rX1_readInto_14, rX1_readInto_15, rX1_readInto_17, rX1_readInto_20, rX1_readInto_23, rX1_readInto_24, rX1_readInto_27, rX1_readInto_30, rX1_readInto_31, rX1_readInto_34, rX1_readInto_37, rX1_readInto_38, rX1_readInto_39, rX1_readInto_42, rX1_readInto_45, rX1_readInto_48, rX1_readInto_49, rX1_readInto_52, hX_cl, hX_g0, hX_g1, hX_g2, hX_g3, hX_g4, hX_g5, hX_g6, hX_g7, hX_g8, hX_g9, hX_g10, hX_p3, hX_p6, hX_r_rows, hX_w_rows, hX_r_shs, hX_w_shs, hX_r_sh, hX_n_sh, hX_r_ss, hX_n_ss, hX_0cl, hX_0g0, hX_0g1, hX_0g2, hX_0g3, hX_0g4, hX_0g5, hX_0g6, hX_0g7, hX_0g8, hX_0g9, hX_0g10, hX_0g11, hX_0g12, hX_0g13, hX_0g14, hX_0r0, hX_0w0, hX_0r1, hX_0w1, hX_0r2, hX_0w2, hX_0r3, hX_0w3, hX_0r4, hX_0w4, hX_0r5, hX_0w5, hX_0r9, hX_0w9, hX_0r11, hX_0w11, hX_0r12, hX_0w12, hX_0r13, hX_0w13, hX_0r8, hX_0p6, hX_0p7, hX_0p10, hX_0p14, hX_1cl, hX_1g0, hX_1g1, hX_1g2, hX_1g3, hX_1g4, hX_1g5, hX_1g6, hX_1g7, hX_1g8, hX_1g9, hX_1g10, hX_1g11, hX_1g12, hX_1g13, hX_1g14, hX_1r0, hX_1r1, hX_1r2, hX_1r3, hX_1r4, hX_1r5, hX_1r9, hX_1r11, hX_1r12, hX_1r13, hX_1r8, hX_Ccl, hX_Cg0, hX_Cg1, hX_Cp1, hX_Cg2, hX_Cp2, hX_Cg3, hX_Cp3, hX_Cg4, hX_Cp4, hX_Cg5, hX_Cp5, hX_Cr0, hX_Tcl, hX_Tg0, hX_Tg1, hX_Tp1, hX_Tg2, hX_Tp2, hX_Tr0, oz_some, tpu_some, tpu_none, tclr_I, tclr_R, tclr_U, tclr_L, if_true, if_false, i10, not_true_eq_false, not_false_eq_true, x_bec_draft hy, d_forgetAll, x_step0 h1 hn hT e0]
  rfl
theorem e_model (h9 : F 9 = nI n) (hn : n ≤ 240) (hQ : TQ n tp (M 8)) (e0 : tks n tp 0 = q0) : tA sc iX11_clerk 0 [vR (some m), vU] [] (hM h m F E M U) K = tA sc iX11_clerk 79 [vR (some m), vI (nI 80)] [] (hM h m (FmS (F1c F) n tp q0 1) (EmS E n tp q0) (Zf M (fiL 20 10 (M 19)) (fiL 20 (-1) (M 21)) (fiL 80 1 (M 20))) U) K := by
  rw [m_pre, rX11_clerk_75, rX11_clerk_76 hM_cl, sX11_advance (n := n) (tp := tp) (p := 0) (g := Zf M (fiL 20 10 (M 19)) (fiL 20 (-1) (M 21)) (fiL 80 1 (M 20))) (show F1c F 9 = nI n from h9) hn hQ rfl (Nat.zero_le _), e0, tpu_none]
  rfl
theorem gsame_rf : gsame g g := ⟨fun _ _ => rfl, fun _ _ => rfl, fun _ _ => rfl, fun _ _ => rfl, fun _ _ => rfl, fun _ _ => rfl, fun _ _ => rfl, fun _ _ => rfl, fun _ _ => rfl, fun _ _ => rfl⟩
end S98w0
section S98w
variable {sc : Nat × (Nat → Int32)} {q : Nat} {H : TH}
theorem c_clerk (hq : q ≤ 64) (R : Rel q H) : Duo sc q iX10_clerk iX11_clerk [vR (some 0), vU] [vR (some 45), vU] H := by
  obtain ⟨D, F, E, M, U, x, G, Y, f, g, y, b, c, cf, cg, tf, tg, rfl, R⟩ := R
  have R0 := R
  obtain ⟨p1, p2, ⟨t, n, cs, t20, n5, w6, m6, w7, w10, s4, w14, hT, hD, hS⟩, p4, p5, p6, p7, p8, p9, p10⟩ := R
  have hA := p2.1
  have R1 : rQ 0 t n cs D f g y (F 4) M := ⟨t20, n5, w6, m6, w7, w10, s4, w14, hT, hD, hS⟩
  obtain ⟨tn, t1, t2, t3, t4⟩ := p7
  obtain ⟨tp, htp⟩ : ∃ tp : Nat → Nat, ∀ k, (M 8 k).toNatClampNeg = tp k := ⟨_, fun _ => rfl⟩
  have hTP : TP tn tp (cg 0) := by
    intro k hk
    obtain ⟨v, hv, e1, e2⟩ := t4 k hk
    have e : tp k = v := by rw [← htp, e1, nI_clamp (by omega)]
    rw [e]
    exact ⟨hv, e2⟩
  have hTQ : TQ tn tp (M 8) := by
    intro k hk
    obtain ⟨v, hv, e1, e2⟩ := t4 k hk
    have e : tp k = v := by rw [← htp, e1, nI_clamp (by omega)]
    rw [e]
    exact ⟨hv, e1⟩
  obtain ⟨q0, e0⟩ : ∃ q0, tks tn tp 0 = q0 := ⟨_, rfl⟩
  have l0 : q0 ≤ tn := e0 ▸ tks_le (Nat.zero_le _)
  have g5 : ∀ l, l < 4 → wfg (wbecG b.2.1 g) 5 l = g 5 l := by
    intro l hl
    rw [wfg_o (by decide) (by decide) (by decide) (by decide) (by decide)]
    exact (gsame_bec (g' := b.2.1)).2.2.2.2.2.1 l hl
  have RF : rQ 0 0 0 0 D (upd (upd (upd (wbecF b.1 f) 6 0) 10 0) 14 0) (wfg (wbecG b.2.1 g)) (wbecY b.2.2 y) (F1c F 17) (MFr (F1c F) (Zf M (fiL 20 10 (M 19)) (fiL 20 (-1) (M 21)) (fiL 80 1 (M 20)))) := by
    refine rQ_fresh (wfg_F _) ⟨rfl, rfl, rfl⟩ rfl w7 rfl rfl ?_ ?_ ?_ ?_ ?_ ?_
    · intro d hd
      rw [MFr_s hd]
      exact fiL_in hd
    · intro d hd
      exact MFr_w hd
    · intro d hd
      exact fiL_in hd
    · intro d hd
      exact fiL_in hd
    · intro l hl
      rw [g5 l hl]
      exact hT.2.2.1 l hl
    · rw [g5 0 (by decide), g5 1 (by decide), g5 2 (by decide), g5 3 (by decide)]
      exact hT.2.2.2.1
  have d1 := p1.1
  have d2 := p1.2.1
  have d3 := p1.2.2.1
  have X0 : xb D D 0 := ⟨⟨Nat.le_refl _, fun _ _ => rfl⟩, rfl, rfl, p1.2.2.2⟩
  have eC := fun (K : Option TV → TH → Prop) => e_class (sc := sc) (F := F) (E := E) (M := M) (U := U) (x := x) (G := G) (Y := Y) (g := g) (f := f) (b := b) (c := c) (tf := tf) (tg := tg) (K := K) p4.1 t2 t1 hTP e0
  have eM := fun (h : TH) (K : Option TV → TH → Prop) => e_model (sc := sc) (h := h) (m := 45) (E := E) (U := U) (K := K) t3 t1 hTQ e0
  rcases rd_loop (sc := sc) (D0 := D) (F0 := F) (E0 := E) (M0 := M) (U0 := U) (x := x) (G := G) (Y := Y) (f := f) (g := g) (y := y) (c := c) (tf := tf) (tg := tg) (m := 45) (E := E) (U := U) (l1 := vI (nI 80)) t2 t1 hTP d1 (by omega) tn 0 q0 0 0 0 D _ _ _ (F1c F) (Zf M (fiL 20 10 (M 19)) (fiL 20 (-1) (M 21)) (fiL 80 1 (M 20))) (by omega) (Nat.zero_le _) l0 t3 hTQ RF X0 (rY_bec p4.1) with ⟨j, D', b', qs, p, F', M', c1, c2, c3, c4, c5, c6, c7, c8⟩ | ⟨D', b', q', t', ns', cs', F', M', c2, c3, c4, c5, c6, c7, c8, c9⟩
  · have mk : ∀ k, k < 19 ∨ 24 < k → M' k = M k := by
      intro k hk
      rw [c6 k (by omega) (by omega) (by omega) (by omega) (by omega) (by omega)]
      unfold Zf
      rw [uN (by omega), uN (by omega), uN (by omega)]
    have fk : ∀ k, k < 9 ∨ 18 < k → upd (FmS F' tn tp p 0) 9 0 k = F k := by
      intro k hk
      rw [pN (by omega), FmS_ne (by omega) (by omega) (by omega) (by omega) (by omega), c5 k (by omega) (by omega) (by omega)]
      unfold F1c
      rw [pN (by omega), pN (by omega), pN (by omega), pN (by omega), pN (by omega)]
    have n0 := nIlt0 (a := p) (by omega)
    have hx : ∀ K, tA sc iX10_clerk 0 [vR (some 0), vU] [] (hX (hM D 45 F E M U) x G Y f g y b c cf cg tf tg) K = K (some (vI (-100 - nI p))) (hX (hM (D') 45 F E M U) x G Y f g y (b') c (upd (cfS cf tn tp qs (nI p)) 1 0) cg tf tg) := by
      intro K
      rw [eC, c7]
      simp (disch := first | omega | assumption | exact hX_cl | exact hX_0cl | exact hX_1cl | exact hX_Ccl | exact hX_Tcl) only [rX10_clerk_0, rX10_clerk_1, rX10_clerk_4, rX10_clerk_5, rX10_clerk_8, rX10_clerk_11, rX10_clerk_12, rX10_clerk_15, rX10_clerk_18, rX10_clerk_19, rX10_clerk_22, rX10_clerk_23, rX10_clerk_26, rX10_clerk_29, rX10_clerk_30, rX10_clerk_31, rX10_clerk_34, rX10_clerk_35, rX10_clerk_38, rX10_clerk_39, rX10_clerk_42, rX10_clerk_44, rX10_clerk_45, rX10_clerk_46, rX10_clerk_47, rX10_clerk_48, rX10_clerk_51, rX10_clerk_52, rX10_clerk_55, rX10_clerk_58, rX10_clerk_59, rX10_clerk_60, rX10_clerk_63, rX10_clerk_64, rX10_clerk_67, rX10_clerk_70, hX_cl, hX_g0, hX_g1, hX_g2, hX_g3, hX_g4, hX_g5, hX_g6, hX_g7, hX_g8, hX_g9, hX_g10, hX_p3, hX_p6, hX_r_rows, hX_w_rows, hX_r_shs, hX_w_shs, hX_r_sh, hX_n_sh, hX_r_ss, hX_n_ss, hX_0cl, hX_0g0, hX_0g1, hX_0g2, hX_0g3, hX_0g4, hX_0g5, hX_0g6, hX_0g7, hX_0g8, hX_0g9, hX_0g10, hX_0g11, hX_0g12, hX_0g13, hX_0g14, hX_0r0, hX_0w0, hX_0r1, hX_0w1, hX_0r2, hX_0w2, hX_0r3, hX_0w3, hX_0r4, hX_0w4, hX_0r5, hX_0w5, hX_0r9, hX_0w9, hX_0r11, hX_0w11, hX_0r12, hX_0w12, hX_0r13, hX_0w13, hX_0r8, hX_0p6, hX_0p7, hX_0p10, hX_0p14, hX_1cl, hX_1g0, hX_1g1, hX_1g2, hX_1g3, hX_1g4, hX_1g5, hX_1g6, hX_1g7, hX_1g8, hX_1g9, hX_1g10, hX_1g11, hX_1g12, hX_1g13, hX_1g14, hX_1r0, hX_1r1, hX_1r2, hX_1r3, hX_1r4, hX_1r5, hX_1r9, hX_1r11, hX_1r12, hX_1r13, hX_1r8, hX_Ccl, hX_Cg0, hX_Cg1, hX_Cp1, hX_Cg2, hX_Cp2, hX_Cg3, hX_Cp3, hX_Cg4, hX_Cp4, hX_Cg5, hX_Cp5, hX_Cr0, hX_Tcl, hX_Tg0, hX_Tg1, hX_Tp1, hX_Tg2, hX_Tp2, hX_Tr0, oz_some, tpu_some, tpu_none, tclr_I, tclr_R, tclr_U, tclr_L, if_true, if_false, i10, not_true_eq_false, not_false_eq_true, n0]
    have hm : ∀ h K, tA sc iX11_clerk 0 [vR (some 45), vU] [] (hM h 45 F E M U) K = K (some (vI (-100 - nI p))) (hM h 45 (upd (FmS F' tn tp p 0) 9 0) (EmS E tn tp p) (M') U) := by
      intro h K
      rw [eM, c8]
      simp (disch := first | omega | assumption | exact hM_cl | decide) only [rX11_clerk_0, rX11_clerk_1, rX11_clerk_2, rX11_clerk_5, rX11_clerk_6, rX11_clerk_7, rX11_clerk_10, rX11_clerk_11, rX11_clerk_12, rX11_clerk_15, rX11_clerk_16, rX11_clerk_17, rX11_clerk_20, rX11_clerk_21, rX11_clerk_22, rX11_clerk_25, rX11_clerk_26, rX11_clerk_27, rX11_clerk_28, rX11_clerk_30, rX11_clerk_33, rX11_clerk_34, rX11_clerk_37, rX11_clerk_38, rX11_clerk_40, rX11_clerk_41, rX11_clerk_42, rX11_clerk_45, rX11_clerk_46, rX11_clerk_47, rX11_clerk_48, rX11_clerk_51, rX11_clerk_54, rX11_clerk_55, rX11_clerk_56, rX11_clerk_57, rX11_clerk_59, rX11_clerk_62, rX11_clerk_63, rX11_clerk_66, rX11_clerk_67, rX11_clerk_68, rX11_clerk_69, rX11_clerk_72, rX11_clerk_75, rX11_clerk_76, rX11_clerk_79, rX11_clerk_80, rX11_clerk_83, rX11_clerk_86, rX11_clerk_87, rX11_clerk_90, rX11_clerk_93, rX11_clerk_94, rX11_clerk_97, rX11_clerk_100, rX11_clerk_101, rX11_clerk_102, rX11_clerk_105, rX11_clerk_106, rX11_clerk_109, rX11_clerk_112, rX11_clerk_114, rX11_clerk_115, rX11_clerk_118, rX11_clerk_119, rX11_clerk_120, rX11_clerk_121, rX11_clerk_124, rX11_clerk_125, rX11_clerk_126, rX11_clerk_129, rX11_clerk_130, rX11_clerk_133, hM_cl, hM_g0, hM_g1, hM_g2, hM_g3, hM_g4, hM_g5, hM_g6, hM_g7, hM_g8, hM_g9, hM_g10, hM_g11, hM_g12, hM_g13, hM_g14, hM_g15, hM_g16, hM_g17, hM_g18, hM_g19, hM_g20, hM_g21, hM_g22, hM_g23, hM_g24, hM_g25, hM_g26, hM_g27, hM_g28, hM_g29, hM_g30, hM_g31, hM_g32, hM_g33, hM_g34, hM_g35, hM_g36, hM_g37, hM_g38, hM_g39, hM_g40, hM_g41, hM_g42, hM_g43, hM_g44, hM_g45, hM_g46, hM_g47, hM_g48, hM_g49, hM_g50, hM_g51, hM_g52, hM_r0, hM_w0, hM_r0_0, hM_w0_0, hM_r0_1, hM_w0_1, hM_r0_2, hM_w0_2, hM_r2, hM_w2, hM_r3, hM_w3, hM_r5, hM_w5, hM_r6, hM_w6, hM_r6_0, hM_w6_0, hM_r6_1, hM_w6_1, hM_r6_2, hM_w6_2, hM_r6_3, hM_w6_3, hM_r7, hM_w7, hM_r8, hM_w8, hM_r19, hM_w19, hM_r20, hM_w20, hM_r21, hM_w21, hM_r22, hM_w22, hM_r23, hM_w23, hM_r24, hM_w24, hM_r24_0, hM_w24_0, hM_r24_1, hM_w24_1, hM_r24_2, hM_w24_2, hM_r24_3, hM_w24_3, hM_r33, hM_w33, hM_r34, hM_w34, hM_r37, hM_w37, hM_r38, hM_w38, hM_w39, hM_r40, hM_w40, hM_r41, hM_w41, hM_r42, hM_w42, hM_r46, hM_w46, hM_r50, hM_w50, hM_r52, hM_w52, hM_r52_0, hM_w52_0, hM_p1, hM_p4, hM_p9, hM_p10, hM_p11, hM_p12, hM_p14, hM_p15, hM_p16, hM_p17, hM_p18, hM_p25, hM_p26, hM_p27, hM_p28, hM_p31, hM_p32, hM_p35, hM_p36, hM_p43, hM_p44, hM_p45, hM_p47, hM_p48, hM_p49, hM_p51, hM_p13, hM_p29, hM_p30, oz_some, tpu_some, tpu_none, tclr_I, tclr_R, tclr_U, tclr_L, if_true, if_false, i10, not_true_eq_false, not_false_eq_true, pN, FmS_15, FmS_11, i00_0]
    have R2 : rQ 0 t n cs D f g y (F 4) M' := rQ_same ⟨rfl, rfl, rfl, rfl⟩ gsame_rf (fun _ _ => rfl) ⟨fun k _ => by rw [mk 0 (by omega)], fun k _ => by rw [mk 2 (by omega)], fun k _ => by rw [mk 3 (by omega)], fun k _ => by rw [mk 5 (by omega)], fun k _ => by rw [mk 6 (by omega)]⟩ R1
    have R3 : rW D f g y (upd (FmS F' tn tp p 0) 9 0 4) M' := by
      rw [fk 4 (by omega)]
      exact ⟨t, n, cs, R2⟩
    refine mkDuo hx hm ⟨⟨by have := c3.2.1; omega, by have := c3.2.1; omega, by have := c3.2.2.1; omega, c3.2.2.2⟩, ?_, rW_ext c3.1 R3, ⟨rY_ext c3.1 p4.1, c4, rY_ext c3.1 p4.2.2⟩, rK_ext c3.1 ?_, ?_, ⟨0, by decide, pE _ _ _, pE _ _ _, fun k hk => absurd hk (Nat.not_lt_zero k)⟩, rH_ext c3.1 ?_, rL_ext c3.1 ?_, ?_⟩
    · unfold rC
      rw [fk 1 (by omega), mk 7 (by omega)]
      exact p2
    · unfold rK
      rw [fk 49 (by omega), mk 50 (by omega)]
      exact p5
    · unfold rR
      rw [fk 35 (by omega), mk 33 (by omega)]
      exact p6
    · unfold rH
      rw [mk 37 (by omega), mk 38 (by omega)]
      exact p8
    · unfold rL
      rw [mk 40 (by omega), mk 41 (by omega), mk 42 (by omega)]
      exact p9
    · unfold rB
      rw [fk 47 (by omega), mk 46 (by omega)]
      exact p10
  · have n5' := c7.2.1
    have f10 : b'.1 10 = nI ns' := c7.2.2.2.2.2.1
    have f17 : F' 17 = nI ns' := c7.2.2.2.2.2.2.1
    have mk : ∀ k, k ≠ 0 → k ≠ 2 → k ≠ 3 → k ≠ 5 → k < 19 ∨ 24 < k → becM F' M' k = M k := by
      intro k h0 h2 h3 h5 hk
      unfold becM
      rw [Zm_o h5 h2 h3 h0, c6 k (by omega) (by omega) (by omega) (by omega) (by omega) (by omega)]
      unfold Zf
      rw [uN (by omega), uN (by omega), uN (by omega)]
    have fk : ∀ k, k ≠ 4 → k ≠ 35 → k < 9 ∨ 18 < k → upd (upd (upd (FmS F' tn tp q' 1) 9 0) 4 (F' 17)) 35 0 k = F k := by
      intro k h4 h35 hk
      rw [pN h35, pN h4, pN (by omega), FmS_ne (by omega) (by omega) (by omega) (by omega) (by omega), c5 k (by omega) (by omega) (by omega)]
      unfold F1c
      rw [pN (by omega), pN (by omega), pN (by omega), pN (by omega), pN (by omega)]
    have w10' : wbecF f b'.1 10 = nI ns' := f10
    have eb : becM (upd (FmS F' tn tp q' 1) 9 0) M' = becM F' M' := rfl
    have e17 : upd (FmS F' tn tp q' 1) 9 0 17 = F' 17 := rfl
    have hx : ∀ K, tA sc iX10_clerk 0 [vR (some 0), vU] [] (hX (hM D 45 F E M U) x G Y f g y b c cf cg tf tg) K = K (some (vI (nI ns'))) (hX (hM (D') 45 F E M U) (upd x 6 0) G Y (wbecF f b'.1) (wbecG g b'.2.1) (wbecY y b'.2.2) (b') c (upd (cfS cf tn tp q' (-1)) 1 0) cg tf tg) := by
      intro K
      rw [eC, c8]
      simp (disch := first | omega | assumption | exact hX_cl | exact hX_0cl | exact hX_1cl | exact hX_Ccl | exact hX_Tcl) only [rX10_clerk_0, rX10_clerk_1, rX10_clerk_4, rX10_clerk_5, rX10_clerk_8, rX10_clerk_11, rX10_clerk_12, rX10_clerk_15, rX10_clerk_18, rX10_clerk_19, rX10_clerk_22, rX10_clerk_23, rX10_clerk_26, rX10_clerk_29, rX10_clerk_30, rX10_clerk_31, rX10_clerk_34, rX10_clerk_35, rX10_clerk_38, rX10_clerk_39, rX10_clerk_42, rX10_clerk_44, rX10_clerk_45, rX10_clerk_46, rX10_clerk_47, rX10_clerk_48, rX10_clerk_51, rX10_clerk_52, rX10_clerk_55, rX10_clerk_58, rX10_clerk_59, rX10_clerk_60, rX10_clerk_63, rX10_clerk_64, rX10_clerk_67, rX10_clerk_70, hX_cl, hX_g0, hX_g1, hX_g2, hX_g3, hX_g4, hX_g5, hX_g6, hX_g7, hX_g8, hX_g9, hX_g10, hX_p3, hX_p6, hX_r_rows, hX_w_rows, hX_r_shs, hX_w_shs, hX_r_sh, hX_n_sh, hX_r_ss, hX_n_ss, hX_0cl, hX_0g0, hX_0g1, hX_0g2, hX_0g3, hX_0g4, hX_0g5, hX_0g6, hX_0g7, hX_0g8, hX_0g9, hX_0g10, hX_0g11, hX_0g12, hX_0g13, hX_0g14, hX_0r0, hX_0w0, hX_0r1, hX_0w1, hX_0r2, hX_0w2, hX_0r3, hX_0w3, hX_0r4, hX_0w4, hX_0r5, hX_0w5, hX_0r9, hX_0w9, hX_0r11, hX_0w11, hX_0r12, hX_0w12, hX_0r13, hX_0w13, hX_0r8, hX_0p6, hX_0p7, hX_0p10, hX_0p14, hX_1cl, hX_1g0, hX_1g1, hX_1g2, hX_1g3, hX_1g4, hX_1g5, hX_1g6, hX_1g7, hX_1g8, hX_1g9, hX_1g10, hX_1g11, hX_1g12, hX_1g13, hX_1g14, hX_1r0, hX_1r1, hX_1r2, hX_1r3, hX_1r4, hX_1r5, hX_1r9, hX_1r11, hX_1r12, hX_1r13, hX_1r8, hX_Ccl, hX_Cg0, hX_Cg1, hX_Cp1, hX_Cg2, hX_Cp2, hX_Cg3, hX_Cp3, hX_Cg4, hX_Cp4, hX_Cg5, hX_Cp5, hX_Cr0, hX_Tcl, hX_Tg0, hX_Tg1, hX_Tp1, hX_Tg2, hX_Tp2, hX_Tr0, oz_some, tpu_some, tpu_none, tclr_I, tclr_R, tclr_U, tclr_L, if_true, if_false, i10, not_true_eq_false, not_false_eq_true, m1lt, x_bec_clerk c4, w10']
    have hm : ∀ h K, tA sc iX11_clerk 0 [vR (some 45), vU] [] (hM h 45 F E M U) K = K (some (vI (nI ns'))) (hM h 45 (upd (upd (upd (FmS F' tn tp q' 1) 9 0) 4 (F' 17)) 35 0) (EmS E tn tp q') (becM F' M') U) := by
      intro h K
      rw [eM, c9]
      simp (disch := first | omega | assumption | exact hM_cl | decide) only [rX11_clerk_0, rX11_clerk_1, rX11_clerk_2, rX11_clerk_5, rX11_clerk_6, rX11_clerk_7, rX11_clerk_10, rX11_clerk_11, rX11_clerk_12, rX11_clerk_15, rX11_clerk_16, rX11_clerk_17, rX11_clerk_20, rX11_clerk_21, rX11_clerk_22, rX11_clerk_25, rX11_clerk_26, rX11_clerk_27, rX11_clerk_28, rX11_clerk_30, rX11_clerk_33, rX11_clerk_34, rX11_clerk_37, rX11_clerk_38, rX11_clerk_40, rX11_clerk_41, rX11_clerk_42, rX11_clerk_45, rX11_clerk_46, rX11_clerk_47, rX11_clerk_48, rX11_clerk_51, rX11_clerk_54, rX11_clerk_55, rX11_clerk_56, rX11_clerk_57, rX11_clerk_59, rX11_clerk_62, rX11_clerk_63, rX11_clerk_66, rX11_clerk_67, rX11_clerk_68, rX11_clerk_69, rX11_clerk_72, rX11_clerk_75, rX11_clerk_76, rX11_clerk_79, rX11_clerk_80, rX11_clerk_83, rX11_clerk_86, rX11_clerk_87, rX11_clerk_90, rX11_clerk_93, rX11_clerk_94, rX11_clerk_97, rX11_clerk_100, rX11_clerk_101, rX11_clerk_102, rX11_clerk_105, rX11_clerk_106, rX11_clerk_109, rX11_clerk_112, rX11_clerk_114, rX11_clerk_115, rX11_clerk_118, rX11_clerk_119, rX11_clerk_120, rX11_clerk_121, rX11_clerk_124, rX11_clerk_125, rX11_clerk_126, rX11_clerk_129, rX11_clerk_130, rX11_clerk_133, hM_cl, hM_g0, hM_g1, hM_g2, hM_g3, hM_g4, hM_g5, hM_g6, hM_g7, hM_g8, hM_g9, hM_g10, hM_g11, hM_g12, hM_g13, hM_g14, hM_g15, hM_g16, hM_g17, hM_g18, hM_g19, hM_g20, hM_g21, hM_g22, hM_g23, hM_g24, hM_g25, hM_g26, hM_g27, hM_g28, hM_g29, hM_g30, hM_g31, hM_g32, hM_g33, hM_g34, hM_g35, hM_g36, hM_g37, hM_g38, hM_g39, hM_g40, hM_g41, hM_g42, hM_g43, hM_g44, hM_g45, hM_g46, hM_g47, hM_g48, hM_g49, hM_g50, hM_g51, hM_g52, hM_r0, hM_w0, hM_r0_0, hM_w0_0, hM_r0_1, hM_w0_1, hM_r0_2, hM_w0_2, hM_r2, hM_w2, hM_r3, hM_w3, hM_r5, hM_w5, hM_r6, hM_w6, hM_r6_0, hM_w6_0, hM_r6_1, hM_w6_1, hM_r6_2, hM_w6_2, hM_r6_3, hM_w6_3, hM_r7, hM_w7, hM_r8, hM_w8, hM_r19, hM_w19, hM_r20, hM_w20, hM_r21, hM_w21, hM_r22, hM_w22, hM_r23, hM_w23, hM_r24, hM_w24, hM_r24_0, hM_w24_0, hM_r24_1, hM_w24_1, hM_r24_2, hM_w24_2, hM_r24_3, hM_w24_3, hM_r33, hM_w33, hM_r34, hM_w34, hM_r37, hM_w37, hM_r38, hM_w38, hM_w39, hM_r40, hM_w40, hM_r41, hM_w41, hM_r42, hM_w42, hM_r46, hM_w46, hM_r50, hM_w50, hM_r52, hM_w52, hM_r52_0, hM_w52_0, hM_p1, hM_p4, hM_p9, hM_p10, hM_p11, hM_p12, hM_p14, hM_p15, hM_p16, hM_p17, hM_p18, hM_p25, hM_p26, hM_p27, hM_p28, hM_p31, hM_p32, hM_p35, hM_p36, hM_p43, hM_p44, hM_p45, hM_p47, hM_p48, hM_p49, hM_p51, hM_p13, hM_p29, hM_p30, oz_some, tpu_some, tpu_none, tclr_I, tclr_R, tclr_U, tclr_L, if_true, if_false, i10, not_true_eq_false, not_false_eq_true, pN, pE, FmS_15, i01_0, FmS_17, m_becomes, eb, e17, f17]
    have R2 : rQ 0 t' ns' cs' D' (wbecF f b'.1) (wbecG g b'.2.1) (wbecY y b'.2.2) (F' 17) (becM F' M') := rQ_same (becF (f' := f)) (gsame_bec (g' := g)) (fun i hi => wbecY_in hi) becM_same c7
    have R3 : rW D' (wbecF f b'.1) (wbecG g b'.2.1) (wbecY y b'.2.2) (upd (upd (upd (FmS F' tn tp q' 1) 9 0) 4 (F' 17)) 35 0 4) (becM F' M') := ⟨t', ns', cs', R2⟩
    refine mkDuo hx hm ⟨⟨by have := c3.2.1; omega, by have := c3.2.1; omega, by have := c3.2.2.1; omega, c3.2.2.2⟩, ?_, R3, ⟨rY_bec c4, c4, rY_ext c3.1 p4.2.2⟩, rK_ext c3.1 ?_, ⟨0, by decide, pE _ _ _, pE _ _ _, fun k hk => absurd hk (Nat.not_lt_zero k)⟩, ⟨0, by decide, pE _ _ _, rfl, fun k hk => absurd hk (Nat.not_lt_zero k)⟩, rH_ext c3.1 ?_, rL_ext c3.1 ?_, ?_⟩
    · unfold rC
      rw [fk 1 (by omega) (by omega) (by omega), mk 7 (by omega) (by omega) (by omega) (by omega) (by omega)]
      exact p2
    · unfold rK
      rw [fk 49 (by omega) (by omega) (by omega), mk 50 (by omega) (by omega) (by omega) (by omega) (by omega)]
      exact p5
    · unfold rH
      rw [mk 37 (by omega) (by omega) (by omega) (by omega) (by omega), mk 38 (by omega) (by omega) (by omega) (by omega) (by omega)]
      exact p8
    · unfold rL
      rw [mk 40 (by omega) (by omega) (by omega) (by omega) (by omega), mk 41 (by omega) (by omega) (by omega) (by omega) (by omega), mk 42 (by omega) (by omega) (by omega) (by omega) (by omega)]
      exact p9
    · unfold rB
      rw [fk 47 (by omega) (by omega) (by omega), mk 46 (by omega) (by omega) (by omega) (by omega) (by omega)]
      exact p10
end S98w
