/-! WHAT THE MODEL'S METHODS DO, 6: plain lots -/
section S36
variable {sc : Nat × (Nat → Int32)} {h : TH} {m d k c A j i t s top : Nat} {f : Nat → Int32} {e : Nat → Int64} {g : Nat → Nat → Int32} {u : Nat → Nat → Int64} {x x1 x2 : Int32} {K : Option TV → TH → Prop}
theorem mpl_dz : mpl (mdzG g A) d = mpl g d := rfl
theorem mdzG_3 {n : Nat} : mdzG g A 3 n = g 3 n := by unfold mdzG; rw [uN (by decide)]
theorem sX11_drawn1 (hA : f 1 = nI A) (h1 : A ≤ 168) (hd : d < 20) (hz : ¬ mpl g d = 0) (hN : mleft (mdz g A) (mpl g d) - g 3 (4 * d + 0) - g 3 (4 * d + 1) - g 3 (4 * d + 2) < g 3 (4 * d + 3)) : tA sc iX11_drawn 0 [vR (some m), vI (nI d), vI 1, vU, vU] [] (hM h m f e g u) K = K (some (vI (mpick (mleft (mdz g A) (mpl g d)) (g 3 (4 * d + 0)) (g 3 (4 * d + 1)) (g 3 (4 * d + 2))))) (hM h m f e (mdzG g A) u) := by
  have e1 := fun (K : Option TV → TH → Prop) => sX11_its1 (sc := sc) (h := h) (m := m) (f := f) (e := e) (g := g) (u := u) (K := K) hA h1
  have e2 : ∀ (K : Option TV → TH → Prop), tA sc iX11_its 0 [vR (some m), vI 1] [] (hM h m f e (mdzG g A) u) K = K (some (vI (mdz g A))) (hM h m f e (mdzG g A) u) := fun K => by
    rw [sX11_its1 hA h1]
    rw [show mdzG g A 0 (A + 1) = mdz g A from pE _ _ _]
  have e3 := fun (K : Option TV → TH → Prop) => sX11_plainAll (sc := sc) (h := h) (m := m) (f := f) (e := e) (g := mdzG g A) (u := u) (K := K) hd
  have n1 : ((1 : Int32) = 0) = False := by decide
  have hw := hM_w0 (h := h) (w := m) (f := f) (e := e) (g := g) (u := u) (n := A + 1) (x := mdz g A) (by omega)
  have it := fun (k : Nat) (L : Int32) (hk : k < 4) => sX11_drawnI1 (sc := sc) (h := h) (m := m) (f := f) (e := e) (g := mdzG g A) (u := u) (K := K) (L := L) hd hk
  have z0 : (g 0 (A + 1) * 1103515245 + 12345) = mdz g A := rfl
  simp (disch := first | omega | exact hM_cl) only [rX11_drawn_0, rX11_drawn_1, rX11_drawn_4, rX11_drawn_5, rX11_drawn_8, rX11_drawn_9, rX11_drawn_10, rX11_drawn_11, rX11_drawn_12, rX11_drawn_15, rX11_drawn_18, rX11_drawn_19, rX11_drawn_22, rX11_drawn_23, hM_g0, hM_g1, oz_some, tpu_some, hA, nI_1, e1, z0, hw]
  rw [show va_up g 0 (upd (g 0) (A + 1) (mdz g A)) = mdzG g A from rfl]
  simp (disch := first | omega | exact hM_cl) only [rX11_drawn_24, rX11_drawn_25, rX11_drawn_26, rX11_drawn_29, rX11_drawn_31, rX11_drawn_32, rX11_drawn_33, rX11_drawn_36, rX11_drawn_37, rX11_drawn_38, rX11_drawn_41, rX11_drawn_49, rX11_drawn_50, rX11_drawn_51, rX11_drawn_52, oz_some, tpu_some, tclr_I, n1, if_false, e2, e3, mpl_dz, hz, not_false_eq_true, true_and]
  rw [show ((mdz g A).toUInt32 >>> (Int32.toUInt32 16 &&& Int32.toUInt32 31)).toInt32 - ((mdz g A).toUInt32 >>> (Int32.toUInt32 16 &&& Int32.toUInt32 31)).toInt32 / mpl g d * mpl g d = mleft (mdz g A) (mpl g d) from rfl]
  rw [show ([vR (some m), vI (nI d), vI 1, vI (mleft (mdz g A) (mpl g d)), vI 0] : List TV) = [vR (some m), vI (nI d), vI 1, vI (mleft (mdz g A) (mpl g d)), vI (nI 0)] from rfl]
  rw [it 0 _ (by decide), it 1 _ (by decide), it 2 _ (by decide), it 3 _ (by decide)]
  simp only [mdzG_3]
  rw [if_pos hN]
  unfold mpick
  by_cases q0 : mleft (mdz g A) (mpl g d) < g 3 (4 * d + 0)
  · rw [if_pos q0, if_pos q0]; rfl
  · rw [if_neg q0, if_neg q0]
    by_cases q1 : mleft (mdz g A) (mpl g d) - g 3 (4 * d + 0) < g 3 (4 * d + 1)
    · rw [if_pos q1, if_pos q1]; rfl
    · rw [if_neg q1, if_neg q1]
      by_cases q2 : mleft (mdz g A) (mpl g d) - g 3 (4 * d + 0) - g 3 (4 * d + 1) < g 3 (4 * d + 2)
      · rw [if_pos q2, if_pos q2]; rfl
      · rw [if_neg q2, if_neg q2]; rfl
end S36
