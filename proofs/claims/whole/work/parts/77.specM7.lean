/-! WHAT THE MODEL'S METHODS DO, 7: what a sayer finds to say, all kinds -/
section S37
variable {sc : Nat × (Nat → Int32)} {h : TH} {m d k c A j i t s top kd a : Nat} {f : Nat → Int32} {e : Nat → Int64} {g : Nat → Nat → Int32} {u : Nat → Nat → Int64} {x x1 x2 : Int32} {K : Option TV → TH → Prop}
theorem sX11_findSaying (hA : f 1 = nI A) (h1 : A ≤ 168) (hc : g 0 (A + 2) = nI c) (h4 : c ≤ 40) (ht : g 0 A = nI t) (h2 : t ≤ 20) (hs : s < 5) (hk6 : kd < 6) (hkd : g 5 (2 * s) = nI kd) (ha : g 5 (2 * s + 1) = nI a) (ha2 : a < 10) : tA sc iX11_findSaying 0 [vR (some m), vI (nI s), vU, vU, vU, vU, vU] [] (hM h m f e g u) K = K none (hM h m (mfs f g A c t kd a) e g u) := by
  unfold mfs
  by_cases q : t = 20
  · subst q
    rw [if_pos rfl]
    have e1 := fun (K : Option TV → TH → Prop) => sX11_its0 (sc := sc) (h := h) (m := m) (f := upd f 27 0) (e := e) (g := g) (u := u) (K := K) hA h1
    have q20 : (nI 20 = (20 : Int32)) = True := by decide
    simp (disch := first | omega | exact hM_cl) only [rX11_findSaying_0, rX11_findSaying_1, rX11_findSaying_2, rX11_findSaying_5, rX11_findSaying_6, rX11_findSaying_7, rX11_findSaying_10, rX11_findSaying_11, rX11_findSaying_12, rX11_findSaying_14, rX11_findSaying_17, e1, hM_p27, oz_some, tpu_some, tclr_I, ht, q20, not_true_eq_false, if_false]
  · rw [if_neg q]
    have q1 : t < 20 := by omega
    rcases (show kd = 0 ∨ kd = 1 ∨ kd = 2 ∨ kd = 3 ∨ kd = 4 ∨ kd = 5 by omega) with rfl | rfl | rfl | rfl | rfl | rfl
    · exact sX11_findSaying0 hA h1 ht q1 hs hkd
    · exact sX11_findSaying1 hA h1 hc h4 ht q1 hs hkd ha ha2
    · exact sX11_findSaying2 hA h1 hc h4 ht q1 hs hkd
    · exact sX11_findSaying3 hA h1 hc h4 ht q1 hs hkd ha
    · exact sX11_findSaying4 hA h1 hc h4 ht q1 hs hkd ha ha2
    · exact sX11_findSaying5 hA h1 hc h4 ht q1 hs hkd ha ha2
end S37
