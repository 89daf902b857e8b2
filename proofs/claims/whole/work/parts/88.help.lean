/-! THE WORLD AT 1, AND THE MODEL IN THE WORLD'S WORDS -/
theorem nB23 (n : Nat) : 23 + nI n = nI (23 + n) := by rw [show (23 : Int32) = nI 23 from rfl, nI_add]
theorem nB43 (n : Nat) : 43 + nI n = nI (43 + n) := by rw [show (43 : Int32) = nI 43 from rfl, nI_add]
section S88
variable {sc : Nat × (Nat → Int32)} {h : TH} {m np np2 cs d k i j n t kd nu a o : Nat} {x : Nat → Int32} {G : Nat → Nat → Int32} {Y : Nat → Nat → Option Nat} {f F r : Nat → Int32} {g M : Nat → Nat → Int32} {y : Nat → Option Nat} {b c : WS} {cf tf : Nat → Int32} {cg tg : Nat → Nat → Int32} {s v : Int32} {E : Nat → Int64} {U : Nat → Nat → Int64} {K : Option TV → TH → Prop}
theorem x_isOver : tA sc iX9_isOver 0 [vR (some 1), vI s] [] (hX h x G Y f g y b c cf cg tf tg) K = K (some (vI (if f 6 ≤ s then 0 else 1))) (hX h x G Y f g y b c cf cg tf tg) := atW0 (fun h K => sX9_isOver) K
theorem x_weightWith (hd : d < 20) (hk : k < 4) : tA sc iX9_weightWith 0 [vR (some 1), vI (nI d), vI (nI k), vI s, vU] [] (hX h x G Y f g y b c cf cg tf tg) K = K (some (vI (wtw g d k s))) (hX h x G Y f g y b c cf cg tf tg) := atW0 (fun h K => sX9_weightWith hd hk) K
theorem x_allWith (hd : d < 20) : tA sc iX9_allWith 0 [vR (some 1), vI (nI d), vI s, vU, vU] [] (hX h x G Y f g y b c cf cg tf tg) K = K (some (vI (waw g d s))) (hX h x G Y f g y b c cf cg tf tg) := atW0 (fun h K => sX9_allWith hd) K
theorem x_weightOf (hd : d < 20) (hk : k < 4) : tA sc iX9_weightOf 0 [vR (some 1), vI (nI d), vI (nI k)] [] (hX h x G Y f g y b c cf cg tf tg) K = K (some (vI (wtw g d k (g 2 d)))) (hX h x G Y f g y b c cf cg tf tg) := atW0 (fun h K => sX9_weightOf hd hk) K
theorem x_allOf (hd : d < 20) : tA sc iX9_allOf 0 [vR (some 1), vI (nI d)] [] (hX h x G Y f g y b c cf cg tf tg) K = K (some (vI (waw g d (g 2 d)))) (hX h x G Y f g y b c cf cg tf tg) := atW0 (fun h K => sX9_allOf hd) K
theorem x_earn (hd : d < 20) : tA sc iX9_earn 0 [vR (some 1), vI (nI d)] [] (hX h x G Y f g y b c cf cg tf tg) K = K (some (vI (g 0 d * g 5 0 / 100))) (hX h x G Y f g y b c cf cg tf tg) := atW0 (fun h K => sX9_earn hd) K
theorem x_isSaid (hd : d < 20) : tA sc iX9_isSaid 0 [vR (some 1), vI (nI d), vI s] [] (hX h x G Y f g y b c cf cg tf tg) K = K (some (vI (if wsaid g d s = 1 then 1 else 0))) (hX h x G Y f g y b c cf cg tf tg) := atW0 (fun h K => sX9_isSaidR hd) K
theorem x_room : tA sc iX9_room 0 [vR (some 1)] [] (hX h x G Y f g y b c cf cg tf tg) K = K (some (vI (40 - f 14))) (hX h x G Y f g y b c cf cg tf tg) := atW0 (fun h K => sX9_room) K
theorem x_likeliest (hd : d < 20) : tA sc iX9_likeliest 0 [vR (some 1), vI (nI d), vU, vU, vU, vU] [] (hX h x G Y f g y b c cf cg tf tg) K = K (some (vI (nI (wlkN g d)))) (hX h x G Y f g y b c cf cg tf tg) := atW0 (fun h K => by rw [sX9_likeliest hd, wlkN_eq]) K
theorem x_sayerAt (hc : f 10 = nI n) (h5 : n ≤ 5) : tA sc iX9_sayerAt 0 [vR (some 1), vI s] [] (hX h x G Y f g y b c cf cg tf tg) K = K (some (vR (wsa f y s))) (hX h x G Y f g y b c cf cg tf tg) := atW0 (fun h K => sX9_sayerAt hc h5) K
theorem x_sayingsOf (hc : f 14 = nI cs) (h4 : cs ≤ 40) : tA sc iX9_sayingsOf 0 [vR (some 1), vI s, vU, vU] [] (hX h x G Y f g y b c cf cg tf tg) K = K (some (vI (wcnt g s cs))) (hX h x G Y f g y b c cf cg tf tg) := atW0 (fun h K => sX9_sayingsOf hc h4) K
theorem x_isRight (hi : k < 40) (hD : inR (g 12 k) 20) : tA sc iX9_isRight 0 [vR (some 1), vI (nI k), vU] [] (hX h x G Y f g y b c cf cg tf tg) K = K (some (vI (wright f g k))) (hX h x G Y f g y b c cf cg tf tg) := atW0 (fun h K => sX9_isRightR hi hD) K
theorem x_overOf (hc : f 14 = nI cs) (h4 : cs ≤ 40) : tA sc iX9_overOf 0 [vR (some 1), vI s, vU, vU] [] (hX h x G Y f g y b c cf cg tf tg) K = K (some (vI (wover f g s cs))) (hX h x G Y f g y b c cf cg tf tg) := atW0 (fun h K => sX9_overOf hc h4) K
theorem x_rightOf (hc : f 14 = nI cs) (h4 : cs ≤ 40) (hD : ∀ i, i < cs → inR (g 12 i) 20) : tA sc iX9_rightOf 0 [vR (some 1), vI s, vU, vU] [] (hX h x G Y f g y b c cf cg tf tg) K = K (some (vI (wrights f g s cs))) (hX h x G Y f g y b c cf cg tf tg) := atW0 (fun h K => sX9_rightOf hc h4 hD) K
theorem x_ownerOf (hc : f 14 = nI cs) (h4 : cs ≤ 40) (hD : ∀ i, i < cs → inR (g 12 i) 20) : tA sc iX9_ownerOf 0 [vR (some 1), vI s, vU] [] (hX h x G Y f g y b c cf cg tf tg) K = K (some (vI (wowner f g s cs))) (hX h x G Y f g y b c cf cg tf tg) := atW0 (fun h K => sX9_ownerOf hc h4 hD) K
theorem x_gain (hd : d < 20) (hk : k < 4) : tA sc iX9_gainTimesAll 0 [vR (some 1), vI (nI d), vI (nI k), vI s] [] (hX h x G Y f g y b c cf cg tf tg) K = K (some (vL (wgain g d k s))) (hX h x G Y f g y b c cf cg tf tg) := atW0 (fun h K => sX9_gainTimesAll hd hk) K
theorem x_best (hd : d < 20) : tA sc iX9_bestTimesAll 0 [vR (some 1), vI (nI d), vI s, vU, vU, vU] [] (hX h x G Y f g y b c cf cg tf tg) K = K (some (vL (wbest g d s))) (hX h x G Y f g y b c cf cg tf tg) := atW0 (fun h K => sX9_bestTimesAll hd) K
theorem x_bestPlace (ht : f 6 = nI t) (h2 : t ≤ 20) : tA sc iX9_bestPlace 0 [vR (some 1), vU, vU, vU, vU, vU, vU, vU, vU, vU, vU, vU] [] (hX h x G Y f g y b c cf cg tf tg) K = K (some (vI (wbp g t))) (hX h x G Y f g y b c cf cg tf tg) := atW0 (fun h K => sX9_bestPlace ht h2) K
theorem x_owedFor (hk : k < 40) (hd : d < 20) (hj : j < 4) (h1 : g 12 k = nI d) (h2 : g 13 k = nI j) : tA sc iX9_owedFor 0 [vR (some 1), vI (nI k), vU, vU] [] (hX h x G Y f g y b c cf cg tf tg) K = K (some (vL (wowed f g d j))) (hX h x G Y f g y b c cf cg tf tg) := atW0 (fun h K => sX9_owedFor hk hd hj h1 h2) K
theorem x_sell (hc : f 14 = nI cs) (h4 : cs < 40) (hd : d < 20) (hk : k < 5) : tA sc iX9_sellSaying 0 [vR (some 1), vI (nI k), vI (nI d), vI s] [] (hX h x G Y f g y b c cf cg tf tg) K = K (some (vI (nI cs))) (hX h x G Y (upd f 14 (nI (cs + 1))) (wsellG g cs k d s) y b c cf cg tf tg) := atW0 (fun h K => sX9_sellSaying hc h4 hd hk) K
/-! the Model's row at 0 -/
theorem RD0_2 (hD : RD np 0 cs g M) : M 0 2 = nI cs := hD.2.1
theorem RD0_s (hD : RD np 0 cs g M) (hd : d < 20) : g 2 d = M 0 (3 + d) := by simpa only [Nat.zero_add] using (hD.2.2.1 d hd).1
theorem RD0_w (hD : RD np 0 cs g M) (hd : d < 20) : g 3 d = M 0 (23 + d) := by simpa only [Nat.zero_add] using hD.2.2.2.1 d hd
theorem RD0_p (hD : RD np 0 cs g M) (hd : d < 5) (hn : d < np) : g 9 d = M 0 (43 + d) := by simpa only [Nat.zero_add] using hD.2.2.2.2.1 d hd hn
theorem RD0_i (hD : RD np 0 cs g M) (hi : i < cs) : g 11 i = M 0 (48 + 3 * i) ∧ g 12 i = M 0 (48 + 3 * i + 1) ∧ g 13 i = M 0 (48 + 3 * i + 2) := by simpa only [Nat.zero_add] using hD.2.2.2.2.2.1 i hi
theorem RD0_gen {G : Nat → Nat → Int32} (hD : RD np 0 cs g M) (hG : ∀ k, k ≠ 2 → k ≠ 3 → k ≠ 9 → G k = g k) (h2 : ∀ d, d < 20 → G 2 d = r (3 + d) ∧ (G 2 d = -1 ∨ inR (G 2 d) 4)) (h3 : ∀ d, d < 20 → G 3 d = r (23 + d)) (h9 : ∀ s, s < 5 → s < np → G 9 s = r (43 + s)) (hr : r 2 = M 0 2) (hs : ∀ k, 48 ≤ k → k < 168 → r k = M 0 k) : RD np 0 cs G (va_up M 0 r) :=
  RD_gen hD hG (by simpa only [Nat.zero_add] using h2) (by simpa only [Nat.zero_add] using h3) (by simpa only [Nat.zero_add] using h9) hr (by simpa only [Nat.zero_add] using hs)
theorem RD_np (hD : RD np 0 cs g M) (h9 : ∀ s, s < 5 → s < np2 → g 9 s = M 0 (43 + s)) : RD np2 0 cs g M := ⟨hD.1, hD.2.1, hD.2.2.1, hD.2.2.2.1, by simpa only [Nat.zero_add] using h9, hD.2.2.2.2.2⟩
theorem RD_n0 (hD : RD np 0 cs g M) : RD 0 0 cs g M := RD_np hD (fun s _ h => absurd h (Nat.not_lt_zero s))
theorem k_said (hA : F 1 = nI 0) (hD : RD np 0 cs g M) (hd : d < 20) : tA sc iX11_saidOf 0 [vR (some m), vI (nI d), vU, vU] [] (hM h m F E M U) K = K (some (vI (g 4 d))) (hM h m F E M U) := by
  rw [sX11_saidOf hA (by decide) hD.2.1 hD.1, hD.2.2.2.2.2.2.2.1 d hd]
theorem k_wt (hA : F 1 = nI 0) (hT : RT g M) (hD : RD np 0 cs g M) (hd : d < 20) (hk : k < 4) : tA sc iX11_weightOf 0 [vR (some m), vI (nI d), vI (nI k)] [] (hM h m F E M U) K = K (some (vI (wtw g d k (g 2 d)))) (hM h m F E M U) := by
  rw [sX11_weightOf hA (by decide) hd hk, e_wt hT hD hd hk]
theorem k_all (hA : F 1 = nI 0) (hT : RT g M) (hD : RD np 0 cs g M) (hd : d < 20) : tA sc iX11_allOf 0 [vR (some m), vI (nI d)] [] (hM h m F E M U) K = K (some (vI (waw g d (g 2 d)))) (hM h m F E M U) := by
  rw [sX11_allOf hA (by decide) hd, e_all hT hD hd]
theorem k_plain (hT : RT g M) (hd : d < 20) : tA sc iX11_plainAll 0 [vR (some m), vI (nI d)] [] (hM h m F E M U) K = K (some (vI (waw g d (-1)))) (hM h m F E M U) := by
  rw [sX11_plainAll hd, e_pl hT hd]
theorem k_earn (hT : RT g M) (hd : d < 20) : tA sc iX11_earn 0 [vR (some m), vI (nI d)] [] (hM h m F E M U) K = K (some (vI (g 0 d * g 5 0 / 100))) (hM h m F E M U) := by
  rw [sX11_earn hd, (hT.1 d hd).1, hT.2.2.1 0 (by decide)]
theorem k_lk (hA : F 1 = nI 0) (hT : RT g M) (hD : RD np 0 cs g M) (hd : d < 20) : tA sc iX11_likeliest 0 [vR (some m), vI (nI d), vU, vU] [] (hM h m F E M U) K = K (some (vI (nI (wlkN g d)))) (hM h m F E M U) := by
  rw [sX11_likeliest hA (by decide) hd, e_lk hT hD hd]
theorem k_say0 (hA : F 1 = nI 0) (hD : RD np 0 cs g M) (hi : i < cs) : tA sc iX11_saying 0 [vR (some m), vI (nI i), vI 0] [] (hM h m F E M U) K = K (some (vI (g 11 i))) (hM h m F E M U) := by
  have := hD.1
  rw [show (0 : Int32) = nI 0 from rfl, sX11_saying hA (by decide) (by omega) (by decide), (hD.2.2.2.2.2.1 i hi).1, Nat.add_zero]
theorem k_say1 (hA : F 1 = nI 0) (hD : RD np 0 cs g M) (hi : i < cs) : tA sc iX11_saying 0 [vR (some m), vI (nI i), vI 1] [] (hM h m F E M U) K = K (some (vI (g 12 i))) (hM h m F E M U) := by
  have := hD.1
  rw [show (1 : Int32) = nI 1 from rfl, sX11_saying hA (by decide) (by omega) (by decide), (hD.2.2.2.2.2.1 i hi).2.1]
theorem k_say2 (hA : F 1 = nI 0) (hD : RD np 0 cs g M) (hi : i < cs) : tA sc iX11_saying 0 [vR (some m), vI (nI i), vI 2] [] (hM h m F E M U) K = K (some (vI (g 13 i))) (hM h m F E M U) := by
  have := hD.1
  rw [show (2 : Int32) = nI 2 from rfl, sX11_saying hA (by decide) (by omega) (by decide), (hD.2.2.2.2.2.1 i hi).2.2]
theorem k_isSayer (s4 : F 4 = nI n) (n5 : n ≤ 5) : tA sc iX11_isSayer 0 [vR (some m), vI v] [] (hM h m F E M U) K = K (some (vI (inB v (nI n)))) (hM h m F E M U) := by
  rw [sX11_isSayer, s4]
  have e : inI v 0 (nI n - 1) = inB v (nI n) := by
    unfold inI inB
    by_cases q : v < 0
    · rw [if_pos q, if_pos q]
    · rw [if_neg q, if_neg q]
      obtain ⟨j, hj, rfl⟩ := nI_of q
      cases n with
      | zero => rw [if_pos (by rw [Int32.lt_iff_toInt_lt, nI_toInt hj]; show (-1 : Int) < j; omega), if_pos (nI_le (by omega) hj)]
      | succ n =>
        rw [nI_s1]
        by_cases q2 : n < j
        · rw [if_pos (nI_lt q2 hj), if_pos (nI_le q2 hj)]
        · rw [if_neg (nI_nlt (by omega) (by omega)), if_neg (nI_ge (by omega) (by omega))]
  rw [e]
/-- who is there -/
theorem wsa_no (w10 : f 10 = nI n) (hv : v < 0 ∨ nI n ≤ v) : wsa f y v = none := by
  unfold wsa
  rcases hv with hv | hv
  · rw [if_pos hv]
  · by_cases q : v < 0
    · rw [if_pos q]
    · rw [if_neg q, w10, if_pos hv]
theorem wsa_yes (w10 : f 10 = nI n) (n5 : n ≤ 5) (hk : k < n) : wsa f y (nI k) = y k := by
  unfold wsa
  rw [if_neg (nI_pos (by omega)), w10, if_neg (nI_ge hk (by omega)), nI_clamp (by omega)]
end S88
