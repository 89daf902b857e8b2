/-! ONE SAYING MORE, on both sides; lots on both sides -/
section S80
variable {np A c d k t s a kd nu j i n : Nat} {g M : Nat → Nat → Int32} {f r : Nat → Int32} {x x1 x2 p z : Int32}
theorem msayR_ne (h1 : k ≠ A + 48 + 3 * c) (h2 : k ≠ A + 48 + 3 * c + 1) (h3 : k ≠ A + 48 + 3 * c + 2) (h4 : k ≠ A + 2) (h5 : k ≠ A + 43 + s) : msayR r A c s x1 x2 p k = r k := by
  unfold msayR
  rw [pN h5, pN h4, pN h3, pN h2, pN h1]
theorem msayR_0 (hs : s < 5) : msayR r A c s x1 x2 p (A + 48 + 3 * c) = nI s := by
  unfold msayR
  rw [pN (by omega), pN (by omega), pN (by omega), pN (by omega), pE]
theorem msayR_1 (hs : s < 5) : msayR r A c s x1 x2 p (A + 48 + 3 * c + 1) = x1 := by
  unfold msayR
  rw [pN (by omega), pN (by omega), pN (by omega), pE]
theorem msayR_2 (hs : s < 5) : msayR r A c s x1 x2 p (A + 48 + 3 * c + 2) = x2 := by
  unfold msayR
  rw [pN (by omega), pN (by omega), pE]
theorem msayR_n : msayR r A c s x1 x2 p (A + 2) = nI (c + 1) := by
  unfold msayR
  rw [pN (by omega), pE]
theorem msayR_p : msayR r A c s x1 x2 p (A + 43 + s) = r (A + 43 + s) - p := by
  unfold msayR
  rw [pE]
theorem msd_say (hs : s < 5) : msd (va_up M 0 (msayR (M 0) A c s x1 x2 p)) A (c + 1) x = msd M A c x ||| (if x1 = x then 1 <<< (x2 &&& 31) else 0) := by
  unfold msd
  rw [lfold_succ, lfold_cong (G := msdF M A x)]
  · rw [Nat.zero_add]
    conv => lhs; unfold msdF
    rw [uE, msayR_1 hs, msayR_2 hs]
    rfl
  · intro j b h1 h2
    unfold msdF
    rw [uE, msayR_ne (by omega) (by omega) (by omega) (by omega) (by omega), msayR_ne (by omega) (by omega) (by omega) (by omega) (by omega)]
theorem wsell_4 : wsellG g c s d x 4 = upd (g 4) d (g 4 d ||| (1 <<< (x &&& 31))) := rfl
theorem wsell_9 : wsellG g c s d x 9 = upd (g 9) s (g 9 s - g 5 2) := rfl
theorem wsell_2 : wsellG g c s d x 2 = g 2 := rfl
theorem wsell_3 : wsellG g c s d x 3 = g 3 := rfl
theorem RD_say (hD : RD np A c g M) (h4 : c < 40) (hd : d < 20) (hk : k < 4) (hs : s < 5) (hn : ¬ wsaid g d (nI k) = 1) (hp : g 5 2 = M 6 2) : RD np A (c + 1) (wsellG g c s d (nI k)) (va_up M 0 (msayR (M 0) A c s (nI d) (nI k) (M 6 2))) := by
  rw [RD_said hD hd hk] at hn
  obtain ⟨d1, d2, d3, d4, d5, d6, d7, d8, d9⟩ := hD
  refine ⟨h4, ?_, ?_, ?_, ?_, ?_, ?_, ?_, ?_⟩
  · rw [uE, msayR_n]
  · intro e he
    rw [uE, wsell_2, msayR_ne (by omega) (by omega) (by omega) (by omega) (by omega)]
    exact d3 e he
  · intro e he
    rw [uE, wsell_3, msayR_ne (by omega) (by omega) (by omega) (by omega) (by omega)]
    exact d4 e he
  · intro e he hen
    rw [uE, wsell_9]
    by_cases q : e = s
    · subst q
      rw [pE, msayR_p, d5 e he hen, hp]
    · rw [pN q, msayR_ne (by omega) (by omega) (by omega) (by omega) (by omega)]
      exact d5 e he hen
  · intro e he
    rw [uE, wsellG_11, wsellG_12, wsellG_13]
    by_cases q : e = c
    · subst q
      rw [pE, pE, pE, msayR_0 hs, msayR_1 hs, msayR_2 hs]
      exact ⟨rfl, rfl, rfl⟩
    · rw [pN q, pN q, pN q, msayR_ne (by omega) (by omega) (by omega) (by omega) (by omega), msayR_ne (by omega) (by omega) (by omega) (by omega) (by omega), msayR_ne (by omega) (by omega) (by omega) (by omega) (by omega)]
      exact d6 e (by omega)
  · intro e he
    rw [wsellG_11, wsellG_12, wsellG_13]
    by_cases q : e = c
    · subst q
      rw [pE, pE, pE]
      exact ⟨⟨d, hd, rfl⟩, ⟨s, hs, rfl⟩, ⟨k, hk, rfl⟩⟩
    · rw [pN q, pN q, pN q]
      exact d7 e (by omega)
  · intro e he
    rw [msd_say hs, wsell_4]
    by_cases q : e = d
    · subst q
      rw [pE, if_pos rfl, d8 e he]
    · rw [pN q, if_neg (by rw [nI_eq (by omega) (by omega)]; omega), d8 e he, Int32.or_zero]
  · intro i j hij hj
    rw [wsellG_12, wsellG_12, wsellG_13, wsellG_13]
    by_cases q : j = c
    · subst q
      rw [pE, pE, pN (by omega), pN (by omega)]
      intro z
      exact hn ⟨i, hij, z.1, z.2⟩
    · rw [pN q, pN q, pN (by omega), pN (by omega)]
      exact d9 i j hij (by omega)
theorem RT_sell (hT : RT g M) : RT (wsellG g c s d x) M := hT
theorem RT_row (hT : RT g M) : RT g (va_up M 0 r) := hT
theorem said_other (hD : RD np A c g M) (hD2 : RD np A (c + 1) (wsellG g c s d (nI k)) (va_up M 0 r)) (hd : d < 20) (hk : k < 4) (hj : j < 4) (hjk : j ≠ k) (hn : ¬ wsaid g d (nI j) = 1) : ¬ wsaid (wsellG g c s d (nI k)) d (nI j) = 1 := by
  rw [RD_said hD hd hj] at hn
  rw [RD_said hD2 hd hj]
  rintro ⟨i, h1, h2, h3⟩
  rw [wsellG_12] at h2
  rw [wsellG_13] at h3
  by_cases q : i = c
  · subst q
    rw [pE, nI_eq (by omega) (by omega)] at h3
    omega
  · rw [pN q] at h2 h3
    exact hn ⟨i, by omega, h2, h3⟩
/-! lots -/
theorem e_lot (z : Int32) : ∃ n, n < 65536 ∧ (z.toUInt32 >>> (Int32.toUInt32 16 &&& Int32.toUInt32 31)).toInt32 = nI n := by
  obtain ⟨n, hn, rfl⟩ := of32 z
  exact ⟨n / 2 ^ 16, by omega, pk_ushrN hn 16 16 (by decide)⟩
theorem e_left (z : Int32) (h0 : 0 < n) (hN : n < 1000) : ∃ l, l < n ∧ mleft z (nI n) = nI l ∧ wmark z (nI n) = nI l := by
  obtain ⟨v, hv, e⟩ := e_lot z
  refine ⟨v % n, Nat.mod_lt _ h0, ?_, ?_⟩
  · unfold mleft
    rw [e, pk_rem (by omega) h0 (by omega)]
  · unfold wmark
    rw [if_neg (nI_nle h0 (by omega)), e, pk_rem (by omega) h0 (by omega)]
theorem e_pick {l a0 a1 a2 a3 : Nat} (h0 : a0 < 100) (h1 : a1 < 100) (h2 : a2 < 100) (h3 : a3 < 100) (hl : l < a0 + a1 + a2 + a3) : mpick (nI l) (nI a0) (nI a1) (nI a2) = (if 0 + nI a0 ≤ nI l then (if 0 + nI a0 + nI a1 ≤ nI l then (if 0 + nI a0 + nI a1 + nI a2 ≤ nI l then 3 else 2) else 1) else 0) ∧ nI l - nI a0 - nI a1 - nI a2 < nI a3 := by
  rw [Int32.zero_add, nI_add, nI_add]
  constructor
  · unfold mpick
    by_cases q0 : l < a0
    · rw [if_pos (nI_lt q0 (by omega)), if_neg (nI_ge q0 (by omega))]
    · rw [if_neg (nI_nlt (by omega) (by omega)), if_pos (nI_le (by omega) (by omega)), pk_sub (by omega)]
      by_cases q1 : l < a0 + a1
      · rw [if_pos (nI_lt (by omega) (by omega)), if_neg (nI_ge q1 (by omega))]
      · rw [if_neg (nI_nlt (by omega) (by omega)), if_pos (nI_le (by omega) (by omega)), pk_sub (by omega)]
        by_cases q2 : l < a0 + a1 + a2
        · rw [if_pos (nI_lt (by omega) (by omega)), if_neg (nI_ge q2 (by omega))]
        · rw [if_neg (nI_nlt (by omega) (by omega)), if_pos (nI_le (by omega) (by omega))]
  · have e : nI l - nI a0 - nI a1 - nI a2 = nI l - nI (a0 + a1 + a2) := by
      rw [← nI_add, ← nI_add, Int32.sub_sub, Int32.sub_sub, Int32.add_assoc]
    rw [e, Int32.lt_iff_toInt_lt, pk_sub_toInt (by omega) (by omega), nI_toInt (by omega)]
    omega
theorem e_drawn (hT : RT g M) (hD : RD np A c g M) (hd : d < 20) (z : Int32) : ¬ mal M A d = 0 ∧ mleft z (mal M A d) - mwt M A d 0 - mwt M A d 1 - mwt M A d 2 < mwt M A d 3 ∧ mpick (mleft z (mal M A d)) (mwt M A d 0) (mwt M A d 1) (mwt M A d 2) = wdrawn g d z := by
  obtain ⟨a0, h0, e0⟩ := e_wtR (A := A) hT hd (show 0 < 4 by decide)
  obtain ⟨a1, h1, e1⟩ := e_wtR (A := A) hT hd (show 1 < 4 by decide)
  obtain ⟨a2, h2, e2⟩ := e_wtR (A := A) hT hd (show 2 < 4 by decide)
  obtain ⟨a3, h3, e3⟩ := e_wtR (A := A) hT hd (show 3 < 4 by decide)
  obtain ⟨n, hn0, hn, en⟩ := e_alR (A := A) hT hd
  have es : nI n = nI (a0 + a1 + a2 + a3) := by
    rw [← en, ← e_all hT hD hd]
    unfold waw
    rw [e_wt hT hD hd (by decide), e_wt hT hD hd (by decide), e_wt hT hD hd (by decide), e_wt hT hD hd (by decide), e0, e1, e2, e3, Int32.zero_add, nI_add, nI_add, nI_add]
  have en2 := (nI_eq (by omega) (by omega)).mp es
  obtain ⟨l, hl, m1, m2⟩ := e_left z hn0 (by omega)
  have hp := e_pick (l := l) (a0 := a0) (a1 := a1) (a2 := a2) (a3 := a3) (by omega) (by omega) (by omega) (by omega) (by omega)
  unfold wdrawn
  rw [e_all hT hD hd, e_wt hT hD hd (by decide), e_wt hT hD hd (by decide), e_wt hT hD hd (by decide), e0, e1, e2, e3, en, m1, m2]
  exact ⟨nI_ne0 hn0 (by omega), hp.2, hp.1⟩
theorem wdrawn_in : inR (wdrawn g d z) 4 := by
  unfold wdrawn
  split
  · split
    · split
      · exact ⟨3, by decide, rfl⟩
      · exact ⟨2, by decide, rfl⟩
    · exact ⟨1, by decide, rfl⟩
  · exact ⟨0, by decide, rfl⟩
theorem e_plain (h : M 0 (A + (3 + d)) < 0) (hk : k < 4) : mwt M A d k = M 3 (4 * d + k) ∧ mal M A d = mpl M d := by
  unfold mwt mal
  rw [if_pos h, if_neg (fun z => by rw [z] at h; exact nI_pos (by omega) h), Int32.add_zero, Int32.add_zero]
  exact ⟨rfl, rfl⟩
theorem e_drawnP (hT : RT g M) (hD : RD np A c g M) (hd : d < 20) (h : g 2 d < 0) (z : Int32) : ¬ mpl M d = 0 ∧ mleft z (mpl M d) - M 3 (4 * d + 0) - M 3 (4 * d + 1) - M 3 (4 * d + 2) < M 3 (4 * d + 3) ∧ mpick (mleft z (mpl M d)) (M 3 (4 * d + 0)) (M 3 (4 * d + 1)) (M 3 (4 * d + 2)) = wdrawn g d z := by
  rw [(hD.2.2.1 d hd).1] at h
  have := e_drawn hT hD hd z
  rw [(e_plain h (show 0 < 4 by decide)).1, (e_plain h (show 1 < 4 by decide)).1, (e_plain h (show 2 < 4 by decide)).1, (e_plain h (show 3 < 4 by decide)).1, (e_plain h (show 3 < 4 by decide)).2] at this
  exact this
end S80
