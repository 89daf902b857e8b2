/-! THE CLERK, 9: a draft and what the Model has read -/
def MFr (F : Nat → Int32) (M : Nat → Nat → Int32) : Nat → Nat → Int32 := fun s k => match s with
  | 0 => if k = 0 then F 16 else if k = 1 then M 0 1 else if k = 2 then F 18 else if k < 23 then M 21 (k - 3) else if k < 43 then -1 else if k < 48 then 0 else M 23 (k - 48)
  | 2 => M 19 k
  | 3 => M 20 k
  | 5 => M 22 k
  | 6 => M 6 k
  | _ => 0
section S98s
variable {np c d k s i t t' ns cs w kd a n4 : Nat} {D : TH} {g M M' : Nat → Nat → Int32} {F fb : Nat → Int32} {gb gb' : Nat → Nat → Int32} {yb : Nat → Option Nat} {v sg : Int32} {A : Nat → Int32}
theorem MFr_s (hd : d < 20) : MFr F M 0 (3 + d) = M 21 d := by
  show (if 3 + d = 0 then F 16 else if 3 + d = 1 then M 0 1 else if 3 + d = 2 then F 18 else if 3 + d < 23 then M 21 (3 + d - 3) else if 3 + d < 43 then -1 else if 3 + d < 48 then 0 else M 23 (3 + d - 48)) = _
  rw [if_neg (by omega), if_neg (by omega), if_neg (by omega), if_pos (by omega), Nat.add_sub_cancel_left]
theorem MFr_w (hd : d < 20) : MFr F M 0 (23 + d) = -1 := by
  show (if 23 + d = 0 then F 16 else if 23 + d = 1 then M 0 1 else if 23 + d = 2 then F 18 else if 23 + d < 23 then M 21 (23 + d - 3) else if 23 + d < 43 then -1 else if 23 + d < 48 then 0 else M 23 (23 + d - 48)) = _
  rw [if_neg (by omega), if_neg (by omega), if_neg (by omega), if_neg (by omega), if_pos (by omega)]
theorem MFr_p (hd : d < 5) : MFr F M 0 (43 + d) = 0 := by
  show (if 43 + d = 0 then F 16 else if 43 + d = 1 then M 0 1 else if 43 + d = 2 then F 18 else if 43 + d < 23 then M 21 (43 + d - 3) else if 43 + d < 43 then -1 else if 43 + d < 48 then 0 else M 23 (43 + d - 48)) = _
  rw [if_neg (by omega), if_neg (by omega), if_neg (by omega), if_neg (by omega), if_neg (by omega), if_pos (by omega)]
theorem MFr_i (k : Nat) : MFr F M 0 (48 + k) = M 23 k := by
  show (if 48 + k = 0 then F 16 else if 48 + k = 1 then M 0 1 else if 48 + k = 2 then F 18 else if 48 + k < 23 then M 21 (48 + k - 3) else if 48 + k < 43 then -1 else if 48 + k < 48 then 0 else M 23 (48 + k - 48)) = _
  rw [if_neg (by omega), if_neg (by omega), if_neg (by omega), if_neg (by omega), if_neg (by omega), if_neg (by omega), Nat.add_sub_cancel_left]
theorem msd_add (rI : ∀ j, j < 3 * c → M' 0 (48 + j) = M 0 (48 + j)) (r1 : M' 0 (48 + (3 * c + 1)) = nI d) (r3 : M' 0 (48 + (3 * c + 2)) = nI k) : msd M' 0 (c + 1) v = msd M 0 c v ||| (if nI d = v then 1 <<< (nI k &&& 31) else 0) := by
  unfold msd
  rw [lfold_succ, lfold_cong (G := msdF M 0 v)]
  · rw [Nat.zero_add]
    conv => lhs; unfold msdF
    rw [show 0 + 48 + 3 * c + 1 = 48 + (3 * c + 1) by omega, show 0 + 48 + 3 * c + 2 = 48 + (3 * c + 2) by omega, r1, r3]
    rfl
  · intro j b h1 h2
    unfold msdF
    rw [show 0 + 48 + 3 * j + 1 = 48 + (3 * j + 1) by omega, show 0 + 48 + 3 * j + 2 = 48 + (3 * j + 2) by omega, rI _ (by omega), rI _ (by omega)]
theorem RD_add (hD : RD np 0 c g M) (h4 : c < 40) (hd : d < 20) (hk : k < 4) (hs : s < 5) (hn : ¬ wsaid g d (nI k) = 1) (r2 : M' 0 2 = nI (c + 1)) (rS : ∀ e, e < 20 → M' 0 (3 + e) = M 0 (3 + e)) (rW : ∀ e, e < 20 → M' 0 (23 + e) = M 0 (23 + e)) (rP : ∀ e, e < 5 → M' 0 (43 + e) = M 0 (43 + e)) (rI : ∀ j, j < 3 * c → M' 0 (48 + j) = M 0 (48 + j)) (r0 : M' 0 (48 + 3 * c) = nI s) (r1 : M' 0 (48 + (3 * c + 1)) = nI d) (r3 : M' 0 (48 + (3 * c + 2)) = nI k) : RD np 0 (c + 1) (waddG g c (nI s) d (nI k)) M' := by
  rw [RD_said hD hd hk] at hn
  obtain ⟨d1, d2, d3, d4, d5, d6, d7, d8, d9⟩ := hD
  have w2 : waddG g c (nI s) d (nI k) 2 = g 2 := rfl
  have w3 : waddG g c (nI s) d (nI k) 3 = g 3 := rfl
  have w9 : waddG g c (nI s) d (nI k) 9 = g 9 := rfl
  have w11 : waddG g c (nI s) d (nI k) 11 = upd (g 11) c (nI s) := rfl
  have w12 : waddG g c (nI s) d (nI k) 12 = upd (g 12) c (nI d) := rfl
  have w13 : waddG g c (nI s) d (nI k) 13 = upd (g 13) c (nI k) := rfl
  have w4 : waddG g c (nI s) d (nI k) 4 = upd (g 4) d (g 4 d ||| (1 <<< (nI k &&& 31))) := rfl
  refine ⟨h4, ?_, ?_, ?_, ?_, ?_, ?_, ?_, ?_⟩
  · rw [Nat.zero_add]; exact r2
  · intro e he
    have := d3 e he
    rw [Nat.zero_add] at this ⊢
    rw [w2, rS e he]; exact this
  · intro e he
    have := d4 e he
    rw [Nat.zero_add] at this ⊢
    rw [w3, rW e he]; exact this
  · intro e he hen
    have := d5 e he hen
    rw [Nat.zero_add] at this ⊢
    rw [w9, rP e he]; exact this
  · intro e he
    rw [w11, w12, w13, show 0 + 48 + 3 * e + 1 = 48 + (3 * e + 1) by omega, show 0 + 48 + 3 * e + 2 = 48 + (3 * e + 2) by omega, show 0 + 48 + 3 * e = 48 + 3 * e by omega]
    by_cases q : e = c
    · subst q
      rw [pE, pE, pE, r0, r1, r3]
      exact ⟨rfl, rfl, rfl⟩
    · have := d6 e (by omega)
      rw [show 0 + 48 + 3 * e + 1 = 48 + (3 * e + 1) by omega, show 0 + 48 + 3 * e + 2 = 48 + (3 * e + 2) by omega, show 0 + 48 + 3 * e = 48 + 3 * e by omega] at this
      rw [pN q, pN q, pN q, rI _ (by omega), rI _ (by omega), rI _ (by omega)]
      exact this
  · intro e he
    rw [w11, w12, w13]
    by_cases q : e = c
    · subst q
      rw [pE, pE, pE]
      exact ⟨⟨d, hd, rfl⟩, ⟨s, hs, rfl⟩, ⟨k, hk, rfl⟩⟩
    · rw [pN q, pN q, pN q]
      exact d7 e (by omega)
  · intro e he
    rw [msd_add rI r1 r3, w4]
    by_cases q : e = d
    · subst q
      rw [pE, if_pos rfl, d8 e he]
    · rw [pN q, if_neg (by rw [nI_eq (by omega) (by omega)]; omega), d8 e he, Int32.or_zero]
  · intro i j hij hj
    rw [w12, w13]
    by_cases q : j = c
    · subst q
      rw [pE, pE, pN (by omega), pN (by omega)]
      intro z
      exact hn ⟨i, hij, z.1, z.2⟩
    · rw [pN q, pN q, pN (by omega), pN (by omega)]
      exact d9 i j hij (by omega)
/-- NOW -/
theorem rF_now (R : rQ 0 t ns cs D fb gb yb (F 17) (MFr F M)) (ht : t' ≤ 20) : rQ 0 t' ns cs D (upd fb 6 (nI t')) gb yb (upd F 16 (nI t') 17) (MFr (upd F 16 (nI t')) M) := by
  obtain ⟨t20, n5, w6, m6, w7, w10, s4, w14, hT, hD, hS⟩ := R
  have e0 : ∀ k, k ≠ 0 → MFr (upd F 16 (nI t')) M 0 k = MFr F M 0 k := by
    intro k hk
    unfold MFr
    rw [if_neg hk, if_neg hk]
    rfl
  have em : ∀ v, msd (MFr (upd F 16 (nI t')) M) 0 cs v = msd (MFr F M) 0 cs v := by
    intro v
    unfold msd
    apply lfold_cong
    intro j b h1 h2
    unfold msdF
    rw [e0 _ (by omega), e0 _ (by omega)]
  obtain ⟨d1, d2, d3, d4, d5, d6, d7, d8, d9⟩ := hD
  refine ⟨ht, n5, rfl, rfl, ?_, w10, s4, w14, hT, ⟨d1, ?_, ?_, ?_, ?_, ?_, d7, ?_, d9⟩, hS⟩
  · exact w7
  · exact d2
  · intro d hd
    rw [e0 _ (by omega)]; exact d3 d hd
  · intro d hd
    rw [e0 _ (by omega)]; exact d4 d hd
  · intro d hd hn
    rw [e0 _ (by omega)]; exact d5 d hd hn
  · intro i hi
    rw [e0 _ (by omega), e0 _ (by omega), e0 _ (by omega)]; exact d6 i hi
  · intro d hd
    rw [em]; exact d8 d hd
/-- a saying more -/
theorem rF_said (R : rQ 0 t ns cs D fb gb yb (F 17) (MFr F M)) (h4 : cs < 40) (hd : d < 20) (hk : k < 4) (hs : s < ns) (hn : ¬ wsaid gb d (nI k) = 1) : rQ 0 t ns (cs + 1) D (upd fb 14 (nI (cs + 1))) (waddG gb cs (nI s) d (nI k)) yb (upd F 18 (nI (cs + 1)) 17) (MFr (upd F 18 (nI (cs + 1))) (va_up M 23 (upd (upd (upd (M 23) (3 * cs) (nI s)) (3 * cs + 1) (nI d)) (3 * cs + 2) (nI k)))) := by
  obtain ⟨t20, n5, w6, m6, w7, w10, s4, w14, hT, hD, hS⟩ := R
  refine ⟨t20, n5, w6, m6, w7, w10, s4, rfl, hT, ?_, hS⟩
  refine RD_add hD h4 hd hk (by omega) hn rfl ?_ ?_ ?_ ?_ ?_ ?_ ?_
  · intro e he
    rw [MFr_s he, MFr_s he]; rfl
  · intro e he
    rw [MFr_w he, MFr_w he]
  · intro e he
    rw [MFr_p he, MFr_p he]
  · intro j hj
    rw [MFr_i, MFr_i, uE, pN (by omega), pN (by omega), pN (by omega)]
  · rw [MFr_i, uE, pN (by omega), pN (by omega), pE]
  · rw [MFr_i, uE, pN (by omega), pE]
  · rw [MFr_i, uE, pE]
theorem frs_said (R : rQ 0 t ns cs D fb gb yb (F 17) (MFr F M)) (hd : d < 20) (hk : k < 4) : frs M (nI d) (nI k) cs = 1 ↔ wsaid gb d (nI k) = 1 := by
  obtain ⟨t20, n5, w6, m6, w7, w10, s4, w14, hT, hD, hS⟩ := R
  have e : ∀ i, i < cs → gb 12 i = M 23 (3 * i + 1) ∧ gb 13 i = M 23 (3 * i + 2) := by
    intro i hi
    have := hD.2.2.2.2.2.1 i hi
    rw [show 0 + 48 + 3 * i + 1 = 48 + (3 * i + 1) by omega, show 0 + 48 + 3 * i + 2 = 48 + (3 * i + 2) by omega, MFr_i, MFr_i, MFr_i] at this
    exact this.2
  rw [RD_said hD hd hk]
  rcases frs_iff M (nI d) (nI k) cs with ⟨h1, h2⟩ | ⟨h1, i, h2, h3⟩
  · rw [h1]
    refine ⟨fun z => absurd z (by decide), ?_⟩
    rintro ⟨i, hi, z1, z2⟩
    exact absurd ⟨(e i hi).1 ▸ z1, (e i hi).2 ▸ z2⟩ (h2 i hi)
  · exact ⟨fun _ => ⟨i, h2, (e i h2).1.trans h3.1, (e i h2).2.trans h3.2⟩, fun _ => h1⟩
/-- a sayer more -/
theorem rF_sayer (R : rQ 0 t ns cs D fb gb yb (F 17) (MFr F M)) (h5 : ns < 5) (hk : kd < 6) (ha : a < 10) (d1 : 70 ≤ D.2.1) : rQ 0 t (ns + 1) cs (hnew D (.inr (kcl kd, sfs (kcl kd) (nI kd) (nI ns) (nI a))) n4) (upd fb 10 (nI (ns + 1))) (va_up gb 9 (upd (gb 9) ns 0)) (va_up yb ns (some D.2.1)) (upd F 17 (nI (ns + 1)) 17) (MFr (upd F 17 (nI (ns + 1))) (va_up M 22 (upd (upd (M 22) (2 * ns) (nI kd)) (2 * ns + 1) (nI a)))) := by
  obtain ⟨t20, n5, w6, m6, w7, w10, s4, w14, hT, hD, hS⟩ := R
  have hD0 : RD 0 0 cs gb (MFr (upd F 17 (nI (ns + 1))) (va_up M 22 (upd (upd (M 22) (2 * ns) (nI kd)) (2 * ns + 1) (nI a)))) := RD_n0 hD
  refine ⟨t20, h5, w6, m6, w7, rfl, rfl, w14, hT, ?_, ?_⟩
  · have hD1 : RD 0 0 cs (va_up gb 9 (upd (gb 9) ns 0)) (MFr (upd F 17 (nI (ns + 1))) (va_up M 22 (upd (upd (M 22) (2 * ns) (nI kd)) (2 * ns + 1) (nI a)))) := by
      obtain ⟨d1, d2, d3, d4, d5, d6, d7, d8, d9⟩ := hD0
      exact ⟨d1, d2, d3, d4, fun s _ h => absurd h (Nat.not_lt_zero s), d6, d7, d8, d9⟩
    refine RD_np hD1 ?_
    intro e he hen
    rw [MFr_p he, uE]
    by_cases q : e = ns
    · rw [q, pE]
    · rw [pN q]
      have := hD.2.2.2.2.1 e he (by omega)
      rw [Nat.zero_add, MFr_p he] at this
      exact this
  · intro i hi
    by_cases e : i = ns
    · subst e
      refine ⟨D.2.1, kd, a, uE _ _ _, ⟨d1, Nat.lt_succ_self _, new_isS hk (by omega) ha⟩, ?_, ?_⟩
      · show va_up M 22 _ 22 (2 * i) = _
        rw [uE, pN (by omega), pE]
      · show va_up M 22 _ 22 (2 * i + 1) = _
        rw [uE, pE]
    · obtain ⟨o, kd', a', h1, h2, h3, h4⟩ := hS i (by omega)
      refine ⟨o, kd', a', by rw [uN e]; exact h1, okS_ext ext_new h2, ?_, ?_⟩
      · show va_up M 22 _ 22 (2 * i) = _
        rw [uE, pN (by omega), pN (by omega)]; exact h3
      · show va_up M 22 _ 22 (2 * i + 1) = _
        rw [uE, pN (by omega), pN (by omega)]; exact h4
/-- a day told -/
theorem rF_day (R : rQ 0 t ns cs D fb gb yb (F 17) (MFr F M)) (hd : d < 20) (hw : w < 100) (hA : ∀ j, j < 4 → inR (A j) 10) (hs : ¬ A 0 + A 1 + A 2 + A 3 = 0) (hsg : sg = -1 ∨ inR sg 4) (g0 : ∀ e, e < 20 → gb' 0 e = if e = d then nI w else gb 0 e) (g1 : ∀ k, k < 80 → gb' 1 k = if 4 * d ≤ k ∧ k < 4 * d + 4 then A (k - 4 * d) else gb 1 k) (g2 : ∀ e, e < 20 → gb' 2 e = if e = d then sg else gb 2 e) (go : ∀ s, s ≠ 0 → s ≠ 1 → s ≠ 2 → gb' s = gb s) (m0 : ∀ e, e < 20 → M' 19 e = if e = d then nI w else M 19 e) (m1 : ∀ k, k < 80 → M' 20 k = if 4 * d ≤ k ∧ k < 4 * d + 4 then A (k - 4 * d) else M 20 k) (m2 : ∀ e, e < 20 → M' 21 e = if e = d then sg else M 21 e) (mo : M' 0 = M 0 ∧ M' 22 = M 22 ∧ M' 23 = M 23 ∧ M' 6 = M 6) : rQ 0 t ns cs D fb gb' yb (F 17) (MFr F M') := by
  obtain ⟨t20, n5, w6, m6, w7, w10, s4, w14, hT, hD, hS⟩ := R
  obtain ⟨t0, t1, t2, t3, t4⟩ := hT
  obtain ⟨d1, d2, d3, d4, d5, d6, d7, d8, d9⟩ := hD
  obtain ⟨o0, o22, o23, o6⟩ := mo
  have ei : ∀ k, MFr F M' 0 (48 + k) = MFr F M 0 (48 + k) := fun k => by rw [MFr_i, MFr_i, o23]
  have em : ∀ v, msd (MFr F M') 0 cs v = msd (MFr F M) 0 cs v := by
    intro v
    unfold msd
    apply lfold_cong
    intro j b h1 h2
    unfold msdF
    rw [show 0 + 48 + 3 * j + 1 = 48 + (3 * j + 1) by omega, show 0 + 48 + 3 * j + 2 = 48 + (3 * j + 2) by omega, ei, ei]
  refine ⟨t20, n5, w6, m6, ?_, w10, s4, w14, ⟨?_, ?_, ?_, ?_, ?_⟩, ⟨d1, d2, ?_, ?_, ?_, ?_, ?_, ?_, ?_⟩, ?_⟩
  · show fb 7 = M' 0 1
    rw [o0]; exact w7
  · intro e he
    rw [g0 e he]
    show _ = M' 19 e ∧ _
    rw [m0 e he]
    by_cases q : e = d
    · rw [if_pos q, if_pos q]; exact ⟨rfl, w, hw, rfl⟩
    · rw [if_neg q, if_neg q]; exact t0 e he
  · intro k hk
    rw [g1 k hk]
    show _ = M' 20 k ∧ _
    rw [m1 k hk]
    by_cases q : 4 * d ≤ k ∧ k < 4 * d + 4
    · rw [if_pos q, if_pos q]; exact ⟨rfl, hA _ (by omega)⟩
    · rw [if_neg q, if_neg q]; exact t1 k hk
  · intro l hl
    rw [go 5 (by decide) (by decide) (by decide)]
    show _ = M' 6 l
    rw [o6]; exact t2 l hl
  · rw [go 5 (by decide) (by decide) (by decide)]; exact t3
  · intro e he
    unfold mpl
    show ¬ M' 20 (4 * e) + M' 20 (4 * e + 1) + M' 20 (4 * e + 2) + M' 20 (4 * e + 3) = 0
    rw [m1 _ (by omega), m1 _ (by omega), m1 _ (by omega), m1 _ (by omega)]
    by_cases q : e = d
    · subst q
      rw [if_pos (by omega), if_pos (by omega), if_pos (by omega), if_pos (by omega), Nat.sub_self, Nat.add_sub_cancel_left, Nat.add_sub_cancel_left, Nat.add_sub_cancel_left]
      exact hs
    · rw [if_neg (by omega), if_neg (by omega), if_neg (by omega), if_neg (by omega)]
      exact t4 e he
  · intro e he
    have := d3 e he
    rw [Nat.zero_add, MFr_s he] at this ⊢
    rw [g2 e he, m2 e he]
    by_cases q : e = d
    · rw [if_pos q, if_pos q]; exact ⟨rfl, hsg⟩
    · rw [if_neg q, if_neg q]; exact this
  · intro e he
    have := d4 e he
    rw [Nat.zero_add, MFr_w he] at this ⊢
    rw [go 3 (by decide) (by decide) (by decide)]; exact this
  · intro e he hen
    have := d5 e he hen
    rw [Nat.zero_add, MFr_p he] at this ⊢
    rw [go 9 (by decide) (by decide) (by decide)]; exact this
  · intro e he
    have := d6 e he
    rw [show 0 + 48 + 3 * e + 1 = 48 + (3 * e + 1) by omega, show 0 + 48 + 3 * e + 2 = 48 + (3 * e + 2) by omega, show 0 + 48 + 3 * e = 48 + 3 * e by omega] at this ⊢
    rw [ei, ei, ei, go 11 (by decide) (by decide) (by decide), go 12 (by decide) (by decide) (by decide), go 13 (by decide) (by decide) (by decide)]
    exact this
  · rw [go 11 (by decide) (by decide) (by decide), go 12 (by decide) (by decide) (by decide), go 13 (by decide) (by decide) (by decide)]
    exact d7
  · intro e he
    rw [em, go 4 (by decide) (by decide) (by decide)]
    exact d8 e he
  · rw [go 12 (by decide) (by decide) (by decide), go 13 (by decide) (by decide) (by decide)]
    exact d9
  · intro i hi
    obtain ⟨o, kd', a', h1, h2, h3, h4⟩ := hS i hi
    refine ⟨o, kd', a', h1, h2, ?_, ?_⟩
    · show M' 22 _ = _
      rw [o22]; exact h3
    · show M' 22 _ = _
      rw [o22]; exact h4
end S98s
