/-! FRACTIONS IN LOWEST TERMS -/
theorem lN_div {a b : Nat} (ha : a < 2 ^ 31) (h0 : 0 < b) (hb : b < 2 ^ 31) : lN a / lN b = lN (a / b) := by
  apply Int64.toInt_inj.mp
  rw [lg_ldiv_nonneg (by rw [lN_toInt ha]; omega) (by rw [lN_toInt hb]; omega), lN_toInt ha, lN_toInt hb, lN_toInt (Nat.lt_of_le_of_lt (Nat.div_le_self a b) ha)]
  first | rfl | exact (Int.natCast_ediv _ _).symm
theorem lN_rem {a b : Nat} (ha : a < 2 ^ 31) (h0 : 0 < b) (hb : b < 2 ^ 31) : lN a - lN a / lN b * lN b = lN (a % b) := by
  rw [lN_div ha h0 hb, lN_mul, lN_sub (Nat.div_mul_le_self a b)]
  exact congrArg lN (by have := Nat.div_add_mod' a b; omega)
theorem lN_0 : lN 0 = 0 := rfl
theorem lN_ne {b : Nat} (h0 : 0 < b) (hb : b < 2 ^ 31) : ¬ lN b = 0 := by
  rw [← lN_0, lN_eq hb (by decide)]; omega
theorem half_mod {b r : Nat} (h0 : 0 < r) (h : r < b) : 2 * (b % r) < b := by
  have h1 := Nat.mod_lt b h0
  have h2 : b % r ≤ b - r := by
    rw [Nat.mod_eq_sub_mod (Nat.le_of_lt h)]
    exact Nat.mod_le _ _
  omega
theorem lc0 (b : Nat) (h0 : 0 < b) (hb : b < 2 ^ 31) : (lg_cmp (lN b) 0 = 0) = False := eq_false (by rw [lg_cmp_eq]; exact lN_ne h0 hb)
theorem lc00 : (lg_cmp (lN 0) 0 = 0) = True := eq_true (by rw [lg_cmp_eq]; rfl)
theorem absN {u : Int64} (h1 : -2147483648 < u.toInt) (h2 : u.toInt < 2147483648) : (if 0 < u then u else -u) = lN u.toInt.natAbs ∧ (if 0 ≤ lg_cmp u 0 then u else -u) = lN u.toInt.natAbs := by
  have e0 : (0 : Int64).toInt = 0 := rfl
  have hn : ∀ (_ : u.toInt ≤ 0), -u = lN u.toInt.natAbs := by
    intro h
    apply Int64.toInt_inj.mp
    rw [lN_toInt (by omega), Int64.toInt_neg, Int.bmod_eq_of_le (by omega) (by omega)]
    omega
  have hp : ∀ (_ : 0 ≤ u.toInt), u = lN u.toInt.natAbs := by
    intro h
    apply Int64.toInt_inj.mp
    rw [lN_toInt (by omega)]
    omega
  constructor
  · by_cases q : 0 < u
    · rw [if_pos q]
      rw [Int64.lt_iff_toInt_lt, e0] at q
      exact hp (by omega)
    · rw [if_neg q]
      rw [Int64.lt_iff_toInt_lt, e0] at q
      exact hn (by omega)
  · by_cases q : 0 ≤ u
    · rw [if_pos ((lg_cmp_ge u 0).mpr q)]
      rw [Int64.le_iff_toInt_le, e0] at q
      exact hp q
    · rw [if_neg (fun z => q ((lg_cmp_ge u 0).mp z))]
      rw [Int64.le_iff_toInt_le, e0] at q
      exact hn (by omega)
section S94
variable {sc : Nat × (Nat → Int32)} {h : TH} {m b : Nat} {F : Nat → Int32} {M : Nat → Nat → Int32} {v p : Int32} {u : Int64} {E : Nat → Int64} {U : Nat → Nat → Int64} {K : Option TV → TH → Prop} {l0 l2 : TV}
theorem cdv_0 {a i : Nat} {l9 : TV} (hi : i < 100) : tA sc iX10_commonDivisor 9 [l0, vU, l2, vU, vL (lN a), vU, vL (lN 0), vU, vI (nI i), l9, vU] [] h K = K (some (vL (lN a))) h := by
  have e : ((100 : Int32) ≤ nI i) = False := nIle_f (a := 100) hi (by decide)
  rw [rX10_commonDivisor_9]
  simp only [rX10_commonDivisor_0, rX10_commonDivisor_1, rX10_commonDivisor_3, rX10_commonDivisor_4, rX10_commonDivisor_6, rX10_commonDivisor_7, rX10_commonDivisor_11, rX10_commonDivisor_13, rX10_commonDivisor_16, rX10_commonDivisor_18, rX10_commonDivisor_19, rX10_commonDivisor_20, rX10_commonDivisor_23, rX10_commonDivisor_25, rX10_commonDivisor_27, rX10_commonDivisor_28, rX10_commonDivisor_30, rX10_commonDivisor_32, rX10_commonDivisor_34, rX10_commonDivisor_36, rX10_commonDivisor_38, rX10_commonDivisor_41, rX10_commonDivisor_44, rX10_commonDivisor_46, e, if_false, lc00, if_true]
theorem cdv_1 {a b i : Nat} {l9 : TV} (hi : i < 100) (ha : a < 2 ^ 31) (h0 : 0 < b) (hb : b < 2 ^ 31) : tA sc iX10_commonDivisor 9 [l0, vU, l2, vU, vL (lN a), vU, vL (lN b), vU, vI (nI i), l9, vU] [] h K = tA sc iX10_commonDivisor 9 [l0, vU, l2, vU, vL (lN b), vU, vL (lN (a % b)), vU, vI (nI (i + 1)), vL (lN (a % b)), vU] [] h K := by
  have e : ((100 : Int32) ≤ nI i) = False := nIle_f (a := 100) hi (by decide)
  have e1 := lc0 b h0 hb
  have e2 := lN_rem ha h0 hb
  have e3 := lN_ne h0 hb
  rw [rX10_commonDivisor_9]
  simp only [rX10_commonDivisor_0, rX10_commonDivisor_1, rX10_commonDivisor_3, rX10_commonDivisor_4, rX10_commonDivisor_6, rX10_commonDivisor_7, rX10_commonDivisor_11, rX10_commonDivisor_13, rX10_commonDivisor_16, rX10_commonDivisor_18, rX10_commonDivisor_19, rX10_commonDivisor_20, rX10_commonDivisor_23, rX10_commonDivisor_25, rX10_commonDivisor_27, rX10_commonDivisor_28, rX10_commonDivisor_30, rX10_commonDivisor_32, rX10_commonDivisor_34, rX10_commonDivisor_36, rX10_commonDivisor_38, rX10_commonDivisor_41, rX10_commonDivisor_44, rX10_commonDivisor_46, e, e1, e2, e3, if_false, not_false_eq_true, true_and, tclr_I, tclr_U, nI_1]
theorem cdv_loop : ∀ (k a b i : Nat) (l9 : TV), k ≤ 31 → a < 2 ^ 31 → b < 2 ^ k → b < 2 ^ 31 → i + 2 * k < 100 → tA sc iX10_commonDivisor 9 [l0, vU, l2, vU, vL (lN a), vU, vL (lN b), vU, vI (nI i), l9, vU] [] h K = K (some (vL (lN (Nat.gcd a b)))) h
  | 0, a, b, i, l9, hk, ha, hb, hb2, hi => by
    have e : b = 0 := by have : (2 : Nat) ^ 0 = 1 := rfl; omega
    subst e
    rw [cdv_0 (by omega), Nat.gcd_zero_right]
  | k + 1, a, b, i, l9, hk, ha, hb, hb2, hi => by
    rcases Nat.eq_zero_or_pos b with e | e
    · subst e
      rw [cdv_0 (by omega), Nat.gcd_zero_right]
    · rw [cdv_1 (by omega) ha e hb2]
      have hm := Nat.mod_lt a e
      have g1 : Nat.gcd a b = Nat.gcd b (a % b) := by rw [Nat.gcd_comm a b, Nat.gcd_rec b a, Nat.gcd_comm]
      rcases Nat.eq_zero_or_pos (a % b) with z | z
      · rw [z, cdv_0 (by omega), g1, z, Nat.gcd_zero_right]
      · rw [cdv_1 (by omega) hb2 z (by omega)]
        have hh := half_mod z hm
        have g2 : Nat.gcd b (a % b) = Nat.gcd (a % b) (b % (a % b)) := by rw [Nat.gcd_comm b, Nat.gcd_rec (a % b) b, Nat.gcd_comm]
        rw [cdv_loop k (a % b) (b % (a % b)) (i + 1 + 1) _ (by omega) (by omega) (by rw [Nat.pow_succ] at hb; omega) (by omega) (by omega), g1, g2]
theorem sX10_partOf (h1 : -2147483648 < u.toInt) (h2 : u.toInt < 2147483648) (h0 : 0 < b) (hb : b < 2 ^ 31) : tA sc iX10_partOf 0 [vL u, vU, vL (lN b), vU, vI p, vU, vU] [] h K = K (some (vL ((if p = 0 then u else lN b) / lN (Nat.gcd u.toInt.natAbs b)))) h := by
  have hg0 : 0 < Nat.gcd u.toInt.natAbs b := Nat.gcd_pos_of_pos_right _ h0
  have hgb : Nat.gcd u.toInt.natAbs b < 2 ^ 31 := Nat.lt_of_le_of_lt (Nat.gcd_le_right _ h0) hb
  have ec : ∀ K, tA sc iX10_commonDivisor 0 [vL (lN u.toInt.natAbs), vU, vL (lN b), vU, vU, vU, vU, vU, vU, vU, vU] [] h K = K (some (vL (lN (Nat.gcd u.toInt.natAbs b)))) h := by
    intro K
    simp only [rX10_commonDivisor_0, rX10_commonDivisor_1, rX10_commonDivisor_3, rX10_commonDivisor_4, rX10_commonDivisor_6, rX10_commonDivisor_7, rX10_commonDivisor_11, rX10_commonDivisor_13, rX10_commonDivisor_16, rX10_commonDivisor_18, rX10_commonDivisor_19, rX10_commonDivisor_20, rX10_commonDivisor_23, rX10_commonDivisor_25, rX10_commonDivisor_27, rX10_commonDivisor_28, rX10_commonDivisor_30, rX10_commonDivisor_32, rX10_commonDivisor_34, rX10_commonDivisor_36, rX10_commonDivisor_38, rX10_commonDivisor_41, rX10_commonDivisor_44, rX10_commonDivisor_46, tclr_I, tclr_U, tclr_L]
    exact cdv_loop 31 _ _ 0 vU (by decide) (by omega) hb hb (by decide)
  have e1 := lc0 _ hg0 hgb
  have e2 := lN_ne hg0 hgb
  have ea := (absN h1 h2).1
  simp only [rX10_partOf_0, rX10_partOf_1, rX10_partOf_4, rX10_partOf_5, rX10_partOf_8, rX10_partOf_10, rX10_partOf_12, rX10_partOf_13, rX10_partOf_14, rX10_partOf_17, rX10_partOf_19, rX10_partOf_20, rX10_partOf_21, rX10_partOf_23, rX10_partOf_26, rX10_partOf_27, rX10_partOf_30, rX10_partOf_31, rX10_partOf_33, rX10_partOf_34, ea, ec, tpu_some, e1, e2, not_false_eq_true, if_true, true_and, tclr_I, tclr_U, tclr_L]
  by_cases q : p = 0 <;> simp [q]
theorem lw_0 {a : Nat} {l5 l9 : TV} {u w : Int64} (h0 : 0 < a) (ha : a < 2 ^ 31) : tA sc iX11_lowest 17 [vR (some m), vL u, vU, vL w, vU, vL (lN a), vU, vL (lN 0), vU, l9, vU] [] (hM h m F E M U) K = K none (hM h m F (vp_updL (vp_updL E 29 (u / lN a)) 30 (w / lN a)) M U) := by
  have e := lN_ne h0 ha
  rw [rX11_lowest_17]
  simp (disch := first | omega | exact hM_cl) only [rX11_lowest_0, rX11_lowest_1, rX11_lowest_2, rX11_lowest_3, rX11_lowest_6, rX11_lowest_7, rX11_lowest_8, rX11_lowest_11, rX11_lowest_12, rX11_lowest_14, rX11_lowest_15, rX11_lowest_19, rX11_lowest_20, rX11_lowest_21, rX11_lowest_24, rX11_lowest_26, rX11_lowest_28, rX11_lowest_29, rX11_lowest_31, rX11_lowest_33, rX11_lowest_35, rX11_lowest_37, rX11_lowest_39, rX11_lowest_42, rX11_lowest_43, rX11_lowest_44, rX11_lowest_46, rX11_lowest_47, rX11_lowest_50, rX11_lowest_51, rX11_lowest_52, rX11_lowest_54, rX11_lowest_55, rX11_lowest_58, hM_cl, hM_g0, hM_g1, hM_g2, hM_g3, hM_g4, hM_g5, hM_g6, hM_g7, hM_g8, hM_g9, hM_g10, hM_g11, hM_g12, hM_g13, hM_g14, hM_g15, hM_g16, hM_g17, hM_g18, hM_g19, hM_g20, hM_g21, hM_g22, hM_g23, hM_g24, hM_g25, hM_g26, hM_g27, hM_g28, hM_g29, hM_g30, hM_g31, hM_g32, hM_g33, hM_g34, hM_g35, hM_g36, hM_g37, hM_g38, hM_g39, hM_g40, hM_g41, hM_g42, hM_g43, hM_g44, hM_g45, hM_g46, hM_g47, hM_g48, hM_g49, hM_g50, hM_g51, hM_g52, hM_r0, hM_w0, hM_r0_0, hM_w0_0, hM_r0_1, hM_w0_1, hM_r0_2, hM_w0_2, hM_r2, hM_w2, hM_r3, hM_w3, hM_r5, hM_w5, hM_r6, hM_w6, hM_r6_0, hM_w6_0, hM_r6_1, hM_w6_1, hM_r6_2, hM_w6_2, hM_r6_3, hM_w6_3, hM_r7, hM_w7, hM_r8, hM_w8, hM_r19, hM_w19, hM_r20, hM_w20, hM_r21, hM_w21, hM_r22, hM_w22, hM_r23, hM_w23, hM_r24, hM_w24, hM_r24_0, hM_w24_0, hM_r24_1, hM_w24_1, hM_r24_2, hM_w24_2, hM_r24_3, hM_w24_3, hM_r33, hM_w33, hM_r34, hM_w34, hM_r37, hM_w37, hM_r38, hM_w38, hM_w39, hM_r40, hM_w40, hM_r41, hM_w41, hM_r42, hM_w42, hM_r46, hM_w46, hM_r50, hM_w50, hM_r52, hM_w52, hM_r52_0, hM_w52_0, hM_p1, hM_p4, hM_p9, hM_p10, hM_p11, hM_p12, hM_p14, hM_p15, hM_p16, hM_p17, hM_p18, hM_p25, hM_p26, hM_p27, hM_p28, hM_p31, hM_p32, hM_p35, hM_p36, hM_p43, hM_p44, hM_p45, hM_p47, hM_p48, hM_p49, hM_p51, hM_p13, hM_p29, hM_p30, oz_some, lc00, if_true, e, not_false_eq_true, true_and]
theorem lw_loop {u w : Int64} : ∀ (N a b : Nat) (l9 : TV), b ≤ N → a < 2 ^ 31 → b < 2 ^ 31 → 0 < a + b → (b = 0 → 0 < a) → tA sc iX11_lowest 17 [vR (some m), vL u, vU, vL w, vU, vL (lN a), vU, vL (lN b), vU, l9, vU] [] (hM h m F E M U) K = K none (hM h m F (vp_updL (vp_updL E 29 (u / lN (Nat.gcd a b))) 30 (w / lN (Nat.gcd a b))) M U)
  | 0, a, b, l9, hN, ha, hb, h0, h1 => by
    have e : b = 0 := by omega
    subst e
    rw [lw_0 (l5 := vU) (by omega) ha, Nat.gcd_zero_right]
  | N + 1, a, b, l9, hN, ha, hb, h0, h1 => by
    rcases Nat.eq_zero_or_pos b with e | e
    · subst e
      rw [lw_0 (l5 := vU) (by omega) ha, Nat.gcd_zero_right]
    · have hm := Nat.mod_lt a e
      have e1 := lc0 b e hb
      have e2 := lN_rem ha e hb
      have e3 := lN_ne e hb
      have g1 : Nat.gcd a b = Nat.gcd b (a % b) := by rw [Nat.gcd_comm a b, Nat.gcd_rec b a, Nat.gcd_comm]
      rw [rX11_lowest_17]
      simp only [rX11_lowest_0, rX11_lowest_1, rX11_lowest_2, rX11_lowest_3, rX11_lowest_6, rX11_lowest_7, rX11_lowest_8, rX11_lowest_11, rX11_lowest_12, rX11_lowest_14, rX11_lowest_15, rX11_lowest_19, rX11_lowest_20, rX11_lowest_21, rX11_lowest_24, rX11_lowest_26, rX11_lowest_28, rX11_lowest_29, rX11_lowest_31, rX11_lowest_33, rX11_lowest_35, rX11_lowest_37, rX11_lowest_39, rX11_lowest_42, rX11_lowest_43, rX11_lowest_44, rX11_lowest_46, rX11_lowest_47, rX11_lowest_50, rX11_lowest_51, rX11_lowest_52, rX11_lowest_54, rX11_lowest_55, rX11_lowest_58, e1, e2, e3, if_false, not_false_eq_true, true_and, tclr_I, tclr_U, tclr_L]
      rw [lw_loop N b (a % b) _ (by omega) hb (by omega) (by omega) (fun _ => e), ← g1]
theorem sX11_lowest (h1 : -2147483648 < u.toInt) (h2 : u.toInt < 2147483648) (h0 : 0 < b) (hb : b < 2 ^ 31) : tA sc iX11_lowest 0 [vR (some m), vL u, vU, vL (lN b), vU, vU, vU, vU, vU, vU, vU] [] (hM h m F E M U) K = K none (hM h m F (vp_updL (vp_updL E 29 (u / lN (Nat.gcd u.toInt.natAbs b))) 30 (lN b / lN (Nat.gcd u.toInt.natAbs b))) M U) := by
  have ea := (absN h1 h2).2
  have L := fun l9 => lw_loop (sc := sc) (h := h) (m := m) (F := F) (E := E) (M := M) (U := U) (K := K) (u := u) (w := lN b) b u.toInt.natAbs b l9 (by omega) (by omega) hb (by omega) (by omega)
  by_cases q : 0 ≤ lg_cmp u 0
  · rw [if_pos q] at ea
    simp only [rX11_lowest_0, rX11_lowest_1, rX11_lowest_2, rX11_lowest_3, rX11_lowest_6, rX11_lowest_7, rX11_lowest_8, rX11_lowest_11, rX11_lowest_12, rX11_lowest_14, rX11_lowest_15, rX11_lowest_19, rX11_lowest_20, rX11_lowest_21, rX11_lowest_24, rX11_lowest_26, rX11_lowest_28, rX11_lowest_29, rX11_lowest_31, rX11_lowest_33, rX11_lowest_35, rX11_lowest_37, rX11_lowest_39, rX11_lowest_42, rX11_lowest_43, rX11_lowest_44, rX11_lowest_46, rX11_lowest_47, rX11_lowest_50, rX11_lowest_51, rX11_lowest_52, rX11_lowest_54, rX11_lowest_55, rX11_lowest_58, if_pos q, tclr_I, tclr_U, tclr_L]
    rw [← L vU, ← ea]
  · rw [if_neg q] at ea
    simp only [rX11_lowest_0, rX11_lowest_1, rX11_lowest_2, rX11_lowest_3, rX11_lowest_6, rX11_lowest_7, rX11_lowest_8, rX11_lowest_11, rX11_lowest_12, rX11_lowest_14, rX11_lowest_15, rX11_lowest_19, rX11_lowest_20, rX11_lowest_21, rX11_lowest_24, rX11_lowest_26, rX11_lowest_28, rX11_lowest_29, rX11_lowest_31, rX11_lowest_33, rX11_lowest_35, rX11_lowest_37, rX11_lowest_39, rX11_lowest_42, rX11_lowest_43, rX11_lowest_44, rX11_lowest_46, rX11_lowest_47, rX11_lowest_50, rX11_lowest_51, rX11_lowest_52, rX11_lowest_54, rX11_lowest_55, rX11_lowest_58, if_neg q, tclr_I, tclr_U, tclr_L]
    rw [← L vU, ← ea]
theorem told_eq {E : Nat → Int64} {a w : Int64} : (if p = 0 then vp_updL (vp_updL E 29 a) 30 w 29 else vp_updL (vp_updL E 29 a) 30 w 30) = if p = 0 then a else w := rfl
theorem if_div {a w z : Int64} : (if p = 0 then a else w) / z = if p = 0 then a / z else w / z := by
  by_cases q : p = 0
  · rw [if_pos q, if_pos q]
  · rw [if_neg q, if_neg q]
end S94
