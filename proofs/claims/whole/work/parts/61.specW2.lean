/-! WHAT THE METHODS OF World DO, 2: sayers and sayings, read -/
section S21
variable {sc : Nat × (Nat → Int32)} {h : TH} {w d k c : Nat} {f : Nat → Int32} {g : Nat → Nat → Int32} {y : Nat → Option Nat} {s x : Int32} {K : Option TV → TH → Prop}
def wsa (f : Nat → Int32) (y : Nat → Option Nat) (x : Int32) : Option Nat := if x < 0 then none else if f 10 ≤ x then none else y x.toNatClampNeg
theorem sX9_sayerAt (hc : f 10 = nI c) (h5 : c ≤ 5) : tA sc iX9_sayerAt 0 [vR (some w), vI x] [] (hW h w f g y) K = K (some (vR (wsa f y x))) (hW h w f g y) := by
  simp only [rX9_sayerAt_0, rX9_sayerAt_1, rX9_sayerAt_4, rX9_sayerAt_5, rX9_sayerAt_6, rX9_sayerAt_9, rX9_sayerAt_12, rX9_sayerAt_13, rX9_sayerAt_16, rX9_sayerAt_17, rX9_sayerAt_18, rX9_sayerAt_21, rX9_sayerAt_22, hW_cl, hW_g0, hW_g1, hW_g2, hW_g3, hW_g4, hW_g5, hW_g6, hW_g7, hW_g8, hW_g9, hW_g10, hW_g11, hW_g12, hW_g13, hW_g14, hW_r0, hW_r1, hW_r2, hW_r3, hW_r4, hW_r5, hW_r8, hW_r9, hW_r11, hW_r12, hW_r13, hW_w0, hW_w1, hW_w2, hW_w3, hW_w4, hW_w5, hW_w9, hW_w11, hW_w12, hW_w13, hW_p6, hW_p7, hW_p10, hW_p14, hW_l0, hW_l1, hW_l2, hW_l3, oz_some, tclr_I, tclr_R, tclr_U, tclr_L, tpu_some, tpu_none, nI4, nI4', nI_add, i01, i12, i23, i34, reduceIte, hc]
  unfold wsa
  rcases nIcases x with q | ⟨n, hn, rfl⟩
  · simp [q]
  · by_cases q : n < c
    · simp (disch := omega) only [nIlt0, hc, nIle_f, if_false, hW_cl, hW_g0, hW_g1, hW_g2, hW_g3, hW_g4, hW_g5, hW_g6, hW_g7, hW_g8, hW_g9, hW_g10, hW_g11, hW_g12, hW_g13, hW_g14, hW_r0, hW_r1, hW_r2, hW_r3, hW_r4, hW_r5, hW_r8, hW_r9, hW_r11, hW_r12, hW_r13, hW_w0, hW_w1, hW_w2, hW_w3, hW_w4, hW_w5, hW_w9, hW_w11, hW_w12, hW_w13, hW_p6, hW_p7, hW_p10, hW_p14, hW_l0, hW_l1, hW_l2, hW_l3, oz_some, tclr_I, tclr_R, tclr_U, tclr_L, tpu_some, tpu_none, nI4, nI4', nI_add, i01, i12, i23, i34, reduceIte, rX9_sayerAt_0, rX9_sayerAt_1, rX9_sayerAt_4, rX9_sayerAt_5, rX9_sayerAt_6, rX9_sayerAt_9, rX9_sayerAt_12, rX9_sayerAt_13, rX9_sayerAt_16, rX9_sayerAt_17, rX9_sayerAt_18, rX9_sayerAt_21, rX9_sayerAt_22, nI_clamp]
    · simp (disch := omega) only [nIlt0, hc, nIle_t, if_false, if_true]
def wcnt (g : Nat → Nat → Int32) (s : Int32) (c : Nat) : Int32 := lfold (fun i a => if g 11 i = s then a + 1 else a) c 0 0
theorem sX9_sayingsOf (hc : f 14 = nI c) (h4 : c ≤ 40) : tA sc iX9_sayingsOf 0 [vR (some w), vI s, vU, vU] [] (hW h w f g y) K = K (some (vI (wcnt g s c))) (hW h w f g y) := by
  have L := loopA (fun i (a : Int32) => tA sc iX9_sayingsOf 4 [vR (some w), vI s, vI a, vI (nI i)] [] (hW h w f g y) K) (fun a => K (some (vI a)) (hW h w f g y)) (fun i a => if g 11 i = s then a + 1 else a) c ?_ ?_ c 0 0 (by omega)
  · simp only [rX9_sayingsOf_0, rX9_sayingsOf_1, rX9_sayingsOf_2, rX9_sayingsOf_3, rX9_sayingsOf_5, rX9_sayingsOf_6, rX9_sayingsOf_9, rX9_sayingsOf_12, rX9_sayingsOf_13, rX9_sayingsOf_16, rX9_sayingsOf_17, rX9_sayingsOf_18, rX9_sayingsOf_19, rX9_sayingsOf_22, rX9_sayingsOf_25, rX9_sayingsOf_28, rX9_sayingsOf_31, rX9_sayingsOf_32, hW_cl, hW_g0, hW_g1, hW_g2, hW_g3, hW_g4, hW_g5, hW_g6, hW_g7, hW_g8, hW_g9, hW_g10, hW_g11, hW_g12, hW_g13, hW_g14, hW_r0, hW_r1, hW_r2, hW_r3, hW_r4, hW_r5, hW_r8, hW_r9, hW_r11, hW_r12, hW_r13, hW_w0, hW_w1, hW_w2, hW_w3, hW_w4, hW_w5, hW_w9, hW_w11, hW_w12, hW_w13, hW_p6, hW_p7, hW_p10, hW_p14, hW_l0, hW_l1, hW_l2, hW_l3, oz_some, tclr_I, tclr_R, tclr_U, tclr_L, tpu_some, tpu_none, nI4, nI4', nI_add, i01, i12, i23, i34, reduceIte]
    exact L
  · intro a
    rw [rX9_sayingsOf_4]
    simp (disch := omega) only [rX9_sayingsOf_0, rX9_sayingsOf_1, rX9_sayingsOf_2, rX9_sayingsOf_3, rX9_sayingsOf_5, rX9_sayingsOf_6, rX9_sayingsOf_9, rX9_sayingsOf_12, rX9_sayingsOf_13, rX9_sayingsOf_16, rX9_sayingsOf_17, rX9_sayingsOf_18, rX9_sayingsOf_19, rX9_sayingsOf_22, rX9_sayingsOf_25, rX9_sayingsOf_28, rX9_sayingsOf_31, rX9_sayingsOf_32, hW_cl, hW_g0, hW_g1, hW_g2, hW_g3, hW_g4, hW_g5, hW_g6, hW_g7, hW_g8, hW_g9, hW_g10, hW_g11, hW_g12, hW_g13, hW_g14, hW_r0, hW_r1, hW_r2, hW_r3, hW_r4, hW_r5, hW_r8, hW_r9, hW_r11, hW_r12, hW_r13, hW_w0, hW_w1, hW_w2, hW_w3, hW_w4, hW_w5, hW_w9, hW_w11, hW_w12, hW_w13, hW_p6, hW_p7, hW_p10, hW_p14, hW_l0, hW_l1, hW_l2, hW_l3, oz_some, tclr_I, tclr_R, tclr_U, tclr_L, tpu_some, tpu_none, nI4, nI4', nI_add, i01, i12, i23, i34, reduceIte, hc, nIle_t, if_true]
  · intro i a hi
    rw [rX9_sayingsOf_4]
    simp (disch := omega) only [rX9_sayingsOf_0, rX9_sayingsOf_1, rX9_sayingsOf_2, rX9_sayingsOf_3, rX9_sayingsOf_5, rX9_sayingsOf_6, rX9_sayingsOf_9, rX9_sayingsOf_12, rX9_sayingsOf_13, rX9_sayingsOf_16, rX9_sayingsOf_17, rX9_sayingsOf_18, rX9_sayingsOf_19, rX9_sayingsOf_22, rX9_sayingsOf_25, rX9_sayingsOf_28, rX9_sayingsOf_31, rX9_sayingsOf_32, hW_cl, hW_g0, hW_g1, hW_g2, hW_g3, hW_g4, hW_g5, hW_g6, hW_g7, hW_g8, hW_g9, hW_g10, hW_g11, hW_g12, hW_g13, hW_g14, hW_r0, hW_r1, hW_r2, hW_r3, hW_r4, hW_r5, hW_r8, hW_r9, hW_r11, hW_r12, hW_r13, hW_w0, hW_w1, hW_w2, hW_w3, hW_w4, hW_w5, hW_w9, hW_w11, hW_w12, hW_w13, hW_p6, hW_p7, hW_p10, hW_p14, hW_l0, hW_l1, hW_l2, hW_l3, oz_some, tclr_I, tclr_R, tclr_U, tclr_L, tpu_some, tpu_none, nI4, nI4', nI_add, i01, i12, i23, i34, reduceIte, hc, nIle_f, if_false, nI_1]
    by_cases q : g 11 i = s <;> simp [q]
/-- right, as far as the day is over -/
def wright (f : Nat → Int32) (g : Nat → Nat → Int32) (i : Nat) : Int32 := if f 6 ≤ g 12 i then 0 else if g 3 (g 12 i).toNatClampNeg = g 13 i then 1 else 0
theorem sX9_isRight (hi : k < 40) (hdk : g 12 k = nI d) (hd : d < 20) : tA sc iX9_isRight 0 [vR (some w), vI (nI k), vU] [] (hW h w f g y) K = K (some (vI (wright f g k))) (hW h w f g y) := by
  simp (disch := first | omega | exact hW_cl) only [rX9_isRight_0, rX9_isRight_1, rX9_isRight_4, rX9_isRight_5, rX9_isRight_6, rX9_isRight_7, rX9_isRight_8, rX9_isRight_9, rX9_isRight_12, rX9_isRight_15, rX9_isRight_16, rX9_isRight_19, rX9_isRight_20, rX9_isRight_21, rX9_isRight_22, rX9_isRight_25, rX9_isRight_26, rX9_isRight_27, rX9_isRight_30, rX9_isRight_31, rX9_isRight_34, rX9_isRight_35, sX9_isOver, hW_cl, hW_g0, hW_g1, hW_g2, hW_g3, hW_g4, hW_g5, hW_g6, hW_g7, hW_g8, hW_g9, hW_g10, hW_g11, hW_g12, hW_g13, hW_g14, hW_r0, hW_r1, hW_r2, hW_r3, hW_r4, hW_r5, hW_r8, hW_r9, hW_r11, hW_r12, hW_r13, hW_w0, hW_w1, hW_w2, hW_w3, hW_w4, hW_w5, hW_w9, hW_w11, hW_w12, hW_w13, hW_p6, hW_p7, hW_p10, hW_p14, hW_l0, hW_l1, hW_l2, hW_l3, oz_some, tclr_I, tclr_R, tclr_U, tclr_L, tpu_some, tpu_none, nI4, nI4', nI_add, i01, i12, i23, i34, reduceIte, hdk]
  unfold wright
  rw [hdk, nI_clamp (by omega)]
  by_cases q : f 6 ≤ nI d
  · simp [q]
  · by_cases q2 : g 3 d = g 13 k
    · simp [q, q2]
    · simp [q, q2]
end S21
