/-! WHAT THE METHODS OF World DO, 3: what is counted -/
def lfind (P : Nat → Bool) : Nat → Nat → Option Nat
  | 0, _ => none
  | n + 1, i => if P i = true then some i else lfind P n (i + 1)
/-- a loop that leaves where P first holds -/
theorem loopS (T : Nat → Prop) (E : Option Nat → Prop) (P : Nat → Bool) (N : Nat) (hend : T N = E none) (hyes : ∀ i, i < N → P i = true → T i = E (some i)) (hno : ∀ i, i < N → P i = false → T i = T (i + 1)) : ∀ n i, i + n = N → T i = E (lfind P n i) := by
  intro n
  induction n with
  | zero => intro i h; rw [← h] at hend; exact hend
  | succ n ih =>
    intro i h
    rw [lfind]
    by_cases q : P i = true
    · rw [if_pos q]; exact hyes i (by omega) q
    · rw [if_neg q, hno i (by omega) (by simpa using q)]; exact ih (i + 1) (by omega)
/-- a number of 0 .. n-1 -/
def inR (x : Int32) (n : Nat) : Prop := ∃ k : Nat, k < n ∧ x = nI k
section S22
variable {sc : Nat × (Nat → Int32)} {h : TH} {w d k c : Nat} {f : Nat → Int32} {g : Nat → Nat → Int32} {y : Nat → Option Nat} {s x : Int32} {K : Option TV → TH → Prop}
theorem sX9_isRightR (hi : k < 40) (hD : inR (g 12 k) 20) : tA sc iX9_isRight 0 [vR (some w), vI (nI k), vU] [] (hW h w f g y) K = K (some (vI (wright f g k))) (hW h w f g y) := by
  obtain ⟨d, hd, he⟩ := hD
  exact sX9_isRight hi he hd
def wover (f : Nat → Int32) (g : Nat → Nat → Int32) (s : Int32) (c : Nat) : Int32 := lfold (fun i a => if g 11 i = s then (if f 6 ≤ g 12 i then a else a + 1) else a) c 0 0
theorem sX9_overOf (hc : f 14 = nI c) (h4 : c ≤ 40) : tA sc iX9_overOf 0 [vR (some w), vI s, vU, vU] [] (hW h w f g y) K = K (some (vI (wover f g s c))) (hW h w f g y) := by
  have L := loopA (fun i (a : Int32) => tA sc iX9_overOf 4 [vR (some w), vI s, vI a, vI (nI i)] [] (hW h w f g y) K) (fun a => K (some (vI a)) (hW h w f g y)) (fun i a => if g 11 i = s then (if f 6 ≤ g 12 i then a else a + 1) else a) c ?_ ?_ c 0 0 (by omega)
  · simp only [rX9_overOf_0, rX9_overOf_1, rX9_overOf_2, rX9_overOf_3, rX9_overOf_5, rX9_overOf_6, rX9_overOf_9, rX9_overOf_12, rX9_overOf_13, rX9_overOf_16, rX9_overOf_17, rX9_overOf_18, rX9_overOf_19, rX9_overOf_22, rX9_overOf_23, rX9_overOf_24, rX9_overOf_27, rX9_overOf_28, rX9_overOf_29, rX9_overOf_32, rX9_overOf_35, rX9_overOf_38, rX9_overOf_41, rX9_overOf_44, rX9_overOf_45, hW_cl, hW_g0, hW_g1, hW_g2, hW_g3, hW_g4, hW_g5, hW_g6, hW_g7, hW_g8, hW_g9, hW_g10, hW_g11, hW_g12, hW_g13, hW_g14, hW_r0, hW_r1, hW_r2, hW_r3, hW_r4, hW_r5, hW_r8, hW_r9, hW_r11, hW_r12, hW_r13, hW_w0, hW_w1, hW_w2, hW_w3, hW_w4, hW_w5, hW_w9, hW_w11, hW_w12, hW_w13, hW_p6, hW_p7, hW_p10, hW_p14, hW_l0, hW_l1, hW_l2, hW_l3, oz_some, tclr_I, tclr_R, tclr_U, tclr_L, tpu_some, tpu_none, nI4, nI4', nI_add, i01, i12, i23, i34, reduceIte]
    exact L
  · intro a
    rw [rX9_overOf_4]
    simp (disch := first | omega | exact hW_cl) only [rX9_overOf_0, rX9_overOf_1, rX9_overOf_2, rX9_overOf_3, rX9_overOf_5, rX9_overOf_6, rX9_overOf_9, rX9_overOf_12, rX9_overOf_13, rX9_overOf_16, rX9_overOf_17, rX9_overOf_18, rX9_overOf_19, rX9_overOf_22, rX9_overOf_23, rX9_overOf_24, rX9_overOf_27, rX9_overOf_28, rX9_overOf_29, rX9_overOf_32, rX9_overOf_35, rX9_overOf_38, rX9_overOf_41, rX9_overOf_44, rX9_overOf_45, sX9_isOver, hW_cl, hW_g0, hW_g1, hW_g2, hW_g3, hW_g4, hW_g5, hW_g6, hW_g7, hW_g8, hW_g9, hW_g10, hW_g11, hW_g12, hW_g13, hW_g14, hW_r0, hW_r1, hW_r2, hW_r3, hW_r4, hW_r5, hW_r8, hW_r9, hW_r11, hW_r12, hW_r13, hW_w0, hW_w1, hW_w2, hW_w3, hW_w4, hW_w5, hW_w9, hW_w11, hW_w12, hW_w13, hW_p6, hW_p7, hW_p10, hW_p14, hW_l0, hW_l1, hW_l2, hW_l3, oz_some, tclr_I, tclr_R, tclr_U, tclr_L, tpu_some, tpu_none, nI4, nI4', nI_add, i01, i12, i23, i34, reduceIte, hc, nIle_t, if_true]
  · intro i a hi
    rw [rX9_overOf_4]
    simp (disch := first | omega | exact hW_cl) only [rX9_overOf_0, rX9_overOf_1, rX9_overOf_2, rX9_overOf_3, rX9_overOf_5, rX9_overOf_6, rX9_overOf_9, rX9_overOf_12, rX9_overOf_13, rX9_overOf_16, rX9_overOf_17, rX9_overOf_18, rX9_overOf_19, rX9_overOf_22, rX9_overOf_23, rX9_overOf_24, rX9_overOf_27, rX9_overOf_28, rX9_overOf_29, rX9_overOf_32, rX9_overOf_35, rX9_overOf_38, rX9_overOf_41, rX9_overOf_44, rX9_overOf_45, sX9_isOver, hW_cl, hW_g0, hW_g1, hW_g2, hW_g3, hW_g4, hW_g5, hW_g6, hW_g7, hW_g8, hW_g9, hW_g10, hW_g11, hW_g12, hW_g13, hW_g14, hW_r0, hW_r1, hW_r2, hW_r3, hW_r4, hW_r5, hW_r8, hW_r9, hW_r11, hW_r12, hW_r13, hW_w0, hW_w1, hW_w2, hW_w3, hW_w4, hW_w5, hW_w9, hW_w11, hW_w12, hW_w13, hW_p6, hW_p7, hW_p10, hW_p14, hW_l0, hW_l1, hW_l2, hW_l3, oz_some, tclr_I, tclr_R, tclr_U, tclr_L, tpu_some, tpu_none, nI4, nI4', nI_add, i01, i12, i23, i34, reduceIte, hc, nIle_f, if_false, nI_1]
    by_cases q : g 11 i = s
    · by_cases q2 : f 6 ≤ g 12 i <;> simp [q, q2]
    · simp [q]
def wrights (f : Nat → Int32) (g : Nat → Nat → Int32) (s : Int32) (c : Nat) : Int32 := lfold (fun i a => if g 11 i = s then (if wright f g i = 0 then a else a + 1) else a) c 0 0
theorem sX9_rightOf (hc : f 14 = nI c) (h4 : c ≤ 40) (hD : ∀ i, i < c → inR (g 12 i) 20) : tA sc iX9_rightOf 0 [vR (some w), vI s, vU, vU] [] (hW h w f g y) K = K (some (vI (wrights f g s c))) (hW h w f g y) := by
  have L := loopA (fun i (a : Int32) => tA sc iX9_rightOf 4 [vR (some w), vI s, vI a, vI (nI i)] [] (hW h w f g y) K) (fun a => K (some (vI a)) (hW h w f g y)) (fun i a => if g 11 i = s then (if wright f g i = 0 then a else a + 1) else a) c ?_ ?_ c 0 0 (by omega)
  · simp only [rX9_rightOf_0, rX9_rightOf_1, rX9_rightOf_2, rX9_rightOf_3, rX9_rightOf_5, rX9_rightOf_6, rX9_rightOf_9, rX9_rightOf_12, rX9_rightOf_13, rX9_rightOf_16, rX9_rightOf_17, rX9_rightOf_18, rX9_rightOf_19, rX9_rightOf_22, rX9_rightOf_23, rX9_rightOf_24, rX9_rightOf_27, rX9_rightOf_30, rX9_rightOf_33, rX9_rightOf_36, rX9_rightOf_39, rX9_rightOf_40, hW_cl, hW_g0, hW_g1, hW_g2, hW_g3, hW_g4, hW_g5, hW_g6, hW_g7, hW_g8, hW_g9, hW_g10, hW_g11, hW_g12, hW_g13, hW_g14, hW_r0, hW_r1, hW_r2, hW_r3, hW_r4, hW_r5, hW_r8, hW_r9, hW_r11, hW_r12, hW_r13, hW_w0, hW_w1, hW_w2, hW_w3, hW_w4, hW_w5, hW_w9, hW_w11, hW_w12, hW_w13, hW_p6, hW_p7, hW_p10, hW_p14, hW_l0, hW_l1, hW_l2, hW_l3, oz_some, tclr_I, tclr_R, tclr_U, tclr_L, tpu_some, tpu_none, nI4, nI4', nI_add, i01, i12, i23, i34, reduceIte]
    exact L
  · intro a
    rw [rX9_rightOf_4]
    simp (disch := first | omega | exact hW_cl) only [rX9_rightOf_0, rX9_rightOf_1, rX9_rightOf_2, rX9_rightOf_3, rX9_rightOf_5, rX9_rightOf_6, rX9_rightOf_9, rX9_rightOf_12, rX9_rightOf_13, rX9_rightOf_16, rX9_rightOf_17, rX9_rightOf_18, rX9_rightOf_19, rX9_rightOf_22, rX9_rightOf_23, rX9_rightOf_24, rX9_rightOf_27, rX9_rightOf_30, rX9_rightOf_33, rX9_rightOf_36, rX9_rightOf_39, rX9_rightOf_40, hW_cl, hW_g0, hW_g1, hW_g2, hW_g3, hW_g4, hW_g5, hW_g6, hW_g7, hW_g8, hW_g9, hW_g10, hW_g11, hW_g12, hW_g13, hW_g14, hW_r0, hW_r1, hW_r2, hW_r3, hW_r4, hW_r5, hW_r8, hW_r9, hW_r11, hW_r12, hW_r13, hW_w0, hW_w1, hW_w2, hW_w3, hW_w4, hW_w5, hW_w9, hW_w11, hW_w12, hW_w13, hW_p6, hW_p7, hW_p10, hW_p14, hW_l0, hW_l1, hW_l2, hW_l3, oz_some, tclr_I, tclr_R, tclr_U, tclr_L, tpu_some, tpu_none, nI4, nI4', nI_add, i01, i12, i23, i34, reduceIte, hc, nIle_t, if_true]
  · intro i a hi
    have hDi := hD i hi
    rw [rX9_rightOf_4]
    simp (disch := first | omega | assumption | exact hW_cl) only [rX9_rightOf_0, rX9_rightOf_1, rX9_rightOf_2, rX9_rightOf_3, rX9_rightOf_5, rX9_rightOf_6, rX9_rightOf_9, rX9_rightOf_12, rX9_rightOf_13, rX9_rightOf_16, rX9_rightOf_17, rX9_rightOf_18, rX9_rightOf_19, rX9_rightOf_22, rX9_rightOf_23, rX9_rightOf_24, rX9_rightOf_27, rX9_rightOf_30, rX9_rightOf_33, rX9_rightOf_36, rX9_rightOf_39, rX9_rightOf_40, sX9_isRightR, hW_cl, hW_g0, hW_g1, hW_g2, hW_g3, hW_g4, hW_g5, hW_g6, hW_g7, hW_g8, hW_g9, hW_g10, hW_g11, hW_g12, hW_g13, hW_g14, hW_r0, hW_r1, hW_r2, hW_r3, hW_r4, hW_r5, hW_r8, hW_r9, hW_r11, hW_r12, hW_r13, hW_w0, hW_w1, hW_w2, hW_w3, hW_w4, hW_w5, hW_w9, hW_w11, hW_w12, hW_w13, hW_p6, hW_p7, hW_p10, hW_p14, hW_l0, hW_l1, hW_l2, hW_l3, oz_some, tclr_I, tclr_R, tclr_U, tclr_L, tpu_some, tpu_none, nI4, nI4', nI_add, i01, i12, i23, i34, reduceIte, hc, nIle_f, if_false, nI_1]
    by_cases q : g 11 i = s
    · by_cases q2 : wright f g i = 0 <;> simp [q, q2]
    · simp [q]
def wowner (f : Nat → Int32) (g : Nat → Nat → Int32) (s : Int32) (c : Nat) : Int32 := match lfind (fun i => decide (g 12 i = s ∧ ¬ wright f g i = 0)) c 0 with
  | some i => g 11 i
  | none => -1
theorem sX9_ownerOf (hc : f 14 = nI c) (h4 : c ≤ 40) (hD : ∀ i, i < c → inR (g 12 i) 20) : tA sc iX9_ownerOf 0 [vR (some w), vI s, vU] [] (hW h w f g y) K = K (some (vI (wowner f g s c))) (hW h w f g y) := by
  have L := loopS (fun i => tA sc iX9_ownerOf 2 [vR (some w), vI s, vI (nI i)] [] (hW h w f g y) K) (fun o => K (some (vI (match o with | some i => g 11 i | none => -1))) (hW h w f g y)) (fun i => decide (g 12 i = s ∧ ¬ wright f g i = 0)) c ?_ ?_ ?_ c 0 (by omega)
  · simp only [rX9_ownerOf_0, rX9_ownerOf_1, rX9_ownerOf_3, rX9_ownerOf_4, rX9_ownerOf_7, rX9_ownerOf_10, rX9_ownerOf_11, rX9_ownerOf_14, rX9_ownerOf_15, rX9_ownerOf_16, rX9_ownerOf_17, rX9_ownerOf_20, rX9_ownerOf_21, rX9_ownerOf_22, rX9_ownerOf_25, rX9_ownerOf_28, rX9_ownerOf_29, rX9_ownerOf_32, rX9_ownerOf_33, rX9_ownerOf_34, rX9_ownerOf_35, rX9_ownerOf_38, rX9_ownerOf_41, rX9_ownerOf_42, hW_cl, hW_g0, hW_g1, hW_g2, hW_g3, hW_g4, hW_g5, hW_g6, hW_g7, hW_g8, hW_g9, hW_g10, hW_g11, hW_g12, hW_g13, hW_g14, hW_r0, hW_r1, hW_r2, hW_r3, hW_r4, hW_r5, hW_r8, hW_r9, hW_r11, hW_r12, hW_r13, hW_w0, hW_w1, hW_w2, hW_w3, hW_w4, hW_w5, hW_w9, hW_w11, hW_w12, hW_w13, hW_p6, hW_p7, hW_p10, hW_p14, hW_l0, hW_l1, hW_l2, hW_l3, oz_some, tclr_I, tclr_R, tclr_U, tclr_L, tpu_some, tpu_none, nI4, nI4', nI_add, i01, i12, i23, i34, reduceIte]
    exact L
  · rw [rX9_ownerOf_2]
    simp (disch := first | omega | exact hW_cl) only [rX9_ownerOf_0, rX9_ownerOf_1, rX9_ownerOf_3, rX9_ownerOf_4, rX9_ownerOf_7, rX9_ownerOf_10, rX9_ownerOf_11, rX9_ownerOf_14, rX9_ownerOf_15, rX9_ownerOf_16, rX9_ownerOf_17, rX9_ownerOf_20, rX9_ownerOf_21, rX9_ownerOf_22, rX9_ownerOf_25, rX9_ownerOf_28, rX9_ownerOf_29, rX9_ownerOf_32, rX9_ownerOf_33, rX9_ownerOf_34, rX9_ownerOf_35, rX9_ownerOf_38, rX9_ownerOf_41, rX9_ownerOf_42, hW_cl, hW_g0, hW_g1, hW_g2, hW_g3, hW_g4, hW_g5, hW_g6, hW_g7, hW_g8, hW_g9, hW_g10, hW_g11, hW_g12, hW_g13, hW_g14, hW_r0, hW_r1, hW_r2, hW_r3, hW_r4, hW_r5, hW_r8, hW_r9, hW_r11, hW_r12, hW_r13, hW_w0, hW_w1, hW_w2, hW_w3, hW_w4, hW_w5, hW_w9, hW_w11, hW_w12, hW_w13, hW_p6, hW_p7, hW_p10, hW_p14, hW_l0, hW_l1, hW_l2, hW_l3, oz_some, tclr_I, tclr_R, tclr_U, tclr_L, tpu_some, tpu_none, nI4, nI4', nI_add, i01, i12, i23, i34, reduceIte, hc, nIle_t, if_true]
  · intro i hi q
    have hDi := hD i hi
    obtain ⟨q1, q2⟩ := of_decide_eq_true q
    rw [rX9_ownerOf_2]
    simp (disch := first | omega | assumption | exact hW_cl) only [rX9_ownerOf_0, rX9_ownerOf_1, rX9_ownerOf_3, rX9_ownerOf_4, rX9_ownerOf_7, rX9_ownerOf_10, rX9_ownerOf_11, rX9_ownerOf_14, rX9_ownerOf_15, rX9_ownerOf_16, rX9_ownerOf_17, rX9_ownerOf_20, rX9_ownerOf_21, rX9_ownerOf_22, rX9_ownerOf_25, rX9_ownerOf_28, rX9_ownerOf_29, rX9_ownerOf_32, rX9_ownerOf_33, rX9_ownerOf_34, rX9_ownerOf_35, rX9_ownerOf_38, rX9_ownerOf_41, rX9_ownerOf_42, sX9_isRightR, hW_cl, hW_g0, hW_g1, hW_g2, hW_g3, hW_g4, hW_g5, hW_g6, hW_g7, hW_g8, hW_g9, hW_g10, hW_g11, hW_g12, hW_g13, hW_g14, hW_r0, hW_r1, hW_r2, hW_r3, hW_r4, hW_r5, hW_r8, hW_r9, hW_r11, hW_r12, hW_r13, hW_w0, hW_w1, hW_w2, hW_w3, hW_w4, hW_w5, hW_w9, hW_w11, hW_w12, hW_w13, hW_p6, hW_p7, hW_p10, hW_p14, hW_l0, hW_l1, hW_l2, hW_l3, oz_some, tclr_I, tclr_R, tclr_U, tclr_L, tpu_some, tpu_none, nI4, nI4', nI_add, i01, i12, i23, i34, reduceIte, hc, nIle_f, if_false, q1, q2, not_true_eq_false]
  · intro i hi q
    have hDi := hD i hi
    have q1 := of_decide_eq_false q
    rw [rX9_ownerOf_2]
    simp (disch := first | omega | assumption | exact hW_cl) only [rX9_ownerOf_0, rX9_ownerOf_1, rX9_ownerOf_3, rX9_ownerOf_4, rX9_ownerOf_7, rX9_ownerOf_10, rX9_ownerOf_11, rX9_ownerOf_14, rX9_ownerOf_15, rX9_ownerOf_16, rX9_ownerOf_17, rX9_ownerOf_20, rX9_ownerOf_21, rX9_ownerOf_22, rX9_ownerOf_25, rX9_ownerOf_28, rX9_ownerOf_29, rX9_ownerOf_32, rX9_ownerOf_33, rX9_ownerOf_34, rX9_ownerOf_35, rX9_ownerOf_38, rX9_ownerOf_41, rX9_ownerOf_42, sX9_isRightR, hW_cl, hW_g0, hW_g1, hW_g2, hW_g3, hW_g4, hW_g5, hW_g6, hW_g7, hW_g8, hW_g9, hW_g10, hW_g11, hW_g12, hW_g13, hW_g14, hW_r0, hW_r1, hW_r2, hW_r3, hW_r4, hW_r5, hW_r8, hW_r9, hW_r11, hW_r12, hW_r13, hW_w0, hW_w1, hW_w2, hW_w3, hW_w4, hW_w5, hW_w9, hW_w11, hW_w12, hW_w13, hW_p6, hW_p7, hW_p10, hW_p14, hW_l0, hW_l1, hW_l2, hW_l3, oz_some, tclr_I, tclr_R, tclr_U, tclr_L, tpu_some, tpu_none, nI4, nI4', nI_add, i01, i12, i23, i34, reduceIte, hc, nIle_f, if_false, nI_1]
    by_cases q2 : g 12 i = s
    · have q3 : wright f g i = 0 := by
        by_cases q3 : wright f g i = 0
        · exact q3
        · exact absurd ⟨q2, q3⟩ q1
      simp [q2, q3]
    · simp [q2]
def wpurses (g : Nat → Nat → Int32) (c : Nat) : Int32 := lfold (fun i a => a + g 9 i) c 0 0
theorem sX9_pursesTogether (hc : f 10 = nI c) (h5 : c ≤ 5) : tA sc iX9_pursesTogether 0 [vR (some w), vU, vU] [] (hW h w f g y) K = K (some (vI (wpurses g c))) (hW h w f g y) := by
  have L := loopA (fun i (a : Int32) => tA sc iX9_pursesTogether 4 [vR (some w), vI a, vI (nI i)] [] (hW h w f g y) K) (fun a => K (some (vI a)) (hW h w f g y)) (fun i a => a + g 9 i) c ?_ ?_ c 0 0 (by omega)
  · simp only [rX9_pursesTogether_0, rX9_pursesTogether_1, rX9_pursesTogether_2, rX9_pursesTogether_3, rX9_pursesTogether_5, rX9_pursesTogether_6, rX9_pursesTogether_9, rX9_pursesTogether_12, rX9_pursesTogether_13, rX9_pursesTogether_14, rX9_pursesTogether_17, rX9_pursesTogether_18, rX9_pursesTogether_19, rX9_pursesTogether_20, rX9_pursesTogether_21, rX9_pursesTogether_24, rX9_pursesTogether_27, rX9_pursesTogether_28, hW_cl, hW_g0, hW_g1, hW_g2, hW_g3, hW_g4, hW_g5, hW_g6, hW_g7, hW_g8, hW_g9, hW_g10, hW_g11, hW_g12, hW_g13, hW_g14, hW_r0, hW_r1, hW_r2, hW_r3, hW_r4, hW_r5, hW_r8, hW_r9, hW_r11, hW_r12, hW_r13, hW_w0, hW_w1, hW_w2, hW_w3, hW_w4, hW_w5, hW_w9, hW_w11, hW_w12, hW_w13, hW_p6, hW_p7, hW_p10, hW_p14, hW_l0, hW_l1, hW_l2, hW_l3, oz_some, tclr_I, tclr_R, tclr_U, tclr_L, tpu_some, tpu_none, nI4, nI4', nI_add, i01, i12, i23, i34, reduceIte]
    exact L
  · intro a
    rw [rX9_pursesTogether_4]
    simp (disch := first | omega | exact hW_cl) only [rX9_pursesTogether_0, rX9_pursesTogether_1, rX9_pursesTogether_2, rX9_pursesTogether_3, rX9_pursesTogether_5, rX9_pursesTogether_6, rX9_pursesTogether_9, rX9_pursesTogether_12, rX9_pursesTogether_13, rX9_pursesTogether_14, rX9_pursesTogether_17, rX9_pursesTogether_18, rX9_pursesTogether_19, rX9_pursesTogether_20, rX9_pursesTogether_21, rX9_pursesTogether_24, rX9_pursesTogether_27, rX9_pursesTogether_28, hW_cl, hW_g0, hW_g1, hW_g2, hW_g3, hW_g4, hW_g5, hW_g6, hW_g7, hW_g8, hW_g9, hW_g10, hW_g11, hW_g12, hW_g13, hW_g14, hW_r0, hW_r1, hW_r2, hW_r3, hW_r4, hW_r5, hW_r8, hW_r9, hW_r11, hW_r12, hW_r13, hW_w0, hW_w1, hW_w2, hW_w3, hW_w4, hW_w5, hW_w9, hW_w11, hW_w12, hW_w13, hW_p6, hW_p7, hW_p10, hW_p14, hW_l0, hW_l1, hW_l2, hW_l3, oz_some, tclr_I, tclr_R, tclr_U, tclr_L, tpu_some, tpu_none, nI4, nI4', nI_add, i01, i12, i23, i34, reduceIte, hc, nIle_t, if_true]
  · intro i a hi
    rw [rX9_pursesTogether_4]
    simp (disch := first | omega | exact hW_cl) only [rX9_pursesTogether_0, rX9_pursesTogether_1, rX9_pursesTogether_2, rX9_pursesTogether_3, rX9_pursesTogether_5, rX9_pursesTogether_6, rX9_pursesTogether_9, rX9_pursesTogether_12, rX9_pursesTogether_13, rX9_pursesTogether_14, rX9_pursesTogether_17, rX9_pursesTogether_18, rX9_pursesTogether_19, rX9_pursesTogether_20, rX9_pursesTogether_21, rX9_pursesTogether_24, rX9_pursesTogether_27, rX9_pursesTogether_28, hW_cl, hW_g0, hW_g1, hW_g2, hW_g3, hW_g4, hW_g5, hW_g6, hW_g7, hW_g8, hW_g9, hW_g10, hW_g11, hW_g12, hW_g13, hW_g14, hW_r0, hW_r1, hW_r2, hW_r3, hW_r4, hW_r5, hW_r8, hW_r9, hW_r11, hW_r12, hW_r13, hW_w0, hW_w1, hW_w2, hW_w3, hW_w4, hW_w5, hW_w9, hW_w11, hW_w12, hW_w13, hW_p6, hW_p7, hW_p10, hW_p14, hW_l0, hW_l1, hW_l2, hW_l3, oz_some, tclr_I, tclr_R, tclr_U, tclr_L, tpu_some, tpu_none, nI4, nI4', nI_add, i01, i12, i23, i34, reduceIte, hc, nIle_f, if_false, nI_1]
def wlkF (g : Nat → Nat → Int32) (d : Nat) : Nat → Int32 × Int32 × TV → Int32 × Int32 × TV := fun i a => if wtw g d i (g 2 d) ≤ a.2.1 then (a.1, a.2.1, vI (wtw g d i (g 2 d))) else (nI i, wtw g d i (g 2 d), vI (wtw g d i (g 2 d)))
def wlk (g : Nat → Nat → Int32) (d : Nat) : Int32 := (lfold (wlkF g d) 4 0 (0, -1, vU)).1
theorem sX9_likeliest (hd : d < 20) : tA sc iX9_likeliest 0 [vR (some w), vI (nI d), vU, vU, vU, vU] [] (hW h w f g y) K = K (some (vI (wlk g d))) (hW h w f g y) := by
  have L := loopA (fun i (a : Int32 × Int32 × TV) => tA sc iX9_likeliest 7 [vR (some w), vI (nI d), vI a.1, vI a.2.1, vI (nI i), a.2.2] [] (hW h w f g y) K) (fun a => K (some (vI a.1)) (hW h w f g y)) (wlkF g d) 4 ?_ ?_ 4 0 (0, -1, vU) (by omega)
  · simp only [rX9_likeliest_0, rX9_likeliest_1, rX9_likeliest_2, rX9_likeliest_3, rX9_likeliest_4, rX9_likeliest_5, rX9_likeliest_9, rX9_likeliest_10, rX9_likeliest_13, rX9_likeliest_14, rX9_likeliest_15, rX9_likeliest_17, rX9_likeliest_18, rX9_likeliest_21, rX9_likeliest_22, rX9_likeliest_23, rX9_likeliest_26, rX9_likeliest_28, rX9_likeliest_30, rX9_likeliest_31, rX9_likeliest_34, rX9_likeliest_36, rX9_likeliest_37, rX9_likeliest_39, rX9_likeliest_40, rX9_likeliest_43, rX9_likeliest_46, rX9_likeliest_47, hW_cl, hW_g0, hW_g1, hW_g2, hW_g3, hW_g4, hW_g5, hW_g6, hW_g7, hW_g8, hW_g9, hW_g10, hW_g11, hW_g12, hW_g13, hW_g14, hW_r0, hW_r1, hW_r2, hW_r3, hW_r4, hW_r5, hW_r8, hW_r9, hW_r11, hW_r12, hW_r13, hW_w0, hW_w1, hW_w2, hW_w3, hW_w4, hW_w5, hW_w9, hW_w11, hW_w12, hW_w13, hW_p6, hW_p7, hW_p10, hW_p14, hW_l0, hW_l1, hW_l2, hW_l3, oz_some, tclr_I, tclr_R, tclr_U, tclr_L, tpu_some, tpu_none, nI4, nI4', nI_add, i01, i12, i23, i34, reduceIte]
    exact L
  · intro a
    rw [rX9_likeliest_7]
    simp +decide (disch := first | omega | exact hW_cl) only [rX9_likeliest_0, rX9_likeliest_1, rX9_likeliest_2, rX9_likeliest_3, rX9_likeliest_4, rX9_likeliest_5, rX9_likeliest_9, rX9_likeliest_10, rX9_likeliest_13, rX9_likeliest_14, rX9_likeliest_15, rX9_likeliest_17, rX9_likeliest_18, rX9_likeliest_21, rX9_likeliest_22, rX9_likeliest_23, rX9_likeliest_26, rX9_likeliest_28, rX9_likeliest_30, rX9_likeliest_31, rX9_likeliest_34, rX9_likeliest_36, rX9_likeliest_37, rX9_likeliest_39, rX9_likeliest_40, rX9_likeliest_43, rX9_likeliest_46, rX9_likeliest_47, hW_cl, hW_g0, hW_g1, hW_g2, hW_g3, hW_g4, hW_g5, hW_g6, hW_g7, hW_g8, hW_g9, hW_g10, hW_g11, hW_g12, hW_g13, hW_g14, hW_r0, hW_r1, hW_r2, hW_r3, hW_r4, hW_r5, hW_r8, hW_r9, hW_r11, hW_r12, hW_r13, hW_w0, hW_w1, hW_w2, hW_w3, hW_w4, hW_w5, hW_w9, hW_w11, hW_w12, hW_w13, hW_p6, hW_p7, hW_p10, hW_p14, hW_l0, hW_l1, hW_l2, hW_l3, oz_some, tclr_I, tclr_R, tclr_U, tclr_L, tpu_some, tpu_none, nI4, nI4', nI_add, i01, i12, i23, i34, reduceIte, if_true]
  · intro i a hi
    rw [rX9_likeliest_7]
    simp (disch := first | omega | exact hW_cl) only [rX9_likeliest_0, rX9_likeliest_1, rX9_likeliest_2, rX9_likeliest_3, rX9_likeliest_4, rX9_likeliest_5, rX9_likeliest_9, rX9_likeliest_10, rX9_likeliest_13, rX9_likeliest_14, rX9_likeliest_15, rX9_likeliest_17, rX9_likeliest_18, rX9_likeliest_21, rX9_likeliest_22, rX9_likeliest_23, rX9_likeliest_26, rX9_likeliest_28, rX9_likeliest_30, rX9_likeliest_31, rX9_likeliest_34, rX9_likeliest_36, rX9_likeliest_37, rX9_likeliest_39, rX9_likeliest_40, rX9_likeliest_43, rX9_likeliest_46, rX9_likeliest_47, sX9_weightWith, hW_cl, hW_g0, hW_g1, hW_g2, hW_g3, hW_g4, hW_g5, hW_g6, hW_g7, hW_g8, hW_g9, hW_g10, hW_g11, hW_g12, hW_g13, hW_g14, hW_r0, hW_r1, hW_r2, hW_r3, hW_r4, hW_r5, hW_r8, hW_r9, hW_r11, hW_r12, hW_r13, hW_w0, hW_w1, hW_w2, hW_w3, hW_w4, hW_w5, hW_w9, hW_w11, hW_w12, hW_w13, hW_p6, hW_p7, hW_p10, hW_p14, hW_l0, hW_l1, hW_l2, hW_l3, oz_some, tclr_I, tclr_R, tclr_U, tclr_L, tpu_some, tpu_none, nI4, nI4', nI_add, i01, i12, i23, i34, reduceIte, le4_f, if_false, nI_1]
    unfold wlkF
    by_cases q : wtw g d i (g 2 d) ≤ a.2.1
    · simp only [if_pos q, reduceIte]
    · simp only [if_neg q, reduceIte]
def wtak (g : Nat → Nat → Int32) (d k : Nat) (s : Int32) : Int32 := g 0 d * g 5 0 / 100 * wtw g d k s - g 5 1 * (waw g d s - wtw g d k s)
theorem sX9_takingsTimesAll (hd : d < 20) (hk : k < 4) : tA sc iX9_takingsTimesAll 0 [vR (some w), vI (nI d), vI (nI k), vI s, vU] [] (hW h w f g y) K = K (some (vI (wtak g d k s))) (hW h w f g y) := by
  simp +decide (disch := first | omega | exact hW_cl) only [rX9_takingsTimesAll_0, rX9_takingsTimesAll_1, rX9_takingsTimesAll_2, rX9_takingsTimesAll_3, rX9_takingsTimesAll_4, rX9_takingsTimesAll_7, rX9_takingsTimesAll_9, rX9_takingsTimesAll_10, rX9_takingsTimesAll_11, rX9_takingsTimesAll_14, rX9_takingsTimesAll_16, rX9_takingsTimesAll_17, rX9_takingsTimesAll_18, rX9_takingsTimesAll_21, rX9_takingsTimesAll_22, rX9_takingsTimesAll_23, rX9_takingsTimesAll_24, rX9_takingsTimesAll_25, rX9_takingsTimesAll_26, rX9_takingsTimesAll_29, rX9_takingsTimesAll_31, rX9_takingsTimesAll_32, rX9_takingsTimesAll_33, rX9_takingsTimesAll_34, sX9_weightWith, sX9_earn, sX9_allWith, hW_cl, hW_g0, hW_g1, hW_g2, hW_g3, hW_g4, hW_g5, hW_g6, hW_g7, hW_g8, hW_g9, hW_g10, hW_g11, hW_g12, hW_g13, hW_g14, hW_r0, hW_r1, hW_r2, hW_r3, hW_r4, hW_r5, hW_r8, hW_r9, hW_r11, hW_r12, hW_r13, hW_w0, hW_w1, hW_w2, hW_w3, hW_w4, hW_w5, hW_w9, hW_w11, hW_w12, hW_w13, hW_p6, hW_p7, hW_p10, hW_p14, hW_l0, hW_l1, hW_l2, hW_l3, oz_some, tclr_I, tclr_R, tclr_U, tclr_L, tpu_some, tpu_none, nI4, nI4', nI_add, i01, i12, i23, i34, reduceIte]
  rfl
def wgain (g : Nat → Nat → Int32) (d k : Nat) (s : Int32) : Int64 := (wtak g d k s - g 5 2 * waw g d s).toInt64
theorem sX9_gainTimesAll (hd : d < 20) (hk : k < 4) : tA sc iX9_gainTimesAll 0 [vR (some w), vI (nI d), vI (nI k), vI s] [] (hW h w f g y) K = K (some (vL (wgain g d k s))) (hW h w f g y) := by
  simp +decide (disch := first | omega | exact hW_cl) only [rX9_gainTimesAll_0, rX9_gainTimesAll_1, rX9_gainTimesAll_2, rX9_gainTimesAll_3, rX9_gainTimesAll_4, rX9_gainTimesAll_7, rX9_gainTimesAll_8, rX9_gainTimesAll_11, rX9_gainTimesAll_12, rX9_gainTimesAll_13, rX9_gainTimesAll_14, rX9_gainTimesAll_15, rX9_gainTimesAll_16, rX9_gainTimesAll_19, rX9_gainTimesAll_20, rX9_gainTimesAll_21, rX9_gainTimesAll_22, sX9_takingsTimesAll, sX9_allWith, hW_cl, hW_g0, hW_g1, hW_g2, hW_g3, hW_g4, hW_g5, hW_g6, hW_g7, hW_g8, hW_g9, hW_g10, hW_g11, hW_g12, hW_g13, hW_g14, hW_r0, hW_r1, hW_r2, hW_r3, hW_r4, hW_r5, hW_r8, hW_r9, hW_r11, hW_r12, hW_r13, hW_w0, hW_w1, hW_w2, hW_w3, hW_w4, hW_w5, hW_w9, hW_w11, hW_w12, hW_w13, hW_p6, hW_p7, hW_p10, hW_p14, hW_l0, hW_l1, hW_l2, hW_l3, oz_some, tclr_I, tclr_R, tclr_U, tclr_L, tpu_some, tpu_none, nI4, nI4', nI_add, i01, i12, i23, i34, reduceIte]
  rfl
/-- a weather was said of a day, by bits -/
def wsaid (g : Nat → Nat → Int32) (d : Nat) (x : Int32) : Int32 := (g 4 d >>> (x &&& 31)) &&& 1
theorem sX9_isSaidR (hd : d < 20) : tA sc iX9_isSaid 0 [vR (some w), vI (nI d), vI x] [] (hW h w f g y) K = K (some (vI (if wsaid g d x = 1 then 1 else 0))) (hW h w f g y) := by
  rw [sX9_isSaid hd]
  unfold wsaid
  by_cases q : (g 4 d >>> (x &&& 31)) &&& 1 = 1 <;> simp [q]
def wbestF (g : Nat → Nat → Int32) (d : Nat) (s : Int32) : Nat → Int64 → Int64 := fun i a => if wsaid g d (nI i) = 1 then a else (if wgain g d i s < a then a else wgain g d i s)
def wbest (g : Nat → Nat → Int32) (d : Nat) (s : Int32) : Int64 := lfold (wbestF g d s) 4 0 0
theorem sX9_bestTimesAll (hd : d < 20) : tA sc iX9_bestTimesAll 0 [vR (some w), vI (nI d), vI s, vU, vU, vU] [] (hW h w f g y) K = K (some (vL (wbest g d s))) (hW h w f g y) := by
  have L := loopA (fun i (a : Int64) => tA sc iX9_bestTimesAll 5 [vR (some w), vI (nI d), vI s, vL a, vU, vI (nI i)] [] (hW h w f g y) K) (fun a => K (some (vL a)) (hW h w f g y)) (wbestF g d s) 4 ?_ ?_ 4 0 0 (by omega)
  · simp only [rX9_bestTimesAll_0, rX9_bestTimesAll_1, rX9_bestTimesAll_2, rX9_bestTimesAll_3, rX9_bestTimesAll_7, rX9_bestTimesAll_8, rX9_bestTimesAll_11, rX9_bestTimesAll_12, rX9_bestTimesAll_13, rX9_bestTimesAll_15, rX9_bestTimesAll_18, rX9_bestTimesAll_21, rX9_bestTimesAll_22, rX9_bestTimesAll_23, rX9_bestTimesAll_24, rX9_bestTimesAll_26, rX9_bestTimesAll_27, rX9_bestTimesAll_30, rX9_bestTimesAll_33, rX9_bestTimesAll_34, rX9_bestTimesAll_37, rX9_bestTimesAll_40, rX9_bestTimesAll_41, hW_cl, hW_g0, hW_g1, hW_g2, hW_g3, hW_g4, hW_g5, hW_g6, hW_g7, hW_g8, hW_g9, hW_g10, hW_g11, hW_g12, hW_g13, hW_g14, hW_r0, hW_r1, hW_r2, hW_r3, hW_r4, hW_r5, hW_r8, hW_r9, hW_r11, hW_r12, hW_r13, hW_w0, hW_w1, hW_w2, hW_w3, hW_w4, hW_w5, hW_w9, hW_w11, hW_w12, hW_w13, hW_p6, hW_p7, hW_p10, hW_p14, hW_l0, hW_l1, hW_l2, hW_l3, oz_some, tclr_I, tclr_R, tclr_U, tclr_L, tpu_some, tpu_none, nI4, nI4', nI_add, i01, i12, i23, i34, reduceIte]
    exact L
  · intro a
    rw [rX9_bestTimesAll_5]
    simp +decide (disch := first | omega | exact hW_cl) only [rX9_bestTimesAll_0, rX9_bestTimesAll_1, rX9_bestTimesAll_2, rX9_bestTimesAll_3, rX9_bestTimesAll_7, rX9_bestTimesAll_8, rX9_bestTimesAll_11, rX9_bestTimesAll_12, rX9_bestTimesAll_13, rX9_bestTimesAll_15, rX9_bestTimesAll_18, rX9_bestTimesAll_21, rX9_bestTimesAll_22, rX9_bestTimesAll_23, rX9_bestTimesAll_24, rX9_bestTimesAll_26, rX9_bestTimesAll_27, rX9_bestTimesAll_30, rX9_bestTimesAll_33, rX9_bestTimesAll_34, rX9_bestTimesAll_37, rX9_bestTimesAll_40, rX9_bestTimesAll_41, hW_cl, hW_g0, hW_g1, hW_g2, hW_g3, hW_g4, hW_g5, hW_g6, hW_g7, hW_g8, hW_g9, hW_g10, hW_g11, hW_g12, hW_g13, hW_g14, hW_r0, hW_r1, hW_r2, hW_r3, hW_r4, hW_r5, hW_r8, hW_r9, hW_r11, hW_r12, hW_r13, hW_w0, hW_w1, hW_w2, hW_w3, hW_w4, hW_w5, hW_w9, hW_w11, hW_w12, hW_w13, hW_p6, hW_p7, hW_p10, hW_p14, hW_l0, hW_l1, hW_l2, hW_l3, oz_some, tclr_I, tclr_R, tclr_U, tclr_L, tpu_some, tpu_none, nI4, nI4', nI_add, i01, i12, i23, i34, reduceIte, if_true]
  · intro i a hi
    rw [rX9_bestTimesAll_5]
    simp (disch := first | omega | exact hW_cl) only [rX9_bestTimesAll_0, rX9_bestTimesAll_1, rX9_bestTimesAll_2, rX9_bestTimesAll_3, rX9_bestTimesAll_7, rX9_bestTimesAll_8, rX9_bestTimesAll_11, rX9_bestTimesAll_12, rX9_bestTimesAll_13, rX9_bestTimesAll_15, rX9_bestTimesAll_18, rX9_bestTimesAll_21, rX9_bestTimesAll_22, rX9_bestTimesAll_23, rX9_bestTimesAll_24, rX9_bestTimesAll_26, rX9_bestTimesAll_27, rX9_bestTimesAll_30, rX9_bestTimesAll_33, rX9_bestTimesAll_34, rX9_bestTimesAll_37, rX9_bestTimesAll_40, rX9_bestTimesAll_41, sX9_isSaidR, sX9_gainTimesAll, hW_cl, hW_g0, hW_g1, hW_g2, hW_g3, hW_g4, hW_g5, hW_g6, hW_g7, hW_g8, hW_g9, hW_g10, hW_g11, hW_g12, hW_g13, hW_g14, hW_r0, hW_r1, hW_r2, hW_r3, hW_r4, hW_r5, hW_r8, hW_r9, hW_r11, hW_r12, hW_r13, hW_w0, hW_w1, hW_w2, hW_w3, hW_w4, hW_w5, hW_w9, hW_w11, hW_w12, hW_w13, hW_p6, hW_p7, hW_p10, hW_p14, hW_l0, hW_l1, hW_l2, hW_l3, oz_some, tclr_I, tclr_R, tclr_U, tclr_L, tpu_some, tpu_none, nI4, nI4', nI_add, i01, i12, i23, i34, reduceIte, le4_f, if_false, nI_1]
    unfold wbestF
    by_cases q : wsaid g d (nI i) = 1
    · simp [q]
    · simp [q]
end S22
