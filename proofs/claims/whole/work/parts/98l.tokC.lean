/-! THE CLERK, 2: the class's words -/
def bq (v : Nat) : Int32 := (nI v).toInt8.toInt32
def TP (n : Nat) (tp : Nat → Nat) (p : Nat → Int32) : Prop := ∀ k, k < n → tp k < 256 ∧ p k = bq (tp k)
def sof (x : Int32) : Int32 := if x < 97 then (if x < 48 then 3 else if 57 < x then 3 else 2) else if 122 < x then (if x < 48 then 3 else if 57 < x then 3 else 2) else 1
theorem sof_b : ∀ v, v < 256 → sof (bq v) = nI (kls v) := by decide +kernel
theorem bq_32 : ∀ v, v < 256 → (bq v = 32 ↔ v = 32) := by decide +kernel
theorem bq_59 : ∀ v, v < 256 → (bq v = 59 ↔ v = 59) := by decide +kernel
theorem bq_1 : ∀ v, v < 256 → kls v = 1 → bq v = nI v := by decide +kernel
theorem bq_2 : ∀ v, v < 256 → kls v = 2 → (0 : Int32) * 10 + bq v - 48 = nI (v - 48) := by decide +kernel
theorem bq_22 : ∀ a, a < 10 → ∀ v, v < 58 → 48 ≤ v → nI a * 10 + bq v - 48 = nI (10 * a + (v - 48)) := by decide +kernel
/-- the Clerk's cells where a word begins at q, with its fault -/
def cfS (f : Nat → Int32) (n : Nat) (tp : Nat → Nat) (q : Nat) (ft : Int32) : Nat → Int32 := fun k => if k = 2 then nI (tko n tp q) else if k = 3 then nI q else if k = 4 then nI (tke n tp q) else if k = 5 then ft else f k
section S98l
variable {sc : Nat × (Nat → Int32)} {h : TH} {w n q k p j i v s m : Nat} {tp : Nat → Nat} {f F : Nat → Int32} {g : Nat → Nat → Int32} {e : Nat → Int64} {u : Nat → Nat → Int64} {x ft ft' : Int32} {K : Option TV → TH → Prop} {H : TH}
theorem cfS_1 : cfS f n tp q ft 1 = f 1 := rfl
theorem cfS_2 : cfS f n tp q ft 2 = nI (tko n tp q) := rfl
theorem cfS_3 : cfS f n tp q ft 3 = nI q := rfl
theorem cfS_4 : cfS f n tp q ft 4 = nI (tke n tp q) := rfl
theorem cfS_5 : cfS f n tp q ft 5 = ft := rfl
theorem cfS_ext (h2 : F 2 = nI (tko n tp q)) (h3 : F 3 = nI q) (h4 : F 4 = nI (tke n tp q)) (h5 : F 5 = ft) (hk : ∀ k, k ≠ 2 → k ≠ 3 → k ≠ 4 → k ≠ 5 → F k = f k) : F = cfS f n tp q ft := by
  funext k
  unfold cfS
  by_cases a : k = 2
  · rw [if_pos a, a]; exact h2
  · rw [if_neg a]
    by_cases b : k = 3
    · rw [if_pos b, b]; exact h3
    · rw [if_neg b]
      by_cases c : k = 4
      · rw [if_pos c, c]; exact h4
      · rw [if_neg c]
        by_cases d : k = 5
        · rw [if_pos d, d]; exact h5
        · rw [if_neg d]; exact hk k a b c d
theorem cfS_ne (h2 : k ≠ 2) (h3 : k ≠ 3) (h4 : k ≠ 4) (h5 : k ≠ 5) : cfS f n tp q ft k = f k := by
  unfold cfS
  rw [if_neg h2, if_neg h3, if_neg h4, if_neg h5]
theorem cfS_p5 : upd (cfS f n tp q ft) 5 ft' = cfS f n tp q ft' := cfS_ext rfl rfl rfl rfl (fun k h2 h3 h4 h5 => by rw [pN h5, cfS_ne h2 h3 h4 h5])
theorem cfS_cfS : cfS (cfS f n tp q ft) n tp p ft' = cfS f n tp p ft' := cfS_ext rfl rfl rfl rfl (fun k h2 h3 h4 h5 => by rw [cfS_ne h2 h3 h4 h5, cfS_ne h2 h3 h4 h5])
theorem sX1_sortOf : tA sc iX1_sortOf 0 [vI x] [] H K = K (some (vI (sof x))) H := by
  simp only [rX1_sortOf_0, rX1_sortOf_1, rX1_sortOf_3, rX1_sortOf_6, rX1_sortOf_7, rX1_sortOf_9, rX1_sortOf_12, rX1_sortOf_13, rX1_sortOf_14, rX1_sortOf_15, rX1_sortOf_17, rX1_sortOf_20, rX1_sortOf_21, rX1_sortOf_23, rX1_sortOf_26, rX1_sortOf_27, rX1_sortOf_30, rX1_sortOf_31]
  unfold sof
  by_cases a : x < 97
  · by_cases b : x < 48
    · simp [a, b]
    · by_cases d : 57 < x <;> simp [a, b, d]
  · by_cases c : 122 < x
    · by_cases b : x < 48
      · simp [a, b, c]
      · by_cases d : 57 < x <;> simp [a, b, c, d]
    · simp [a, c]
theorem l_skip (h1 : f 1 = nI n) (hn : n ≤ 240) (hT : TP n tp (g 0)) : ∀ (k p : Nat), p + k = n → tA sc iX1_step 8 [vR (some w)] [] (hC h w (upd f 3 (nI p)) e g u) K = tA sc iX1_step 46 [vR (some w)] [] (hC h w (upd f 3 (nI (adv (fun i => decide (tp i = 32)) k p))) e g u) K := by
  intro k
  induction k with
  | zero =>
    intro p hp
    rw [rX1_step_8]
    simp (disch := first | omega | assumption | exact hC_cl) only [rX1_step_0, rX1_step_1, rX1_step_2, rX1_step_5, rX1_step_9, rX1_step_12, rX1_step_13, rX1_step_16, rX1_step_19, rX1_step_20, rX1_step_23, rX1_step_24, rX1_step_27, rX1_step_28, rX1_step_30, rX1_step_33, rX1_step_34, rX1_step_35, rX1_step_38, rX1_step_39, rX1_step_40, rX1_step_43, rX1_step_47, rX1_step_48, rX1_step_51, rX1_step_54, rX1_step_55, rX1_step_58, rX1_step_59, rX1_step_62, rX1_step_65, rX1_step_66, rX1_step_67, rX1_step_70, rX1_step_71, rX1_step_72, rX1_step_73, rX1_step_76, rX1_step_77, rX1_step_80, rX1_step_81, rX1_step_84, rX1_step_87, rX1_step_88, rX1_step_89, rX1_step_92, rX1_step_93, rX1_step_94, rX1_step_97, rX1_step_98, rX1_step_101, rX1_step_102, rX1_step_105, rX1_step_106, rX1_step_109, rX1_step_110, rX1_step_113, rX1_step_116, rX1_step_117, rX1_step_120, rX1_step_121, rX1_step_124, rX1_step_125, rX1_step_128, rX1_step_129, rX1_step_132, rX1_step_135, rX1_step_136, rX1_step_137, rX1_step_140, rX1_step_141, rX1_step_142, rX1_step_145, rX1_step_148, hC_cl, hC_g0, hC_g1, hC_g2, hC_g3, hC_g4, hC_g5, hC_r0, hC_w0, hC_p1, hC_p2, hC_p3, hC_p4, hC_p5, oz_some, tpu_some, tpu_none, tclr_I, tclr_R, tclr_U, tclr_L, if_true, if_false, i10, not_true_eq_false, not_false_eq_true, pE, pN, h1, nIle_t]
    rfl
  | succ k ih =>
    intro p hp
    have t1 := (hT p (by omega)).1
    have t2 := (hT p (by omega)).2
    rw [rX1_step_8, adv]
    by_cases b : tp p = 32
    · have b2 : (bq (tp p) = 32) = True := eq_true ((bq_32 _ t1).mpr b)
      simp (disch := first | omega | assumption | exact hC_cl) only [rX1_step_0, rX1_step_1, rX1_step_2, rX1_step_5, rX1_step_9, rX1_step_12, rX1_step_13, rX1_step_16, rX1_step_19, rX1_step_20, rX1_step_23, rX1_step_24, rX1_step_27, rX1_step_28, rX1_step_30, rX1_step_33, rX1_step_34, rX1_step_35, rX1_step_38, rX1_step_39, rX1_step_40, rX1_step_43, rX1_step_47, rX1_step_48, rX1_step_51, rX1_step_54, rX1_step_55, rX1_step_58, rX1_step_59, rX1_step_62, rX1_step_65, rX1_step_66, rX1_step_67, rX1_step_70, rX1_step_71, rX1_step_72, rX1_step_73, rX1_step_76, rX1_step_77, rX1_step_80, rX1_step_81, rX1_step_84, rX1_step_87, rX1_step_88, rX1_step_89, rX1_step_92, rX1_step_93, rX1_step_94, rX1_step_97, rX1_step_98, rX1_step_101, rX1_step_102, rX1_step_105, rX1_step_106, rX1_step_109, rX1_step_110, rX1_step_113, rX1_step_116, rX1_step_117, rX1_step_120, rX1_step_121, rX1_step_124, rX1_step_125, rX1_step_128, rX1_step_129, rX1_step_132, rX1_step_135, rX1_step_136, rX1_step_137, rX1_step_140, rX1_step_141, rX1_step_142, rX1_step_145, rX1_step_148, hC_cl, hC_g0, hC_g1, hC_g2, hC_g3, hC_g4, hC_g5, hC_r0, hC_w0, hC_p1, hC_p2, hC_p3, hC_p4, hC_p5, oz_some, tpu_some, tpu_none, tclr_I, tclr_R, tclr_U, tclr_L, if_true, if_false, i10, not_true_eq_false, not_false_eq_true, pE, pN, h1, nIle_f, t2, b2, nI_1, updU]
      rw [ih (p + 1) (by omega), if_pos (decide_eq_true b)]
    · have b2 : (bq (tp p) = 32) = False := eq_false (fun z => b ((bq_32 _ t1).mp z))
      simp (disch := first | omega | assumption | exact hC_cl) only [rX1_step_0, rX1_step_1, rX1_step_2, rX1_step_5, rX1_step_9, rX1_step_12, rX1_step_13, rX1_step_16, rX1_step_19, rX1_step_20, rX1_step_23, rX1_step_24, rX1_step_27, rX1_step_28, rX1_step_30, rX1_step_33, rX1_step_34, rX1_step_35, rX1_step_38, rX1_step_39, rX1_step_40, rX1_step_43, rX1_step_47, rX1_step_48, rX1_step_51, rX1_step_54, rX1_step_55, rX1_step_58, rX1_step_59, rX1_step_62, rX1_step_65, rX1_step_66, rX1_step_67, rX1_step_70, rX1_step_71, rX1_step_72, rX1_step_73, rX1_step_76, rX1_step_77, rX1_step_80, rX1_step_81, rX1_step_84, rX1_step_87, rX1_step_88, rX1_step_89, rX1_step_92, rX1_step_93, rX1_step_94, rX1_step_97, rX1_step_98, rX1_step_101, rX1_step_102, rX1_step_105, rX1_step_106, rX1_step_109, rX1_step_110, rX1_step_113, rX1_step_116, rX1_step_117, rX1_step_120, rX1_step_121, rX1_step_124, rX1_step_125, rX1_step_128, rX1_step_129, rX1_step_132, rX1_step_135, rX1_step_136, rX1_step_137, rX1_step_140, rX1_step_141, rX1_step_142, rX1_step_145, rX1_step_148, hC_cl, hC_g0, hC_g1, hC_g2, hC_g3, hC_g4, hC_g5, hC_r0, hC_w0, hC_p1, hC_p2, hC_p3, hC_p4, hC_p5, oz_some, tpu_some, tpu_none, tclr_I, tclr_R, tclr_U, tclr_L, if_true, if_false, i10, not_true_eq_false, not_false_eq_true, pE, pN, h1, nIle_f, t2, b2]
      rw [if_neg (by simpa using b)]
theorem l_run (h1 : f 1 = nI n) (hn : n ≤ 240) (hT : TP n tp (g 0)) (h2 : f 2 = nI s) (hs : s < 3) : ∀ (k p : Nat), p + k = n → tA sc iX1_step 97 [vR (some w)] [] (hC h w (upd f 4 (nI p)) e g u) K = K none (hC h w (upd f 4 (nI (adv (fun i => decide (kls (tp i) = s)) k p))) e g u) := by
  have s3 : (nI s = (3 : Int32)) = False := nIeq_f (b := 3) (by omega) (by omega) (by decide)
  intro k
  induction k with
  | zero =>
    intro p hp
    rw [rX1_step_97]
    simp (disch := first | omega | assumption | exact hC_cl) only [rX1_step_0, rX1_step_1, rX1_step_2, rX1_step_5, rX1_step_8, rX1_step_9, rX1_step_12, rX1_step_13, rX1_step_16, rX1_step_19, rX1_step_20, rX1_step_23, rX1_step_24, rX1_step_27, rX1_step_28, rX1_step_30, rX1_step_33, rX1_step_34, rX1_step_35, rX1_step_38, rX1_step_39, rX1_step_40, rX1_step_43, rX1_step_46, rX1_step_47, rX1_step_48, rX1_step_51, rX1_step_54, rX1_step_55, rX1_step_58, rX1_step_59, rX1_step_62, rX1_step_65, rX1_step_66, rX1_step_67, rX1_step_70, rX1_step_71, rX1_step_72, rX1_step_73, rX1_step_76, rX1_step_77, rX1_step_80, rX1_step_81, rX1_step_84, rX1_step_87, rX1_step_88, rX1_step_89, rX1_step_92, rX1_step_93, rX1_step_94, rX1_step_98, rX1_step_101, rX1_step_102, rX1_step_105, rX1_step_106, rX1_step_109, rX1_step_110, rX1_step_113, rX1_step_116, rX1_step_117, rX1_step_120, rX1_step_121, rX1_step_124, rX1_step_125, rX1_step_128, rX1_step_129, rX1_step_132, rX1_step_135, rX1_step_136, rX1_step_137, rX1_step_140, rX1_step_141, rX1_step_142, rX1_step_145, rX1_step_148, hC_cl, hC_g0, hC_g1, hC_g2, hC_g3, hC_g4, hC_g5, hC_r0, hC_w0, hC_p1, hC_p2, hC_p3, hC_p4, hC_p5, oz_some, tpu_some, tpu_none, tclr_I, tclr_R, tclr_U, tclr_L, if_true, if_false, i10, not_true_eq_false, not_false_eq_true, pE, pN, h1, h2, s3, nIle_t]
    rfl
  | succ k ih =>
    intro p hp
    have t1 := (hT p (by omega)).1
    have t2 := (hT p (by omega)).2
    have t3 := sof_b _ t1
    have t4 := kls_in (tp p)
    rw [rX1_step_97, adv]
    by_cases b : kls (tp p) = s
    · have b2 : (nI (kls (tp p)) = nI s) = True := eq_true (by rw [b])
      simp (disch := first | omega | assumption | exact hC_cl) only [rX1_step_0, rX1_step_1, rX1_step_2, rX1_step_5, rX1_step_8, rX1_step_9, rX1_step_12, rX1_step_13, rX1_step_16, rX1_step_19, rX1_step_20, rX1_step_23, rX1_step_24, rX1_step_27, rX1_step_28, rX1_step_30, rX1_step_33, rX1_step_34, rX1_step_35, rX1_step_38, rX1_step_39, rX1_step_40, rX1_step_43, rX1_step_46, rX1_step_47, rX1_step_48, rX1_step_51, rX1_step_54, rX1_step_55, rX1_step_58, rX1_step_59, rX1_step_62, rX1_step_65, rX1_step_66, rX1_step_67, rX1_step_70, rX1_step_71, rX1_step_72, rX1_step_73, rX1_step_76, rX1_step_77, rX1_step_80, rX1_step_81, rX1_step_84, rX1_step_87, rX1_step_88, rX1_step_89, rX1_step_92, rX1_step_93, rX1_step_94, rX1_step_98, rX1_step_101, rX1_step_102, rX1_step_105, rX1_step_106, rX1_step_109, rX1_step_110, rX1_step_113, rX1_step_116, rX1_step_117, rX1_step_120, rX1_step_121, rX1_step_124, rX1_step_125, rX1_step_128, rX1_step_129, rX1_step_132, rX1_step_135, rX1_step_136, rX1_step_137, rX1_step_140, rX1_step_141, rX1_step_142, rX1_step_145, rX1_step_148, hC_cl, hC_g0, hC_g1, hC_g2, hC_g3, hC_g4, hC_g5, hC_r0, hC_w0, hC_p1, hC_p2, hC_p3, hC_p4, hC_p5, oz_some, tpu_some, tpu_none, tclr_I, tclr_R, tclr_U, tclr_L, if_true, if_false, i10, not_true_eq_false, not_false_eq_true, pE, pN, h1, h2, s3, nIle_f, t2, t3, b2, sX1_sortOf, nI_1, updU]
      rw [ih (p + 1) (by omega), if_pos (decide_eq_true b)]
    · have b2 : (nI (kls (tp p)) = nI s) = False := nIeq_f b (by omega) (by omega)
      simp (disch := first | omega | assumption | exact hC_cl) only [rX1_step_0, rX1_step_1, rX1_step_2, rX1_step_5, rX1_step_8, rX1_step_9, rX1_step_12, rX1_step_13, rX1_step_16, rX1_step_19, rX1_step_20, rX1_step_23, rX1_step_24, rX1_step_27, rX1_step_28, rX1_step_30, rX1_step_33, rX1_step_34, rX1_step_35, rX1_step_38, rX1_step_39, rX1_step_40, rX1_step_43, rX1_step_46, rX1_step_47, rX1_step_48, rX1_step_51, rX1_step_54, rX1_step_55, rX1_step_58, rX1_step_59, rX1_step_62, rX1_step_65, rX1_step_66, rX1_step_67, rX1_step_70, rX1_step_71, rX1_step_72, rX1_step_73, rX1_step_76, rX1_step_77, rX1_step_80, rX1_step_81, rX1_step_84, rX1_step_87, rX1_step_88, rX1_step_89, rX1_step_92, rX1_step_93, rX1_step_94, rX1_step_98, rX1_step_101, rX1_step_102, rX1_step_105, rX1_step_106, rX1_step_109, rX1_step_110, rX1_step_113, rX1_step_116, rX1_step_117, rX1_step_120, rX1_step_121, rX1_step_124, rX1_step_125, rX1_step_128, rX1_step_129, rX1_step_132, rX1_step_135, rX1_step_136, rX1_step_137, rX1_step_140, rX1_step_141, rX1_step_142, rX1_step_145, rX1_step_148, hC_cl, hC_g0, hC_g1, hC_g2, hC_g3, hC_g4, hC_g5, hC_r0, hC_w0, hC_p1, hC_p2, hC_p3, hC_p4, hC_p5, oz_some, tpu_some, tpu_none, tclr_I, tclr_R, tclr_U, tclr_L, if_true, if_false, i10, not_true_eq_false, not_false_eq_true, pE, pN, h1, h2, s3, nIle_f, t2, t3, b2, sX1_sortOf]
      rw [if_neg (by simpa using b)]
theorem sX1_step (h1 : f 1 = nI n) (hn : n ≤ 240) (hT : TP n tp (g 0)) (h4 : f 4 = nI p) (hp : p ≤ n) : tA sc iX1_step 0 [vR (some w)] [] (hC h w f e g u) K = K none (hC h w (cfS f n tp (tks n tp p) (f 5)) e g u) := by
  have L := l_skip (sc := sc) (h := h) (w := w) (e := e) (u := u) (K := K) h1 hn hT (n - p) p (by omega)
  have hq := tks_le (n := n) (tp := tp) hp
  simp (disch := first | omega | assumption | exact hC_cl) only [rX1_step_0, rX1_step_1, rX1_step_2, rX1_step_5, rX1_step_9, rX1_step_12, rX1_step_13, rX1_step_16, rX1_step_19, rX1_step_20, rX1_step_23, rX1_step_24, rX1_step_27, rX1_step_28, rX1_step_30, rX1_step_33, rX1_step_34, rX1_step_35, rX1_step_38, rX1_step_39, rX1_step_40, rX1_step_43, rX1_step_47, rX1_step_48, rX1_step_51, rX1_step_54, rX1_step_55, rX1_step_58, rX1_step_59, rX1_step_62, rX1_step_65, rX1_step_66, rX1_step_67, rX1_step_70, rX1_step_71, rX1_step_72, rX1_step_73, rX1_step_76, rX1_step_77, rX1_step_80, rX1_step_81, rX1_step_84, rX1_step_87, rX1_step_88, rX1_step_89, rX1_step_92, rX1_step_93, rX1_step_94, rX1_step_98, rX1_step_101, rX1_step_102, rX1_step_105, rX1_step_106, rX1_step_109, rX1_step_110, rX1_step_113, rX1_step_116, rX1_step_117, rX1_step_120, rX1_step_121, rX1_step_124, rX1_step_125, rX1_step_128, rX1_step_129, rX1_step_132, rX1_step_135, rX1_step_136, rX1_step_137, rX1_step_140, rX1_step_141, rX1_step_142, rX1_step_145, rX1_step_148, hC_cl, hC_g0, hC_g1, hC_g2, hC_g3, hC_g4, hC_g5, hC_r0, hC_w0, hC_p1, hC_p2, hC_p3, hC_p4, hC_p5, oz_some, tpu_some, tpu_none, tclr_I, tclr_R, tclr_U, tclr_L, if_true, if_false, i10, not_true_eq_false, not_false_eq_true, h4]
  rw [L, show adv (fun i => decide (tp i = 32)) (n - p) p = tks n tp p from rfl, rX1_step_46]
  generalize tks n tp p = q at hq
  by_cases a : q < n
  · have t1 := (hT q a).1
    have t2 := (hT q a).2
    have t3 := sof_b _ t1
    have a1 : (nI q < nI n) = True := nIlt_t a (by omega)
    rcases kls_in (tp q) with b | b | b
    · have b2 : f 2 = f 2 := rfl
      have R := l_run (sc := sc) (h := h) (w := w) (e := e) (u := u) (K := K) (f := upd (upd (upd (upd f 3 (nI q)) 4 (nI q)) 2 (nI 1)) 4 (nI (q + 1))) (s := 1) (by rw [pN (by decide), pN (by decide), pN (by decide), pN (by decide)]; exact h1) hn hT (by rw [pN (by decide), pE]) (by decide) (n - (q + 1)) (q + 1) (by omega)
      rw [updU] at R
      simp (disch := first | omega | assumption | exact hC_cl) only [rX1_step_0, rX1_step_1, rX1_step_2, rX1_step_5, rX1_step_9, rX1_step_12, rX1_step_13, rX1_step_16, rX1_step_19, rX1_step_20, rX1_step_23, rX1_step_24, rX1_step_27, rX1_step_28, rX1_step_30, rX1_step_33, rX1_step_34, rX1_step_35, rX1_step_38, rX1_step_39, rX1_step_40, rX1_step_43, rX1_step_47, rX1_step_48, rX1_step_51, rX1_step_54, rX1_step_55, rX1_step_58, rX1_step_59, rX1_step_62, rX1_step_65, rX1_step_66, rX1_step_67, rX1_step_70, rX1_step_71, rX1_step_72, rX1_step_73, rX1_step_76, rX1_step_77, rX1_step_80, rX1_step_81, rX1_step_84, rX1_step_87, rX1_step_88, rX1_step_89, rX1_step_92, rX1_step_93, rX1_step_94, rX1_step_98, rX1_step_101, rX1_step_102, rX1_step_105, rX1_step_106, rX1_step_109, rX1_step_110, rX1_step_113, rX1_step_116, rX1_step_117, rX1_step_120, rX1_step_121, rX1_step_124, rX1_step_125, rX1_step_128, rX1_step_129, rX1_step_132, rX1_step_135, rX1_step_136, rX1_step_137, rX1_step_140, rX1_step_141, rX1_step_142, rX1_step_145, rX1_step_148, hC_cl, hC_g0, hC_g1, hC_g2, hC_g3, hC_g4, hC_g5, hC_r0, hC_w0, hC_p1, hC_p2, hC_p3, hC_p4, hC_p5, oz_some, tpu_some, tpu_none, tclr_I, tclr_R, tclr_U, tclr_L, if_true, if_false, i10, not_true_eq_false, not_false_eq_true, pE, pN, h1, a1, t2, t3, b, sX1_sortOf, nI_1]
      refine R.trans ?_
      refine congrArg (fun z => K none (hC h w z e g u)) (cfS_ext ?_ ?_ ?_ ?_ ?_)
      · rw [pN (by decide), pN (by decide), pE, tko_kls a, b]
      · rw [pN (by decide), pN (by decide), pN (by decide), pN (by decide), pE]
      · rw [pE]; unfold tke; rw [if_pos a, b, if_neg (by decide)]
      · rw [pN (by decide), pN (by decide), pN (by decide), pN (by decide), pN (by decide)]
      · intro k k2 k3 k4 k5
        rw [pN k4, pN k4, pN k2, pN k4, pN k3]
    · have R := l_run (sc := sc) (h := h) (w := w) (e := e) (u := u) (K := K) (f := upd (upd (upd (upd f 3 (nI q)) 4 (nI q)) 2 (nI 2)) 4 (nI (q + 1))) (s := 2) (by rw [pN (by decide), pN (by decide), pN (by decide), pN (by decide)]; exact h1) hn hT (by rw [pN (by decide), pE]) (by decide) (n - (q + 1)) (q + 1) (by omega)
      rw [updU] at R
      simp (disch := first | omega | assumption | exact hC_cl) only [rX1_step_0, rX1_step_1, rX1_step_2, rX1_step_5, rX1_step_9, rX1_step_12, rX1_step_13, rX1_step_16, rX1_step_19, rX1_step_20, rX1_step_23, rX1_step_24, rX1_step_27, rX1_step_28, rX1_step_30, rX1_step_33, rX1_step_34, rX1_step_35, rX1_step_38, rX1_step_39, rX1_step_40, rX1_step_43, rX1_step_47, rX1_step_48, rX1_step_51, rX1_step_54, rX1_step_55, rX1_step_58, rX1_step_59, rX1_step_62, rX1_step_65, rX1_step_66, rX1_step_67, rX1_step_70, rX1_step_71, rX1_step_72, rX1_step_73, rX1_step_76, rX1_step_77, rX1_step_80, rX1_step_81, rX1_step_84, rX1_step_87, rX1_step_88, rX1_step_89, rX1_step_92, rX1_step_93, rX1_step_94, rX1_step_98, rX1_step_101, rX1_step_102, rX1_step_105, rX1_step_106, rX1_step_109, rX1_step_110, rX1_step_113, rX1_step_116, rX1_step_117, rX1_step_120, rX1_step_121, rX1_step_124, rX1_step_125, rX1_step_128, rX1_step_129, rX1_step_132, rX1_step_135, rX1_step_136, rX1_step_137, rX1_step_140, rX1_step_141, rX1_step_142, rX1_step_145, rX1_step_148, hC_cl, hC_g0, hC_g1, hC_g2, hC_g3, hC_g4, hC_g5, hC_r0, hC_w0, hC_p1, hC_p2, hC_p3, hC_p4, hC_p5, oz_some, tpu_some, tpu_none, tclr_I, tclr_R, tclr_U, tclr_L, if_true, if_false, i10, not_true_eq_false, not_false_eq_true, pE, pN, h1, a1, t2, t3, b, sX1_sortOf, nI_1]
      refine R.trans ?_
      refine congrArg (fun z => K none (hC h w z e g u)) (cfS_ext ?_ ?_ ?_ ?_ ?_)
      · rw [pN (by decide), pN (by decide), pE, tko_kls a, b]
      · rw [pN (by decide), pN (by decide), pN (by decide), pN (by decide), pE]
      · rw [pE]; unfold tke; rw [if_pos a, b, if_neg (by decide)]
      · rw [pN (by decide), pN (by decide), pN (by decide), pN (by decide), pN (by decide)]
      · intro k k2 k3 k4 k5
        rw [pN k4, pN k4, pN k2, pN k4, pN k3]
    · have s3 : (nI 3 = (3 : Int32)) = True := by decide
      simp (disch := first | omega | assumption | exact hC_cl) only [rX1_step_0, rX1_step_1, rX1_step_2, rX1_step_5, rX1_step_9, rX1_step_12, rX1_step_13, rX1_step_16, rX1_step_19, rX1_step_20, rX1_step_23, rX1_step_24, rX1_step_27, rX1_step_28, rX1_step_30, rX1_step_33, rX1_step_34, rX1_step_35, rX1_step_38, rX1_step_39, rX1_step_40, rX1_step_43, rX1_step_47, rX1_step_48, rX1_step_51, rX1_step_54, rX1_step_55, rX1_step_58, rX1_step_59, rX1_step_62, rX1_step_65, rX1_step_66, rX1_step_67, rX1_step_70, rX1_step_71, rX1_step_72, rX1_step_73, rX1_step_76, rX1_step_77, rX1_step_80, rX1_step_81, rX1_step_84, rX1_step_87, rX1_step_88, rX1_step_89, rX1_step_92, rX1_step_93, rX1_step_94, rX1_step_98, rX1_step_101, rX1_step_102, rX1_step_105, rX1_step_106, rX1_step_109, rX1_step_110, rX1_step_113, rX1_step_116, rX1_step_117, rX1_step_120, rX1_step_121, rX1_step_124, rX1_step_125, rX1_step_128, rX1_step_129, rX1_step_132, rX1_step_135, rX1_step_136, rX1_step_137, rX1_step_140, rX1_step_141, rX1_step_142, rX1_step_145, rX1_step_148, hC_cl, hC_g0, hC_g1, hC_g2, hC_g3, hC_g4, hC_g5, hC_r0, hC_w0, hC_p1, hC_p2, hC_p3, hC_p4, hC_p5, oz_some, tpu_some, tpu_none, tclr_I, tclr_R, tclr_U, tclr_L, if_true, if_false, i10, not_true_eq_false, not_false_eq_true, pE, pN, h1, a1, t2, t3, b, sX1_sortOf, nI_1]
      rw [rX1_step_97]
      simp (disch := first | omega | assumption | exact hC_cl) only [rX1_step_0, rX1_step_1, rX1_step_2, rX1_step_5, rX1_step_9, rX1_step_12, rX1_step_13, rX1_step_16, rX1_step_19, rX1_step_20, rX1_step_23, rX1_step_24, rX1_step_27, rX1_step_28, rX1_step_30, rX1_step_33, rX1_step_34, rX1_step_35, rX1_step_38, rX1_step_39, rX1_step_40, rX1_step_43, rX1_step_47, rX1_step_48, rX1_step_51, rX1_step_54, rX1_step_55, rX1_step_58, rX1_step_59, rX1_step_62, rX1_step_65, rX1_step_66, rX1_step_67, rX1_step_70, rX1_step_71, rX1_step_72, rX1_step_73, rX1_step_76, rX1_step_77, rX1_step_80, rX1_step_81, rX1_step_84, rX1_step_87, rX1_step_88, rX1_step_89, rX1_step_92, rX1_step_93, rX1_step_94, rX1_step_98, rX1_step_101, rX1_step_102, rX1_step_105, rX1_step_106, rX1_step_109, rX1_step_110, rX1_step_113, rX1_step_116, rX1_step_117, rX1_step_120, rX1_step_121, rX1_step_124, rX1_step_125, rX1_step_128, rX1_step_129, rX1_step_132, rX1_step_135, rX1_step_136, rX1_step_137, rX1_step_140, rX1_step_141, rX1_step_142, rX1_step_145, rX1_step_148, hC_cl, hC_g0, hC_g1, hC_g2, hC_g3, hC_g4, hC_g5, hC_r0, hC_w0, hC_p1, hC_p2, hC_p3, hC_p4, hC_p5, oz_some, tpu_some, tpu_none, tclr_I, tclr_R, tclr_U, tclr_L, if_true, if_false, i10, not_true_eq_false, not_false_eq_true, pE, pN, s3]
      refine congrArg (fun z => K none (hC h w z e g u)) (cfS_ext ?_ ?_ ?_ ?_ ?_)
      · rw [pN (by decide), pE, tko_kls a, b]
      · rw [pN (by decide), pN (by decide), pN (by decide), pE]
      · rw [pE]; unfold tke; rw [if_pos a, if_pos b]
      · rw [pN (by decide), pN (by decide), pN (by decide), pN (by decide)]
      · intro k k2 k3 k4 k5
        rw [pN k4, pN k2, pN k4, pN k3]
  · have a1 : (nI q < nI n) = False := nIlt_f (by omega) (by omega)
    simp (disch := first | omega | assumption | exact hC_cl) only [rX1_step_0, rX1_step_1, rX1_step_2, rX1_step_5, rX1_step_9, rX1_step_12, rX1_step_13, rX1_step_16, rX1_step_19, rX1_step_20, rX1_step_23, rX1_step_24, rX1_step_27, rX1_step_28, rX1_step_30, rX1_step_33, rX1_step_34, rX1_step_35, rX1_step_38, rX1_step_39, rX1_step_40, rX1_step_43, rX1_step_47, rX1_step_48, rX1_step_51, rX1_step_54, rX1_step_55, rX1_step_58, rX1_step_59, rX1_step_62, rX1_step_65, rX1_step_66, rX1_step_67, rX1_step_70, rX1_step_71, rX1_step_72, rX1_step_73, rX1_step_76, rX1_step_77, rX1_step_80, rX1_step_81, rX1_step_84, rX1_step_87, rX1_step_88, rX1_step_89, rX1_step_92, rX1_step_93, rX1_step_94, rX1_step_98, rX1_step_101, rX1_step_102, rX1_step_105, rX1_step_106, rX1_step_109, rX1_step_110, rX1_step_113, rX1_step_116, rX1_step_117, rX1_step_120, rX1_step_121, rX1_step_124, rX1_step_125, rX1_step_128, rX1_step_129, rX1_step_132, rX1_step_135, rX1_step_136, rX1_step_137, rX1_step_140, rX1_step_141, rX1_step_142, rX1_step_145, rX1_step_148, hC_cl, hC_g0, hC_g1, hC_g2, hC_g3, hC_g4, hC_g5, hC_r0, hC_w0, hC_p1, hC_p2, hC_p3, hC_p4, hC_p5, oz_some, tpu_some, tpu_none, tclr_I, tclr_R, tclr_U, tclr_L, if_true, if_false, i10, not_true_eq_false, not_false_eq_true, pE, pN, h1, a1]
    refine congrArg (fun z => K none (hC h w z e g u)) (cfS_ext ?_ ?_ ?_ ?_ ?_)
    · rw [pE, tko_0 a]; rfl
    · rw [pN (by decide), pN (by decide), pE]
    · rw [pN (by decide), pE]; unfold tke; rw [if_neg a]
    · rw [pN (by decide), pN (by decide), pN (by decide)]
    · intro k k2 k3 k4 k5
      rw [pN k2, pN k4, pN k3]
theorem c_step (h1 : f 1 = nI n) (hn : n ≤ 240) (hT : TP n tp (g 0)) (hq : q ≤ n) : tA sc iX1_step 0 [vR (some w)] [] (hC h w (cfS f n tp q ft) e g u) K = K none (hC h w (cfS f n tp (nx n tp q) ft) e g u) := by
  rw [sX1_step (f := cfS f n tp q ft) h1 hn hT cfS_4 (tke_le hq), cfS_5, cfS_cfS]
  rfl
/-! isName -/
theorem tstr_len : ∀ j, j < 12 → (tstr j).length = nml j := by decide
theorem tstr_get : ∀ j, j < 12 → ∀ i, i < 5 → (tstr j).getD i 0 = nI (nmf j i) := by decide
theorem nm_52 {ls : List TV} {s0 : TV} (hj : j < 12) (hi : i < nml j) : tA sc iX1_isName 52 ls [vI (nI i), vR (some (1000000003 + j)), s0] H K = tA sc iX1_isName 55 ls (vI (nI (nmf j i)) :: [s0]) H K := by
  have l5 := (nml_5 j hj).2
  have e : 1000000003 + j - 1000000003 = j := by omega
  have := rX1_isName_52 (sc := sc) (ls := ls) (s0 := s0) (h := H) (Q := K) (o := 1000000003 + j) (p0 := nI i) (by omega) (by rw [e, tstr_len j hj]; exact nI_in hi (by omega))
  rw [this, e, nI_clamp (by omega), tstr_get j hj i (by omega)]
theorem nm_yes (hn : n ≤ 240) (hT : TP n tp (g 0)) (hj : j < 12) (hq : q < n) (h1 : kls (tp q) = 1) (hl : tke n tp q - q = nml j) (ha : ∀ i, i < nml j → tp (q + i) = nmf j i) : ∀ (k i : Nat), q ≤ i → i + k = tke n tp q → tA sc iX1_isName 31 [vR (some w), vR (some (1000000003 + j)), vI (nI i)] [] (hC h w (cfS f n tp q ft) e g u) K = K (some (vI 1)) (hC h w (cfS f n tp q ft) e g u) := by
  have le := tke_le (n := n) (tp := tp) (q := q) (by omega)
  intro k
  induction k with
  | zero =>
    intro i hi hk
    have r := nIle_t (a := tke n tp q) (b := i) (by omega) (by omega)
    rw [rX1_isName_31]
    simp (disch := first | omega | assumption | exact hC_cl) only [rX1_isName_0, rX1_isName_1, rX1_isName_4, rX1_isName_5, rX1_isName_8, rX1_isName_9, rX1_isName_12, rX1_isName_13, rX1_isName_16, rX1_isName_17, rX1_isName_18, rX1_isName_21, rX1_isName_24, rX1_isName_25, rX1_isName_26, rX1_isName_27, rX1_isName_30, rX1_isName_32, rX1_isName_33, rX1_isName_36, rX1_isName_39, rX1_isName_40, rX1_isName_43, rX1_isName_44, rX1_isName_45, rX1_isName_46, rX1_isName_47, rX1_isName_48, rX1_isName_51, rX1_isName_52, rX1_isName_55, rX1_isName_58, rX1_isName_59, rX1_isName_60, rX1_isName_63, rX1_isName_66, rX1_isName_67, hC_cl, hC_g0, hC_g1, hC_g2, hC_g3, hC_g4, hC_g5, hC_r0, hC_w0, hC_p1, hC_p2, hC_p3, hC_p4, hC_p5, oz_some, tpu_some, tpu_none, tclr_I, tclr_R, tclr_U, tclr_L, if_true, if_false, i10, not_true_eq_false, not_false_eq_true, cfS_4, r]
    simp
  | succ k ih =>
    intro i hi hk
    have r := nIle_f (a := tke n tp q) (b := i) (by omega) (by omega)
    have t1 := (hT i (by omega)).1
    have t2 := (hT i (by omega)).2
    have t3 := tok_in (n := n) (tp := tp) hq (by omega) hi (by omega)
    have t4 := bq_1 _ t1 (t3.trans h1)
    have a1 := ha (i - q) (by omega)
    rw [show q + (i - q) = i by omega] at a1
    have b : (nI (tp i) = nI (nmf j (i - q))) = True := eq_true (by rw [a1])
    have n5 := fun (s0 : TV) => nm_52 (sc := sc) (s0 := s0) (j := j) (i := i - q) (K := K) (H := hC h w (cfS f n tp q ft) e g u) (ls := [vR (some w), vR (some (1000000003 + j)), vI (nI i)]) hj (by omega)
    rw [rX1_isName_31]
    simp (disch := first | omega | assumption | exact hC_cl) only [rX1_isName_0, rX1_isName_1, rX1_isName_4, rX1_isName_5, rX1_isName_8, rX1_isName_9, rX1_isName_12, rX1_isName_13, rX1_isName_16, rX1_isName_17, rX1_isName_18, rX1_isName_21, rX1_isName_24, rX1_isName_25, rX1_isName_26, rX1_isName_27, rX1_isName_30, rX1_isName_32, rX1_isName_33, rX1_isName_36, rX1_isName_39, rX1_isName_40, rX1_isName_43, rX1_isName_44, rX1_isName_45, rX1_isName_46, rX1_isName_47, rX1_isName_48, rX1_isName_51, rX1_isName_55, rX1_isName_58, rX1_isName_59, rX1_isName_60, rX1_isName_63, rX1_isName_66, rX1_isName_67, hC_cl, hC_g0, hC_g1, hC_g2, hC_g3, hC_g4, hC_g5, hC_r0, hC_w0, hC_p1, hC_p2, hC_p3, hC_p4, hC_p5, oz_some, tpu_some, tpu_none, tclr_I, tclr_R, tclr_U, tclr_L, if_true, if_false, i10, not_true_eq_false, not_false_eq_true, cfS_4, cfS_3, r, t2, t4, pk_sub, n5, b, nI_1]
    exact ih (i + 1) (by omega) (by omega)
theorem nm_no (hn : n ≤ 240) (hT : TP n tp (g 0)) (hj : j < 12) (hq : q < n) (h1 : kls (tp q) = 1) (hl : tke n tp q - q = nml j) (z : Nat) (hz : q ≤ z) (hz2 : z < tke n tp q) (ha : ¬ tp z = nmf j (z - q)) : ∀ (k i : Nat), q ≤ i → i + k = z → tA sc iX1_isName 31 [vR (some w), vR (some (1000000003 + j)), vI (nI i)] [] (hC h w (cfS f n tp q ft) e g u) K = K (some (vI 0)) (hC h w (cfS f n tp q ft) e g u) := by
  have le := tke_le (n := n) (tp := tp) (q := q) (by omega)
  have st : ∀ (i : Nat) (b : Bool), q ≤ i → i ≤ z → (b = true ↔ tp i = nmf j (i - q)) → tA sc iX1_isName 31 [vR (some w), vR (some (1000000003 + j)), vI (nI i)] [] (hC h w (cfS f n tp q ft) e g u) K = if b = true then tA sc iX1_isName 31 [vR (some w), vR (some (1000000003 + j)), vI (nI (i + 1))] [] (hC h w (cfS f n tp q ft) e g u) K else K (some (vI 0)) (hC h w (cfS f n tp q ft) e g u) := by
    intro i b hi hiz hb
    have r := nIle_f (a := tke n tp q) (b := i) (by omega) (by omega)
    have t1 := (hT i (by omega)).1
    have t2 := (hT i (by omega)).2
    have t3 := tok_in (n := n) (tp := tp) hq (by omega) hi (by omega)
    have t4 := bq_1 _ t1 (t3.trans h1)
    have m2 := (nmf_in j hj (i - q) (by omega)).2
    have n5 := fun (s0 : TV) => nm_52 (sc := sc) (s0 := s0) (j := j) (i := i - q) (K := K) (H := hC h w (cfS f n tp q ft) e g u) (ls := [vR (some w), vR (some (1000000003 + j)), vI (nI i)]) hj (by omega)
    by_cases y : tp i = nmf j (i - q)
    · have b1 : (nI (tp i) = nI (nmf j (i - q))) = True := eq_true (by rw [y])
      rw [if_pos (hb.mpr y)]
      conv => lhs; rw [rX1_isName_31]
      simp (disch := first | omega | assumption | exact hC_cl) only [rX1_isName_0, rX1_isName_1, rX1_isName_4, rX1_isName_5, rX1_isName_8, rX1_isName_9, rX1_isName_12, rX1_isName_13, rX1_isName_16, rX1_isName_17, rX1_isName_18, rX1_isName_21, rX1_isName_24, rX1_isName_25, rX1_isName_26, rX1_isName_27, rX1_isName_30, rX1_isName_32, rX1_isName_33, rX1_isName_36, rX1_isName_39, rX1_isName_40, rX1_isName_43, rX1_isName_44, rX1_isName_45, rX1_isName_46, rX1_isName_47, rX1_isName_48, rX1_isName_51, rX1_isName_55, rX1_isName_58, rX1_isName_59, rX1_isName_60, rX1_isName_63, rX1_isName_66, rX1_isName_67, hC_cl, hC_g0, hC_g1, hC_g2, hC_g3, hC_g4, hC_g5, hC_r0, hC_w0, hC_p1, hC_p2, hC_p3, hC_p4, hC_p5, oz_some, tpu_some, tpu_none, tclr_I, tclr_R, tclr_U, tclr_L, if_true, if_false, i10, not_true_eq_false, not_false_eq_true, cfS_4, cfS_3, r, t2, t4, pk_sub, n5, b1, nI_1]
    · have b1 : (nI (tp i) = nI (nmf j (i - q))) = False := nIeq_f y (by omega) (by omega)
      rw [if_neg (fun c => y (hb.mp c)), rX1_isName_31]
      simp (disch := first | omega | assumption | exact hC_cl) only [rX1_isName_0, rX1_isName_1, rX1_isName_4, rX1_isName_5, rX1_isName_8, rX1_isName_9, rX1_isName_12, rX1_isName_13, rX1_isName_16, rX1_isName_17, rX1_isName_18, rX1_isName_21, rX1_isName_24, rX1_isName_25, rX1_isName_26, rX1_isName_27, rX1_isName_30, rX1_isName_32, rX1_isName_33, rX1_isName_36, rX1_isName_39, rX1_isName_40, rX1_isName_43, rX1_isName_44, rX1_isName_45, rX1_isName_46, rX1_isName_47, rX1_isName_48, rX1_isName_51, rX1_isName_55, rX1_isName_58, rX1_isName_59, rX1_isName_60, rX1_isName_63, rX1_isName_66, rX1_isName_67, hC_cl, hC_g0, hC_g1, hC_g2, hC_g3, hC_g4, hC_g5, hC_r0, hC_w0, hC_p1, hC_p2, hC_p3, hC_p4, hC_p5, oz_some, tpu_some, tpu_none, tclr_I, tclr_R, tclr_U, tclr_L, if_true, if_false, i10, not_true_eq_false, not_false_eq_true, cfS_4, cfS_3, r, t2, t4, pk_sub, n5, b1]
      simp
  intro k
  induction k with
  | zero =>
    intro i hi hk
    have hk : i = z := hk
    subst hk
    rw [st i false hi (Nat.le_refl _) ⟨fun c => absurd c (by decide), fun c => absurd c ha⟩]
    rfl
  | succ k ih =>
    intro i hi hk
    by_cases y : tp i = nmf j (i - q)
    · rw [st i true hi (by omega) ⟨fun _ => y, fun _ => rfl⟩, if_pos rfl]
      exact ih (i + 1) (by omega) (by omega)
    · rw [st i false hi (by omega) ⟨fun c => absurd c (by decide), fun c => absurd c y⟩]
      rfl
theorem c_name (hn : n ≤ 240) (hT : TP n tp (g 0)) (hj : j < 12) : tA sc iX1_isName 0 [vR (some w), vR (some (1000000003 + j)), vU] [] (hC h w (cfS f n tp q ft) e g u) K = K (some (vI (if tkn n tp q = j then 1 else 0))) (hC h w (cfS f n tp q ft) e g u) := by
  have l5 := nml_5 j hj
  have e18 : ∀ {ls : List TV} {s0 : TV}, tA sc iX1_isName 18 ls [vR (some (1000000003 + j)), s0] (hC h w (cfS f n tp q ft) e g u) K = tA sc iX1_isName 21 ls (vI (nI (nml j)) :: [s0]) (hC h w (cfS f n tp q ft) e g u) K := by
    intro ls s0
    have e : 1000000003 + j - 1000000003 = j := by omega
    rw [rX1_isName_18 (by omega), e, tstr_len j hj]
    rfl
  by_cases h1 : tko n tp q = 1
  · have c1 : (nI (tko n tp q) = (1 : Int32)) = True := eq_true (by rw [h1]; rfl)
    have hq := tko_lt (Or.inl h1)
    have hk : kls (tp q) = 1 := by rw [← tko_kls hq]; exact h1
    have ge := tke_ge (n := n) (tp := tp) (q := q)
    have le := tke_le (n := n) (tp := tp) (q := q) (by omega)
    by_cases hl : tke n tp q - q = nml j
    · have c2 : (nI (tke n tp q - q) = nI (nml j)) = True := eq_true (by rw [hl])
      by_cases ha : ∀ i, i < nml j → tp (q + i) = nmf j i
      · rw [if_pos ((tkn_iff hj).mpr ⟨h1, hl, ha⟩)]
        have N := nm_yes (sc := sc) (h := h) (w := w) (f := f) (ft := ft) (e := e) (u := u) (K := K) hn hT hj hq hk hl ha (tke n tp q - q) q (Nat.le_refl _) (by omega)
        simp (disch := first | omega | assumption | exact hC_cl) only [rX1_isName_0, rX1_isName_1, rX1_isName_4, rX1_isName_5, rX1_isName_8, rX1_isName_9, rX1_isName_12, rX1_isName_13, rX1_isName_16, rX1_isName_17, rX1_isName_21, rX1_isName_24, rX1_isName_25, rX1_isName_26, rX1_isName_27, rX1_isName_30, rX1_isName_32, rX1_isName_33, rX1_isName_36, rX1_isName_39, rX1_isName_40, rX1_isName_43, rX1_isName_44, rX1_isName_45, rX1_isName_46, rX1_isName_47, rX1_isName_48, rX1_isName_51, rX1_isName_55, rX1_isName_58, rX1_isName_59, rX1_isName_60, rX1_isName_63, rX1_isName_66, rX1_isName_67, hC_cl, hC_g0, hC_g1, hC_g2, hC_g3, hC_g4, hC_g5, hC_r0, hC_w0, hC_p1, hC_p2, hC_p3, hC_p4, hC_p5, oz_some, tpu_some, tpu_none, tclr_I, tclr_R, tclr_U, tclr_L, if_true, if_false, i10, not_true_eq_false, not_false_eq_true, cfS_2, cfS_3, cfS_4, c1, e18, pk_sub, c2]
        exact N
      · rw [if_neg (fun z => ha ((tkn_iff hj).mp z).2.2)]
        have hex : ∃ i, i < nml j ∧ ¬ tp (q + i) = nmf j i := by
          apply Classical.byContradiction
          intro z
          exact ha (fun i hi => Classical.byContradiction (fun y => z ⟨i, hi, y⟩))
        obtain ⟨z, z1, z2⟩ := hex
        have N := nm_no (sc := sc) (h := h) (w := w) (f := f) (ft := ft) (e := e) (u := u) (K := K) hn hT hj hq hk hl (q + z) (by omega) (by omega) (by rw [show q + z - q = z by omega]; exact z2) z q (Nat.le_refl _) rfl
        simp (disch := first | omega | assumption | exact hC_cl) only [rX1_isName_0, rX1_isName_1, rX1_isName_4, rX1_isName_5, rX1_isName_8, rX1_isName_9, rX1_isName_12, rX1_isName_13, rX1_isName_16, rX1_isName_17, rX1_isName_21, rX1_isName_24, rX1_isName_25, rX1_isName_26, rX1_isName_27, rX1_isName_30, rX1_isName_32, rX1_isName_33, rX1_isName_36, rX1_isName_39, rX1_isName_40, rX1_isName_43, rX1_isName_44, rX1_isName_45, rX1_isName_46, rX1_isName_47, rX1_isName_48, rX1_isName_51, rX1_isName_55, rX1_isName_58, rX1_isName_59, rX1_isName_60, rX1_isName_63, rX1_isName_66, rX1_isName_67, hC_cl, hC_g0, hC_g1, hC_g2, hC_g3, hC_g4, hC_g5, hC_r0, hC_w0, hC_p1, hC_p2, hC_p3, hC_p4, hC_p5, oz_some, tpu_some, tpu_none, tclr_I, tclr_R, tclr_U, tclr_L, if_true, if_false, i10, not_true_eq_false, not_false_eq_true, cfS_2, cfS_3, cfS_4, c1, e18, pk_sub, c2]
        exact N
    · rw [if_neg (fun z => hl ((tkn_iff hj).mp z).2.1)]
      have c2 : (nI (tke n tp q - q) = nI (nml j)) = False := nIeq_f hl (by omega) (by omega)
      simp (disch := first | omega | assumption | exact hC_cl) only [rX1_isName_0, rX1_isName_1, rX1_isName_4, rX1_isName_5, rX1_isName_8, rX1_isName_9, rX1_isName_12, rX1_isName_13, rX1_isName_16, rX1_isName_17, rX1_isName_21, rX1_isName_24, rX1_isName_25, rX1_isName_26, rX1_isName_27, rX1_isName_30, rX1_isName_32, rX1_isName_33, rX1_isName_36, rX1_isName_39, rX1_isName_40, rX1_isName_43, rX1_isName_44, rX1_isName_45, rX1_isName_46, rX1_isName_47, rX1_isName_48, rX1_isName_51, rX1_isName_55, rX1_isName_58, rX1_isName_59, rX1_isName_60, rX1_isName_63, rX1_isName_66, rX1_isName_67, hC_cl, hC_g0, hC_g1, hC_g2, hC_g3, hC_g4, hC_g5, hC_r0, hC_w0, hC_p1, hC_p2, hC_p3, hC_p4, hC_p5, oz_some, tpu_some, tpu_none, tclr_I, tclr_R, tclr_U, tclr_L, if_true, if_false, i10, not_true_eq_false, not_false_eq_true, cfS_2, cfS_3, cfS_4, c1, e18, pk_sub, c2]
      simp
  · have t4 := tko_4 (n := n) (tp := tp) (q := q)
    have c1 : (nI (tko n tp q) = (1 : Int32)) = False := nIeq_f (b := 1) h1 (by omega) (by decide)
    rw [if_neg (fun z => h1 ((tkn_iff hj).mp z).1)]
    simp (disch := first | omega | assumption | exact hC_cl) only [rX1_isName_0, rX1_isName_1, rX1_isName_4, rX1_isName_5, rX1_isName_8, rX1_isName_9, rX1_isName_12, rX1_isName_13, rX1_isName_16, rX1_isName_17, rX1_isName_21, rX1_isName_24, rX1_isName_25, rX1_isName_26, rX1_isName_27, rX1_isName_30, rX1_isName_32, rX1_isName_33, rX1_isName_36, rX1_isName_39, rX1_isName_40, rX1_isName_43, rX1_isName_44, rX1_isName_45, rX1_isName_46, rX1_isName_47, rX1_isName_48, rX1_isName_51, rX1_isName_55, rX1_isName_58, rX1_isName_59, rX1_isName_60, rX1_isName_63, rX1_isName_66, rX1_isName_67, hC_cl, hC_g0, hC_g1, hC_g2, hC_g3, hC_g4, hC_g5, hC_r0, hC_w0, hC_p1, hC_p2, hC_p3, hC_p4, hC_p5, oz_some, tpu_some, tpu_none, tclr_I, tclr_R, tclr_U, tclr_L, if_true, if_false, i10, not_true_eq_false, not_false_eq_true, cfS_2, c1]
    simp
/-! numbers -/
def nv (n : Nat) (tp : Nat → Nat) (q : Nat) : Int32 := if num n tp q < 1000 then nI (num n tp q) else -1
def vnF (g0 : Nat → Int32) : Nat → Int32 → Int32 := fun i a => a * 10 + g0 i - 48
theorem c_value (hn : n ≤ 240) (hT : TP n tp (g 0)) (h2 : tko n tp q = 2) : tA sc iX1_valueOfNext 0 [vR (some w), vU, vU] [] (hC h w (cfS f n tp q ft) e g u) K = K (some (vI (nv n tp q))) (hC h w (cfS f n tp q ft) e g u) := by
  have hq := tko_lt (Or.inr (Or.inl h2))
  have hk : kls (tp q) = 2 := by rw [← tko_kls hq]; exact h2
  have lt := tke_lt (tp := tp) hq
  have le := tke_le (n := n) (tp := tp) (q := q) (by omega)
  have b0 := kls_2 hk
  have L := loopA (fun i (a : Int32) => tA sc iX1_valueOfNext 22 [vR (some w), vI a, vI (nI i)] [] (hC h w (cfS f n tp q ft) e g u) K) (fun a => K (some (vI a)) (hC h w (cfS f n tp q ft) e g u)) (vnF (g 0)) (tke n tp q) ?_ ?_ (tke n tp q - q) q 0 (by omega)
  · unfold nv
    by_cases c : tke n tp q - q ≤ 2
    · have c1 : (nI (tke n tp q - q) ≤ (2 : Int32)) = True := nIle_t (b := 2) c (by decide)
      simp (disch := first | omega | assumption | exact hC_cl) only [rX1_valueOfNext_0, rX1_valueOfNext_1, rX1_valueOfNext_4, rX1_valueOfNext_5, rX1_valueOfNext_8, rX1_valueOfNext_9, rX1_valueOfNext_10, rX1_valueOfNext_13, rX1_valueOfNext_14, rX1_valueOfNext_15, rX1_valueOfNext_16, rX1_valueOfNext_17, rX1_valueOfNext_18, rX1_valueOfNext_21, rX1_valueOfNext_23, rX1_valueOfNext_24, rX1_valueOfNext_27, rX1_valueOfNext_30, rX1_valueOfNext_31, rX1_valueOfNext_33, rX1_valueOfNext_34, rX1_valueOfNext_35, rX1_valueOfNext_38, rX1_valueOfNext_39, rX1_valueOfNext_40, rX1_valueOfNext_41, rX1_valueOfNext_43, rX1_valueOfNext_44, rX1_valueOfNext_45, rX1_valueOfNext_48, rX1_valueOfNext_51, rX1_valueOfNext_52, hC_cl, hC_g0, hC_g1, hC_g2, hC_g3, hC_g4, hC_g5, hC_r0, hC_w0, hC_p1, hC_p2, hC_p3, hC_p4, hC_p5, oz_some, tpu_some, tpu_none, tclr_I, tclr_R, tclr_U, tclr_L, if_true, if_false, i10, not_true_eq_false, not_false_eq_true, cfS_3, cfS_4, pk_sub, c1]
      refine L.trans ?_
      refine congrArg (fun z => K (some (vI z)) (hC h w (cfS f n tp q ft) e g u)) ?_
      have e0 : (0 : Int32) * 10 + g 0 q - 48 = nI (tp q - 48) := by rw [(hT q hq).2]; exact bq_2 _ (hT q hq).1 hk
      unfold num
      rw [if_pos h2]
      by_cases c1 : tke n tp q = q + 1
      · rw [if_pos c1, c1, show q + 1 - q = 1 by omega, if_pos (by omega)]
        exact e0
      · have c2 : tke n tp q = q + 2 := by omega
        have b1 := kls_2 ((tok_in (tp := tp) hq (by omega) (show q ≤ q + 1 by omega) (by omega)).trans hk)
        rw [if_neg c1, if_pos c2, c2, show q + 2 - q = 2 by omega, if_pos (by omega)]
        show ((0 : Int32) * 10 + g 0 q - 48) * 10 + g 0 (q + 1) - 48 = _
        rw [e0, (hT (q + 1) (by omega)).2]
        exact bq_22 _ (by omega) _ (by omega) (by omega)
    · have c1 : (nI (tke n tp q - q) ≤ (2 : Int32)) = False := nIle_f (b := 2) (by omega) (by omega)
      have c3 : num n tp q = 1000 := by
        unfold num
        rw [if_pos h2, if_neg (by omega), if_neg (by omega)]
      simp (disch := first | omega | assumption | exact hC_cl) only [rX1_valueOfNext_0, rX1_valueOfNext_1, rX1_valueOfNext_4, rX1_valueOfNext_5, rX1_valueOfNext_8, rX1_valueOfNext_9, rX1_valueOfNext_10, rX1_valueOfNext_13, rX1_valueOfNext_14, rX1_valueOfNext_15, rX1_valueOfNext_16, rX1_valueOfNext_17, rX1_valueOfNext_18, rX1_valueOfNext_21, rX1_valueOfNext_23, rX1_valueOfNext_24, rX1_valueOfNext_27, rX1_valueOfNext_30, rX1_valueOfNext_31, rX1_valueOfNext_33, rX1_valueOfNext_34, rX1_valueOfNext_35, rX1_valueOfNext_38, rX1_valueOfNext_39, rX1_valueOfNext_40, rX1_valueOfNext_41, rX1_valueOfNext_43, rX1_valueOfNext_44, rX1_valueOfNext_45, rX1_valueOfNext_48, rX1_valueOfNext_51, rX1_valueOfNext_52, hC_cl, hC_g0, hC_g1, hC_g2, hC_g3, hC_g4, hC_g5, hC_r0, hC_w0, hC_p1, hC_p2, hC_p3, hC_p4, hC_p5, oz_some, tpu_some, tpu_none, tclr_I, tclr_R, tclr_U, tclr_L, if_true, if_false, i10, not_true_eq_false, not_false_eq_true, cfS_3, cfS_4, pk_sub, c1]
      rw [c3, if_neg (by decide)]
  · intro a
    have r := nIle_t (a := tke n tp q) (b := tke n tp q) (by omega) (by omega)
    rw [rX1_valueOfNext_22]
    simp (disch := first | omega | assumption | exact hC_cl) only [rX1_valueOfNext_0, rX1_valueOfNext_1, rX1_valueOfNext_4, rX1_valueOfNext_5, rX1_valueOfNext_8, rX1_valueOfNext_9, rX1_valueOfNext_10, rX1_valueOfNext_13, rX1_valueOfNext_14, rX1_valueOfNext_15, rX1_valueOfNext_16, rX1_valueOfNext_17, rX1_valueOfNext_18, rX1_valueOfNext_21, rX1_valueOfNext_23, rX1_valueOfNext_24, rX1_valueOfNext_27, rX1_valueOfNext_30, rX1_valueOfNext_31, rX1_valueOfNext_33, rX1_valueOfNext_34, rX1_valueOfNext_35, rX1_valueOfNext_38, rX1_valueOfNext_39, rX1_valueOfNext_40, rX1_valueOfNext_41, rX1_valueOfNext_43, rX1_valueOfNext_44, rX1_valueOfNext_45, rX1_valueOfNext_48, rX1_valueOfNext_51, rX1_valueOfNext_52, hC_cl, hC_g0, hC_g1, hC_g2, hC_g3, hC_g4, hC_g5, hC_r0, hC_w0, hC_p1, hC_p2, hC_p3, hC_p4, hC_p5, oz_some, tpu_some, tpu_none, tclr_I, tclr_R, tclr_U, tclr_L, if_true, if_false, i10, not_true_eq_false, not_false_eq_true, cfS_4, r]
  · intro i a hi
    have r := nIle_f (a := tke n tp q) (b := i) hi (by omega)
    rw [rX1_valueOfNext_22]
    simp (disch := first | omega | assumption | exact hC_cl) only [rX1_valueOfNext_0, rX1_valueOfNext_1, rX1_valueOfNext_4, rX1_valueOfNext_5, rX1_valueOfNext_8, rX1_valueOfNext_9, rX1_valueOfNext_10, rX1_valueOfNext_13, rX1_valueOfNext_14, rX1_valueOfNext_15, rX1_valueOfNext_16, rX1_valueOfNext_17, rX1_valueOfNext_18, rX1_valueOfNext_21, rX1_valueOfNext_23, rX1_valueOfNext_24, rX1_valueOfNext_27, rX1_valueOfNext_30, rX1_valueOfNext_31, rX1_valueOfNext_33, rX1_valueOfNext_34, rX1_valueOfNext_35, rX1_valueOfNext_38, rX1_valueOfNext_39, rX1_valueOfNext_40, rX1_valueOfNext_41, rX1_valueOfNext_43, rX1_valueOfNext_44, rX1_valueOfNext_45, rX1_valueOfNext_48, rX1_valueOfNext_51, rX1_valueOfNext_52, hC_cl, hC_g0, hC_g1, hC_g2, hC_g3, hC_g4, hC_g5, hC_r0, hC_w0, hC_p1, hC_p2, hC_p3, hC_p4, hC_p5, oz_some, tpu_some, tpu_none, tclr_I, tclr_R, tclr_U, tclr_L, if_true, if_false, i10, not_true_eq_false, not_false_eq_true, cfS_4, r, nI_1]
    rfl
theorem nv_lt (h : num n tp q < 100) : (nv n tp q < 0) = False := by
  unfold nv
  rw [if_pos (by omega)]
  exact nIlt0 (by omega)
theorem c_num (h1 : f 1 = nI n) (hn : n ≤ 240) (hT : TP n tp (g 0)) (hq : q ≤ n) (hm : m ≤ 100) (hx : ∀ v, v < 100 → (nI v ≤ x ↔ v < m)) : tA sc iX1_takeNumber 0 [vR (some w), vI x, vU] [] (hC h w (cfS f n tp q (-1)) e g u) K = if num n tp q < m then K (some (vI (nI (num n tp q)))) (hC h w (cfS f n tp (nx n tp q) (-1)) e g u) else K (some (vI 0)) (hC h w (cfS f n tp q (nI q)) e g u) := by
  have m1 : ((-1 : Int32) < 0) = True := by decide
  have eS := fun (K : Option TV → TH → Prop) => c_step (sc := sc) (h := h) (w := w) (e := e) (u := u) (K := K) (ft := -1) h1 hn hT hq
  by_cases h2 : tko n tp q = 2
  · have c1 : (nI (tko n tp q) = (2 : Int32)) = True := eq_true (by rw [h2]; rfl)
    have eV := fun (K : Option TV → TH → Prop) => c_value (sc := sc) (h := h) (w := w) (f := f) (ft := -1) (e := e) (u := u) (K := K) hn hT h2
    rcases num_in (n := n) (tp := tp) (q := q) with ⟨-, c⟩ | c
    · have v0 := nv_lt c
      have v1 : nv n tp q = nI (num n tp q) := by unfold nv; rw [if_pos (by omega)]
      by_cases c3 : num n tp q < m
      · have v2 : (nI (num n tp q) ≤ x) = True := eq_true ((hx _ c).mpr c3)
        rw [v1] at v0
        simp (disch := first | omega | assumption | exact hC_cl) only [rX1_takeNumber_0, rX1_takeNumber_1, rX1_takeNumber_4, rX1_takeNumber_7, rX1_takeNumber_8, rX1_takeNumber_9, rX1_takeNumber_10, rX1_takeNumber_13, rX1_takeNumber_14, rX1_takeNumber_17, rX1_takeNumber_18, rX1_takeNumber_21, rX1_takeNumber_24, rX1_takeNumber_25, rX1_takeNumber_26, rX1_takeNumber_27, rX1_takeNumber_30, rX1_takeNumber_31, rX1_takeNumber_32, rX1_takeNumber_35, rX1_takeNumber_36, rX1_takeNumber_37, rX1_takeNumber_40, rX1_takeNumber_43, rX1_takeNumber_44, rX1_takeNumber_45, rX1_takeNumber_46, rX1_takeNumber_49, rX1_takeNumber_50, hC_cl, hC_g0, hC_g1, hC_g2, hC_g3, hC_g4, hC_g5, hC_r0, hC_w0, hC_p1, hC_p2, hC_p3, hC_p4, hC_p5, oz_some, tpu_some, tpu_none, tclr_I, tclr_R, tclr_U, tclr_L, if_true, if_false, i10, not_true_eq_false, not_false_eq_true, cfS_2, cfS_5, m1, c1, eV, v1, v0, v2, c3, eS]
      · have v2 : (nI (num n tp q) ≤ x) = False := eq_false (fun z => c3 ((hx _ c).mp z))
        rw [v1] at v0
        simp (disch := first | omega | assumption | exact hC_cl) only [rX1_takeNumber_0, rX1_takeNumber_1, rX1_takeNumber_4, rX1_takeNumber_7, rX1_takeNumber_8, rX1_takeNumber_9, rX1_takeNumber_10, rX1_takeNumber_13, rX1_takeNumber_14, rX1_takeNumber_17, rX1_takeNumber_18, rX1_takeNumber_21, rX1_takeNumber_24, rX1_takeNumber_25, rX1_takeNumber_26, rX1_takeNumber_27, rX1_takeNumber_30, rX1_takeNumber_31, rX1_takeNumber_32, rX1_takeNumber_35, rX1_takeNumber_36, rX1_takeNumber_37, rX1_takeNumber_40, rX1_takeNumber_43, rX1_takeNumber_44, rX1_takeNumber_45, rX1_takeNumber_46, rX1_takeNumber_49, rX1_takeNumber_50, hC_cl, hC_g0, hC_g1, hC_g2, hC_g3, hC_g4, hC_g5, hC_r0, hC_w0, hC_p1, hC_p2, hC_p3, hC_p4, hC_p5, oz_some, tpu_some, tpu_none, tclr_I, tclr_R, tclr_U, tclr_L, if_true, if_false, i10, not_true_eq_false, not_false_eq_true, cfS_2, cfS_3, cfS_5, cfS_p5, m1, c1, eV, v1, v0, v2, c3]
    · have v1 : nv n tp q = -1 := by unfold nv; rw [if_neg (by omega)]
      have c3 : ¬ num n tp q < m := by omega
      simp (disch := first | omega | assumption | exact hC_cl) only [rX1_takeNumber_0, rX1_takeNumber_1, rX1_takeNumber_4, rX1_takeNumber_7, rX1_takeNumber_8, rX1_takeNumber_9, rX1_takeNumber_10, rX1_takeNumber_13, rX1_takeNumber_14, rX1_takeNumber_17, rX1_takeNumber_18, rX1_takeNumber_21, rX1_takeNumber_24, rX1_takeNumber_25, rX1_takeNumber_26, rX1_takeNumber_27, rX1_takeNumber_30, rX1_takeNumber_31, rX1_takeNumber_32, rX1_takeNumber_35, rX1_takeNumber_36, rX1_takeNumber_37, rX1_takeNumber_40, rX1_takeNumber_43, rX1_takeNumber_44, rX1_takeNumber_45, rX1_takeNumber_46, rX1_takeNumber_49, rX1_takeNumber_50, hC_cl, hC_g0, hC_g1, hC_g2, hC_g3, hC_g4, hC_g5, hC_r0, hC_w0, hC_p1, hC_p2, hC_p3, hC_p4, hC_p5, oz_some, tpu_some, tpu_none, tclr_I, tclr_R, tclr_U, tclr_L, if_true, if_false, i10, not_true_eq_false, not_false_eq_true, cfS_2, cfS_3, cfS_5, cfS_p5, m1, c1, eV, v1, c3]
  · have t4 := tko_4 (n := n) (tp := tp) (q := q)
    have c1 : (nI (tko n tp q) = (2 : Int32)) = False := nIeq_f (b := 2) h2 (by omega) (by decide)
    have c3 : ¬ num n tp q < m := by
      rcases num_in (n := n) (tp := tp) (q := q) with ⟨c, -⟩ | c
      · exact absurd c h2
      · omega
    simp (disch := first | omega | assumption | exact hC_cl) only [rX1_takeNumber_0, rX1_takeNumber_1, rX1_takeNumber_4, rX1_takeNumber_7, rX1_takeNumber_8, rX1_takeNumber_9, rX1_takeNumber_10, rX1_takeNumber_13, rX1_takeNumber_14, rX1_takeNumber_17, rX1_takeNumber_18, rX1_takeNumber_21, rX1_takeNumber_24, rX1_takeNumber_25, rX1_takeNumber_26, rX1_takeNumber_27, rX1_takeNumber_30, rX1_takeNumber_31, rX1_takeNumber_32, rX1_takeNumber_35, rX1_takeNumber_36, rX1_takeNumber_37, rX1_takeNumber_40, rX1_takeNumber_43, rX1_takeNumber_44, rX1_takeNumber_45, rX1_takeNumber_46, rX1_takeNumber_49, rX1_takeNumber_50, hC_cl, hC_g0, hC_g1, hC_g2, hC_g3, hC_g4, hC_g5, hC_r0, hC_w0, hC_p1, hC_p2, hC_p3, hC_p4, hC_p5, oz_some, tpu_some, tpu_none, tclr_I, tclr_R, tclr_U, tclr_L, if_true, if_false, i10, not_true_eq_false, not_false_eq_true, cfS_2, cfS_3, cfS_5, cfS_p5, m1, c1, c3]
theorem c_numF (hp : p ≤ 240) : tA sc iX1_takeNumber 0 [vR (some w), vI x, vU] [] (hC h w (cfS f n tp q (nI p)) e g u) K = K (some (vI 0)) (hC h w (cfS f n tp q (nI p)) e g u) := by
  have m1 : (nI p < (0 : Int32)) = False := nIlt0 (by omega)
  simp (disch := first | omega | assumption | exact hC_cl) only [rX1_takeNumber_0, rX1_takeNumber_1, rX1_takeNumber_4, rX1_takeNumber_7, rX1_takeNumber_8, rX1_takeNumber_9, rX1_takeNumber_10, rX1_takeNumber_13, rX1_takeNumber_14, rX1_takeNumber_17, rX1_takeNumber_18, rX1_takeNumber_21, rX1_takeNumber_24, rX1_takeNumber_25, rX1_takeNumber_26, rX1_takeNumber_27, rX1_takeNumber_30, rX1_takeNumber_31, rX1_takeNumber_32, rX1_takeNumber_35, rX1_takeNumber_36, rX1_takeNumber_37, rX1_takeNumber_40, rX1_takeNumber_43, rX1_takeNumber_44, rX1_takeNumber_45, rX1_takeNumber_46, rX1_takeNumber_49, rX1_takeNumber_50, hC_cl, hC_g0, hC_g1, hC_g2, hC_g3, hC_g4, hC_g5, hC_r0, hC_w0, hC_p1, hC_p2, hC_p3, hC_p4, hC_p5, oz_some, tpu_some, tpu_none, tclr_I, tclr_R, tclr_U, tclr_L, if_true, if_false, i10, not_true_eq_false, not_false_eq_true, cfS_5, m1]
theorem c_wname (h1 : f 1 = nI n) (hn : n ≤ 240) (hT : TP n tp (g 0)) (hq : q ≤ n) : tA sc iX1_takeWorthName 0 [vR (some w)] [] (hC h w (cfS f n tp q (-1)) e g u) K = if tkn n tp q = 7 then K none (hC h w (cfS f n tp (nx n tp q) (-1)) e g u) else K none (hC h w (cfS f n tp q (nI q)) e g u) := by
  have m1 : ((-1 : Int32) < 0) = True := by decide
  have eS := fun (K : Option TV → TH → Prop) => c_step (sc := sc) (h := h) (w := w) (e := e) (u := u) (K := K) (ft := -1) h1 hn hT hq
  have eN := fun (K : Option TV → TH → Prop) => c_name (sc := sc) (h := h) (w := w) (f := f) (q := q) (e := e) (u := u) (K := K) (ft := -1) (j := 7) hn hT (by decide)
  by_cases c : tkn n tp q = 7
  · have y : ((1 : Int32) = 0) = False := by decide
    simp only [if_pos c] at eN ⊢
    simp (disch := first | omega | assumption | exact hC_cl) only [rX1_takeWorthName_0, rX1_takeWorthName_1, rX1_takeWorthName_4, rX1_takeWorthName_7, rX1_takeWorthName_8, rX1_takeWorthName_9, rX1_takeWorthName_11, rX1_takeWorthName_14, rX1_takeWorthName_17, rX1_takeWorthName_18, rX1_takeWorthName_19, rX1_takeWorthName_22, rX1_takeWorthName_25, rX1_takeWorthName_26, rX1_takeWorthName_27, rX1_takeWorthName_30, hC_cl, hC_g0, hC_g1, hC_g2, hC_g3, hC_g4, hC_g5, hC_r0, hC_w0, hC_p1, hC_p2, hC_p3, hC_p4, hC_p5, oz_some, tpu_some, tpu_none, tclr_I, tclr_R, tclr_U, tclr_L, if_true, if_false, i10, not_true_eq_false, not_false_eq_true, cfS_5, m1, eN, eS, y]
  · simp only [if_neg c] at eN ⊢
    simp (disch := first | omega | assumption | exact hC_cl) only [rX1_takeWorthName_0, rX1_takeWorthName_1, rX1_takeWorthName_4, rX1_takeWorthName_7, rX1_takeWorthName_8, rX1_takeWorthName_9, rX1_takeWorthName_11, rX1_takeWorthName_14, rX1_takeWorthName_17, rX1_takeWorthName_18, rX1_takeWorthName_19, rX1_takeWorthName_22, rX1_takeWorthName_25, rX1_takeWorthName_26, rX1_takeWorthName_27, rX1_takeWorthName_30, hC_cl, hC_g0, hC_g1, hC_g2, hC_g3, hC_g4, hC_g5, hC_r0, hC_w0, hC_p1, hC_p2, hC_p3, hC_p4, hC_p5, oz_some, tpu_some, tpu_none, tclr_I, tclr_R, tclr_U, tclr_L, if_true, if_false, i10, not_true_eq_false, not_false_eq_true, cfS_3, cfS_5, cfS_p5, m1, eN]
theorem c_wnameF (hp : p ≤ 240) : tA sc iX1_takeWorthName 0 [vR (some w)] [] (hC h w (cfS f n tp q (nI p)) e g u) K = K none (hC h w (cfS f n tp q (nI p)) e g u) := by
  have m1 : (nI p < (0 : Int32)) = False := nIlt0 (by omega)
  simp (disch := first | omega | assumption | exact hC_cl) only [rX1_takeWorthName_0, rX1_takeWorthName_1, rX1_takeWorthName_4, rX1_takeWorthName_7, rX1_takeWorthName_8, rX1_takeWorthName_9, rX1_takeWorthName_11, rX1_takeWorthName_14, rX1_takeWorthName_17, rX1_takeWorthName_18, rX1_takeWorthName_19, rX1_takeWorthName_22, rX1_takeWorthName_25, rX1_takeWorthName_26, rX1_takeWorthName_27, rX1_takeWorthName_30, hC_cl, hC_g0, hC_g1, hC_g2, hC_g3, hC_g4, hC_g5, hC_r0, hC_w0, hC_p1, hC_p2, hC_p3, hC_p4, hC_p5, oz_some, tpu_some, tpu_none, tclr_I, tclr_R, tclr_U, tclr_L, if_true, if_false, i10, not_true_eq_false, not_false_eq_true, cfS_5, m1]
theorem c_semi (h1 : f 1 = nI n) (hn : n ≤ 240) (hT : TP n tp (g 0)) (hq : q ≤ n) : tA sc iX1_takeSemicolon 0 [vR (some w)] [] (hC h w (cfS f n tp q (-1)) e g u) K = if tko n tp q = 3 ∧ tp q = 59 then K none (hC h w (cfS f n tp (nx n tp q) (-1)) e g u) else K none (hC h w (cfS f n tp q (nI q)) e g u) := by
  have m1 : ((-1 : Int32) < 0) = True := by decide
  have eS := fun (K : Option TV → TH → Prop) => c_step (sc := sc) (h := h) (w := w) (e := e) (u := u) (K := K) (ft := -1) h1 hn hT hq
  by_cases h3 : tko n tp q = 3
  · have c1 : (nI (tko n tp q) = (3 : Int32)) = True := eq_true (by rw [h3]; rfl)
    have ql := tko_lt (Or.inr (Or.inr h3))
    have t1 := (hT q ql).1
    have t2 := (hT q ql).2
    by_cases c : tp q = 59
    · have c2 : (bq (tp q) = 59) = True := eq_true ((bq_59 _ t1).mpr c)
      rw [if_pos ⟨h3, c⟩]
      simp (disch := first | omega | assumption | exact hC_cl) only [rX1_takeSemicolon_0, rX1_takeSemicolon_1, rX1_takeSemicolon_4, rX1_takeSemicolon_7, rX1_takeSemicolon_8, rX1_takeSemicolon_9, rX1_takeSemicolon_12, rX1_takeSemicolon_13, rX1_takeSemicolon_16, rX1_takeSemicolon_17, rX1_takeSemicolon_20, rX1_takeSemicolon_21, rX1_takeSemicolon_24, rX1_takeSemicolon_25, rX1_takeSemicolon_27, rX1_takeSemicolon_30, rX1_takeSemicolon_31, rX1_takeSemicolon_32, rX1_takeSemicolon_35, rX1_takeSemicolon_38, rX1_takeSemicolon_39, rX1_takeSemicolon_40, rX1_takeSemicolon_43, hC_cl, hC_g0, hC_g1, hC_g2, hC_g3, hC_g4, hC_g5, hC_r0, hC_w0, hC_p1, hC_p2, hC_p3, hC_p4, hC_p5, oz_some, tpu_some, tpu_none, tclr_I, tclr_R, tclr_U, tclr_L, if_true, if_false, i10, not_true_eq_false, not_false_eq_true, cfS_2, cfS_3, cfS_5, m1, c1, t2, c2, eS]
    · have c2 : (bq (tp q) = 59) = False := eq_false (fun z => c ((bq_59 _ t1).mp z))
      rw [if_neg (fun z => c z.2)]
      simp (disch := first | omega | assumption | exact hC_cl) only [rX1_takeSemicolon_0, rX1_takeSemicolon_1, rX1_takeSemicolon_4, rX1_takeSemicolon_7, rX1_takeSemicolon_8, rX1_takeSemicolon_9, rX1_takeSemicolon_12, rX1_takeSemicolon_13, rX1_takeSemicolon_16, rX1_takeSemicolon_17, rX1_takeSemicolon_20, rX1_takeSemicolon_21, rX1_takeSemicolon_24, rX1_takeSemicolon_25, rX1_takeSemicolon_27, rX1_takeSemicolon_30, rX1_takeSemicolon_31, rX1_takeSemicolon_32, rX1_takeSemicolon_35, rX1_takeSemicolon_38, rX1_takeSemicolon_39, rX1_takeSemicolon_40, rX1_takeSemicolon_43, hC_cl, hC_g0, hC_g1, hC_g2, hC_g3, hC_g4, hC_g5, hC_r0, hC_w0, hC_p1, hC_p2, hC_p3, hC_p4, hC_p5, oz_some, tpu_some, tpu_none, tclr_I, tclr_R, tclr_U, tclr_L, if_true, if_false, i10, not_true_eq_false, not_false_eq_true, cfS_2, cfS_3, cfS_5, cfS_p5, m1, c1, t2, c2]
  · have t4 := tko_4 (n := n) (tp := tp) (q := q)
    have c1 : (nI (tko n tp q) = (3 : Int32)) = False := nIeq_f (b := 3) h3 (by omega) (by decide)
    rw [if_neg (fun z => h3 z.1)]
    simp (disch := first | omega | assumption | exact hC_cl) only [rX1_takeSemicolon_0, rX1_takeSemicolon_1, rX1_takeSemicolon_4, rX1_takeSemicolon_7, rX1_takeSemicolon_8, rX1_takeSemicolon_9, rX1_takeSemicolon_12, rX1_takeSemicolon_13, rX1_takeSemicolon_16, rX1_takeSemicolon_17, rX1_takeSemicolon_20, rX1_takeSemicolon_21, rX1_takeSemicolon_24, rX1_takeSemicolon_25, rX1_takeSemicolon_27, rX1_takeSemicolon_30, rX1_takeSemicolon_31, rX1_takeSemicolon_32, rX1_takeSemicolon_35, rX1_takeSemicolon_38, rX1_takeSemicolon_39, rX1_takeSemicolon_40, rX1_takeSemicolon_43, hC_cl, hC_g0, hC_g1, hC_g2, hC_g3, hC_g4, hC_g5, hC_r0, hC_w0, hC_p1, hC_p2, hC_p3, hC_p4, hC_p5, oz_some, tpu_some, tpu_none, tclr_I, tclr_R, tclr_U, tclr_L, if_true, if_false, i10, not_true_eq_false, not_false_eq_true, cfS_2, cfS_3, cfS_5, cfS_p5, m1, c1]
theorem c_semiF (hp : p ≤ 240) : tA sc iX1_takeSemicolon 0 [vR (some w)] [] (hC h w (cfS f n tp q (nI p)) e g u) K = K none (hC h w (cfS f n tp q (nI p)) e g u) := by
  have m1 : (nI p < (0 : Int32)) = False := nIlt0 (by omega)
  simp (disch := first | omega | assumption | exact hC_cl) only [rX1_takeSemicolon_0, rX1_takeSemicolon_1, rX1_takeSemicolon_4, rX1_takeSemicolon_7, rX1_takeSemicolon_8, rX1_takeSemicolon_9, rX1_takeSemicolon_12, rX1_takeSemicolon_13, rX1_takeSemicolon_16, rX1_takeSemicolon_17, rX1_takeSemicolon_20, rX1_takeSemicolon_21, rX1_takeSemicolon_24, rX1_takeSemicolon_25, rX1_takeSemicolon_27, rX1_takeSemicolon_30, rX1_takeSemicolon_31, rX1_takeSemicolon_32, rX1_takeSemicolon_35, rX1_takeSemicolon_38, rX1_takeSemicolon_39, rX1_takeSemicolon_40, rX1_takeSemicolon_43, hC_cl, hC_g0, hC_g1, hC_g2, hC_g3, hC_g4, hC_g5, hC_r0, hC_w0, hC_p1, hC_p2, hC_p3, hC_p4, hC_p5, oz_some, tpu_some, tpu_none, tclr_I, tclr_R, tclr_U, tclr_L, if_true, if_false, i10, not_true_eq_false, not_false_eq_true, cfS_5, m1]
def kdn (t : Nat) : Int32 := if t < 6 then nI t else -1
theorem c_kind (hn : n ≤ 240) (hT : TP n tp (g 0)) : tA sc iX1_kindNamed 0 [vR (some w)] [] (hC h w (cfS f n tp q ft) e g u) K = K (some (vI (kdn (tkn n tp q)))) (hC h w (cfS f n tp q ft) e g u) := by
  have e0 := fun (K : Option TV → TH → Prop) => c_name (sc := sc) (h := h) (w := w) (f := f) (q := q) (e := e) (u := u) (K := K) (ft := ft) (j := 0) hn hT (by decide)
  have e1 := fun (K : Option TV → TH → Prop) => c_name (sc := sc) (h := h) (w := w) (f := f) (q := q) (e := e) (u := u) (K := K) (ft := ft) (j := 1) hn hT (by decide)
  have e2 := fun (K : Option TV → TH → Prop) => c_name (sc := sc) (h := h) (w := w) (f := f) (q := q) (e := e) (u := u) (K := K) (ft := ft) (j := 2) hn hT (by decide)
  have e3 := fun (K : Option TV → TH → Prop) => c_name (sc := sc) (h := h) (w := w) (f := f) (q := q) (e := e) (u := u) (K := K) (ft := ft) (j := 3) hn hT (by decide)
  have e4 := fun (K : Option TV → TH → Prop) => c_name (sc := sc) (h := h) (w := w) (f := f) (q := q) (e := e) (u := u) (K := K) (ft := ft) (j := 4) hn hT (by decide)
  have e5 := fun (K : Option TV → TH → Prop) => c_name (sc := sc) (h := h) (w := w) (f := f) (q := q) (e := e) (u := u) (K := K) (ft := ft) (j := 5) hn hT (by decide)
  simp only [Nat.reduceAdd] at e0 e1 e2 e3 e4 e5
  have y : ((1 : Int32) = 0) = False := by decide
  generalize tkn n tp q = t at e0 e1 e2 e3 e4 e5 ⊢
  unfold kdn
  by_cases a0 : t = 0
  · subst a0
    simp only [if_true] at e0
    simp (disch := first | omega | assumption | exact hC_cl) only [rX1_kindNamed_0, rX1_kindNamed_1, rX1_kindNamed_3, rX1_kindNamed_6, rX1_kindNamed_9, rX1_kindNamed_10, rX1_kindNamed_11, rX1_kindNamed_12, rX1_kindNamed_14, rX1_kindNamed_17, rX1_kindNamed_20, rX1_kindNamed_21, rX1_kindNamed_22, rX1_kindNamed_23, rX1_kindNamed_25, rX1_kindNamed_28, rX1_kindNamed_31, rX1_kindNamed_32, rX1_kindNamed_33, rX1_kindNamed_34, rX1_kindNamed_36, rX1_kindNamed_39, rX1_kindNamed_42, rX1_kindNamed_43, rX1_kindNamed_44, rX1_kindNamed_45, rX1_kindNamed_47, rX1_kindNamed_50, rX1_kindNamed_53, rX1_kindNamed_54, rX1_kindNamed_55, rX1_kindNamed_56, rX1_kindNamed_58, rX1_kindNamed_61, rX1_kindNamed_64, rX1_kindNamed_65, rX1_kindNamed_68, rX1_kindNamed_69, hC_cl, hC_g0, hC_g1, hC_g2, hC_g3, hC_g4, hC_g5, hC_r0, hC_w0, hC_p1, hC_p2, hC_p3, hC_p4, hC_p5, oz_some, tpu_some, tpu_none, tclr_I, tclr_R, tclr_U, tclr_L, if_true, if_false, i10, not_true_eq_false, not_false_eq_true, e0, y]
    rfl
  · simp only [if_neg a0] at e0
    by_cases a1 : t = 1
    · subst a1
      simp only [if_true] at e1
      simp (disch := first | omega | assumption | exact hC_cl) only [rX1_kindNamed_0, rX1_kindNamed_1, rX1_kindNamed_3, rX1_kindNamed_6, rX1_kindNamed_9, rX1_kindNamed_10, rX1_kindNamed_11, rX1_kindNamed_12, rX1_kindNamed_14, rX1_kindNamed_17, rX1_kindNamed_20, rX1_kindNamed_21, rX1_kindNamed_22, rX1_kindNamed_23, rX1_kindNamed_25, rX1_kindNamed_28, rX1_kindNamed_31, rX1_kindNamed_32, rX1_kindNamed_33, rX1_kindNamed_34, rX1_kindNamed_36, rX1_kindNamed_39, rX1_kindNamed_42, rX1_kindNamed_43, rX1_kindNamed_44, rX1_kindNamed_45, rX1_kindNamed_47, rX1_kindNamed_50, rX1_kindNamed_53, rX1_kindNamed_54, rX1_kindNamed_55, rX1_kindNamed_56, rX1_kindNamed_58, rX1_kindNamed_61, rX1_kindNamed_64, rX1_kindNamed_65, rX1_kindNamed_68, rX1_kindNamed_69, hC_cl, hC_g0, hC_g1, hC_g2, hC_g3, hC_g4, hC_g5, hC_r0, hC_w0, hC_p1, hC_p2, hC_p3, hC_p4, hC_p5, oz_some, tpu_some, tpu_none, tclr_I, tclr_R, tclr_U, tclr_L, if_true, if_false, i10, not_true_eq_false, not_false_eq_true, e0, e1, y]
      rfl
    · simp only [if_neg a1] at e1
      by_cases a2 : t = 2
      · subst a2
        simp only [if_true] at e2
        simp (disch := first | omega | assumption | exact hC_cl) only [rX1_kindNamed_0, rX1_kindNamed_1, rX1_kindNamed_3, rX1_kindNamed_6, rX1_kindNamed_9, rX1_kindNamed_10, rX1_kindNamed_11, rX1_kindNamed_12, rX1_kindNamed_14, rX1_kindNamed_17, rX1_kindNamed_20, rX1_kindNamed_21, rX1_kindNamed_22, rX1_kindNamed_23, rX1_kindNamed_25, rX1_kindNamed_28, rX1_kindNamed_31, rX1_kindNamed_32, rX1_kindNamed_33, rX1_kindNamed_34, rX1_kindNamed_36, rX1_kindNamed_39, rX1_kindNamed_42, rX1_kindNamed_43, rX1_kindNamed_44, rX1_kindNamed_45, rX1_kindNamed_47, rX1_kindNamed_50, rX1_kindNamed_53, rX1_kindNamed_54, rX1_kindNamed_55, rX1_kindNamed_56, rX1_kindNamed_58, rX1_kindNamed_61, rX1_kindNamed_64, rX1_kindNamed_65, rX1_kindNamed_68, rX1_kindNamed_69, hC_cl, hC_g0, hC_g1, hC_g2, hC_g3, hC_g4, hC_g5, hC_r0, hC_w0, hC_p1, hC_p2, hC_p3, hC_p4, hC_p5, oz_some, tpu_some, tpu_none, tclr_I, tclr_R, tclr_U, tclr_L, if_true, if_false, i10, not_true_eq_false, not_false_eq_true, e0, e1, e2, y]
        rfl
      · simp only [if_neg a2] at e2
        by_cases a3 : t = 3
        · subst a3
          simp only [if_true] at e3
          simp (disch := first | omega | assumption | exact hC_cl) only [rX1_kindNamed_0, rX1_kindNamed_1, rX1_kindNamed_3, rX1_kindNamed_6, rX1_kindNamed_9, rX1_kindNamed_10, rX1_kindNamed_11, rX1_kindNamed_12, rX1_kindNamed_14, rX1_kindNamed_17, rX1_kindNamed_20, rX1_kindNamed_21, rX1_kindNamed_22, rX1_kindNamed_23, rX1_kindNamed_25, rX1_kindNamed_28, rX1_kindNamed_31, rX1_kindNamed_32, rX1_kindNamed_33, rX1_kindNamed_34, rX1_kindNamed_36, rX1_kindNamed_39, rX1_kindNamed_42, rX1_kindNamed_43, rX1_kindNamed_44, rX1_kindNamed_45, rX1_kindNamed_47, rX1_kindNamed_50, rX1_kindNamed_53, rX1_kindNamed_54, rX1_kindNamed_55, rX1_kindNamed_56, rX1_kindNamed_58, rX1_kindNamed_61, rX1_kindNamed_64, rX1_kindNamed_65, rX1_kindNamed_68, rX1_kindNamed_69, hC_cl, hC_g0, hC_g1, hC_g2, hC_g3, hC_g4, hC_g5, hC_r0, hC_w0, hC_p1, hC_p2, hC_p3, hC_p4, hC_p5, oz_some, tpu_some, tpu_none, tclr_I, tclr_R, tclr_U, tclr_L, if_true, if_false, i10, not_true_eq_false, not_false_eq_true, e0, e1, e2, e3, y]
          rfl
        · simp only [if_neg a3] at e3
          by_cases a4 : t = 4
          · subst a4
            simp only [if_true] at e4
            simp (disch := first | omega | assumption | exact hC_cl) only [rX1_kindNamed_0, rX1_kindNamed_1, rX1_kindNamed_3, rX1_kindNamed_6, rX1_kindNamed_9, rX1_kindNamed_10, rX1_kindNamed_11, rX1_kindNamed_12, rX1_kindNamed_14, rX1_kindNamed_17, rX1_kindNamed_20, rX1_kindNamed_21, rX1_kindNamed_22, rX1_kindNamed_23, rX1_kindNamed_25, rX1_kindNamed_28, rX1_kindNamed_31, rX1_kindNamed_32, rX1_kindNamed_33, rX1_kindNamed_34, rX1_kindNamed_36, rX1_kindNamed_39, rX1_kindNamed_42, rX1_kindNamed_43, rX1_kindNamed_44, rX1_kindNamed_45, rX1_kindNamed_47, rX1_kindNamed_50, rX1_kindNamed_53, rX1_kindNamed_54, rX1_kindNamed_55, rX1_kindNamed_56, rX1_kindNamed_58, rX1_kindNamed_61, rX1_kindNamed_64, rX1_kindNamed_65, rX1_kindNamed_68, rX1_kindNamed_69, hC_cl, hC_g0, hC_g1, hC_g2, hC_g3, hC_g4, hC_g5, hC_r0, hC_w0, hC_p1, hC_p2, hC_p3, hC_p4, hC_p5, oz_some, tpu_some, tpu_none, tclr_I, tclr_R, tclr_U, tclr_L, if_true, if_false, i10, not_true_eq_false, not_false_eq_true, e0, e1, e2, e3, e4, y]
            rfl
          · simp only [if_neg a4] at e4
            by_cases a5 : t = 5
            · subst a5
              simp only [if_true] at e5
              simp (disch := first | omega | assumption | exact hC_cl) only [rX1_kindNamed_0, rX1_kindNamed_1, rX1_kindNamed_3, rX1_kindNamed_6, rX1_kindNamed_9, rX1_kindNamed_10, rX1_kindNamed_11, rX1_kindNamed_12, rX1_kindNamed_14, rX1_kindNamed_17, rX1_kindNamed_20, rX1_kindNamed_21, rX1_kindNamed_22, rX1_kindNamed_23, rX1_kindNamed_25, rX1_kindNamed_28, rX1_kindNamed_31, rX1_kindNamed_32, rX1_kindNamed_33, rX1_kindNamed_34, rX1_kindNamed_36, rX1_kindNamed_39, rX1_kindNamed_42, rX1_kindNamed_43, rX1_kindNamed_44, rX1_kindNamed_45, rX1_kindNamed_47, rX1_kindNamed_50, rX1_kindNamed_53, rX1_kindNamed_54, rX1_kindNamed_55, rX1_kindNamed_56, rX1_kindNamed_58, rX1_kindNamed_61, rX1_kindNamed_64, rX1_kindNamed_65, rX1_kindNamed_68, rX1_kindNamed_69, hC_cl, hC_g0, hC_g1, hC_g2, hC_g3, hC_g4, hC_g5, hC_r0, hC_w0, hC_p1, hC_p2, hC_p3, hC_p4, hC_p5, oz_some, tpu_some, tpu_none, tclr_I, tclr_R, tclr_U, tclr_L, if_true, if_false, i10, not_true_eq_false, not_false_eq_true, e0, e1, e2, e3, e4, e5, y]
              rfl
            · simp only [if_neg a5] at e5
              rw [if_neg (by omega)]
              simp (disch := first | omega | assumption | exact hC_cl) only [rX1_kindNamed_0, rX1_kindNamed_1, rX1_kindNamed_3, rX1_kindNamed_6, rX1_kindNamed_9, rX1_kindNamed_10, rX1_kindNamed_11, rX1_kindNamed_12, rX1_kindNamed_14, rX1_kindNamed_17, rX1_kindNamed_20, rX1_kindNamed_21, rX1_kindNamed_22, rX1_kindNamed_23, rX1_kindNamed_25, rX1_kindNamed_28, rX1_kindNamed_31, rX1_kindNamed_32, rX1_kindNamed_33, rX1_kindNamed_34, rX1_kindNamed_36, rX1_kindNamed_39, rX1_kindNamed_42, rX1_kindNamed_43, rX1_kindNamed_44, rX1_kindNamed_45, rX1_kindNamed_47, rX1_kindNamed_50, rX1_kindNamed_53, rX1_kindNamed_54, rX1_kindNamed_55, rX1_kindNamed_56, rX1_kindNamed_58, rX1_kindNamed_61, rX1_kindNamed_64, rX1_kindNamed_65, rX1_kindNamed_68, rX1_kindNamed_69, hC_cl, hC_g0, hC_g1, hC_g2, hC_g3, hC_g4, hC_g5, hC_r0, hC_w0, hC_p1, hC_p2, hC_p3, hC_p4, hC_p5, oz_some, tpu_some, tpu_none, tclr_I, tclr_R, tclr_U, tclr_L, if_true, if_false, i10, not_true_eq_false, not_false_eq_true, e0, e1, e2, e3, e4, e5]
end S98l
