/-! A MORNING of the Model, 2: who gets, who pays; the sign ahead; all of it -/
section S82
variable {sc : Nat × (Nat → Int32)} {h : TH} {m np A c d k t s a kd j i n n5 D B : Nat} {g M : Nat → Nat → Int32} {f fw r F : Nat → Int32} {e : Nat → Int64} {u : Nat → Nat → Int64} {x x1 x2 p z w : Int32} {Skd Sa : Nat → Nat}
theorem mg_C (hA : F 1 = nI A) (h1 : A ≤ 168) (hT : RT g M) (hD : RD np A c g M) (ht : t < 20) (hw : g 3 t = w) (hf6 : fw 6 = nI (t + 1)) (h28 : F 28 = 0) : ∃ a' : TV × (Nat → Int32) × (Nat → Int32), ((∀ s, s < 5 → s < np → lfold (wsetF fw g t) c 0 (g 9) s = a'.2.2 (A + 43 + s)) ∧ (∀ k, ¬ (A + 43 ≤ k ∧ k < A + 48) → a'.2.2 k = M 0 k) ∧ (∀ k, k ≠ 28 → a'.2.1 k = F k) ∧ (∀ j, j < c → g 12 j = nI t → g 13 j = w → a'.2.1 28 = g 11 j + 1) ∧ ((∀ j, j < c → ¬ (g 12 j = nI t ∧ g 13 j = w)) → a'.2.1 28 = 0)) ∧ ∀ (z : TH × (Option TV → TH → Prop)), tA sc iX11_morningGoes 89 [vR (some m), vI (nI t), vI w, vI (nI 0), vU] [] (hM z.1 m F e (va_up M 0 (M 0)) u) z.2 = tA sc iX11_morningGoes 89 [vR (some m), vI (nI t), vI w, vI (nI c), a'.1] [] (hM z.1 m a'.2.1 e (va_up M 0 a'.2.2) u) z.2 := by
  obtain ⟨d1, d2, d3, d4, d5, d6, d7, d8, d9⟩ := hD
  refine loopR (fun (z : TH × (Option TV → TH → Prop)) i (a : TV × (Nat → Int32) × (Nat → Int32)) => tA sc iX11_morningGoes 89 [vR (some m), vI (nI t), vI w, vI (nI i), a.1] [] (hM z.1 m a.2.1 e (va_up M 0 a.2.2) u) z.2) c (fun i a => (∀ s, s < 5 → s < np → lfold (wsetF fw g t) i 0 (g 9) s = a.2.2 (A + 43 + s)) ∧ (∀ k, ¬ (A + 43 ≤ k ∧ k < A + 48) → a.2.2 k = M 0 k) ∧ (∀ k, k ≠ 28 → a.2.1 k = F k) ∧ (∀ j, j < i → g 12 j = nI t → g 13 j = w → a.2.1 28 = g 11 j + 1) ∧ ((∀ j, j < i → ¬ (g 12 j = nI t ∧ g 13 j = w)) → a.2.1 28 = 0)) ?_ c 0 (vU, F, M 0) (by omega) ⟨d5, fun _ _ => rfl, fun _ _ => rfl, fun j hj => by omega, fun _ => h28⟩
  rintro i ⟨l4, F', r⟩ hi ⟨i1, i2, i3, i4, i5⟩
  dsimp only at i1 i2 i3 i4 i5
  have hA' : F' 1 = nI A := by rw [i3 1 (by decide)]; exact hA
  obtain ⟨s0, s1, s2⟩ := d6 i hi
  obtain ⟨⟨dd, hdd, ed⟩, ⟨pp, hpp, ep⟩, ⟨ww, hww, ew⟩⟩ := d7 i hi
  have e2 : ∀ (h : TH) (K : Option TV → TH → Prop), tA sc iX11_its 0 [vR (some m), vI 2] [] (hM h m F' e (va_up M 0 r) u) K = K (some (vI (nI c))) (hM h m F' e (va_up M 0 r) u) := by
    intro h K
    rw [sX11_its2 hA' h1, uE, i2 _ (by omega), d2]
  have y0 : ∀ (h : TH) (K : Option TV → TH → Prop), tA sc iX11_saying 0 [vR (some m), vI (nI i), vI 0] [] (hM h m F' e (va_up M 0 r) u) K = K (some (vI (nI pp))) (hM h m F' e (va_up M 0 r) u) := by
    intro h K
    rw [show (0 : Int32) = nI 0 from rfl, sX11_saying hA' h1 (by omega) (by decide), uE, i2 _ (by omega), Nat.add_zero, ← s0, ep]
  have y1 : ∀ (h : TH) (K : Option TV → TH → Prop), tA sc iX11_saying 0 [vR (some m), vI (nI i), vI 1] [] (hM h m F' e (va_up M 0 r) u) K = K (some (vI (g 12 i))) (hM h m F' e (va_up M 0 r) u) := by
    intro h K
    rw [show (1 : Int32) = nI 1 from rfl, sX11_saying hA' h1 (by omega) (by decide), uE, i2 _ (by omega), ← s1]
  have y2 : ∀ (F' : Nat → Int32) (r : Nat → Int32), F' 1 = nI A → (∀ k, ¬ (A + 43 ≤ k ∧ k < A + 48) → r k = M 0 k) → ∀ (h : TH) (K : Option TV → TH → Prop), tA sc iX11_saying 0 [vR (some m), vI (nI i), vI 2] [] (hM h m F' e (va_up M 0 r) u) K = K (some (vI (g 13 i))) (hM h m F' e (va_up M 0 r) u) := by
    intro F' r hA' i2 h K
    rw [show (2 : Int32) = nI 2 from rfl, sX11_saying hA' h1 (by omega) (by decide), uE, i2 _ (by omega), ← s2]
  have eF : lfold (wsetF fw g t) (i + 1) 0 (g 9) = wsetF fw g t i (lfold (wsetF fw g t) i 0 (g 9)) := by rw [lfold_succ, Nat.zero_add]
  have hng : ∀ (z : TH × (Option TV → TH → Prop)), tA sc iX11_morningGoes 89 [vR (some m), vI (nI t), vI w, vI (nI i), l4] [] (hM z.1 m F' e (va_up M 0 r) u) z.2 = tA sc iX11_morningGoes 101 [vR (some m), vI (nI t), vI w, vI (nI i), l4] [vI 1, vI (nI i), vR (some m)] (hM z.1 m F' e (va_up M 0 r) u) z.2 := by
    intro z
    rw [rX11_morningGoes_89]
    simp (disch := first | omega | exact hM_cl) only [rX11_morningGoes_90, rX11_morningGoes_91, rX11_morningGoes_92, rX11_morningGoes_95, rX11_morningGoes_98, rX11_morningGoes_99, rX11_morningGoes_100, e2, tpu_some, nIle_f, if_false]
  by_cases q1 : g 12 i = nI t
  · have ru : ∀ v, ∀ k, ¬ (A + 43 ≤ k ∧ k < A + 48) → upd r (A + 43 + pp) v k = M 0 k := by
      intro v k hk
      rw [pN (by omega)]
      exact i2 k hk
    have hwr : wright fw g i = if w = g 13 i then 1 else 0 := by
      unfold wright
      rw [hf6, q1, if_neg (nI_ge (by omega) (by omega)), nI_clamp (by omega), hw]
    have pu : ∀ v v', (wright fw g i = 0 → v = - g 5 1) → (¬ wright fw g i = 0 → v = g 0 t * g 5 0 / 100) → v' = r (A + 43 + pp) + v → ∀ s, s < 5 → s < np → wsetF fw g t i (lfold (wsetF fw g t) i 0 (g 9)) s = upd r (A + 43 + pp) v' (A + 43 + s) := by
      intro v v' hv0 hv1 hv' s hs hsn
      unfold wsetF
      rw [if_pos q1, ep, nI_clamp (by omega)]
      have hvv : (if wright fw g i = 0 then - g 5 1 else g 0 t * g 5 0 / 100) = v := by
        by_cases z : wright fw g i = 0
        · rw [if_pos z, hv0 z]
        · rw [if_neg z, hv1 z]
      rw [hvv]
      by_cases q : s = pp
      · subst q
        rw [pE, pE, hv', ← i1 s hs hsn]
        rfl
      · rw [pN q, pN (by omega)]
        exact i1 s hs hsn
    by_cases q2 : g 13 i = w
    · refine ⟨(vI (nI pp), upd F' 28 (nI (pp + 1)), upd r (A + 43 + pp) (r (A + 43 + pp) + g 0 t * g 5 0 / 100)), ⟨?_, ru _, ?_, ?_, ?_⟩, ?_⟩
      · rw [eF]
        exact pu _ _ (fun z => by rw [hwr, if_pos q2.symm] at z; exact absurd z (by decide)) (fun _ => rfl) rfl
      · intro k hk
        show upd F' 28 _ k = F k
        rw [pN hk]; exact i3 k hk
      · intro j hj k1 k2
        show nI (pp + 1) = g 11 j + 1
        by_cases q : j = i
        · rw [q, ep, nI_1]
        · exact absurd ⟨k1.trans q1.symm, k2.trans q2.symm⟩ (d9 j i (by omega) hi)
      · intro hall
        exact absurd ⟨q1, q2⟩ (hall i (by omega))
      · intro z
        have eE := fun (K : Option TV → TH → Prop) => sX11_earn (sc := sc) (h := z.1) (m := m) (f := F') (e := e) (g := va_up M 0 r) (u := u) (K := K) ht
        have eM : va_up M 0 r 2 t * va_up M 0 r 6 0 / 100 = g 0 t * g 5 0 / 100 := by
          show M 2 t * M 6 0 / 100 = _
          rw [(hT.1 t ht).1, hT.2.2.1 0 (by decide)]
        rw [eM] at eE
        refine (hng z).trans ?_
        dsimp only
        simp (disch := first | omega | exact hM_cl) only [rX11_morningGoes_101, rX11_morningGoes_104, rX11_morningGoes_105, rX11_morningGoes_108, rX11_morningGoes_109, rX11_morningGoes_110, rX11_morningGoes_111, rX11_morningGoes_114, rX11_morningGoes_116, rX11_morningGoes_117, rX11_morningGoes_120, rX11_morningGoes_121, rX11_morningGoes_124, rX11_morningGoes_126, rX11_morningGoes_127, rX11_morningGoes_129, rX11_morningGoes_130, rX11_morningGoes_131, rX11_morningGoes_132, rX11_morningGoes_133, rX11_morningGoes_134, rX11_morningGoes_135, rX11_morningGoes_138, rX11_morningGoes_139, rX11_morningGoes_142, rX11_morningGoes_143, rX11_morningGoes_144, rX11_morningGoes_147, rX11_morningGoes_158, rX11_morningGoes_159, y0, y1, y2 F' r hA' i2, eE, hA', hM_g0, hM_g1, hM_r0, hM_w0, oz_some, tpu_some, tclr_I, q1, q2, not_true_eq_false, if_false, nA43, nI_add, uU, uE]
        have y2' := y2 F' (upd r (A + 43 + pp) (r (A + 43 + pp) + g 0 t * g 5 0 / 100)) hA' (ru _)
        simp (disch := first | omega | exact hM_cl) only [rX11_morningGoes_160, rX11_morningGoes_161, rX11_morningGoes_162, rX11_morningGoes_163, rX11_morningGoes_164, rX11_morningGoes_167, rX11_morningGoes_168, rX11_morningGoes_171, rX11_morningGoes_173, rX11_morningGoes_174, rX11_morningGoes_175, rX11_morningGoes_182, rX11_morningGoes_185, rX11_morningGoes_188, y2', hM_p28, oz_some, tpu_some, tclr_I, q2, not_true_eq_false, if_false, nI_1]
    · refine ⟨(vI (nI pp), F', upd r (A + 43 + pp) (r (A + 43 + pp) + (0 - g 5 1))), ⟨?_, ru _, i3, ?_, ?_⟩, ?_⟩
      · rw [eF]
        exact pu _ _ (fun _ => by rw [Int32.zero_sub]) (fun z => absurd (by rw [hwr, if_neg (fun y => q2 y.symm)]) z) rfl
      · intro j hj k1 k2
        by_cases q : j = i
        · rw [q] at k2; exact absurd k2 q2
        · exact i4 j (by omega) k1 k2
      · intro hall
        exact i5 (fun j hj => hall j (by omega))
      · intro z
        have eM : va_up M 0 r 6 1 = g 5 1 := (hT.2.2.1 1 (by decide)).symm
        refine (hng z).trans ?_
        dsimp only
        simp (disch := first | omega | exact hM_cl) only [rX11_morningGoes_101, rX11_morningGoes_104, rX11_morningGoes_105, rX11_morningGoes_108, rX11_morningGoes_109, rX11_morningGoes_110, rX11_morningGoes_111, rX11_morningGoes_114, rX11_morningGoes_116, rX11_morningGoes_117, rX11_morningGoes_120, rX11_morningGoes_121, rX11_morningGoes_124, rX11_morningGoes_126, rX11_morningGoes_127, rX11_morningGoes_129, rX11_morningGoes_130, rX11_morningGoes_131, rX11_morningGoes_132, rX11_morningGoes_133, rX11_morningGoes_134, rX11_morningGoes_135, rX11_morningGoes_138, rX11_morningGoes_139, rX11_morningGoes_150, rX11_morningGoes_151, rX11_morningGoes_152, rX11_morningGoes_155, rX11_morningGoes_156, rX11_morningGoes_157, rX11_morningGoes_158, rX11_morningGoes_159, y0, y1, y2 F' r hA' i2, hA', hM_g0, hM_g1, hM_g6, hM_r0, hM_w0, hM_r6_1, oz_some, tpu_some, tclr_I, q1, q2, not_true_eq_false, not_false_eq_true, if_false, if_true, nA43, nI_add, uU, uE, eM]
        have y2' := y2 F' (upd r (A + 43 + pp) (r (A + 43 + pp) + (0 - g 5 1))) hA' (ru _)
        simp (disch := first | omega | exact hM_cl) only [rX11_morningGoes_160, rX11_morningGoes_161, rX11_morningGoes_162, rX11_morningGoes_163, rX11_morningGoes_164, rX11_morningGoes_167, rX11_morningGoes_168, rX11_morningGoes_178, rX11_morningGoes_179, rX11_morningGoes_182, rX11_morningGoes_185, rX11_morningGoes_188, y2', hM_g28, hM_p28, oz_some, tpu_some, tclr_I, q2, not_false_eq_true, if_true, nI_1, updS]
  · refine ⟨(l4, F', r), ⟨?_, i2, i3, ?_, ?_⟩, ?_⟩
    · intro s hs
      rw [eF]
      unfold wsetF
      rw [if_neg q1]
      exact i1 s hs
    · intro j hj k1 k2
      by_cases q : j = i
      · rw [q] at k1; exact absurd k1 q1
      · exact i4 j (by omega) k1 k2
    · intro hall
      exact i5 (fun j hj => hall j (by omega))
    · intro z
      refine (hng z).trans ?_
      dsimp only
      simp (disch := first | omega | exact hM_cl) only [rX11_morningGoes_101, rX11_morningGoes_104, rX11_morningGoes_105, rX11_morningGoes_185, rX11_morningGoes_188, y1, tpu_some, tclr_I, q1, not_false_eq_true, if_true, nI_1]
/-- NOW goes on; a sign ahead -/
def mahead (M : Nat → Nat → Int32) (g : Nat → Nat → Int32) (A t : Nat) : Nat → Int32 :=
  if t + 4 < 20 then (if 0 ≤ g 2 (t + 4) then upd (M 0) A (nI (t + 1)) else upd (upd (upd (M 0) A (nI (t + 1))) (A + 1) (mdz M A)) (A + 3 + (t + 4)) (wdrawn g (t + 4) (mdz M A))) else upd (M 0) A (nI (t + 1))
theorem mg_D {l4 : TV} (hA : F 1 = nI A) (h1 : A ≤ 168) (hT : RT g M) (hD : RD np A c g M) (ht : t < 20) (hMt : M 0 A = nI t) (K : Option TV → TH → Prop) : tA sc iX11_morningGoes 89 [vR (some m), vI (nI t), vI w, vI (nI c), l4] [] (hM h m F e M u) K = K none (hM h m F e (va_up M 0 (mahead M g A t)) u) := by
  have e2 : ∀ (K : Option TV → TH → Prop), tA sc iX11_its 0 [vR (some m), vI 2] [] (hM h m F e M u) K = K (some (vI (nI c))) (hM h m F e M u) := by
    intro K
    rw [sX11_its2 hA h1, hD.2.1]
  have e0 : ∀ (K : Option TV → TH → Prop), tA sc iX11_its 0 [vR (some m), vI 0] [] (hM h m F e (va_up M 0 (upd (M 0) A (nI (t + 1)))) u) K = K (some (vI (nI (t + 1)))) (hM h m F e (va_up M 0 (upd (M 0) A (nI (t + 1)))) u) := by
    intro K
    rw [sX11_its0 hA h1, uE, pE]
  have c4 := hD.1
  rw [rX11_morningGoes_89]
  simp (disch := first | omega | exact hM_cl) only [rX11_morningGoes_90, rX11_morningGoes_91, rX11_morningGoes_92, rX11_morningGoes_95, rX11_morningGoes_191, rX11_morningGoes_192, rX11_morningGoes_195, rX11_morningGoes_196, rX11_morningGoes_199, rX11_morningGoes_200, rX11_morningGoes_201, rX11_morningGoes_202, rX11_morningGoes_203, rX11_morningGoes_204, rX11_morningGoes_205, rX11_morningGoes_206, rX11_morningGoes_207, rX11_morningGoes_208, rX11_morningGoes_211, rX11_morningGoes_212, rX11_morningGoes_213, rX11_morningGoes_214, rX11_morningGoes_215, e2, e0, hA, hMt, hM_g0, hM_g1, hM_r0, hM_w0, oz_some, tpu_some, tclr_I, tclr_R, nIle_t, if_true, Int32.add_zero, nI_1, nI_a3]
  unfold mahead
  by_cases q : t + 4 < 20
  · have n20 : ((20 : Int32) ≤ nI (t + 1 + 3)) = False := nIle_f (a := 20) (by omega) (by decide)
    have e3 : ∀ (K : Option TV → TH → Prop), tA sc iX11_its 0 [vR (some m), vI (nI (3 + (t + 1 + 3)))] [] (hM h m F e (va_up M 0 (upd (M 0) A (nI (t + 1)))) u) K = K (some (vI (g 2 (t + 4)))) (hM h m F e (va_up M 0 (upd (M 0) A (nI (t + 1)))) u) := by
      intro K
      rw [sX11_its hA h1 (by omega), uE, pN (by omega), (hD.2.2.1 (t + 4) q).1, show t + 1 + 3 = t + 4 by omega]
    rw [if_pos q]
    simp (disch := first | omega | exact hM_cl) only [rX11_morningGoes_217, rX11_morningGoes_220, rX11_morningGoes_221, rX11_morningGoes_222, rX11_morningGoes_223, rX11_morningGoes_225, rX11_morningGoes_228, rX11_morningGoes_229, rX11_morningGoes_233, rX11_morningGoes_234, rX11_morningGoes_237, e3, n20, if_false, tpu_some, nB3]
    by_cases q2 : 0 ≤ g 2 (t + 4)
    · simp only [if_pos q2, rX11_morningGoes_259]
    · have hD1 : RD np A c g (va_up M 0 (upd (M 0) A (nI (t + 1)))) := RD_gen hD (fun _ _ _ _ => rfl) (fun d hd => by rw [pN (by omega)]; exact hD.2.2.1 d hd) (fun d hd => by rw [pN (by omega)]; exact hD.2.2.2.1 d hd) (fun s hs => by rw [pN (by omega)]; exact hD.2.2.2.2.1 s hs) (by rw [pN (by omega)]) (fun k k1 k2 => by rw [pN (by omega)])
      have hz : mdz (va_up M 0 (upd (M 0) A (nI (t + 1)))) A = mdz M A := by
        unfold mdz
        rw [uE, pN (by omega)]
      obtain ⟨p1, p2, p3⟩ := e_drawnP (RT_row (r := upd (M 0) A (nI (t + 1))) hT) hD1 q (Int32.not_le.mp q2) (mdz M A)
      have e4 := fun (K : Option TV → TH → Prop) => sX11_drawn1 (sc := sc) (h := h) (m := m) (f := F) (e := e) (g := va_up M 0 (upd (M 0) A (nI (t + 1)))) (u := u) (K := K) hA h1 q p1 (by rw [hz]; exact p2)
      rw [hz, p3] at e4
      simp only [show t + 1 + 3 = t + 4 by omega]
      simp (disch := first | omega | exact hM_cl) only [if_neg q2, rX11_morningGoes_240, rX11_morningGoes_241, rX11_morningGoes_244, rX11_morningGoes_245, rX11_morningGoes_248, rX11_morningGoes_249, rX11_morningGoes_250, rX11_morningGoes_251, rX11_morningGoes_252, rX11_morningGoes_253, rX11_morningGoes_254, rX11_morningGoes_255, rX11_morningGoes_258, rX11_morningGoes_259, e4, hA, hM_g0, hM_g1, hM_w0, oz_some, tpu_some, nI_a3, nI_add]
      unfold mdzG
      rw [hz, uU, uE, uU, uE]
  · have n20 : ((20 : Int32) ≤ nI (t + 1 + 3)) = True := nIle_t (a := 20) (by omega) (by omega)
    rw [if_neg q]
    simp (disch := first | omega | exact hM_cl) only [rX11_morningGoes_217, n20, if_true, rX11_morningGoes_259]
end S82
