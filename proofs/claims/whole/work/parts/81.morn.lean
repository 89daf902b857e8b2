/-! A MORNING of the Model, held against the World's -/
theorem nA23 (n : Nat) : nI n + 23 = nI (n + 23) := by rw [show (23 : Int32) = nI 23 from rfl, nI_add]
/-- a row is as it was, but for what is said and done -/
def frS (A : Nat) (r r' : Nat → Int32) : Prop := ∀ k, (k < A + 2 ∨ A + 168 ≤ k) → r' k = r k
section S81
variable {sc : Nat × (Nat → Int32)} {h : TH} {m np A c d k t s a kd j i n n5 D B : Nat} {g M : Nat → Nat → Int32} {f fw r F : Nat → Int32} {e : Nat → Int64} {u : Nat → Nat → Int64} {x x1 x2 p z : Int32} {Skd Sa : Nat → Nat}
theorem sX11_sayLoop {l4 : TV} (hA : F 1 = nI A) (h1 : A ≤ 168) (hT : RT g M) (hD : RD np A c g M) (hs : s < 5) (hd : D < 20) (hB : B + n ≤ 4) (hc : c + n ≤ 40) (hF : 0 < n → F 25 = nI D ∧ F 26 = nI B) (hno : ∀ j, B ≤ j → j < B + n → ¬ wsaid g D (nI j) = 1) : ∃ r', (RD np A (c + n) (lfold (wspkF s D) n B (c, g)).2 (va_up M 0 r') ∧ (lfold (wspkF s D) n B (c, g)).1 = c + n ∧ RT (lfold (wspkF s D) n B (c, g)).2 M ∧ (∀ j, B + n ≤ j → j < B + n → ¬ wsaid (lfold (wspkF s D) n B (c, g)).2 D (nI j) = 1) ∧ frS A (M 0) r') ∧ ∀ (z : TH × (Option TV → TH → Prop)), tA sc iX11_morningGoes 22 [vR (some m), vI (nI s), vI (nI n), vI (nI 0), l4] [] (hM z.1 m F e (va_up M 0 (M 0)) u) z.2 = tA sc iX11_morningGoes 22 [vR (some m), vI (nI s), vI (nI n), vI (nI n), l4] [] (hM z.1 m F e (va_up M 0 r') u) z.2 := by
  refine loopR (fun (z : TH × (Option TV → TH → Prop)) k (r : Nat → Int32) => tA sc iX11_morningGoes 22 [vR (some m), vI (nI s), vI (nI n), vI (nI k), l4] [] (hM z.1 m F e (va_up M 0 r) u) z.2) n (fun k r => RD np A (c + k) (lfold (wspkF s D) k B (c, g)).2 (va_up M 0 r) ∧ (lfold (wspkF s D) k B (c, g)).1 = c + k ∧ RT (lfold (wspkF s D) k B (c, g)).2 M ∧ (∀ j, B + k ≤ j → j < B + n → ¬ wsaid (lfold (wspkF s D) k B (c, g)).2 D (nI j) = 1) ∧ frS A (M 0) r) ?_ n 0 (M 0) (by omega) ⟨by rw [uS]; exact hD, rfl, hT, hno, fun _ _ => rfl⟩
  rintro k r hk ⟨i1, i2, i3, i4, i5⟩
  obtain ⟨F25, F26⟩ := hF (by omega)
  rw [lfold_succ]
  generalize lfold (wspkF s D) k B (c, g) = q at i1 i2 i3 i4 ⊢
  obtain ⟨cc, gg⟩ := q
  dsimp only at i1 i2 i3 i4
  subst i2
  have hn := i4 (B + k) (by omega) (by omega)
  have R1 := RD_say (s := s) i1 (by omega) hd (by omega) hs hn (i3.2.2.1 2 (by decide))
  rw [uU] at R1
  refine ⟨msayR (va_up M 0 r 0) A (c + k) s (nI D) (nI (B + k)) (va_up M 0 r 6 2), ⟨R1, rfl, RT_sell i3, ?_, ?_⟩, ?_⟩
  · intro j h2 h3
    exact said_other i1 R1 hd (by omega) (by omega) (by omega) (i4 j (by omega) h3)
  · intro q hq
    rw [msayR_ne (by omega) (by omega) (by omega) (by omega) (by omega)]
    exact i5 q hq
  · intro z
    have eS := fun (x1 x2 : Int32) (K : Option TV → TH → Prop) => sX11_says (sc := sc) (h := z.1) (m := m) (f := F) (e := e) (g := va_up M 0 r) (u := u) (K := K) (x1 := x1) (x2 := x2) hA h1 i1.2.1 (show c + k < 40 by omega) hs
    rw [rX11_morningGoes_22]
    simp (disch := first | omega | exact hM_cl) only [rX11_morningGoes_23, rX11_morningGoes_24, rX11_morningGoes_27, rX11_morningGoes_28, rX11_morningGoes_29, rX11_morningGoes_30, rX11_morningGoes_33, rX11_morningGoes_34, rX11_morningGoes_37, rX11_morningGoes_38, rX11_morningGoes_39, rX11_morningGoes_42, rX11_morningGoes_45, eS, hM_g25, hM_g26, oz_some, tpu_none, tclr_I, nIle_f, if_false, F25, F26, nI_add, nI_1, uU]
theorem mfs_ex (h25 : k ≠ 25) (h26 : k ≠ 26) (h27 : k ≠ 27) : mfs f M A c t kd a k = f k := by
  have m : ∀ x y, mones (upd f 27 0) M A c x y k = f k := by
    intro x y
    unfold mones
    rw [pN h27, pN h26, pN h25, pN h27]
  have u : upd f 27 0 k = f k := pN h27
  unfold mfs
  split
  · exact u
  · split
    · exact u
    · split
      · exact u
      · exact m _ _
    · exact m _ _
    · split
      · exact u
      · exact m _ _
    · split
      · exact u
      · rw [pN h27]; exact m _ _
    · exact m _ _
theorem sX11_spkLoop (hA : F 1 = nI A) (h1 : A ≤ 168) (hF4 : F 4 = nI n5) (h5 : n5 ≤ 5) (hT : RT g M) (hD : RD np A c g M) (ht : t < 20) (hMt : M 0 A = nI t) (hS : ∀ i, i < n5 → Skd i < 6 ∧ Sa i < 10 ∧ M 5 (2 * i) = nI (Skd i) ∧ M 5 (2 * i + 1) = nI (Sa i)) : ∃ a' : TV × TV × (Nat → Int32) × (Nat → Int32), (RD np A (wspks t Skd Sa n5 0 (c, g)).1 (wspks t Skd Sa n5 0 (c, g)).2 (va_up M 0 a'.2.2.2) ∧ RT (wspks t Skd Sa n5 0 (c, g)).2 M ∧ (∀ k, k ≠ 25 → k ≠ 26 → k ≠ 27 → a'.2.2.1 k = F k) ∧ frS A (M 0) a'.2.2.2) ∧ ∀ (z : TH × (Option TV → TH → Prop)), tA sc iX11_morningGoes 2 [vR (some m), vI (nI 0), vU, vU, vU] [] (hM z.1 m F e (va_up M 0 (M 0)) u) z.2 = tA sc iX11_morningGoes 2 [vR (some m), vI (nI n5), a'.1, a'.2.1, vU] [] (hM z.1 m a'.2.2.1 e (va_up M 0 a'.2.2.2) u) z.2 := by
  refine loopR (fun (z : TH × (Option TV → TH → Prop)) i (a : TV × TV × (Nat → Int32) × (Nat → Int32)) => tA sc iX11_morningGoes 2 [vR (some m), vI (nI i), a.1, a.2.1, vU] [] (hM z.1 m a.2.2.1 e (va_up M 0 a.2.2.2) u) z.2) n5 (fun i a => RD np A (wspks t Skd Sa i 0 (c, g)).1 (wspks t Skd Sa i 0 (c, g)).2 (va_up M 0 a.2.2.2) ∧ RT (wspks t Skd Sa i 0 (c, g)).2 M ∧ (∀ k, k ≠ 25 → k ≠ 26 → k ≠ 27 → a.2.2.1 k = F k) ∧ frS A (M 0) a.2.2.2) ?_ n5 0 (vU, vU, F, M 0) (by omega) ⟨by rw [uS]; exact hD, hT, fun _ _ _ _ => rfl, fun _ _ => rfl⟩
  rintro i ⟨a1, a2, F', r⟩ hi ⟨i1, i2, i3, i4⟩
  dsimp only at i1 i2 i3 i4
  have eQ : wspks t Skd Sa (i + 1) 0 (c, g) = wspk t (Skd i) i (Sa i) (wspks t Skd Sa i 0 (c, g)) := by
    unfold wspks
    rw [lfold_succ, Nat.zero_add]
  rw [eQ]
  generalize wspks t Skd Sa i 0 (c, g) = q at i1 i2 ⊢
  obtain ⟨cc, gg⟩ := q
  dsimp only at i1 i2
  obtain ⟨k6, a10, hk, ha⟩ := hS i hi
  have hA' : F' 1 = nI A := by rw [i3 1 (by decide) (by decide) (by decide)]; exact hA
  have h4' : F' 4 = nI n5 := by rw [i3 4 (by decide) (by decide) (by decide)]; exact hF4
  have hMt' : va_up M 0 r 0 A = nI t := by rw [uE, i4 A (by omega)]; exact hMt
  obtain ⟨n', D, B, hDd, hB, hcn, e1, e27, e25, hno⟩ := e_spk (f := F') (nu := i) (RT_row (r := r) i2) i1 ht k6 a10
  obtain ⟨r', ⟨j1, j2, j3, -, j5⟩, eL⟩ := sX11_sayLoop (sc := sc) (m := m) (e := e) (u := u) (F := mfs F' (va_up M 0 r) A cc t (Skd i) (Sa i)) (l4 := vU) (s := i) (by rw [mfs_ex (by decide) (by decide) (by decide)]; exact hA') h1 (RT_row (r := r) i2) i1 (by omega) hDd hB hcn e25 hno
  rw [uU] at j1
  simp only [uE, uU] at eL
  refine ⟨(vI (nI n'), vI (nI n'), mfs F' (va_up M 0 r) A cc t (Skd i) (Sa i), r'), ⟨?_, ?_, ?_, ?_⟩, ?_⟩
  · rw [e1, j2]; exact j1
  · rw [e1]; exact j3
  · intro k q1 q2 q3
    show mfs F' (va_up M 0 r) A cc t (Skd i) (Sa i) k = F k
    rw [mfs_ex q1 q2 q3]
    exact i3 k q1 q2 q3
  · intro k hk
    show r' k = M 0 k
    rw [j5 k hk]
    exact i4 k hk
  · intro z
    have eF := fun (K : Option TV → TH → Prop) => sX11_findSaying (sc := sc) (h := z.1) (m := m) (f := F') (e := e) (g := va_up M 0 r) (u := u) (s := i) (K := K) hA' h1 i1.2.1 i1.1 hMt' (show t ≤ 20 by omega) (show i < 5 by omega) k6 hk ha a10
    have eL := eL z
    dsimp only
    rw [rX11_morningGoes_2]
    simp (disch := first | omega | exact hM_cl) only [rX11_morningGoes_3, rX11_morningGoes_4, rX11_morningGoes_7, rX11_morningGoes_10, rX11_morningGoes_11, rX11_morningGoes_12, rX11_morningGoes_15, rX11_morningGoes_16, rX11_morningGoes_19, rX11_morningGoes_20, rX11_morningGoes_21, eF, hM_g4, hM_g27, oz_some, tpu_none, tclr_I, tclr_R, tclr_U, nIle_f, if_false, h4', e27]
    refine eL.trans ?_
    rw [rX11_morningGoes_22]
    simp (disch := first | omega | exact hM_cl) only [rX11_morningGoes_23, rX11_morningGoes_24, rX11_morningGoes_48, rX11_morningGoes_51, nIle_t, if_true, tclr_I, tclr_R, nI_1]
theorem RD_gen {G : Nat → Nat → Int32} (hD : RD np A c g M) (hG : ∀ k, k ≠ 2 → k ≠ 3 → k ≠ 9 → G k = g k) (h2 : ∀ d, d < 20 → G 2 d = r (A + (3 + d)) ∧ (G 2 d = -1 ∨ inR (G 2 d) 4)) (h3 : ∀ d, d < 20 → G 3 d = r (A + 23 + d)) (h9 : ∀ s, s < 5 → s < np → G 9 s = r (A + 43 + s)) (hr : r (A + 2) = M 0 (A + 2)) (hs : ∀ k, A + 48 ≤ k → k < A + 168 → r k = M 0 k) : RD np A c G (va_up M 0 r) := by
  obtain ⟨d1, d2, d3, d4, d5, d6, d7, d8, d9⟩ := hD
  have hm : ∀ x, msd (va_up M 0 r) A c x = msd M A c x := by
    intro x
    unfold msd
    apply lfold_cong
    intro j b q1 q2
    unfold msdF
    rw [uE, hs _ (by omega) (by omega), hs _ (by omega) (by omega)]
  refine ⟨d1, by rw [uE, hr]; exact d2, fun d hd => by rw [uE]; exact h2 d hd, fun d hd => by rw [uE]; exact h3 d hd, fun s hs5 => by rw [uE]; exact h9 s hs5, ?_, ?_, ?_, ?_⟩
  · intro i hi
    rw [uE, hG 11 (by decide) (by decide) (by decide), hG 12 (by decide) (by decide) (by decide), hG 13 (by decide) (by decide) (by decide), hs _ (by omega) (by omega), hs _ (by omega) (by omega), hs _ (by omega) (by omega)]
    exact d6 i hi
  · rw [hG 11 (by decide) (by decide) (by decide), hG 12 (by decide) (by decide) (by decide), hG 13 (by decide) (by decide) (by decide)]
    exact d7
  · intro d hd
    rw [hm, hG 4 (by decide) (by decide) (by decide)]
    exact d8 d hd
  · rw [hG 12 (by decide) (by decide) (by decide), hG 13 (by decide) (by decide) (by decide)]
    exact d9
/-- the day comes -/
theorem mg_B {l2 l3 : TV} {w : Int32} (hA : F 1 = nI A) (h1 : A ≤ 168) (hT : RT g M) (hD : RD np A c g M) (ht : t < 20) (hMt : M 0 A = nI t) (hw : wdrawn g t (mdz M A) = w) (hF4 : F 4 = nI n5) (h5 : n5 ≤ 5) (K : Option TV → TH → Prop) : tA sc iX11_morningGoes 2 [vR (some m), vI (nI n5), l2, l3, vU] [] (hM h m F e M u) K = tA sc iX11_morningGoes 89 [vR (some m), vI (nI t), vI w, vI (nI 0), vU] [] (hM h m (upd F 28 0) e (va_up M 0 (upd (upd (M 0) (A + 1) (mdz M A)) (A + 23 + t) w)) u) K := by
  obtain ⟨p1, p2, p3⟩ := e_drawn hT hD ht (mdz M A)
  have e0 := fun (K : Option TV → TH → Prop) => sX11_its0 (sc := sc) (h := h) (m := m) (f := F) (e := e) (g := M) (u := u) (K := K) hA h1
  have e1 := fun (K : Option TV → TH → Prop) => sX11_drawn0 (sc := sc) (h := h) (m := m) (f := F) (e := e) (g := M) (u := u) (K := K) hA h1 ht p1 p2
  rw [p3, hw] at e1
  rw [rX11_morningGoes_2]
  simp (disch := first | omega | exact hM_cl) only [rX11_morningGoes_3, rX11_morningGoes_4, rX11_morningGoes_7, rX11_morningGoes_54, rX11_morningGoes_55, rX11_morningGoes_56, rX11_morningGoes_59, rX11_morningGoes_60, rX11_morningGoes_61, rX11_morningGoes_62, rX11_morningGoes_63, rX11_morningGoes_66, rX11_morningGoes_67, rX11_morningGoes_68, rX11_morningGoes_71, rX11_morningGoes_72, rX11_morningGoes_75, rX11_morningGoes_77, rX11_morningGoes_78, rX11_morningGoes_79, rX11_morningGoes_80, rX11_morningGoes_81, rX11_morningGoes_82, rX11_morningGoes_83, rX11_morningGoes_84, rX11_morningGoes_87, rX11_morningGoes_88, e0, e1, hMt, hA, hF4, hM_g0, hM_g1, hM_g4, hM_w0, hM_p28, oz_some, tpu_some, tclr_I, tclr_R, tclr_U, nIle_t, if_true, nA23, nI_add]
  unfold mdzG
  rw [uU, uE]
  rfl
end S81
