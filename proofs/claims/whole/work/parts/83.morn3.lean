/-! A MORNING on both sides -/
section S83
variable {sc : Nat × (Nat → Int32)} {h : TH} {m np A c d k t s a kd j i n n5 D B : Nat} {g M : Nat → Nat → Int32} {f fw r F : Nat → Int32} {e : Nat → Int64} {u : Nat → Nat → Int64} {x x1 x2 p z w : Int32} {Skd Sa : Nat → Nat}
theorem own_eq {X : Int32} (h6 : f 6 = nI (t + 1)) (ht : t < 20) (hw : g 3 t = w) (hy : ∀ j, j < c → g 12 j = nI t → g 13 j = w → X = g 11 j + 1) (hn : (∀ j, j < c → ¬ (g 12 j = nI t ∧ g 13 j = w)) → X = 0) : X = wowner f g (nI t) c + 1 := by
  have hwr : ∀ i, g 12 i = nI t → (¬ wright f g i = 0 ↔ g 13 i = w) := by
    intro i q1
    unfold wright
    rw [h6, q1, if_neg (nI_ge (by omega) (by omega)), nI_clamp (by omega), hw]
    by_cases q : w = g 13 i
    · rw [if_pos q]; exact ⟨fun _ => q.symm, fun _ => by decide⟩
    · rw [if_neg q]; exact ⟨fun z => absurd rfl z, fun z => absurd z.symm q⟩
  unfold wowner
  split
  · rename_i i hi
    obtain ⟨l1, l2, l3⟩ := lfind_some _ _ _ hi
    obtain ⟨q1, q2⟩ := of_decide_eq_true l1
    exact hy i (by omega) q1 ((hwr i q1).mp q2)
  · rename_i hi
    rw [hn (fun j hj z => of_decide_eq_false (lfind_none _ _ hi j (by omega) (by omega)) ⟨z.1, (hwr j z.1).mpr z.2⟩)]
    decide
theorem morn (sc : Nat × (Nat → Int32)) (m : Nat) (e : Nat → Int64) (u : Nat → Nat → Int64) (hA : F 1 = nI A) (h1 : A ≤ 168) (hF4 : F 4 = nI n5) (h5 : n5 ≤ 5) (hT : RT g M) (hD : RD np A c g M) (h6 : fw 6 = nI t) (ht : t < 20) (hMt : M 0 A = nI t) (h7 : fw 7 = M 0 (A + 1)) (hS : ∀ i, i < n5 → Skd i < 6 ∧ Sa i < 10 ∧ M 5 (2 * i) = nI (Skd i) ∧ M 5 (2 * i + 1) = nI (Sa i)) :
    ∃ F' r' c', (∀ h K, tA sc iX11_morningGoes 0 [vR (some m), vU, vU, vU, vU] [] (hM h m F e M u) K = K none (hM h m F' e (va_up M 0 r') u)) ∧ (∀ k, k ≠ 25 → k ≠ 26 → k ≠ 27 → k ≠ 28 → F' k = F k) ∧ RT (wdawn fw g t n5 c Skd Sa).2 (va_up M 0 r') ∧ RD np A c' (wdawn fw g t n5 c Skd Sa).2 (va_up M 0 r') ∧ (wdawn fw g t n5 c Skd Sa).1 14 = nI c' ∧ (wdawn fw g t n5 c Skd Sa).1 6 = nI (t + 1) ∧ r' A = nI (t + 1) ∧ (wdawn fw g t n5 c Skd Sa).1 7 = r' (A + 1) ∧ (wdawn fw g t n5 c Skd Sa).1 10 = fw 10 ∧ F' 28 = wowner (wdawn fw g t n5 c Skd Sa).1 (wdawn fw g t n5 c Skd Sa).2 (nI t) c' + 1 ∧ (∀ k, (k < A ∨ A + 168 ≤ k) → r' k = M 0 k) := by
  obtain ⟨⟨l2, l3, F1, r1⟩, ⟨D1, T1, f1, fr1⟩, E1⟩ := sX11_spkLoop (sc := sc) (m := m) (e := e) (u := u) hA h1 hF4 h5 hT hD ht hMt hS
  dsimp only at D1 T1 f1 fr1 E1
  have ew : wdawn fw g t n5 c Skd Sa = wd3 t (wd2 t (wspks t Skd Sa n5 0 (c, g)).1 (wd1 fw t (wspks t Skd Sa n5 0 (c, g)))) := by
    unfold wdawn
    rw [if_neg (by omega)]
  rw [ew]
  generalize wspks t Skd Sa n5 0 (c, g) = q at D1 T1 ⊢
  obtain ⟨cc, gg⟩ := q
  dsimp only at D1 T1 ⊢
  have hA1 : F1 1 = nI A := by rw [f1 1 (by decide) (by decide) (by decide)]; exact hA
  have h41 : F1 4 = nI n5 := by rw [f1 4 (by decide) (by decide) (by decide)]; exact hF4
  have hMt1 : va_up M 0 r1 0 A = nI t := by rw [uE, fr1 A (by omega)]; exact hMt
  have hz : mdz (va_up M 0 r1) A = wdz fw := by
    unfold mdz wdz
    rw [uE, fr1 (A + 1) (by omega), h7]
  have E2 := fun (h : TH) (K : Option TV → TH → Prop) => mg_B (sc := sc) (h := h) (m := m) (e := e) (u := u) (l2 := l2) (l3 := l3) hA1 h1 (RT_row (r := r1) T1) D1 ht hMt1 rfl h41 h5 K
  rw [hz, uU, uE] at E2
  generalize hw : wdrawn gg t (wdz fw) = w at E2
  have D2 : RD np A cc (va_up gg 3 (upd (gg 3) t w)) (va_up M 0 (upd (upd r1 (A + 1) (wdz fw)) (A + 23 + t) w)) := by
    have := RD_gen (G := va_up gg 3 (upd (gg 3) t w)) (r := upd (upd r1 (A + 1) (wdz fw)) (A + 23 + t) w) D1 (fun k _ h3 _ => uN h3) ?_ ?_ ?_ ?_ ?_
    · rw [uU] at this; exact this
    · intro d hd
      rw [uN (by decide), pN (by omega), pN (by omega)]
      exact D1.2.2.1 d hd
    · intro d hd
      rw [uE]
      by_cases q : d = t
      · subst q; rw [pE, pE]
      · rw [pN q, pN (by omega), pN (by omega)]
        exact D1.2.2.2.1 d hd
    · intro s hs
      rw [uN (by decide), pN (by omega), pN (by omega)]
      exact D1.2.2.2.2.1 s hs
    · rw [pN (by omega), pN (by omega), uE]
    · intro k k1 k2
      rw [pN (by omega), pN (by omega), uE]
  obtain ⟨⟨l4, F3, r3⟩, ⟨c1, c2, c3, c4, c5⟩, E3⟩ := mg_C (sc := sc) (m := m) (e := e) (u := u) (F := upd F1 28 0) (fw := upd (upd (upd fw 14 (nI cc)) 7 (wdz fw)) 6 (nI (t + 1))) (w := w) hA1 h1 (RT_row (r := upd (upd r1 (A + 1) (wdz fw)) (A + 23 + t) w) (show RT (va_up gg 3 (upd (gg 3) t w)) M from T1)) D2 ht (by rw [uE, pE]) rfl rfl
  dsimp only at c1 c2 c3 c4 c5 E3
  simp only [uE, uU] at E3
  have D3 : RD np A cc (va_up (va_up gg 3 (upd (gg 3) t w)) 9 (lfold (wsetF (upd (upd (upd fw 14 (nI cc)) 7 (wdz fw)) 6 (nI (t + 1))) (va_up gg 3 (upd (gg 3) t w)) t) cc 0 (va_up gg 3 (upd (gg 3) t w) 9))) (va_up M 0 r3) := by
    have := RD_gen (r := r3) D2 (G := va_up (va_up gg 3 (upd (gg 3) t w)) 9 (lfold (wsetF (upd (upd (upd fw 14 (nI cc)) 7 (wdz fw)) 6 (nI (t + 1))) (va_up gg 3 (upd (gg 3) t w)) t) cc 0 (va_up gg 3 (upd (gg 3) t w) 9))) (fun k _ _ h9 => uN h9) ?_ ?_ ?_ ?_ ?_
    · rw [uU] at this; exact this
    · intro d hd
      rw [uN (by decide), c2 _ (by omega)]
      exact D2.2.2.1 d hd
    · intro d hd
      rw [uN (by decide), c2 _ (by omega)]
      exact D2.2.2.2.1 d hd
    · intro s hs
      rw [uE]
      exact c1 s hs
    · exact c2 _ (by omega)
    · intro k k1 k2
      exact c2 _ (by omega)
  have T3 : RT (va_up (va_up gg 3 (upd (gg 3) t w)) 9 (lfold (wsetF (upd (upd (upd fw 14 (nI cc)) 7 (wdz fw)) 6 (nI (t + 1))) (va_up gg 3 (upd (gg 3) t w)) t) cc 0 (va_up gg 3 (upd (gg 3) t w) 9))) M := T1
  have ewd : wd2 t cc (wd1 fw t (cc, gg)) = (upd (upd (upd fw 14 (nI cc)) 7 (wdz fw)) 6 (nI (t + 1)), va_up (va_up gg 3 (upd (gg 3) t w)) 9 (lfold (wsetF (upd (upd (upd fw 14 (nI cc)) 7 (wdz fw)) 6 (nI (t + 1))) (va_up gg 3 (upd (gg 3) t w)) t) cc 0 (va_up gg 3 (upd (gg 3) t w) 9))) := by
    rw [← hw]; rfl
  rw [ewd]
  have g12 : ∀ k, k ≠ 3 → k ≠ 9 → va_up (va_up gg 3 (upd (gg 3) t w)) 9 (lfold (wsetF (upd (upd (upd fw 14 (nI cc)) 7 (wdz fw)) 6 (nI (t + 1))) (va_up gg 3 (upd (gg 3) t w)) t) cc 0 (va_up gg 3 (upd (gg 3) t w) 9)) k = gg k := fun k k3 k9 => by rw [uN k9, uN k3]
  have g3t : va_up (va_up gg 3 (upd (gg 3) t w)) 9 (lfold (wsetF (upd (upd (upd fw 14 (nI cc)) 7 (wdz fw)) 6 (nI (t + 1))) (va_up gg 3 (upd (gg 3) t w)) t) cc 0 (va_up gg 3 (upd (gg 3) t w) 9)) 3 t = w := by rw [uN (by decide), uE, pE]
  generalize va_up (va_up gg 3 (upd (gg 3) t w)) 9 (lfold (wsetF (upd (upd (upd fw 14 (nI cc)) 7 (wdz fw)) 6 (nI (t + 1))) (va_up gg 3 (upd (gg 3) t w)) t) cc 0 (va_up gg 3 (upd (gg 3) t w) 9)) = g3 at D3 T3 g12 g3t ⊢
  have hA3 : F3 1 = nI A := by rw [c3 1 (by decide)]; exact hA1
  have hMt3 : va_up M 0 r3 0 A = nI t := by
    rw [uE, c2 A (by omega), uE, pN (by omega), pN (by omega)]; rw [uE] at hMt1; exact hMt1
  have hr1 : r3 (A + 1) = wdz fw := by rw [c2 (A + 1) (by omega), uE, pN (by omega), pE]
  have hzz : mdz (va_up M 0 r3) A = wdz (upd (upd (upd fw 14 (nI cc)) 7 (wdz fw)) 6 (nI (t + 1))) := by
    unfold mdz
    rw [uE, hr1]
    rfl
  have E4 := fun (h : TH) (K : Option TV → TH → Prop) => mg_D (sc := sc) (h := h) (m := m) (e := e) (u := u) (w := w) (l4 := l4) (F := F3) hA3 h1 (RT_row (r := r3) T3) D3 ht hMt3 K
  have hfr : ∀ k, (k < A ∨ A + 168 ≤ k) → r3 k = M 0 k := by
    intro k hk
    rw [c2 k (by omega), uE, pN (by omega), pN (by omega)]
    exact fr1 k (by omega)
  have key : ∃ f4 g4, wd3 t (upd (upd (upd fw 14 (nI cc)) 7 (wdz fw)) 6 (nI (t + 1)), g3) = (f4, g4) ∧ RT g4 M ∧ RD np A cc g4 (va_up M 0 (mahead (va_up M 0 r3) g3 A t)) ∧ f4 14 = nI cc ∧ f4 6 = nI (t + 1) ∧ f4 7 = mahead (va_up M 0 r3) g3 A t (A + 1) ∧ f4 10 = fw 10 ∧ g4 3 = g3 3 ∧ g4 11 = g3 11 ∧ g4 12 = g3 12 ∧ g4 13 = g3 13 ∧ mahead (va_up M 0 r3) g3 A t A = nI (t + 1) ∧ (∀ k, (k < A ∨ A + 168 ≤ k) → mahead (va_up M 0 r3) g3 A t k = M 0 k) := by
    have Dn : RD np A cc g3 (va_up M 0 (upd r3 A (nI (t + 1)))) := by
      have := RD_gen (G := g3) (r := upd r3 A (nI (t + 1))) D3 (fun _ _ _ _ => rfl) (fun d hd => by rw [pN (by omega)]; exact D3.2.2.1 d hd) (fun d hd => by rw [pN (by omega)]; exact D3.2.2.2.1 d hd) (fun s hs => by rw [pN (by omega)]; exact D3.2.2.2.2.1 s hs) (by rw [pN (by omega), uE]) (fun k k1 k2 => by rw [pN (by omega), uE])
      rw [uU] at this
      exact this
    unfold wd3 mahead
    dsimp only
    rw [uE]
    by_cases q : t + 4 < 20
    · simp only [if_pos q]
      by_cases q2 : 0 ≤ g3 2 (t + 4)
      · simp only [if_pos q2]
        refine ⟨_, _, rfl, T3, Dn, rfl, rfl, ?_, rfl, rfl, rfl, rfl, rfl, pE _ _ _, ?_⟩
        · show wdz fw = upd r3 A (nI (t + 1)) (A + 1)
          rw [pN (by omega), hr1]
        · intro k hk
          rw [pN (by omega)]; exact hfr k hk
      · simp only [if_neg q2]
        rw [hzz]
        refine ⟨_, _, rfl, T3, ?_, rfl, rfl, ?_, rfl, rfl, rfl, rfl, rfl, ?_, ?_⟩
        · have := RD_gen (G := va_up g3 2 (upd (g3 2) (t + 4) (wdrawn g3 (t + 4) (wdz (upd (upd (upd fw 14 (nI cc)) 7 (wdz fw)) 6 (nI (t + 1))))))) (r := upd (upd (upd r3 A (nI (t + 1))) (A + 1) (wdz (upd (upd (upd fw 14 (nI cc)) 7 (wdz fw)) 6 (nI (t + 1))))) (A + 3 + (t + 4)) (wdrawn g3 (t + 4) (wdz (upd (upd (upd fw 14 (nI cc)) 7 (wdz fw)) 6 (nI (t + 1)))))) Dn (fun k h2 _ _ => uN h2) ?_ ?_ ?_ ?_ ?_
          · rw [uU] at this; exact this
          · intro d hd
            rw [uE]
            by_cases q3 : d = t + 4
            · subst q3
              rw [pE, show A + (3 + (t + 4)) = A + 3 + (t + 4) by omega, pE]
              exact ⟨rfl, Or.inr wdrawn_in⟩
            · rw [pN q3, pN (by omega), pN (by omega)]
              exact Dn.2.2.1 d hd
          · intro d hd
            rw [uN (by decide), pN (by omega), pN (by omega)]
            exact Dn.2.2.2.1 d hd
          · intro s hs
            rw [uN (by decide), pN (by omega), pN (by omega)]
            exact Dn.2.2.2.2.1 s hs
          · rw [pN (by omega), pN (by omega), uE]
          · intro k k1 k2
            rw [pN (by omega), pN (by omega), uE]
        · show wdz (upd (upd (upd fw 14 (nI cc)) 7 (wdz fw)) 6 (nI (t + 1))) = _
          rw [pN (by omega), pE]
        · rw [pN (by omega), pN (by omega), pE]
        · intro k hk
          rw [pN (by omega), pN (by omega), pN (by omega)]; exact hfr k hk
    · simp only [if_neg q]
      refine ⟨_, _, rfl, T3, Dn, rfl, rfl, ?_, rfl, rfl, rfl, rfl, rfl, pE _ _ _, ?_⟩
      · show wdz fw = upd r3 A (nI (t + 1)) (A + 1)
        rw [pN (by omega), hr1]
      · intro k hk
        rw [pN (by omega)]; exact hfr k hk
  obtain ⟨f4, g4, k1, k2, k3, k4, k5, k6, k7, k8, k9, k10, k11, k12, k13⟩ := key
  rw [k1]
  refine ⟨F3, mahead (va_up M 0 r3) g3 A t, cc, ?_, ?_, RT_row k2, k3, k4, k5, k12, k6, k7, ?_, k13⟩
  · intro h K
    have E1 := E1 (h, K)
    have E2 := E2 h K
    have E3 := E3 (h, K)
    have E4 := E4 h K
    dsimp only at E1 E3
    rw [uS] at E1
    rw [uU] at E4
    have st : tA sc iX11_morningGoes 0 [vR (some m), vU, vU, vU, vU] [] (hM h m F e M u) K = tA sc iX11_morningGoes 2 [vR (some m), vI (nI 0), vU, vU, vU] [] (hM h m F e M u) K := by
      rw [rX11_morningGoes_0, rX11_morningGoes_1]
      rfl
    exact st.trans (E1.trans (E2.trans (E3.trans E4)))
  · intro k q1 q2 q3 q4
    rw [c3 k q4, pN q4]
    exact f1 k q1 q2 q3
  · apply own_eq k5 ht (show g4 3 t = w by rw [k8]; exact g3t)
    · rw [k9, k10, k11, g12 11 (by decide) (by decide), g12 12 (by decide) (by decide), g12 13 (by decide) (by decide)]
      exact c4
    · rw [k10, k11, g12 12 (by decide) (by decide), g12 13 (by decide) (by decide)]
      exact c5
end S83
